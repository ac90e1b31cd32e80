/-! ===== the tables are right: each entry's word stands among the claim's words (written by wip/zx/gen_tables.py) ===== -/
def zt_good : List Cond := lw_tbl.filter goodWord
theorem zt_in {j k : Nat} {w : Cond} (h : (zt_ch j)[k]? = some w) (hg : goodWord w = true) : w ∈ zt_good := List.mem_filter.mpr ⟨zt_ch_in (List.mem_of_getElem? h), hg⟩
/-- words that a warm machine keeps, though they are no good words -/
def zx_nwk : Cond → Bool
  | .fieldLinkNest .. | .methodLinkNest .. | .declares _ | .castable .. => true
  | _ => false
def zt_nw : List Cond := lw_tbl.filter zx_nwk
theorem zt_inN {j k : Nat} {w : Cond} (h : (zt_ch j)[k]? = some w) (hg : zx_nwk w = true) : w ∈ zt_nw := List.mem_filter.mpr ⟨zt_ch_in (List.mem_of_getElem? h), hg⟩
/-- a class: its fields' words, types and names; that it can be made -/
def zt_cOK (ci : Nat) (r : vw_C) : Prop := (∀ k, k < r.2.2 → u_lay r.1 r.2.1 k ∈ zt_good) ∧ (∀ k, k < r.2.2 → parseFieldDescriptor (r.2.1 k).2.2.1 = some (((zt_fty.getD ci []).getD k .int))) ∧
  (∀ a, a < r.2.2 → ∀ b, b < r.2.2 → a ≠ b → (r.2.1 a).2.1 ≠ (r.2.1 b).2.1) ∧ (ci < zt_x0 → Cond.instantiable r.1 r.2.2 ∈ zt_good) ∧ Cond.initialized r.1 ∈ zt_good ∧ (∀ k, k < r.2.2 → (zt_own.getD ci []).getD k false = true → (r.2.1 k).1 = r.1)
set_option maxRecDepth 100000 in
theorem zt_c0 : zt_cOK 0 ("java/lang/String", zt_T_TJ0, 4) := ⟨fun k hk => match k, hk with
    | 0, _ => (zt_in (j := 10) (k := 49) rfl rfl)
    | 1, _ => (zt_in (j := 10) (k := 51) rfl rfl)
    | 2, _ => (zt_in (j := 10) (k := 53) rfl rfl)
    | 3, _ => (zt_in (j := 10) (k := 55) rfl rfl)
    | k + 4, hk => absurd hk (Nat.not_lt.mpr (Nat.le_add_left 4 k)),
  fun k hk => match k, hk with
    | 0, _ => by decide +kernel
    | 1, _ => by decide +kernel
    | 2, _ => by decide +kernel
    | 3, _ => by decide +kernel
    | k + 4, hk => absurd hk (Nat.not_lt.mpr (Nat.le_add_left 4 k)),
  by decide +kernel,
  fun _ => (zt_in (j := 9) (k := 238) rfl rfl), (zt_in (j := 1) (k := 34) rfl rfl),
  fun k hk => match k, hk with
    | 0, _ => fun _ => rfl
    | 1, _ => fun _ => rfl
    | 2, _ => fun _ => rfl
    | 3, _ => fun _ => rfl
    | k + 4, hk => absurd hk (Nat.not_lt.mpr (Nat.le_add_left 4 k))⟩
set_option maxRecDepth 100000 in
theorem zt_c1 : zt_cOK 1 ("java/lang/StringBuilder", zt_T_TJ4, 4) := ⟨fun k hk => match k, hk with
    | 0, _ => (zt_in (j := 9) (k := 111) rfl rfl)
    | 1, _ => (zt_in (j := 9) (k := 113) rfl rfl)
    | 2, _ => (zt_in (j := 9) (k := 115) rfl rfl)
    | 3, _ => (zt_in (j := 9) (k := 117) rfl rfl)
    | k + 4, hk => absurd hk (Nat.not_lt.mpr (Nat.le_add_left 4 k)),
  fun k hk => match k, hk with
    | 0, _ => by decide +kernel
    | 1, _ => by decide +kernel
    | 2, _ => by decide +kernel
    | 3, _ => by decide +kernel
    | k + 4, hk => absurd hk (Nat.not_lt.mpr (Nat.le_add_left 4 k)),
  by decide +kernel,
  fun _ => (zt_in (j := 9) (k := 91) rfl rfl), (zt_in (j := 1) (k := 40) rfl rfl),
  fun k hk => match k, hk with
    | 0, _ => fun h => absurd h (by decide)
    | 1, _ => fun h => absurd h (by decide)
    | 2, _ => fun h => absurd h (by decide)
    | 3, _ => fun h => absurd h (by decide)
    | k + 4, hk => absurd hk (Nat.not_lt.mpr (Nat.le_add_left 4 k))⟩
set_option maxRecDepth 100000 in
theorem zt_c2 : zt_cOK 2 ("java/lang/Integer", zt_T_TJ6, 1) := ⟨fun k hk => match k, hk with
    | 0, _ => (zt_in (j := 7) (k := 112) rfl rfl)
    | k + 1, hk => absurd hk (Nat.not_lt.mpr (Nat.le_add_left 1 k)),
  fun k hk => match k, hk with
    | 0, _ => by decide +kernel
    | k + 1, hk => absurd hk (Nat.not_lt.mpr (Nat.le_add_left 1 k)),
  by decide +kernel,
  fun _ => (zt_in (j := 7) (k := 103) rfl rfl), (zt_in (j := 1) (k := 27) rfl rfl),
  fun k hk => match k, hk with
    | 0, _ => fun _ => rfl
    | k + 1, hk => absurd hk (Nat.not_lt.mpr (Nat.le_add_left 1 k))⟩
set_option maxRecDepth 100000 in
theorem zt_c3 : zt_cOK 3 ("java/lang/Long", zt_T_TJ13, 1) := ⟨fun k hk => match k, hk with
    | 0, _ => (zt_in (j := 8) (k := 177) rfl rfl)
    | k + 1, hk => absurd hk (Nat.not_lt.mpr (Nat.le_add_left 1 k)),
  fun k hk => match k, hk with
    | 0, _ => by decide +kernel
    | k + 1, hk => absurd hk (Nat.not_lt.mpr (Nat.le_add_left 1 k)),
  by decide +kernel,
  fun _ => (zt_in (j := 8) (k := 171) rfl rfl), (zt_in (j := 1) (k := 30) rfl rfl),
  fun k hk => match k, hk with
    | 0, _ => fun _ => rfl
    | k + 1, hk => absurd hk (Nat.not_lt.mpr (Nat.le_add_left 1 k))⟩
set_option maxRecDepth 100000 in
theorem zt_c4 : zt_cOK 4 ("java/util/ArrayList", zt_T_TJx4a65c, 3) := ⟨fun k hk => match k, hk with
    | 0, _ => (zt_in (j := 6) (k := 132) rfl rfl)
    | 1, _ => (zt_in (j := 6) (k := 128) rfl rfl)
    | 2, _ => (zt_in (j := 6) (k := 130) rfl rfl)
    | k + 3, hk => absurd hk (Nat.not_lt.mpr (Nat.le_add_left 3 k)),
  fun k hk => match k, hk with
    | 0, _ => by decide +kernel
    | 1, _ => by decide +kernel
    | 2, _ => by decide +kernel
    | k + 3, hk => absurd hk (Nat.not_lt.mpr (Nat.le_add_left 3 k)),
  by decide +kernel,
  fun _ => (zt_in (j := 6) (k := 110) rfl rfl), (zt_in (j := 1) (k := 13) rfl rfl),
  fun k hk => match k, hk with
    | 0, _ => fun h => absurd h (by decide)
    | 1, _ => fun _ => rfl
    | 2, _ => fun _ => rfl
    | k + 3, hk => absurd hk (Nat.not_lt.mpr (Nat.le_add_left 3 k))⟩
set_option maxRecDepth 100000 in
theorem zt_c5 : zt_cOK 5 ("ColumnVault$Checks", zt_T_TX0, 3) := ⟨fun k hk => match k, hk with
    | 0, _ => (zt_in (j := 1) (k := 196) rfl rfl)
    | 1, _ => (zt_in (j := 1) (k := 198) rfl rfl)
    | 2, _ => (zt_in (j := 1) (k := 200) rfl rfl)
    | k + 3, hk => absurd hk (Nat.not_lt.mpr (Nat.le_add_left 3 k)),
  fun k hk => match k, hk with
    | 0, _ => by decide +kernel
    | 1, _ => by decide +kernel
    | 2, _ => by decide +kernel
    | k + 3, hk => absurd hk (Nat.not_lt.mpr (Nat.le_add_left 3 k)),
  by decide +kernel,
  fun _ => (zt_in (j := 1) (k := 184) rfl rfl), (zt_in (j := 1) (k := 8) rfl rfl),
  fun k hk => match k, hk with
    | 0, _ => fun _ => rfl
    | 1, _ => fun _ => rfl
    | 2, _ => fun _ => rfl
    | k + 3, hk => absurd hk (Nat.not_lt.mpr (Nat.le_add_left 3 k))⟩
set_option maxRecDepth 100000 in
theorem zt_c6 : zt_cOK 6 ("ColumnVault$FilterReader", zt_T_TX1, 7) := ⟨fun k hk => match k, hk with
    | 0, _ => (zt_in (j := 3) (k := 136) rfl rfl)
    | 1, _ => (zt_in (j := 3) (k := 138) rfl rfl)
    | 2, _ => (zt_in (j := 3) (k := 140) rfl rfl)
    | 3, _ => (zt_in (j := 3) (k := 142) rfl rfl)
    | 4, _ => (zt_in (j := 3) (k := 144) rfl rfl)
    | 5, _ => (zt_in (j := 3) (k := 146) rfl rfl)
    | 6, _ => (zt_in (j := 3) (k := 148) rfl rfl)
    | k + 7, hk => absurd hk (Nat.not_lt.mpr (Nat.le_add_left 7 k)),
  fun k hk => match k, hk with
    | 0, _ => by decide +kernel
    | 1, _ => by decide +kernel
    | 2, _ => by decide +kernel
    | 3, _ => by decide +kernel
    | 4, _ => by decide +kernel
    | 5, _ => by decide +kernel
    | 6, _ => by decide +kernel
    | k + 7, hk => absurd hk (Nat.not_lt.mpr (Nat.le_add_left 7 k)),
  by decide +kernel,
  fun _ => (zt_in (j := 3) (k := 122) rfl rfl), (zt_in (j := 1) (k := 31) rfl rfl),
  fun k hk => match k, hk with
    | 0, _ => fun _ => rfl
    | 1, _ => fun _ => rfl
    | 2, _ => fun _ => rfl
    | 3, _ => fun _ => rfl
    | 4, _ => fun _ => rfl
    | 5, _ => fun _ => rfl
    | 6, _ => fun _ => rfl
    | k + 7, hk => absurd hk (Nat.not_lt.mpr (Nat.le_add_left 7 k))⟩
set_option maxRecDepth 100000 in
theorem zt_c7 : zt_cOK 7 ("ColumnVault$FilterText", zt_T_TX2, 2) := ⟨fun k hk => match k, hk with
    | 0, _ => (zt_in (j := 1) (k := 114) rfl rfl)
    | 1, _ => (zt_in (j := 1) (k := 116) rfl rfl)
    | k + 2, hk => absurd hk (Nat.not_lt.mpr (Nat.le_add_left 2 k)),
  fun k hk => match k, hk with
    | 0, _ => by decide +kernel
    | 1, _ => by decide +kernel
    | k + 2, hk => absurd hk (Nat.not_lt.mpr (Nat.le_add_left 2 k)),
  by decide +kernel,
  fun _ => (zt_in (j := 1) (k := 105) rfl rfl), (zt_in (j := 1) (k := 4) rfl rfl),
  fun k hk => match k, hk with
    | 0, _ => fun _ => rfl
    | 1, _ => fun _ => rfl
    | k + 2, hk => absurd hk (Nat.not_lt.mpr (Nat.le_add_left 2 k))⟩
set_option maxRecDepth 100000 in
theorem zt_c8 : zt_cOK 8 ("ColumnVault$Groups", zt_T_TX3, 5) := ⟨fun k hk => match k, hk with
    | 0, _ => (zt_in (j := 1) (k := 172) rfl rfl)
    | 1, _ => (zt_in (j := 1) (k := 174) rfl rfl)
    | 2, _ => (zt_in (j := 1) (k := 176) rfl rfl)
    | 3, _ => (zt_in (j := 1) (k := 178) rfl rfl)
    | 4, _ => (zt_in (j := 1) (k := 180) rfl rfl)
    | k + 5, hk => absurd hk (Nat.not_lt.mpr (Nat.le_add_left 5 k)),
  fun k hk => match k, hk with
    | 0, _ => by decide +kernel
    | 1, _ => by decide +kernel
    | 2, _ => by decide +kernel
    | 3, _ => by decide +kernel
    | 4, _ => by decide +kernel
    | k + 5, hk => absurd hk (Nat.not_lt.mpr (Nat.le_add_left 5 k)),
  by decide +kernel,
  fun _ => (zt_in (j := 1) (k := 156) rfl rfl), (zt_in (j := 1) (k := 7) rfl rfl),
  fun k hk => match k, hk with
    | 0, _ => fun _ => rfl
    | 1, _ => fun _ => rfl
    | 2, _ => fun _ => rfl
    | 3, _ => fun _ => rfl
    | 4, _ => fun _ => rfl
    | k + 5, hk => absurd hk (Nat.not_lt.mpr (Nat.le_add_left 5 k))⟩
set_option maxRecDepth 100000 in
theorem zt_c9 : zt_cOK 9 ("ColumnVault$History", zt_T_TX4, 2) := ⟨fun k hk => match k, hk with
    | 0, _ => (zt_in (j := 1) (k := 99) rfl rfl)
    | 1, _ => (zt_in (j := 1) (k := 101) rfl rfl)
    | k + 2, hk => absurd hk (Nat.not_lt.mpr (Nat.le_add_left 2 k)),
  fun k hk => match k, hk with
    | 0, _ => by decide +kernel
    | 1, _ => by decide +kernel
    | k + 2, hk => absurd hk (Nat.not_lt.mpr (Nat.le_add_left 2 k)),
  by decide +kernel,
  fun _ => (zt_in (j := 1) (k := 51) rfl rfl), (zt_in (j := 1) (k := 2) rfl rfl),
  fun k hk => match k, hk with
    | 0, _ => fun _ => rfl
    | 1, _ => fun _ => rfl
    | k + 2, hk => absurd hk (Nat.not_lt.mpr (Nat.le_add_left 2 k))⟩
set_option maxRecDepth 100000 in
theorem zt_c10 : zt_cOK 10 ("ColumnVault$JoinWays", zt_T_TX5, 4) := ⟨fun k hk => match k, hk with
    | 0, _ => (zt_in (j := 5) (k := 23) rfl rfl)
    | 1, _ => (zt_in (j := 5) (k := 25) rfl rfl)
    | 2, _ => (zt_in (j := 5) (k := 27) rfl rfl)
    | 3, _ => (zt_in (j := 5) (k := 29) rfl rfl)
    | k + 4, hk => absurd hk (Nat.not_lt.mpr (Nat.le_add_left 4 k)),
  fun k hk => match k, hk with
    | 0, _ => by decide +kernel
    | 1, _ => by decide +kernel
    | 2, _ => by decide +kernel
    | 3, _ => by decide +kernel
    | k + 4, hk => absurd hk (Nat.not_lt.mpr (Nat.le_add_left 4 k)),
  by decide +kernel,
  fun _ => (zt_in (j := 5) (k := 14) rfl rfl), (zt_in (j := 1) (k := 38) rfl rfl),
  fun k hk => match k, hk with
    | 0, _ => fun _ => rfl
    | 1, _ => fun _ => rfl
    | 2, _ => fun _ => rfl
    | 3, _ => fun _ => rfl
    | k + 4, hk => absurd hk (Nat.not_lt.mpr (Nat.le_add_left 4 k))⟩
set_option maxRecDepth 100000 in
theorem zt_c11 : zt_cOK 11 ("ColumnVault$Node", zt_T_TX6, 7) := ⟨fun k hk => match k, hk with
    | 0, _ => (zt_in (j := 3) (k := 218) rfl rfl)
    | 1, _ => (zt_in (j := 3) (k := 220) rfl rfl)
    | 2, _ => (zt_in (j := 3) (k := 222) rfl rfl)
    | 3, _ => (zt_in (j := 3) (k := 224) rfl rfl)
    | 4, _ => (zt_in (j := 3) (k := 226) rfl rfl)
    | 5, _ => (zt_in (j := 3) (k := 228) rfl rfl)
    | 6, _ => (zt_in (j := 3) (k := 230) rfl rfl)
    | k + 7, hk => absurd hk (Nat.not_lt.mpr (Nat.le_add_left 7 k)),
  fun k hk => match k, hk with
    | 0, _ => by decide +kernel
    | 1, _ => by decide +kernel
    | 2, _ => by decide +kernel
    | 3, _ => by decide +kernel
    | 4, _ => by decide +kernel
    | 5, _ => by decide +kernel
    | 6, _ => by decide +kernel
    | k + 7, hk => absurd hk (Nat.not_lt.mpr (Nat.le_add_left 7 k)),
  by decide +kernel,
  fun _ => (zt_in (j := 3) (k := 200) rfl rfl), (zt_in (j := 1) (k := 32) rfl rfl),
  fun k hk => match k, hk with
    | 0, _ => fun _ => rfl
    | 1, _ => fun _ => rfl
    | 2, _ => fun _ => rfl
    | 3, _ => fun _ => rfl
    | 4, _ => fun _ => rfl
    | 5, _ => fun _ => rfl
    | 6, _ => fun _ => rfl
    | k + 7, hk => absurd hk (Nat.not_lt.mpr (Nat.le_add_left 7 k))⟩
set_option maxRecDepth 100000 in
theorem zt_c12 : zt_cOK 12 ("ColumnVault$Pairs", zt_T_TX7, 3) := ⟨fun k hk => match k, hk with
    | 0, _ => (zt_in (j := 1) (k := 148) rfl rfl)
    | 1, _ => (zt_in (j := 1) (k := 150) rfl rfl)
    | 2, _ => (zt_in (j := 1) (k := 152) rfl rfl)
    | k + 3, hk => absurd hk (Nat.not_lt.mpr (Nat.le_add_left 3 k)),
  fun k hk => match k, hk with
    | 0, _ => by decide +kernel
    | 1, _ => by decide +kernel
    | 2, _ => by decide +kernel
    | k + 3, hk => absurd hk (Nat.not_lt.mpr (Nat.le_add_left 3 k)),
  by decide +kernel,
  fun _ => (zt_in (j := 1) (k := 139) rfl rfl), (zt_in (j := 1) (k := 6) rfl rfl),
  fun k hk => match k, hk with
    | 0, _ => fun _ => rfl
    | 1, _ => fun _ => rfl
    | 2, _ => fun _ => rfl
    | k + 3, hk => absurd hk (Nat.not_lt.mpr (Nat.le_add_left 3 k))⟩
set_option maxRecDepth 100000 in
theorem zt_c13 : zt_cOK 13 ("ColumnVault$Sheet", zt_T_TX8, 6) := ⟨fun k hk => match k, hk with
    | 0, _ => (zt_in (j := 1) (k := 81) rfl rfl)
    | 1, _ => (zt_in (j := 1) (k := 83) rfl rfl)
    | 2, _ => (zt_in (j := 1) (k := 85) rfl rfl)
    | 3, _ => (zt_in (j := 1) (k := 87) rfl rfl)
    | 4, _ => (zt_in (j := 1) (k := 89) rfl rfl)
    | 5, _ => (zt_in (j := 1) (k := 91) rfl rfl)
    | k + 6, hk => absurd hk (Nat.not_lt.mpr (Nat.le_add_left 6 k)),
  fun k hk => match k, hk with
    | 0, _ => by decide +kernel
    | 1, _ => by decide +kernel
    | 2, _ => by decide +kernel
    | 3, _ => by decide +kernel
    | 4, _ => by decide +kernel
    | 5, _ => by decide +kernel
    | k + 6, hk => absurd hk (Nat.not_lt.mpr (Nat.le_add_left 6 k)),
  by decide +kernel,
  fun _ => (zt_in (j := 1) (k := 58) rfl rfl), (zt_in (j := 1) (k := 3) rfl rfl),
  fun k hk => match k, hk with
    | 0, _ => fun _ => rfl
    | 1, _ => fun _ => rfl
    | 2, _ => fun _ => rfl
    | 3, _ => fun _ => rfl
    | 4, _ => fun _ => rfl
    | 5, _ => fun _ => rfl
    | k + 6, hk => absurd hk (Nat.not_lt.mpr (Nat.le_add_left 6 k))⟩
set_option maxRecDepth 100000 in
theorem zt_c14 : zt_cOK 14 ("ColumnVault$Tokens", zt_T_TX9, 4) := ⟨fun k hk => match k, hk with
    | 0, _ => (zt_in (j := 1) (k := 129) rfl rfl)
    | 1, _ => (zt_in (j := 1) (k := 131) rfl rfl)
    | 2, _ => (zt_in (j := 1) (k := 133) rfl rfl)
    | 3, _ => (zt_in (j := 1) (k := 135) rfl rfl)
    | k + 4, hk => absurd hk (Nat.not_lt.mpr (Nat.le_add_left 4 k)),
  fun k hk => match k, hk with
    | 0, _ => by decide +kernel
    | 1, _ => by decide +kernel
    | 2, _ => by decide +kernel
    | 3, _ => by decide +kernel
    | k + 4, hk => absurd hk (Nat.not_lt.mpr (Nat.le_add_left 4 k)),
  by decide +kernel,
  fun _ => (zt_in (j := 1) (k := 120) rfl rfl), (zt_in (j := 1) (k := 5) rfl rfl),
  fun k hk => match k, hk with
    | 0, _ => fun _ => rfl
    | 1, _ => fun _ => rfl
    | 2, _ => fun _ => rfl
    | 3, _ => fun _ => rfl
    | k + 4, hk => absurd hk (Nat.not_lt.mpr (Nat.le_add_left 4 k))⟩
set_option maxRecDepth 100000 in
theorem zt_c15 : zt_cOK 15 ("ColumnVault", zt_T_TX10, 6) := ⟨fun k hk => match k, hk with
    | 0, _ => (zt_in (j := 1) (k := 209) rfl rfl)
    | 1, _ => (zt_in (j := 1) (k := 211) rfl rfl)
    | 2, _ => (zt_in (j := 1) (k := 213) rfl rfl)
    | 3, _ => (zt_in (j := 1) (k := 215) rfl rfl)
    | 4, _ => (zt_in (j := 1) (k := 217) rfl rfl)
    | 5, _ => (zt_in (j := 1) (k := 219) rfl rfl)
    | k + 6, hk => absurd hk (Nat.not_lt.mpr (Nat.le_add_left 6 k)),
  fun k hk => match k, hk with
    | 0, _ => by decide +kernel
    | 1, _ => by decide +kernel
    | 2, _ => by decide +kernel
    | 3, _ => by decide +kernel
    | 4, _ => by decide +kernel
    | 5, _ => by decide +kernel
    | k + 6, hk => absurd hk (Nat.not_lt.mpr (Nat.le_add_left 6 k)),
  by decide +kernel,
  fun _ => (zt_in (j := 1) (k := 43) rfl rfl), (zt_in (j := 1) (k := 1) rfl rfl),
  fun k hk => match k, hk with
    | 0, _ => fun _ => rfl
    | 1, _ => fun _ => rfl
    | 2, _ => fun _ => rfl
    | 3, _ => fun _ => rfl
    | 4, _ => fun _ => rfl
    | 5, _ => fun _ => rfl
    | k + 6, hk => absurd hk (Nat.not_lt.mpr (Nat.le_add_left 6 k))⟩
set_option maxRecDepth 100000 in
theorem zt_c16 : zt_cOK 16 ("ColumnVaultModel$Node", zt_T_TX11, 4) := ⟨fun k hk => match k, hk with
    | 0, _ => (zt_in (j := 8) (k := 94) rfl rfl)
    | 1, _ => (zt_in (j := 8) (k := 96) rfl rfl)
    | 2, _ => (zt_in (j := 8) (k := 98) rfl rfl)
    | 3, _ => (zt_in (j := 8) (k := 100) rfl rfl)
    | k + 4, hk => absurd hk (Nat.not_lt.mpr (Nat.le_add_left 4 k)),
  fun k hk => match k, hk with
    | 0, _ => by decide +kernel
    | 1, _ => by decide +kernel
    | 2, _ => by decide +kernel
    | 3, _ => by decide +kernel
    | k + 4, hk => absurd hk (Nat.not_lt.mpr (Nat.le_add_left 4 k)),
  by decide +kernel,
  fun _ => (zt_in (j := 8) (k := 79) rfl rfl), (zt_in (j := 1) (k := 33) rfl rfl),
  fun k hk => match k, hk with
    | 0, _ => fun _ => rfl
    | 1, _ => fun _ => rfl
    | 2, _ => fun _ => rfl
    | 3, _ => fun _ => rfl
    | k + 4, hk => absurd hk (Nat.not_lt.mpr (Nat.le_add_left 4 k))⟩
set_option maxRecDepth 100000 in
theorem zt_c17 : zt_cOK 17 ("ColumnVaultModel$Table", zt_T_TX12, 4) := ⟨fun k hk => match k, hk with
    | 0, _ => (zt_in (j := 6) (k := 143) rfl rfl)
    | 1, _ => (zt_in (j := 6) (k := 145) rfl rfl)
    | 2, _ => (zt_in (j := 6) (k := 147) rfl rfl)
    | 3, _ => (zt_in (j := 6) (k := 149) rfl rfl)
    | k + 4, hk => absurd hk (Nat.not_lt.mpr (Nat.le_add_left 4 k)),
  fun k hk => match k, hk with
    | 0, _ => by decide +kernel
    | 1, _ => by decide +kernel
    | 2, _ => by decide +kernel
    | 3, _ => by decide +kernel
    | k + 4, hk => absurd hk (Nat.not_lt.mpr (Nat.le_add_left 4 k)),
  by decide +kernel,
  fun _ => (zt_in (j := 6) (k := 104) rfl rfl), (zt_in (j := 1) (k := 10) rfl rfl),
  fun k hk => match k, hk with
    | 0, _ => fun _ => rfl
    | 1, _ => fun _ => rfl
    | 2, _ => fun _ => rfl
    | 3, _ => fun _ => rfl
    | k + 4, hk => absurd hk (Nat.not_lt.mpr (Nat.le_add_left 4 k))⟩
set_option maxRecDepth 100000 in
theorem zt_c18 : zt_cOK 18 ("ColumnVaultModel", zt_T_TX13, 16) := ⟨fun k hk => match k, hk with
    | 0, _ => (zt_in (j := 7) (k := 43) rfl rfl)
    | 1, _ => (zt_in (j := 7) (k := 45) rfl rfl)
    | 2, _ => (zt_in (j := 7) (k := 47) rfl rfl)
    | 3, _ => (zt_in (j := 7) (k := 49) rfl rfl)
    | 4, _ => (zt_in (j := 7) (k := 51) rfl rfl)
    | 5, _ => (zt_in (j := 7) (k := 53) rfl rfl)
    | 6, _ => (zt_in (j := 7) (k := 55) rfl rfl)
    | 7, _ => (zt_in (j := 7) (k := 57) rfl rfl)
    | 8, _ => (zt_in (j := 7) (k := 59) rfl rfl)
    | 9, _ => (zt_in (j := 7) (k := 61) rfl rfl)
    | 10, _ => (zt_in (j := 7) (k := 63) rfl rfl)
    | 11, _ => (zt_in (j := 7) (k := 65) rfl rfl)
    | 12, _ => (zt_in (j := 7) (k := 67) rfl rfl)
    | 13, _ => (zt_in (j := 7) (k := 69) rfl rfl)
    | 14, _ => (zt_in (j := 7) (k := 71) rfl rfl)
    | 15, _ => (zt_in (j := 7) (k := 73) rfl rfl)
    | k + 16, hk => absurd hk (Nat.not_lt.mpr (Nat.le_add_left 16 k)),
  fun k hk => match k, hk with
    | 0, _ => by decide +kernel
    | 1, _ => by decide +kernel
    | 2, _ => by decide +kernel
    | 3, _ => by decide +kernel
    | 4, _ => by decide +kernel
    | 5, _ => by decide +kernel
    | 6, _ => by decide +kernel
    | 7, _ => by decide +kernel
    | 8, _ => by decide +kernel
    | 9, _ => by decide +kernel
    | 10, _ => by decide +kernel
    | 11, _ => by decide +kernel
    | 12, _ => by decide +kernel
    | 13, _ => by decide +kernel
    | 14, _ => by decide +kernel
    | 15, _ => by decide +kernel
    | k + 16, hk => absurd hk (Nat.not_lt.mpr (Nat.le_add_left 16 k)),
  by decide +kernel,
  fun _ => (zt_in (j := 6) (k := 97) rfl rfl), (zt_in (j := 1) (k := 9) rfl rfl),
  fun k hk => match k, hk with
    | 0, _ => fun _ => rfl
    | 1, _ => fun _ => rfl
    | 2, _ => fun _ => rfl
    | 3, _ => fun _ => rfl
    | 4, _ => fun _ => rfl
    | 5, _ => fun _ => rfl
    | 6, _ => fun _ => rfl
    | 7, _ => fun _ => rfl
    | 8, _ => fun _ => rfl
    | 9, _ => fun _ => rfl
    | 10, _ => fun _ => rfl
    | 11, _ => fun _ => rfl
    | 12, _ => fun _ => rfl
    | 13, _ => fun _ => rfl
    | 14, _ => fun _ => rfl
    | 15, _ => fun _ => rfl
    | k + 16, hk => absurd hk (Nat.not_lt.mpr (Nat.le_add_left 16 k))⟩
set_option maxRecDepth 100000 in
theorem zt_c19 : zt_cOK 19 ("java/lang/IndexOutOfBoundsException", fun _ => ("", "", "", false), 0) := ⟨fun k hk => absurd hk (Nat.not_lt_zero k), fun k hk => absurd hk (Nat.not_lt_zero k), fun k hk => absurd hk (Nat.not_lt_zero k), fun h => absurd h (by decide), (zt_in (j := 1) (k := 23) rfl rfl), fun k hk => absurd hk (Nat.not_lt_zero k)⟩
set_option maxRecDepth 100000 in
theorem zt_c20 : zt_cOK 20 ("java/lang/IllegalArgumentException", fun _ => ("", "", "", false), 0) := ⟨fun k hk => absurd hk (Nat.not_lt_zero k), fun k hk => absurd hk (Nat.not_lt_zero k), fun k hk => absurd hk (Nat.not_lt_zero k), fun h => absurd h (by decide), (zt_in (j := 1) (k := 24) rfl rfl), fun k hk => absurd hk (Nat.not_lt_zero k)⟩
set_option maxRecDepth 100000 in
theorem zt_c21 : zt_cOK 21 ("java/lang/IllegalStateException", fun _ => ("", "", "", false), 0) := ⟨fun k hk => absurd hk (Nat.not_lt_zero k), fun k hk => absurd hk (Nat.not_lt_zero k), fun k hk => absurd hk (Nat.not_lt_zero k), fun h => absurd h (by decide), (zt_in (j := 1) (k := 25) rfl rfl), fun k hk => absurd hk (Nat.not_lt_zero k)⟩
set_option maxRecDepth 100000 in
theorem zt_c22 : zt_cOK 22 ("java/util/NoSuchElementException", fun _ => ("", "", "", false), 0) := ⟨fun k hk => absurd hk (Nat.not_lt_zero k), fun k hk => absurd hk (Nat.not_lt_zero k), fun k hk => absurd hk (Nat.not_lt_zero k), fun h => absurd h (by decide), (zt_in (j := 1) (k := 41) rfl rfl), fun k hk => absurd hk (Nat.not_lt_zero k)⟩
theorem zt_cl_ok {ci : Nat} {r : vw_C} (h : zt_cl[ci]? = some r) : zt_cOK ci r := by
  match ci, h with
  | 0, h => cases h; exact zt_c0
  | 1, h => cases h; exact zt_c1
  | 2, h => cases h; exact zt_c2
  | 3, h => cases h; exact zt_c3
  | 4, h => cases h; exact zt_c4
  | 5, h => cases h; exact zt_c5
  | 6, h => cases h; exact zt_c6
  | 7, h => cases h; exact zt_c7
  | 8, h => cases h; exact zt_c8
  | 9, h => cases h; exact zt_c9
  | 10, h => cases h; exact zt_c10
  | 11, h => cases h; exact zt_c11
  | 12, h => cases h; exact zt_c12
  | 13, h => cases h; exact zt_c13
  | 14, h => cases h; exact zt_c14
  | 15, h => cases h; exact zt_c15
  | 16, h => cases h; exact zt_c16
  | 17, h => cases h; exact zt_c17
  | 18, h => cases h; exact zt_c18
  | 19, h => cases h; exact zt_c19
  | 20, h => cases h; exact zt_c20
  | 21, h => cases h; exact zt_c21
  | 22, h => cases h; exact zt_c22
  | k + 23, h => exact absurd h (by simp [zt_cl])
set_option maxRecDepth 100000 in
theorem zt_obj : Cond.instanceMethod objectInit ∈ zt_good ∧ Cond.code objectInit ⟨#[0xb1]⟩ 1 none ∈ zt_good := ⟨(zt_in (j := 1) (k := 48) rfl rfl), (zt_in (j := 1) (k := 49) rfl rfl)⟩
set_option maxRecDepth 100000 in
theorem zt_on_ok : ∀ c ∈ zt_on, (c ≠ "java/lang/invoke/MethodHandle" ∧ c ≠ "java/lang/invoke/VarHandle") ∧ (plainName c = true ∨ c ∈ ["java/lang/Math", "java/lang/Object"]) := by decide +kernel
theorem zt_xsz {ci : Nat} {r : vw_C} (h : zt_cl[ci]? = some r) (hc : zt_x0 ≤ ci) : r.2.2 = 0 ∧ zt_sz.getD ci 0 = 6 := by
  match ci, h with
  | 0, h => exact absurd hc (by decide)
  | 1, h => exact absurd hc (by decide)
  | 2, h => exact absurd hc (by decide)
  | 3, h => exact absurd hc (by decide)
  | 4, h => exact absurd hc (by decide)
  | 5, h => exact absurd hc (by decide)
  | 6, h => exact absurd hc (by decide)
  | 7, h => exact absurd hc (by decide)
  | 8, h => exact absurd hc (by decide)
  | 9, h => exact absurd hc (by decide)
  | 10, h => exact absurd hc (by decide)
  | 11, h => exact absurd hc (by decide)
  | 12, h => exact absurd hc (by decide)
  | 13, h => exact absurd hc (by decide)
  | 14, h => exact absurd hc (by decide)
  | 15, h => exact absurd hc (by decide)
  | 16, h => exact absurd hc (by decide)
  | 17, h => exact absurd hc (by decide)
  | 18, h => exact absurd hc (by decide)
  | 19, h => cases h; exact ⟨rfl, rfl⟩
  | 20, h => cases h; exact ⟨rfl, rfl⟩
  | 21, h => cases h; exact ⟨rfl, rfl⟩
  | 22, h => cases h; exact ⟨rfl, rfl⟩
  | k + 23, h => exact absurd h (by simp [zt_cl])
theorem zt_cast : ∀ (ci : Nat) (r : vw_C), zt_x0 ≤ ci → zt_cl[ci]? = some r → Cond.castable r.1 r.1 ∈ zt_nw := by
  intro ci r hc h
  match ci, h with
  | 0, h => exact absurd hc (by decide)
  | 1, h => exact absurd hc (by decide)
  | 2, h => exact absurd hc (by decide)
  | 3, h => exact absurd hc (by decide)
  | 4, h => exact absurd hc (by decide)
  | 5, h => exact absurd hc (by decide)
  | 6, h => exact absurd hc (by decide)
  | 7, h => exact absurd hc (by decide)
  | 8, h => exact absurd hc (by decide)
  | 9, h => exact absurd hc (by decide)
  | 10, h => exact absurd hc (by decide)
  | 11, h => exact absurd hc (by decide)
  | 12, h => exact absurd hc (by decide)
  | 13, h => exact absurd hc (by decide)
  | 14, h => exact absurd hc (by decide)
  | 15, h => exact absurd hc (by decide)
  | 16, h => exact absurd hc (by decide)
  | 17, h => exact absurd hc (by decide)
  | 18, h => exact absurd hc (by decide)
  | 19, h => cases h; exact (zt_inN (j := 2) (k := 10) rfl rfl)
  | 20, h => cases h; exact (zt_inN (j := 2) (k := 79) rfl rfl)
  | 21, h => cases h; exact (zt_inN (j := 2) (k := 95) rfl rfl)
  | 22, h => cases h; exact (zt_inN (j := 5) (k := 157) rfl rfl)
  | k + 23, h => exact absurd h (by simp [zt_cl])
theorem zt_cobj : ∀ (ci : Nat) (r : vw_C), ci < zt_x0 → zt_cl[ci]? = some r → Cond.castable r.1 "java/lang/Object" ∈ zt_nw := by
  intro ci r hc h
  match ci, h with
  | 0, h => cases h; exact (zt_inN (j := 10) (k := 193) rfl rfl)
  | 1, h => cases h; exact (zt_inN (j := 10) (k := 192) rfl rfl)
  | 2, h => cases h; exact (zt_inN (j := 10) (k := 173) rfl rfl)
  | 3, h => cases h; exact (zt_inN (j := 10) (k := 174) rfl rfl)
  | 4, h => cases h; exact (zt_inN (j := 10) (k := 183) rfl rfl)
  | 5, h => cases h; exact (zt_inN (j := 10) (k := 181) rfl rfl)
  | 6, h => cases h; exact (zt_inN (j := 10) (k := 188) rfl rfl)
  | 7, h => cases h; exact (zt_inN (j := 10) (k := 177) rfl rfl)
  | 8, h => cases h; exact (zt_inN (j := 10) (k := 180) rfl rfl)
  | 9, h => cases h; exact (zt_inN (j := 10) (k := 176) rfl rfl)
  | 10, h => cases h; exact (zt_inN (j := 10) (k := 191) rfl rfl)
  | 11, h => cases h; exact (zt_inN (j := 10) (k := 189) rfl rfl)
  | 12, h => cases h; exact (zt_inN (j := 10) (k := 179) rfl rfl)
  | 13, h => cases h; exact (zt_inN (j := 10) (k := 171) rfl rfl)
  | 14, h => cases h; exact (zt_inN (j := 10) (k := 178) rfl rfl)
  | 15, h => cases h; exact (zt_inN (j := 10) (k := 175) rfl rfl)
  | 16, h => cases h; exact (zt_inN (j := 10) (k := 190) rfl rfl)
  | 17, h => cases h; exact (zt_inN (j := 10) (k := 172) rfl rfl)
  | 18, h => cases h; exact (zt_inN (j := 10) (k := 182) rfl rfl)
  | 19, h => exact absurd hc (by decide)
  | 20, h => exact absurd hc (by decide)
  | 21, h => exact absurd hc (by decide)
  | 22, h => exact absurd hc (by decide)
  | k + 23, h => exact absurd h (by simp [zt_cl])
theorem zt_aobj : ∀ (t : Nat) (ty : FieldType), zt_at[t]? = some ty → ∃ nm, nm = "[" ++ ty.toString ∧ Cond.castable nm "java/lang/Object" ∈ zt_nw := by
  intro t ty h
  match t, h with
  | 0, h => cases h; exact ⟨"[LColumnVault$Sheet;", by decide +kernel, (zt_inN (j := 10) (k := 199) rfl rfl)⟩
  | 1, h => cases h; exact ⟨"[I", by decide +kernel, (zt_inN (j := 10) (k := 200) rfl rfl)⟩
  | 2, h => cases h; exact ⟨"[J", by decide +kernel, (zt_inN (j := 10) (k := 201) rfl rfl)⟩
  | 3, h => cases h; exact ⟨"[B", by decide +kernel, (zt_inN (j := 10) (k := 202) rfl rfl)⟩
  | 4, h => cases h; exact ⟨"[LColumnVaultModel$Table;", by decide +kernel, (zt_inN (j := 10) (k := 203) rfl rfl)⟩
  | 5, h => cases h; exact ⟨"[Ljava/lang/Object;", by decide +kernel, (zt_inN (j := 10) (k := 204) rfl rfl)⟩
  | 6, h => cases h; exact ⟨"[Z", by decide +kernel, (zt_inN (j := 10) (k := 205) rfl rfl)⟩
  | 7, h => cases h; exact ⟨"[D", by decide +kernel, (zt_inN (j := 10) (k := 206) rfl rfl)⟩
  | k + 8, h => exact absurd h (by simp [zt_at])
theorem zt_xobj : ∀ (C : String), C ∈ (["java/lang/Boolean", "java/lang/Integer", "java/lang/Long", "java/lang/String"] : List String) → Cond.castable C "java/lang/Object" ∈ zt_nw := by
  intro C h
  simp only [List.mem_cons, List.not_mem_nil, or_false] at h
  rcases h with rfl | rfl | rfl | rfl
  · exact (zt_inN (j := 10) (k := 187) rfl rfl)
  · exact (zt_inN (j := 10) (k := 173) rfl rfl)
  · exact (zt_inN (j := 10) (k := 174) rfl rfl)
  · exact (zt_inN (j := 10) (k := 193) rfl rfl)
theorem zt_ext_obj : ∀ (j : Nat) (C : String) (o : Nat × List Value), zt_ext j = some (.object C, .inr o) → C ∈ (["java/lang/Boolean", "java/lang/Integer", "java/lang/Long", "java/lang/String"] : List String) := by
  intro j C o h
  unfold zt_ext at h
  by_cases hh : j = 0
  · rw [if_pos hh] at h; cases h
  rw [if_neg hh] at h
  clear hh
  by_cases hh : j = 1 ∨ j = 2
  · rw [if_pos hh] at h; cases h; simp
  rw [if_neg hh] at h
  clear hh
  by_cases hh : j = 3
  · rw [if_pos hh] at h; cases h
  rw [if_neg hh] at h
  clear hh
  by_cases hh : j = 4
  · rw [if_pos hh] at h; cases h
  rw [if_neg hh] at h
  clear hh
  by_cases hh : 10 ≤ j ∧ j < 266
  · rw [if_pos hh] at h; cases h; simp
  rw [if_neg hh] at h
  clear hh
  by_cases hh : 300 ≤ j ∧ j < 556
  · rw [if_pos hh] at h; cases h; simp
  rw [if_neg hh] at h
  clear hh
  by_cases hh : j = 600
  · rw [if_pos hh] at h; cases h; simp
  rw [if_neg hh] at h
  clear hh
  by_cases hh : j = 601
  · rw [if_pos hh] at h; cases h
  rw [if_neg hh] at h
  clear hh
  by_cases hh : j = 602
  · rw [if_pos hh] at h; cases h; simp
  rw [if_neg hh] at h
  clear hh
  by_cases hh : j = 603
  · rw [if_pos hh] at h; cases h
  rw [if_neg hh] at h
  clear hh
  by_cases hh : j = 604
  · rw [if_pos hh] at h; cases h; simp
  rw [if_neg hh] at h
  clear hh
  by_cases hh : j = 605
  · rw [if_pos hh] at h; cases h
  rw [if_neg hh] at h
  clear hh
  by_cases hh : j = 606
  · rw [if_pos hh] at h; cases h; simp
  rw [if_neg hh] at h
  clear hh
  by_cases hh : j = 607
  · rw [if_pos hh] at h; cases h
  rw [if_neg hh] at h
  clear hh
  by_cases hh : j = 608
  · rw [if_pos hh] at h; cases h; simp
  rw [if_neg hh] at h
  clear hh
  by_cases hh : j = 609
  · rw [if_pos hh] at h; cases h
  rw [if_neg hh] at h
  clear hh
  by_cases hh : j = 610
  · rw [if_pos hh] at h; cases h; simp
  rw [if_neg hh] at h
  clear hh
  by_cases hh : j = 611
  · rw [if_pos hh] at h; cases h
  rw [if_neg hh] at h
  clear hh
  by_cases hh : j = 612
  · rw [if_pos hh] at h; cases h; simp
  rw [if_neg hh] at h
  clear hh
  by_cases hh : j = 613
  · rw [if_pos hh] at h; cases h
  rw [if_neg hh] at h
  clear hh
  by_cases hh : j = 614
  · rw [if_pos hh] at h; cases h; simp
  rw [if_neg hh] at h
  clear hh
  by_cases hh : j = 615
  · rw [if_pos hh] at h; cases h
  rw [if_neg hh] at h
  clear hh
  by_cases hh : j = 616
  · rw [if_pos hh] at h; cases h; simp
  rw [if_neg hh] at h
  clear hh
  by_cases hh : j = 617
  · rw [if_pos hh] at h; cases h
  rw [if_neg hh] at h
  clear hh
  cases h
theorem zt_bool1 (h : (zt_ext 1).isSome = true) : zt_ext 1 = some (.object "java/lang/Boolean", .inr (999, [])) := by
  rfl
theorem zt_bool2 (h : (zt_ext 2).isSome = true) : zt_ext 2 = some (.object "java/lang/Boolean", .inr (999, [])) := by
  rfl
theorem zt_objT_ok (h : zt_objT ≠ 999) : zt_at[zt_objT]? = some (.object "java/lang/Object") := by
  rfl
theorem zt_pln_ok {oc : Nat} {own : String} (ho : zt_on[oc]? = some own) (h : zt_pln[oc]? = some true) : plainName own = true := by
  match oc, ho, h with
  | 0, ho, h => cases ho; decide +kernel
  | 1, ho, h => cases ho; decide +kernel
  | 2, ho, h => cases ho; decide +kernel
  | 3, ho, h => cases ho; decide +kernel
  | 4, ho, h => cases ho; decide +kernel
  | 5, ho, h => cases ho; decide +kernel
  | 6, ho, h => cases ho; decide +kernel
  | 7, ho, h => cases ho; decide +kernel
  | 8, ho, h => cases ho; decide +kernel
  | 9, ho, h => cases ho; decide +kernel
  | 10, ho, h => cases ho; decide +kernel
  | 11, ho, h => cases ho; decide +kernel
  | 12, ho, h => cases ho; decide +kernel
  | 13, ho, h => cases ho; decide +kernel
  | 14, ho, h => cases ho; decide +kernel
  | 15, ho, h => cases ho; decide +kernel
  | 16, ho, h => cases ho; decide +kernel
  | 17, ho, h => cases ho; decide +kernel
  | 18, ho, h => cases ho; decide +kernel
  | 19, ho, h => cases ho; decide +kernel
  | 20, ho, h => cases ho; decide +kernel
  | 21, ho, h => cases ho; decide +kernel
  | 22, ho, h => cases ho; decide +kernel
  | 23, ho, h => cases ho; decide +kernel
  | 24, ho, h => cases h
  | 25, ho, h => cases ho; decide +kernel
  | 26, ho, h => cases ho; decide +kernel
  | 27, ho, h => cases ho; decide +kernel
  | 28, ho, h => cases ho; decide +kernel
  | 29, ho, h => cases ho; decide +kernel
  | 30, ho, h => cases ho; decide +kernel
  | 31, ho, h => cases ho; decide +kernel
  | 32, ho, h => cases ho; decide +kernel
  | 33, ho, h => cases ho; decide +kernel
  | 34, ho, h => cases ho; decide +kernel
  | 35, ho, h => cases ho; decide +kernel
  | k + 36, ho, h => exact absurd ho (by simp [zt_on])
/-- a method: its code's word, its class's, static or not -/
def zt_mOK (q : zx_M) : Prop := match q with
  | (y, cc, nL, ret, hh, oc, np, _, hs, hsel, _) => (if hh = [] then Cond.code y cc nL ret else Cond.codeWith y cc nL ret hh) ∈ zt_good ∧ zt_on[oc]? = some y.cls ∧ Cond.initialized y.cls ∈ zt_good ∧
    (if hs = 1 then Cond.static y else Cond.instanceMethod y) ∈ zt_good ∧ (hsel = 99999 ∨ Cond.selects y.cls y y ∈ zt_good) ∧ (parseMethodDescriptor y.desc).map (fun d => (d.parameters.length, d.returnType)) = some (np, ret) ∧ nL ≤ 31 ∧ (hs = 2 → y.name = "<init>")
set_option maxRecDepth 100000 in
theorem zt_m_1 : zt_mOK (⟨"ColumnVault", "<init>", "()V"⟩, prog_1_method_1_code, 1, none, [], 15, 0, 0, 2, 99999, 0) := ⟨(zt_in (j := 1) (k := 46) rfl rfl), rfl, (zt_in (j := 1) (k := 1) rfl rfl), (zt_in (j := 1) (k := 45) rfl rfl), Or.inl rfl, by decide +kernel, by decide, fun _ => rfl⟩
set_option maxRecDepth 100000 in
theorem zt_m_2 : zt_mOK (⟨"ColumnVault$History", "<init>", "()V"⟩, prog_6_method_1_code, 2, none, [], 9, 0, 0, 2, 99999, 0) := ⟨(zt_in (j := 1) (k := 54) rfl rfl), rfl, (zt_in (j := 1) (k := 2) rfl rfl), (zt_in (j := 1) (k := 53) rfl rfl), Or.inl rfl, by decide +kernel, by decide, fun _ => rfl⟩
set_option maxRecDepth 100000 in
theorem zt_m_3 : zt_mOK (⟨"ColumnVault$Sheet", "<init>", "()V"⟩, prog_10_method_1_code, 1, none, [], 13, 0, 0, 2, 99999, 0) := ⟨(zt_in (j := 1) (k := 61) rfl rfl), rfl, (zt_in (j := 1) (k := 3) rfl rfl), (zt_in (j := 1) (k := 60) rfl rfl), Or.inl rfl, by decide +kernel, by decide, fun _ => rfl⟩
set_option maxRecDepth 100000 in
theorem zt_m_4 : zt_mOK (⟨"ColumnVault$FilterText", "<init>", "()V"⟩, prog_4_method_1_code, 1, none, [], 7, 0, 0, 2, 99999, 0) := ⟨(zt_in (j := 1) (k := 108) rfl rfl), rfl, (zt_in (j := 1) (k := 4) rfl rfl), (zt_in (j := 1) (k := 107) rfl rfl), Or.inl rfl, by decide +kernel, by decide, fun _ => rfl⟩
set_option maxRecDepth 100000 in
theorem zt_m_5 : zt_mOK (⟨"ColumnVault$Tokens", "<init>", "()V"⟩, prog_11_method_1_code, 1, none, [], 14, 0, 0, 2, 99999, 0) := ⟨(zt_in (j := 1) (k := 123) rfl rfl), rfl, (zt_in (j := 1) (k := 5) rfl rfl), (zt_in (j := 1) (k := 122) rfl rfl), Or.inl rfl, by decide +kernel, by decide, fun _ => rfl⟩
set_option maxRecDepth 100000 in
theorem zt_m_6 : zt_mOK (⟨"ColumnVault$Pairs", "<init>", "()V"⟩, prog_9_method_1_code, 1, none, [], 12, 0, 0, 2, 99999, 0) := ⟨(zt_in (j := 1) (k := 142) rfl rfl), rfl, (zt_in (j := 1) (k := 6) rfl rfl), (zt_in (j := 1) (k := 141) rfl rfl), Or.inl rfl, by decide +kernel, by decide, fun _ => rfl⟩
set_option maxRecDepth 100000 in
theorem zt_m_7 : zt_mOK (⟨"ColumnVault$Groups", "<init>", "()V"⟩, prog_5_method_1_code, 1, none, [], 8, 0, 0, 2, 99999, 0) := ⟨(zt_in (j := 1) (k := 159) rfl rfl), rfl, (zt_in (j := 1) (k := 7) rfl rfl), (zt_in (j := 1) (k := 158) rfl rfl), Or.inl rfl, by decide +kernel, by decide, fun _ => rfl⟩
set_option maxRecDepth 100000 in
theorem zt_m_8 : zt_mOK (⟨"ColumnVault$Checks", "<init>", "()V"⟩, prog_2_method_1_code, 1, none, [], 5, 0, 0, 2, 99999, 0) := ⟨(zt_in (j := 1) (k := 187) rfl rfl), rfl, (zt_in (j := 1) (k := 8) rfl rfl), (zt_in (j := 1) (k := 186) rfl rfl), Or.inl rfl, by decide +kernel, by decide, fun _ => rfl⟩
set_option maxRecDepth 100000 in
theorem zt_m_9 : zt_mOK (⟨"ColumnVault", "version", "()I"⟩, prog_1_method_10_code, 1, some (.int), [], 15, 0, 0, 0, 0, 0) := ⟨(zt_in (j := 1) (k := 225) rfl rfl), rfl, (zt_in (j := 1) (k := 1) rfl rfl), (zt_in (j := 1) (k := 223) rfl rfl), Or.inr (zt_in (j := 1) (k := 224) rfl rfl), by decide +kernel, by decide, fun h => absurd h (by decide)⟩
set_option maxRecDepth 100000 in
theorem zt_m_10 : zt_mOK (⟨"ColumnVault", "clearText", "()I"⟩, prog_1_method_23_code, 2, some (.int), [], 15, 0, 0, 0, 0, 0) := ⟨(zt_in (j := 1) (k := 229) rfl rfl), rfl, (zt_in (j := 1) (k := 1) rfl rfl), (zt_in (j := 1) (k := 227) rfl rfl), Or.inr (zt_in (j := 1) (k := 228) rfl rfl), by decide +kernel, by decide, fun h => absurd h (by decide)⟩
set_option maxRecDepth 100000 in
theorem zt_m_11 : zt_mOK (⟨"ColumnVaultLaw", "addColumn", "(LColumnVault;II[J)I"⟩, method_3_code, 5, some (.int), [(0, 10, 13, 13), (0, 10, 17, 15), (0, 10, 21, 17)], 23, 4, 0, 1, 99999, 0) := ⟨(zt_in (j := 1) (k := 232) rfl rfl), rfl, (zt_in (j := 1) (k := 0) rfl rfl), (zt_in (j := 1) (k := 231) rfl rfl), Or.inl rfl, by decide +kernel, by decide, fun h => absurd h (by decide)⟩
set_option maxRecDepth 100000 in
theorem zt_m_12 : zt_mOK (⟨"ColumnVault", "addColumn", "(II)I"⟩, prog_1_method_2_code, 4, some (.int), [], 15, 2, 0, 0, 0, 0) := ⟨(zt_in (j := 1) (k := 239) rfl rfl), rfl, (zt_in (j := 1) (k := 1) rfl rfl), (zt_in (j := 1) (k := 237) rfl rfl), Or.inr (zt_in (j := 1) (k := 238) rfl rfl), by decide +kernel, by decide, fun h => absurd h (by decide)⟩
set_option maxRecDepth 100000 in
theorem zt_m_13 : zt_mOK (⟨"ColumnVault", "sheetOf", "(I)LColumnVault$Sheet;"⟩, prog_1_method_41_code, 3, some (.object "ColumnVault$Sheet"), [], 15, 1, 0, 0, 0, 0) := ⟨(zt_in (j := 2) (k := 3) rfl rfl), rfl, (zt_in (j := 1) (k := 1) rfl rfl), (zt_in (j := 2) (k := 2) rfl rfl), Or.inr (zt_in (j := 0) (k := 0) rfl rfl), by decide +kernel, by decide, fun h => absurd h (by decide)⟩
set_option maxRecDepth 100000 in
theorem zt_m_14 : zt_mOK (⟨"ColumnVault$History", "sheetIn", "(II)LColumnVault$Sheet;"⟩, prog_6_method_3_code, 3, some (.object "ColumnVault$Sheet"), [], 9, 2, 0, 0, 0, 0) := ⟨(zt_in (j := 2) (k := 7) rfl rfl), rfl, (zt_in (j := 1) (k := 2) rfl rfl), (zt_in (j := 2) (k := 5) rfl rfl), Or.inr (zt_in (j := 2) (k := 6) rfl rfl), by decide +kernel, by decide, fun h => absurd h (by decide)⟩
set_option maxRecDepth 100000 in
theorem zt_m_15 : zt_mOK (⟨"ColumnVault", "nextSheetOf", "(I)LColumnVault$Sheet;"⟩, prog_1_method_43_code, 2, some (.object "ColumnVault$Sheet"), [], 15, 1, 0, 0, 0, 0) := ⟨(zt_in (j := 2) (k := 112) rfl rfl), rfl, (zt_in (j := 1) (k := 1) rfl rfl), (zt_in (j := 2) (k := 111) rfl rfl), Or.inr (zt_in (j := 0) (k := 2) rfl rfl), by decide +kernel, by decide, fun h => absurd h (by decide)⟩
set_option maxRecDepth 100000 in
theorem zt_m_16 : zt_mOK (⟨"ColumnVault$History", "makeNextFrom", "(I)V"⟩, prog_6_method_4_code, 5, none, [], 9, 1, 0, 0, 0, 0) := ⟨(zt_in (j := 2) (k := 116) rfl rfl), rfl, (zt_in (j := 1) (k := 2) rfl rfl), (zt_in (j := 2) (k := 114) rfl rfl), Or.inr (zt_in (j := 2) (k := 115) rfl rfl), by decide +kernel, by decide, fun h => absurd h (by decide)⟩
set_option maxRecDepth 100000 in
theorem zt_m_17 : zt_mOK (⟨"ColumnVault$Sheet", "copyFrom", "(LColumnVault$Sheet;)V"⟩, prog_10_method_2_code, 2, none, [], 13, 1, 0, 0, 0, 0) := ⟨(zt_in (j := 2) (k := 121) rfl rfl), rfl, (zt_in (j := 1) (k := 3) rfl rfl), (zt_in (j := 2) (k := 119) rfl rfl), Or.inr (zt_in (j := 2) (k := 120) rfl rfl), by decide +kernel, by decide, fun h => absurd h (by decide)⟩
set_option maxRecDepth 100000 in
theorem zt_m_18 : zt_mOK (⟨"ColumnVault$Sheet", "appendColumn", "(I)I"⟩, prog_10_method_11_code, 4, some (.int), [], 13, 1, 0, 0, 0, 0) := ⟨(zt_in (j := 2) (k := 128) rfl rfl), rfl, (zt_in (j := 1) (k := 3) rfl rfl), (zt_in (j := 2) (k := 126) rfl rfl), Or.inr (zt_in (j := 2) (k := 127) rfl rfl), by decide +kernel, by decide, fun h => absurd h (by decide)⟩
set_option maxRecDepth 100000 in
theorem zt_m_19 : zt_mOK (⟨"ColumnVault$Sheet", "putKey", "(IIJ)V"⟩, prog_10_method_8_code, 5, none, [], 13, 3, 0, 0, 0, 0) := ⟨(zt_in (j := 2) (k := 133) rfl rfl), rfl, (zt_in (j := 1) (k := 3) rfl rfl), (zt_in (j := 2) (k := 131) rfl rfl), Or.inr (zt_in (j := 2) (k := 132) rfl rfl), by decide +kernel, by decide, fun h => absurd h (by decide)⟩
set_option maxRecDepth 100000 in
theorem zt_m_20 : zt_mOK (⟨"ColumnVault$Sheet", "hasColumn", "(I)Z"⟩, prog_10_method_3_code, 2, some (.boolean), [], 13, 1, 0, 0, 0, 0) := ⟨(zt_in (j := 2) (k := 137) rfl rfl), rfl, (zt_in (j := 1) (k := 3) rfl rfl), (zt_in (j := 2) (k := 135) rfl rfl), Or.inr (zt_in (j := 2) (k := 136) rfl rfl), by decide +kernel, by decide, fun h => absurd h (by decide)⟩
set_option maxRecDepth 100000 in
theorem zt_m_21 : zt_mOK (⟨"ColumnVault$Sheet", "hasRow", "(I)Z"⟩, prog_10_method_4_code, 2, some (.boolean), [], 13, 1, 0, 0, 0, 0) := ⟨(zt_in (j := 2) (k := 141) rfl rfl), rfl, (zt_in (j := 1) (k := 3) rfl rfl), (zt_in (j := 2) (k := 139) rfl rfl), Or.inr (zt_in (j := 2) (k := 140) rfl rfl), by decide +kernel, by decide, fun h => absurd h (by decide)⟩
set_option maxRecDepth 100000 in
theorem zt_m_22 : zt_mOK (⟨"ColumnVaultLaw", "addRow", "(LColumnVault;I[J)I"⟩, method_4_code, 4, some (.int), [(0, 9, 12, 13), (0, 9, 15, 17)], 23, 3, 0, 1, 99999, 0) := ⟨(zt_in (j := 2) (k := 144) rfl rfl), rfl, (zt_in (j := 1) (k := 0) rfl rfl), (zt_in (j := 2) (k := 143) rfl rfl), Or.inl rfl, by decide +kernel, by decide, fun h => absurd h (by decide)⟩
set_option maxRecDepth 100000 in
theorem zt_m_23 : zt_mOK (⟨"ColumnVault", "addRow", "(I)I"⟩, prog_1_method_3_code, 2, some (.int), [], 15, 1, 0, 0, 0, 0) := ⟨(zt_in (j := 2) (k := 148) rfl rfl), rfl, (zt_in (j := 1) (k := 1) rfl rfl), (zt_in (j := 2) (k := 146) rfl rfl), Or.inr (zt_in (j := 2) (k := 147) rfl rfl), by decide +kernel, by decide, fun h => absurd h (by decide)⟩
set_option maxRecDepth 100000 in
theorem zt_m_24 : zt_mOK (⟨"ColumnVault$Sheet", "appendRow", "()I"⟩, prog_10_method_12_code, 3, some (.int), [], 13, 0, 0, 0, 0, 0) := ⟨(zt_in (j := 2) (k := 153) rfl rfl), rfl, (zt_in (j := 1) (k := 3) rfl rfl), (zt_in (j := 2) (k := 151) rfl rfl), Or.inr (zt_in (j := 2) (k := 152) rfl rfl), by decide +kernel, by decide, fun h => absurd h (by decide)⟩
set_option maxRecDepth 100000 in
theorem zt_m_25 : zt_mOK (⟨"ColumnVaultLaw", "fill", "(LColumnVault;IIIII[J)I"⟩, method_5_code, 8, some (.int), [(0, 16, 19, 13), (0, 16, 23, 15), (0, 16, 27, 17)], 23, 7, 0, 1, 99999, 0) := ⟨(zt_in (j := 2) (k := 156) rfl rfl), rfl, (zt_in (j := 1) (k := 0) rfl rfl), (zt_in (j := 2) (k := 155) rfl rfl), Or.inl rfl, by decide +kernel, by decide, fun h => absurd h (by decide)⟩
set_option maxRecDepth 100000 in
theorem zt_m_26 : zt_mOK (⟨"ColumnVault", "fill", "(IIIII)I"⟩, prog_1_method_4_code, 9, some (.int), [], 15, 5, 0, 0, 0, 0) := ⟨(zt_in (j := 2) (k := 160) rfl rfl), rfl, (zt_in (j := 1) (k := 1) rfl rfl), (zt_in (j := 2) (k := 158) rfl rfl), Or.inr (zt_in (j := 2) (k := 159) rfl rfl), by decide +kernel, by decide, fun h => absurd h (by decide)⟩
set_option maxRecDepth 100000 in
theorem zt_m_27 : zt_mOK (⟨"ColumnVault", "sheetWith", "(II)LColumnVault$Sheet;"⟩, prog_1_method_42_code, 4, some (.object "ColumnVault$Sheet"), [], 15, 2, 0, 0, 0, 0) := ⟨(zt_in (j := 2) (k := 164) rfl rfl), rfl, (zt_in (j := 1) (k := 1) rfl rfl), (zt_in (j := 2) (k := 163) rfl rfl), Or.inr (zt_in (j := 0) (k := 3) rfl rfl), by decide +kernel, by decide, fun h => absurd h (by decide)⟩
set_option maxRecDepth 100000 in
theorem zt_m_28 : zt_mOK (⟨"ColumnVault", "requireColumn", "(LColumnVault$Sheet;I)V"⟩, prog_1_method_47_code, 2, none, [], 15, 2, 0, 1, 99999, 0) := ⟨(zt_in (j := 2) (k := 167) rfl rfl), rfl, (zt_in (j := 1) (k := 1) rfl rfl), (zt_in (j := 2) (k := 166) rfl rfl), Or.inl rfl, by decide +kernel, by decide, fun h => absurd h (by decide)⟩
set_option maxRecDepth 100000 in
theorem zt_m_29 : zt_mOK (⟨"ColumnVault$Sheet", "kindOf", "(I)I"⟩, prog_10_method_6_code, 2, some (.int), [], 13, 1, 0, 0, 0, 0) := ⟨(zt_in (j := 2) (k := 173) rfl rfl), rfl, (zt_in (j := 1) (k := 3) rfl rfl), (zt_in (j := 2) (k := 171) rfl rfl), Or.inr (zt_in (j := 2) (k := 172) rfl rfl), by decide +kernel, by decide, fun h => absurd h (by decide)⟩
set_option maxRecDepth 100000 in
theorem zt_m_30 : zt_mOK (⟨"ColumnVault", "isNumber", "(J)Z"⟩, prog_1_method_53_code, 2, some (.boolean), [], 15, 1, 0, 1, 99999, 0) := ⟨(zt_in (j := 2) (k := 176) rfl rfl), rfl, (zt_in (j := 1) (k := 1) rfl rfl), (zt_in (j := 2) (k := 175) rfl rfl), Or.inl rfl, by decide +kernel, by decide, fun h => absurd h (by decide)⟩
set_option maxRecDepth 100000 in
theorem zt_m_31 : zt_mOK (⟨"ColumnVaultLaw", "set", "(LColumnVault;IIIJ[J)I"⟩, method_6_code, 8, some (.int), [(0, 21, 24, 13), (0, 21, 28, 15)], 23, 6, 0, 1, 99999, 0) := ⟨(zt_in (j := 2) (k := 183) rfl rfl), rfl, (zt_in (j := 1) (k := 0) rfl rfl), (zt_in (j := 2) (k := 182) rfl rfl), Or.inl rfl, by decide +kernel, by decide, fun h => absurd h (by decide)⟩
set_option maxRecDepth 100000 in
theorem zt_m_32 : zt_mOK (⟨"ColumnVault", "set", "(IIIJ)Z"⟩, prog_1_method_5_code, 12, some (.boolean), [], 15, 4, 0, 0, 0, 0) := ⟨(zt_in (j := 2) (k := 187) rfl rfl), rfl, (zt_in (j := 1) (k := 1) rfl rfl), (zt_in (j := 2) (k := 185) rfl rfl), Or.inr (zt_in (j := 2) (k := 186) rfl rfl), by decide +kernel, by decide, fun h => absurd h (by decide)⟩
set_option maxRecDepth 100000 in
theorem zt_m_33 : zt_mOK (⟨"ColumnVault", "requireRow", "(LColumnVault$Sheet;I)V"⟩, prog_1_method_48_code, 2, none, [], 15, 2, 0, 1, 99999, 0) := ⟨(zt_in (j := 2) (k := 190) rfl rfl), rfl, (zt_in (j := 1) (k := 1) rfl rfl), (zt_in (j := 2) (k := 189) rfl rfl), Or.inl rfl, by decide +kernel, by decide, fun h => absurd h (by decide)⟩
set_option maxRecDepth 100000 in
theorem zt_m_34 : zt_mOK (⟨"ColumnVault", "requireValue", "(IJ)V"⟩, prog_1_method_50_code, 3, none, [], 15, 2, 0, 1, 99999, 0) := ⟨(zt_in (j := 2) (k := 196) rfl rfl), rfl, (zt_in (j := 1) (k := 1) rfl rfl), (zt_in (j := 2) (k := 195) rfl rfl), Or.inl rfl, by decide +kernel, by decide, fun h => absurd h (by decide)⟩
set_option maxRecDepth 100000 in
theorem zt_m_35 : zt_mOK (⟨"ColumnVault", "isWord", "(J)Z"⟩, prog_1_method_54_code, 3, some (.boolean), [], 15, 1, 0, 1, 99999, 0) := ⟨(zt_in (j := 2) (k := 199) rfl rfl), rfl, (zt_in (j := 1) (k := 1) rfl rfl), (zt_in (j := 2) (k := 198) rfl rfl), Or.inl rfl, by decide +kernel, by decide, fun h => absurd h (by decide)⟩
set_option maxRecDepth 100000 in
theorem zt_m_36 : zt_mOK (⟨"ColumnVault", "isLetter", "(I)Z"⟩, prog_1_method_55_code, 1, some (.boolean), [], 15, 1, 0, 1, 99999, 0) := ⟨(zt_in (j := 2) (k := 203) rfl rfl), rfl, (zt_in (j := 1) (k := 1) rfl rfl), (zt_in (j := 2) (k := 202) rfl rfl), Or.inl rfl, by decide +kernel, by decide, fun h => absurd h (by decide)⟩
set_option maxRecDepth 100000 in
theorem zt_m_37 : zt_mOK (⟨"ColumnVault$Sheet", "keyAt", "(II)J"⟩, prog_10_method_7_code, 3, some (.long), [], 13, 2, 0, 0, 0, 0) := ⟨(zt_in (j := 2) (k := 208) rfl rfl), rfl, (zt_in (j := 1) (k := 3) rfl rfl), (zt_in (j := 2) (k := 206) rfl rfl), Or.inr (zt_in (j := 2) (k := 207) rfl rfl), by decide +kernel, by decide, fun h => absurd h (by decide)⟩
set_option maxRecDepth 100000 in
theorem zt_m_38 : zt_mOK (⟨"ColumnVault", "keyOf", "(IJ)J"⟩, prog_1_method_57_code, 6, some (.long), [], 15, 2, 0, 1, 99999, 0) := ⟨(zt_in (j := 2) (k := 211) rfl rfl), rfl, (zt_in (j := 1) (k := 1) rfl rfl), (zt_in (j := 2) (k := 210) rfl rfl), Or.inl rfl, by decide +kernel, by decide, fun h => absurd h (by decide)⟩
set_option maxRecDepth 100000 in
theorem zt_m_39 : zt_mOK (⟨"ColumnVaultLaw", "remove", "(LColumnVault;II[J)I"⟩, method_7_code, 5, some (.int), [(0, 10, 13, 13)], 23, 4, 0, 1, 99999, 0) := ⟨(zt_in (j := 2) (k := 214) rfl rfl), rfl, (zt_in (j := 1) (k := 0) rfl rfl), (zt_in (j := 2) (k := 213) rfl rfl), Or.inl rfl, by decide +kernel, by decide, fun h => absurd h (by decide)⟩
set_option maxRecDepth 100000 in
theorem zt_m_40 : zt_mOK (⟨"ColumnVault", "remove", "(II)I"⟩, prog_1_method_6_code, 4, some (.int), [], 15, 2, 0, 0, 0, 0) := ⟨(zt_in (j := 2) (k := 218) rfl rfl), rfl, (zt_in (j := 1) (k := 1) rfl rfl), (zt_in (j := 2) (k := 216) rfl rfl), Or.inr (zt_in (j := 2) (k := 217) rfl rfl), by decide +kernel, by decide, fun h => absurd h (by decide)⟩
set_option maxRecDepth 100000 in
theorem zt_m_41 : zt_mOK (⟨"ColumnVault$Sheet", "dropRow", "(I)V"⟩, prog_10_method_13_code, 4, none, [], 13, 1, 0, 0, 0, 0) := ⟨(zt_in (j := 2) (k := 222) rfl rfl), rfl, (zt_in (j := 1) (k := 3) rfl rfl), (zt_in (j := 2) (k := 220) rfl rfl), Or.inr (zt_in (j := 2) (k := 221) rfl rfl), by decide +kernel, by decide, fun h => absurd h (by decide)⟩
set_option maxRecDepth 100000 in
theorem zt_m_42 : zt_mOK (⟨"ColumnVault$Sheet", "dropFromOrder", "(I)V"⟩, prog_10_method_14_code, 5, none, [], 13, 1, 0, 0, 0, 0) := ⟨(zt_in (j := 2) (k := 227) rfl rfl), rfl, (zt_in (j := 1) (k := 3) rfl rfl), (zt_in (j := 2) (k := 226) rfl rfl), Or.inr (zt_in (j := 0) (k := 4) rfl rfl), by decide +kernel, by decide, fun h => absurd h (by decide)⟩
set_option maxRecDepth 100000 in
theorem zt_m_43 : zt_mOK (⟨"ColumnVaultLaw", "get", "(LColumnVault;III[J)I"⟩, method_8_code, 6, some (.int), [(0, 11, 14, 13)], 23, 5, 0, 1, 99999, 0) := ⟨(zt_in (j := 2) (k := 231) rfl rfl), rfl, (zt_in (j := 1) (k := 0) rfl rfl), (zt_in (j := 2) (k := 230) rfl rfl), Or.inl rfl, by decide +kernel, by decide, fun h => absurd h (by decide)⟩
set_option maxRecDepth 100000 in
theorem zt_m_44 : zt_mOK (⟨"ColumnVault", "get", "(III)J"⟩, prog_1_method_7_code, 5, some (.long), [], 15, 3, 0, 0, 0, 0) := ⟨(zt_in (j := 2) (k := 235) rfl rfl), rfl, (zt_in (j := 1) (k := 1) rfl rfl), (zt_in (j := 2) (k := 233) rfl rfl), Or.inr (zt_in (j := 2) (k := 234) rfl rfl), by decide +kernel, by decide, fun h => absurd h (by decide)⟩
set_option maxRecDepth 100000 in
theorem zt_m_45 : zt_mOK (⟨"ColumnVault$Sheet", "valueOf", "(II)J"⟩, prog_10_method_9_code, 3, some (.long), [], 13, 2, 0, 0, 0, 0) := ⟨(zt_in (j := 2) (k := 239) rfl rfl), rfl, (zt_in (j := 1) (k := 3) rfl rfl), (zt_in (j := 2) (k := 237) rfl rfl), Or.inr (zt_in (j := 2) (k := 238) rfl rfl), by decide +kernel, by decide, fun h => absurd h (by decide)⟩
set_option maxRecDepth 100000 in
theorem zt_m_46 : zt_mOK (⟨"ColumnVault", "toldOf", "(IJ)J"⟩, prog_1_method_58_code, 6, some (.long), [], 15, 2, 0, 1, 99999, 0) := ⟨(zt_in (j := 3) (k := 3) rfl rfl), rfl, (zt_in (j := 1) (k := 1) rfl rfl), (zt_in (j := 3) (k := 2) rfl rfl), Or.inl rfl, by decide +kernel, by decide, fun h => absurd h (by decide)⟩
set_option maxRecDepth 100000 in
theorem zt_m_47 : zt_mOK (⟨"ColumnVaultLaw", "size", "(LColumnVault;II[J)I"⟩, method_9_code, 5, some (.int), [(0, 10, 13, 13), (0, 10, 17, 15)], 23, 4, 0, 1, 99999, 0) := ⟨(zt_in (j := 3) (k := 6) rfl rfl), rfl, (zt_in (j := 1) (k := 0) rfl rfl), (zt_in (j := 3) (k := 5) rfl rfl), Or.inl rfl, by decide +kernel, by decide, fun h => absurd h (by decide)⟩
set_option maxRecDepth 100000 in
theorem zt_m_48 : zt_mOK (⟨"ColumnVault", "size", "(II)I"⟩, prog_1_method_8_code, 4, some (.int), [], 15, 2, 0, 0, 0, 0) := ⟨(zt_in (j := 3) (k := 10) rfl rfl), rfl, (zt_in (j := 1) (k := 1) rfl rfl), (zt_in (j := 3) (k := 8) rfl rfl), Or.inr (zt_in (j := 3) (k := 9) rfl rfl), by decide +kernel, by decide, fun h => absurd h (by decide)⟩
set_option maxRecDepth 100000 in
theorem zt_m_49 : zt_mOK (⟨"java/lang/Long", "bitCount", "(J)I"⟩, prog_30_method_50_code, 2, some (.int), [], 3, 1, 0, 1, 99999, 0) := ⟨(zt_in (j := 3) (k := 13) rfl rfl), rfl, (zt_in (j := 1) (k := 30) rfl rfl), (zt_in (j := 3) (k := 12) rfl rfl), Or.inl rfl, by decide +kernel, by decide, fun h => absurd h (by decide)⟩
set_option maxRecDepth 100000 in
theorem zt_m_50 : zt_mOK (⟨"ColumnVault$Sheet", "missingValues", "()I"⟩, prog_10_method_10_code, 3, some (.int), [], 13, 0, 0, 0, 0, 0) := ⟨(zt_in (j := 3) (k := 20) rfl rfl), rfl, (zt_in (j := 1) (k := 3) rfl rfl), (zt_in (j := 3) (k := 18) rfl rfl), Or.inr (zt_in (j := 3) (k := 19) rfl rfl), by decide +kernel, by decide, fun h => absurd h (by decide)⟩
set_option maxRecDepth 100000 in
theorem zt_m_51 : zt_mOK (⟨"ColumnVault$Sheet", "rowsWith", "(IJ)J"⟩, prog_10_method_24_code, 4, some (.long), [], 13, 2, 0, 0, 0, 0) := ⟨(zt_in (j := 3) (k := 24) rfl rfl), rfl, (zt_in (j := 1) (k := 3) rfl rfl), (zt_in (j := 3) (k := 22) rfl rfl), Or.inr (zt_in (j := 3) (k := 23) rfl rfl), by decide +kernel, by decide, fun h => absurd h (by decide)⟩
set_option maxRecDepth 100000 in
theorem zt_m_52 : zt_mOK (⟨"ColumnVault$Sheet", "rowsFromTo", "(IJJ)J"⟩, prog_10_method_25_code, 11, some (.long), [], 13, 3, 0, 0, 0, 0) := ⟨(zt_in (j := 3) (k := 28) rfl rfl), rfl, (zt_in (j := 1) (k := 3) rfl rfl), (zt_in (j := 3) (k := 26) rfl rfl), Or.inr (zt_in (j := 3) (k := 27) rfl rfl), by decide +kernel, by decide, fun h => absurd h (by decide)⟩
set_option maxRecDepth 100000 in
theorem zt_m_53 : zt_mOK (⟨"ColumnVaultLaw", "kind", "(LColumnVault;II[J)I"⟩, method_10_code, 5, some (.int), [(0, 10, 13, 13)], 23, 4, 0, 1, 99999, 0) := ⟨(zt_in (j := 3) (k := 33) rfl rfl), rfl, (zt_in (j := 1) (k := 0) rfl rfl), (zt_in (j := 3) (k := 32) rfl rfl), Or.inl rfl, by decide +kernel, by decide, fun h => absurd h (by decide)⟩
set_option maxRecDepth 100000 in
theorem zt_m_54 : zt_mOK (⟨"ColumnVault", "kind", "(II)I"⟩, prog_1_method_9_code, 3, some (.int), [], 15, 2, 0, 0, 0, 0) := ⟨(zt_in (j := 3) (k := 37) rfl rfl), rfl, (zt_in (j := 1) (k := 1) rfl rfl), (zt_in (j := 3) (k := 35) rfl rfl), Or.inr (zt_in (j := 3) (k := 36) rfl rfl), by decide +kernel, by decide, fun h => absurd h (by decide)⟩
set_option maxRecDepth 100000 in
theorem zt_m_55 : zt_mOK (⟨"ColumnVaultLaw", "back", "(LColumnVault;I[J)I"⟩, method_11_code, 4, some (.int), [(0, 9, 12, 13)], 23, 3, 0, 1, 99999, 0) := ⟨(zt_in (j := 3) (k := 40) rfl rfl), rfl, (zt_in (j := 1) (k := 0) rfl rfl), (zt_in (j := 3) (k := 39) rfl rfl), Or.inl rfl, by decide +kernel, by decide, fun h => absurd h (by decide)⟩
set_option maxRecDepth 100000 in
theorem zt_m_56 : zt_mOK (⟨"ColumnVault", "back", "(I)I"⟩, prog_1_method_11_code, 2, some (.int), [], 15, 1, 0, 0, 0, 0) := ⟨(zt_in (j := 3) (k := 44) rfl rfl), rfl, (zt_in (j := 1) (k := 1) rfl rfl), (zt_in (j := 3) (k := 42) rfl rfl), Or.inr (zt_in (j := 3) (k := 43) rfl rfl), by decide +kernel, by decide, fun h => absurd h (by decide)⟩
set_option maxRecDepth 100000 in
theorem zt_m_57 : zt_mOK (⟨"ColumnVault$History", "keeps", "(I)Z"⟩, prog_6_method_2_code, 2, some (.boolean), [], 9, 1, 0, 0, 0, 0) := ⟨(zt_in (j := 3) (k := 48) rfl rfl), rfl, (zt_in (j := 1) (k := 2) rfl rfl), (zt_in (j := 3) (k := 46) rfl rfl), Or.inr (zt_in (j := 3) (k := 47) rfl rfl), by decide +kernel, by decide, fun h => absurd h (by decide)⟩
set_option maxRecDepth 100000 in
theorem zt_m_58 : zt_mOK (⟨"ColumnVaultLaw", "sort", "(LColumnVault;IIZZ[J)I"⟩, method_12_code, 7, some (.int), [(0, 14, 17, 13)], 23, 6, 0, 1, 99999, 0) := ⟨(zt_in (j := 3) (k := 52) rfl rfl), rfl, (zt_in (j := 1) (k := 0) rfl rfl), (zt_in (j := 3) (k := 51) rfl rfl), Or.inl rfl, by decide +kernel, by decide, fun h => absurd h (by decide)⟩
set_option maxRecDepth 100000 in
theorem zt_m_59 : zt_mOK (⟨"ColumnVault", "sort", "(IIZZ)I"⟩, prog_1_method_12_code, 7, some (.int), [], 15, 4, 0, 0, 0, 0) := ⟨(zt_in (j := 3) (k := 56) rfl rfl), rfl, (zt_in (j := 1) (k := 1) rfl rfl), (zt_in (j := 3) (k := 54) rfl rfl), Or.inr (zt_in (j := 3) (k := 55) rfl rfl), by decide +kernel, by decide, fun h => absurd h (by decide)⟩
set_option maxRecDepth 100000 in
theorem zt_m_60 : zt_mOK (⟨"ColumnVault$Sheet", "orderBy", "(IZZ)V"⟩, prog_10_method_18_code, 9, none, [], 13, 3, 0, 0, 0, 0) := ⟨(zt_in (j := 3) (k := 60) rfl rfl), rfl, (zt_in (j := 1) (k := 3) rfl rfl), (zt_in (j := 3) (k := 58) rfl rfl), Or.inr (zt_in (j := 3) (k := 59) rfl rfl), by decide +kernel, by decide, fun h => absurd h (by decide)⟩
set_option maxRecDepth 100000 in
theorem zt_m_61 : zt_mOK (⟨"ColumnVault", "isAhead", "(JJZZ)Z"⟩, prog_1_method_59_code, 6, some (.boolean), [], 15, 4, 0, 1, 99999, 0) := ⟨(zt_in (j := 3) (k := 63) rfl rfl), rfl, (zt_in (j := 1) (k := 1) rfl rfl), (zt_in (j := 3) (k := 62) rfl rfl), Or.inl rfl, by decide +kernel, by decide, fun h => absurd h (by decide)⟩
set_option maxRecDepth 100000 in
theorem zt_m_62 : zt_mOK (⟨"ColumnVault$Sheet", "placesUnlike", "(LColumnVault$Sheet;)I"⟩, prog_10_method_17_code, 4, some (.int), [], 13, 1, 0, 0, 0, 0) := ⟨(zt_in (j := 3) (k := 67) rfl rfl), rfl, (zt_in (j := 1) (k := 3) rfl rfl), (zt_in (j := 3) (k := 65) rfl rfl), Or.inr (zt_in (j := 3) (k := 66) rfl rfl), by decide +kernel, by decide, fun h => absurd h (by decide)⟩
set_option maxRecDepth 100000 in
theorem zt_m_63 : zt_mOK (⟨"ColumnVault$Sheet", "rowInOrder", "(I)I"⟩, prog_10_method_15_code, 2, some (.int), [], 13, 1, 0, 0, 0, 0) := ⟨(zt_in (j := 3) (k := 71) rfl rfl), rfl, (zt_in (j := 1) (k := 3) rfl rfl), (zt_in (j := 3) (k := 69) rfl rfl), Or.inr (zt_in (j := 3) (k := 70) rfl rfl), by decide +kernel, by decide, fun h => absurd h (by decide)⟩
set_option maxRecDepth 100000 in
theorem zt_m_64 : zt_mOK (⟨"ColumnVaultLaw", "rowAt", "(LColumnVault;II[J)I"⟩, method_13_code, 5, some (.int), [(0, 10, 13, 13)], 23, 4, 0, 1, 99999, 0) := ⟨(zt_in (j := 3) (k := 74) rfl rfl), rfl, (zt_in (j := 1) (k := 0) rfl rfl), (zt_in (j := 3) (k := 73) rfl rfl), Or.inl rfl, by decide +kernel, by decide, fun h => absurd h (by decide)⟩
set_option maxRecDepth 100000 in
theorem zt_m_65 : zt_mOK (⟨"ColumnVault", "rowAt", "(II)I"⟩, prog_1_method_13_code, 4, some (.int), [], 15, 2, 0, 0, 0, 0) := ⟨(zt_in (j := 3) (k := 78) rfl rfl), rfl, (zt_in (j := 1) (k := 1) rfl rfl), (zt_in (j := 3) (k := 76) rfl rfl), Or.inr (zt_in (j := 3) (k := 77) rfl rfl), by decide +kernel, by decide, fun h => absurd h (by decide)⟩
set_option maxRecDepth 100000 in
theorem zt_m_66 : zt_mOK (⟨"ColumnVault", "requirePlace", "(LColumnVault$Sheet;I)V"⟩, prog_1_method_49_code, 2, none, [], 15, 2, 0, 1, 99999, 0) := ⟨(zt_in (j := 3) (k := 81) rfl rfl), rfl, (zt_in (j := 1) (k := 1) rfl rfl), (zt_in (j := 3) (k := 80) rfl rfl), Or.inl rfl, by decide +kernel, by decide, fun h => absurd h (by decide)⟩
set_option maxRecDepth 100000 in
theorem zt_m_67 : zt_mOK (⟨"ColumnVaultLaw", "placeOf", "(LColumnVault;II[J)I"⟩, method_14_code, 5, some (.int), [(0, 10, 13, 13)], 23, 4, 0, 1, 99999, 0) := ⟨(zt_in (j := 3) (k := 86) rfl rfl), rfl, (zt_in (j := 1) (k := 0) rfl rfl), (zt_in (j := 3) (k := 85) rfl rfl), Or.inl rfl, by decide +kernel, by decide, fun h => absurd h (by decide)⟩
set_option maxRecDepth 100000 in
theorem zt_m_68 : zt_mOK (⟨"ColumnVault", "placeOf", "(II)I"⟩, prog_1_method_14_code, 4, some (.int), [], 15, 2, 0, 0, 0, 0) := ⟨(zt_in (j := 3) (k := 90) rfl rfl), rfl, (zt_in (j := 1) (k := 1) rfl rfl), (zt_in (j := 3) (k := 88) rfl rfl), Or.inr (zt_in (j := 3) (k := 89) rfl rfl), by decide +kernel, by decide, fun h => absurd h (by decide)⟩
set_option maxRecDepth 100000 in
theorem zt_m_69 : zt_mOK (⟨"ColumnVault$Sheet", "placeInOrder", "(I)I"⟩, prog_10_method_16_code, 3, some (.int), [], 13, 1, 0, 0, 0, 0) := ⟨(zt_in (j := 3) (k := 94) rfl rfl), rfl, (zt_in (j := 1) (k := 3) rfl rfl), (zt_in (j := 3) (k := 92) rfl rfl), Or.inr (zt_in (j := 3) (k := 93) rfl rfl), by decide +kernel, by decide, fun h => absurd h (by decide)⟩
set_option maxRecDepth 100000 in
theorem zt_m_70 : zt_mOK (⟨"ColumnVaultLaw", "isChosen", "(LColumnVault;II[J)I"⟩, method_15_code, 5, some (.int), [(0, 17, 20, 13)], 23, 4, 0, 1, 99999, 0) := ⟨(zt_in (j := 3) (k := 97) rfl rfl), rfl, (zt_in (j := 1) (k := 0) rfl rfl), (zt_in (j := 3) (k := 96) rfl rfl), Or.inl rfl, by decide +kernel, by decide, fun h => absurd h (by decide)⟩
set_option maxRecDepth 100000 in
theorem zt_m_71 : zt_mOK (⟨"ColumnVault", "isChosen", "(II)Z"⟩, prog_1_method_15_code, 4, some (.boolean), [], 15, 2, 0, 0, 0, 0) := ⟨(zt_in (j := 3) (k := 101) rfl rfl), rfl, (zt_in (j := 1) (k := 1) rfl rfl), (zt_in (j := 3) (k := 99) rfl rfl), Or.inr (zt_in (j := 3) (k := 100) rfl rfl), by decide +kernel, by decide, fun h => absurd h (by decide)⟩
set_option maxRecDepth 100000 in
theorem zt_m_72 : zt_mOK (⟨"ColumnVault", "holdsRow", "(JI)Z"⟩, prog_1_method_60_code, 3, some (.boolean), [], 15, 2, 0, 1, 99999, 0) := ⟨(zt_in (j := 3) (k := 104) rfl rfl), rfl, (zt_in (j := 1) (k := 1) rfl rfl), (zt_in (j := 3) (k := 103) rfl rfl), Or.inl rfl, by decide +kernel, by decide, fun h => absurd h (by decide)⟩
set_option maxRecDepth 100000 in
theorem zt_m_73 : zt_mOK (⟨"ColumnVaultLaw", "choose", "(LColumnVault;II[J)I"⟩, method_16_code, 5, some (.int), [(0, 10, 13, 13), (0, 10, 17, 15), (0, 10, 21, 17)], 23, 4, 0, 1, 99999, 0) := ⟨(zt_in (j := 3) (k := 107) rfl rfl), rfl, (zt_in (j := 1) (k := 0) rfl rfl), (zt_in (j := 3) (k := 106) rfl rfl), Or.inl rfl, by decide +kernel, by decide, fun h => absurd h (by decide)⟩
set_option maxRecDepth 100000 in
theorem zt_m_74 : zt_mOK (⟨"ColumnVault", "choose", "(II)I"⟩, prog_1_method_16_code, 6, some (.int), [], 15, 2, 0, 0, 0, 0) := ⟨(zt_in (j := 3) (k := 111) rfl rfl), rfl, (zt_in (j := 1) (k := 1) rfl rfl), (zt_in (j := 3) (k := 109) rfl rfl), Or.inr (zt_in (j := 3) (k := 110) rfl rfl), by decide +kernel, by decide, fun h => absurd h (by decide)⟩
set_option maxRecDepth 100000 in
theorem zt_m_75 : zt_mOK (⟨"ColumnVault", "filterOf", "(I)LColumnVault$Node;"⟩, prog_1_method_45_code, 3, some (.object "ColumnVault$Node"), [], 15, 1, 0, 0, 0, 0) := ⟨(zt_in (j := 3) (k := 116) rfl rfl), rfl, (zt_in (j := 1) (k := 1) rfl rfl), (zt_in (j := 3) (k := 115) rfl rfl), Or.inr (zt_in (j := 0) (k := 5) rfl rfl), by decide +kernel, by decide, fun h => absurd h (by decide)⟩
set_option maxRecDepth 100000 in
theorem zt_m_76 : zt_mOK (⟨"ColumnVault", "readerOf", "(I)LColumnVault$FilterReader;"⟩, prog_1_method_44_code, 2, some (.object "ColumnVault$FilterReader"), [], 15, 1, 0, 0, 0, 0) := ⟨(zt_in (j := 3) (k := 120) rfl rfl), rfl, (zt_in (j := 1) (k := 1) rfl rfl), (zt_in (j := 3) (k := 119) rfl rfl), Or.inr (zt_in (j := 0) (k := 6) rfl rfl), by decide +kernel, by decide, fun h => absurd h (by decide)⟩
set_option maxRecDepth 100000 in
theorem zt_m_77 : zt_mOK (⟨"ColumnVault$FilterReader", "<init>", "(LColumnVault$Tokens;LColumnVault$Sheet;)V"⟩, prog_3_method_1_code, 3, none, [], 6, 2, 0, 2, 99999, 0) := ⟨(zt_in (j := 3) (k := 125) rfl rfl), rfl, (zt_in (j := 1) (k := 31) rfl rfl), (zt_in (j := 3) (k := 124) rfl rfl), Or.inl rfl, by decide +kernel, by decide, fun _ => rfl⟩
set_option maxRecDepth 100000 in
theorem zt_m_78 : zt_mOK (⟨"ColumnVault$FilterReader", "readWhole", "(LColumnVault$FilterText;)LColumnVault$Node;"⟩, prog_3_method_2_code, 3, some (.object "ColumnVault$Node"), [], 6, 1, 0, 0, 0, 0) := ⟨(zt_in (j := 3) (k := 154) rfl rfl), rfl, (zt_in (j := 1) (k := 31) rfl rfl), (zt_in (j := 3) (k := 152) rfl rfl), Or.inr (zt_in (j := 3) (k := 153) rfl rfl), by decide +kernel, by decide, fun h => absurd h (by decide)⟩
set_option maxRecDepth 100000 in
theorem zt_m_79 : zt_mOK (⟨"ColumnVault$Tokens", "readFrom", "(LColumnVault$FilterText;)V"⟩, prog_11_method_2_code, 4, none, [], 14, 1, 0, 0, 0, 0) := ⟨(zt_in (j := 3) (k := 158) rfl rfl), rfl, (zt_in (j := 1) (k := 5) rfl rfl), (zt_in (j := 3) (k := 156) rfl rfl), Or.inr (zt_in (j := 3) (k := 157) rfl rfl), by decide +kernel, by decide, fun h => absurd h (by decide)⟩
set_option maxRecDepth 100000 in
theorem zt_m_80 : zt_mOK (⟨"ColumnVault$FilterText", "byteAt", "(I)I"⟩, prog_4_method_2_code, 2, some (.int), [], 7, 1, 0, 0, 0, 0) := ⟨(zt_in (j := 3) (k := 162) rfl rfl), rfl, (zt_in (j := 1) (k := 4) rfl rfl), (zt_in (j := 3) (k := 160) rfl rfl), Or.inr (zt_in (j := 3) (k := 161) rfl rfl), by decide +kernel, by decide, fun h => absurd h (by decide)⟩
set_option maxRecDepth 100000 in
theorem zt_m_81 : zt_mOK (⟨"ColumnVault$Tokens", "readToken", "(LColumnVault$FilterText;I)I"⟩, prog_11_method_3_code, 5, some (.int), [], 14, 2, 0, 0, 0, 0) := ⟨(zt_in (j := 3) (k := 166) rfl rfl), rfl, (zt_in (j := 1) (k := 5) rfl rfl), (zt_in (j := 3) (k := 165) rfl rfl), Or.inr (zt_in (j := 0) (k := 7) rfl rfl), by decide +kernel, by decide, fun h => absurd h (by decide)⟩
set_option maxRecDepth 100000 in
theorem zt_m_82 : zt_mOK (⟨"ColumnVault$Tokens", "put", "(IIJ)V"⟩, prog_11_method_6_code, 5, none, [], 14, 3, 0, 0, 0, 0) := ⟨(zt_in (j := 3) (k := 171) rfl rfl), rfl, (zt_in (j := 1) (k := 5) rfl rfl), (zt_in (j := 3) (k := 170) rfl rfl), Or.inr (zt_in (j := 0) (k := 8) rfl rfl), by decide +kernel, by decide, fun h => absurd h (by decide)⟩
set_option maxRecDepth 100000 in
theorem zt_m_83 : zt_mOK (⟨"ColumnVault", "isDigit", "(I)Z"⟩, prog_1_method_56_code, 1, some (.boolean), [], 15, 1, 0, 1, 99999, 0) := ⟨(zt_in (j := 3) (k := 174) rfl rfl), rfl, (zt_in (j := 1) (k := 1) rfl rfl), (zt_in (j := 3) (k := 173) rfl rfl), Or.inl rfl, by decide +kernel, by decide, fun h => absurd h (by decide)⟩
set_option maxRecDepth 100000 in
theorem zt_m_84 : zt_mOK (⟨"ColumnVault$Tokens", "readWord", "(LColumnVault$FilterText;I)I"⟩, prog_11_method_4_code, 6, some (.int), [], 14, 2, 0, 0, 0, 0) := ⟨(zt_in (j := 3) (k := 179) rfl rfl), rfl, (zt_in (j := 1) (k := 5) rfl rfl), (zt_in (j := 3) (k := 178) rfl rfl), Or.inr (zt_in (j := 0) (k := 9) rfl rfl), by decide +kernel, by decide, fun h => absurd h (by decide)⟩
set_option maxRecDepth 100000 in
theorem zt_m_85 : zt_mOK (⟨"ColumnVault$Tokens", "readNumber", "(LColumnVault$FilterText;I)I"⟩, prog_11_method_5_code, 7, some (.int), [], 14, 2, 0, 0, 0, 0) := ⟨(zt_in (j := 3) (k := 184) rfl rfl), rfl, (zt_in (j := 1) (k := 5) rfl rfl), (zt_in (j := 3) (k := 183) rfl rfl), Or.inr (zt_in (j := 0) (k := 10) rfl rfl), by decide +kernel, by decide, fun h => absurd h (by decide)⟩
set_option maxRecDepth 100000 in
theorem zt_m_86 : zt_mOK (⟨"java/lang/Math", "min", "(JJ)J"⟩, prog_32_method_70_code, 4, some (.long), [], 24, 2, 0, 1, 99999, 0) := ⟨(zt_in (j := 3) (k := 190) rfl rfl), rfl, (zt_in (j := 1) (k := 17) rfl rfl), (zt_in (j := 3) (k := 189) rfl rfl), Or.inl rfl, by decide +kernel, by decide, fun h => absurd h (by decide)⟩
set_option maxRecDepth 100000 in
theorem zt_m_87 : zt_mOK (⟨"java/lang/Math", "max", "(II)I"⟩, prog_32_method_65_code, 2, some (.int), [], 24, 2, 0, 1, 99999, 0) := ⟨(zt_in (j := 3) (k := 194) rfl rfl), rfl, (zt_in (j := 1) (k := 17) rfl rfl), (zt_in (j := 3) (k := 193) rfl rfl), Or.inl rfl, by decide +kernel, by decide, fun h => absurd h (by decide)⟩
set_option maxRecDepth 100000 in
theorem zt_m_88 : zt_mOK (⟨"ColumnVault$FilterReader", "readFilter", "(I)LColumnVault$Node;"⟩, prog_3_method_5_code, 6, some (.object "ColumnVault$Node"), [], 6, 1, 0, 0, 0, 0) := ⟨(zt_in (j := 3) (k := 198) rfl rfl), rfl, (zt_in (j := 1) (k := 31) rfl rfl), (zt_in (j := 3) (k := 197) rfl rfl), Or.inr (zt_in (j := 0) (k := 11) rfl rfl), by decide +kernel, by decide, fun h => absurd h (by decide)⟩
set_option maxRecDepth 100000 in
theorem zt_m_89 : zt_mOK (⟨"ColumnVault$Node", "<init>", "(IJ)V"⟩, prog_8_method_1_code, 4, none, [], 11, 2, 0, 2, 99999, 0) := ⟨(zt_in (j := 3) (k := 203) rfl rfl), rfl, (zt_in (j := 1) (k := 32) rfl rfl), (zt_in (j := 3) (k := 202) rfl rfl), Or.inl rfl, by decide +kernel, by decide, fun _ => rfl⟩
set_option maxRecDepth 100000 in
theorem zt_m_90 : zt_mOK (⟨"ColumnVault$FilterReader", "readPart", "(I)LColumnVault$Node;"⟩, prog_3_method_6_code, 6, some (.object "ColumnVault$Node"), [], 6, 1, 0, 0, 0, 0) := ⟨(zt_in (j := 3) (k := 236) rfl rfl), rfl, (zt_in (j := 1) (k := 31) rfl rfl), (zt_in (j := 3) (k := 235) rfl rfl), Or.inr (zt_in (j := 0) (k := 12) rfl rfl), by decide +kernel, by decide, fun h => absurd h (by decide)⟩
set_option maxRecDepth 100000 in
theorem zt_m_91 : zt_mOK (⟨"ColumnVault$Sheet", "allRows", "()J"⟩, prog_10_method_22_code, 1, some (.long), [], 13, 0, 0, 0, 0, 0) := ⟨(zt_in (j := 4) (k := 0) rfl rfl), rfl, (zt_in (j := 1) (k := 3) rfl rfl), (zt_in (j := 3) (k := 238) rfl rfl), Or.inr (zt_in (j := 3) (k := 239) rfl rfl), by decide +kernel, by decide, fun h => absurd h (by decide)⟩
set_option maxRecDepth 100000 in
theorem zt_m_92 : zt_mOK (⟨"ColumnVault$FilterReader", "readPiece", "(I)LColumnVault$Node;"⟩, prog_3_method_7_code, 4, some (.object "ColumnVault$Node"), [], 6, 1, 0, 0, 0, 0) := ⟨(zt_in (j := 4) (k := 4) rfl rfl), rfl, (zt_in (j := 1) (k := 31) rfl rfl), (zt_in (j := 4) (k := 3) rfl rfl), Or.inr (zt_in (j := 0) (k := 13) rfl rfl), by decide +kernel, by decide, fun h => absurd h (by decide)⟩
set_option maxRecDepth 100000 in
theorem zt_m_93 : zt_mOK (⟨"ColumnVault$FilterReader", "takes", "(I)Z"⟩, prog_3_method_4_code, 2, some (.boolean), [], 6, 1, 0, 0, 0, 0) := ⟨(zt_in (j := 4) (k := 8) rfl rfl), rfl, (zt_in (j := 1) (k := 31) rfl rfl), (zt_in (j := 4) (k := 7) rfl rfl), Or.inr (zt_in (j := 0) (k := 14) rfl rfl), by decide +kernel, by decide, fun h => absurd h (by decide)⟩
set_option maxRecDepth 100000 in
theorem zt_m_94 : zt_mOK (⟨"ColumnVault$Tokens", "formAt", "(I)I"⟩, prog_11_method_7_code, 2, some (.int), [], 14, 1, 0, 0, 0, 0) := ⟨(zt_in (j := 4) (k := 12) rfl rfl), rfl, (zt_in (j := 1) (k := 5) rfl rfl), (zt_in (j := 4) (k := 10) rfl rfl), Or.inr (zt_in (j := 4) (k := 11) rfl rfl), by decide +kernel, by decide, fun h => absurd h (by decide)⟩
set_option maxRecDepth 100000 in
theorem zt_m_95 : zt_mOK (⟨"ColumnVault$Tokens", "placeAt", "(I)I"⟩, prog_11_method_8_code, 2, some (.int), [], 14, 1, 0, 0, 0, 0) := ⟨(zt_in (j := 4) (k := 16) rfl rfl), rfl, (zt_in (j := 1) (k := 5) rfl rfl), (zt_in (j := 4) (k := 14) rfl rfl), Or.inr (zt_in (j := 4) (k := 15) rfl rfl), by decide +kernel, by decide, fun h => absurd h (by decide)⟩
set_option maxRecDepth 100000 in
theorem zt_m_96 : zt_mOK (⟨"ColumnVault$FilterReader", "fail", "(II)LColumnVault$Node;"⟩, prog_3_method_3_code, 3, some (.object "ColumnVault$Node"), [], 6, 2, 0, 0, 0, 0) := ⟨(zt_in (j := 4) (k := 20) rfl rfl), rfl, (zt_in (j := 1) (k := 31) rfl rfl), (zt_in (j := 4) (k := 19) rfl rfl), Or.inr (zt_in (j := 0) (k := 15) rfl rfl), by decide +kernel, by decide, fun h => absurd h (by decide)⟩
set_option maxRecDepth 100000 in
theorem zt_m_97 : zt_mOK (⟨"ColumnVault$FilterReader", "readBrackets", "(I)LColumnVault$Node;"⟩, prog_3_method_8_code, 3, some (.object "ColumnVault$Node"), [], 6, 1, 0, 0, 0, 0) := ⟨(zt_in (j := 4) (k := 24) rfl rfl), rfl, (zt_in (j := 1) (k := 31) rfl rfl), (zt_in (j := 4) (k := 23) rfl rfl), Or.inr (zt_in (j := 0) (k := 16) rfl rfl), by decide +kernel, by decide, fun h => absurd h (by decide)⟩
set_option maxRecDepth 100000 in
theorem zt_m_98 : zt_mOK (⟨"ColumnVault$FilterReader", "readTest", "()LColumnVault$Node;"⟩, prog_3_method_9_code, 3, some (.object "ColumnVault$Node"), [], 6, 0, 0, 0, 0, 0) := ⟨(zt_in (j := 4) (k := 28) rfl rfl), rfl, (zt_in (j := 1) (k := 31) rfl rfl), (zt_in (j := 4) (k := 27) rfl rfl), Or.inr (zt_in (j := 0) (k := 17) rfl rfl), by decide +kernel, by decide, fun h => absurd h (by decide)⟩
set_option maxRecDepth 100000 in
theorem zt_m_99 : zt_mOK (⟨"ColumnVault$Tokens", "valueAt", "(I)J"⟩, prog_11_method_9_code, 2, some (.long), [], 14, 1, 0, 0, 0, 0) := ⟨(zt_in (j := 4) (k := 32) rfl rfl), rfl, (zt_in (j := 1) (k := 5) rfl rfl), (zt_in (j := 4) (k := 30) rfl rfl), Or.inr (zt_in (j := 4) (k := 31) rfl rfl), by decide +kernel, by decide, fun h => absurd h (by decide)⟩
set_option maxRecDepth 100000 in
theorem zt_m_100 : zt_mOK (⟨"ColumnVault$FilterReader", "askedBy", "(I)I"⟩, prog_3_method_10_code, 5, some (.int), [], 6, 1, 0, 0, 0, 0) := ⟨(zt_in (j := 4) (k := 37) rfl rfl), rfl, (zt_in (j := 1) (k := 31) rfl rfl), (zt_in (j := 4) (k := 36) rfl rfl), Or.inr (zt_in (j := 0) (k := 18) rfl rfl), by decide +kernel, by decide, fun h => absurd h (by decide)⟩
set_option maxRecDepth 100000 in
theorem zt_m_101 : zt_mOK (⟨"ColumnVault$FilterReader", "readValues", "(II)Z"⟩, prog_3_method_11_code, 6, some (.boolean), [], 6, 2, 0, 0, 0, 0) := ⟨(zt_in (j := 4) (k := 46) rfl rfl), rfl, (zt_in (j := 1) (k := 31) rfl rfl), (zt_in (j := 4) (k := 45) rfl rfl), Or.inr (zt_in (j := 0) (k := 19) rfl rfl), by decide +kernel, by decide, fun h => absurd h (by decide)⟩
set_option maxRecDepth 100000 in
theorem zt_m_102 : zt_mOK (⟨"ColumnVault$FilterReader", "isValueNext", "()Z"⟩, prog_3_method_12_code, 2, some (.boolean), [], 6, 0, 0, 0, 0, 0) := ⟨(zt_in (j := 4) (k := 50) rfl rfl), rfl, (zt_in (j := 1) (k := 31) rfl rfl), (zt_in (j := 4) (k := 49) rfl rfl), Or.inr (zt_in (j := 0) (k := 20) rfl rfl), by decide +kernel, by decide, fun h => absurd h (by decide)⟩
set_option maxRecDepth 100000 in
theorem zt_m_103 : zt_mOK (⟨"ColumnVault$FilterReader", "readValue", "(I)Z"⟩, prog_3_method_13_code, 6, some (.boolean), [], 6, 1, 0, 0, 0, 0) := ⟨(zt_in (j := 4) (k := 54) rfl rfl), rfl, (zt_in (j := 1) (k := 31) rfl rfl), (zt_in (j := 4) (k := 53) rfl rfl), Or.inr (zt_in (j := 0) (k := 21) rfl rfl), by decide +kernel, by decide, fun h => absurd h (by decide)⟩
set_option maxRecDepth 100000 in
theorem zt_m_104 : zt_mOK (⟨"ColumnVault$FilterReader", "rowsOfTest", "(II)J"⟩, prog_3_method_14_code, 6, some (.long), [], 6, 2, 0, 0, 0, 0) := ⟨(zt_in (j := 4) (k := 60) rfl rfl), rfl, (zt_in (j := 1) (k := 31) rfl rfl), (zt_in (j := 4) (k := 59) rfl rfl), Or.inr (zt_in (j := 0) (k := 22) rfl rfl), by decide +kernel, by decide, fun h => absurd h (by decide)⟩
set_option maxRecDepth 100000 in
theorem zt_m_105 : zt_mOK (⟨"ColumnVault$Node", "turn", "(J)V"⟩, prog_8_method_2_code, 3, none, [], 11, 1, 0, 0, 0, 0) := ⟨(zt_in (j := 4) (k := 67) rfl rfl), rfl, (zt_in (j := 1) (k := 32) rfl rfl), (zt_in (j := 4) (k := 65) rfl rfl), Or.inr (zt_in (j := 4) (k := 66) rfl rfl), by decide +kernel, by decide, fun h => absurd h (by decide)⟩
set_option maxRecDepth 100000 in
theorem zt_m_106 : zt_mOK (⟨"ColumnVault$Node", "put", "(LColumnVault$Node;)V"⟩, prog_8_method_3_code, 2, none, [], 11, 1, 0, 0, 0, 0) := ⟨(zt_in (j := 4) (k := 72) rfl rfl), rfl, (zt_in (j := 1) (k := 32) rfl rfl), (zt_in (j := 4) (k := 70) rfl rfl), Or.inr (zt_in (j := 4) (k := 71) rfl rfl), by decide +kernel, by decide, fun h => absurd h (by decide)⟩
set_option maxRecDepth 100000 in
theorem zt_m_107 : zt_mOK (⟨"ColumnVault$Node", "putByCounts", "(LColumnVault$Node;)V"⟩, prog_8_method_4_code, 4, none, [], 11, 1, 0, 0, 0, 0) := ⟨(zt_in (j := 4) (k := 76) rfl rfl), rfl, (zt_in (j := 1) (k := 32) rfl rfl), (zt_in (j := 4) (k := 75) rfl rfl), Or.inr (zt_in (j := 0) (k := 23) rfl rfl), by decide +kernel, by decide, fun h => absurd h (by decide)⟩
set_option maxRecDepth 100000 in
theorem zt_m_108 : zt_mOK (⟨"ColumnVault$Node", "isFirst", "(LColumnVault$Node;LColumnVault$Node;)Z"⟩, prog_8_method_5_code, 5, some (.boolean), [], 11, 2, 0, 0, 0, 0) := ⟨(zt_in (j := 4) (k := 80) rfl rfl), rfl, (zt_in (j := 1) (k := 32) rfl rfl), (zt_in (j := 4) (k := 79) rfl rfl), Or.inr (zt_in (j := 0) (k := 24) rfl rfl), by decide +kernel, by decide, fun h => absurd h (by decide)⟩
set_option maxRecDepth 100000 in
theorem zt_m_109 : zt_mOK (⟨"ColumnVaultLaw", "turnChoice", "(LColumnVault;I[J)I"⟩, method_17_code, 4, some (.int), [(0, 9, 12, 13)], 23, 3, 0, 1, 99999, 0) := ⟨(zt_in (j := 4) (k := 86) rfl rfl), rfl, (zt_in (j := 1) (k := 0) rfl rfl), (zt_in (j := 4) (k := 85) rfl rfl), Or.inl rfl, by decide +kernel, by decide, fun h => absurd h (by decide)⟩
set_option maxRecDepth 100000 in
theorem zt_m_110 : zt_mOK (⟨"ColumnVault", "turnChoice", "(I)I"⟩, prog_1_method_17_code, 3, some (.int), [], 15, 1, 0, 0, 0, 0) := ⟨(zt_in (j := 4) (k := 90) rfl rfl), rfl, (zt_in (j := 1) (k := 1) rfl rfl), (zt_in (j := 4) (k := 88) rfl rfl), Or.inr (zt_in (j := 4) (k := 89) rfl rfl), by decide +kernel, by decide, fun h => absurd h (by decide)⟩
set_option maxRecDepth 100000 in
theorem zt_m_111 : zt_mOK (⟨"ColumnVaultLaw", "count", "(LColumnVault;I[J)I"⟩, method_18_code, 4, some (.int), [(0, 9, 12, 13), (0, 9, 15, 17)], 23, 3, 0, 1, 99999, 0) := ⟨(zt_in (j := 4) (k := 94) rfl rfl), rfl, (zt_in (j := 1) (k := 0) rfl rfl), (zt_in (j := 4) (k := 93) rfl rfl), Or.inl rfl, by decide +kernel, by decide, fun h => absurd h (by decide)⟩
set_option maxRecDepth 100000 in
theorem zt_m_112 : zt_mOK (⟨"ColumnVault", "count", "(I)I"⟩, prog_1_method_18_code, 2, some (.int), [], 15, 1, 0, 0, 0, 0) := ⟨(zt_in (j := 4) (k := 98) rfl rfl), rfl, (zt_in (j := 1) (k := 1) rfl rfl), (zt_in (j := 4) (k := 96) rfl rfl), Or.inr (zt_in (j := 4) (k := 97) rfl rfl), by decide +kernel, by decide, fun h => absurd h (by decide)⟩
set_option maxRecDepth 100000 in
theorem zt_m_113 : zt_mOK (⟨"ColumnVaultLaw", "reads", "(LColumnVault;IZ[J)I"⟩, method_19_code, 5, some (.int), [(0, 10, 13, 13), (0, 10, 17, 17)], 23, 4, 0, 1, 99999, 0) := ⟨(zt_in (j := 4) (k := 101) rfl rfl), rfl, (zt_in (j := 1) (k := 0) rfl rfl), (zt_in (j := 4) (k := 100) rfl rfl), Or.inl rfl, by decide +kernel, by decide, fun h => absurd h (by decide)⟩
set_option maxRecDepth 100000 in
theorem zt_m_114 : zt_mOK (⟨"ColumnVault", "reads", "(IZ)I"⟩, prog_1_method_19_code, 3, some (.int), [], 15, 2, 0, 0, 0, 0) := ⟨(zt_in (j := 4) (k := 105) rfl rfl), rfl, (zt_in (j := 1) (k := 1) rfl rfl), (zt_in (j := 4) (k := 103) rfl rfl), Or.inr (zt_in (j := 4) (k := 104) rfl rfl), by decide +kernel, by decide, fun h => absurd h (by decide)⟩
set_option maxRecDepth 100000 in
theorem zt_m_115 : zt_mOK (⟨"ColumnVault", "readsOf", "(LColumnVault$Node;JZI)I"⟩, prog_1_method_63_code, 9, some (.int), [], 15, 4, 0, 1, 99999, 0) := ⟨(zt_in (j := 4) (k := 108) rfl rfl), rfl, (zt_in (j := 1) (k := 1) rfl rfl), (zt_in (j := 4) (k := 107) rfl rfl), Or.inl rfl, by decide +kernel, by decide, fun h => absurd h (by decide)⟩
set_option maxRecDepth 100000 in
theorem zt_m_116 : zt_mOK (⟨"ColumnVaultLaw", "errorKind", "(LColumnVault;I[J)I"⟩, method_20_code, 4, some (.int), [(0, 9, 12, 13)], 23, 3, 0, 1, 99999, 0) := ⟨(zt_in (j := 4) (k := 111) rfl rfl), rfl, (zt_in (j := 1) (k := 0) rfl rfl), (zt_in (j := 4) (k := 110) rfl rfl), Or.inl rfl, by decide +kernel, by decide, fun h => absurd h (by decide)⟩
set_option maxRecDepth 100000 in
theorem zt_m_117 : zt_mOK (⟨"ColumnVault", "errorKind", "(I)I"⟩, prog_1_method_20_code, 3, some (.int), [], 15, 1, 0, 0, 0, 0) := ⟨(zt_in (j := 4) (k := 115) rfl rfl), rfl, (zt_in (j := 1) (k := 1) rfl rfl), (zt_in (j := 4) (k := 113) rfl rfl), Or.inr (zt_in (j := 4) (k := 114) rfl rfl), by decide +kernel, by decide, fun h => absurd h (by decide)⟩
set_option maxRecDepth 100000 in
theorem zt_m_118 : zt_mOK (⟨"ColumnVaultLaw", "errorPlace", "(LColumnVault;I[J)I"⟩, method_21_code, 4, some (.int), [(0, 9, 12, 13)], 23, 3, 0, 1, 99999, 0) := ⟨(zt_in (j := 4) (k := 118) rfl rfl), rfl, (zt_in (j := 1) (k := 0) rfl rfl), (zt_in (j := 4) (k := 117) rfl rfl), Or.inl rfl, by decide +kernel, by decide, fun h => absurd h (by decide)⟩
set_option maxRecDepth 100000 in
theorem zt_m_119 : zt_mOK (⟨"ColumnVault", "errorPlace", "(I)I"⟩, prog_1_method_21_code, 3, some (.int), [], 15, 1, 0, 0, 0, 0) := ⟨(zt_in (j := 4) (k := 122) rfl rfl), rfl, (zt_in (j := 1) (k := 1) rfl rfl), (zt_in (j := 4) (k := 120) rfl rfl), Or.inr (zt_in (j := 4) (k := 121) rfl rfl), by decide +kernel, by decide, fun h => absurd h (by decide)⟩
set_option maxRecDepth 100000 in
theorem zt_m_120 : zt_mOK (⟨"ColumnVaultLaw", "type", "(LColumnVault;J[J)I"⟩, method_22_code, 5, some (.int), [(0, 9, 12, 17)], 23, 3, 0, 1, 99999, 0) := ⟨(zt_in (j := 4) (k := 125) rfl rfl), rfl, (zt_in (j := 1) (k := 0) rfl rfl), (zt_in (j := 4) (k := 124) rfl rfl), Or.inl rfl, by decide +kernel, by decide, fun h => absurd h (by decide)⟩
set_option maxRecDepth 100000 in
theorem zt_m_121 : zt_mOK (⟨"ColumnVault", "type", "(J)I"⟩, prog_1_method_22_code, 3, some (.int), [], 15, 1, 0, 0, 0, 0) := ⟨(zt_in (j := 4) (k := 129) rfl rfl), rfl, (zt_in (j := 1) (k := 1) rfl rfl), (zt_in (j := 4) (k := 127) rfl rfl), Or.inr (zt_in (j := 4) (k := 128) rfl rfl), by decide +kernel, by decide, fun h => absurd h (by decide)⟩
set_option maxRecDepth 100000 in
theorem zt_m_122 : zt_mOK (⟨"ColumnVault", "bytesIn", "(J)I"⟩, prog_1_method_61_code, 4, some (.int), [], 15, 1, 0, 1, 99999, 0) := ⟨(zt_in (j := 4) (k := 132) rfl rfl), rfl, (zt_in (j := 1) (k := 1) rfl rfl), (zt_in (j := 4) (k := 131) rfl rfl), Or.inl rfl, by decide +kernel, by decide, fun h => absurd h (by decide)⟩
set_option maxRecDepth 100000 in
theorem zt_m_123 : zt_mOK (⟨"ColumnVault$FilterText", "appendBytes", "(J)V"⟩, prog_4_method_4_code, 4, none, [], 7, 1, 0, 0, 0, 0) := ⟨(zt_in (j := 4) (k := 137) rfl rfl), rfl, (zt_in (j := 1) (k := 4) rfl rfl), (zt_in (j := 4) (k := 135) rfl rfl), Or.inr (zt_in (j := 4) (k := 136) rfl rfl), by decide +kernel, by decide, fun h => absurd h (by decide)⟩
set_option maxRecDepth 100000 in
theorem zt_m_124 : zt_mOK (⟨"ColumnVault$FilterText", "append", "(I)V"⟩, prog_4_method_3_code, 2, none, [], 7, 1, 0, 0, 0, 0) := ⟨(zt_in (j := 4) (k := 142) rfl rfl), rfl, (zt_in (j := 1) (k := 4) rfl rfl), (zt_in (j := 4) (k := 141) rfl rfl), Or.inr (zt_in (j := 0) (k := 25) rfl rfl), by decide +kernel, by decide, fun h => absurd h (by decide)⟩
set_option maxRecDepth 100000 in
theorem zt_m_125 : zt_mOK (⟨"ColumnVaultLaw", "example", "(LColumnVault;I[J)I"⟩, method_23_code, 4, some (.int), [(0, 9, 12, 15)], 23, 3, 0, 1, 99999, 0) := ⟨(zt_in (j := 4) (k := 145) rfl rfl), rfl, (zt_in (j := 1) (k := 0) rfl rfl), (zt_in (j := 4) (k := 144) rfl rfl), Or.inl rfl, by decide +kernel, by decide, fun h => absurd h (by decide)⟩
set_option maxRecDepth 100000 in
theorem zt_m_126 : zt_mOK (⟨"ColumnVault", "example", "(I)I"⟩, prog_1_method_24_code, 2, some (.int), [], 15, 1, 0, 0, 0, 0) := ⟨(zt_in (j := 4) (k := 149) rfl rfl), rfl, (zt_in (j := 1) (k := 1) rfl rfl), (zt_in (j := 4) (k := 147) rfl rfl), Or.inr (zt_in (j := 4) (k := 148) rfl rfl), by decide +kernel, by decide, fun h => absurd h (by decide)⟩
set_option maxRecDepth 100000 in
theorem zt_m_127 : zt_mOK (⟨"ColumnVault$FilterText", "replaceBy", "(Ljava/lang/String;)V"⟩, prog_4_method_5_code, 3, none, [], 7, 1, 0, 0, 0, 0) := ⟨(zt_in (j := 4) (k := 154) rfl rfl), rfl, (zt_in (j := 1) (k := 4) rfl rfl), (zt_in (j := 4) (k := 152) rfl rfl), Or.inr (zt_in (j := 4) (k := 153) rfl rfl), by decide +kernel, by decide, fun h => absurd h (by decide)⟩
set_option maxRecDepth 100000 in
theorem zt_m_128 : zt_mOK (⟨"java/lang/String", "length", "()I"⟩, prog_35_method_54_code, 1, some (.int), [], 0, 0, 0, 0, 0, 0) := ⟨(zt_in (j := 4) (k := 158) rfl rfl), rfl, (zt_in (j := 1) (k := 34) rfl rfl), (zt_in (j := 4) (k := 156) rfl rfl), Or.inr (zt_in (j := 4) (k := 157) rfl rfl), by decide +kernel, by decide, fun h => absurd h (by decide)⟩
set_option maxRecDepth 100000 in
theorem zt_m_129 : zt_mOK (⟨"java/lang/String", "coder", "()B"⟩, prog_35_method_152_code, 1, some (.byte), [], 0, 0, 0, 0, 0, 0) := ⟨(zt_in (j := 4) (k := 162) rfl rfl), rfl, (zt_in (j := 1) (k := 34) rfl rfl), (zt_in (j := 4) (k := 160) rfl rfl), Or.inr (zt_in (j := 4) (k := 161) rfl rfl), by decide +kernel, by decide, fun h => absurd h (by decide)⟩
set_option maxRecDepth 100000 in
theorem zt_m_130 : zt_mOK (⟨"java/lang/String", "charAt", "(I)C"⟩, prog_35_method_56_code, 2, some (.char), [], 0, 1, 0, 0, 0, 0) := ⟨(zt_in (j := 4) (k := 168) rfl rfl), rfl, (zt_in (j := 1) (k := 34) rfl rfl), (zt_in (j := 4) (k := 166) rfl rfl), Or.inr (zt_in (j := 4) (k := 167) rfl rfl), by decide +kernel, by decide, fun h => absurd h (by decide)⟩
set_option maxRecDepth 100000 in
theorem zt_m_131 : zt_mOK (⟨"java/lang/String", "isLatin1", "()Z"⟩, prog_35_method_154_code, 1, some (.boolean), [], 0, 0, 0, 0, 0, 0) := ⟨(zt_in (j := 4) (k := 172) rfl rfl), rfl, (zt_in (j := 1) (k := 34) rfl rfl), (zt_in (j := 4) (k := 170) rfl rfl), Or.inr (zt_in (j := 4) (k := 171) rfl rfl), by decide +kernel, by decide, fun h => absurd h (by decide)⟩
set_option maxRecDepth 100000 in
theorem zt_m_132 : zt_mOK (⟨"java/lang/StringLatin1", "charAt", "([BI)C"⟩, prog_37_method_2_code, 2, some (.char), [], 25, 2, 0, 1, 99999, 0) := ⟨(zt_in (j := 4) (k := 175) rfl rfl), rfl, (zt_in (j := 1) (k := 35) rfl rfl), (zt_in (j := 4) (k := 174) rfl rfl), Or.inl rfl, by decide +kernel, by decide, fun h => absurd h (by decide)⟩
set_option maxRecDepth 100000 in
theorem zt_m_133 : zt_mOK (⟨"java/lang/String", "checkIndex", "(II)V"⟩, prog_35_method_155_code, 2, none, [], 0, 2, 0, 1, 99999, 0) := ⟨(zt_in (j := 4) (k := 178) rfl rfl), rfl, (zt_in (j := 1) (k := 34) rfl rfl), (zt_in (j := 4) (k := 177) rfl rfl), Or.inl rfl, by decide +kernel, by decide, fun h => absurd h (by decide)⟩
set_option maxRecDepth 100000 in
theorem zt_m_134 : zt_mOK (⟨"jdk/internal/util/Preconditions", "checkIndex", "(IILjava/util/function/BiFunction;)I"⟩, prog_54_method_11_code, 3, some (.int), [], 26, 3, 0, 1, 99999, 0) := ⟨(zt_in (j := 4) (k := 183) rfl rfl), rfl, (zt_in (j := 1) (k := 15) rfl rfl), (zt_in (j := 4) (k := 182) rfl rfl), Or.inl rfl, by decide +kernel, by decide, fun h => absurd h (by decide)⟩
set_option maxRecDepth 100000 in
theorem zt_m_135 : zt_mOK (⟨"java/lang/StringUTF16", "charAt", "([BI)C"⟩, prog_38_method_83_code, 2, some (.char), [], 27, 2, 0, 1, 99999, 0) := ⟨(zt_in (j := 4) (k := 186) rfl rfl), rfl, (zt_in (j := 1) (k := 36) rfl rfl), (zt_in (j := 4) (k := 185) rfl rfl), Or.inl rfl, by decide +kernel, by decide, fun h => absurd h (by decide)⟩
set_option maxRecDepth 100000 in
theorem zt_m_136 : zt_mOK (⟨"java/lang/StringUTF16", "checkIndex", "(I[B)V"⟩, prog_38_method_91_code, 2, none, [], 27, 2, 0, 1, 99999, 0) := ⟨(zt_in (j := 4) (k := 189) rfl rfl), rfl, (zt_in (j := 1) (k := 36) rfl rfl), (zt_in (j := 4) (k := 188) rfl rfl), Or.inl rfl, by decide +kernel, by decide, fun h => absurd h (by decide)⟩
set_option maxRecDepth 100000 in
theorem zt_m_137 : zt_mOK (⟨"java/lang/StringUTF16", "length", "([B)I"⟩, prog_38_method_6_code, 1, some (.int), [], 27, 1, 0, 1, 99999, 0) := ⟨(zt_in (j := 4) (k := 192) rfl rfl), rfl, (zt_in (j := 1) (k := 36) rfl rfl), (zt_in (j := 4) (k := 191) rfl rfl), Or.inl rfl, by decide +kernel, by decide, fun h => absurd h (by decide)⟩
set_option maxRecDepth 100000 in
theorem zt_m_138 : zt_mOK (⟨"java/lang/StringUTF16", "getChar", "([BI)C"⟩, prog_38_method_5_code, 2, some (.char), [], 27, 2, 0, 1, 99999, 0) := ⟨(zt_in (j := 4) (k := 196) rfl rfl), rfl, (zt_in (j := 1) (k := 36) rfl rfl), (zt_in (j := 4) (k := 195) rfl rfl), Or.inl rfl, by decide +kernel, by decide, fun h => absurd h (by decide)⟩
set_option maxRecDepth 100000 in
theorem zt_m_139 : zt_mOK (⟨"ColumnVaultLaw", "join", "(LColumnVault;IIIII[J)I"⟩, method_24_code, 8, some (.int), [(0, 16, 19, 13), (0, 16, 23, 15)], 23, 7, 0, 1, 99999, 0) := ⟨(zt_in (j := 4) (k := 208) rfl rfl), rfl, (zt_in (j := 1) (k := 0) rfl rfl), (zt_in (j := 4) (k := 207) rfl rfl), Or.inl rfl, by decide +kernel, by decide, fun h => absurd h (by decide)⟩
set_option maxRecDepth 100000 in
theorem zt_m_140 : zt_mOK (⟨"ColumnVault", "join", "(IIIII)I"⟩, prog_1_method_25_code, 8, some (.int), [], 15, 5, 0, 0, 0, 0) := ⟨(zt_in (j := 4) (k := 212) rfl rfl), rfl, (zt_in (j := 1) (k := 1) rfl rfl), (zt_in (j := 4) (k := 210) rfl rfl), Or.inr (zt_in (j := 4) (k := 211) rfl rfl), by decide +kernel, by decide, fun h => absurd h (by decide)⟩
set_option maxRecDepth 100000 in
theorem zt_m_141 : zt_mOK (⟨"ColumnVault", "requireSameKind", "(II)V"⟩, prog_1_method_52_code, 2, none, [], 15, 2, 0, 1, 99999, 0) := ⟨(zt_in (j := 4) (k := 215) rfl rfl), rfl, (zt_in (j := 1) (k := 1) rfl rfl), (zt_in (j := 4) (k := 214) rfl rfl), Or.inl rfl, by decide +kernel, by decide, fun h => absurd h (by decide)⟩
set_option maxRecDepth 100000 in
theorem zt_m_142 : zt_mOK (⟨"ColumnVault$Pairs", "make", "(LColumnVault$Sheet;ILColumnVault$Sheet;II)V"⟩, prog_9_method_2_code, 11, none, [], 12, 5, 0, 0, 0, 0) := ⟨(zt_in (j := 4) (k := 221) rfl rfl), rfl, (zt_in (j := 1) (k := 6) rfl rfl), (zt_in (j := 4) (k := 219) rfl rfl), Or.inr (zt_in (j := 4) (k := 220) rfl rfl), by decide +kernel, by decide, fun h => absurd h (by decide)⟩
set_option maxRecDepth 100000 in
theorem zt_m_143 : zt_mOK (⟨"ColumnVault$Pairs", "putRow", "(IJI)V"⟩, prog_9_method_3_code, 6, none, [], 12, 3, 0, 0, 0, 0) := ⟨(zt_in (j := 4) (k := 229) rfl rfl), rfl, (zt_in (j := 1) (k := 6) rfl rfl), (zt_in (j := 4) (k := 228) rfl rfl), Or.inr (zt_in (j := 0) (k := 26) rfl rfl), by decide +kernel, by decide, fun h => absurd h (by decide)⟩
set_option maxRecDepth 100000 in
theorem zt_m_144 : zt_mOK (⟨"ColumnVault$Pairs", "put", "(II)V"⟩, prog_9_method_4_code, 3, none, [], 12, 2, 0, 0, 0, 0) := ⟨(zt_in (j := 4) (k := 233) rfl rfl), rfl, (zt_in (j := 1) (k := 6) rfl rfl), (zt_in (j := 4) (k := 232) rfl rfl), Or.inr (zt_in (j := 0) (k := 27) rfl rfl), by decide +kernel, by decide, fun h => absurd h (by decide)⟩
set_option maxRecDepth 100000 in
theorem zt_m_145 : zt_mOK (⟨"ColumnVaultLaw", "pairAt", "(LColumnVault;IZ[J)I"⟩, method_25_code, 5, some (.int), [(0, 10, 13, 13)], 23, 4, 0, 1, 99999, 0) := ⟨(zt_in (j := 4) (k := 236) rfl rfl), rfl, (zt_in (j := 1) (k := 0) rfl rfl), (zt_in (j := 4) (k := 235) rfl rfl), Or.inl rfl, by decide +kernel, by decide, fun h => absurd h (by decide)⟩
set_option maxRecDepth 100000 in
theorem zt_m_146 : zt_mOK (⟨"ColumnVault", "pairAt", "(IZ)I"⟩, prog_1_method_26_code, 3, some (.int), [], 15, 2, 0, 0, 0, 0) := ⟨(zt_in (j := 5) (k := 0) rfl rfl), rfl, (zt_in (j := 1) (k := 1) rfl rfl), (zt_in (j := 4) (k := 238) rfl rfl), Or.inr (zt_in (j := 4) (k := 239) rfl rfl), by decide +kernel, by decide, fun h => absurd h (by decide)⟩
set_option maxRecDepth 100000 in
theorem zt_m_147 : zt_mOK (⟨"ColumnVault$Pairs", "rowOf", "(IZ)I"⟩, prog_9_method_5_code, 3, some (.int), [], 12, 2, 0, 0, 0, 0) := ⟨(zt_in (j := 5) (k := 5) rfl rfl), rfl, (zt_in (j := 1) (k := 6) rfl rfl), (zt_in (j := 5) (k := 3) rfl rfl), Or.inr (zt_in (j := 5) (k := 4) rfl rfl), by decide +kernel, by decide, fun h => absurd h (by decide)⟩
set_option maxRecDepth 100000 in
theorem zt_m_148 : zt_mOK (⟨"ColumnVaultLaw", "joinErrors", "(LColumnVault;IIII[J)I"⟩, method_26_code, 7, some (.int), [(0, 14, 17, 13), (0, 14, 21, 15)], 23, 6, 0, 1, 99999, 0) := ⟨(zt_in (j := 5) (k := 8) rfl rfl), rfl, (zt_in (j := 1) (k := 0) rfl rfl), (zt_in (j := 5) (k := 7) rfl rfl), Or.inl rfl, by decide +kernel, by decide, fun h => absurd h (by decide)⟩
set_option maxRecDepth 100000 in
theorem zt_m_149 : zt_mOK (⟨"ColumnVault", "joinErrors", "(IIII)I"⟩, prog_1_method_27_code, 7, some (.int), [], 15, 4, 0, 0, 0, 0) := ⟨(zt_in (j := 5) (k := 12) rfl rfl), rfl, (zt_in (j := 1) (k := 1) rfl rfl), (zt_in (j := 5) (k := 10) rfl rfl), Or.inr (zt_in (j := 5) (k := 11) rfl rfl), by decide +kernel, by decide, fun h => absurd h (by decide)⟩
set_option maxRecDepth 100000 in
theorem zt_m_150 : zt_mOK (⟨"ColumnVault$JoinWays", "<init>", "(LColumnVault$Sheet;ILColumnVault$Sheet;I)V"⟩, prog_7_method_1_code, 5, none, [], 10, 4, 0, 2, 99999, 0) := ⟨(zt_in (j := 5) (k := 17) rfl rfl), rfl, (zt_in (j := 1) (k := 38) rfl rfl), (zt_in (j := 5) (k := 16) rfl rfl), Or.inl rfl, by decide +kernel, by decide, fun _ => rfl⟩
set_option maxRecDepth 100000 in
theorem zt_m_151 : zt_mOK (⟨"ColumnVault$JoinWays", "pairsNotToldByAll", "()I"⟩, prog_7_method_2_code, 9, some (.int), [], 10, 0, 0, 0, 0, 0) := ⟨(zt_in (j := 5) (k := 35) rfl rfl), rfl, (zt_in (j := 1) (k := 38) rfl rfl), (zt_in (j := 5) (k := 33) rfl rfl), Or.inr (zt_in (j := 5) (k := 34) rfl rfl), by decide +kernel, by decide, fun h => absurd h (by decide)⟩
set_option maxRecDepth 100000 in
theorem zt_m_152 : zt_mOK (⟨"ColumnVault$Sheet", "risingRows", "(IJ)[I"⟩, prog_10_method_28_code, 12, some (.array (.int)), [], 13, 2, 0, 0, 0, 0) := ⟨(zt_in (j := 5) (k := 39) rfl rfl), rfl, (zt_in (j := 1) (k := 3) rfl rfl), (zt_in (j := 5) (k := 37) rfl rfl), Or.inr (zt_in (j := 5) (k := 38) rfl rfl), by decide +kernel, by decide, fun h => absurd h (by decide)⟩
set_option maxRecDepth 100000 in
theorem zt_m_153 : zt_mOK (⟨"ColumnVault$Sheet", "knownRows", "(I)J"⟩, prog_10_method_23_code, 2, some (.long), [], 13, 1, 0, 0, 0, 0) := ⟨(zt_in (j := 5) (k := 43) rfl rfl), rfl, (zt_in (j := 1) (k := 3) rfl rfl), (zt_in (j := 5) (k := 41) rfl rfl), Or.inr (zt_in (j := 5) (k := 42) rfl rfl), by decide +kernel, by decide, fun h => absurd h (by decide)⟩
set_option maxRecDepth 100000 in
theorem zt_m_154 : zt_mOK (⟨"ColumnVault$JoinWays", "byMerging", "([I[I)[J"⟩, prog_7_method_3_code, 9, some (.array (.long)), [], 10, 2, 0, 0, 0, 0) := ⟨(zt_in (j := 5) (k := 50) rfl rfl), rfl, (zt_in (j := 1) (k := 38) rfl rfl), (zt_in (j := 5) (k := 49) rfl rfl), Or.inr (zt_in (j := 0) (k := 28) rfl rfl), by decide +kernel, by decide, fun h => absurd h (by decide)⟩
set_option maxRecDepth 100000 in
theorem zt_m_155 : zt_mOK (⟨"ColumnVault$JoinWays", "rowsWithKeyFrom", "([IIJ)J"⟩, prog_7_method_6_code, 8, some (.long), [], 10, 3, 0, 0, 0, 0) := ⟨(zt_in (j := 5) (k := 56) rfl rfl), rfl, (zt_in (j := 1) (k := 38) rfl rfl), (zt_in (j := 5) (k := 55) rfl rfl), Or.inr (zt_in (j := 0) (k := 29) rfl rfl), by decide +kernel, by decide, fun h => absurd h (by decide)⟩
set_option maxRecDepth 100000 in
theorem zt_m_156 : zt_mOK (⟨"ColumnVault$JoinWays", "byLookingUp", "([I)[J"⟩, prog_7_method_4_code, 6, some (.array (.long)), [], 10, 1, 0, 0, 0, 0) := ⟨(zt_in (j := 5) (k := 61) rfl rfl), rfl, (zt_in (j := 1) (k := 38) rfl rfl), (zt_in (j := 5) (k := 60) rfl rfl), Or.inr (zt_in (j := 0) (k := 30) rfl rfl), by decide +kernel, by decide, fun h => absurd h (by decide)⟩
set_option maxRecDepth 100000 in
theorem zt_m_157 : zt_mOK (⟨"ColumnVault$JoinWays", "firstPlaceOf", "([IJ)I"⟩, prog_7_method_5_code, 8, some (.int), [], 10, 2, 0, 0, 0, 0) := ⟨(zt_in (j := 5) (k := 67) rfl rfl), rfl, (zt_in (j := 1) (k := 38) rfl rfl), (zt_in (j := 5) (k := 66) rfl rfl), Or.inr (zt_in (j := 0) (k := 31) rfl rfl), by decide +kernel, by decide, fun h => absurd h (by decide)⟩
set_option maxRecDepth 100000 in
theorem zt_m_158 : zt_mOK (⟨"ColumnVault$JoinWays", "byTrying", "()[J"⟩, prog_7_method_7_code, 6, some (.array (.long)), [], 10, 0, 0, 0, 0, 0) := ⟨(zt_in (j := 5) (k := 71) rfl rfl), rfl, (zt_in (j := 1) (k := 38) rfl rfl), (zt_in (j := 5) (k := 70) rfl rfl), Or.inr (zt_in (j := 0) (k := 32) rfl rfl), by decide +kernel, by decide, fun h => absurd h (by decide)⟩
set_option maxRecDepth 100000 in
theorem zt_m_159 : zt_mOK (⟨"ColumnVaultLaw", "group", "(LColumnVault;II[J)I"⟩, method_27_code, 5, some (.int), [(0, 10, 13, 13)], 23, 4, 0, 1, 99999, 0) := ⟨(zt_in (j := 5) (k := 76) rfl rfl), rfl, (zt_in (j := 1) (k := 0) rfl rfl), (zt_in (j := 5) (k := 75) rfl rfl), Or.inl rfl, by decide +kernel, by decide, fun h => absurd h (by decide)⟩
set_option maxRecDepth 100000 in
theorem zt_m_160 : zt_mOK (⟨"ColumnVault", "group", "(II)I"⟩, prog_1_method_28_code, 3, some (.int), [], 15, 2, 0, 0, 0, 0) := ⟨(zt_in (j := 5) (k := 80) rfl rfl), rfl, (zt_in (j := 1) (k := 1) rfl rfl), (zt_in (j := 5) (k := 78) rfl rfl), Or.inr (zt_in (j := 5) (k := 79) rfl rfl), by decide +kernel, by decide, fun h => absurd h (by decide)⟩
set_option maxRecDepth 100000 in
theorem zt_m_161 : zt_mOK (⟨"ColumnVault$Groups", "make", "(LColumnVault$Sheet;I)V"⟩, prog_5_method_2_code, 4, none, [], 8, 2, 0, 0, 0, 0) := ⟨(zt_in (j := 5) (k := 84) rfl rfl), rfl, (zt_in (j := 1) (k := 7) rfl rfl), (zt_in (j := 5) (k := 82) rfl rfl), Or.inr (zt_in (j := 5) (k := 83) rfl rfl), by decide +kernel, by decide, fun h => absurd h (by decide)⟩
set_option maxRecDepth 100000 in
theorem zt_m_162 : zt_mOK (⟨"ColumnVault$Groups", "put", "(I)V"⟩, prog_5_method_3_code, 5, none, [], 8, 1, 0, 0, 0, 0) := ⟨(zt_in (j := 5) (k := 90) rfl rfl), rfl, (zt_in (j := 1) (k := 7) rfl rfl), (zt_in (j := 5) (k := 89) rfl rfl), Or.inr (zt_in (j := 0) (k := 33) rfl rfl), by decide +kernel, by decide, fun h => absurd h (by decide)⟩
set_option maxRecDepth 100000 in
theorem zt_m_163 : zt_mOK (⟨"ColumnVault$Groups", "open", "(IJ)V"⟩, prog_5_method_4_code, 5, none, [], 8, 2, 0, 0, 0, 0) := ⟨(zt_in (j := 5) (k := 96) rfl rfl), rfl, (zt_in (j := 1) (k := 7) rfl rfl), (zt_in (j := 5) (k := 95) rfl rfl), Or.inr (zt_in (j := 0) (k := 34) rfl rfl), by decide +kernel, by decide, fun h => absurd h (by decide)⟩
set_option maxRecDepth 100000 in
theorem zt_m_164 : zt_mOK (⟨"ColumnVaultLaw", "groupAt", "(LColumnVault;II[J)I"⟩, method_28_code, 5, some (.int), [(0, 9, 12, 13), (0, 9, 16, 15)], 23, 4, 0, 1, 99999, 0) := ⟨(zt_in (j := 5) (k := 99) rfl rfl), rfl, (zt_in (j := 1) (k := 0) rfl rfl), (zt_in (j := 5) (k := 98) rfl rfl), Or.inl rfl, by decide +kernel, by decide, fun h => absurd h (by decide)⟩
set_option maxRecDepth 100000 in
theorem zt_m_165 : zt_mOK (⟨"ColumnVault", "groupAt", "(II)J"⟩, prog_1_method_29_code, 3, some (.long), [], 15, 2, 0, 0, 0, 0) := ⟨(zt_in (j := 5) (k := 103) rfl rfl), rfl, (zt_in (j := 1) (k := 1) rfl rfl), (zt_in (j := 5) (k := 101) rfl rfl), Or.inr (zt_in (j := 5) (k := 102) rfl rfl), by decide +kernel, by decide, fun h => absurd h (by decide)⟩
set_option maxRecDepth 100000 in
theorem zt_m_166 : zt_mOK (⟨"ColumnVault", "requireGroup", "(I)V"⟩, prog_1_method_46_code, 2, none, [], 15, 1, 0, 0, 0, 0) := ⟨(zt_in (j := 5) (k := 107) rfl rfl), rfl, (zt_in (j := 1) (k := 1) rfl rfl), (zt_in (j := 5) (k := 106) rfl rfl), Or.inr (zt_in (j := 0) (k := 35) rfl rfl), by decide +kernel, by decide, fun h => absurd h (by decide)⟩
set_option maxRecDepth 100000 in
theorem zt_m_167 : zt_mOK (⟨"ColumnVault$Groups", "valueAt", "(I)J"⟩, prog_5_method_6_code, 2, some (.long), [], 8, 1, 0, 0, 0, 0) := ⟨(zt_in (j := 5) (k := 112) rfl rfl), rfl, (zt_in (j := 1) (k := 7) rfl rfl), (zt_in (j := 5) (k := 110) rfl rfl), Or.inr (zt_in (j := 5) (k := 111) rfl rfl), by decide +kernel, by decide, fun h => absurd h (by decide)⟩
set_option maxRecDepth 100000 in
theorem zt_m_168 : zt_mOK (⟨"ColumnVault$Groups", "keyOfGroup", "(I)J"⟩, prog_5_method_5_code, 2, some (.long), [], 8, 1, 0, 0, 0, 0) := ⟨(zt_in (j := 5) (k := 117) rfl rfl), rfl, (zt_in (j := 1) (k := 7) rfl rfl), (zt_in (j := 5) (k := 115) rfl rfl), Or.inr (zt_in (j := 5) (k := 116) rfl rfl), by decide +kernel, by decide, fun h => absurd h (by decide)⟩
set_option maxRecDepth 100000 in
theorem zt_m_169 : zt_mOK (⟨"ColumnVault$Groups", "rowsIn", "(I)J"⟩, prog_5_method_7_code, 2, some (.long), [], 8, 1, 0, 0, 0, 0) := ⟨(zt_in (j := 5) (k := 123) rfl rfl), rfl, (zt_in (j := 1) (k := 7) rfl rfl), (zt_in (j := 5) (k := 121) rfl rfl), Or.inr (zt_in (j := 5) (k := 122) rfl rfl), by decide +kernel, by decide, fun h => absurd h (by decide)⟩
set_option maxRecDepth 100000 in
theorem zt_m_170 : zt_mOK (⟨"ColumnVault$Sheet", "firstOf", "(J)I"⟩, prog_10_method_19_code, 4, some (.int), [], 13, 1, 0, 0, 0, 0) := ⟨(zt_in (j := 5) (k := 127) rfl rfl), rfl, (zt_in (j := 1) (k := 3) rfl rfl), (zt_in (j := 5) (k := 125) rfl rfl), Or.inr (zt_in (j := 5) (k := 126) rfl rfl), by decide +kernel, by decide, fun h => absurd h (by decide)⟩
set_option maxRecDepth 100000 in
theorem zt_m_171 : zt_mOK (⟨"ColumnVault$Sheet", "lastOf", "(J)I"⟩, prog_10_method_20_code, 4, some (.int), [], 13, 1, 0, 0, 0, 0) := ⟨(zt_in (j := 5) (k := 131) rfl rfl), rfl, (zt_in (j := 1) (k := 3) rfl rfl), (zt_in (j := 5) (k := 129) rfl rfl), Or.inr (zt_in (j := 5) (k := 130) rfl rfl), by decide +kernel, by decide, fun h => absurd h (by decide)⟩
set_option maxRecDepth 100000 in
theorem zt_m_172 : zt_mOK (⟨"ColumnVaultLaw", "total", "(LColumnVault;III[J)I"⟩, method_29_code, 6, some (.int), [(0, 11, 14, 13), (0, 11, 18, 15), (0, 11, 22, 107)], 23, 5, 0, 1, 99999, 0) := ⟨(zt_in (j := 5) (k := 135) rfl rfl), rfl, (zt_in (j := 1) (k := 0) rfl rfl), (zt_in (j := 5) (k := 134) rfl rfl), Or.inl rfl, by decide +kernel, by decide, fun h => absurd h (by decide)⟩
set_option maxRecDepth 100000 in
theorem zt_m_173 : zt_mOK (⟨"ColumnVault", "total", "(III)J"⟩, prog_1_method_30_code, 5, some (.long), [], 15, 3, 0, 0, 0, 0) := ⟨(zt_in (j := 5) (k := 140) rfl rfl), rfl, (zt_in (j := 1) (k := 1) rfl rfl), (zt_in (j := 5) (k := 138) rfl rfl), Or.inr (zt_in (j := 5) (k := 139) rfl rfl), by decide +kernel, by decide, fun h => absurd h (by decide)⟩
set_option maxRecDepth 100000 in
theorem zt_m_174 : zt_mOK (⟨"ColumnVault", "totalOf", "(LColumnVault$Sheet;IJI)J"⟩, prog_1_method_62_code, 8, some (.long), [], 15, 4, 0, 1, 99999, 0) := ⟨(zt_in (j := 5) (k := 143) rfl rfl), rfl, (zt_in (j := 1) (k := 1) rfl rfl), (zt_in (j := 5) (k := 142) rfl rfl), Or.inl rfl, by decide +kernel, by decide, fun h => absurd h (by decide)⟩
set_option maxRecDepth 100000 in
theorem zt_m_175 : zt_mOK (⟨"ColumnVault$Sheet", "sumOf", "(IJ)J"⟩, prog_10_method_27_code, 9, some (.long), [], 13, 2, 0, 0, 0, 0) := ⟨(zt_in (j := 5) (k := 149) rfl rfl), rfl, (zt_in (j := 1) (k := 3) rfl rfl), (zt_in (j := 5) (k := 147) rfl rfl), Or.inr (zt_in (j := 5) (k := 148) rfl rfl), by decide +kernel, by decide, fun h => absurd h (by decide)⟩
set_option maxRecDepth 100000 in
theorem zt_m_176 : zt_mOK (⟨"ColumnVault$Sheet", "differentKeys", "(I[I)I"⟩, prog_10_method_29_code, 5, some (.int), [], 13, 2, 0, 0, 0, 0) := ⟨(zt_in (j := 5) (k := 154) rfl rfl), rfl, (zt_in (j := 1) (k := 3) rfl rfl), (zt_in (j := 5) (k := 152) rfl rfl), Or.inr (zt_in (j := 5) (k := 153) rfl rfl), by decide +kernel, by decide, fun h => absurd h (by decide)⟩
set_option maxRecDepth 100000 in
theorem zt_m_177 : zt_mOK (⟨"ColumnVaultLaw", "groupTotal", "(LColumnVault;III[J)I"⟩, method_30_code, 6, some (.int), [(0, 11, 14, 13), (0, 11, 18, 15), (0, 11, 22, 107)], 23, 5, 0, 1, 99999, 0) := ⟨(zt_in (j := 5) (k := 173) rfl rfl), rfl, (zt_in (j := 1) (k := 0) rfl rfl), (zt_in (j := 5) (k := 172) rfl rfl), Or.inl rfl, by decide +kernel, by decide, fun h => absurd h (by decide)⟩
set_option maxRecDepth 100000 in
theorem zt_m_178 : zt_mOK (⟨"ColumnVault", "groupTotal", "(III)J"⟩, prog_1_method_31_code, 4, some (.long), [], 15, 3, 0, 0, 0, 0) := ⟨(zt_in (j := 5) (k := 177) rfl rfl), rfl, (zt_in (j := 1) (k := 1) rfl rfl), (zt_in (j := 5) (k := 175) rfl rfl), Or.inr (zt_in (j := 5) (k := 176) rfl rfl), by decide +kernel, by decide, fun h => absurd h (by decide)⟩
set_option maxRecDepth 100000 in
theorem zt_m_179 : zt_mOK (⟨"ColumnVaultLaw", "running", "(LColumnVault;III[J)I"⟩, method_31_code, 6, some (.int), [(0, 11, 14, 13), (0, 11, 18, 15)], 23, 5, 0, 1, 99999, 0) := ⟨(zt_in (j := 5) (k := 180) rfl rfl), rfl, (zt_in (j := 1) (k := 0) rfl rfl), (zt_in (j := 5) (k := 179) rfl rfl), Or.inl rfl, by decide +kernel, by decide, fun h => absurd h (by decide)⟩
set_option maxRecDepth 100000 in
theorem zt_m_180 : zt_mOK (⟨"ColumnVault", "running", "(III)J"⟩, prog_1_method_32_code, 5, some (.long), [], 15, 3, 0, 0, 0, 0) := ⟨(zt_in (j := 5) (k := 184) rfl rfl), rfl, (zt_in (j := 1) (k := 1) rfl rfl), (zt_in (j := 5) (k := 182) rfl rfl), Or.inr (zt_in (j := 5) (k := 183) rfl rfl), by decide +kernel, by decide, fun h => absurd h (by decide)⟩
set_option maxRecDepth 100000 in
theorem zt_m_181 : zt_mOK (⟨"ColumnVault", "requireNumbers", "(LColumnVault$Sheet;I)V"⟩, prog_1_method_51_code, 2, none, [], 15, 2, 0, 1, 99999, 0) := ⟨(zt_in (j := 5) (k := 187) rfl rfl), rfl, (zt_in (j := 1) (k := 1) rfl rfl), (zt_in (j := 5) (k := 186) rfl rfl), Or.inl rfl, by decide +kernel, by decide, fun h => absurd h (by decide)⟩
set_option maxRecDepth 100000 in
theorem zt_m_182 : zt_mOK (⟨"ColumnVault$Sheet", "rowsUpTo", "(I)J"⟩, prog_10_method_21_code, 5, some (.long), [], 13, 1, 0, 0, 0, 0) := ⟨(zt_in (j := 5) (k := 192) rfl rfl), rfl, (zt_in (j := 1) (k := 3) rfl rfl), (zt_in (j := 5) (k := 190) rfl rfl), Or.inr (zt_in (j := 5) (k := 191) rfl rfl), by decide +kernel, by decide, fun h => absurd h (by decide)⟩
set_option maxRecDepth 100000 in
theorem zt_m_183 : zt_mOK (⟨"ColumnVaultLaw", "rank", "(LColumnVault;IIII[J)I"⟩, method_32_code, 7, some (.int), [(0, 14, 17, 13), (0, 14, 21, 107)], 23, 6, 0, 1, 99999, 0) := ⟨(zt_in (j := 5) (k := 195) rfl rfl), rfl, (zt_in (j := 1) (k := 0) rfl rfl), (zt_in (j := 5) (k := 194) rfl rfl), Or.inl rfl, by decide +kernel, by decide, fun h => absurd h (by decide)⟩
set_option maxRecDepth 100000 in
theorem zt_m_184 : zt_mOK (⟨"ColumnVault", "rank", "(IIII)I"⟩, prog_1_method_33_code, 8, some (.int), [], 15, 4, 0, 0, 0, 0) := ⟨(zt_in (j := 5) (k := 199) rfl rfl), rfl, (zt_in (j := 1) (k := 1) rfl rfl), (zt_in (j := 5) (k := 197) rfl rfl), Or.inr (zt_in (j := 5) (k := 198) rfl rfl), by decide +kernel, by decide, fun h => absurd h (by decide)⟩
set_option maxRecDepth 100000 in
theorem zt_m_185 : zt_mOK (⟨"ColumnVaultLaw", "previous", "(LColumnVault;III[J)I"⟩, method_33_code, 6, some (.int), [(0, 12, 15, 13)], 23, 5, 0, 1, 99999, 0) := ⟨(zt_in (j := 5) (k := 206) rfl rfl), rfl, (zt_in (j := 1) (k := 0) rfl rfl), (zt_in (j := 5) (k := 205) rfl rfl), Or.inl rfl, by decide +kernel, by decide, fun h => absurd h (by decide)⟩
set_option maxRecDepth 100000 in
theorem zt_m_186 : zt_mOK (⟨"ColumnVault", "previous", "(III)I"⟩, prog_1_method_34_code, 6, some (.int), [], 15, 3, 0, 0, 0, 0) := ⟨(zt_in (j := 5) (k := 210) rfl rfl), rfl, (zt_in (j := 1) (k := 1) rfl rfl), (zt_in (j := 5) (k := 208) rfl rfl), Or.inr (zt_in (j := 5) (k := 209) rfl rfl), by decide +kernel, by decide, fun h => absurd h (by decide)⟩
set_option maxRecDepth 100000 in
theorem zt_m_187 : zt_mOK (⟨"ColumnVaultLaw", "between", "(LColumnVault;IIJJ[J)I"⟩, method_34_code, 9, some (.int), [(0, 14, 17, 13), (0, 14, 21, 15)], 23, 6, 0, 1, 99999, 0) := ⟨(zt_in (j := 5) (k := 213) rfl rfl), rfl, (zt_in (j := 1) (k := 0) rfl rfl), (zt_in (j := 5) (k := 212) rfl rfl), Or.inl rfl, by decide +kernel, by decide, fun h => absurd h (by decide)⟩
set_option maxRecDepth 100000 in
theorem zt_m_188 : zt_mOK (⟨"ColumnVault", "between", "(IIJJ)I"⟩, prog_1_method_35_code, 9, some (.int), [], 15, 4, 0, 0, 0, 0) := ⟨(zt_in (j := 5) (k := 217) rfl rfl), rfl, (zt_in (j := 1) (k := 1) rfl rfl), (zt_in (j := 5) (k := 215) rfl rfl), Or.inr (zt_in (j := 5) (k := 216) rfl rfl), by decide +kernel, by decide, fun h => absurd h (by decide)⟩
set_option maxRecDepth 100000 in
theorem zt_m_189 : zt_mOK (⟨"ColumnVaultLaw", "nearest", "(LColumnVault;IIJZ[J)I"⟩, method_35_code, 8, some (.int), [(0, 13, 16, 13), (0, 13, 20, 15), (0, 13, 24, 107)], 23, 6, 0, 1, 99999, 0) := ⟨(zt_in (j := 5) (k := 220) rfl rfl), rfl, (zt_in (j := 1) (k := 0) rfl rfl), (zt_in (j := 5) (k := 219) rfl rfl), Or.inl rfl, by decide +kernel, by decide, fun h => absurd h (by decide)⟩
set_option maxRecDepth 100000 in
theorem zt_m_190 : zt_mOK (⟨"ColumnVault", "nearest", "(IIJZ)J"⟩, prog_1_method_36_code, 10, some (.long), [], 15, 4, 0, 0, 0, 0) := ⟨(zt_in (j := 5) (k := 224) rfl rfl), rfl, (zt_in (j := 1) (k := 1) rfl rfl), (zt_in (j := 5) (k := 222) rfl rfl), Or.inr (zt_in (j := 5) (k := 223) rfl rfl), by decide +kernel, by decide, fun h => absurd h (by decide)⟩
set_option maxRecDepth 100000 in
theorem zt_m_191 : zt_mOK (⟨"ColumnVault$Sheet", "nearestKey", "(IJZ)J"⟩, prog_10_method_26_code, 11, some (.long), [], 13, 3, 0, 0, 0, 0) := ⟨(zt_in (j := 5) (k := 228) rfl rfl), rfl, (zt_in (j := 1) (k := 3) rfl rfl), (zt_in (j := 5) (k := 226) rfl rfl), Or.inr (zt_in (j := 5) (k := 227) rfl rfl), by decide +kernel, by decide, fun h => absurd h (by decide)⟩
set_option maxRecDepth 100000 in
theorem zt_m_192 : zt_mOK (⟨"ColumnVaultLaw", "alike", "(LColumnVault;III[J)I"⟩, method_36_code, 6, some (.int), [(0, 12, 15, 13), (0, 12, 19, 15)], 23, 5, 0, 1, 99999, 0) := ⟨(zt_in (j := 5) (k := 233) rfl rfl), rfl, (zt_in (j := 1) (k := 0) rfl rfl), (zt_in (j := 5) (k := 232) rfl rfl), Or.inl rfl, by decide +kernel, by decide, fun h => absurd h (by decide)⟩
set_option maxRecDepth 100000 in
theorem zt_m_193 : zt_mOK (⟨"ColumnVault", "alike", "(III)I"⟩, prog_1_method_37_code, 6, some (.int), [], 15, 3, 0, 0, 0, 0) := ⟨(zt_in (j := 5) (k := 237) rfl rfl), rfl, (zt_in (j := 1) (k := 1) rfl rfl), (zt_in (j := 5) (k := 235) rfl rfl), Or.inr (zt_in (j := 5) (k := 236) rfl rfl), by decide +kernel, by decide, fun h => absurd h (by decide)⟩
set_option maxRecDepth 100000 in
theorem zt_m_194 : zt_mOK (⟨"ColumnVault$Sheet", "hasKindsOf", "(LColumnVault$Sheet;)Z"⟩, prog_10_method_5_code, 4, some (.boolean), [], 13, 1, 0, 0, 0, 0) := ⟨(zt_in (j := 6) (k := 1) rfl rfl), rfl, (zt_in (j := 1) (k := 3) rfl rfl), (zt_in (j := 5) (k := 239) rfl rfl), Or.inr (zt_in (j := 6) (k := 0) rfl rfl), by decide +kernel, by decide, fun h => absurd h (by decide)⟩
set_option maxRecDepth 100000 in
theorem zt_m_195 : zt_mOK (⟨"ColumnVault$Sheet", "rowsLeftBy", "(LColumnVault$Sheet;)I"⟩, prog_10_method_34_code, 7, some (.int), [], 13, 1, 0, 0, 0, 0) := ⟨(zt_in (j := 6) (k := 6) rfl rfl), rfl, (zt_in (j := 1) (k := 3) rfl rfl), (zt_in (j := 6) (k := 4) rfl rfl), Or.inr (zt_in (j := 6) (k := 5) rfl rfl), by decide +kernel, by decide, fun h => absurd h (by decide)⟩
set_option maxRecDepth 100000 in
theorem zt_m_196 : zt_mOK (⟨"ColumnVault$Sheet", "chosenAlike", "(ILColumnVault$Sheet;)J"⟩, prog_10_method_31_code, 6, some (.long), [], 13, 2, 0, 0, 0, 0) := ⟨(zt_in (j := 6) (k := 10) rfl rfl), rfl, (zt_in (j := 1) (k := 3) rfl rfl), (zt_in (j := 6) (k := 9) rfl rfl), Or.inr (zt_in (j := 0) (k := 36) rfl rfl), by decide +kernel, by decide, fun h => absurd h (by decide)⟩
set_option maxRecDepth 100000 in
theorem zt_m_197 : zt_mOK (⟨"ColumnVault$Sheet", "isAlike", "(ILColumnVault$Sheet;I)Z"⟩, prog_10_method_30_code, 5, some (.boolean), [], 13, 3, 0, 0, 0, 0) := ⟨(zt_in (j := 6) (k := 14) rfl rfl), rfl, (zt_in (j := 1) (k := 3) rfl rfl), (zt_in (j := 6) (k := 13) rfl rfl), Or.inr (zt_in (j := 0) (k := 37) rfl rfl), by decide +kernel, by decide, fun h => absurd h (by decide)⟩
set_option maxRecDepth 100000 in
theorem zt_m_198 : zt_mOK (⟨"ColumnVault$Sheet", "differentRows", "()J"⟩, prog_10_method_32_code, 4, some (.long), [], 13, 0, 0, 0, 0, 0) := ⟨(zt_in (j := 6) (k := 18) rfl rfl), rfl, (zt_in (j := 1) (k := 3) rfl rfl), (zt_in (j := 6) (k := 16) rfl rfl), Or.inr (zt_in (j := 6) (k := 17) rfl rfl), by decide +kernel, by decide, fun h => absurd h (by decide)⟩
set_option maxRecDepth 100000 in
theorem zt_m_199 : zt_mOK (⟨"ColumnVault$Sheet", "differentRowsOnlyHere", "(LColumnVault$Sheet;)I"⟩, prog_10_method_33_code, 6, some (.int), [], 13, 1, 0, 0, 0, 0) := ⟨(zt_in (j := 6) (k := 22) rfl rfl), rfl, (zt_in (j := 1) (k := 3) rfl rfl), (zt_in (j := 6) (k := 20) rfl rfl), Or.inr (zt_in (j := 6) (k := 21) rfl rfl), by decide +kernel, by decide, fun h => absurd h (by decide)⟩
set_option maxRecDepth 100000 in
theorem zt_m_200 : zt_mOK (⟨"ColumnVaultLaw", "errors", "(LColumnVault;I[J)I"⟩, method_37_code, 4, some (.int), [(0, 9, 12, 13)], 23, 3, 0, 1, 99999, 0) := ⟨(zt_in (j := 6) (k := 27) rfl rfl), rfl, (zt_in (j := 1) (k := 0) rfl rfl), (zt_in (j := 6) (k := 26) rfl rfl), Or.inl rfl, by decide +kernel, by decide, fun h => absurd h (by decide)⟩
set_option maxRecDepth 100000 in
theorem zt_m_201 : zt_mOK (⟨"ColumnVault", "errors", "(I)I"⟩, prog_1_method_38_code, 2, some (.int), [], 15, 1, 0, 0, 0, 0) := ⟨(zt_in (j := 6) (k := 31) rfl rfl), rfl, (zt_in (j := 1) (k := 1) rfl rfl), (zt_in (j := 6) (k := 29) rfl rfl), Or.inr (zt_in (j := 6) (k := 30) rfl rfl), by decide +kernel, by decide, fun h => absurd h (by decide)⟩
set_option maxRecDepth 100000 in
theorem zt_m_202 : zt_mOK (⟨"ColumnVault$Checks", "failuresOf", "(LColumnVault$Sheet;)I"⟩, prog_2_method_2_code, 5, some (.int), [], 5, 1, 0, 0, 0, 0) := ⟨(zt_in (j := 6) (k := 35) rfl rfl), rfl, (zt_in (j := 1) (k := 8) rfl rfl), (zt_in (j := 6) (k := 33) rfl rfl), Or.inr (zt_in (j := 6) (k := 34) rfl rfl), by decide +kernel, by decide, fun h => absurd h (by decide)⟩
set_option maxRecDepth 100000 in
theorem zt_m_203 : zt_mOK (⟨"ColumnVault$Checks", "isInBothOrders", "(LColumnVault$Sheet;II)Z"⟩, prog_2_method_3_code, 5, some (.boolean), [], 5, 3, 0, 0, 0, 0) := ⟨(zt_in (j := 6) (k := 39) rfl rfl), rfl, (zt_in (j := 1) (k := 8) rfl rfl), (zt_in (j := 6) (k := 38) rfl rfl), Or.inr (zt_in (j := 0) (k := 38) rfl rfl), by decide +kernel, by decide, fun h => absurd h (by decide)⟩
set_option maxRecDepth 100000 in
theorem zt_m_204 : zt_mOK (⟨"ColumnVault$Checks", "standsAhead", "(LColumnVault$Sheet;IIII)Z"⟩, prog_2_method_4_code, 10, some (.boolean), [], 5, 5, 0, 0, 0, 0) := ⟨(zt_in (j := 6) (k := 46) rfl rfl), rfl, (zt_in (j := 1) (k := 8) rfl rfl), (zt_in (j := 6) (k := 45) rfl rfl), Or.inr (zt_in (j := 0) (k := 39) rfl rfl), by decide +kernel, by decide, fun h => absurd h (by decide)⟩
set_option maxRecDepth 100000 in
theorem zt_m_205 : zt_mOK (⟨"ColumnVault$Checks", "groupFailures", "(LColumnVault$Sheet;I)I"⟩, prog_2_method_5_code, 6, some (.int), [], 5, 2, 0, 0, 0, 0) := ⟨(zt_in (j := 6) (k := 55) rfl rfl), rfl, (zt_in (j := 1) (k := 8) rfl rfl), (zt_in (j := 6) (k := 54) rfl rfl), Or.inr (zt_in (j := 0) (k := 40) rfl rfl), by decide +kernel, by decide, fun h => absurd h (by decide)⟩
set_option maxRecDepth 100000 in
theorem zt_m_206 : zt_mOK (⟨"ColumnVault$Checks", "sumOfGroups", "(I)J"⟩, prog_2_method_6_code, 5, some (.long), [], 5, 1, 0, 0, 0, 0) := ⟨(zt_in (j := 6) (k := 63) rfl rfl), rfl, (zt_in (j := 1) (k := 8) rfl rfl), (zt_in (j := 6) (k := 62) rfl rfl), Or.inr (zt_in (j := 0) (k := 41) rfl rfl), by decide +kernel, by decide, fun h => absurd h (by decide)⟩
set_option maxRecDepth 100000 in
theorem zt_m_207 : zt_mOK (⟨"ColumnVault$Checks", "rangeFailures", "(LColumnVault$Sheet;I)I"⟩, prog_2_method_7_code, 5, some (.int), [], 5, 2, 0, 0, 0, 0) := ⟨(zt_in (j := 6) (k := 68) rfl rfl), rfl, (zt_in (j := 1) (k := 8) rfl rfl), (zt_in (j := 6) (k := 67) rfl rfl), Or.inr (zt_in (j := 0) (k := 42) rfl rfl), by decide +kernel, by decide, fun h => absurd h (by decide)⟩
set_option maxRecDepth 100000 in
theorem zt_m_208 : zt_mOK (⟨"ColumnVault$Checks", "failuresFrom", "(IJ)I"⟩, prog_2_method_8_code, 7, some (.int), [], 5, 2, 0, 0, 0, 0) := ⟨(zt_in (j := 6) (k := 77) rfl rfl), rfl, (zt_in (j := 1) (k := 8) rfl rfl), (zt_in (j := 6) (k := 76) rfl rfl), Or.inr (zt_in (j := 0) (k := 43) rfl rfl), by decide +kernel, by decide, fun h => absurd h (by decide)⟩
set_option maxRecDepth 100000 in
theorem zt_m_209 : zt_mOK (⟨"ColumnVaultLaw", "meanOf", "(LColumnVault;II[D)I"⟩, method_38_code, 5, some (.int), [(0, 9, 12, 13), (0, 9, 16, 15)], 23, 4, 0, 1, 99999, 0) := ⟨(zt_in (j := 6) (k := 80) rfl rfl), rfl, (zt_in (j := 1) (k := 0) rfl rfl), (zt_in (j := 6) (k := 79) rfl rfl), Or.inl rfl, by decide +kernel, by decide, fun h => absurd h (by decide)⟩
set_option maxRecDepth 100000 in
theorem zt_m_210 : zt_mOK (⟨"ColumnVault", "meanOf", "(II)D"⟩, prog_1_method_39_code, 5, some (.double), [], 15, 2, 0, 0, 0, 0) := ⟨(zt_in (j := 6) (k := 84) rfl rfl), rfl, (zt_in (j := 1) (k := 1) rfl rfl), (zt_in (j := 6) (k := 82) rfl rfl), Or.inr (zt_in (j := 6) (k := 83) rfl rfl), by decide +kernel, by decide, fun h => absurd h (by decide)⟩
set_option maxRecDepth 100000 in
theorem zt_m_211 : zt_mOK (⟨"ColumnVaultLaw", "chosenShare", "(LColumnVault;I[D)I"⟩, method_39_code, 4, some (.int), [(0, 9, 12, 13)], 23, 3, 0, 1, 99999, 0) := ⟨(zt_in (j := 6) (k := 87) rfl rfl), rfl, (zt_in (j := 1) (k := 0) rfl rfl), (zt_in (j := 6) (k := 86) rfl rfl), Or.inl rfl, by decide +kernel, by decide, fun h => absurd h (by decide)⟩
set_option maxRecDepth 100000 in
theorem zt_m_212 : zt_mOK (⟨"ColumnVault", "chosenShare", "(I)F"⟩, prog_1_method_40_code, 3, some (.float), [], 15, 1, 0, 0, 0, 0) := ⟨(zt_in (j := 6) (k := 91) rfl rfl), rfl, (zt_in (j := 1) (k := 1) rfl rfl), (zt_in (j := 6) (k := 89) rfl rfl), Or.inr (zt_in (j := 6) (k := 90) rfl rfl), by decide +kernel, by decide, fun h => absurd h (by decide)⟩
set_option maxRecDepth 100000 in
theorem zt_m_213 : zt_mOK (⟨"ColumnVaultModel", "thrown", "()I"⟩, prog_13_method_1_code, 1, some (.int), [], 18, 0, 0, 0, 0, 0) := ⟨(zt_in (j := 6) (k := 95) rfl rfl), rfl, (zt_in (j := 1) (k := 9) rfl rfl), (zt_in (j := 6) (k := 93) rfl rfl), Or.inr (zt_in (j := 6) (k := 94) rfl rfl), by decide +kernel, by decide, fun h => absurd h (by decide)⟩
set_option maxRecDepth 100000 in
theorem zt_m_214 : zt_mOK (⟨"ColumnVaultModel", "<init>", "()V"⟩, prog_13_method_8_code, 2, none, [], 18, 0, 0, 2, 99999, 0) := ⟨(zt_in (j := 6) (k := 100) rfl rfl), rfl, (zt_in (j := 1) (k := 9) rfl rfl), (zt_in (j := 6) (k := 99) rfl rfl), Or.inl rfl, by decide +kernel, by decide, fun _ => rfl⟩
set_option maxRecDepth 100000 in
theorem zt_m_215 : zt_mOK (⟨"ColumnVaultModel$Table", "<init>", "()V"⟩, prog_15_method_1_code, 1, none, [], 17, 0, 0, 2, 99999, 0) := ⟨(zt_in (j := 6) (k := 107) rfl rfl), rfl, (zt_in (j := 1) (k := 10) rfl rfl), (zt_in (j := 6) (k := 106) rfl rfl), Or.inl rfl, by decide +kernel, by decide, fun _ => rfl⟩
set_option maxRecDepth 100000 in
theorem zt_m_216 : zt_mOK (⟨"java/util/ArrayList", "<init>", "()V"⟩, prog_45_method_2_code, 1, none, [], 4, 0, 0, 2, 99999, 0) := ⟨(zt_in (j := 6) (k := 113) rfl rfl), rfl, (zt_in (j := 1) (k := 13) rfl rfl), (zt_in (j := 6) (k := 112) rfl rfl), Or.inl rfl, by decide +kernel, by decide, fun _ => rfl⟩
set_option maxRecDepth 100000 in
theorem zt_m_217 : zt_mOK (⟨"java/util/AbstractList", "<init>", "()V"⟩, prog_44_method_1_code, 1, none, [], 28, 0, 0, 2, 99999, 0) := ⟨(zt_in (j := 6) (k := 116) rfl rfl), rfl, (zt_in (j := 1) (k := 12) rfl rfl), (zt_in (j := 6) (k := 115) rfl rfl), Or.inl rfl, by decide +kernel, by decide, fun _ => rfl⟩
set_option maxRecDepth 100000 in
theorem zt_m_218 : zt_mOK (⟨"java/util/AbstractCollection", "<init>", "()V"⟩, prog_43_method_1_code, 1, none, [], 29, 0, 0, 2, 99999, 0) := ⟨(zt_in (j := 6) (k := 119) rfl rfl), rfl, (zt_in (j := 1) (k := 11) rfl rfl), (zt_in (j := 6) (k := 118) rfl rfl), Or.inl rfl, by decide +kernel, by decide, fun _ => rfl⟩
set_option maxRecDepth 100000 in
theorem zt_m_219 : zt_mOK (⟨"ColumnVaultModel", "copies", "([LColumnVaultModel$Table;)[LColumnVaultModel$Table;"⟩, prog_13_method_9_code, 3, some (.array (.object "ColumnVaultModel$Table")), [], 18, 1, 0, 1, 99999, 0) := ⟨(zt_in (j := 6) (k := 156) rfl rfl), rfl, (zt_in (j := 1) (k := 9) rfl rfl), (zt_in (j := 6) (k := 155) rfl rfl), Or.inl rfl, by decide +kernel, by decide, fun h => absurd h (by decide)⟩
set_option maxRecDepth 100000 in
theorem zt_m_220 : zt_mOK (⟨"ColumnVaultModel$Table", "copy", "()LColumnVaultModel$Table;"⟩, prog_15_method_2_code, 5, some (.object "ColumnVaultModel$Table"), [], 17, 0, 0, 0, 0, 0) := ⟨(zt_in (j := 6) (k := 160) rfl rfl), rfl, (zt_in (j := 1) (k := 10) rfl rfl), (zt_in (j := 6) (k := 158) rfl rfl), Or.inr (zt_in (j := 6) (k := 159) rfl rfl), by decide +kernel, by decide, fun h => absurd h (by decide)⟩
set_option maxRecDepth 100000 in
theorem zt_m_221 : zt_mOK (⟨"java/util/ArrayList", "size", "()I"⟩, prog_45_method_8_code, 1, some (.int), [], 4, 0, 0, 0, 99999, 0) := ⟨(zt_in (j := 6) (k := 172) rfl rfl), rfl, (zt_in (j := 1) (k := 13) rfl rfl), (zt_in (j := 6) (k := 170) rfl rfl), Or.inl rfl, by decide +kernel, by decide, fun h => absurd h (by decide)⟩
set_option maxRecDepth 100000 in
theorem zt_m_222 : zt_mOK (⟨"java/util/ArrayList", "get", "(I)Ljava/lang/Object;"⟩, prog_45_method_20_code, 2, some (.object "java/lang/Object"), [], 4, 1, 0, 0, 99999, 0) := ⟨(zt_in (j := 6) (k := 181) rfl rfl), rfl, (zt_in (j := 1) (k := 13) rfl rfl), (zt_in (j := 6) (k := 179) rfl rfl), Or.inl rfl, by decide +kernel, by decide, fun h => absurd h (by decide)⟩
set_option maxRecDepth 100000 in
theorem zt_m_223 : zt_mOK (⟨"java/util/Objects", "checkIndex", "(II)I"⟩, prog_50_method_17_code, 2, some (.int), [], 30, 2, 0, 1, 99999, 0) := ⟨(zt_in (j := 6) (k := 184) rfl rfl), rfl, (zt_in (j := 1) (k := 14) rfl rfl), (zt_in (j := 6) (k := 183) rfl rfl), Or.inl rfl, by decide +kernel, by decide, fun h => absurd h (by decide)⟩
set_option maxRecDepth 100000 in
theorem zt_m_224 : zt_mOK (⟨"java/util/ArrayList", "elementData", "(I)Ljava/lang/Object;"⟩, prog_45_method_18_code, 2, some (.object "java/lang/Object"), [], 4, 1, 0, 0, 0, 0) := ⟨(zt_in (j := 6) (k := 189) rfl rfl), rfl, (zt_in (j := 1) (k := 13) rfl rfl), (zt_in (j := 6) (k := 187) rfl rfl), Or.inr (zt_in (j := 6) (k := 188) rfl rfl), by decide +kernel, by decide, fun h => absurd h (by decide)⟩
set_option maxRecDepth 100000 in
theorem zt_m_225 : zt_mOK (⟨"java/util/ArrayList", "add", "(Ljava/lang/Object;)Z"⟩, prog_45_method_25_code, 2, some (.boolean), [], 4, 1, 0, 0, 99999, 0) := ⟨(zt_in (j := 6) (k := 199) rfl rfl), rfl, (zt_in (j := 1) (k := 13) rfl rfl), (zt_in (j := 6) (k := 197) rfl rfl), Or.inl rfl, by decide +kernel, by decide, fun h => absurd h (by decide)⟩
set_option maxRecDepth 100000 in
theorem zt_m_226 : zt_mOK (⟨"java/util/ArrayList", "add", "(Ljava/lang/Object;[Ljava/lang/Object;I)V"⟩, prog_45_method_24_code, 4, none, [], 4, 3, 0, 0, 0, 0) := ⟨(zt_in (j := 6) (k := 203) rfl rfl), rfl, (zt_in (j := 1) (k := 13) rfl rfl), (zt_in (j := 6) (k := 202) rfl rfl), Or.inr (zt_in (j := 0) (k := 44) rfl rfl), by decide +kernel, by decide, fun h => absurd h (by decide)⟩
set_option maxRecDepth 100000 in
theorem zt_m_227 : zt_mOK (⟨"java/util/ArrayList", "grow", "()[Ljava/lang/Object;"⟩, prog_45_method_7_code, 1, some (.array (.object "java/lang/Object")), [], 4, 0, 0, 0, 0, 0) := ⟨(zt_in (j := 6) (k := 207) rfl rfl), rfl, (zt_in (j := 1) (k := 13) rfl rfl), (zt_in (j := 6) (k := 206) rfl rfl), Or.inr (zt_in (j := 0) (k := 45) rfl rfl), by decide +kernel, by decide, fun h => absurd h (by decide)⟩
set_option maxRecDepth 100000 in
theorem zt_m_228 : zt_mOK (⟨"java/util/ArrayList", "grow", "(I)[Ljava/lang/Object;"⟩, prog_45_method_6_code, 4, some (.array (.object "java/lang/Object")), [], 4, 1, 0, 0, 0, 0) := ⟨(zt_in (j := 6) (k := 211) rfl rfl), rfl, (zt_in (j := 1) (k := 13) rfl rfl), (zt_in (j := 6) (k := 210) rfl rfl), Or.inr (zt_in (j := 0) (k := 46) rfl rfl), by decide +kernel, by decide, fun h => absurd h (by decide)⟩
set_option maxRecDepth 100000 in
theorem zt_m_229 : zt_mOK (⟨"jdk/internal/util/ArraysSupport", "newLength", "(III)I"⟩, prog_53_method_27_code, 4, some (.int), [], 31, 3, 0, 1, 99999, 0) := ⟨(zt_in (j := 6) (k := 214) rfl rfl), rfl, (zt_in (j := 1) (k := 16) rfl rfl), (zt_in (j := 6) (k := 213) rfl rfl), Or.inl rfl, by decide +kernel, by decide, fun h => absurd h (by decide)⟩
set_option maxRecDepth 100000 in
theorem zt_m_230 : zt_mOK (⟨"jdk/internal/util/ArraysSupport", "hugeLength", "(II)I"⟩, prog_53_method_28_code, 3, some (.int), [], 31, 2, 0, 1, 99999, 0) := ⟨(zt_in (j := 6) (k := 219) rfl rfl), rfl, (zt_in (j := 1) (k := 16) rfl rfl), (zt_in (j := 6) (k := 218) rfl rfl), Or.inl rfl, by decide +kernel, by decide, fun h => absurd h (by decide)⟩
set_option maxRecDepth 100000 in
theorem zt_m_231 : zt_mOK (⟨"java/util/Arrays", "copyOf", "([Ljava/lang/Object;I)[Ljava/lang/Object;"⟩, prog_46_method_119_code, 2, some (.array (.object "java/lang/Object")), [], 32, 2, 0, 1, 99999, 0) := ⟨(zt_in (j := 6) (k := 222) rfl rfl), rfl, (zt_in (j := 1) (k := 18) rfl rfl), (zt_in (j := 6) (k := 221) rfl rfl), Or.inl rfl, by decide +kernel, by decide, fun h => absurd h (by decide)⟩
set_option maxRecDepth 100000 in
theorem zt_m_232 : zt_mOK (⟨"java/util/Arrays", "copyOf", "([Ljava/lang/Object;ILjava/lang/Class;)[Ljava/lang/Object;"⟩, prog_46_method_120_code, 4, some (.array (.object "java/lang/Object")), [], 32, 3, 0, 1, 99999, 0) := ⟨(zt_in (j := 7) (k := 13) rfl rfl), rfl, (zt_in (j := 1) (k := 18) rfl rfl), (zt_in (j := 7) (k := 12) rfl rfl), Or.inl rfl, by decide +kernel, by decide, fun h => absurd h (by decide)⟩
set_option maxRecDepth 100000 in
theorem zt_m_233 : zt_mOK (⟨"java/lang/Math", "min", "(II)I"⟩, prog_32_method_69_code, 2, some (.int), [], 24, 2, 0, 1, 99999, 0) := ⟨(zt_in (j := 7) (k := 19) rfl rfl), rfl, (zt_in (j := 1) (k := 17) rfl rfl), (zt_in (j := 7) (k := 18) rfl rfl), Or.inl rfl, by decide +kernel, by decide, fun h => absurd h (by decide)⟩
set_option maxRecDepth 100000 in
theorem zt_m_234 : zt_mOK (⟨"ColumnVaultModel", "addColumn", "(II)I"⟩, prog_13_method_14_code, 5, some (.int), [], 18, 2, 0, 0, 0, 0) := ⟨(zt_in (j := 7) (k := 79) rfl rfl), rfl, (zt_in (j := 1) (k := 9) rfl rfl), (zt_in (j := 7) (k := 77) rfl rfl), Or.inr (zt_in (j := 7) (k := 78) rfl rfl), by decide +kernel, by decide, fun h => absurd h (by decide)⟩
set_option maxRecDepth 100000 in
theorem zt_m_235 : zt_mOK (⟨"ColumnVaultModel", "isTable", "(I)Z"⟩, prog_13_method_11_code, 1, some (.boolean), [], 18, 1, 0, 1, 99999, 0) := ⟨(zt_in (j := 7) (k := 82) rfl rfl), rfl, (zt_in (j := 1) (k := 9) rfl rfl), (zt_in (j := 7) (k := 81) rfl rfl), Or.inl rfl, by decide +kernel, by decide, fun h => absurd h (by decide)⟩
set_option maxRecDepth 100000 in
theorem zt_m_236 : zt_mOK (⟨"ColumnVaultModel", "in", "(JJJ)Z"⟩, prog_13_method_2_code, 6, some (.boolean), [], 18, 3, 0, 1, 99999, 0) := ⟨(zt_in (j := 7) (k := 86) rfl rfl), rfl, (zt_in (j := 1) (k := 9) rfl rfl), (zt_in (j := 7) (k := 85) rfl rfl), Or.inl rfl, by decide +kernel, by decide, fun h => absurd h (by decide)⟩
set_option maxRecDepth 100000 in
theorem zt_m_237 : zt_mOK (⟨"ColumnVaultModel$Table", "columns", "()I"⟩, prog_15_method_3_code, 1, some (.int), [], 17, 0, 0, 0, 0, 0) := ⟨(zt_in (j := 7) (k := 90) rfl rfl), rfl, (zt_in (j := 1) (k := 10) rfl rfl), (zt_in (j := 7) (k := 88) rfl rfl), Or.inr (zt_in (j := 7) (k := 89) rfl rfl), by decide +kernel, by decide, fun h => absurd h (by decide)⟩
set_option maxRecDepth 100000 in
theorem zt_m_238 : zt_mOK (⟨"ColumnVaultModel", "passes", "(ZZZ)Z"⟩, prog_13_method_3_code, 4, some (.boolean), [], 18, 3, 0, 0, 0, 0) := ⟨(zt_in (j := 7) (k := 94) rfl rfl), rfl, (zt_in (j := 1) (k := 9) rfl rfl), (zt_in (j := 7) (k := 93) rfl rfl), Or.inr (zt_in (j := 0) (k := 47) rfl rfl), by decide +kernel, by decide, fun h => absurd h (by decide)⟩
set_option maxRecDepth 100000 in
theorem zt_m_239 : zt_mOK (⟨"java/lang/Integer", "valueOf", "(I)Ljava/lang/Integer;"⟩, prog_27_method_22_code, 1, some (.object "java/lang/Integer"), [], 2, 1, 0, 1, 99999, 0) := ⟨(zt_in (j := 7) (k := 97) rfl rfl), rfl, (zt_in (j := 1) (k := 27) rfl rfl), (zt_in (j := 7) (k := 96) rfl rfl), Or.inl rfl, by decide +kernel, by decide, fun h => absurd h (by decide)⟩
set_option maxRecDepth 100000 in
theorem zt_m_240 : zt_mOK (⟨"java/lang/Integer", "<init>", "(I)V"⟩, prog_27_method_23_code, 2, none, [], 2, 1, 0, 2, 99999, 0) := ⟨(zt_in (j := 7) (k := 106) rfl rfl), rfl, (zt_in (j := 1) (k := 27) rfl rfl), (zt_in (j := 7) (k := 105) rfl rfl), Or.inl rfl, by decide +kernel, by decide, fun _ => rfl⟩
set_option maxRecDepth 100000 in
theorem zt_m_241 : zt_mOK (⟨"java/lang/Number", "<init>", "()V"⟩, prog_33_method_1_code, 1, none, [], 33, 0, 0, 2, 99999, 0) := ⟨(zt_in (j := 7) (k := 109) rfl rfl), rfl, (zt_in (j := 1) (k := 26) rfl rfl), (zt_in (j := 7) (k := 108) rfl rfl), Or.inl rfl, by decide +kernel, by decide, fun _ => rfl⟩
set_option maxRecDepth 100000 in
theorem zt_m_242 : zt_mOK (⟨"ColumnVaultModel", "changed", "(I)I"⟩, prog_13_method_10_code, 4, some (.int), [], 18, 1, 0, 0, 0, 0) := ⟨(zt_in (j := 7) (k := 118) rfl rfl), rfl, (zt_in (j := 1) (k := 9) rfl rfl), (zt_in (j := 7) (k := 117) rfl rfl), Or.inr (zt_in (j := 0) (k := 48) rfl rfl), by decide +kernel, by decide, fun h => absurd h (by decide)⟩
set_option maxRecDepth 100000 in
theorem zt_m_243 : zt_mOK (⟨"java/util/ArrayList", "remove", "(I)Ljava/lang/Object;"⟩, prog_45_method_29_code, 4, some (.object "java/lang/Object"), [], 4, 1, 0, 0, 99999, 0) := ⟨(zt_in (j := 7) (k := 129) rfl rfl), rfl, (zt_in (j := 1) (k := 13) rfl rfl), (zt_in (j := 7) (k := 127) rfl rfl), Or.inl rfl, by decide +kernel, by decide, fun h => absurd h (by decide)⟩
set_option maxRecDepth 100000 in
theorem zt_m_244 : zt_mOK (⟨"java/util/ArrayList", "fastRemove", "([Ljava/lang/Object;I)V"⟩, prog_45_method_39_code, 4, none, [], 4, 2, 0, 0, 0, 0) := ⟨(zt_in (j := 7) (k := 133) rfl rfl), rfl, (zt_in (j := 1) (k := 13) rfl rfl), (zt_in (j := 7) (k := 132) rfl rfl), Or.inr (zt_in (j := 0) (k := 49) rfl rfl), by decide +kernel, by decide, fun h => absurd h (by decide)⟩
set_option maxRecDepth 100000 in
theorem zt_m_245 : zt_mOK (⟨"ColumnVaultModel", "addRow", "(I)I"⟩, prog_13_method_15_code, 3, some (.int), [], 18, 1, 0, 0, 0, 0) := ⟨(zt_in (j := 7) (k := 139) rfl rfl), rfl, (zt_in (j := 1) (k := 9) rfl rfl), (zt_in (j := 7) (k := 137) rfl rfl), Or.inr (zt_in (j := 7) (k := 138) rfl rfl), by decide +kernel, by decide, fun h => absurd h (by decide)⟩
set_option maxRecDepth 100000 in
theorem zt_m_246 : zt_mOK (⟨"ColumnVaultModel$Table", "rows", "()I"⟩, prog_15_method_4_code, 1, some (.int), [], 17, 0, 0, 0, 0, 0) := ⟨(zt_in (j := 7) (k := 143) rfl rfl), rfl, (zt_in (j := 1) (k := 10) rfl rfl), (zt_in (j := 7) (k := 141) rfl rfl), Or.inr (zt_in (j := 7) (k := 142) rfl rfl), by decide +kernel, by decide, fun h => absurd h (by decide)⟩
set_option maxRecDepth 100000 in
theorem zt_m_247 : zt_mOK (⟨"ColumnVaultModel$Table", "addRow", "()I"⟩, prog_15_method_9_code, 3, some (.int), [], 17, 0, 0, 0, 0, 0) := ⟨(zt_in (j := 7) (k := 147) rfl rfl), rfl, (zt_in (j := 1) (k := 10) rfl rfl), (zt_in (j := 7) (k := 145) rfl rfl), Or.inr (zt_in (j := 7) (k := 146) rfl rfl), by decide +kernel, by decide, fun h => absurd h (by decide)⟩
set_option maxRecDepth 100000 in
theorem zt_m_248 : zt_mOK (⟨"java/lang/Boolean", "valueOf", "(Z)Ljava/lang/Boolean;"⟩, prog_19_method_5_code, 1, some (.object "java/lang/Boolean"), [], 34, 1, 0, 1, 99999, 0) := ⟨(zt_in (j := 7) (k := 152) rfl rfl), rfl, (zt_in (j := 1) (k := 29) rfl rfl), (zt_in (j := 7) (k := 151) rfl rfl), Or.inl rfl, by decide +kernel, by decide, fun h => absurd h (by decide)⟩
set_option maxRecDepth 100000 in
theorem zt_m_249 : zt_mOK (⟨"ColumnVaultModel", "fill", "(IIIII)I"⟩, prog_13_method_16_code, 10, some (.int), [], 18, 5, 0, 0, 0, 0) := ⟨(zt_in (j := 7) (k := 160) rfl rfl), rfl, (zt_in (j := 1) (k := 9) rfl rfl), (zt_in (j := 7) (k := 158) rfl rfl), Or.inr (zt_in (j := 7) (k := 159) rfl rfl), by decide +kernel, by decide, fun h => absurd h (by decide)⟩
set_option maxRecDepth 100000 in
theorem zt_m_250 : zt_mOK (⟨"ColumnVaultModel", "isColumn", "(II)Z"⟩, prog_13_method_12_code, 3, some (.boolean), [], 18, 2, 0, 0, 0, 0) := ⟨(zt_in (j := 7) (k := 164) rfl rfl), rfl, (zt_in (j := 1) (k := 9) rfl rfl), (zt_in (j := 7) (k := 163) rfl rfl), Or.inr (zt_in (j := 0) (k := 50) rfl rfl), by decide +kernel, by decide, fun h => absurd h (by decide)⟩
set_option maxRecDepth 100000 in
theorem zt_m_251 : zt_mOK (⟨"ColumnVaultModel$Table", "kind", "(I)I"⟩, prog_15_method_7_code, 2, some (.int), [], 17, 1, 0, 0, 0, 0) := ⟨(zt_in (j := 7) (k := 173) rfl rfl), rfl, (zt_in (j := 1) (k := 10) rfl rfl), (zt_in (j := 7) (k := 171) rfl rfl), Or.inr (zt_in (j := 7) (k := 172) rfl rfl), by decide +kernel, by decide, fun h => absurd h (by decide)⟩
set_option maxRecDepth 100000 in
theorem zt_m_252 : zt_mOK (⟨"java/lang/Integer", "intValue", "()I"⟩, prog_27_method_27_code, 1, some (.int), [], 2, 0, 0, 0, 0, 0) := ⟨(zt_in (j := 7) (k := 177) rfl rfl), rfl, (zt_in (j := 1) (k := 27) rfl rfl), (zt_in (j := 7) (k := 175) rfl rfl), Or.inr (zt_in (j := 7) (k := 176) rfl rfl), by decide +kernel, by decide, fun h => absurd h (by decide)⟩
set_option maxRecDepth 100000 in
theorem zt_m_253 : zt_mOK (⟨"ColumnVaultModel", "set", "(IIIJ)Z"⟩, prog_13_method_17_code, 8, some (.boolean), [], 18, 4, 0, 0, 0, 0) := ⟨(zt_in (j := 7) (k := 184) rfl rfl), rfl, (zt_in (j := 1) (k := 9) rfl rfl), (zt_in (j := 7) (k := 182) rfl rfl), Or.inr (zt_in (j := 7) (k := 183) rfl rfl), by decide +kernel, by decide, fun h => absurd h (by decide)⟩
set_option maxRecDepth 100000 in
theorem zt_m_254 : zt_mOK (⟨"ColumnVaultModel", "isRow", "(II)Z"⟩, prog_13_method_13_code, 3, some (.boolean), [], 18, 2, 0, 0, 0, 0) := ⟨(zt_in (j := 7) (k := 188) rfl rfl), rfl, (zt_in (j := 1) (k := 9) rfl rfl), (zt_in (j := 7) (k := 187) rfl rfl), Or.inr (zt_in (j := 0) (k := 51) rfl rfl), by decide +kernel, by decide, fun h => absurd h (by decide)⟩
set_option maxRecDepth 100000 in
theorem zt_m_255 : zt_mOK (⟨"ColumnVaultModel", "isValue", "(IJ)Z"⟩, prog_13_method_5_code, 3, some (.boolean), [], 18, 2, 0, 1, 99999, 0) := ⟨(zt_in (j := 7) (k := 192) rfl rfl), rfl, (zt_in (j := 1) (k := 9) rfl rfl), (zt_in (j := 7) (k := 191) rfl rfl), Or.inl rfl, by decide +kernel, by decide, fun h => absurd h (by decide)⟩
set_option maxRecDepth 100000 in
theorem zt_m_256 : zt_mOK (⟨"ColumnVaultModel", "isText", "(J)Z"⟩, prog_13_method_4_code, 5, some (.boolean), [], 18, 1, 0, 1, 99999, 0) := ⟨(zt_in (j := 7) (k := 195) rfl rfl), rfl, (zt_in (j := 1) (k := 9) rfl rfl), (zt_in (j := 7) (k := 194) rfl rfl), Or.inl rfl, by decide +kernel, by decide, fun h => absurd h (by decide)⟩
set_option maxRecDepth 100000 in
theorem zt_m_257 : zt_mOK (⟨"ColumnVaultModel$Table", "value", "(II)J"⟩, prog_15_method_5_code, 3, some (.long), [], 17, 2, 0, 0, 0, 0) := ⟨(zt_in (j := 7) (k := 203) rfl rfl), rfl, (zt_in (j := 1) (k := 10) rfl rfl), (zt_in (j := 7) (k := 201) rfl rfl), Or.inr (zt_in (j := 7) (k := 202) rfl rfl), by decide +kernel, by decide, fun h => absurd h (by decide)⟩
set_option maxRecDepth 100000 in
theorem zt_m_258 : zt_mOK (⟨"ColumnVaultModel", "remove", "(II)I"⟩, prog_13_method_18_code, 3, some (.int), [], 18, 2, 0, 0, 0, 0) := ⟨(zt_in (j := 7) (k := 207) rfl rfl), rfl, (zt_in (j := 1) (k := 9) rfl rfl), (zt_in (j := 7) (k := 205) rfl rfl), Or.inr (zt_in (j := 7) (k := 206) rfl rfl), by decide +kernel, by decide, fun h => absurd h (by decide)⟩
set_option maxRecDepth 100000 in
theorem zt_m_259 : zt_mOK (⟨"ColumnVaultModel$Table", "remove", "(I)V"⟩, prog_15_method_10_code, 8, none, [], 17, 1, 0, 0, 0, 0) := ⟨(zt_in (j := 7) (k := 211) rfl rfl), rfl, (zt_in (j := 1) (k := 10) rfl rfl), (zt_in (j := 7) (k := 209) rfl rfl), Or.inr (zt_in (j := 7) (k := 210) rfl rfl), by decide +kernel, by decide, fun h => absurd h (by decide)⟩
set_option maxRecDepth 100000 in
theorem zt_m_260 : zt_mOK (⟨"java/lang/Boolean", "booleanValue", "()Z"⟩, prog_19_method_4_code, 1, some (.boolean), [], 34, 0, 0, 0, 0, 0) := ⟨(zt_in (j := 7) (k := 217) rfl rfl), rfl, (zt_in (j := 1) (k := 29) rfl rfl), (zt_in (j := 7) (k := 215) rfl rfl), Or.inr (zt_in (j := 7) (k := 216) rfl rfl), by decide +kernel, by decide, fun h => absurd h (by decide)⟩
set_option maxRecDepth 100000 in
theorem zt_m_261 : zt_mOK (⟨"ColumnVaultModel$Table", "placeOf", "(I)I"⟩, prog_15_method_11_code, 3, some (.int), [], 17, 1, 0, 0, 0, 0) := ⟨(zt_in (j := 7) (k := 221) rfl rfl), rfl, (zt_in (j := 1) (k := 10) rfl rfl), (zt_in (j := 7) (k := 219) rfl rfl), Or.inr (zt_in (j := 7) (k := 220) rfl rfl), by decide +kernel, by decide, fun h => absurd h (by decide)⟩
set_option maxRecDepth 100000 in
theorem zt_m_262 : zt_mOK (⟨"java/util/ArrayList", "set", "(ILjava/lang/Object;)Ljava/lang/Object;"⟩, prog_45_method_23_code, 4, some (.object "java/lang/Object"), [], 4, 2, 0, 0, 99999, 0) := ⟨(zt_in (j := 7) (k := 230) rfl rfl), rfl, (zt_in (j := 1) (k := 13) rfl rfl), (zt_in (j := 7) (k := 228) rfl rfl), Or.inl rfl, by decide +kernel, by decide, fun h => absurd h (by decide)⟩
set_option maxRecDepth 100000 in
theorem zt_m_263 : zt_mOK (⟨"ColumnVaultModel", "get", "(III)J"⟩, prog_13_method_19_code, 4, some (.long), [], 18, 3, 0, 0, 0, 0) := ⟨(zt_in (j := 7) (k := 234) rfl rfl), rfl, (zt_in (j := 1) (k := 9) rfl rfl), (zt_in (j := 7) (k := 232) rfl rfl), Or.inr (zt_in (j := 7) (k := 233) rfl rfl), by decide +kernel, by decide, fun h => absurd h (by decide)⟩
set_option maxRecDepth 100000 in
theorem zt_m_264 : zt_mOK (⟨"ColumnVaultModel", "size", "(II)I"⟩, prog_13_method_21_code, 4, some (.int), [], 18, 2, 0, 0, 0, 0) := ⟨(zt_in (j := 7) (k := 238) rfl rfl), rfl, (zt_in (j := 1) (k := 9) rfl rfl), (zt_in (j := 7) (k := 236) rfl rfl), Or.inr (zt_in (j := 7) (k := 237) rfl rfl), by decide +kernel, by decide, fun h => absurd h (by decide)⟩
set_option maxRecDepth 100000 in
theorem zt_m_265 : zt_mOK (⟨"ColumnVaultModel$Table", "chosenRows", "()I"⟩, prog_15_method_12_code, 3, some (.int), [], 17, 0, 0, 0, 0, 0) := ⟨(zt_in (j := 8) (k := 3) rfl rfl), rfl, (zt_in (j := 1) (k := 10) rfl rfl), (zt_in (j := 8) (k := 1) rfl rfl), Or.inr (zt_in (j := 8) (k := 2) rfl rfl), by decide +kernel, by decide, fun h => absurd h (by decide)⟩
set_option maxRecDepth 100000 in
theorem zt_m_266 : zt_mOK (⟨"ColumnVaultModel$Table", "isChosen", "(I)Z"⟩, prog_15_method_8_code, 2, some (.boolean), [], 17, 1, 0, 0, 0, 0) := ⟨(zt_in (j := 8) (k := 8) rfl rfl), rfl, (zt_in (j := 1) (k := 10) rfl rfl), (zt_in (j := 8) (k := 6) rfl rfl), Or.inr (zt_in (j := 8) (k := 7) rfl rfl), by decide +kernel, by decide, fun h => absurd h (by decide)⟩
set_option maxRecDepth 100000 in
theorem zt_m_267 : zt_mOK (⟨"ColumnVaultModel", "missing", "(LColumnVaultModel$Table;)I"⟩, prog_13_method_20_code, 4, some (.int), [], 18, 1, 0, 1, 99999, 0) := ⟨(zt_in (j := 8) (k := 11) rfl rfl), rfl, (zt_in (j := 1) (k := 9) rfl rfl), (zt_in (j := 8) (k := 10) rfl rfl), Or.inl rfl, by decide +kernel, by decide, fun h => absurd h (by decide)⟩
set_option maxRecDepth 100000 in
theorem zt_m_268 : zt_mOK (⟨"ColumnVaultModel$Table", "isThere", "(II)Z"⟩, prog_15_method_6_code, 3, some (.boolean), [], 17, 2, 0, 0, 0, 0) := ⟨(zt_in (j := 8) (k := 15) rfl rfl), rfl, (zt_in (j := 1) (k := 10) rfl rfl), (zt_in (j := 8) (k := 13) rfl rfl), Or.inr (zt_in (j := 8) (k := 14) rfl rfl), by decide +kernel, by decide, fun h => absurd h (by decide)⟩
set_option maxRecDepth 100000 in
theorem zt_m_269 : zt_mOK (⟨"ColumnVaultModel", "kind", "(II)I"⟩, prog_13_method_22_code, 3, some (.int), [], 18, 2, 0, 0, 0, 0) := ⟨(zt_in (j := 8) (k := 20) rfl rfl), rfl, (zt_in (j := 1) (k := 9) rfl rfl), (zt_in (j := 8) (k := 18) rfl rfl), Or.inr (zt_in (j := 8) (k := 19) rfl rfl), by decide +kernel, by decide, fun h => absurd h (by decide)⟩
set_option maxRecDepth 100000 in
theorem zt_m_270 : zt_mOK (⟨"ColumnVaultModel", "version", "()I"⟩, prog_13_method_23_code, 1, some (.int), [], 18, 0, 0, 0, 0, 0) := ⟨(zt_in (j := 8) (k := 24) rfl rfl), rfl, (zt_in (j := 1) (k := 9) rfl rfl), (zt_in (j := 8) (k := 22) rfl rfl), Or.inr (zt_in (j := 8) (k := 23) rfl rfl), by decide +kernel, by decide, fun h => absurd h (by decide)⟩
set_option maxRecDepth 100000 in
theorem zt_m_271 : zt_mOK (⟨"ColumnVaultModel", "back", "(I)I"⟩, prog_13_method_24_code, 4, some (.int), [], 18, 1, 0, 0, 0, 0) := ⟨(zt_in (j := 8) (k := 28) rfl rfl), rfl, (zt_in (j := 1) (k := 9) rfl rfl), (zt_in (j := 8) (k := 26) rfl rfl), Or.inr (zt_in (j := 8) (k := 27) rfl rfl), by decide +kernel, by decide, fun h => absurd h (by decide)⟩
set_option maxRecDepth 100000 in
theorem zt_m_272 : zt_mOK (⟨"ColumnVaultModel", "sort", "(IIZZ)I"⟩, prog_13_method_25_code, 5, some (.int), [], 18, 4, 0, 0, 0, 0) := ⟨(zt_in (j := 8) (k := 32) rfl rfl), rfl, (zt_in (j := 1) (k := 9) rfl rfl), (zt_in (j := 8) (k := 30) rfl rfl), Or.inr (zt_in (j := 8) (k := 31) rfl rfl), by decide +kernel, by decide, fun h => absurd h (by decide)⟩
set_option maxRecDepth 100000 in
theorem zt_m_273 : zt_mOK (⟨"ColumnVaultModel$Table", "sort", "(IZZ)I"⟩, prog_15_method_14_code, 9, some (.int), [], 17, 3, 0, 0, 0, 0) := ⟨(zt_in (j := 8) (k := 36) rfl rfl), rfl, (zt_in (j := 1) (k := 10) rfl rfl), (zt_in (j := 8) (k := 34) rfl rfl), Or.inr (zt_in (j := 8) (k := 35) rfl rfl), by decide +kernel, by decide, fun h => absurd h (by decide)⟩
set_option maxRecDepth 100000 in
theorem zt_m_274 : zt_mOK (⟨"ColumnVaultModel$Table", "isAhead", "(IIIZZ)Z"⟩, prog_15_method_13_code, 7, some (.boolean), [], 17, 5, 0, 0, 0, 0) := ⟨(zt_in (j := 8) (k := 40) rfl rfl), rfl, (zt_in (j := 1) (k := 10) rfl rfl), (zt_in (j := 8) (k := 39) rfl rfl), Or.inr (zt_in (j := 0) (k := 52) rfl rfl), by decide +kernel, by decide, fun h => absurd h (by decide)⟩
set_option maxRecDepth 100000 in
theorem zt_m_275 : zt_mOK (⟨"ColumnVaultModel", "compared", "(IJJ)I"⟩, prog_13_method_7_code, 9, some (.int), [], 18, 3, 0, 1, 99999, 0) := ⟨(zt_in (j := 8) (k := 45) rfl rfl), rfl, (zt_in (j := 1) (k := 9) rfl rfl), (zt_in (j := 8) (k := 44) rfl rfl), Or.inl rfl, by decide +kernel, by decide, fun h => absurd h (by decide)⟩
set_option maxRecDepth 100000 in
theorem zt_m_276 : zt_mOK (⟨"ColumnVaultModel", "alphabetical", "(J)J"⟩, prog_13_method_6_code, 4, some (.long), [], 18, 1, 0, 1, 99999, 0) := ⟨(zt_in (j := 8) (k := 48) rfl rfl), rfl, (zt_in (j := 1) (k := 9) rfl rfl), (zt_in (j := 8) (k := 47) rfl rfl), Or.inl rfl, by decide +kernel, by decide, fun h => absurd h (by decide)⟩
set_option maxRecDepth 100000 in
theorem zt_m_277 : zt_mOK (⟨"ColumnVaultModel", "rowAt", "(II)I"⟩, prog_13_method_26_code, 3, some (.int), [], 18, 2, 0, 0, 0, 0) := ⟨(zt_in (j := 8) (k := 53) rfl rfl), rfl, (zt_in (j := 1) (k := 9) rfl rfl), (zt_in (j := 8) (k := 51) rfl rfl), Or.inr (zt_in (j := 8) (k := 52) rfl rfl), by decide +kernel, by decide, fun h => absurd h (by decide)⟩
set_option maxRecDepth 100000 in
theorem zt_m_278 : zt_mOK (⟨"ColumnVaultModel", "placeOf", "(II)I"⟩, prog_13_method_27_code, 3, some (.int), [], 18, 2, 0, 0, 0, 0) := ⟨(zt_in (j := 8) (k := 59) rfl rfl), rfl, (zt_in (j := 1) (k := 9) rfl rfl), (zt_in (j := 8) (k := 57) rfl rfl), Or.inr (zt_in (j := 8) (k := 58) rfl rfl), by decide +kernel, by decide, fun h => absurd h (by decide)⟩
set_option maxRecDepth 100000 in
theorem zt_m_279 : zt_mOK (⟨"ColumnVaultModel", "isChosen", "(II)Z"⟩, prog_13_method_28_code, 3, some (.boolean), [], 18, 2, 0, 0, 0, 0) := ⟨(zt_in (j := 8) (k := 64) rfl rfl), rfl, (zt_in (j := 1) (k := 9) rfl rfl), (zt_in (j := 8) (k := 62) rfl rfl), Or.inr (zt_in (j := 8) (k := 63) rfl rfl), by decide +kernel, by decide, fun h => absurd h (by decide)⟩
set_option maxRecDepth 100000 in
theorem zt_m_280 : zt_mOK (⟨"ColumnVaultModel", "choose", "(II)I"⟩, prog_13_method_29_code, 9, some (.int), [], 18, 2, 0, 0, 0, 0) := ⟨(zt_in (j := 8) (k := 69) rfl rfl), rfl, (zt_in (j := 1) (k := 9) rfl rfl), (zt_in (j := 8) (k := 67) rfl rfl), Or.inr (zt_in (j := 8) (k := 68) rfl rfl), by decide +kernel, by decide, fun h => absurd h (by decide)⟩
set_option maxRecDepth 100000 in
theorem zt_m_281 : zt_mOK (⟨"ColumnVaultModel", "filter", "(I)LColumnVaultModel$Node;"⟩, prog_13_method_45_code, 3, some (.object "ColumnVaultModel$Node"), [], 18, 1, 0, 0, 0, 0) := ⟨(zt_in (j := 8) (k := 73) rfl rfl), rfl, (zt_in (j := 1) (k := 9) rfl rfl), (zt_in (j := 8) (k := 72) rfl rfl), Or.inr (zt_in (j := 0) (k := 53) rfl rfl), by decide +kernel, by decide, fun h => absurd h (by decide)⟩
set_option maxRecDepth 100000 in
theorem zt_m_282 : zt_mOK (⟨"ColumnVaultModel", "filterPart", "(I)LColumnVaultModel$Node;"⟩, prog_13_method_36_code, 5, some (.object "ColumnVaultModel$Node"), [], 18, 1, 0, 0, 0, 0) := ⟨(zt_in (j := 8) (k := 77) rfl rfl), rfl, (zt_in (j := 1) (k := 9) rfl rfl), (zt_in (j := 8) (k := 76) rfl rfl), Or.inr (zt_in (j := 0) (k := 54) rfl rfl), by decide +kernel, by decide, fun h => absurd h (by decide)⟩
set_option maxRecDepth 100000 in
theorem zt_m_283 : zt_mOK (⟨"ColumnVaultModel$Node", "<init>", "(I)V"⟩, prog_14_method_1_code, 2, none, [], 16, 1, 0, 2, 99999, 0) := ⟨(zt_in (j := 8) (k := 82) rfl rfl), rfl, (zt_in (j := 1) (k := 33) rfl rfl), (zt_in (j := 8) (k := 81) rfl rfl), Or.inl rfl, by decide +kernel, by decide, fun _ => rfl⟩
set_option maxRecDepth 100000 in
theorem zt_m_284 : zt_mOK (⟨"ColumnVaultModel", "piece", "(I)LColumnVaultModel$Node;"⟩, prog_13_method_37_code, 3, some (.object "ColumnVaultModel$Node"), [], 18, 1, 0, 0, 0, 0) := ⟨(zt_in (j := 8) (k := 106) rfl rfl), rfl, (zt_in (j := 1) (k := 9) rfl rfl), (zt_in (j := 8) (k := 105) rfl rfl), Or.inr (zt_in (j := 0) (k := 55) rfl rfl), by decide +kernel, by decide, fun h => absurd h (by decide)⟩
set_option maxRecDepth 100000 in
theorem zt_m_285 : zt_mOK (⟨"ColumnVaultModel", "next", "()I"⟩, prog_13_method_35_code, 1, some (.int), [], 18, 0, 0, 0, 0, 0) := ⟨(zt_in (j := 8) (k := 110) rfl rfl), rfl, (zt_in (j := 1) (k := 9) rfl rfl), (zt_in (j := 8) (k := 109) rfl rfl), Or.inr (zt_in (j := 0) (k := 56) rfl rfl), by decide +kernel, by decide, fun h => absurd h (by decide)⟩
set_option maxRecDepth 100000 in
theorem zt_m_286 : zt_mOK (⟨"ColumnVaultModel", "signAt", "(I)I"⟩, prog_13_method_32_code, 2, some (.int), [], 18, 1, 0, 0, 0, 0) := ⟨(zt_in (j := 8) (k := 114) rfl rfl), rfl, (zt_in (j := 1) (k := 9) rfl rfl), (zt_in (j := 8) (k := 113) rfl rfl), Or.inr (zt_in (j := 0) (k := 57) rfl rfl), by decide +kernel, by decide, fun h => absurd h (by decide)⟩
set_option maxRecDepth 100000 in
theorem zt_m_287 : zt_mOK (⟨"ColumnVaultModel", "opposite", "(I)LColumnVaultModel$Node;"⟩, prog_13_method_38_code, 4, some (.object "ColumnVaultModel$Node"), [], 18, 1, 0, 0, 0, 0) := ⟨(zt_in (j := 8) (k := 118) rfl rfl), rfl, (zt_in (j := 1) (k := 9) rfl rfl), (zt_in (j := 8) (k := 117) rfl rfl), Or.inr (zt_in (j := 0) (k := 58) rfl rfl), by decide +kernel, by decide, fun h => absurd h (by decide)⟩
set_option maxRecDepth 100000 in
theorem zt_m_288 : zt_mOK (⟨"ColumnVaultModel", "fails", "(II)V"⟩, prog_13_method_31_code, 3, none, [], 18, 2, 0, 0, 0, 0) := ⟨(zt_in (j := 8) (k := 122) rfl rfl), rfl, (zt_in (j := 1) (k := 9) rfl rfl), (zt_in (j := 8) (k := 121) rfl rfl), Or.inr (zt_in (j := 0) (k := 59) rfl rfl), by decide +kernel, by decide, fun h => absurd h (by decide)⟩
set_option maxRecDepth 100000 in
theorem zt_m_289 : zt_mOK (⟨"ColumnVaultModel", "brackets", "()LColumnVaultModel$Node;"⟩, prog_13_method_39_code, 2, some (.object "ColumnVaultModel$Node"), [], 18, 0, 0, 0, 0, 0) := ⟨(zt_in (j := 8) (k := 126) rfl rfl), rfl, (zt_in (j := 1) (k := 9) rfl rfl), (zt_in (j := 8) (k := 125) rfl rfl), Or.inr (zt_in (j := 0) (k := 60) rfl rfl), by decide +kernel, by decide, fun h => absurd h (by decide)⟩
set_option maxRecDepth 100000 in
theorem zt_m_290 : zt_mOK (⟨"ColumnVaultModel", "test", "()LColumnVaultModel$Node;"⟩, prog_13_method_42_code, 4, some (.object "ColumnVaultModel$Node"), [], 18, 0, 0, 0, 0, 0) := ⟨(zt_in (j := 8) (k := 130) rfl rfl), rfl, (zt_in (j := 1) (k := 9) rfl rfl), (zt_in (j := 8) (k := 129) rfl rfl), Or.inr (zt_in (j := 0) (k := 61) rfl rfl), by decide +kernel, by decide, fun h => absurd h (by decide)⟩
set_option maxRecDepth 100000 in
theorem zt_m_291 : zt_mOK (⟨"ColumnVaultModel", "isDigit", "(I)Z"⟩, prog_13_method_33_code, 1, some (.boolean), [], 18, 1, 0, 1, 99999, 0) := ⟨(zt_in (j := 8) (k := 133) rfl rfl), rfl, (zt_in (j := 1) (k := 9) rfl rfl), (zt_in (j := 8) (k := 132) rfl rfl), Or.inl rfl, by decide +kernel, by decide, fun h => absurd h (by decide)⟩
set_option maxRecDepth 100000 in
theorem zt_m_292 : zt_mOK (⟨"ColumnVaultModel", "sortOfTest", "()I"⟩, prog_13_method_41_code, 2, some (.int), [], 18, 0, 0, 0, 0, 0) := ⟨(zt_in (j := 8) (k := 139) rfl rfl), rfl, (zt_in (j := 1) (k := 9) rfl rfl), (zt_in (j := 8) (k := 138) rfl rfl), Or.inr (zt_in (j := 0) (k := 62) rfl rfl), by decide +kernel, by decide, fun h => absurd h (by decide)⟩
set_option maxRecDepth 100000 in
theorem zt_m_293 : zt_mOK (⟨"ColumnVaultModel", "isWord", "(Ljava/lang/String;)Z"⟩, prog_13_method_40_code, 3, some (.boolean), [], 18, 1, 0, 0, 0, 0) := ⟨(zt_in (j := 8) (k := 144) rfl rfl), rfl, (zt_in (j := 1) (k := 9) rfl rfl), (zt_in (j := 8) (k := 143) rfl rfl), Or.inr (zt_in (j := 0) (k := 63) rfl rfl), by decide +kernel, by decide, fun h => absurd h (by decide)⟩
set_option maxRecDepth 100000 in
theorem zt_m_294 : zt_mOK (⟨"ColumnVaultModel", "isLetter", "(I)Z"⟩, prog_13_method_34_code, 1, some (.boolean), [], 18, 1, 0, 1, 99999, 0) := ⟨(zt_in (j := 8) (k := 149) rfl rfl), rfl, (zt_in (j := 1) (k := 9) rfl rfl), (zt_in (j := 8) (k := 148) rfl rfl), Or.inl rfl, by decide +kernel, by decide, fun h => absurd h (by decide)⟩
set_option maxRecDepth 100000 in
theorem zt_m_295 : zt_mOK (⟨"ColumnVaultModel", "value", "(LColumnVaultModel$Node;)V"⟩, prog_13_method_44_code, 8, none, [], 18, 1, 0, 0, 0, 0) := ⟨(zt_in (j := 8) (k := 155) rfl rfl), rfl, (zt_in (j := 1) (k := 9) rfl rfl), (zt_in (j := 8) (k := 154) rfl rfl), Or.inr (zt_in (j := 0) (k := 64) rfl rfl), by decide +kernel, by decide, fun h => absurd h (by decide)⟩
set_option maxRecDepth 100000 in
theorem zt_m_296 : zt_mOK (⟨"ColumnVaultModel", "isValueNext", "()Z"⟩, prog_13_method_43_code, 2, some (.boolean), [], 18, 0, 0, 0, 0, 0) := ⟨(zt_in (j := 8) (k := 159) rfl rfl), rfl, (zt_in (j := 1) (k := 9) rfl rfl), (zt_in (j := 8) (k := 158) rfl rfl), Or.inr (zt_in (j := 0) (k := 65) rfl rfl), by decide +kernel, by decide, fun h => absurd h (by decide)⟩
set_option maxRecDepth 100000 in
theorem zt_m_297 : zt_mOK (⟨"java/lang/Long", "valueOf", "(J)Ljava/lang/Long;"⟩, prog_30_method_24_code, 3, some (.object "java/lang/Long"), [], 3, 1, 0, 1, 99999, 0) := ⟨(zt_in (j := 8) (k := 165) rfl rfl), rfl, (zt_in (j := 1) (k := 30) rfl rfl), (zt_in (j := 8) (k := 164) rfl rfl), Or.inl rfl, by decide +kernel, by decide, fun h => absurd h (by decide)⟩
set_option maxRecDepth 100000 in
theorem zt_m_298 : zt_mOK (⟨"java/lang/Long", "<init>", "(J)V"⟩, prog_30_method_26_code, 3, none, [], 3, 1, 0, 2, 99999, 0) := ⟨(zt_in (j := 8) (k := 174) rfl rfl), rfl, (zt_in (j := 1) (k := 30) rfl rfl), (zt_in (j := 8) (k := 173) rfl rfl), Or.inl rfl, by decide +kernel, by decide, fun _ => rfl⟩
set_option maxRecDepth 100000 in
theorem zt_m_299 : zt_mOK (⟨"ColumnVaultModel$Node", "holds", "(LColumnVaultModel$Table;I)Z"⟩, prog_14_method_2_code, 6, some (.boolean), [], 16, 2, 0, 0, 0, 0) := ⟨(zt_in (j := 8) (k := 183) rfl rfl), rfl, (zt_in (j := 1) (k := 33) rfl rfl), (zt_in (j := 8) (k := 181) rfl rfl), Or.inr (zt_in (j := 8) (k := 182) rfl rfl), by decide +kernel, by decide, fun h => absurd h (by decide)⟩
set_option maxRecDepth 100000 in
theorem zt_m_300 : zt_mOK (⟨"ColumnVaultModel$Node", "holdsTest", "(LColumnVaultModel$Table;I)Z"⟩, prog_14_method_4_code, 5, some (.boolean), [], 16, 2, 0, 0, 0, 0) := ⟨(zt_in (j := 8) (k := 187) rfl rfl), rfl, (zt_in (j := 1) (k := 33) rfl rfl), (zt_in (j := 8) (k := 186) rfl rfl), Or.inr (zt_in (j := 0) (k := 66) rfl rfl), by decide +kernel, by decide, fun h => absurd h (by decide)⟩
set_option maxRecDepth 100000 in
theorem zt_m_301 : zt_mOK (⟨"ColumnVaultModel$Node", "than", "(LColumnVaultModel$Table;II)I"⟩, prog_14_method_3_code, 4, some (.int), [], 16, 3, 0, 0, 0, 0) := ⟨(zt_in (j := 8) (k := 192) rfl rfl), rfl, (zt_in (j := 1) (k := 33) rfl rfl), (zt_in (j := 8) (k := 191) rfl rfl), Or.inr (zt_in (j := 0) (k := 67) rfl rfl), by decide +kernel, by decide, fun h => absurd h (by decide)⟩
set_option maxRecDepth 100000 in
theorem zt_m_302 : zt_mOK (⟨"java/lang/Long", "longValue", "()J"⟩, prog_30_method_31_code, 1, some (.long), [], 3, 0, 0, 0, 0, 0) := ⟨(zt_in (j := 8) (k := 201) rfl rfl), rfl, (zt_in (j := 1) (k := 30) rfl rfl), (zt_in (j := 8) (k := 199) rfl rfl), Or.inr (zt_in (j := 8) (k := 200) rfl rfl), by decide +kernel, by decide, fun h => absurd h (by decide)⟩
set_option maxRecDepth 100000 in
theorem zt_m_303 : zt_mOK (⟨"ColumnVaultModel", "turnChoice", "(I)I"⟩, prog_13_method_30_code, 5, some (.int), [], 18, 1, 0, 0, 0, 0) := ⟨(zt_in (j := 8) (k := 215) rfl rfl), rfl, (zt_in (j := 1) (k := 9) rfl rfl), (zt_in (j := 8) (k := 213) rfl rfl), Or.inr (zt_in (j := 8) (k := 214) rfl rfl), by decide +kernel, by decide, fun h => absurd h (by decide)⟩
set_option maxRecDepth 100000 in
theorem zt_m_304 : zt_mOK (⟨"ColumnVaultModel", "count", "(I)I"⟩, prog_13_method_46_code, 3, some (.int), [], 18, 1, 0, 0, 0, 0) := ⟨(zt_in (j := 8) (k := 219) rfl rfl), rfl, (zt_in (j := 1) (k := 9) rfl rfl), (zt_in (j := 8) (k := 217) rfl rfl), Or.inr (zt_in (j := 8) (k := 218) rfl rfl), by decide +kernel, by decide, fun h => absurd h (by decide)⟩
set_option maxRecDepth 100000 in
theorem zt_m_305 : zt_mOK (⟨"ColumnVaultModel$Node", "count", "(LColumnVaultModel$Table;)I"⟩, prog_14_method_5_code, 4, some (.int), [], 16, 1, 0, 0, 0, 0) := ⟨(zt_in (j := 8) (k := 223) rfl rfl), rfl, (zt_in (j := 1) (k := 33) rfl rfl), (zt_in (j := 8) (k := 222) rfl rfl), Or.inr (zt_in (j := 0) (k := 68) rfl rfl), by decide +kernel, by decide, fun h => absurd h (by decide)⟩
set_option maxRecDepth 100000 in
theorem zt_m_306 : zt_mOK (⟨"ColumnVaultModel", "reads", "(IZ)I"⟩, prog_13_method_47_code, 6, some (.int), [], 18, 2, 0, 0, 0, 0) := ⟨(zt_in (j := 8) (k := 228) rfl rfl), rfl, (zt_in (j := 1) (k := 9) rfl rfl), (zt_in (j := 8) (k := 226) rfl rfl), Or.inr (zt_in (j := 8) (k := 227) rfl rfl), by decide +kernel, by decide, fun h => absurd h (by decide)⟩
set_option maxRecDepth 100000 in
theorem zt_m_307 : zt_mOK (⟨"ColumnVaultModel$Node", "reads", "(LColumnVaultModel$Table;[ZZ)I"⟩, prog_14_method_7_code, 10, some (.int), [], 16, 3, 0, 0, 0, 0) := ⟨(zt_in (j := 8) (k := 232) rfl rfl), rfl, (zt_in (j := 1) (k := 33) rfl rfl), (zt_in (j := 8) (k := 230) rfl rfl), Or.inr (zt_in (j := 8) (k := 231) rfl rfl), by decide +kernel, by decide, fun h => absurd h (by decide)⟩
set_option maxRecDepth 100000 in
theorem zt_m_308 : zt_mOK (⟨"ColumnVaultModel$Node", "next", "(LColumnVaultModel$Table;[ZZ)I"⟩, prog_14_method_6_code, 8, some (.int), [], 16, 3, 0, 0, 0, 0) := ⟨(zt_in (j := 8) (k := 236) rfl rfl), rfl, (zt_in (j := 1) (k := 33) rfl rfl), (zt_in (j := 8) (k := 235) rfl rfl), Or.inr (zt_in (j := 0) (k := 69) rfl rfl), by decide +kernel, by decide, fun h => absurd h (by decide)⟩
set_option maxRecDepth 100000 in
theorem zt_m_309 : zt_mOK (⟨"ColumnVaultModel", "errorKind", "(I)I"⟩, prog_13_method_48_code, 3, some (.int), [], 18, 1, 0, 0, 0, 0) := ⟨(zt_in (j := 9) (k := 3) rfl rfl), rfl, (zt_in (j := 1) (k := 9) rfl rfl), (zt_in (j := 9) (k := 1) rfl rfl), Or.inr (zt_in (j := 9) (k := 2) rfl rfl), by decide +kernel, by decide, fun h => absurd h (by decide)⟩
set_option maxRecDepth 100000 in
theorem zt_m_310 : zt_mOK (⟨"ColumnVaultModel", "errorPlace", "(I)I"⟩, prog_13_method_49_code, 3, some (.int), [], 18, 1, 0, 0, 0, 0) := ⟨(zt_in (j := 9) (k := 7) rfl rfl), rfl, (zt_in (j := 1) (k := 9) rfl rfl), (zt_in (j := 9) (k := 5) rfl rfl), Or.inr (zt_in (j := 9) (k := 6) rfl rfl), by decide +kernel, by decide, fun h => absurd h (by decide)⟩
set_option maxRecDepth 100000 in
theorem zt_m_311 : zt_mOK (⟨"ColumnVaultModel", "type", "(J)I"⟩, prog_13_method_50_code, 6, some (.int), [], 18, 1, 0, 0, 0, 0) := ⟨(zt_in (j := 9) (k := 11) rfl rfl), rfl, (zt_in (j := 1) (k := 9) rfl rfl), (zt_in (j := 9) (k := 9) rfl rfl), Or.inr (zt_in (j := 9) (k := 10) rfl rfl), by decide +kernel, by decide, fun h => absurd h (by decide)⟩
set_option maxRecDepth 100000 in
theorem zt_m_312 : zt_mOK (⟨"ColumnVaultModel", "clearText", "()I"⟩, prog_13_method_51_code, 2, some (.int), [], 18, 0, 0, 0, 0, 0) := ⟨(zt_in (j := 9) (k := 16) rfl rfl), rfl, (zt_in (j := 1) (k := 9) rfl rfl), (zt_in (j := 9) (k := 14) rfl rfl), Or.inr (zt_in (j := 9) (k := 15) rfl rfl), by decide +kernel, by decide, fun h => absurd h (by decide)⟩
set_option maxRecDepth 100000 in
theorem zt_m_313 : zt_mOK (⟨"ColumnVaultModel", "example", "(I)I"⟩, prog_13_method_52_code, 4, some (.int), [], 18, 1, 0, 0, 0, 0) := ⟨(zt_in (j := 9) (k := 20) rfl rfl), rfl, (zt_in (j := 1) (k := 9) rfl rfl), (zt_in (j := 9) (k := 18) rfl rfl), Or.inr (zt_in (j := 9) (k := 19) rfl rfl), by decide +kernel, by decide, fun h => absurd h (by decide)⟩
set_option maxRecDepth 100000 in
theorem zt_m_314 : zt_mOK (⟨"ColumnVaultModel", "join", "(IIIII)I"⟩, prog_13_method_56_code, 12, some (.int), [], 18, 5, 0, 0, 0, 0) := ⟨(zt_in (j := 9) (k := 27) rfl rfl), rfl, (zt_in (j := 1) (k := 9) rfl rfl), (zt_in (j := 9) (k := 25) rfl rfl), Or.inr (zt_in (j := 9) (k := 26) rfl rfl), by decide +kernel, by decide, fun h => absurd h (by decide)⟩
set_option maxRecDepth 100000 in
theorem zt_m_315 : zt_mOK (⟨"ColumnVaultModel", "areColumns", "(IIII)Z"⟩, prog_13_method_53_code, 5, some (.boolean), [], 18, 4, 0, 0, 0, 0) := ⟨(zt_in (j := 9) (k := 31) rfl rfl), rfl, (zt_in (j := 1) (k := 9) rfl rfl), (zt_in (j := 9) (k := 30) rfl rfl), Or.inr (zt_in (j := 0) (k := 70) rfl rfl), by decide +kernel, by decide, fun h => absurd h (by decide)⟩
set_option maxRecDepth 100000 in
theorem zt_m_316 : zt_mOK (⟨"ColumnVaultModel", "areOfOneKind", "(IIII)Z"⟩, prog_13_method_54_code, 5, some (.boolean), [], 18, 4, 0, 0, 0, 0) := ⟨(zt_in (j := 9) (k := 35) rfl rfl), rfl, (zt_in (j := 1) (k := 9) rfl rfl), (zt_in (j := 9) (k := 34) rfl rfl), Or.inr (zt_in (j := 0) (k := 71) rfl rfl), by decide +kernel, by decide, fun h => absurd h (by decide)⟩
set_option maxRecDepth 100000 in
theorem zt_m_317 : zt_mOK (⟨"java/util/ArrayList", "clear", "()V"⟩, prog_45_method_40_code, 4, none, [], 4, 0, 0, 0, 99999, 0) := ⟨(zt_in (j := 9) (k := 44) rfl rfl), rfl, (zt_in (j := 1) (k := 13) rfl rfl), (zt_in (j := 9) (k := 42) rfl rfl), Or.inl rfl, by decide +kernel, by decide, fun h => absurd h (by decide)⟩
set_option maxRecDepth 100000 in
theorem zt_m_318 : zt_mOK (⟨"ColumnVaultModel", "arePartners", "(LColumnVaultModel$Table;IILColumnVaultModel$Table;II)Z"⟩, prog_13_method_55_code, 7, some (.boolean), [], 18, 6, 0, 0, 0, 0) := ⟨(zt_in (j := 9) (k := 48) rfl rfl), rfl, (zt_in (j := 1) (k := 9) rfl rfl), (zt_in (j := 9) (k := 47) rfl rfl), Or.inr (zt_in (j := 0) (k := 72) rfl rfl), by decide +kernel, by decide, fun h => absurd h (by decide)⟩
set_option maxRecDepth 100000 in
theorem zt_m_319 : zt_mOK (⟨"ColumnVaultModel", "pairAt", "(IZ)I"⟩, prog_13_method_57_code, 3, some (.int), [], 18, 2, 0, 0, 0, 0) := ⟨(zt_in (j := 9) (k := 52) rfl rfl), rfl, (zt_in (j := 1) (k := 9) rfl rfl), (zt_in (j := 9) (k := 50) rfl rfl), Or.inr (zt_in (j := 9) (k := 51) rfl rfl), by decide +kernel, by decide, fun h => absurd h (by decide)⟩
set_option maxRecDepth 100000 in
theorem zt_m_320 : zt_mOK (⟨"ColumnVaultModel", "joinErrors", "(IIII)I"⟩, prog_13_method_58_code, 11, some (.int), [], 18, 4, 0, 0, 0, 0) := ⟨(zt_in (j := 9) (k := 57) rfl rfl), rfl, (zt_in (j := 1) (k := 9) rfl rfl), (zt_in (j := 9) (k := 55) rfl rfl), Or.inr (zt_in (j := 9) (k := 56) rfl rfl), by decide +kernel, by decide, fun h => absurd h (by decide)⟩
set_option maxRecDepth 100000 in
theorem zt_m_321 : zt_mOK (⟨"ColumnVaultModel", "group", "(II)I"⟩, prog_13_method_60_code, 3, some (.int), [], 18, 2, 0, 0, 0, 0) := ⟨(zt_in (j := 9) (k := 62) rfl rfl), rfl, (zt_in (j := 1) (k := 9) rfl rfl), (zt_in (j := 9) (k := 60) rfl rfl), Or.inr (zt_in (j := 9) (k := 61) rfl rfl), by decide +kernel, by decide, fun h => absurd h (by decide)⟩
set_option maxRecDepth 100000 in
theorem zt_m_322 : zt_mOK (⟨"ColumnVaultModel", "grouped", "(LColumnVaultModel$Table;I)Ljava/util/List;"⟩, prog_13_method_59_code, 7, some (.object "java/util/List"), [], 18, 2, 0, 1, 99999, 0) := ⟨(zt_in (j := 9) (k := 65) rfl rfl), rfl, (zt_in (j := 1) (k := 9) rfl rfl), (zt_in (j := 9) (k := 64) rfl rfl), Or.inl rfl, by decide +kernel, by decide, fun h => absurd h (by decide)⟩
set_option maxRecDepth 100000 in
theorem zt_m_323 : zt_mOK (⟨"ColumnVaultModel$Table", "areAlike", "(III)Z"⟩, prog_15_method_15_code, 4, some (.boolean), [], 17, 3, 0, 0, 0, 0) := ⟨(zt_in (j := 9) (k := 70) rfl rfl), rfl, (zt_in (j := 1) (k := 10) rfl rfl), (zt_in (j := 9) (k := 68) rfl rfl), Or.inr (zt_in (j := 9) (k := 69) rfl rfl), by decide +kernel, by decide, fun h => absurd h (by decide)⟩
set_option maxRecDepth 100000 in
theorem zt_m_324 : zt_mOK (⟨"java/util/ArrayList", "add", "(ILjava/lang/Object;)V"⟩, prog_45_method_26_code, 5, none, [], 4, 2, 0, 0, 99999, 0) := ⟨(zt_in (j := 9) (k := 80) rfl rfl), rfl, (zt_in (j := 1) (k := 13) rfl rfl), (zt_in (j := 9) (k := 78) rfl rfl), Or.inl rfl, by decide +kernel, by decide, fun h => absurd h (by decide)⟩
set_option maxRecDepth 100000 in
theorem zt_m_325 : zt_mOK (⟨"java/util/ArrayList", "rangeCheckForAdd", "(I)V"⟩, prog_45_method_45_code, 2, none, [], 4, 1, 0, 0, 0, 0) := ⟨(zt_in (j := 9) (k := 84) rfl rfl), rfl, (zt_in (j := 1) (k := 13) rfl rfl), (zt_in (j := 9) (k := 83) rfl rfl), Or.inr (zt_in (j := 0) (k := 73) rfl rfl), by decide +kernel, by decide, fun h => absurd h (by decide)⟩
set_option maxRecDepth 100000 in
theorem zt_m_326 : zt_mOK (⟨"java/util/ArrayList", "outOfBoundsMsg", "(I)Ljava/lang/String;"⟩, prog_45_method_46_code, 2, some (.object "java/lang/String"), [], 4, 1, 0, 0, 0, 0) := ⟨(zt_in (j := 9) (k := 89) rfl rfl), rfl, (zt_in (j := 1) (k := 13) rfl rfl), (zt_in (j := 9) (k := 88) rfl rfl), Or.inr (zt_in (j := 0) (k := 74) rfl rfl), by decide +kernel, by decide, fun h => absurd h (by decide)⟩
set_option maxRecDepth 100000 in
theorem zt_m_327 : zt_mOK (⟨"java/lang/StringBuilder", "<init>", "()V"⟩, prog_36_method_1_code, 1, none, [], 1, 0, 0, 2, 99999, 0) := ⟨(zt_in (j := 9) (k := 94) rfl rfl), rfl, (zt_in (j := 1) (k := 40) rfl rfl), (zt_in (j := 9) (k := 93) rfl rfl), Or.inl rfl, by decide +kernel, by decide, fun _ => rfl⟩
set_option maxRecDepth 100000 in
theorem zt_m_328 : zt_mOK (⟨"java/lang/AbstractStringBuilder", "<init>", "(I)V"⟩, prog_17_method_2_code, 2, none, [], 35, 1, 0, 2, 99999, 0) := ⟨(zt_in (j := 9) (k := 97) rfl rfl), rfl, (zt_in (j := 1) (k := 39) rfl rfl), (zt_in (j := 9) (k := 96) rfl rfl), Or.inl rfl, by decide +kernel, by decide, fun _ => rfl⟩
set_option maxRecDepth 100000 in
theorem zt_m_329 : zt_mOK (⟨"java/lang/StringUTF16", "newBytesFor", "(I)[B"⟩, prog_38_method_2_code, 1, some (.array (.byte)), [], 27, 1, 0, 1, 99999, 0) := ⟨(zt_in (j := 9) (k := 102) rfl rfl), rfl, (zt_in (j := 1) (k := 36) rfl rfl), (zt_in (j := 9) (k := 101) rfl rfl), Or.inl rfl, by decide +kernel, by decide, fun h => absurd h (by decide)⟩
set_option maxRecDepth 100000 in
theorem zt_m_330 : zt_mOK (⟨"java/lang/StringUTF16", "newBytesLength", "(I)I"⟩, prog_38_method_3_code, 1, some (.int), [], 27, 1, 0, 1, 99999, 0) := ⟨(zt_in (j := 9) (k := 105) rfl rfl), rfl, (zt_in (j := 1) (k := 36) rfl rfl), (zt_in (j := 9) (k := 104) rfl rfl), Or.inl rfl, by decide +kernel, by decide, fun h => absurd h (by decide)⟩
set_option maxRecDepth 100000 in
theorem zt_m_331 : zt_mOK (⟨"java/lang/StringBuilder", "append", "(Ljava/lang/String;)Ljava/lang/StringBuilder;"⟩, prog_36_method_7_code, 2, some (.object "java/lang/StringBuilder"), [], 1, 1, 0, 0, 0, 0) := ⟨(zt_in (j := 9) (k := 124) rfl rfl), rfl, (zt_in (j := 1) (k := 40) rfl rfl), (zt_in (j := 9) (k := 122) rfl rfl), Or.inr (zt_in (j := 9) (k := 123) rfl rfl), by decide +kernel, by decide, fun h => absurd h (by decide)⟩
set_option maxRecDepth 100000 in
theorem zt_m_332 : zt_mOK (⟨"java/lang/AbstractStringBuilder", "append", "(Ljava/lang/String;)Ljava/lang/AbstractStringBuilder;"⟩, prog_17_method_22_code, 3, some (.object "java/lang/AbstractStringBuilder"), [], 35, 1, 0, 0, 99999, 0) := ⟨(zt_in (j := 9) (k := 127) rfl rfl), rfl, (zt_in (j := 1) (k := 39) rfl rfl), (zt_in (j := 9) (k := 126) rfl rfl), Or.inl rfl, by decide +kernel, by decide, fun h => absurd h (by decide)⟩
set_option maxRecDepth 100000 in
theorem zt_m_333 : zt_mOK (⟨"java/lang/AbstractStringBuilder", "appendNull", "()Ljava/lang/AbstractStringBuilder;"⟩, prog_17_method_26_code, 3, some (.object "java/lang/AbstractStringBuilder"), [], 35, 0, 0, 0, 99999, 0) := ⟨(zt_in (j := 9) (k := 131) rfl rfl), rfl, (zt_in (j := 1) (k := 39) rfl rfl), (zt_in (j := 9) (k := 130) rfl rfl), Or.inl rfl, by decide +kernel, by decide, fun h => absurd h (by decide)⟩
set_option maxRecDepth 100000 in
theorem zt_m_334 : zt_mOK (⟨"java/lang/AbstractStringBuilder", "ensureCapacityInternal", "(I)V"⟩, prog_17_method_9_code, 3, none, [], 35, 1, 0, 0, 99999, 0) := ⟨(zt_in (j := 9) (k := 135) rfl rfl), rfl, (zt_in (j := 1) (k := 39) rfl rfl), (zt_in (j := 9) (k := 134) rfl rfl), Or.inl rfl, by decide +kernel, by decide, fun h => absurd h (by decide)⟩
set_option maxRecDepth 100000 in
theorem zt_m_335 : zt_mOK (⟨"java/lang/AbstractStringBuilder", "newCapacity", "(I)I"⟩, prog_17_method_10_code, 6, some (.int), [], 35, 1, 0, 0, 99999, 0) := ⟨(zt_in (j := 9) (k := 139) rfl rfl), rfl, (zt_in (j := 1) (k := 39) rfl rfl), (zt_in (j := 9) (k := 138) rfl rfl), Or.inl rfl, by decide +kernel, by decide, fun h => absurd h (by decide)⟩
set_option maxRecDepth 100000 in
theorem zt_m_336 : zt_mOK (⟨"java/util/Arrays", "copyOf", "([BI)[B"⟩, prog_46_method_121_code, 3, some (.array (.byte)), [], 32, 2, 0, 1, 99999, 0) := ⟨(zt_in (j := 9) (k := 144) rfl rfl), rfl, (zt_in (j := 1) (k := 18) rfl rfl), (zt_in (j := 9) (k := 143) rfl rfl), Or.inl rfl, by decide +kernel, by decide, fun h => absurd h (by decide)⟩
set_option maxRecDepth 100000 in
theorem zt_m_337 : zt_mOK (⟨"java/lang/AbstractStringBuilder", "isLatin1", "()Z"⟩, prog_17_method_68_code, 1, some (.boolean), [], 35, 0, 0, 0, 99999, 0) := ⟨(zt_in (j := 9) (k := 156) rfl rfl), rfl, (zt_in (j := 1) (k := 39) rfl rfl), (zt_in (j := 9) (k := 153) rfl rfl), Or.inl rfl, by decide +kernel, by decide, fun h => absurd h (by decide)⟩
set_option maxRecDepth 100000 in
theorem zt_m_338 : zt_mOK (⟨"java/lang/StringUTF16", "putCharsAt", "([BICCCC)I"⟩, prog_38_method_81_code, 7, some (.int), [], 27, 6, 0, 1, 99999, 0) := ⟨(zt_in (j := 9) (k := 159) rfl rfl), rfl, (zt_in (j := 1) (k := 36) rfl rfl), (zt_in (j := 9) (k := 158) rfl rfl), Or.inl rfl, by decide +kernel, by decide, fun h => absurd h (by decide)⟩
set_option maxRecDepth 100000 in
theorem zt_m_339 : zt_mOK (⟨"java/lang/StringUTF16", "checkBoundsBeginEnd", "(II[B)V"⟩, prog_38_method_93_code, 3, none, [], 27, 3, 0, 1, 99999, 0) := ⟨(zt_in (j := 9) (k := 162) rfl rfl), rfl, (zt_in (j := 1) (k := 36) rfl rfl), (zt_in (j := 9) (k := 161) rfl rfl), Or.inl rfl, by decide +kernel, by decide, fun h => absurd h (by decide)⟩
set_option maxRecDepth 100000 in
theorem zt_m_340 : zt_mOK (⟨"java/lang/String", "checkBoundsBeginEnd", "(III)V"⟩, prog_35_method_158_code, 3, none, [], 0, 3, 0, 1, 99999, 0) := ⟨(zt_in (j := 9) (k := 165) rfl rfl), rfl, (zt_in (j := 1) (k := 34) rfl rfl), (zt_in (j := 9) (k := 164) rfl rfl), Or.inl rfl, by decide +kernel, by decide, fun h => absurd h (by decide)⟩
set_option maxRecDepth 100000 in
theorem zt_m_341 : zt_mOK (⟨"jdk/internal/util/Preconditions", "checkFromToIndex", "(IIILjava/util/function/BiFunction;)I"⟩, prog_54_method_12_code, 4, some (.int), [], 26, 4, 0, 1, 99999, 0) := ⟨(zt_in (j := 9) (k := 168) rfl rfl), rfl, (zt_in (j := 1) (k := 15) rfl rfl), (zt_in (j := 9) (k := 167) rfl rfl), Or.inl rfl, by decide +kernel, by decide, fun h => absurd h (by decide)⟩
set_option maxRecDepth 100000 in
theorem zt_m_342 : zt_mOK (⟨"java/lang/StringUTF16", "putChar", "([BII)V"⟩, prog_38_method_4_code, 3, none, [], 27, 3, 0, 1, 99999, 0) := ⟨(zt_in (j := 9) (k := 171) rfl rfl), rfl, (zt_in (j := 1) (k := 36) rfl rfl), (zt_in (j := 9) (k := 170) rfl rfl), Or.inl rfl, by decide +kernel, by decide, fun h => absurd h (by decide)⟩
set_option maxRecDepth 100000 in
theorem zt_m_343 : zt_mOK (⟨"java/lang/AbstractStringBuilder", "putStringAt", "(ILjava/lang/String;)V"⟩, prog_17_method_73_code, 3, none, [], 35, 2, 0, 0, 99999, 0) := ⟨(zt_in (j := 9) (k := 176) rfl rfl), rfl, (zt_in (j := 1) (k := 39) rfl rfl), (zt_in (j := 9) (k := 175) rfl rfl), Or.inl rfl, by decide +kernel, by decide, fun h => absurd h (by decide)⟩
set_option maxRecDepth 100000 in
theorem zt_m_344 : zt_mOK (⟨"java/lang/AbstractStringBuilder", "inflateIfNeededFor", "(Ljava/lang/String;)V"⟩, prog_17_method_71_code, 2, none, [], 35, 1, 0, 0, 99999, 0) := ⟨(zt_in (j := 9) (k := 180) rfl rfl), rfl, (zt_in (j := 1) (k := 39) rfl rfl), (zt_in (j := 9) (k := 179) rfl rfl), Or.inl rfl, by decide +kernel, by decide, fun h => absurd h (by decide)⟩
set_option maxRecDepth 100000 in
theorem zt_m_345 : zt_mOK (⟨"java/lang/AbstractStringBuilder", "inflate", "()V"⟩, prog_17_method_11_code, 2, none, [], 35, 0, 0, 0, 99999, 0) := ⟨(zt_in (j := 9) (k := 185) rfl rfl), rfl, (zt_in (j := 1) (k := 39) rfl rfl), (zt_in (j := 9) (k := 184) rfl rfl), Or.inl rfl, by decide +kernel, by decide, fun h => absurd h (by decide)⟩
set_option maxRecDepth 100000 in
theorem zt_m_346 : zt_mOK (⟨"java/lang/StringLatin1", "inflate", "([BI[BII)V"⟩, prog_37_method_50_code, 5, none, [], 25, 5, 0, 1, 99999, 0) := ⟨(zt_in (j := 9) (k := 188) rfl rfl), rfl, (zt_in (j := 1) (k := 35) rfl rfl), (zt_in (j := 9) (k := 187) rfl rfl), Or.inl rfl, by decide +kernel, by decide, fun h => absurd h (by decide)⟩
set_option maxRecDepth 100000 in
theorem zt_m_347 : zt_mOK (⟨"java/lang/StringUTF16", "inflate", "([BI[BII)V"⟩, prog_38_method_86_code, 6, none, [], 27, 5, 0, 1, 99999, 0) := ⟨(zt_in (j := 9) (k := 191) rfl rfl), rfl, (zt_in (j := 1) (k := 36) rfl rfl), (zt_in (j := 9) (k := 190) rfl rfl), Or.inl rfl, by decide +kernel, by decide, fun h => absurd h (by decide)⟩
set_option maxRecDepth 100000 in
theorem zt_m_348 : zt_mOK (⟨"java/lang/StringUTF16", "checkBoundsOffCount", "(II[B)V"⟩, prog_38_method_94_code, 3, none, [], 27, 3, 0, 1, 99999, 0) := ⟨(zt_in (j := 9) (k := 194) rfl rfl), rfl, (zt_in (j := 1) (k := 36) rfl rfl), (zt_in (j := 9) (k := 193) rfl rfl), Or.inl rfl, by decide +kernel, by decide, fun h => absurd h (by decide)⟩
set_option maxRecDepth 100000 in
theorem zt_m_349 : zt_mOK (⟨"java/lang/String", "checkBoundsOffCount", "(III)I"⟩, prog_35_method_157_code, 3, some (.int), [], 0, 3, 0, 1, 99999, 0) := ⟨(zt_in (j := 9) (k := 197) rfl rfl), rfl, (zt_in (j := 1) (k := 34) rfl rfl), (zt_in (j := 9) (k := 196) rfl rfl), Or.inl rfl, by decide +kernel, by decide, fun h => absurd h (by decide)⟩
set_option maxRecDepth 100000 in
theorem zt_m_350 : zt_mOK (⟨"jdk/internal/util/Preconditions", "checkFromIndexSize", "(IIILjava/util/function/BiFunction;)I"⟩, prog_54_method_13_code, 4, some (.int), [], 26, 4, 0, 1, 99999, 0) := ⟨(zt_in (j := 9) (k := 200) rfl rfl), rfl, (zt_in (j := 1) (k := 15) rfl rfl), (zt_in (j := 9) (k := 199) rfl rfl), Or.inl rfl, by decide +kernel, by decide, fun h => absurd h (by decide)⟩
set_option maxRecDepth 100000 in
theorem zt_m_351 : zt_mOK (⟨"java/lang/String", "getBytes", "([BIB)V"⟩, prog_35_method_147_code, 4, none, [], 0, 3, 0, 0, 0, 0) := ⟨(zt_in (j := 9) (k := 204) rfl rfl), rfl, (zt_in (j := 1) (k := 34) rfl rfl), (zt_in (j := 9) (k := 202) rfl rfl), Or.inr (zt_in (j := 9) (k := 203) rfl rfl), by decide +kernel, by decide, fun h => absurd h (by decide)⟩
set_option maxRecDepth 100000 in
theorem zt_m_352 : zt_mOK (⟨"java/lang/StringBuilder", "append", "(I)Ljava/lang/StringBuilder;"⟩, prog_36_method_15_code, 2, some (.object "java/lang/StringBuilder"), [], 1, 1, 0, 0, 0, 0) := ⟨(zt_in (j := 9) (k := 210) rfl rfl), rfl, (zt_in (j := 1) (k := 40) rfl rfl), (zt_in (j := 9) (k := 208) rfl rfl), Or.inr (zt_in (j := 9) (k := 209) rfl rfl), by decide +kernel, by decide, fun h => absurd h (by decide)⟩
set_option maxRecDepth 100000 in
theorem zt_m_353 : zt_mOK (⟨"java/lang/AbstractStringBuilder", "append", "(I)Ljava/lang/AbstractStringBuilder;"⟩, prog_17_method_32_code, 4, some (.object "java/lang/AbstractStringBuilder"), [], 35, 1, 0, 0, 99999, 0) := ⟨(zt_in (j := 9) (k := 213) rfl rfl), rfl, (zt_in (j := 1) (k := 39) rfl rfl), (zt_in (j := 9) (k := 212) rfl rfl), Or.inl rfl, by decide +kernel, by decide, fun h => absurd h (by decide)⟩
set_option maxRecDepth 100000 in
theorem zt_m_354 : zt_mOK (⟨"java/lang/Integer", "stringSize", "(I)I"⟩, prog_27_method_13_code, 4, some (.int), [], 2, 1, 0, 1, 99999, 0) := ⟨(zt_in (j := 9) (k := 216) rfl rfl), rfl, (zt_in (j := 1) (k := 27) rfl rfl), (zt_in (j := 9) (k := 215) rfl rfl), Or.inl rfl, by decide +kernel, by decide, fun h => absurd h (by decide)⟩
set_option maxRecDepth 100000 in
theorem zt_m_355 : zt_mOK (⟨"java/lang/Integer", "getChars", "(II[B)I"⟩, prog_27_method_12_code, 7, some (.int), [], 2, 3, 0, 1, 99999, 0) := ⟨(zt_in (j := 9) (k := 219) rfl rfl), rfl, (zt_in (j := 1) (k := 27) rfl rfl), (zt_in (j := 9) (k := 218) rfl rfl), Or.inl rfl, by decide +kernel, by decide, fun h => absurd h (by decide)⟩
set_option maxRecDepth 100000 in
theorem zt_m_356 : zt_mOK (⟨"java/lang/StringUTF16", "getChars", "(III[B)I"⟩, prog_38_method_77_code, 5, some (.int), [], 27, 4, 0, 1, 99999, 0) := ⟨(zt_in (j := 9) (k := 226) rfl rfl), rfl, (zt_in (j := 1) (k := 36) rfl rfl), (zt_in (j := 9) (k := 225) rfl rfl), Or.inl rfl, by decide +kernel, by decide, fun h => absurd h (by decide)⟩
set_option maxRecDepth 100000 in
theorem zt_m_357 : zt_mOK (⟨"java/lang/StringUTF16", "getChars", "(II[B)I"⟩, prog_38_method_89_code, 7, some (.int), [], 27, 3, 0, 1, 99999, 0) := ⟨(zt_in (j := 9) (k := 229) rfl rfl), rfl, (zt_in (j := 1) (k := 36) rfl rfl), (zt_in (j := 9) (k := 228) rfl rfl), Or.inl rfl, by decide +kernel, by decide, fun h => absurd h (by decide)⟩
set_option maxRecDepth 100000 in
theorem zt_m_358 : zt_mOK (⟨"java/lang/StringBuilder", "toString", "()Ljava/lang/String;"⟩, prog_36_method_42_code, 1, some (.object "java/lang/String"), [], 1, 0, 0, 0, 0, 0) := ⟨(zt_in (j := 9) (k := 236) rfl rfl), rfl, (zt_in (j := 1) (k := 40) rfl rfl), (zt_in (j := 9) (k := 234) rfl rfl), Or.inr (zt_in (j := 9) (k := 235) rfl rfl), by decide +kernel, by decide, fun h => absurd h (by decide)⟩
set_option maxRecDepth 100000 in
theorem zt_m_359 : zt_mOK (⟨"java/lang/String", "<init>", "(Ljava/lang/StringBuilder;)V"⟩, prog_35_method_53_code, 2, none, [], 0, 1, 0, 2, 99999, 0) := ⟨(zt_in (j := 10) (k := 1) rfl rfl), rfl, (zt_in (j := 1) (k := 34) rfl rfl), (zt_in (j := 10) (k := 0) rfl rfl), Or.inl rfl, by decide +kernel, by decide, fun _ => rfl⟩
set_option maxRecDepth 100000 in
theorem zt_m_360 : zt_mOK (⟨"java/lang/String", "<init>", "(Ljava/lang/AbstractStringBuilder;Ljava/lang/Void;)V"⟩, prog_35_method_150_code, 5, none, [], 0, 2, 0, 2, 99999, 0) := ⟨(zt_in (j := 10) (k := 4) rfl rfl), rfl, (zt_in (j := 1) (k := 34) rfl rfl), (zt_in (j := 10) (k := 3) rfl rfl), Or.inl rfl, by decide +kernel, by decide, fun _ => rfl⟩
set_option maxRecDepth 100000 in
theorem zt_m_361 : zt_mOK (⟨"java/lang/AbstractStringBuilder", "getValue", "()[B"⟩, prog_17_method_64_code, 1, some (.array (.byte)), [], 35, 0, 0, 0, 99999, 0) := ⟨(zt_in (j := 10) (k := 10) rfl rfl), rfl, (zt_in (j := 1) (k := 39) rfl rfl), (zt_in (j := 10) (k := 7) rfl rfl), Or.inl rfl, by decide +kernel, by decide, fun h => absurd h (by decide)⟩
set_option maxRecDepth 100000 in
theorem zt_m_362 : zt_mOK (⟨"java/lang/StringBuilder", "length", "()I"⟩, prog_36_method_93_code, 1, some (.int), [], 1, 0, 0, 0, 99999, 0) := ⟨(zt_in (j := 10) (k := 16) rfl rfl), rfl, (zt_in (j := 1) (k := 40) rfl rfl), (zt_in (j := 10) (k := 15) rfl rfl), Or.inl rfl, by decide +kernel, by decide, fun h => absurd h (by decide)⟩
set_option maxRecDepth 100000 in
theorem zt_m_363 : zt_mOK (⟨"java/lang/AbstractStringBuilder", "length", "()I"⟩, prog_17_method_6_code, 1, some (.int), [], 35, 0, 0, 0, 99999, 0) := ⟨(zt_in (j := 10) (k := 18) rfl rfl), rfl, (zt_in (j := 1) (k := 39) rfl rfl), (zt_in (j := 10) (k := 12) rfl rfl), Or.inl rfl, by decide +kernel, by decide, fun h => absurd h (by decide)⟩
set_option maxRecDepth 100000 in
theorem zt_m_364 : zt_mOK (⟨"java/util/Arrays", "copyOfRange", "([BII)[B"⟩, prog_46_method_132_code, 3, some (.array (.byte)), [], 32, 3, 0, 1, 99999, 0) := ⟨(zt_in (j := 10) (k := 22) rfl rfl), rfl, (zt_in (j := 1) (k := 18) rfl rfl), (zt_in (j := 10) (k := 21) rfl rfl), Or.inl rfl, by decide +kernel, by decide, fun h => absurd h (by decide)⟩
set_option maxRecDepth 100000 in
theorem zt_m_365 : zt_mOK (⟨"java/util/Arrays", "copyOfRangeByte", "([BII)[B"⟩, prog_46_method_133_code, 5, some (.array (.byte)), [], 32, 3, 0, 1, 99999, 0) := ⟨(zt_in (j := 10) (k := 25) rfl rfl), rfl, (zt_in (j := 1) (k := 18) rfl rfl), (zt_in (j := 10) (k := 24) rfl rfl), Or.inl rfl, by decide +kernel, by decide, fun h => absurd h (by decide)⟩
set_option maxRecDepth 100000 in
theorem zt_m_366 : zt_mOK (⟨"java/util/Arrays", "checkLength", "(II)V"⟩, prog_46_method_131_code, 2, none, [], 32, 2, 0, 1, 99999, 0) := ⟨(zt_in (j := 10) (k := 28) rfl rfl), rfl, (zt_in (j := 1) (k := 18) rfl rfl), (zt_in (j := 10) (k := 27) rfl rfl), Or.inl rfl, by decide +kernel, by decide, fun h => absurd h (by decide)⟩
set_option maxRecDepth 100000 in
theorem zt_m_367 : zt_mOK (⟨"java/lang/StringUTF16", "compress", "([BII)[B"⟩, prog_38_method_17_code, 6, some (.array (.byte)), [], 27, 3, 0, 1, 99999, 0) := ⟨(zt_in (j := 10) (k := 39) rfl rfl), rfl, (zt_in (j := 1) (k := 36) rfl rfl), (zt_in (j := 10) (k := 38) rfl rfl), Or.inl rfl, by decide +kernel, by decide, fun h => absurd h (by decide)⟩
set_option maxRecDepth 100000 in
theorem zt_m_368 : zt_mOK (⟨"java/lang/StringUTF16", "compress", "([BI[BII)I"⟩, prog_38_method_22_code, 7, some (.int), [], 27, 5, 0, 1, 99999, 0) := ⟨(zt_in (j := 10) (k := 42) rfl rfl), rfl, (zt_in (j := 1) (k := 36) rfl rfl), (zt_in (j := 10) (k := 41) rfl rfl), Or.inl rfl, by decide +kernel, by decide, fun h => absurd h (by decide)⟩
set_option maxRecDepth 100000 in
theorem zt_m_369 : zt_mOK (⟨"java/lang/StringUTF16", "coderFromArrayLen", "([BI)B"⟩, prog_38_method_15_code, 2, some (.byte), [], 27, 2, 0, 1, 99999, 0) := ⟨(zt_in (j := 10) (k := 46) rfl rfl), rfl, (zt_in (j := 1) (k := 36) rfl rfl), (zt_in (j := 10) (k := 45) rfl rfl), Or.inl rfl, by decide +kernel, by decide, fun h => absurd h (by decide)⟩
set_option maxRecDepth 100000 in
theorem zt_m_370 : zt_mOK (⟨"ColumnVaultModel", "groupAt", "(II)J"⟩, prog_13_method_61_code, 4, some (.long), [], 18, 2, 0, 0, 0, 0) := ⟨(zt_in (j := 10) (k := 62) rfl rfl), rfl, (zt_in (j := 1) (k := 9) rfl rfl), (zt_in (j := 10) (k := 60) rfl rfl), Or.inr (zt_in (j := 10) (k := 61) rfl rfl), by decide +kernel, by decide, fun h => absurd h (by decide)⟩
set_option maxRecDepth 100000 in
theorem zt_m_371 : zt_mOK (⟨"ColumnVaultModel", "total", "(III)J"⟩, prog_13_method_67_code, 6, some (.long), [], 18, 3, 0, 0, 0, 0) := ⟨(zt_in (j := 10) (k := 66) rfl rfl), rfl, (zt_in (j := 1) (k := 9) rfl rfl), (zt_in (j := 10) (k := 64) rfl rfl), Or.inr (zt_in (j := 10) (k := 65) rfl rfl), by decide +kernel, by decide, fun h => absurd h (by decide)⟩
set_option maxRecDepth 100000 in
theorem zt_m_372 : zt_mOK (⟨"ColumnVaultModel", "chosenOf", "(LColumnVaultModel$Table;)Ljava/util/List;"⟩, prog_13_method_66_code, 4, some (.object "java/util/List"), [], 18, 1, 0, 1, 99999, 0) := ⟨(zt_in (j := 10) (k := 69) rfl rfl), rfl, (zt_in (j := 1) (k := 9) rfl rfl), (zt_in (j := 10) (k := 68) rfl rfl), Or.inl rfl, by decide +kernel, by decide, fun h => absurd h (by decide)⟩
set_option maxRecDepth 100000 in
theorem zt_m_373 : zt_mOK (⟨"ColumnVaultModel", "valuesOf", "(LColumnVaultModel$Table;ILjava/util/List;)Ljava/util/List;"⟩, prog_13_method_62_code, 7, some (.object "java/util/List"), [], 18, 3, 0, 1, 99999, 0) := ⟨(zt_in (j := 10) (k := 72) rfl rfl), rfl, (zt_in (j := 1) (k := 9) rfl rfl), (zt_in (j := 10) (k := 71) rfl rfl), Or.inl rfl, by decide +kernel, by decide, fun h => absurd h (by decide)⟩
set_option maxRecDepth 100000 in
theorem zt_m_374 : zt_mOK (⟨"ColumnVaultModel", "canTell", "(LColumnVaultModel$Table;II)Z"⟩, prog_13_method_64_code, 3, some (.boolean), [], 18, 3, 0, 1, 99999, 0) := ⟨(zt_in (j := 10) (k := 77) rfl rfl), rfl, (zt_in (j := 1) (k := 9) rfl rfl), (zt_in (j := 10) (k := 76) rfl rfl), Or.inl rfl, by decide +kernel, by decide, fun h => absurd h (by decide)⟩
set_option maxRecDepth 100000 in
theorem zt_m_375 : zt_mOK (⟨"ColumnVaultModel", "needsOne", "(I)Z"⟩, prog_13_method_65_code, 1, some (.boolean), [], 18, 1, 0, 1, 99999, 0) := ⟨(zt_in (j := 10) (k := 81) rfl rfl), rfl, (zt_in (j := 1) (k := 9) rfl rfl), (zt_in (j := 10) (k := 80) rfl rfl), Or.inl rfl, by decide +kernel, by decide, fun h => absurd h (by decide)⟩
set_option maxRecDepth 100000 in
theorem zt_m_376 : zt_mOK (⟨"java/util/ArrayList", "isEmpty", "()Z"⟩, prog_45_method_9_code, 1, some (.boolean), [], 4, 0, 0, 0, 99999, 0) := ⟨(zt_in (j := 10) (k := 91) rfl rfl), rfl, (zt_in (j := 1) (k := 13) rfl rfl), (zt_in (j := 10) (k := 89) rfl rfl), Or.inl rfl, by decide +kernel, by decide, fun h => absurd h (by decide)⟩
set_option maxRecDepth 100000 in
theorem zt_m_377 : zt_mOK (⟨"ColumnVaultModel", "told", "(Ljava/util/List;I)J"⟩, prog_13_method_63_code, 8, some (.long), [], 18, 2, 0, 1, 99999, 0) := ⟨(zt_in (j := 10) (k := 94) rfl rfl), rfl, (zt_in (j := 1) (k := 9) rfl rfl), (zt_in (j := 10) (k := 93) rfl rfl), Or.inl rfl, by decide +kernel, by decide, fun h => absurd h (by decide)⟩
set_option maxRecDepth 100000 in
theorem zt_m_378 : zt_mOK (⟨"ColumnVaultModel", "groupTotal", "(III)J"⟩, prog_13_method_68_code, 6, some (.long), [], 18, 3, 0, 0, 0, 0) := ⟨(zt_in (j := 10) (k := 98) rfl rfl), rfl, (zt_in (j := 1) (k := 9) rfl rfl), (zt_in (j := 10) (k := 96) rfl rfl), Or.inr (zt_in (j := 10) (k := 97) rfl rfl), by decide +kernel, by decide, fun h => absurd h (by decide)⟩
set_option maxRecDepth 100000 in
theorem zt_m_379 : zt_mOK (⟨"ColumnVaultModel", "running", "(III)J"⟩, prog_13_method_69_code, 9, some (.long), [], 18, 3, 0, 0, 0, 0) := ⟨(zt_in (j := 10) (k := 102) rfl rfl), rfl, (zt_in (j := 1) (k := 9) rfl rfl), (zt_in (j := 10) (k := 100) rfl rfl), Or.inr (zt_in (j := 10) (k := 101) rfl rfl), by decide +kernel, by decide, fun h => absurd h (by decide)⟩
set_option maxRecDepth 100000 in
theorem zt_m_380 : zt_mOK (⟨"ColumnVaultModel", "rank", "(IIII)I"⟩, prog_13_method_70_code, 10, some (.int), [], 18, 4, 0, 0, 0, 0) := ⟨(zt_in (j := 10) (k := 106) rfl rfl), rfl, (zt_in (j := 1) (k := 9) rfl rfl), (zt_in (j := 10) (k := 104) rfl rfl), Or.inr (zt_in (j := 10) (k := 105) rfl rfl), by decide +kernel, by decide, fun h => absurd h (by decide)⟩
set_option maxRecDepth 100000 in
theorem zt_m_381 : zt_mOK (⟨"ColumnVaultModel", "previous", "(III)I"⟩, prog_13_method_71_code, 6, some (.int), [], 18, 3, 0, 0, 0, 0) := ⟨(zt_in (j := 10) (k := 110) rfl rfl), rfl, (zt_in (j := 1) (k := 9) rfl rfl), (zt_in (j := 10) (k := 108) rfl rfl), Or.inr (zt_in (j := 10) (k := 109) rfl rfl), by decide +kernel, by decide, fun h => absurd h (by decide)⟩
set_option maxRecDepth 100000 in
theorem zt_m_382 : zt_mOK (⟨"ColumnVaultModel", "between", "(IIJJ)I"⟩, prog_13_method_73_code, 9, some (.int), [], 18, 4, 0, 0, 0, 0) := ⟨(zt_in (j := 10) (k := 114) rfl rfl), rfl, (zt_in (j := 1) (k := 9) rfl rfl), (zt_in (j := 10) (k := 112) rfl rfl), Or.inr (zt_in (j := 10) (k := 113) rfl rfl), by decide +kernel, by decide, fun h => absurd h (by decide)⟩
set_option maxRecDepth 100000 in
theorem zt_m_383 : zt_mOK (⟨"ColumnVaultModel", "within", "(LColumnVaultModel$Table;IJJ)I"⟩, prog_13_method_72_code, 9, some (.int), [], 18, 4, 0, 1, 99999, 0) := ⟨(zt_in (j := 10) (k := 117) rfl rfl), rfl, (zt_in (j := 1) (k := 9) rfl rfl), (zt_in (j := 10) (k := 116) rfl rfl), Or.inl rfl, by decide +kernel, by decide, fun h => absurd h (by decide)⟩
set_option maxRecDepth 100000 in
theorem zt_m_384 : zt_mOK (⟨"ColumnVaultModel", "nearest", "(IIJZ)J"⟩, prog_13_method_74_code, 15, some (.long), [], 18, 4, 0, 0, 0, 0) := ⟨(zt_in (j := 10) (k := 121) rfl rfl), rfl, (zt_in (j := 1) (k := 9) rfl rfl), (zt_in (j := 10) (k := 119) rfl rfl), Or.inr (zt_in (j := 10) (k := 120) rfl rfl), by decide +kernel, by decide, fun h => absurd h (by decide)⟩
set_option maxRecDepth 100000 in
theorem zt_m_385 : zt_mOK (⟨"ColumnVaultModel", "alike", "(III)I"⟩, prog_13_method_79_code, 13, some (.int), [], 18, 3, 0, 0, 0, 0) := ⟨(zt_in (j := 10) (k := 125) rfl rfl), rfl, (zt_in (j := 1) (k := 9) rfl rfl), (zt_in (j := 10) (k := 123) rfl rfl), Or.inr (zt_in (j := 10) (k := 124) rfl rfl), by decide +kernel, by decide, fun h => absurd h (by decide)⟩
set_option maxRecDepth 100000 in
theorem zt_m_386 : zt_mOK (⟨"ColumnVaultModel", "areOfKinds", "(LColumnVaultModel$Table;LColumnVaultModel$Table;)Z"⟩, prog_13_method_78_code, 4, some (.boolean), [], 18, 2, 0, 1, 99999, 0) := ⟨(zt_in (j := 10) (k := 128) rfl rfl), rfl, (zt_in (j := 1) (k := 9) rfl rfl), (zt_in (j := 10) (k := 127) rfl rfl), Or.inl rfl, by decide +kernel, by decide, fun h => absurd h (by decide)⟩
set_option maxRecDepth 100000 in
theorem zt_m_387 : zt_mOK (⟨"ColumnVaultModel", "chosenRows", "(LColumnVaultModel$Table;Z)Ljava/util/List;"⟩, prog_13_method_77_code, 5, some (.object "java/util/List"), [], 18, 2, 0, 1, 99999, 0) := ⟨(zt_in (j := 10) (k := 131) rfl rfl), rfl, (zt_in (j := 1) (k := 9) rfl rfl), (zt_in (j := 10) (k := 130) rfl rfl), Or.inl rfl, by decide +kernel, by decide, fun h => absurd h (by decide)⟩
set_option maxRecDepth 100000 in
theorem zt_m_388 : zt_mOK (⟨"ColumnVaultModel", "find", "(Ljava/util/List;[JI)I"⟩, prog_13_method_76_code, 4, some (.int), [], 18, 3, 0, 1, 99999, 0) := ⟨(zt_in (j := 10) (k := 134) rfl rfl), rfl, (zt_in (j := 1) (k := 9) rfl rfl), (zt_in (j := 10) (k := 133) rfl rfl), Or.inl rfl, by decide +kernel, by decide, fun h => absurd h (by decide)⟩
set_option maxRecDepth 100000 in
theorem zt_m_389 : zt_mOK (⟨"ColumnVaultModel", "areSame", "([J[JI)Z"⟩, prog_13_method_75_code, 4, some (.boolean), [], 18, 3, 0, 1, 99999, 0) := ⟨(zt_in (j := 10) (k := 137) rfl rfl), rfl, (zt_in (j := 1) (k := 9) rfl rfl), (zt_in (j := 10) (k := 136) rfl rfl), Or.inl rfl, by decide +kernel, by decide, fun h => absurd h (by decide)⟩
set_option maxRecDepth 100000 in
theorem zt_m_390 : zt_mOK (⟨"ColumnVaultModel", "errors", "(I)I"⟩, prog_13_method_83_code, 6, some (.int), [], 18, 1, 0, 0, 0, 0) := ⟨(zt_in (j := 10) (k := 141) rfl rfl), rfl, (zt_in (j := 1) (k := 9) rfl rfl), (zt_in (j := 10) (k := 139) rfl rfl), Or.inr (zt_in (j := 10) (k := 140) rfl rfl), by decide +kernel, by decide, fun h => absurd h (by decide)⟩
set_option maxRecDepth 100000 in
theorem zt_m_391 : zt_mOK (⟨"ColumnVaultModel", "failsOfOrder", "(LColumnVaultModel$Table;II)I"⟩, prog_13_method_80_code, 10, some (.int), [], 18, 3, 0, 1, 99999, 0) := ⟨(zt_in (j := 10) (k := 144) rfl rfl), rfl, (zt_in (j := 1) (k := 9) rfl rfl), (zt_in (j := 10) (k := 143) rfl rfl), Or.inl rfl, by decide +kernel, by decide, fun h => absurd h (by decide)⟩
set_option maxRecDepth 100000 in
theorem zt_m_392 : zt_mOK (⟨"ColumnVaultModel", "failsOfGroups", "(LColumnVaultModel$Table;I)I"⟩, prog_13_method_81_code, 7, some (.int), [], 18, 2, 0, 1, 99999, 0) := ⟨(zt_in (j := 10) (k := 147) rfl rfl), rfl, (zt_in (j := 1) (k := 9) rfl rfl), (zt_in (j := 10) (k := 146) rfl rfl), Or.inl rfl, by decide +kernel, by decide, fun h => absurd h (by decide)⟩
set_option maxRecDepth 100000 in
theorem zt_m_393 : zt_mOK (⟨"ColumnVaultModel", "failsOfRanges", "(LColumnVaultModel$Table;I)I"⟩, prog_13_method_82_code, 13, some (.int), [], 18, 2, 0, 1, 99999, 0) := ⟨(zt_in (j := 10) (k := 150) rfl rfl), rfl, (zt_in (j := 1) (k := 9) rfl rfl), (zt_in (j := 10) (k := 149) rfl rfl), Or.inl rfl, by decide +kernel, by decide, fun h => absurd h (by decide)⟩
set_option maxRecDepth 100000 in
theorem zt_m_394 : zt_mOK (⟨"ColumnVaultModel", "meanOf", "(II)D"⟩, prog_13_method_84_code, 5, some (.double), [], 18, 2, 0, 0, 0, 0) := ⟨(zt_in (j := 10) (k := 155) rfl rfl), rfl, (zt_in (j := 1) (k := 9) rfl rfl), (zt_in (j := 10) (k := 153) rfl rfl), Or.inr (zt_in (j := 10) (k := 154) rfl rfl), by decide +kernel, by decide, fun h => absurd h (by decide)⟩
set_option maxRecDepth 100000 in
theorem zt_m_395 : zt_mOK (⟨"ColumnVaultModel", "chosenShare", "(I)F"⟩, prog_13_method_85_code, 3, some (.float), [], 18, 1, 0, 0, 0, 0) := ⟨(zt_in (j := 10) (k := 159) rfl rfl), rfl, (zt_in (j := 1) (k := 9) rfl rfl), (zt_in (j := 10) (k := 157) rfl rfl), Or.inr (zt_in (j := 10) (k := 158) rfl rfl), by decide +kernel, by decide, fun h => absurd h (by decide)⟩
theorem zt_mall0 : ∀ q ∈ zt_m0.tail, zt_mOK q := List.forall_mem_cons.mpr ⟨zt_m_1, List.forall_mem_cons.mpr ⟨zt_m_2, List.forall_mem_cons.mpr ⟨zt_m_3, List.forall_mem_cons.mpr ⟨zt_m_4, List.forall_mem_cons.mpr ⟨zt_m_5, List.forall_mem_cons.mpr ⟨zt_m_6, List.forall_mem_cons.mpr ⟨zt_m_7, List.forall_mem_cons.mpr ⟨zt_m_8, List.forall_mem_cons.mpr ⟨zt_m_9, List.forall_mem_cons.mpr ⟨zt_m_10, List.forall_mem_cons.mpr ⟨zt_m_11, List.forall_mem_cons.mpr ⟨zt_m_12, List.forall_mem_cons.mpr ⟨zt_m_13, List.forall_mem_cons.mpr ⟨zt_m_14, List.forall_mem_cons.mpr ⟨zt_m_15, List.forall_mem_cons.mpr ⟨zt_m_16, List.forall_mem_cons.mpr ⟨zt_m_17, List.forall_mem_cons.mpr ⟨zt_m_18, List.forall_mem_cons.mpr ⟨zt_m_19, List.forall_mem_cons.mpr ⟨zt_m_20, List.forall_mem_cons.mpr ⟨zt_m_21, List.forall_mem_cons.mpr ⟨zt_m_22, List.forall_mem_cons.mpr ⟨zt_m_23, List.forall_mem_cons.mpr ⟨zt_m_24, List.forall_mem_cons.mpr ⟨zt_m_25, List.forall_mem_cons.mpr ⟨zt_m_26, List.forall_mem_cons.mpr ⟨zt_m_27, List.forall_mem_cons.mpr ⟨zt_m_28, List.forall_mem_cons.mpr ⟨zt_m_29, List.forall_mem_cons.mpr ⟨zt_m_30, List.forall_mem_cons.mpr ⟨zt_m_31, List.forall_mem_cons.mpr ⟨zt_m_32, List.forall_mem_cons.mpr ⟨zt_m_33, List.forall_mem_cons.mpr ⟨zt_m_34, List.forall_mem_cons.mpr ⟨zt_m_35, List.forall_mem_cons.mpr ⟨zt_m_36, List.forall_mem_cons.mpr ⟨zt_m_37, List.forall_mem_cons.mpr ⟨zt_m_38, List.forall_mem_cons.mpr ⟨zt_m_39, List.forall_mem_cons.mpr ⟨zt_m_40, List.forall_mem_cons.mpr ⟨zt_m_41, List.forall_mem_cons.mpr ⟨zt_m_42, List.forall_mem_cons.mpr ⟨zt_m_43, List.forall_mem_cons.mpr ⟨zt_m_44, List.forall_mem_cons.mpr ⟨zt_m_45, List.forall_mem_cons.mpr ⟨zt_m_46, List.forall_mem_cons.mpr ⟨zt_m_47, List.forall_mem_cons.mpr ⟨zt_m_48, List.forall_mem_cons.mpr ⟨zt_m_49, List.forall_mem_cons.mpr ⟨zt_m_50, List.forall_mem_cons.mpr ⟨zt_m_51, List.forall_mem_cons.mpr ⟨zt_m_52, List.forall_mem_cons.mpr ⟨zt_m_53, List.forall_mem_cons.mpr ⟨zt_m_54, List.forall_mem_cons.mpr ⟨zt_m_55, List.forall_mem_cons.mpr ⟨zt_m_56, List.forall_mem_cons.mpr ⟨zt_m_57, List.forall_mem_cons.mpr ⟨zt_m_58, List.forall_mem_cons.mpr ⟨zt_m_59, fun _ h => absurd h List.not_mem_nil⟩⟩⟩⟩⟩⟩⟩⟩⟩⟩⟩⟩⟩⟩⟩⟩⟩⟩⟩⟩⟩⟩⟩⟩⟩⟩⟩⟩⟩⟩⟩⟩⟩⟩⟩⟩⟩⟩⟩⟩⟩⟩⟩⟩⟩⟩⟩⟩⟩⟩⟩⟩⟩⟩⟩⟩⟩⟩⟩
theorem zt_mall1 : ∀ q ∈ zt_m1, zt_mOK q := List.forall_mem_cons.mpr ⟨zt_m_60, List.forall_mem_cons.mpr ⟨zt_m_61, List.forall_mem_cons.mpr ⟨zt_m_62, List.forall_mem_cons.mpr ⟨zt_m_63, List.forall_mem_cons.mpr ⟨zt_m_64, List.forall_mem_cons.mpr ⟨zt_m_65, List.forall_mem_cons.mpr ⟨zt_m_66, List.forall_mem_cons.mpr ⟨zt_m_67, List.forall_mem_cons.mpr ⟨zt_m_68, List.forall_mem_cons.mpr ⟨zt_m_69, List.forall_mem_cons.mpr ⟨zt_m_70, List.forall_mem_cons.mpr ⟨zt_m_71, List.forall_mem_cons.mpr ⟨zt_m_72, List.forall_mem_cons.mpr ⟨zt_m_73, List.forall_mem_cons.mpr ⟨zt_m_74, List.forall_mem_cons.mpr ⟨zt_m_75, List.forall_mem_cons.mpr ⟨zt_m_76, List.forall_mem_cons.mpr ⟨zt_m_77, List.forall_mem_cons.mpr ⟨zt_m_78, List.forall_mem_cons.mpr ⟨zt_m_79, List.forall_mem_cons.mpr ⟨zt_m_80, List.forall_mem_cons.mpr ⟨zt_m_81, List.forall_mem_cons.mpr ⟨zt_m_82, List.forall_mem_cons.mpr ⟨zt_m_83, List.forall_mem_cons.mpr ⟨zt_m_84, List.forall_mem_cons.mpr ⟨zt_m_85, List.forall_mem_cons.mpr ⟨zt_m_86, List.forall_mem_cons.mpr ⟨zt_m_87, List.forall_mem_cons.mpr ⟨zt_m_88, List.forall_mem_cons.mpr ⟨zt_m_89, List.forall_mem_cons.mpr ⟨zt_m_90, List.forall_mem_cons.mpr ⟨zt_m_91, List.forall_mem_cons.mpr ⟨zt_m_92, List.forall_mem_cons.mpr ⟨zt_m_93, List.forall_mem_cons.mpr ⟨zt_m_94, List.forall_mem_cons.mpr ⟨zt_m_95, List.forall_mem_cons.mpr ⟨zt_m_96, List.forall_mem_cons.mpr ⟨zt_m_97, List.forall_mem_cons.mpr ⟨zt_m_98, List.forall_mem_cons.mpr ⟨zt_m_99, List.forall_mem_cons.mpr ⟨zt_m_100, List.forall_mem_cons.mpr ⟨zt_m_101, List.forall_mem_cons.mpr ⟨zt_m_102, List.forall_mem_cons.mpr ⟨zt_m_103, List.forall_mem_cons.mpr ⟨zt_m_104, List.forall_mem_cons.mpr ⟨zt_m_105, List.forall_mem_cons.mpr ⟨zt_m_106, List.forall_mem_cons.mpr ⟨zt_m_107, List.forall_mem_cons.mpr ⟨zt_m_108, List.forall_mem_cons.mpr ⟨zt_m_109, List.forall_mem_cons.mpr ⟨zt_m_110, List.forall_mem_cons.mpr ⟨zt_m_111, List.forall_mem_cons.mpr ⟨zt_m_112, List.forall_mem_cons.mpr ⟨zt_m_113, List.forall_mem_cons.mpr ⟨zt_m_114, List.forall_mem_cons.mpr ⟨zt_m_115, List.forall_mem_cons.mpr ⟨zt_m_116, List.forall_mem_cons.mpr ⟨zt_m_117, List.forall_mem_cons.mpr ⟨zt_m_118, List.forall_mem_cons.mpr ⟨zt_m_119, fun _ h => absurd h List.not_mem_nil⟩⟩⟩⟩⟩⟩⟩⟩⟩⟩⟩⟩⟩⟩⟩⟩⟩⟩⟩⟩⟩⟩⟩⟩⟩⟩⟩⟩⟩⟩⟩⟩⟩⟩⟩⟩⟩⟩⟩⟩⟩⟩⟩⟩⟩⟩⟩⟩⟩⟩⟩⟩⟩⟩⟩⟩⟩⟩⟩⟩
theorem zt_mall2 : ∀ q ∈ zt_m2, zt_mOK q := List.forall_mem_cons.mpr ⟨zt_m_120, List.forall_mem_cons.mpr ⟨zt_m_121, List.forall_mem_cons.mpr ⟨zt_m_122, List.forall_mem_cons.mpr ⟨zt_m_123, List.forall_mem_cons.mpr ⟨zt_m_124, List.forall_mem_cons.mpr ⟨zt_m_125, List.forall_mem_cons.mpr ⟨zt_m_126, List.forall_mem_cons.mpr ⟨zt_m_127, List.forall_mem_cons.mpr ⟨zt_m_128, List.forall_mem_cons.mpr ⟨zt_m_129, List.forall_mem_cons.mpr ⟨zt_m_130, List.forall_mem_cons.mpr ⟨zt_m_131, List.forall_mem_cons.mpr ⟨zt_m_132, List.forall_mem_cons.mpr ⟨zt_m_133, List.forall_mem_cons.mpr ⟨zt_m_134, List.forall_mem_cons.mpr ⟨zt_m_135, List.forall_mem_cons.mpr ⟨zt_m_136, List.forall_mem_cons.mpr ⟨zt_m_137, List.forall_mem_cons.mpr ⟨zt_m_138, List.forall_mem_cons.mpr ⟨zt_m_139, List.forall_mem_cons.mpr ⟨zt_m_140, List.forall_mem_cons.mpr ⟨zt_m_141, List.forall_mem_cons.mpr ⟨zt_m_142, List.forall_mem_cons.mpr ⟨zt_m_143, List.forall_mem_cons.mpr ⟨zt_m_144, List.forall_mem_cons.mpr ⟨zt_m_145, List.forall_mem_cons.mpr ⟨zt_m_146, List.forall_mem_cons.mpr ⟨zt_m_147, List.forall_mem_cons.mpr ⟨zt_m_148, List.forall_mem_cons.mpr ⟨zt_m_149, List.forall_mem_cons.mpr ⟨zt_m_150, List.forall_mem_cons.mpr ⟨zt_m_151, List.forall_mem_cons.mpr ⟨zt_m_152, List.forall_mem_cons.mpr ⟨zt_m_153, List.forall_mem_cons.mpr ⟨zt_m_154, List.forall_mem_cons.mpr ⟨zt_m_155, List.forall_mem_cons.mpr ⟨zt_m_156, List.forall_mem_cons.mpr ⟨zt_m_157, List.forall_mem_cons.mpr ⟨zt_m_158, List.forall_mem_cons.mpr ⟨zt_m_159, List.forall_mem_cons.mpr ⟨zt_m_160, List.forall_mem_cons.mpr ⟨zt_m_161, List.forall_mem_cons.mpr ⟨zt_m_162, List.forall_mem_cons.mpr ⟨zt_m_163, List.forall_mem_cons.mpr ⟨zt_m_164, List.forall_mem_cons.mpr ⟨zt_m_165, List.forall_mem_cons.mpr ⟨zt_m_166, List.forall_mem_cons.mpr ⟨zt_m_167, List.forall_mem_cons.mpr ⟨zt_m_168, List.forall_mem_cons.mpr ⟨zt_m_169, List.forall_mem_cons.mpr ⟨zt_m_170, List.forall_mem_cons.mpr ⟨zt_m_171, List.forall_mem_cons.mpr ⟨zt_m_172, List.forall_mem_cons.mpr ⟨zt_m_173, List.forall_mem_cons.mpr ⟨zt_m_174, List.forall_mem_cons.mpr ⟨zt_m_175, List.forall_mem_cons.mpr ⟨zt_m_176, List.forall_mem_cons.mpr ⟨zt_m_177, List.forall_mem_cons.mpr ⟨zt_m_178, List.forall_mem_cons.mpr ⟨zt_m_179, fun _ h => absurd h List.not_mem_nil⟩⟩⟩⟩⟩⟩⟩⟩⟩⟩⟩⟩⟩⟩⟩⟩⟩⟩⟩⟩⟩⟩⟩⟩⟩⟩⟩⟩⟩⟩⟩⟩⟩⟩⟩⟩⟩⟩⟩⟩⟩⟩⟩⟩⟩⟩⟩⟩⟩⟩⟩⟩⟩⟩⟩⟩⟩⟩⟩⟩
theorem zt_mall3 : ∀ q ∈ zt_m3, zt_mOK q := List.forall_mem_cons.mpr ⟨zt_m_180, List.forall_mem_cons.mpr ⟨zt_m_181, List.forall_mem_cons.mpr ⟨zt_m_182, List.forall_mem_cons.mpr ⟨zt_m_183, List.forall_mem_cons.mpr ⟨zt_m_184, List.forall_mem_cons.mpr ⟨zt_m_185, List.forall_mem_cons.mpr ⟨zt_m_186, List.forall_mem_cons.mpr ⟨zt_m_187, List.forall_mem_cons.mpr ⟨zt_m_188, List.forall_mem_cons.mpr ⟨zt_m_189, List.forall_mem_cons.mpr ⟨zt_m_190, List.forall_mem_cons.mpr ⟨zt_m_191, List.forall_mem_cons.mpr ⟨zt_m_192, List.forall_mem_cons.mpr ⟨zt_m_193, List.forall_mem_cons.mpr ⟨zt_m_194, List.forall_mem_cons.mpr ⟨zt_m_195, List.forall_mem_cons.mpr ⟨zt_m_196, List.forall_mem_cons.mpr ⟨zt_m_197, List.forall_mem_cons.mpr ⟨zt_m_198, List.forall_mem_cons.mpr ⟨zt_m_199, List.forall_mem_cons.mpr ⟨zt_m_200, List.forall_mem_cons.mpr ⟨zt_m_201, List.forall_mem_cons.mpr ⟨zt_m_202, List.forall_mem_cons.mpr ⟨zt_m_203, List.forall_mem_cons.mpr ⟨zt_m_204, List.forall_mem_cons.mpr ⟨zt_m_205, List.forall_mem_cons.mpr ⟨zt_m_206, List.forall_mem_cons.mpr ⟨zt_m_207, List.forall_mem_cons.mpr ⟨zt_m_208, List.forall_mem_cons.mpr ⟨zt_m_209, List.forall_mem_cons.mpr ⟨zt_m_210, List.forall_mem_cons.mpr ⟨zt_m_211, List.forall_mem_cons.mpr ⟨zt_m_212, List.forall_mem_cons.mpr ⟨zt_m_213, List.forall_mem_cons.mpr ⟨zt_m_214, List.forall_mem_cons.mpr ⟨zt_m_215, List.forall_mem_cons.mpr ⟨zt_m_216, List.forall_mem_cons.mpr ⟨zt_m_217, List.forall_mem_cons.mpr ⟨zt_m_218, List.forall_mem_cons.mpr ⟨zt_m_219, List.forall_mem_cons.mpr ⟨zt_m_220, List.forall_mem_cons.mpr ⟨zt_m_221, List.forall_mem_cons.mpr ⟨zt_m_222, List.forall_mem_cons.mpr ⟨zt_m_223, List.forall_mem_cons.mpr ⟨zt_m_224, List.forall_mem_cons.mpr ⟨zt_m_225, List.forall_mem_cons.mpr ⟨zt_m_226, List.forall_mem_cons.mpr ⟨zt_m_227, List.forall_mem_cons.mpr ⟨zt_m_228, List.forall_mem_cons.mpr ⟨zt_m_229, List.forall_mem_cons.mpr ⟨zt_m_230, List.forall_mem_cons.mpr ⟨zt_m_231, List.forall_mem_cons.mpr ⟨zt_m_232, List.forall_mem_cons.mpr ⟨zt_m_233, List.forall_mem_cons.mpr ⟨zt_m_234, List.forall_mem_cons.mpr ⟨zt_m_235, List.forall_mem_cons.mpr ⟨zt_m_236, List.forall_mem_cons.mpr ⟨zt_m_237, List.forall_mem_cons.mpr ⟨zt_m_238, List.forall_mem_cons.mpr ⟨zt_m_239, fun _ h => absurd h List.not_mem_nil⟩⟩⟩⟩⟩⟩⟩⟩⟩⟩⟩⟩⟩⟩⟩⟩⟩⟩⟩⟩⟩⟩⟩⟩⟩⟩⟩⟩⟩⟩⟩⟩⟩⟩⟩⟩⟩⟩⟩⟩⟩⟩⟩⟩⟩⟩⟩⟩⟩⟩⟩⟩⟩⟩⟩⟩⟩⟩⟩⟩
theorem zt_mall4 : ∀ q ∈ zt_m4, zt_mOK q := List.forall_mem_cons.mpr ⟨zt_m_240, List.forall_mem_cons.mpr ⟨zt_m_241, List.forall_mem_cons.mpr ⟨zt_m_242, List.forall_mem_cons.mpr ⟨zt_m_243, List.forall_mem_cons.mpr ⟨zt_m_244, List.forall_mem_cons.mpr ⟨zt_m_245, List.forall_mem_cons.mpr ⟨zt_m_246, List.forall_mem_cons.mpr ⟨zt_m_247, List.forall_mem_cons.mpr ⟨zt_m_248, List.forall_mem_cons.mpr ⟨zt_m_249, List.forall_mem_cons.mpr ⟨zt_m_250, List.forall_mem_cons.mpr ⟨zt_m_251, List.forall_mem_cons.mpr ⟨zt_m_252, List.forall_mem_cons.mpr ⟨zt_m_253, List.forall_mem_cons.mpr ⟨zt_m_254, List.forall_mem_cons.mpr ⟨zt_m_255, List.forall_mem_cons.mpr ⟨zt_m_256, List.forall_mem_cons.mpr ⟨zt_m_257, List.forall_mem_cons.mpr ⟨zt_m_258, List.forall_mem_cons.mpr ⟨zt_m_259, List.forall_mem_cons.mpr ⟨zt_m_260, List.forall_mem_cons.mpr ⟨zt_m_261, List.forall_mem_cons.mpr ⟨zt_m_262, List.forall_mem_cons.mpr ⟨zt_m_263, List.forall_mem_cons.mpr ⟨zt_m_264, List.forall_mem_cons.mpr ⟨zt_m_265, List.forall_mem_cons.mpr ⟨zt_m_266, List.forall_mem_cons.mpr ⟨zt_m_267, List.forall_mem_cons.mpr ⟨zt_m_268, List.forall_mem_cons.mpr ⟨zt_m_269, List.forall_mem_cons.mpr ⟨zt_m_270, List.forall_mem_cons.mpr ⟨zt_m_271, List.forall_mem_cons.mpr ⟨zt_m_272, List.forall_mem_cons.mpr ⟨zt_m_273, List.forall_mem_cons.mpr ⟨zt_m_274, List.forall_mem_cons.mpr ⟨zt_m_275, List.forall_mem_cons.mpr ⟨zt_m_276, List.forall_mem_cons.mpr ⟨zt_m_277, List.forall_mem_cons.mpr ⟨zt_m_278, List.forall_mem_cons.mpr ⟨zt_m_279, List.forall_mem_cons.mpr ⟨zt_m_280, List.forall_mem_cons.mpr ⟨zt_m_281, List.forall_mem_cons.mpr ⟨zt_m_282, List.forall_mem_cons.mpr ⟨zt_m_283, List.forall_mem_cons.mpr ⟨zt_m_284, List.forall_mem_cons.mpr ⟨zt_m_285, List.forall_mem_cons.mpr ⟨zt_m_286, List.forall_mem_cons.mpr ⟨zt_m_287, List.forall_mem_cons.mpr ⟨zt_m_288, List.forall_mem_cons.mpr ⟨zt_m_289, List.forall_mem_cons.mpr ⟨zt_m_290, List.forall_mem_cons.mpr ⟨zt_m_291, List.forall_mem_cons.mpr ⟨zt_m_292, List.forall_mem_cons.mpr ⟨zt_m_293, List.forall_mem_cons.mpr ⟨zt_m_294, List.forall_mem_cons.mpr ⟨zt_m_295, List.forall_mem_cons.mpr ⟨zt_m_296, List.forall_mem_cons.mpr ⟨zt_m_297, List.forall_mem_cons.mpr ⟨zt_m_298, List.forall_mem_cons.mpr ⟨zt_m_299, fun _ h => absurd h List.not_mem_nil⟩⟩⟩⟩⟩⟩⟩⟩⟩⟩⟩⟩⟩⟩⟩⟩⟩⟩⟩⟩⟩⟩⟩⟩⟩⟩⟩⟩⟩⟩⟩⟩⟩⟩⟩⟩⟩⟩⟩⟩⟩⟩⟩⟩⟩⟩⟩⟩⟩⟩⟩⟩⟩⟩⟩⟩⟩⟩⟩⟩
theorem zt_mall5 : ∀ q ∈ zt_m5, zt_mOK q := List.forall_mem_cons.mpr ⟨zt_m_300, List.forall_mem_cons.mpr ⟨zt_m_301, List.forall_mem_cons.mpr ⟨zt_m_302, List.forall_mem_cons.mpr ⟨zt_m_303, List.forall_mem_cons.mpr ⟨zt_m_304, List.forall_mem_cons.mpr ⟨zt_m_305, List.forall_mem_cons.mpr ⟨zt_m_306, List.forall_mem_cons.mpr ⟨zt_m_307, List.forall_mem_cons.mpr ⟨zt_m_308, List.forall_mem_cons.mpr ⟨zt_m_309, List.forall_mem_cons.mpr ⟨zt_m_310, List.forall_mem_cons.mpr ⟨zt_m_311, List.forall_mem_cons.mpr ⟨zt_m_312, List.forall_mem_cons.mpr ⟨zt_m_313, List.forall_mem_cons.mpr ⟨zt_m_314, List.forall_mem_cons.mpr ⟨zt_m_315, List.forall_mem_cons.mpr ⟨zt_m_316, List.forall_mem_cons.mpr ⟨zt_m_317, List.forall_mem_cons.mpr ⟨zt_m_318, List.forall_mem_cons.mpr ⟨zt_m_319, List.forall_mem_cons.mpr ⟨zt_m_320, List.forall_mem_cons.mpr ⟨zt_m_321, List.forall_mem_cons.mpr ⟨zt_m_322, List.forall_mem_cons.mpr ⟨zt_m_323, List.forall_mem_cons.mpr ⟨zt_m_324, List.forall_mem_cons.mpr ⟨zt_m_325, List.forall_mem_cons.mpr ⟨zt_m_326, List.forall_mem_cons.mpr ⟨zt_m_327, List.forall_mem_cons.mpr ⟨zt_m_328, List.forall_mem_cons.mpr ⟨zt_m_329, List.forall_mem_cons.mpr ⟨zt_m_330, List.forall_mem_cons.mpr ⟨zt_m_331, List.forall_mem_cons.mpr ⟨zt_m_332, List.forall_mem_cons.mpr ⟨zt_m_333, List.forall_mem_cons.mpr ⟨zt_m_334, List.forall_mem_cons.mpr ⟨zt_m_335, List.forall_mem_cons.mpr ⟨zt_m_336, List.forall_mem_cons.mpr ⟨zt_m_337, List.forall_mem_cons.mpr ⟨zt_m_338, List.forall_mem_cons.mpr ⟨zt_m_339, List.forall_mem_cons.mpr ⟨zt_m_340, List.forall_mem_cons.mpr ⟨zt_m_341, List.forall_mem_cons.mpr ⟨zt_m_342, List.forall_mem_cons.mpr ⟨zt_m_343, List.forall_mem_cons.mpr ⟨zt_m_344, List.forall_mem_cons.mpr ⟨zt_m_345, List.forall_mem_cons.mpr ⟨zt_m_346, List.forall_mem_cons.mpr ⟨zt_m_347, List.forall_mem_cons.mpr ⟨zt_m_348, List.forall_mem_cons.mpr ⟨zt_m_349, List.forall_mem_cons.mpr ⟨zt_m_350, List.forall_mem_cons.mpr ⟨zt_m_351, List.forall_mem_cons.mpr ⟨zt_m_352, List.forall_mem_cons.mpr ⟨zt_m_353, List.forall_mem_cons.mpr ⟨zt_m_354, List.forall_mem_cons.mpr ⟨zt_m_355, List.forall_mem_cons.mpr ⟨zt_m_356, List.forall_mem_cons.mpr ⟨zt_m_357, List.forall_mem_cons.mpr ⟨zt_m_358, List.forall_mem_cons.mpr ⟨zt_m_359, fun _ h => absurd h List.not_mem_nil⟩⟩⟩⟩⟩⟩⟩⟩⟩⟩⟩⟩⟩⟩⟩⟩⟩⟩⟩⟩⟩⟩⟩⟩⟩⟩⟩⟩⟩⟩⟩⟩⟩⟩⟩⟩⟩⟩⟩⟩⟩⟩⟩⟩⟩⟩⟩⟩⟩⟩⟩⟩⟩⟩⟩⟩⟩⟩⟩⟩
theorem zt_mall6 : ∀ q ∈ zt_m6, zt_mOK q := List.forall_mem_cons.mpr ⟨zt_m_360, List.forall_mem_cons.mpr ⟨zt_m_361, List.forall_mem_cons.mpr ⟨zt_m_362, List.forall_mem_cons.mpr ⟨zt_m_363, List.forall_mem_cons.mpr ⟨zt_m_364, List.forall_mem_cons.mpr ⟨zt_m_365, List.forall_mem_cons.mpr ⟨zt_m_366, List.forall_mem_cons.mpr ⟨zt_m_367, List.forall_mem_cons.mpr ⟨zt_m_368, List.forall_mem_cons.mpr ⟨zt_m_369, List.forall_mem_cons.mpr ⟨zt_m_370, List.forall_mem_cons.mpr ⟨zt_m_371, List.forall_mem_cons.mpr ⟨zt_m_372, List.forall_mem_cons.mpr ⟨zt_m_373, List.forall_mem_cons.mpr ⟨zt_m_374, List.forall_mem_cons.mpr ⟨zt_m_375, List.forall_mem_cons.mpr ⟨zt_m_376, List.forall_mem_cons.mpr ⟨zt_m_377, List.forall_mem_cons.mpr ⟨zt_m_378, List.forall_mem_cons.mpr ⟨zt_m_379, List.forall_mem_cons.mpr ⟨zt_m_380, List.forall_mem_cons.mpr ⟨zt_m_381, List.forall_mem_cons.mpr ⟨zt_m_382, List.forall_mem_cons.mpr ⟨zt_m_383, List.forall_mem_cons.mpr ⟨zt_m_384, List.forall_mem_cons.mpr ⟨zt_m_385, List.forall_mem_cons.mpr ⟨zt_m_386, List.forall_mem_cons.mpr ⟨zt_m_387, List.forall_mem_cons.mpr ⟨zt_m_388, List.forall_mem_cons.mpr ⟨zt_m_389, List.forall_mem_cons.mpr ⟨zt_m_390, List.forall_mem_cons.mpr ⟨zt_m_391, List.forall_mem_cons.mpr ⟨zt_m_392, List.forall_mem_cons.mpr ⟨zt_m_393, List.forall_mem_cons.mpr ⟨zt_m_394, List.forall_mem_cons.mpr ⟨zt_m_395, fun _ h => absurd h List.not_mem_nil⟩⟩⟩⟩⟩⟩⟩⟩⟩⟩⟩⟩⟩⟩⟩⟩⟩⟩⟩⟩⟩⟩⟩⟩⟩⟩⟩⟩⟩⟩⟩⟩⟩⟩⟩⟩
theorem zt_mall : ∀ q ∈ zt_m.tail, zt_mOK q := by
  intro q hq
  have h : q ∈ zt_m0.tail ++ (zt_m1 ++ (zt_m2 ++ (zt_m3 ++ (zt_m4 ++ (zt_m5 ++ (zt_m6)))))) := hq
  simp only [List.mem_append] at h
  rcases h with h | h | h | h | h | h | h
  · exact zt_mall0 q h
  · exact zt_mall1 q h
  · exact zt_mall2 q h
  · exact zt_mall3 q h
  · exact zt_mall4 q h
  · exact zt_mall5 q h
  · exact zt_mall6 q h
theorem zt_m_ok {mi : Nat} {q : zx_M} (h : zt_m[mi + 1]? = some q) : zt_mOK q := zt_mall q (List.mem_of_getElem? (i := mi) (by rw [← h]; rfl))
def zt_eOK (own : String) (e : Nat × Nat × Nat × Nat × Nat) : Prop := match e with
  | (i, kd, x, y, _) => match kd with
    | 0 => ∃ (r : vw_C) (ref : String), zt_cl[x]? = some r ∧ y < r.2.2 ∧ Cond.fieldLink own i ref (r.2.1 y).2.1 (r.2.1 y).2.2.1 ∈ zt_good ∧ (ref = (r.2.1 y).1 ∨ Cond.sameField ref (r.2.1 y).1 (r.2.1 y).2.1 (r.2.1 y).2.2.1 ∈ zt_good)
    | 1 => ∃ (r : vw_C) (host : String), zt_cl[x]? = some r ∧ y < r.2.2 ∧ Cond.fieldLinkNest own i (r.2.1 y).1 (r.2.1 y).2.1 (r.2.1 y).2.2.1 host ∈ zt_nw
    | 2 => ∃ C : String, Cond.classLink own i C ∈ zt_good ∧ (x = 999 ∨ (zt_cl[x]?).map (·.1) = some C) ∧ (y = 999 ∨ zt_at[y]? = some (.object C))
    | 4 | 6 | 8 => ∃ q : zx_M, zt_m[x]? = some q ∧ Cond.methodLink own i q.1 ∈ zt_good
    | 5 | 7 | 9 => ∃ (q : zx_M) (host : String), zt_m[x]? = some q ∧ Cond.methodLinkNest own i q.1 host ∈ zt_nw
    | 10 => Cond.methodLink own i objectInit ∈ zt_good
    | 11 => ∃ x9 : MethodName, zt_ift[y]? = some (x9, x) ∧ Cond.methodLink own i x9 ∈ zt_good
    | 13 => ∃ tx : String, Cond.stringRef own i tx ∈ lw_tbl ∧ (y = 1 → (own, i, tx, x) ∈ zt_str)
    | 14 => ∃ e : String × String × String, zt_stn[x]? = some e ∧ Cond.fieldLink own i e.1 e.2.1 e.2.2 ∈ zt_good
    | 16 => (y = 0 ∧ Cond.methodLink own i Lib.Math.max.name ∈ zt_good ∧ Cond.static Lib.Math.max.name ∈ zt_good ∧ Cond.initialized "java/lang/Math" ∈ zt_good ∧ Cond.code Lib.Math.max.name Lib.Math.max.code 2 (some .int) ∈ zt_good) ∨
        (y = 1 ∧ Cond.methodLink own i Lib.Math.min.name ∈ zt_good ∧ Cond.static Lib.Math.min.name ∈ zt_good ∧ Cond.initialized "java/lang/Math" ∈ zt_good ∧ Cond.code Lib.Math.min.name Lib.Math.min.code 2 (some .int) ∈ zt_good) ∨
        (y = 2 ∧ Cond.methodLink own i Lib.MathLoose.min_long.x ∈ zt_good ∧ Cond.static Lib.MathLoose.min_long.x ∈ zt_good ∧ Cond.initialized "java/lang/Math" ∈ zt_good ∧ Cond.code Lib.MathLoose.min_long.x Lib.MathLoose.min_long.code 4 (some .long) ∈ zt_good)
    | 17 => Cond.methodLink own i arraycopyName ∈ zt_good
    | 18 => ∃ (nm : String) (ty : FieldType), Cond.classLink own i nm ∈ zt_good ∧ zt_at[x]? = some ty ∧ nm = "[" ++ ty.toString
    | 19 => Cond.classLink own i "java/lang/Boolean" ∈ zt_good
    | _ => False
set_option maxRecDepth 100000 in
theorem zt_e0_18 : zt_eOK "java/lang/String" (1065, 4, 350, 0, 9198) := ⟨_, rfl, (zt_in (j := 9) (k := 198) rfl rfl)⟩
set_option maxRecDepth 100000 in
theorem zt_e0_17 : zt_eOK "java/lang/String" (1062, 4, 341, 0, 9166) := ⟨_, rfl, (zt_in (j := 9) (k := 166) rfl rfl)⟩
set_option maxRecDepth 100000 in
theorem zt_e0_16 : zt_eOK "java/lang/String" (1059, 4, 134, 0, 4181) := ⟨_, rfl, (zt_in (j := 4) (k := 181) rfl rfl)⟩
set_option maxRecDepth 100000 in
theorem zt_e0_15 : zt_eOK "java/lang/String" (1053, 14, 7, 0, 4179) := ⟨_, rfl, (zt_in (j := 4) (k := 179) rfl rfl)⟩
set_option maxRecDepth 100000 in
theorem zt_e0_14 : zt_eOK "java/lang/String" (1051, 4, 367, 0, 10037) := ⟨_, rfl, (zt_in (j := 10) (k := 37) rfl rfl)⟩
set_option maxRecDepth 100000 in
theorem zt_e0_13 : zt_eOK "java/lang/String" (1048, 0, 1, 2, 9109) := ⟨_, "java/lang/AbstractStringBuilder", rfl, by decide, (zt_in (j := 9) (k := 109) rfl rfl), Or.inl rfl⟩
set_option maxRecDepth 100000 in
theorem zt_e0_12 : zt_eOK "java/lang/String" (498, 4, 135, 0, 4184) := ⟨_, rfl, (zt_in (j := 4) (k := 184) rfl rfl)⟩
set_option maxRecDepth 100000 in
theorem zt_e0_11 : zt_eOK "java/lang/String" (495, 4, 132, 0, 4173) := ⟨_, rfl, (zt_in (j := 4) (k := 173) rfl rfl)⟩
set_option maxRecDepth 100000 in
theorem zt_e0_10 : zt_eOK "java/lang/String" (492, 6, 131, 0, 4169) := ⟨_, rfl, (zt_in (j := 4) (k := 169) rfl rfl)⟩
set_option maxRecDepth 100000 in
theorem zt_e0_9 : zt_eOK "java/lang/String" (489, 8, 360, 0, 10002) := ⟨_, rfl, (zt_in (j := 10) (k := 2) rfl rfl)⟩
set_option maxRecDepth 100000 in
theorem zt_e0_8 : zt_eOK "java/lang/String" (335, 6, 129, 0, 4159) := ⟨_, rfl, (zt_in (j := 4) (k := 159) rfl rfl)⟩
set_option maxRecDepth 100000 in
theorem zt_e0_7 : zt_eOK "java/lang/String" (212, 17, 0, 0, 9205) := (zt_in (j := 9) (k := 205) rfl rfl)
set_option maxRecDepth 100000 in
theorem zt_e0_6 : zt_eOK "java/lang/String" (106, 4, 346, 0, 9206) := ⟨_, rfl, (zt_in (j := 9) (k := 206) rfl rfl)⟩
set_option maxRecDepth 100000 in
theorem zt_e0_5 : zt_eOK "java/lang/String" (54, 4, 364, 0, 10020) := ⟨_, rfl, (zt_in (j := 10) (k := 20) rfl rfl)⟩
set_option maxRecDepth 100000 in
theorem zt_e0_4 : zt_eOK "java/lang/String" (47, 4, 369, 0, 10044) := ⟨_, rfl, (zt_in (j := 10) (k := 44) rfl rfl)⟩
set_option maxRecDepth 100000 in
theorem zt_e0_3 : zt_eOK "java/lang/String" (38, 14, 6, 0, 4163) := ⟨_, rfl, (zt_in (j := 4) (k := 163) rfl rfl)⟩
set_option maxRecDepth 100000 in
theorem zt_e0_2 : zt_eOK "java/lang/String" (15, 0, 0, 1, 10048) := ⟨_, "java/lang/String", rfl, by decide, (zt_in (j := 10) (k := 48) rfl rfl), Or.inl rfl⟩
set_option maxRecDepth 100000 in
theorem zt_e0_1 : zt_eOK "java/lang/String" (9, 0, 0, 0, 10047) := ⟨_, "java/lang/String", rfl, by decide, (zt_in (j := 10) (k := 47) rfl rfl), Or.inl rfl⟩
set_option maxRecDepth 100000 in
theorem zt_e0_0 : zt_eOK "java/lang/String" (1, 10, 0, 0, 10005) := (zt_in (j := 10) (k := 5) rfl rfl)
theorem zt_pl0_ok : ∀ e ∈ zt_pl0, zt_eOK "java/lang/String" e := List.forall_mem_cons.mpr ⟨zt_e0_0, List.forall_mem_cons.mpr ⟨zt_e0_1, List.forall_mem_cons.mpr ⟨zt_e0_2, List.forall_mem_cons.mpr ⟨zt_e0_3, List.forall_mem_cons.mpr ⟨zt_e0_4, List.forall_mem_cons.mpr ⟨zt_e0_5, List.forall_mem_cons.mpr ⟨zt_e0_6, List.forall_mem_cons.mpr ⟨zt_e0_7, List.forall_mem_cons.mpr ⟨zt_e0_8, List.forall_mem_cons.mpr ⟨zt_e0_9, List.forall_mem_cons.mpr ⟨zt_e0_10, List.forall_mem_cons.mpr ⟨zt_e0_11, List.forall_mem_cons.mpr ⟨zt_e0_12, List.forall_mem_cons.mpr ⟨zt_e0_13, List.forall_mem_cons.mpr ⟨zt_e0_14, List.forall_mem_cons.mpr ⟨zt_e0_15, List.forall_mem_cons.mpr ⟨zt_e0_16, List.forall_mem_cons.mpr ⟨zt_e0_17, List.forall_mem_cons.mpr ⟨zt_e0_18, fun _ h => absurd h List.not_mem_nil⟩⟩⟩⟩⟩⟩⟩⟩⟩⟩⟩⟩⟩⟩⟩⟩⟩⟩⟩
set_option maxRecDepth 100000 in
theorem zt_lc0_ok : ∀ e ∈ zt_lc0, Cond.constantLong "java/lang/String" e.1 e.2.1 ∈ zt_good := fun _ h => absurd h List.not_mem_nil
set_option maxRecDepth 100000 in
theorem zt_e1_2 : zt_eOK "java/lang/StringBuilder" (137, 8, 359, 0, 9239) := ⟨_, rfl, (zt_in (j := 9) (k := 239) rfl rfl)⟩
set_option maxRecDepth 100000 in
theorem zt_e1_1 : zt_eOK "java/lang/StringBuilder" (18, 2, 0, 999, 9237) := ⟨"java/lang/String", (zt_in (j := 9) (k := 237) rfl rfl), Or.inr rfl, Or.inl rfl⟩
set_option maxRecDepth 100000 in
theorem zt_e1_0 : zt_eOK "java/lang/StringBuilder" (1, 8, 328, 0, 9095) := ⟨_, rfl, (zt_in (j := 9) (k := 95) rfl rfl)⟩
theorem zt_pl1_ok : ∀ e ∈ zt_pl1, zt_eOK "java/lang/StringBuilder" e := List.forall_mem_cons.mpr ⟨zt_e1_0, List.forall_mem_cons.mpr ⟨zt_e1_1, List.forall_mem_cons.mpr ⟨zt_e1_2, fun _ h => absurd h List.not_mem_nil⟩⟩⟩
set_option maxRecDepth 100000 in
theorem zt_lc1_ok : ∀ e ∈ zt_lc1, Cond.constantLong "java/lang/StringBuilder" e.1 e.2.1 ∈ zt_good := fun _ h => absurd h List.not_mem_nil
set_option maxRecDepth 100000 in
theorem zt_e2_5 : zt_eOK "java/lang/Integer" (205, 0, 2, 0, 7111) := ⟨_, "java/lang/Integer", rfl, by decide, (zt_in (j := 7) (k := 111) rfl rfl), Or.inl rfl⟩
set_option maxRecDepth 100000 in
theorem zt_e2_4 : zt_eOK "java/lang/Integer" (202, 8, 241, 0, 7107) := ⟨_, rfl, (zt_in (j := 7) (k := 107) rfl rfl)⟩
set_option maxRecDepth 100000 in
theorem zt_e2_3 : zt_eOK "java/lang/Integer" (199, 8, 240, 0, 7104) := ⟨_, rfl, (zt_in (j := 7) (k := 104) rfl rfl)⟩
set_option maxRecDepth 100000 in
theorem zt_e2_2 : zt_eOK "java/lang/Integer" (195, 14, 4, 0, 7100) := ⟨_, rfl, (zt_in (j := 7) (k := 100) rfl rfl)⟩
set_option maxRecDepth 100000 in
theorem zt_e2_1 : zt_eOK "java/lang/Integer" (191, 14, 3, 0, 7098) := ⟨_, rfl, (zt_in (j := 7) (k := 98) rfl rfl)⟩
set_option maxRecDepth 100000 in
theorem zt_e2_0 : zt_eOK "java/lang/Integer" (1, 2, 2, 999, 7102) := ⟨"java/lang/Integer", (zt_in (j := 7) (k := 102) rfl rfl), Or.inr rfl, Or.inl rfl⟩
theorem zt_pl2_ok : ∀ e ∈ zt_pl2, zt_eOK "java/lang/Integer" e := List.forall_mem_cons.mpr ⟨zt_e2_0, List.forall_mem_cons.mpr ⟨zt_e2_1, List.forall_mem_cons.mpr ⟨zt_e2_2, List.forall_mem_cons.mpr ⟨zt_e2_3, List.forall_mem_cons.mpr ⟨zt_e2_4, List.forall_mem_cons.mpr ⟨zt_e2_5, fun _ h => absurd h List.not_mem_nil⟩⟩⟩⟩⟩⟩
set_option maxRecDepth 100000 in
theorem zt_lc2_ok : ∀ e ∈ zt_lc2, Cond.constantLong "java/lang/Integer" e.1 e.2.1 ∈ zt_good := fun _ h => absurd h List.not_mem_nil
set_option maxRecDepth 100000 in
theorem zt_e3_4 : zt_eOK "java/lang/Long" (273, 0, 3, 0, 8176) := ⟨_, "java/lang/Long", rfl, by decide, (zt_in (j := 8) (k := 176) rfl rfl), Or.inl rfl⟩
set_option maxRecDepth 100000 in
theorem zt_e3_3 : zt_eOK "java/lang/Long" (270, 8, 241, 0, 8175) := ⟨_, rfl, (zt_in (j := 8) (k := 175) rfl rfl)⟩
set_option maxRecDepth 100000 in
theorem zt_e3_2 : zt_eOK "java/lang/Long" (240, 8, 298, 0, 8172) := ⟨_, rfl, (zt_in (j := 8) (k := 172) rfl rfl)⟩
set_option maxRecDepth 100000 in
theorem zt_e3_1 : zt_eOK "java/lang/Long" (234, 14, 5, 0, 8168) := ⟨_, rfl, (zt_in (j := 8) (k := 168) rfl rfl)⟩
set_option maxRecDepth 100000 in
theorem zt_e3_0 : zt_eOK "java/lang/Long" (1, 2, 3, 999, 8170) := ⟨"java/lang/Long", (zt_in (j := 8) (k := 170) rfl rfl), Or.inr rfl, Or.inl rfl⟩
theorem zt_pl3_ok : ∀ e ∈ zt_pl3, zt_eOK "java/lang/Long" e := List.forall_mem_cons.mpr ⟨zt_e3_0, List.forall_mem_cons.mpr ⟨zt_e3_1, List.forall_mem_cons.mpr ⟨zt_e3_2, List.forall_mem_cons.mpr ⟨zt_e3_3, List.forall_mem_cons.mpr ⟨zt_e3_4, fun _ h => absurd h List.not_mem_nil⟩⟩⟩⟩⟩
set_option maxRecDepth 100000 in
theorem zt_lc3_ok : ∀ e ∈ zt_lc3, Cond.constantLong "java/lang/Long" e.1 e.2.1 ∈ zt_good := List.forall_mem_cons.mpr ⟨(zt_in (j := 3) (k := 14) rfl rfl), List.forall_mem_cons.mpr ⟨(zt_in (j := 3) (k := 15) rfl rfl), List.forall_mem_cons.mpr ⟨(zt_in (j := 3) (k := 16) rfl rfl), List.forall_mem_cons.mpr ⟨(zt_in (j := 8) (k := 166) rfl rfl), List.forall_mem_cons.mpr ⟨(zt_in (j := 8) (k := 167) rfl rfl), fun _ h => absurd h List.not_mem_nil⟩⟩⟩⟩⟩
set_option maxRecDepth 100000 in
theorem zt_e4_25 : zt_eOK "java/util/ArrayList" (203, 13, 0, 0, 9232) := ⟨", Size: ", zt_ch_in (j := 9) (List.mem_of_getElem? (i := 232) rfl), fun h => absurd h (by decide)⟩
set_option maxRecDepth 100000 in
theorem zt_e4_24 : zt_eOK "java/util/ArrayList" (201, 13, 0, 0, 9120) := ⟨"Index: ", zt_ch_in (j := 9) (List.mem_of_getElem? (i := 120) rfl), fun h => absurd h (by decide)⟩
set_option maxRecDepth 100000 in
theorem zt_e4_23 : zt_eOK "java/util/ArrayList" (198, 6, 326, 0, 9086) := ⟨_, rfl, (zt_in (j := 9) (k := 86) rfl rfl)⟩
set_option maxRecDepth 100000 in
theorem zt_e4_22 : zt_eOK "java/util/ArrayList" (187, 2, 19, 999, 9085) := ⟨"java/lang/IndexOutOfBoundsException", (zt_in (j := 9) (k := 85) rfl rfl), Or.inr rfl, Or.inl rfl⟩
set_option maxRecDepth 100000 in
theorem zt_e4_21 : zt_eOK "java/util/ArrayList" (144, 6, 244, 0, 7130) := ⟨_, rfl, (zt_in (j := 7) (k := 130) rfl rfl)⟩
set_option maxRecDepth 100000 in
theorem zt_e4_20 : zt_eOK "java/util/ArrayList" (135, 6, 325, 0, 9081) := ⟨_, rfl, (zt_in (j := 9) (k := 81) rfl rfl)⟩
set_option maxRecDepth 100000 in
theorem zt_e4_19 : zt_eOK "java/util/ArrayList" (131, 6, 226, 0, 6200) := ⟨_, rfl, (zt_in (j := 6) (k := 200) rfl rfl)⟩
set_option maxRecDepth 100000 in
theorem zt_e4_18 : zt_eOK "java/util/ArrayList" (129, 6, 227, 0, 6204) := ⟨_, rfl, (zt_in (j := 6) (k := 204) rfl rfl)⟩
set_option maxRecDepth 100000 in
theorem zt_e4_17 : zt_eOK "java/util/ArrayList" (123, 6, 224, 0, 6186) := ⟨_, rfl, (zt_in (j := 6) (k := 186) rfl rfl)⟩
set_option maxRecDepth 100000 in
theorem zt_e4_16 : zt_eOK "java/util/ArrayList" (118, 4, 223, 0, 6182) := ⟨_, rfl, (zt_in (j := 6) (k := 182) rfl rfl)⟩
set_option maxRecDepth 100000 in
theorem zt_e4_15 : zt_eOK "java/util/ArrayList" (112, 17, 0, 0, 7134) := (zt_in (j := 7) (k := 134) rfl rfl)
set_option maxRecDepth 100000 in
theorem zt_e4_14 : zt_eOK "java/util/ArrayList" (79, 16, 0, 0, 7021) := Or.inl ⟨rfl, (zt_in (j := 7) (k := 21) rfl rfl), (zt_in (j := 3) (k := 193) rfl rfl), (zt_in (j := 1) (k := 17) rfl rfl), (zt_in (j := 3) (k := 194) rfl rfl)⟩
set_option maxRecDepth 100000 in
theorem zt_e4_13 : zt_eOK "java/util/ArrayList" (73, 4, 229, 0, 6212) := ⟨_, rfl, (zt_in (j := 6) (k := 212) rfl rfl)⟩
set_option maxRecDepth 100000 in
theorem zt_e4_12 : zt_eOK "java/util/ArrayList" (69, 6, 228, 0, 6208) := ⟨_, rfl, (zt_in (j := 6) (k := 208) rfl rfl)⟩
set_option maxRecDepth 100000 in
theorem zt_e4_11 : zt_eOK "java/util/ArrayList" (66, 4, 231, 0, 6220) := ⟨_, rfl, (zt_in (j := 6) (k := 220) rfl rfl)⟩
set_option maxRecDepth 100000 in
theorem zt_e4_10 : zt_eOK "java/util/ArrayList" (63, 0, 4, 0, 6126) := ⟨_, "java/util/ArrayList", rfl, by decide, (zt_in (j := 6) (k := 126) rfl rfl), Or.inr (zt_in (j := 6) (k := 127) rfl rfl)⟩
set_option maxRecDepth 100000 in
theorem zt_e4_9 : zt_eOK "java/util/ArrayList" (48, 0, 4, 2, 6124) := ⟨_, "java/util/ArrayList", rfl, by decide, (zt_in (j := 6) (k := 124) rfl rfl), Or.inl rfl⟩
set_option maxRecDepth 100000 in
theorem zt_e4_8 : zt_eOK "java/util/ArrayList" (39, 14, 0, 0, 6121) := ⟨_, rfl, (zt_in (j := 6) (k := 121) rfl rfl)⟩
set_option maxRecDepth 100000 in
theorem zt_e4_7 : zt_eOK "java/util/ArrayList" (32, 6, 358, 0, 9233) := ⟨_, rfl, (zt_in (j := 9) (k := 233) rfl rfl)⟩
set_option maxRecDepth 100000 in
theorem zt_e4_6 : zt_eOK "java/util/ArrayList" (29, 6, 352, 0, 9207) := ⟨_, rfl, (zt_in (j := 9) (k := 207) rfl rfl)⟩
set_option maxRecDepth 100000 in
theorem zt_e4_5 : zt_eOK "java/util/ArrayList" (25, 6, 331, 0, 9121) := ⟨_, rfl, (zt_in (j := 9) (k := 121) rfl rfl)⟩
set_option maxRecDepth 100000 in
theorem zt_e4_4 : zt_eOK "java/util/ArrayList" (22, 8, 327, 0, 9092) := ⟨_, rfl, (zt_in (j := 9) (k := 92) rfl rfl)⟩
set_option maxRecDepth 100000 in
theorem zt_e4_3 : zt_eOK "java/util/ArrayList" (20, 2, 1, 999, 9090) := ⟨"java/lang/StringBuilder", (zt_in (j := 9) (k := 90) rfl rfl), Or.inr rfl, Or.inl rfl⟩
set_option maxRecDepth 100000 in
theorem zt_e4_2 : zt_eOK "java/util/ArrayList" (9, 0, 4, 1, 6123) := ⟨_, "java/util/ArrayList", rfl, by decide, (zt_in (j := 6) (k := 123) rfl rfl), Or.inl rfl⟩
set_option maxRecDepth 100000 in
theorem zt_e4_1 : zt_eOK "java/util/ArrayList" (7, 2, 999, 5, 7022) := ⟨"java/lang/Object", (zt_in (j := 7) (k := 22) rfl rfl), Or.inl rfl, Or.inr rfl⟩
set_option maxRecDepth 100000 in
theorem zt_e4_0 : zt_eOK "java/util/ArrayList" (1, 8, 217, 0, 6114) := ⟨_, rfl, (zt_in (j := 6) (k := 114) rfl rfl)⟩
theorem zt_pl4_ok : ∀ e ∈ zt_pl4, zt_eOK "java/util/ArrayList" e := List.forall_mem_cons.mpr ⟨zt_e4_0, List.forall_mem_cons.mpr ⟨zt_e4_1, List.forall_mem_cons.mpr ⟨zt_e4_2, List.forall_mem_cons.mpr ⟨zt_e4_3, List.forall_mem_cons.mpr ⟨zt_e4_4, List.forall_mem_cons.mpr ⟨zt_e4_5, List.forall_mem_cons.mpr ⟨zt_e4_6, List.forall_mem_cons.mpr ⟨zt_e4_7, List.forall_mem_cons.mpr ⟨zt_e4_8, List.forall_mem_cons.mpr ⟨zt_e4_9, List.forall_mem_cons.mpr ⟨zt_e4_10, List.forall_mem_cons.mpr ⟨zt_e4_11, List.forall_mem_cons.mpr ⟨zt_e4_12, List.forall_mem_cons.mpr ⟨zt_e4_13, List.forall_mem_cons.mpr ⟨zt_e4_14, List.forall_mem_cons.mpr ⟨zt_e4_15, List.forall_mem_cons.mpr ⟨zt_e4_16, List.forall_mem_cons.mpr ⟨zt_e4_17, List.forall_mem_cons.mpr ⟨zt_e4_18, List.forall_mem_cons.mpr ⟨zt_e4_19, List.forall_mem_cons.mpr ⟨zt_e4_20, List.forall_mem_cons.mpr ⟨zt_e4_21, List.forall_mem_cons.mpr ⟨zt_e4_22, List.forall_mem_cons.mpr ⟨zt_e4_23, List.forall_mem_cons.mpr ⟨zt_e4_24, List.forall_mem_cons.mpr ⟨zt_e4_25, fun _ h => absurd h List.not_mem_nil⟩⟩⟩⟩⟩⟩⟩⟩⟩⟩⟩⟩⟩⟩⟩⟩⟩⟩⟩⟩⟩⟩⟩⟩⟩⟩
set_option maxRecDepth 100000 in
theorem zt_lc4_ok : ∀ e ∈ zt_lc4, Cond.constantLong "java/util/ArrayList" e.1 e.2.1 ∈ zt_good := fun _ h => absurd h List.not_mem_nil
set_option maxRecDepth 100000 in
theorem zt_e5_33 : zt_eOK "ColumnVault$Checks" (128, 6, 208, 0, 6074) := ⟨_, rfl, (zt_in (j := 6) (k := 74) rfl rfl)⟩
set_option maxRecDepth 100000 in
theorem zt_e5_32 : zt_eOK "ColumnVault$Checks" (120, 6, 52, 0, 6071) := ⟨_, rfl, (zt_in (j := 6) (k := 71) rfl rfl)⟩
set_option maxRecDepth 100000 in
theorem zt_e5_31 : zt_eOK "ColumnVault$Checks" (117, 6, 168, 0, 6070) := ⟨_, rfl, (zt_in (j := 6) (k := 70) rfl rfl)⟩
set_option maxRecDepth 100000 in
theorem zt_e5_30 : zt_eOK "ColumnVault$Checks" (112, 1, 8, 0, 1164) := ⟨_, "ColumnVault", rfl, by decide, (zt_inN (j := 1) (k := 164) rfl rfl)⟩
set_option maxRecDepth 100000 in
theorem zt_e5_29 : zt_eOK "ColumnVault$Checks" (108, 6, 175, 0, 6064) := ⟨_, rfl, (zt_in (j := 6) (k := 64) rfl rfl)⟩
set_option maxRecDepth 100000 in
theorem zt_e5_28 : zt_eOK "ColumnVault$Checks" (105, 6, 206, 0, 6060) := ⟨_, rfl, (zt_in (j := 6) (k := 60) rfl rfl)⟩
set_option maxRecDepth 100000 in
theorem zt_e5_27 : zt_eOK "ColumnVault$Checks" (102, 6, 29, 0, 6059) := ⟨_, rfl, (zt_in (j := 6) (k := 59) rfl rfl)⟩
set_option maxRecDepth 100000 in
theorem zt_e5_26 : zt_eOK "ColumnVault$Checks" (98, 1, 13, 5, 1079) := ⟨_, "ColumnVault", rfl, by decide, (zt_inN (j := 1) (k := 79) rfl rfl)⟩
set_option maxRecDepth 100000 in
theorem zt_e5_25 : zt_eOK "ColumnVault$Checks" (92, 4, 49, 0, 6058) := ⟨_, rfl, (zt_in (j := 6) (k := 58) rfl rfl)⟩
set_option maxRecDepth 100000 in
theorem zt_e5_24 : zt_eOK "ColumnVault$Checks" (89, 6, 169, 0, 6057) := ⟨_, rfl, (zt_in (j := 6) (k := 57) rfl rfl)⟩
set_option maxRecDepth 100000 in
theorem zt_e5_23 : zt_eOK "ColumnVault$Checks" (86, 1, 8, 4, 1170) := ⟨_, "ColumnVault", rfl, by decide, (zt_inN (j := 1) (k := 170) rfl rfl)⟩
set_option maxRecDepth 100000 in
theorem zt_e5_22 : zt_eOK "ColumnVault$Checks" (82, 6, 161, 0, 6056) := ⟨_, rfl, (zt_in (j := 6) (k := 56) rfl rfl)⟩
set_option maxRecDepth 100000 in
theorem zt_e5_21 : zt_eOK "ColumnVault$Checks" (78, 5, 61, 0, 6049) := ⟨_, "ColumnVault", rfl, (zt_inN (j := 6) (k := 49) rfl rfl)⟩
set_option maxRecDepth 100000 in
theorem zt_e5_20 : zt_eOK "ColumnVault$Checks" (75, 6, 69, 0, 6048) := ⟨_, rfl, (zt_in (j := 6) (k := 48) rfl rfl)⟩
set_option maxRecDepth 100000 in
theorem zt_e5_19 : zt_eOK "ColumnVault$Checks" (71, 6, 37, 0, 6047) := ⟨_, rfl, (zt_in (j := 6) (k := 47) rfl rfl)⟩
set_option maxRecDepth 100000 in
theorem zt_e5_18 : zt_eOK "ColumnVault$Checks" (67, 6, 91, 0, 6051) := ⟨_, rfl, (zt_in (j := 6) (k := 51) rfl rfl)⟩
set_option maxRecDepth 100000 in
theorem zt_e5_17 : zt_eOK "ColumnVault$Checks" (63, 6, 182, 0, 6050) := ⟨_, rfl, (zt_in (j := 6) (k := 50) rfl rfl)⟩
set_option maxRecDepth 100000 in
theorem zt_e5_16 : zt_eOK "ColumnVault$Checks" (59, 6, 204, 0, 6043) := ⟨_, rfl, (zt_in (j := 6) (k := 43) rfl rfl)⟩
set_option maxRecDepth 100000 in
theorem zt_e5_15 : zt_eOK "ColumnVault$Checks" (55, 6, 63, 0, 6042) := ⟨_, rfl, (zt_in (j := 6) (k := 42) rfl rfl)⟩
set_option maxRecDepth 100000 in
theorem zt_e5_14 : zt_eOK "ColumnVault$Checks" (52, 1, 13, 4, 1073) := ⟨_, "ColumnVault", rfl, by decide, (zt_inN (j := 1) (k := 73) rfl rfl)⟩
set_option maxRecDepth 100000 in
theorem zt_e5_13 : zt_eOK "ColumnVault$Checks" (48, 6, 60, 0, 6041) := ⟨_, rfl, (zt_in (j := 6) (k := 41) rfl rfl)⟩
set_option maxRecDepth 100000 in
theorem zt_e5_12 : zt_eOK "ColumnVault$Checks" (44, 6, 17, 0, 6040) := ⟨_, rfl, (zt_in (j := 6) (k := 40) rfl rfl)⟩
set_option maxRecDepth 100000 in
theorem zt_e5_11 : zt_eOK "ColumnVault$Checks" (41, 6, 207, 0, 6065) := ⟨_, rfl, (zt_in (j := 6) (k := 65) rfl rfl)⟩
set_option maxRecDepth 100000 in
theorem zt_e5_10 : zt_eOK "ColumnVault$Checks" (37, 6, 205, 0, 6052) := ⟨_, rfl, (zt_in (j := 6) (k := 52) rfl rfl)⟩
set_option maxRecDepth 100000 in
theorem zt_e5_9 : zt_eOK "ColumnVault$Checks" (33, 6, 203, 0, 6036) := ⟨_, rfl, (zt_in (j := 6) (k := 36) rfl rfl)⟩
set_option maxRecDepth 100000 in
theorem zt_e5_8 : zt_eOK "ColumnVault$Checks" (29, 1, 13, 3, 1067) := ⟨_, "ColumnVault", rfl, by decide, (zt_inN (j := 1) (k := 67) rfl rfl)⟩
set_option maxRecDepth 100000 in
theorem zt_e5_7 : zt_eOK "ColumnVault$Checks" (25, 0, 5, 2, 1195) := ⟨_, "ColumnVault$Checks", rfl, by decide, (zt_in (j := 1) (k := 195) rfl rfl), Or.inl rfl⟩
set_option maxRecDepth 100000 in
theorem zt_e5_6 : zt_eOK "ColumnVault$Checks" (21, 0, 5, 1, 1194) := ⟨_, "ColumnVault$Checks", rfl, by decide, (zt_in (j := 1) (k := 194) rfl rfl), Or.inl rfl⟩
set_option maxRecDepth 100000 in
theorem zt_e5_5 : zt_eOK "ColumnVault$Checks" (20, 9, 7, 0, 1192) := ⟨_, "ColumnVault", rfl, (zt_inN (j := 1) (k := 192) rfl rfl)⟩
set_option maxRecDepth 100000 in
theorem zt_e5_4 : zt_eOK "ColumnVault$Checks" (18, 2, 8, 999, 1191) := ⟨"ColumnVault$Groups", (zt_in (j := 1) (k := 191) rfl rfl), Or.inr rfl, Or.inl rfl⟩
set_option maxRecDepth 100000 in
theorem zt_e5_3 : zt_eOK "ColumnVault$Checks" (12, 0, 5, 0, 1193) := ⟨_, "ColumnVault$Checks", rfl, by decide, (zt_in (j := 1) (k := 193) rfl rfl), Or.inl rfl⟩
set_option maxRecDepth 100000 in
theorem zt_e5_2 : zt_eOK "ColumnVault$Checks" (11, 9, 3, 0, 1190) := ⟨_, "ColumnVault", rfl, (zt_inN (j := 1) (k := 190) rfl rfl)⟩
set_option maxRecDepth 100000 in
theorem zt_e5_1 : zt_eOK "ColumnVault$Checks" (9, 2, 13, 0, 1189) := ⟨"ColumnVault$Sheet", (zt_in (j := 1) (k := 189) rfl rfl), Or.inr rfl, Or.inr rfl⟩
set_option maxRecDepth 100000 in
theorem zt_e5_0 : zt_eOK "ColumnVault$Checks" (3, 10, 0, 0, 1188) := (zt_in (j := 1) (k := 188) rfl rfl)
theorem zt_pl5_ok : ∀ e ∈ zt_pl5, zt_eOK "ColumnVault$Checks" e := List.forall_mem_cons.mpr ⟨zt_e5_0, List.forall_mem_cons.mpr ⟨zt_e5_1, List.forall_mem_cons.mpr ⟨zt_e5_2, List.forall_mem_cons.mpr ⟨zt_e5_3, List.forall_mem_cons.mpr ⟨zt_e5_4, List.forall_mem_cons.mpr ⟨zt_e5_5, List.forall_mem_cons.mpr ⟨zt_e5_6, List.forall_mem_cons.mpr ⟨zt_e5_7, List.forall_mem_cons.mpr ⟨zt_e5_8, List.forall_mem_cons.mpr ⟨zt_e5_9, List.forall_mem_cons.mpr ⟨zt_e5_10, List.forall_mem_cons.mpr ⟨zt_e5_11, List.forall_mem_cons.mpr ⟨zt_e5_12, List.forall_mem_cons.mpr ⟨zt_e5_13, List.forall_mem_cons.mpr ⟨zt_e5_14, List.forall_mem_cons.mpr ⟨zt_e5_15, List.forall_mem_cons.mpr ⟨zt_e5_16, List.forall_mem_cons.mpr ⟨zt_e5_17, List.forall_mem_cons.mpr ⟨zt_e5_18, List.forall_mem_cons.mpr ⟨zt_e5_19, List.forall_mem_cons.mpr ⟨zt_e5_20, List.forall_mem_cons.mpr ⟨zt_e5_21, List.forall_mem_cons.mpr ⟨zt_e5_22, List.forall_mem_cons.mpr ⟨zt_e5_23, List.forall_mem_cons.mpr ⟨zt_e5_24, List.forall_mem_cons.mpr ⟨zt_e5_25, List.forall_mem_cons.mpr ⟨zt_e5_26, List.forall_mem_cons.mpr ⟨zt_e5_27, List.forall_mem_cons.mpr ⟨zt_e5_28, List.forall_mem_cons.mpr ⟨zt_e5_29, List.forall_mem_cons.mpr ⟨zt_e5_30, List.forall_mem_cons.mpr ⟨zt_e5_31, List.forall_mem_cons.mpr ⟨zt_e5_32, List.forall_mem_cons.mpr ⟨zt_e5_33, fun _ h => absurd h List.not_mem_nil⟩⟩⟩⟩⟩⟩⟩⟩⟩⟩⟩⟩⟩⟩⟩⟩⟩⟩⟩⟩⟩⟩⟩⟩⟩⟩⟩⟩⟩⟩⟩⟩⟩⟩
set_option maxRecDepth 100000 in
theorem zt_lc5_ok : ∀ e ∈ zt_lc5, Cond.constantLong "ColumnVault$Checks" e.1 e.2.1 ∈ zt_good := List.forall_mem_cons.mpr ⟨(zt_in (j := 6) (k := 69) rfl rfl), List.forall_mem_cons.mpr ⟨(zt_in (j := 6) (k := 72) rfl rfl), List.forall_mem_cons.mpr ⟨(zt_in (j := 6) (k := 73) rfl rfl), fun _ h => absurd h List.not_mem_nil⟩⟩⟩
set_option maxRecDepth 100000 in
theorem zt_e6_32 : zt_eOK "ColumnVault$FilterReader" (137, 6, 52, 0, 4062) := ⟨_, rfl, (zt_in (j := 4) (k := 62) rfl rfl)⟩
set_option maxRecDepth 100000 in
theorem zt_e6_31 : zt_eOK "ColumnVault$FilterReader" (131, 5, 38, 0, 4056) := ⟨_, "ColumnVault", rfl, (zt_inN (j := 4) (k := 56) rfl rfl)⟩
set_option maxRecDepth 100000 in
theorem zt_e6_30 : zt_eOK "ColumnVault$FilterReader" (126, 6, 103, 0, 4051) := ⟨_, rfl, (zt_in (j := 4) (k := 51) rfl rfl)⟩
set_option maxRecDepth 100000 in
theorem zt_e6_29 : zt_eOK "ColumnVault$FilterReader" (122, 6, 102, 0, 4047) := ⟨_, rfl, (zt_in (j := 4) (k := 47) rfl rfl)⟩
set_option maxRecDepth 100000 in
theorem zt_e6_28 : zt_eOK "ColumnVault$FilterReader" (110, 6, 104, 0, 4057) := ⟨_, rfl, (zt_in (j := 4) (k := 57) rfl rfl)⟩
set_option maxRecDepth 100000 in
theorem zt_e6_27 : zt_eOK "ColumnVault$FilterReader" (106, 6, 101, 0, 4043) := ⟨_, rfl, (zt_in (j := 4) (k := 43) rfl rfl)⟩
set_option maxRecDepth 100000 in
theorem zt_e6_26 : zt_eOK "ColumnVault$FilterReader" (103, 6, 29, 0, 4042) := ⟨_, rfl, (zt_in (j := 4) (k := 42) rfl rfl)⟩
set_option maxRecDepth 100000 in
theorem zt_e6_25 : zt_eOK "ColumnVault$FilterReader" (100, 6, 100, 0, 4034) := ⟨_, rfl, (zt_in (j := 4) (k := 34) rfl rfl)⟩
set_option maxRecDepth 100000 in
theorem zt_e6_24 : zt_eOK "ColumnVault$FilterReader" (97, 6, 20, 0, 4033) := ⟨_, rfl, (zt_in (j := 4) (k := 33) rfl rfl)⟩
set_option maxRecDepth 100000 in
theorem zt_e6_23 : zt_eOK "ColumnVault$FilterReader" (93, 6, 99, 0, 4029) := ⟨_, rfl, (zt_in (j := 4) (k := 29) rfl rfl)⟩
set_option maxRecDepth 100000 in
theorem zt_e6_22 : zt_eOK "ColumnVault$FilterReader" (89, 6, 105, 0, 4064) := ⟨_, rfl, (zt_in (j := 4) (k := 64) rfl rfl)⟩
set_option maxRecDepth 100000 in
theorem zt_e6_21 : zt_eOK "ColumnVault$FilterReader" (85, 6, 98, 0, 4025) := ⟨_, rfl, (zt_in (j := 4) (k := 25) rfl rfl)⟩
set_option maxRecDepth 100000 in
theorem zt_e6_20 : zt_eOK "ColumnVault$FilterReader" (82, 6, 97, 0, 4021) := ⟨_, rfl, (zt_in (j := 4) (k := 21) rfl rfl)⟩
set_option maxRecDepth 100000 in
theorem zt_e6_19 : zt_eOK "ColumnVault$FilterReader" (79, 6, 92, 0, 4001) := ⟨_, rfl, (zt_in (j := 4) (k := 1) rfl rfl)⟩
set_option maxRecDepth 100000 in
theorem zt_e6_18 : zt_eOK "ColumnVault$FilterReader" (73, 6, 91, 0, 3237) := ⟨_, rfl, (zt_in (j := 3) (k := 237) rfl rfl)⟩
set_option maxRecDepth 100000 in
theorem zt_e6_17 : zt_eOK "ColumnVault$FilterReader" (69, 6, 93, 0, 4005) := ⟨_, rfl, (zt_in (j := 4) (k := 5) rfl rfl)⟩
set_option maxRecDepth 100000 in
theorem zt_e6_16 : zt_eOK "ColumnVault$FilterReader" (65, 6, 106, 0, 4069) := ⟨_, rfl, (zt_in (j := 4) (k := 69) rfl rfl)⟩
set_option maxRecDepth 100000 in
theorem zt_e6_15 : zt_eOK "ColumnVault$FilterReader" (62, 6, 90, 0, 3233) := ⟨_, rfl, (zt_in (j := 3) (k := 233) rfl rfl)⟩
set_option maxRecDepth 100000 in
theorem zt_e6_14 : zt_eOK "ColumnVault$FilterReader" (59, 8, 89, 0, 3201) := ⟨_, rfl, (zt_in (j := 3) (k := 201) rfl rfl)⟩
set_option maxRecDepth 100000 in
theorem zt_e6_13 : zt_eOK "ColumnVault$FilterReader" (57, 2, 11, 999, 3199) := ⟨"ColumnVault$Node", (zt_in (j := 3) (k := 199) rfl rfl), Or.inr rfl, Or.inl rfl⟩
set_option maxRecDepth 100000 in
theorem zt_e6_12 : zt_eOK "ColumnVault$FilterReader" (53, 6, 96, 0, 4017) := ⟨_, rfl, (zt_in (j := 4) (k := 17) rfl rfl)⟩
set_option maxRecDepth 100000 in
theorem zt_e6_11 : zt_eOK "ColumnVault$FilterReader" (50, 6, 95, 0, 4013) := ⟨_, rfl, (zt_in (j := 4) (k := 13) rfl rfl)⟩
set_option maxRecDepth 100000 in
theorem zt_e6_10 : zt_eOK "ColumnVault$FilterReader" (46, 6, 94, 0, 4009) := ⟨_, rfl, (zt_in (j := 4) (k := 9) rfl rfl)⟩
set_option maxRecDepth 100000 in
theorem zt_e6_9 : zt_eOK "ColumnVault$FilterReader" (42, 6, 88, 0, 3195) := ⟨_, rfl, (zt_in (j := 3) (k := 195) rfl rfl)⟩
set_option maxRecDepth 100000 in
theorem zt_e6_8 : zt_eOK "ColumnVault$FilterReader" (36, 6, 79, 0, 3155) := ⟨_, rfl, (zt_in (j := 3) (k := 155) rfl rfl)⟩
set_option maxRecDepth 100000 in
theorem zt_e6_7 : zt_eOK "ColumnVault$FilterReader" (32, 0, 6, 1, 3128) := ⟨_, "ColumnVault$FilterReader", rfl, by decide, (zt_in (j := 3) (k := 128) rfl rfl), Or.inl rfl⟩
set_option maxRecDepth 100000 in
theorem zt_e6_6 : zt_eOK "ColumnVault$FilterReader" (28, 0, 6, 0, 3127) := ⟨_, "ColumnVault$FilterReader", rfl, by decide, (zt_in (j := 3) (k := 127) rfl rfl), Or.inl rfl⟩
set_option maxRecDepth 100000 in
theorem zt_e6_5 : zt_eOK "ColumnVault$FilterReader" (25, 0, 6, 6, 3134) := ⟨_, "ColumnVault$FilterReader", rfl, by decide, (zt_in (j := 3) (k := 134) rfl rfl), Or.inl rfl⟩
set_option maxRecDepth 100000 in
theorem zt_e6_4 : zt_eOK "ColumnVault$FilterReader" (22, 0, 6, 5, 3132) := ⟨_, "ColumnVault$FilterReader", rfl, by decide, (zt_in (j := 3) (k := 132) rfl rfl), Or.inl rfl⟩
set_option maxRecDepth 100000 in
theorem zt_e6_3 : zt_eOK "ColumnVault$FilterReader" (19, 0, 6, 4, 3131) := ⟨_, "ColumnVault$FilterReader", rfl, by decide, (zt_in (j := 3) (k := 131) rfl rfl), Or.inl rfl⟩
set_option maxRecDepth 100000 in
theorem zt_e6_2 : zt_eOK "ColumnVault$FilterReader" (15, 0, 6, 3, 3130) := ⟨_, "ColumnVault$FilterReader", rfl, by decide, (zt_in (j := 3) (k := 130) rfl rfl), Or.inl rfl⟩
set_option maxRecDepth 100000 in
theorem zt_e6_1 : zt_eOK "ColumnVault$FilterReader" (9, 0, 6, 2, 3129) := ⟨_, "ColumnVault$FilterReader", rfl, by decide, (zt_in (j := 3) (k := 129) rfl rfl), Or.inl rfl⟩
set_option maxRecDepth 100000 in
theorem zt_e6_0 : zt_eOK "ColumnVault$FilterReader" (3, 10, 0, 0, 3126) := (zt_in (j := 3) (k := 126) rfl rfl)
theorem zt_pl6_ok : ∀ e ∈ zt_pl6, zt_eOK "ColumnVault$FilterReader" e := List.forall_mem_cons.mpr ⟨zt_e6_0, List.forall_mem_cons.mpr ⟨zt_e6_1, List.forall_mem_cons.mpr ⟨zt_e6_2, List.forall_mem_cons.mpr ⟨zt_e6_3, List.forall_mem_cons.mpr ⟨zt_e6_4, List.forall_mem_cons.mpr ⟨zt_e6_5, List.forall_mem_cons.mpr ⟨zt_e6_6, List.forall_mem_cons.mpr ⟨zt_e6_7, List.forall_mem_cons.mpr ⟨zt_e6_8, List.forall_mem_cons.mpr ⟨zt_e6_9, List.forall_mem_cons.mpr ⟨zt_e6_10, List.forall_mem_cons.mpr ⟨zt_e6_11, List.forall_mem_cons.mpr ⟨zt_e6_12, List.forall_mem_cons.mpr ⟨zt_e6_13, List.forall_mem_cons.mpr ⟨zt_e6_14, List.forall_mem_cons.mpr ⟨zt_e6_15, List.forall_mem_cons.mpr ⟨zt_e6_16, List.forall_mem_cons.mpr ⟨zt_e6_17, List.forall_mem_cons.mpr ⟨zt_e6_18, List.forall_mem_cons.mpr ⟨zt_e6_19, List.forall_mem_cons.mpr ⟨zt_e6_20, List.forall_mem_cons.mpr ⟨zt_e6_21, List.forall_mem_cons.mpr ⟨zt_e6_22, List.forall_mem_cons.mpr ⟨zt_e6_23, List.forall_mem_cons.mpr ⟨zt_e6_24, List.forall_mem_cons.mpr ⟨zt_e6_25, List.forall_mem_cons.mpr ⟨zt_e6_26, List.forall_mem_cons.mpr ⟨zt_e6_27, List.forall_mem_cons.mpr ⟨zt_e6_28, List.forall_mem_cons.mpr ⟨zt_e6_29, List.forall_mem_cons.mpr ⟨zt_e6_30, List.forall_mem_cons.mpr ⟨zt_e6_31, List.forall_mem_cons.mpr ⟨zt_e6_32, fun _ h => absurd h List.not_mem_nil⟩⟩⟩⟩⟩⟩⟩⟩⟩⟩⟩⟩⟩⟩⟩⟩⟩⟩⟩⟩⟩⟩⟩⟩⟩⟩⟩⟩⟩⟩⟩⟩⟩
set_option maxRecDepth 100000 in
theorem zt_lc6_ok : ∀ e ∈ zt_lc6, Cond.constantLong "ColumnVault$FilterReader" e.1 e.2.1 ∈ zt_good := List.forall_mem_cons.mpr ⟨(zt_in (j := 4) (k := 38) rfl rfl), List.forall_mem_cons.mpr ⟨(zt_in (j := 4) (k := 39) rfl rfl), List.forall_mem_cons.mpr ⟨(zt_in (j := 4) (k := 40) rfl rfl), List.forall_mem_cons.mpr ⟨(zt_in (j := 4) (k := 41) rfl rfl), List.forall_mem_cons.mpr ⟨(zt_in (j := 4) (k := 55) rfl rfl), List.forall_mem_cons.mpr ⟨(zt_in (j := 4) (k := 61) rfl rfl), List.forall_mem_cons.mpr ⟨(zt_in (j := 4) (k := 63) rfl rfl), fun _ h => absurd h List.not_mem_nil⟩⟩⟩⟩⟩⟩⟩
set_option maxRecDepth 100000 in
theorem zt_e7_5 : zt_eOK "ColumnVault$FilterText" (30, 6, 130, 0, 4165) := ⟨_, rfl, (zt_in (j := 4) (k := 165) rfl rfl)⟩
set_option maxRecDepth 100000 in
theorem zt_e7_4 : zt_eOK "ColumnVault$FilterText" (25, 6, 128, 0, 4155) := ⟨_, rfl, (zt_in (j := 4) (k := 155) rfl rfl)⟩
set_option maxRecDepth 100000 in
theorem zt_e7_3 : zt_eOK "ColumnVault$FilterText" (21, 6, 124, 0, 4139) := ⟨_, rfl, (zt_in (j := 4) (k := 139) rfl rfl)⟩
set_option maxRecDepth 100000 in
theorem zt_e7_2 : zt_eOK "ColumnVault$FilterText" (15, 0, 7, 1, 1111) := ⟨_, "ColumnVault$FilterText", rfl, by decide, (zt_in (j := 1) (k := 111) rfl rfl), Or.inl rfl⟩
set_option maxRecDepth 100000 in
theorem zt_e7_1 : zt_eOK "ColumnVault$FilterText" (9, 0, 7, 0, 1110) := ⟨_, "ColumnVault$FilterText", rfl, by decide, (zt_in (j := 1) (k := 110) rfl rfl), Or.inl rfl⟩
set_option maxRecDepth 100000 in
theorem zt_e7_0 : zt_eOK "ColumnVault$FilterText" (3, 10, 0, 0, 1109) := (zt_in (j := 1) (k := 109) rfl rfl)
theorem zt_pl7_ok : ∀ e ∈ zt_pl7, zt_eOK "ColumnVault$FilterText" e := List.forall_mem_cons.mpr ⟨zt_e7_0, List.forall_mem_cons.mpr ⟨zt_e7_1, List.forall_mem_cons.mpr ⟨zt_e7_2, List.forall_mem_cons.mpr ⟨zt_e7_3, List.forall_mem_cons.mpr ⟨zt_e7_4, List.forall_mem_cons.mpr ⟨zt_e7_5, fun _ h => absurd h List.not_mem_nil⟩⟩⟩⟩⟩⟩
set_option maxRecDepth 100000 in
theorem zt_lc7_ok : ∀ e ∈ zt_lc7, Cond.constantLong "ColumnVault$FilterText" e.1 e.2.1 ∈ zt_good := List.forall_mem_cons.mpr ⟨(zt_in (j := 4) (k := 138) rfl rfl), fun _ h => absurd h List.not_mem_nil⟩
set_option maxRecDepth 100000 in
theorem zt_e8_18 : zt_eOK "ColumnVault$Groups" (73, 5, 46, 0, 5119) := ⟨_, "ColumnVault", rfl, (zt_inN (j := 5) (k := 119) rfl rfl)⟩
set_option maxRecDepth 100000 in
theorem zt_e8_17 : zt_eOK "ColumnVault$Groups" (69, 6, 168, 0, 5114) := ⟨_, rfl, (zt_in (j := 5) (k := 114) rfl rfl)⟩
set_option maxRecDepth 100000 in
theorem zt_e8_16 : zt_eOK "ColumnVault$Groups" (65, 6, 29, 0, 5113) := ⟨_, rfl, (zt_in (j := 5) (k := 113) rfl rfl)⟩
set_option maxRecDepth 100000 in
theorem zt_e8_15 : zt_eOK "ColumnVault$Groups" (59, 6, 163, 0, 5093) := ⟨_, rfl, (zt_in (j := 5) (k := 93) rfl rfl)⟩
set_option maxRecDepth 100000 in
theorem zt_e8_14 : zt_eOK "ColumnVault$Groups" (55, 5, 61, 0, 5092) := ⟨_, "ColumnVault", rfl, (zt_inN (j := 5) (k := 92) rfl rfl)⟩
set_option maxRecDepth 100000 in
theorem zt_e8_13 : zt_eOK "ColumnVault$Groups" (51, 6, 37, 0, 5091) := ⟨_, rfl, (zt_in (j := 5) (k := 91) rfl rfl)⟩
set_option maxRecDepth 100000 in
theorem zt_e8_12 : zt_eOK "ColumnVault$Groups" (47, 6, 162, 0, 5087) := ⟨_, rfl, (zt_in (j := 5) (k := 87) rfl rfl)⟩
set_option maxRecDepth 100000 in
theorem zt_e8_11 : zt_eOK "ColumnVault$Groups" (43, 5, 72, 0, 5086) := ⟨_, "ColumnVault", rfl, (zt_inN (j := 5) (k := 86) rfl rfl)⟩
set_option maxRecDepth 100000 in
theorem zt_e8_10 : zt_eOK "ColumnVault$Groups" (39, 1, 13, 5, 1078) := ⟨_, "ColumnVault", rfl, by decide, (zt_inN (j := 1) (k := 78) rfl rfl)⟩
set_option maxRecDepth 100000 in
theorem zt_e8_9 : zt_eOK "ColumnVault$Groups" (36, 1, 13, 4, 1071) := ⟨_, "ColumnVault", rfl, by decide, (zt_inN (j := 1) (k := 71) rfl rfl)⟩
set_option maxRecDepth 100000 in
theorem zt_e8_8 : zt_eOK "ColumnVault$Groups" (32, 6, 17, 0, 5085) := ⟨_, rfl, (zt_in (j := 5) (k := 85) rfl rfl)⟩
set_option maxRecDepth 100000 in
theorem zt_e8_7 : zt_eOK "ColumnVault$Groups" (29, 0, 8, 4, 1169) := ⟨_, "ColumnVault$Groups", rfl, by decide, (zt_in (j := 1) (k := 169) rfl rfl), Or.inl rfl⟩
set_option maxRecDepth 100000 in
theorem zt_e8_6 : zt_eOK "ColumnVault$Groups" (25, 0, 8, 3, 1168) := ⟨_, "ColumnVault$Groups", rfl, by decide, (zt_in (j := 1) (k := 168) rfl rfl), Or.inl rfl⟩
set_option maxRecDepth 100000 in
theorem zt_e8_5 : zt_eOK "ColumnVault$Groups" (22, 0, 8, 2, 1167) := ⟨_, "ColumnVault$Groups", rfl, by decide, (zt_in (j := 1) (k := 167) rfl rfl), Or.inl rfl⟩
set_option maxRecDepth 100000 in
theorem zt_e8_4 : zt_eOK "ColumnVault$Groups" (18, 0, 8, 1, 1166) := ⟨_, "ColumnVault$Groups", rfl, by decide, (zt_in (j := 1) (k := 166) rfl rfl), Or.inl rfl⟩
set_option maxRecDepth 100000 in
theorem zt_e8_3 : zt_eOK "ColumnVault$Groups" (12, 0, 8, 0, 1163) := ⟨_, "ColumnVault$Groups", rfl, by decide, (zt_in (j := 1) (k := 163) rfl rfl), Or.inl rfl⟩
set_option maxRecDepth 100000 in
theorem zt_e8_2 : zt_eOK "ColumnVault$Groups" (11, 9, 3, 0, 1162) := ⟨_, "ColumnVault", rfl, (zt_inN (j := 1) (k := 162) rfl rfl)⟩
set_option maxRecDepth 100000 in
theorem zt_e8_1 : zt_eOK "ColumnVault$Groups" (9, 2, 13, 0, 1161) := ⟨"ColumnVault$Sheet", (zt_in (j := 1) (k := 161) rfl rfl), Or.inr rfl, Or.inr rfl⟩
set_option maxRecDepth 100000 in
theorem zt_e8_0 : zt_eOK "ColumnVault$Groups" (3, 10, 0, 0, 1160) := (zt_in (j := 1) (k := 160) rfl rfl)
theorem zt_pl8_ok : ∀ e ∈ zt_pl8, zt_eOK "ColumnVault$Groups" e := List.forall_mem_cons.mpr ⟨zt_e8_0, List.forall_mem_cons.mpr ⟨zt_e8_1, List.forall_mem_cons.mpr ⟨zt_e8_2, List.forall_mem_cons.mpr ⟨zt_e8_3, List.forall_mem_cons.mpr ⟨zt_e8_4, List.forall_mem_cons.mpr ⟨zt_e8_5, List.forall_mem_cons.mpr ⟨zt_e8_6, List.forall_mem_cons.mpr ⟨zt_e8_7, List.forall_mem_cons.mpr ⟨zt_e8_8, List.forall_mem_cons.mpr ⟨zt_e8_9, List.forall_mem_cons.mpr ⟨zt_e8_10, List.forall_mem_cons.mpr ⟨zt_e8_11, List.forall_mem_cons.mpr ⟨zt_e8_12, List.forall_mem_cons.mpr ⟨zt_e8_13, List.forall_mem_cons.mpr ⟨zt_e8_14, List.forall_mem_cons.mpr ⟨zt_e8_15, List.forall_mem_cons.mpr ⟨zt_e8_16, List.forall_mem_cons.mpr ⟨zt_e8_17, List.forall_mem_cons.mpr ⟨zt_e8_18, fun _ h => absurd h List.not_mem_nil⟩⟩⟩⟩⟩⟩⟩⟩⟩⟩⟩⟩⟩⟩⟩⟩⟩⟩⟩
set_option maxRecDepth 100000 in
theorem zt_lc8_ok : ∀ e ∈ zt_lc8, Cond.constantLong "ColumnVault$Groups" e.1 e.2.1 ∈ zt_good := List.forall_mem_cons.mpr ⟨(zt_in (j := 5) (k := 118) rfl rfl), fun _ h => absurd h List.not_mem_nil⟩
set_option maxRecDepth 100000 in
theorem zt_e9_6 : zt_eOK "ColumnVault$History" (26, 6, 17, 0, 2118) := ⟨_, rfl, (zt_in (j := 2) (k := 118) rfl rfl)⟩
set_option maxRecDepth 100000 in
theorem zt_e9_5 : zt_eOK "ColumnVault$History" (22, 6, 14, 0, 2117) := ⟨_, rfl, (zt_in (j := 2) (k := 117) rfl rfl)⟩
set_option maxRecDepth 100000 in
theorem zt_e9_4 : zt_eOK "ColumnVault$History" (21, 9, 3, 0, 1059) := ⟨_, "ColumnVault", rfl, (zt_inN (j := 1) (k := 59) rfl rfl)⟩
set_option maxRecDepth 100000 in
theorem zt_e9_3 : zt_eOK "ColumnVault$History" (17, 0, 9, 1, 1097) := ⟨_, "ColumnVault$History", rfl, by decide, (zt_in (j := 1) (k := 97) rfl rfl), Or.inl rfl⟩
set_option maxRecDepth 100000 in
theorem zt_e9_2 : zt_eOK "ColumnVault$History" (11, 0, 9, 0, 1096) := ⟨_, "ColumnVault$History", rfl, by decide, (zt_in (j := 1) (k := 96) rfl rfl), Or.inl rfl⟩
set_option maxRecDepth 100000 in
theorem zt_e9_1 : zt_eOK "ColumnVault$History" (9, 2, 13, 0, 1056) := ⟨"ColumnVault$Sheet", (zt_in (j := 1) (k := 56) rfl rfl), Or.inr rfl, Or.inr rfl⟩
set_option maxRecDepth 100000 in
theorem zt_e9_0 : zt_eOK "ColumnVault$History" (3, 10, 0, 0, 1055) := (zt_in (j := 1) (k := 55) rfl rfl)
theorem zt_pl9_ok : ∀ e ∈ zt_pl9, zt_eOK "ColumnVault$History" e := List.forall_mem_cons.mpr ⟨zt_e9_0, List.forall_mem_cons.mpr ⟨zt_e9_1, List.forall_mem_cons.mpr ⟨zt_e9_2, List.forall_mem_cons.mpr ⟨zt_e9_3, List.forall_mem_cons.mpr ⟨zt_e9_4, List.forall_mem_cons.mpr ⟨zt_e9_5, List.forall_mem_cons.mpr ⟨zt_e9_6, fun _ h => absurd h List.not_mem_nil⟩⟩⟩⟩⟩⟩⟩
set_option maxRecDepth 100000 in
theorem zt_lc9_ok : ∀ e ∈ zt_lc9, Cond.constantLong "ColumnVault$History" e.1 e.2.1 ∈ zt_good := fun _ h => absurd h List.not_mem_nil
set_option maxRecDepth 100000 in
theorem zt_e10_17 : zt_eOK "ColumnVault$JoinWays" (80, 16, 0, 0, 5057) := Or.inl ⟨rfl, (zt_in (j := 5) (k := 57) rfl rfl), (zt_in (j := 3) (k := 193) rfl rfl), (zt_in (j := 1) (k := 17) rfl rfl), (zt_in (j := 3) (k := 194) rfl rfl)⟩
set_option maxRecDepth 100000 in
theorem zt_e10_16 : zt_eOK "ColumnVault$JoinWays" (76, 6, 157, 0, 5064) := ⟨_, rfl, (zt_in (j := 5) (k := 64) rfl rfl)⟩
set_option maxRecDepth 100000 in
theorem zt_e10_15 : zt_eOK "ColumnVault$JoinWays" (72, 5, 72, 0, 5063) := ⟨_, "ColumnVault", rfl, (zt_inN (j := 5) (k := 63) rfl rfl)⟩
set_option maxRecDepth 100000 in
theorem zt_e10_14 : zt_eOK "ColumnVault$JoinWays" (67, 1, 13, 4, 1074) := ⟨_, "ColumnVault", rfl, by decide, (zt_inN (j := 1) (k := 74) rfl rfl)⟩
set_option maxRecDepth 100000 in
theorem zt_e10_13 : zt_eOK "ColumnVault$JoinWays" (63, 6, 155, 0, 5053) := ⟨_, rfl, (zt_in (j := 5) (k := 53) rfl rfl)⟩
set_option maxRecDepth 100000 in
theorem zt_e10_12 : zt_eOK "ColumnVault$JoinWays" (59, 6, 21, 0, 5052) := ⟨_, rfl, (zt_in (j := 5) (k := 52) rfl rfl)⟩
set_option maxRecDepth 100000 in
theorem zt_e10_11 : zt_eOK "ColumnVault$JoinWays" (55, 6, 37, 0, 5051) := ⟨_, rfl, (zt_in (j := 5) (k := 51) rfl rfl)⟩
set_option maxRecDepth 100000 in
theorem zt_e10_10 : zt_eOK "ColumnVault$JoinWays" (49, 4, 49, 0, 5073) := ⟨_, rfl, (zt_in (j := 5) (k := 73) rfl rfl)⟩
set_option maxRecDepth 100000 in
theorem zt_e10_9 : zt_eOK "ColumnVault$JoinWays" (43, 6, 158, 0, 5068) := ⟨_, rfl, (zt_in (j := 5) (k := 68) rfl rfl)⟩
set_option maxRecDepth 100000 in
theorem zt_e10_8 : zt_eOK "ColumnVault$JoinWays" (39, 6, 156, 0, 5058) := ⟨_, rfl, (zt_in (j := 5) (k := 58) rfl rfl)⟩
set_option maxRecDepth 100000 in
theorem zt_e10_7 : zt_eOK "ColumnVault$JoinWays" (35, 6, 154, 0, 5047) := ⟨_, rfl, (zt_in (j := 5) (k := 47) rfl rfl)⟩
set_option maxRecDepth 100000 in
theorem zt_e10_6 : zt_eOK "ColumnVault$JoinWays" (31, 6, 152, 0, 5036) := ⟨_, rfl, (zt_in (j := 5) (k := 36) rfl rfl)⟩
set_option maxRecDepth 100000 in
theorem zt_e10_5 : zt_eOK "ColumnVault$JoinWays" (25, 1, 13, 5, 1076) := ⟨_, "ColumnVault", rfl, by decide, (zt_inN (j := 1) (k := 76) rfl rfl)⟩
set_option maxRecDepth 100000 in
theorem zt_e10_4 : zt_eOK "ColumnVault$JoinWays" (22, 0, 10, 3, 5022) := ⟨_, "ColumnVault$JoinWays", rfl, by decide, (zt_in (j := 5) (k := 22) rfl rfl), Or.inl rfl⟩
set_option maxRecDepth 100000 in
theorem zt_e10_3 : zt_eOK "ColumnVault$JoinWays" (19, 0, 10, 2, 5021) := ⟨_, "ColumnVault$JoinWays", rfl, by decide, (zt_in (j := 5) (k := 21) rfl rfl), Or.inl rfl⟩
set_option maxRecDepth 100000 in
theorem zt_e10_2 : zt_eOK "ColumnVault$JoinWays" (15, 0, 10, 1, 5020) := ⟨_, "ColumnVault$JoinWays", rfl, by decide, (zt_in (j := 5) (k := 20) rfl rfl), Or.inl rfl⟩
set_option maxRecDepth 100000 in
theorem zt_e10_1 : zt_eOK "ColumnVault$JoinWays" (9, 0, 10, 0, 5019) := ⟨_, "ColumnVault$JoinWays", rfl, by decide, (zt_in (j := 5) (k := 19) rfl rfl), Or.inl rfl⟩
set_option maxRecDepth 100000 in
theorem zt_e10_0 : zt_eOK "ColumnVault$JoinWays" (3, 10, 0, 0, 5018) := (zt_in (j := 5) (k := 18) rfl rfl)
theorem zt_pl10_ok : ∀ e ∈ zt_pl10, zt_eOK "ColumnVault$JoinWays" e := List.forall_mem_cons.mpr ⟨zt_e10_0, List.forall_mem_cons.mpr ⟨zt_e10_1, List.forall_mem_cons.mpr ⟨zt_e10_2, List.forall_mem_cons.mpr ⟨zt_e10_3, List.forall_mem_cons.mpr ⟨zt_e10_4, List.forall_mem_cons.mpr ⟨zt_e10_5, List.forall_mem_cons.mpr ⟨zt_e10_6, List.forall_mem_cons.mpr ⟨zt_e10_7, List.forall_mem_cons.mpr ⟨zt_e10_8, List.forall_mem_cons.mpr ⟨zt_e10_9, List.forall_mem_cons.mpr ⟨zt_e10_10, List.forall_mem_cons.mpr ⟨zt_e10_11, List.forall_mem_cons.mpr ⟨zt_e10_12, List.forall_mem_cons.mpr ⟨zt_e10_13, List.forall_mem_cons.mpr ⟨zt_e10_14, List.forall_mem_cons.mpr ⟨zt_e10_15, List.forall_mem_cons.mpr ⟨zt_e10_16, List.forall_mem_cons.mpr ⟨zt_e10_17, fun _ h => absurd h List.not_mem_nil⟩⟩⟩⟩⟩⟩⟩⟩⟩⟩⟩⟩⟩⟩⟩⟩⟩⟩
set_option maxRecDepth 100000 in
theorem zt_lc10_ok : ∀ e ∈ zt_lc10, Cond.constantLong "ColumnVault$JoinWays" e.1 e.2.1 ∈ zt_good := List.forall_mem_cons.mpr ⟨(zt_in (j := 5) (k := 62) rfl rfl), List.forall_mem_cons.mpr ⟨(zt_in (j := 5) (k := 72) rfl rfl), fun _ h => absurd h List.not_mem_nil⟩⟩
set_option maxRecDepth 100000 in
theorem zt_e11_10 : zt_eOK "ColumnVault$Node" (45, 4, 49, 0, 4081) := ⟨_, rfl, (zt_in (j := 4) (k := 81) rfl rfl)⟩
set_option maxRecDepth 100000 in
theorem zt_e11_9 : zt_eOK "ColumnVault$Node" (41, 6, 108, 0, 4077) := ⟨_, rfl, (zt_in (j := 4) (k := 77) rfl rfl)⟩
set_option maxRecDepth 100000 in
theorem zt_e11_8 : zt_eOK "ColumnVault$Node" (37, 6, 107, 0, 4073) := ⟨_, rfl, (zt_in (j := 4) (k := 73) rfl rfl)⟩
set_option maxRecDepth 100000 in
theorem zt_e11_7 : zt_eOK "ColumnVault$Node" (31, 0, 11, 1, 3207) := ⟨_, "ColumnVault$Node", rfl, by decide, (zt_in (j := 3) (k := 207) rfl rfl), Or.inl rfl⟩
set_option maxRecDepth 100000 in
theorem zt_e11_6 : zt_eOK "ColumnVault$Node" (27, 0, 11, 0, 3205) := ⟨_, "ColumnVault$Node", rfl, by decide, (zt_in (j := 3) (k := 205) rfl rfl), Or.inl rfl⟩
set_option maxRecDepth 100000 in
theorem zt_e11_5 : zt_eOK "ColumnVault$Node" (24, 0, 11, 6, 3216) := ⟨_, "ColumnVault$Node", rfl, by decide, (zt_in (j := 3) (k := 216) rfl rfl), Or.inl rfl⟩
set_option maxRecDepth 100000 in
theorem zt_e11_4 : zt_eOK "ColumnVault$Node" (21, 0, 11, 5, 3214) := ⟨_, "ColumnVault$Node", rfl, by decide, (zt_in (j := 3) (k := 214) rfl rfl), Or.inl rfl⟩
set_option maxRecDepth 100000 in
theorem zt_e11_3 : zt_eOK "ColumnVault$Node" (18, 0, 11, 4, 3212) := ⟨_, "ColumnVault$Node", rfl, by decide, (zt_in (j := 3) (k := 212) rfl rfl), Or.inl rfl⟩
set_option maxRecDepth 100000 in
theorem zt_e11_2 : zt_eOK "ColumnVault$Node" (15, 0, 11, 3, 3211) := ⟨_, "ColumnVault$Node", rfl, by decide, (zt_in (j := 3) (k := 211) rfl rfl), Or.inl rfl⟩
set_option maxRecDepth 100000 in
theorem zt_e11_1 : zt_eOK "ColumnVault$Node" (9, 0, 11, 2, 3209) := ⟨_, "ColumnVault$Node", rfl, by decide, (zt_in (j := 3) (k := 209) rfl rfl), Or.inl rfl⟩
set_option maxRecDepth 100000 in
theorem zt_e11_0 : zt_eOK "ColumnVault$Node" (3, 10, 0, 0, 3204) := (zt_in (j := 3) (k := 204) rfl rfl)
theorem zt_pl11_ok : ∀ e ∈ zt_pl11, zt_eOK "ColumnVault$Node" e := List.forall_mem_cons.mpr ⟨zt_e11_0, List.forall_mem_cons.mpr ⟨zt_e11_1, List.forall_mem_cons.mpr ⟨zt_e11_2, List.forall_mem_cons.mpr ⟨zt_e11_3, List.forall_mem_cons.mpr ⟨zt_e11_4, List.forall_mem_cons.mpr ⟨zt_e11_5, List.forall_mem_cons.mpr ⟨zt_e11_6, List.forall_mem_cons.mpr ⟨zt_e11_7, List.forall_mem_cons.mpr ⟨zt_e11_8, List.forall_mem_cons.mpr ⟨zt_e11_9, List.forall_mem_cons.mpr ⟨zt_e11_10, fun _ h => absurd h List.not_mem_nil⟩⟩⟩⟩⟩⟩⟩⟩⟩⟩⟩
set_option maxRecDepth 100000 in
theorem zt_lc11_ok : ∀ e ∈ zt_lc11, Cond.constantLong "ColumnVault$Node" e.1 e.2.1 ∈ zt_good := List.forall_mem_cons.mpr ⟨(zt_in (j := 4) (k := 68) rfl rfl), fun _ h => absurd h List.not_mem_nil⟩
set_option maxRecDepth 100000 in
theorem zt_e12_10 : zt_eOK "ColumnVault$Pairs" (49, 6, 144, 0, 4230) := ⟨_, rfl, (zt_in (j := 4) (k := 230) rfl rfl)⟩
set_option maxRecDepth 100000 in
theorem zt_e12_9 : zt_eOK "ColumnVault$Pairs" (45, 6, 143, 0, 4226) := ⟨_, rfl, (zt_in (j := 4) (k := 226) rfl rfl)⟩
set_option maxRecDepth 100000 in
theorem zt_e12_8 : zt_eOK "ColumnVault$Pairs" (41, 6, 51, 0, 4225) := ⟨_, rfl, (zt_in (j := 4) (k := 225) rfl rfl)⟩
set_option maxRecDepth 100000 in
theorem zt_e12_7 : zt_eOK "ColumnVault$Pairs" (35, 6, 37, 0, 4223) := ⟨_, rfl, (zt_in (j := 4) (k := 223) rfl rfl)⟩
set_option maxRecDepth 100000 in
theorem zt_e12_6 : zt_eOK "ColumnVault$Pairs" (31, 5, 72, 0, 4222) := ⟨_, "ColumnVault", rfl, (zt_inN (j := 4) (k := 222) rfl rfl)⟩
set_option maxRecDepth 100000 in
theorem zt_e12_5 : zt_eOK "ColumnVault$Pairs" (27, 1, 13, 5, 1077) := ⟨_, "ColumnVault", rfl, by decide, (zt_inN (j := 1) (k := 77) rfl rfl)⟩
set_option maxRecDepth 100000 in
theorem zt_e12_4 : zt_eOK "ColumnVault$Pairs" (22, 1, 13, 4, 1070) := ⟨_, "ColumnVault", rfl, by decide, (zt_inN (j := 1) (k := 70) rfl rfl)⟩
set_option maxRecDepth 100000 in
theorem zt_e12_3 : zt_eOK "ColumnVault$Pairs" (18, 0, 12, 2, 1146) := ⟨_, "ColumnVault$Pairs", rfl, by decide, (zt_in (j := 1) (k := 146) rfl rfl), Or.inl rfl⟩
set_option maxRecDepth 100000 in
theorem zt_e12_2 : zt_eOK "ColumnVault$Pairs" (15, 0, 12, 1, 1145) := ⟨_, "ColumnVault$Pairs", rfl, by decide, (zt_in (j := 1) (k := 145) rfl rfl), Or.inl rfl⟩
set_option maxRecDepth 100000 in
theorem zt_e12_1 : zt_eOK "ColumnVault$Pairs" (9, 0, 12, 0, 1144) := ⟨_, "ColumnVault$Pairs", rfl, by decide, (zt_in (j := 1) (k := 144) rfl rfl), Or.inl rfl⟩
set_option maxRecDepth 100000 in
theorem zt_e12_0 : zt_eOK "ColumnVault$Pairs" (3, 10, 0, 0, 1143) := (zt_in (j := 1) (k := 143) rfl rfl)
theorem zt_pl12_ok : ∀ e ∈ zt_pl12, zt_eOK "ColumnVault$Pairs" e := List.forall_mem_cons.mpr ⟨zt_e12_0, List.forall_mem_cons.mpr ⟨zt_e12_1, List.forall_mem_cons.mpr ⟨zt_e12_2, List.forall_mem_cons.mpr ⟨zt_e12_3, List.forall_mem_cons.mpr ⟨zt_e12_4, List.forall_mem_cons.mpr ⟨zt_e12_5, List.forall_mem_cons.mpr ⟨zt_e12_6, List.forall_mem_cons.mpr ⟨zt_e12_7, List.forall_mem_cons.mpr ⟨zt_e12_8, List.forall_mem_cons.mpr ⟨zt_e12_9, List.forall_mem_cons.mpr ⟨zt_e12_10, fun _ h => absurd h List.not_mem_nil⟩⟩⟩⟩⟩⟩⟩⟩⟩⟩⟩
set_option maxRecDepth 100000 in
theorem zt_lc12_ok : ∀ e ∈ zt_lc12, Cond.constantLong "ColumnVault$Pairs" e.1 e.2.1 ∈ zt_good := List.forall_mem_cons.mpr ⟨(zt_in (j := 4) (k := 224) rfl rfl), fun _ h => absurd h List.not_mem_nil⟩
set_option maxRecDepth 100000 in
theorem zt_e13_24 : zt_eOK "ColumnVault$Sheet" (110, 6, 198, 0, 6023) := ⟨_, rfl, (zt_in (j := 6) (k := 23) rfl rfl)⟩
set_option maxRecDepth 100000 in
theorem zt_e13_23 : zt_eOK "ColumnVault$Sheet" (106, 6, 196, 0, 6007) := ⟨_, rfl, (zt_in (j := 6) (k := 7) rfl rfl)⟩
set_option maxRecDepth 100000 in
theorem zt_e13_22 : zt_eOK "ColumnVault$Sheet" (102, 6, 197, 0, 6011) := ⟨_, rfl, (zt_in (j := 6) (k := 11) rfl rfl)⟩
set_option maxRecDepth 100000 in
theorem zt_e13_21 : zt_eOK "ColumnVault$Sheet" (98, 6, 153, 0, 5040) := ⟨_, rfl, (zt_in (j := 5) (k := 40) rfl rfl)⟩
set_option maxRecDepth 100000 in
theorem zt_e13_20 : zt_eOK "ColumnVault$Sheet" (94, 6, 52, 0, 3025) := ⟨_, rfl, (zt_in (j := 3) (k := 25) rfl rfl)⟩
set_option maxRecDepth 100000 in
theorem zt_e13_19 : zt_eOK "ColumnVault$Sheet" (86, 5, 72, 0, 5046) := ⟨_, "ColumnVault", rfl, (zt_inN (j := 5) (k := 46) rfl rfl)⟩
set_option maxRecDepth 100000 in
theorem zt_e13_18 : zt_eOK "ColumnVault$Sheet" (82, 5, 61, 0, 3061) := ⟨_, "ColumnVault", rfl, (zt_inN (j := 3) (k := 61) rfl rfl)⟩
set_option maxRecDepth 100000 in
theorem zt_e13_17 : zt_eOK "ColumnVault$Sheet" (79, 6, 63, 0, 3068) := ⟨_, rfl, (zt_in (j := 3) (k := 68) rfl rfl)⟩
set_option maxRecDepth 100000 in
theorem zt_e13_16 : zt_eOK "ColumnVault$Sheet" (73, 6, 42, 0, 2224) := ⟨_, rfl, (zt_in (j := 2) (k := 224) rfl rfl)⟩
set_option maxRecDepth 100000 in
theorem zt_e13_15 : zt_eOK "ColumnVault$Sheet" (69, 6, 19, 0, 2130) := ⟨_, rfl, (zt_in (j := 2) (k := 130) rfl rfl)⟩
set_option maxRecDepth 100000 in
theorem zt_e13_14 : zt_eOK "ColumnVault$Sheet" (63, 4, 49, 0, 3029) := ⟨_, rfl, (zt_in (j := 3) (k := 29) rfl rfl)⟩
set_option maxRecDepth 100000 in
theorem zt_e13_13 : zt_eOK "ColumnVault$Sheet" (60, 6, 51, 0, 3021) := ⟨_, rfl, (zt_in (j := 3) (k := 21) rfl rfl)⟩
set_option maxRecDepth 100000 in
theorem zt_e13_12 : zt_eOK "ColumnVault$Sheet" (56, 5, 46, 0, 3001) := ⟨_, "ColumnVault", rfl, (zt_inN (j := 3) (k := 1) rfl rfl)⟩
set_option maxRecDepth 100000 in
theorem zt_e13_11 : zt_eOK "ColumnVault$Sheet" (52, 6, 37, 0, 2223) := ⟨_, rfl, (zt_in (j := 2) (k := 223) rfl rfl)⟩
set_option maxRecDepth 100000 in
theorem zt_e13_10 : zt_eOK "ColumnVault$Sheet" (49, 6, 21, 0, 2138) := ⟨_, rfl, (zt_in (j := 2) (k := 138) rfl rfl)⟩
set_option maxRecDepth 100000 in
theorem zt_e13_9 : zt_eOK "ColumnVault$Sheet" (43, 6, 20, 0, 2134) := ⟨_, rfl, (zt_in (j := 2) (k := 134) rfl rfl)⟩
set_option maxRecDepth 100000 in
theorem zt_e13_8 : zt_eOK "ColumnVault$Sheet" (39, 6, 29, 0, 3000) := ⟨_, rfl, (zt_in (j := 3) (k := 0) rfl rfl)⟩
set_option maxRecDepth 100000 in
theorem zt_e13_7 : zt_eOK "ColumnVault$Sheet" (33, 17, 0, 0, 2122) := (zt_in (j := 2) (k := 122) rfl rfl)
set_option maxRecDepth 100000 in
theorem zt_e13_6 : zt_eOK "ColumnVault$Sheet" (29, 0, 13, 5, 1075) := ⟨_, "ColumnVault$Sheet", rfl, by decide, (zt_in (j := 1) (k := 75) rfl rfl), Or.inl rfl⟩
set_option maxRecDepth 100000 in
theorem zt_e13_5 : zt_eOK "ColumnVault$Sheet" (26, 0, 13, 4, 1069) := ⟨_, "ColumnVault$Sheet", rfl, by decide, (zt_in (j := 1) (k := 69) rfl rfl), Or.inl rfl⟩
set_option maxRecDepth 100000 in
theorem zt_e13_4 : zt_eOK "ColumnVault$Sheet" (22, 0, 13, 3, 1066) := ⟨_, "ColumnVault$Sheet", rfl, by decide, (zt_in (j := 1) (k := 66) rfl rfl), Or.inl rfl⟩
set_option maxRecDepth 100000 in
theorem zt_e13_3 : zt_eOK "ColumnVault$Sheet" (19, 0, 13, 2, 1065) := ⟨_, "ColumnVault$Sheet", rfl, by decide, (zt_in (j := 1) (k := 65) rfl rfl), Or.inl rfl⟩
set_option maxRecDepth 100000 in
theorem zt_e13_2 : zt_eOK "ColumnVault$Sheet" (15, 0, 13, 1, 1064) := ⟨_, "ColumnVault$Sheet", rfl, by decide, (zt_in (j := 1) (k := 64) rfl rfl), Or.inl rfl⟩
set_option maxRecDepth 100000 in
theorem zt_e13_1 : zt_eOK "ColumnVault$Sheet" (9, 0, 13, 0, 1063) := ⟨_, "ColumnVault$Sheet", rfl, by decide, (zt_in (j := 1) (k := 63) rfl rfl), Or.inl rfl⟩
set_option maxRecDepth 100000 in
theorem zt_e13_0 : zt_eOK "ColumnVault$Sheet" (3, 10, 0, 0, 1062) := (zt_in (j := 1) (k := 62) rfl rfl)
theorem zt_pl13_ok : ∀ e ∈ zt_pl13, zt_eOK "ColumnVault$Sheet" e := List.forall_mem_cons.mpr ⟨zt_e13_0, List.forall_mem_cons.mpr ⟨zt_e13_1, List.forall_mem_cons.mpr ⟨zt_e13_2, List.forall_mem_cons.mpr ⟨zt_e13_3, List.forall_mem_cons.mpr ⟨zt_e13_4, List.forall_mem_cons.mpr ⟨zt_e13_5, List.forall_mem_cons.mpr ⟨zt_e13_6, List.forall_mem_cons.mpr ⟨zt_e13_7, List.forall_mem_cons.mpr ⟨zt_e13_8, List.forall_mem_cons.mpr ⟨zt_e13_9, List.forall_mem_cons.mpr ⟨zt_e13_10, List.forall_mem_cons.mpr ⟨zt_e13_11, List.forall_mem_cons.mpr ⟨zt_e13_12, List.forall_mem_cons.mpr ⟨zt_e13_13, List.forall_mem_cons.mpr ⟨zt_e13_14, List.forall_mem_cons.mpr ⟨zt_e13_15, List.forall_mem_cons.mpr ⟨zt_e13_16, List.forall_mem_cons.mpr ⟨zt_e13_17, List.forall_mem_cons.mpr ⟨zt_e13_18, List.forall_mem_cons.mpr ⟨zt_e13_19, List.forall_mem_cons.mpr ⟨zt_e13_20, List.forall_mem_cons.mpr ⟨zt_e13_21, List.forall_mem_cons.mpr ⟨zt_e13_22, List.forall_mem_cons.mpr ⟨zt_e13_23, List.forall_mem_cons.mpr ⟨zt_e13_24, fun _ h => absurd h List.not_mem_nil⟩⟩⟩⟩⟩⟩⟩⟩⟩⟩⟩⟩⟩⟩⟩⟩⟩⟩⟩⟩⟩⟩⟩⟩⟩
set_option maxRecDepth 100000 in
theorem zt_lc13_ok : ∀ e ∈ zt_lc13, Cond.constantLong "ColumnVault$Sheet" e.1 e.2.1 ∈ zt_good := List.forall_mem_cons.mpr ⟨(zt_in (j := 2) (k := 129) rfl rfl), List.forall_mem_cons.mpr ⟨(zt_in (j := 2) (k := 228) rfl rfl), List.forall_mem_cons.mpr ⟨(zt_in (j := 5) (k := 44) rfl rfl), List.forall_mem_cons.mpr ⟨(zt_in (j := 5) (k := 45) rfl rfl), fun _ h => absurd h List.not_mem_nil⟩⟩⟩⟩
set_option maxRecDepth 100000 in
theorem zt_e14_14 : zt_eOK "ColumnVault$Tokens" (72, 16, 0, 2, 3188) := Or.inr (Or.inr ⟨rfl, (zt_in (j := 3) (k := 188) rfl rfl), (zt_in (j := 3) (k := 189) rfl rfl), (zt_in (j := 1) (k := 17) rfl rfl), (zt_in (j := 3) (k := 190) rfl rfl)⟩)
set_option maxRecDepth 100000 in
theorem zt_e14_13 : zt_eOK "ColumnVault$Tokens" (61, 6, 85, 0, 3181) := ⟨_, rfl, (zt_in (j := 3) (k := 181) rfl rfl)⟩
set_option maxRecDepth 100000 in
theorem zt_e14_12 : zt_eOK "ColumnVault$Tokens" (58, 6, 84, 0, 3176) := ⟨_, rfl, (zt_in (j := 3) (k := 176) rfl rfl)⟩
set_option maxRecDepth 100000 in
theorem zt_e14_11 : zt_eOK "ColumnVault$Tokens" (55, 5, 36, 0, 3175) := ⟨_, "ColumnVault", rfl, (zt_inN (j := 3) (k := 175) rfl rfl)⟩
set_option maxRecDepth 100000 in
theorem zt_e14_10 : zt_eOK "ColumnVault$Tokens" (51, 5, 83, 0, 3172) := ⟨_, "ColumnVault", rfl, (zt_inN (j := 3) (k := 172) rfl rfl)⟩
set_option maxRecDepth 100000 in
theorem zt_e14_9 : zt_eOK "ColumnVault$Tokens" (47, 6, 82, 0, 3168) := ⟨_, rfl, (zt_in (j := 3) (k := 168) rfl rfl)⟩
set_option maxRecDepth 100000 in
theorem zt_e14_8 : zt_eOK "ColumnVault$Tokens" (39, 16, 0, 0, 3192) := Or.inl ⟨rfl, (zt_in (j := 3) (k := 192) rfl rfl), (zt_in (j := 3) (k := 193) rfl rfl), (zt_in (j := 1) (k := 17) rfl rfl), (zt_in (j := 3) (k := 194) rfl rfl)⟩
set_option maxRecDepth 100000 in
theorem zt_e14_7 : zt_eOK "ColumnVault$Tokens" (35, 6, 81, 0, 3163) := ⟨_, rfl, (zt_in (j := 3) (k := 163) rfl rfl)⟩
set_option maxRecDepth 100000 in
theorem zt_e14_6 : zt_eOK "ColumnVault$Tokens" (31, 6, 80, 0, 3159) := ⟨_, rfl, (zt_in (j := 3) (k := 159) rfl rfl)⟩
set_option maxRecDepth 100000 in
theorem zt_e14_5 : zt_eOK "ColumnVault$Tokens" (26, 1, 7, 1, 1112) := ⟨_, "ColumnVault", rfl, by decide, (zt_inN (j := 1) (k := 112) rfl rfl)⟩
set_option maxRecDepth 100000 in
theorem zt_e14_4 : zt_eOK "ColumnVault$Tokens" (22, 0, 14, 3, 1128) := ⟨_, "ColumnVault$Tokens", rfl, by decide, (zt_in (j := 1) (k := 128) rfl rfl), Or.inl rfl⟩
set_option maxRecDepth 100000 in
theorem zt_e14_3 : zt_eOK "ColumnVault$Tokens" (18, 0, 14, 2, 1127) := ⟨_, "ColumnVault$Tokens", rfl, by decide, (zt_in (j := 1) (k := 127) rfl rfl), Or.inl rfl⟩
set_option maxRecDepth 100000 in
theorem zt_e14_2 : zt_eOK "ColumnVault$Tokens" (15, 0, 14, 1, 1126) := ⟨_, "ColumnVault$Tokens", rfl, by decide, (zt_in (j := 1) (k := 126) rfl rfl), Or.inl rfl⟩
set_option maxRecDepth 100000 in
theorem zt_e14_1 : zt_eOK "ColumnVault$Tokens" (9, 0, 14, 0, 1125) := ⟨_, "ColumnVault$Tokens", rfl, by decide, (zt_in (j := 1) (k := 125) rfl rfl), Or.inl rfl⟩
set_option maxRecDepth 100000 in
theorem zt_e14_0 : zt_eOK "ColumnVault$Tokens" (3, 10, 0, 0, 1124) := (zt_in (j := 1) (k := 124) rfl rfl)
theorem zt_pl14_ok : ∀ e ∈ zt_pl14, zt_eOK "ColumnVault$Tokens" e := List.forall_mem_cons.mpr ⟨zt_e14_0, List.forall_mem_cons.mpr ⟨zt_e14_1, List.forall_mem_cons.mpr ⟨zt_e14_2, List.forall_mem_cons.mpr ⟨zt_e14_3, List.forall_mem_cons.mpr ⟨zt_e14_4, List.forall_mem_cons.mpr ⟨zt_e14_5, List.forall_mem_cons.mpr ⟨zt_e14_6, List.forall_mem_cons.mpr ⟨zt_e14_7, List.forall_mem_cons.mpr ⟨zt_e14_8, List.forall_mem_cons.mpr ⟨zt_e14_9, List.forall_mem_cons.mpr ⟨zt_e14_10, List.forall_mem_cons.mpr ⟨zt_e14_11, List.forall_mem_cons.mpr ⟨zt_e14_12, List.forall_mem_cons.mpr ⟨zt_e14_13, List.forall_mem_cons.mpr ⟨zt_e14_14, fun _ h => absurd h List.not_mem_nil⟩⟩⟩⟩⟩⟩⟩⟩⟩⟩⟩⟩⟩⟩⟩
set_option maxRecDepth 100000 in
theorem zt_lc14_ok : ∀ e ∈ zt_lc14, Cond.constantLong "ColumnVault$Tokens" e.1 e.2.1 ∈ zt_good := List.forall_mem_cons.mpr ⟨(zt_in (j := 3) (k := 167) rfl rfl), List.forall_mem_cons.mpr ⟨(zt_in (j := 3) (k := 180) rfl rfl), List.forall_mem_cons.mpr ⟨(zt_in (j := 3) (k := 185) rfl rfl), List.forall_mem_cons.mpr ⟨(zt_in (j := 3) (k := 186) rfl rfl), List.forall_mem_cons.mpr ⟨(zt_in (j := 3) (k := 187) rfl rfl), List.forall_mem_cons.mpr ⟨(zt_in (j := 3) (k := 191) rfl rfl), fun _ h => absurd h List.not_mem_nil⟩⟩⟩⟩⟩⟩
set_option maxRecDepth 100000 in
theorem zt_e15_136 : zt_eOK "ColumnVault" (423, 1, 11, 4, 3213) := ⟨_, "ColumnVault", rfl, by decide, (zt_inN (j := 3) (k := 213) rfl rfl)⟩
set_option maxRecDepth 100000 in
theorem zt_e15_135 : zt_eOK "ColumnVault" (420, 1, 11, 6, 3217) := ⟨_, "ColumnVault", rfl, by decide, (zt_inN (j := 3) (k := 217) rfl rfl)⟩
set_option maxRecDepth 100000 in
theorem zt_e15_134 : zt_eOK "ColumnVault" (417, 1, 11, 2, 3210) := ⟨_, "ColumnVault", rfl, by decide, (zt_inN (j := 3) (k := 210) rfl rfl)⟩
set_option maxRecDepth 100000 in
theorem zt_e15_133 : zt_eOK "ColumnVault" (413, 1, 11, 5, 3215) := ⟨_, "ColumnVault", rfl, by decide, (zt_inN (j := 3) (k := 215) rfl rfl)⟩
set_option maxRecDepth 100000 in
theorem zt_e15_132 : zt_eOK "ColumnVault" (410, 1, 11, 0, 3206) := ⟨_, "ColumnVault", rfl, by decide, (zt_inN (j := 3) (k := 206) rfl rfl)⟩
set_option maxRecDepth 100000 in
theorem zt_e15_131 : zt_eOK "ColumnVault" (408, 13, 0, 0, 5164) := ⟨"no values", zt_ch_in (j := 5) (List.mem_of_getElem? (i := 164) rfl), fun h => absurd h (by decide)⟩
set_option maxRecDepth 100000 in
theorem zt_e15_130 : zt_eOK "ColumnVault" (404, 6, 176, 0, 5151) := ⟨_, rfl, (zt_in (j := 5) (k := 151) rfl rfl)⟩
set_option maxRecDepth 100000 in
theorem zt_e15_129 : zt_eOK "ColumnVault" (400, 6, 152, 0, 5150) := ⟨_, rfl, (zt_in (j := 5) (k := 150) rfl rfl)⟩
set_option maxRecDepth 100000 in
theorem zt_e15_128 : zt_eOK "ColumnVault" (398, 13, 0, 0, 5144) := ⟨"no such total", zt_ch_in (j := 5) (List.mem_of_getElem? (i := 144) rfl), fun h => absurd h (by decide)⟩
set_option maxRecDepth 100000 in
theorem zt_e15_127 : zt_eOK "ColumnVault" (395, 4, 36, 0, 2201) := ⟨_, rfl, (zt_in (j := 2) (k := 201) rfl rfl)⟩
set_option maxRecDepth 100000 in
theorem zt_e15_126 : zt_eOK "ColumnVault" (387, 13, 0, 0, 4216) := ⟨"columns of different kinds", zt_ch_in (j := 4) (List.mem_of_getElem? (i := 216) rfl), fun h => absurd h (by decide)⟩
set_option maxRecDepth 100000 in
theorem zt_e15_125 : zt_eOK "ColumnVault" (385, 13, 0, 0, 5188) := ⟨"a column of texts", zt_ch_in (j := 5) (List.mem_of_getElem? (i := 188) rfl), fun h => absurd h (by decide)⟩
set_option maxRecDepth 100000 in
theorem zt_e15_124 : zt_eOK "ColumnVault" (383, 13, 0, 0, 2204) := ⟨"no value of this kind", zt_ch_in (j := 2) (List.mem_of_getElem? (i := 204) rfl), fun h => absurd h (by decide)⟩
set_option maxRecDepth 100000 in
theorem zt_e15_123 : zt_eOK "ColumnVault" (380, 4, 35, 0, 2197) := ⟨_, rfl, (zt_in (j := 2) (k := 197) rfl rfl)⟩
set_option maxRecDepth 100000 in
theorem zt_e15_122 : zt_eOK "ColumnVault" (378, 13, 0, 0, 3082) := ⟨"no such place", zt_ch_in (j := 3) (List.mem_of_getElem? (i := 82) rfl), fun h => absurd h (by decide)⟩
set_option maxRecDepth 100000 in
theorem zt_e15_121 : zt_eOK "ColumnVault" (376, 13, 0, 0, 2192) := ⟨"no such row", zt_ch_in (j := 2) (List.mem_of_getElem? (i := 192) rfl), fun h => absurd h (by decide)⟩
set_option maxRecDepth 100000 in
theorem zt_e15_120 : zt_eOK "ColumnVault" (373, 6, 21, 0, 2191) := ⟨_, rfl, (zt_in (j := 2) (k := 191) rfl rfl)⟩
set_option maxRecDepth 100000 in
theorem zt_e15_119 : zt_eOK "ColumnVault" (371, 13, 0, 0, 2169) := ⟨"no such column", zt_ch_in (j := 2) (List.mem_of_getElem? (i := 169) rfl), fun h => absurd h (by decide)⟩
set_option maxRecDepth 100000 in
theorem zt_e15_118 : zt_eOK "ColumnVault" (368, 6, 20, 0, 2168) := ⟨_, rfl, (zt_in (j := 2) (k := 168) rfl rfl)⟩
set_option maxRecDepth 100000 in
theorem zt_e15_117 : zt_eOK "ColumnVault" (366, 13, 0, 0, 5108) := ⟨"no such group", zt_ch_in (j := 5) (List.mem_of_getElem? (i := 108) rfl), fun h => absurd h (by decide)⟩
set_option maxRecDepth 100000 in
theorem zt_e15_116 : zt_eOK "ColumnVault" (364, 13, 0, 0, 4082) := ⟨"the text has an error", zt_ch_in (j := 4) (List.mem_of_getElem? (i := 82) rfl), fun h => absurd h (by decide)⟩
set_option maxRecDepth 100000 in
theorem zt_e15_115 : zt_eOK "ColumnVault" (361, 8, 77, 0, 3123) := ⟨_, rfl, (zt_in (j := 3) (k := 123) rfl rfl)⟩
set_option maxRecDepth 100000 in
theorem zt_e15_114 : zt_eOK "ColumnVault" (359, 13, 0, 0, 2050) := ⟨"no such table", zt_ch_in (j := 2) (List.mem_of_getElem? (i := 50) rfl), fun h => absurd h (by decide)⟩
set_option maxRecDepth 100000 in
theorem zt_e15_113 : zt_eOK "ColumnVault" (356, 6, 14, 0, 2004) := ⟨_, rfl, (zt_in (j := 2) (k := 4) rfl rfl)⟩
set_option maxRecDepth 100000 in
theorem zt_e15_112 : zt_eOK "ColumnVault" (353, 6, 153, 0, 5145) := ⟨_, rfl, (zt_in (j := 5) (k := 145) rfl rfl)⟩
set_option maxRecDepth 100000 in
theorem zt_e15_111 : zt_eOK "ColumnVault" (350, 6, 202, 0, 6032) := ⟨_, rfl, (zt_in (j := 6) (k := 32) rfl rfl)⟩
set_option maxRecDepth 100000 in
theorem zt_e15_110 : zt_eOK "ColumnVault" (348, 13, 0, 0, 6024) := ⟨"no such comparison", zt_ch_in (j := 6) (List.mem_of_getElem? (i := 24) rfl), fun h => absurd h (by decide)⟩
set_option maxRecDepth 100000 in
theorem zt_e15_109 : zt_eOK "ColumnVault" (345, 6, 199, 0, 6019) := ⟨_, rfl, (zt_in (j := 6) (k := 19) rfl rfl)⟩
set_option maxRecDepth 100000 in
theorem zt_e15_108 : zt_eOK "ColumnVault" (342, 6, 198, 0, 6015) := ⟨_, rfl, (zt_in (j := 6) (k := 15) rfl rfl)⟩
set_option maxRecDepth 100000 in
theorem zt_e15_107 : zt_eOK "ColumnVault" (339, 6, 195, 0, 6003) := ⟨_, rfl, (zt_in (j := 6) (k := 3) rfl rfl)⟩
set_option maxRecDepth 100000 in
theorem zt_e15_106 : zt_eOK "ColumnVault" (337, 13, 0, 0, 6002) := ⟨"the columns are not of the same kinds", zt_ch_in (j := 6) (List.mem_of_getElem? (i := 2) rfl), fun h => absurd h (by decide)⟩
set_option maxRecDepth 100000 in
theorem zt_e15_105 : zt_eOK "ColumnVault" (333, 6, 194, 0, 5238) := ⟨_, rfl, (zt_in (j := 5) (k := 238) rfl rfl)⟩
set_option maxRecDepth 100000 in
theorem zt_e15_104 : zt_eOK "ColumnVault" (330, 4, 46, 0, 5230) := ⟨_, rfl, (zt_in (j := 5) (k := 230) rfl rfl)⟩
set_option maxRecDepth 100000 in
theorem zt_e15_103 : zt_eOK "ColumnVault" (328, 13, 0, 0, 5229) := ⟨"no value on that side", zt_ch_in (j := 5) (List.mem_of_getElem? (i := 229) rfl), fun h => absurd h (by decide)⟩
set_option maxRecDepth 100000 in
theorem zt_e15_102 : zt_eOK "ColumnVault" (324, 6, 191, 0, 5225) := ⟨_, rfl, (zt_in (j := 5) (k := 225) rfl rfl)⟩
set_option maxRecDepth 100000 in
theorem zt_e15_101 : zt_eOK "ColumnVault" (320, 6, 52, 0, 5203) := ⟨_, rfl, (zt_in (j := 5) (k := 203) rfl rfl)⟩
set_option maxRecDepth 100000 in
theorem zt_e15_100 : zt_eOK "ColumnVault" (315, 6, 51, 0, 5201) := ⟨_, rfl, (zt_in (j := 5) (k := 201) rfl rfl)⟩
set_option maxRecDepth 100000 in
theorem zt_e15_99 : zt_eOK "ColumnVault" (312, 13, 0, 0, 5200) := ⟨"the value is missing", zt_ch_in (j := 5) (List.mem_of_getElem? (i := 200) rfl), fun h => absurd h (by decide)⟩
set_option maxRecDepth 100000 in
theorem zt_e15_98 : zt_eOK "ColumnVault" (310, 2, 22, 999, 5155) := ⟨"java/util/NoSuchElementException", (zt_in (j := 5) (k := 155) rfl rfl), Or.inr rfl, Or.inl rfl⟩
set_option maxRecDepth 100000 in
theorem zt_e15_97 : zt_eOK "ColumnVault" (307, 6, 175, 0, 5146) := ⟨_, rfl, (zt_in (j := 5) (k := 146) rfl rfl)⟩
set_option maxRecDepth 100000 in
theorem zt_e15_96 : zt_eOK "ColumnVault" (304, 6, 182, 0, 5189) := ⟨_, rfl, (zt_in (j := 5) (k := 189) rfl rfl)⟩
set_option maxRecDepth 100000 in
theorem zt_e15_95 : zt_eOK "ColumnVault" (301, 4, 181, 0, 5185) := ⟨_, rfl, (zt_in (j := 5) (k := 185) rfl rfl)⟩
set_option maxRecDepth 100000 in
theorem zt_e15_94 : zt_eOK "ColumnVault" (298, 4, 28, 0, 2165) := ⟨_, rfl, (zt_in (j := 2) (k := 165) rfl rfl)⟩
set_option maxRecDepth 100000 in
theorem zt_e15_93 : zt_eOK "ColumnVault" (294, 4, 174, 0, 5141) := ⟨_, rfl, (zt_in (j := 5) (k := 141) rfl rfl)⟩
set_option maxRecDepth 100000 in
theorem zt_e15_92 : zt_eOK "ColumnVault" (292, 13, 0, 0, 5132) := ⟨"nothing known of that", zt_ch_in (j := 5) (List.mem_of_getElem? (i := 132) rfl), fun h => absurd h (by decide)⟩
set_option maxRecDepth 100000 in
theorem zt_e15_91 : zt_eOK "ColumnVault" (289, 6, 171, 0, 5128) := ⟨_, rfl, (zt_in (j := 5) (k := 128) rfl rfl)⟩
set_option maxRecDepth 100000 in
theorem zt_e15_90 : zt_eOK "ColumnVault" (286, 6, 170, 0, 5124) := ⟨_, rfl, (zt_in (j := 5) (k := 124) rfl rfl)⟩
set_option maxRecDepth 100000 in
theorem zt_e15_89 : zt_eOK "ColumnVault" (282, 1, 8, 0, 1165) := ⟨_, "ColumnVault", rfl, by decide, (zt_inN (j := 1) (k := 165) rfl rfl)⟩
set_option maxRecDepth 100000 in
theorem zt_e15_88 : zt_eOK "ColumnVault" (279, 6, 169, 0, 5120) := ⟨_, rfl, (zt_in (j := 5) (k := 120) rfl rfl)⟩
set_option maxRecDepth 100000 in
theorem zt_e15_87 : zt_eOK "ColumnVault" (275, 6, 167, 0, 5109) := ⟨_, rfl, (zt_in (j := 5) (k := 109) rfl rfl)⟩
set_option maxRecDepth 100000 in
theorem zt_e15_86 : zt_eOK "ColumnVault" (272, 6, 166, 0, 5104) := ⟨_, rfl, (zt_in (j := 5) (k := 104) rfl rfl)⟩
set_option maxRecDepth 100000 in
theorem zt_e15_85 : zt_eOK "ColumnVault" (271, 1, 8, 4, 1171) := ⟨_, "ColumnVault", rfl, by decide, (zt_inN (j := 1) (k := 171) rfl rfl)⟩
set_option maxRecDepth 100000 in
theorem zt_e15_84 : zt_eOK "ColumnVault" (269, 6, 161, 0, 5081) := ⟨_, rfl, (zt_in (j := 5) (k := 81) rfl rfl)⟩
set_option maxRecDepth 100000 in
theorem zt_e15_83 : zt_eOK "ColumnVault" (266, 6, 151, 0, 5032) := ⟨_, rfl, (zt_in (j := 5) (k := 32) rfl rfl)⟩
set_option maxRecDepth 100000 in
theorem zt_e15_82 : zt_eOK "ColumnVault" (263, 8, 150, 0, 5015) := ⟨_, rfl, (zt_in (j := 5) (k := 15) rfl rfl)⟩
set_option maxRecDepth 100000 in
theorem zt_e15_81 : zt_eOK "ColumnVault" (261, 2, 10, 999, 5013) := ⟨"ColumnVault$JoinWays", (zt_in (j := 5) (k := 13) rfl rfl), Or.inr rfl, Or.inl rfl⟩
set_option maxRecDepth 100000 in
theorem zt_e15_80 : zt_eOK "ColumnVault" (257, 6, 147, 0, 5002) := ⟨_, rfl, (zt_in (j := 5) (k := 2) rfl rfl)⟩
set_option maxRecDepth 100000 in
theorem zt_e15_79 : zt_eOK "ColumnVault" (255, 13, 0, 0, 5001) := ⟨"no such pair", zt_ch_in (j := 5) (List.mem_of_getElem? (i := 1) rfl), fun h => absurd h (by decide)⟩
set_option maxRecDepth 100000 in
theorem zt_e15_78 : zt_eOK "ColumnVault" (252, 1, 12, 2, 1147) := ⟨_, "ColumnVault", rfl, by decide, (zt_inN (j := 1) (k := 147) rfl rfl)⟩
set_option maxRecDepth 100000 in
theorem zt_e15_77 : zt_eOK "ColumnVault" (248, 6, 142, 0, 4218) := ⟨_, rfl, (zt_in (j := 4) (k := 218) rfl rfl)⟩
set_option maxRecDepth 100000 in
theorem zt_e15_76 : zt_eOK "ColumnVault" (246, 13, 0, 0, 4217) := ⟨"no such join", zt_ch_in (j := 4) (List.mem_of_getElem? (i := 217) rfl), fun h => absurd h (by decide)⟩
set_option maxRecDepth 100000 in
theorem zt_e15_75 : zt_eOK "ColumnVault" (242, 4, 141, 0, 4213) := ⟨_, rfl, (zt_in (j := 4) (k := 213) rfl rfl)⟩
set_option maxRecDepth 100000 in
theorem zt_e15_74 : zt_eOK "ColumnVault" (240, 13, 0, 0, 4205) := ⟨"no such example", zt_ch_in (j := 4) (List.mem_of_getElem? (i := 205) rfl), fun h => absurd h (by decide)⟩
set_option maxRecDepth 100000 in
theorem zt_e15_73 : zt_eOK "ColumnVault" (238, 13, 604, 1, 4204) := ⟨"!(#0 missing) & (#0 > 2 | #0 < -2) & #0 to -9 9", zt_ch_in (j := 4) (List.mem_of_getElem? (i := 204) rfl), fun _ => List.mem_of_getElem? (i := 2) rfl⟩
set_option maxRecDepth 100000 in
theorem zt_e15_72 : zt_eOK "ColumnVault" (236, 13, 602, 1, 4203) := ⟨"#0 to -3 3 | #0 in 7 9 11 & !#0 = 9", zt_ch_in (j := 4) (List.mem_of_getElem? (i := 203) rfl), fun _ => List.mem_of_getElem? (i := 1) rfl⟩
set_option maxRecDepth 100000 in
theorem zt_e15_71 : zt_eOK "ColumnVault" (233, 6, 127, 0, 4151) := ⟨_, rfl, (zt_in (j := 4) (k := 151) rfl rfl)⟩
set_option maxRecDepth 100000 in
theorem zt_e15_70 : zt_eOK "ColumnVault" (231, 13, 600, 1, 4150) := ⟨"#0 < 5 & !(#1 = b | #1 missing)", zt_ch_in (j := 4) (List.mem_of_getElem? (i := 150) rfl), fun _ => List.mem_of_getElem? (i := 0) rfl⟩
set_option maxRecDepth 100000 in
theorem zt_e15_69 : zt_eOK "ColumnVault" (227, 6, 123, 0, 4134) := ⟨_, rfl, (zt_in (j := 4) (k := 134) rfl rfl)⟩
set_option maxRecDepth 100000 in
theorem zt_e15_68 : zt_eOK "ColumnVault" (225, 13, 0, 0, 4133) := ⟨"the text would be too long", zt_ch_in (j := 4) (List.mem_of_getElem? (i := 133) rfl), fun h => absurd h (by decide)⟩
set_option maxRecDepth 100000 in
theorem zt_e15_67 : zt_eOK "ColumnVault" (222, 4, 122, 0, 4130) := ⟨_, rfl, (zt_in (j := 4) (k := 130) rfl rfl)⟩
set_option maxRecDepth 100000 in
theorem zt_e15_66 : zt_eOK "ColumnVault" (219, 1, 7, 1, 1113) := ⟨_, "ColumnVault", rfl, by decide, (zt_inN (j := 1) (k := 113) rfl rfl)⟩
set_option maxRecDepth 100000 in
theorem zt_e15_65 : zt_eOK "ColumnVault" (216, 1, 6, 6, 3135) := ⟨_, "ColumnVault", rfl, by decide, (zt_inN (j := 3) (k := 135) rfl rfl)⟩
set_option maxRecDepth 100000 in
theorem zt_e15_64 : zt_eOK "ColumnVault" (213, 1, 6, 5, 3133) := ⟨_, "ColumnVault", rfl, by decide, (zt_inN (j := 3) (k := 133) rfl rfl)⟩
set_option maxRecDepth 100000 in
theorem zt_e15_63 : zt_eOK "ColumnVault" (208, 2, 6, 999, 3121) := ⟨"ColumnVault$FilterReader", (zt_in (j := 3) (k := 121) rfl rfl), Or.inr rfl, Or.inl rfl⟩
set_option maxRecDepth 100000 in
theorem zt_e15_62 : zt_eOK "ColumnVault" (207, 6, 78, 0, 3151) := ⟨_, rfl, (zt_in (j := 3) (k := 151) rfl rfl)⟩
set_option maxRecDepth 100000 in
theorem zt_e15_61 : zt_eOK "ColumnVault" (203, 6, 76, 0, 3117) := ⟨_, rfl, (zt_in (j := 3) (k := 117) rfl rfl)⟩
set_option maxRecDepth 100000 in
theorem zt_e15_60 : zt_eOK "ColumnVault" (199, 4, 115, 0, 4106) := ⟨_, rfl, (zt_in (j := 4) (k := 106) rfl rfl)⟩
set_option maxRecDepth 100000 in
theorem zt_e15_59 : zt_eOK "ColumnVault" (195, 6, 91, 0, 4091) := ⟨_, rfl, (zt_in (j := 4) (k := 91) rfl rfl)⟩
set_option maxRecDepth 100000 in
theorem zt_e15_58 : zt_eOK "ColumnVault" (188, 1, 11, 1, 3208) := ⟨_, "ColumnVault", rfl, by decide, (zt_inN (j := 3) (k := 208) rfl rfl)⟩
set_option maxRecDepth 100000 in
theorem zt_e15_57 : zt_eOK "ColumnVault" (184, 6, 75, 0, 3113) := ⟨_, rfl, (zt_in (j := 3) (k := 113) rfl rfl)⟩
set_option maxRecDepth 100000 in
theorem zt_e15_56 : zt_eOK "ColumnVault" (182, 13, 0, 0, 3112) := ⟨"no such way to choose", zt_ch_in (j := 3) (List.mem_of_getElem? (i := 112) rfl), fun h => absurd h (by decide)⟩
set_option maxRecDepth 100000 in
theorem zt_e15_55 : zt_eOK "ColumnVault" (178, 4, 72, 0, 3102) := ⟨_, rfl, (zt_in (j := 3) (k := 102) rfl rfl)⟩
set_option maxRecDepth 100000 in
theorem zt_e15_54 : zt_eOK "ColumnVault" (175, 6, 69, 0, 3091) := ⟨_, rfl, (zt_in (j := 3) (k := 91) rfl rfl)⟩
set_option maxRecDepth 100000 in
theorem zt_e15_53 : zt_eOK "ColumnVault" (172, 6, 63, 0, 3083) := ⟨_, rfl, (zt_in (j := 3) (k := 83) rfl rfl)⟩
set_option maxRecDepth 100000 in
theorem zt_e15_52 : zt_eOK "ColumnVault" (169, 4, 66, 0, 3079) := ⟨_, rfl, (zt_in (j := 3) (k := 79) rfl rfl)⟩
set_option maxRecDepth 100000 in
theorem zt_e15_51 : zt_eOK "ColumnVault" (165, 6, 62, 0, 3064) := ⟨_, rfl, (zt_in (j := 3) (k := 64) rfl rfl)⟩
set_option maxRecDepth 100000 in
theorem zt_e15_50 : zt_eOK "ColumnVault" (161, 6, 60, 0, 3057) := ⟨_, rfl, (zt_in (j := 3) (k := 57) rfl rfl)⟩
set_option maxRecDepth 100000 in
theorem zt_e15_49 : zt_eOK "ColumnVault" (158, 6, 16, 0, 2113) := ⟨_, rfl, (zt_in (j := 2) (k := 113) rfl rfl)⟩
set_option maxRecDepth 100000 in
theorem zt_e15_48 : zt_eOK "ColumnVault" (155, 13, 0, 0, 3049) := ⟨"no such version", zt_ch_in (j := 3) (List.mem_of_getElem? (i := 49) rfl), fun h => absurd h (by decide)⟩
set_option maxRecDepth 100000 in
theorem zt_e15_47 : zt_eOK "ColumnVault" (153, 2, 19, 999, 2008) := ⟨"java/lang/IndexOutOfBoundsException", (zt_in (j := 2) (k := 8) rfl rfl), Or.inr rfl, Or.inl rfl⟩
set_option maxRecDepth 100000 in
theorem zt_e15_46 : zt_eOK "ColumnVault" (149, 6, 57, 0, 3045) := ⟨_, rfl, (zt_in (j := 3) (k := 45) rfl rfl)⟩
set_option maxRecDepth 100000 in
theorem zt_e15_45 : zt_eOK "ColumnVault" (146, 1, 9, 1, 1098) := ⟨_, "ColumnVault", rfl, by decide, (zt_inN (j := 1) (k := 98) rfl rfl)⟩
set_option maxRecDepth 100000 in
theorem zt_e15_44 : zt_eOK "ColumnVault" (144, 13, 0, 0, 3030) := ⟨"no such size", zt_ch_in (j := 3) (List.mem_of_getElem? (i := 30) rfl), fun h => absurd h (by decide)⟩
set_option maxRecDepth 100000 in
theorem zt_e15_43 : zt_eOK "ColumnVault" (141, 6, 50, 0, 3017) := ⟨_, rfl, (zt_in (j := 3) (k := 17) rfl rfl)⟩
set_option maxRecDepth 100000 in
theorem zt_e15_42 : zt_eOK "ColumnVault" (137, 4, 49, 0, 3011) := ⟨_, rfl, (zt_in (j := 3) (k := 11) rfl rfl)⟩
set_option maxRecDepth 100000 in
theorem zt_e15_41 : zt_eOK "ColumnVault" (133, 1, 13, 5, 1080) := ⟨_, "ColumnVault", rfl, by decide, (zt_inN (j := 1) (k := 80) rfl rfl)⟩
set_option maxRecDepth 100000 in
theorem zt_e15_40 : zt_eOK "ColumnVault" (130, 6, 45, 0, 2236) := ⟨_, rfl, (zt_in (j := 2) (k := 236) rfl rfl)⟩
set_option maxRecDepth 100000 in
theorem zt_e15_39 : zt_eOK "ColumnVault" (126, 6, 41, 0, 2219) := ⟨_, rfl, (zt_in (j := 2) (k := 219) rfl rfl)⟩
set_option maxRecDepth 100000 in
theorem zt_e15_38 : zt_eOK "ColumnVault" (122, 4, 38, 0, 2209) := ⟨_, rfl, (zt_in (j := 2) (k := 209) rfl rfl)⟩
set_option maxRecDepth 100000 in
theorem zt_e15_37 : zt_eOK "ColumnVault" (118, 6, 37, 0, 2205) := ⟨_, rfl, (zt_in (j := 2) (k := 205) rfl rfl)⟩
set_option maxRecDepth 100000 in
theorem zt_e15_36 : zt_eOK "ColumnVault" (114, 4, 34, 0, 2194) := ⟨_, rfl, (zt_in (j := 2) (k := 194) rfl rfl)⟩
set_option maxRecDepth 100000 in
theorem zt_e15_35 : zt_eOK "ColumnVault" (108, 4, 33, 0, 2188) := ⟨_, rfl, (zt_in (j := 2) (k := 188) rfl rfl)⟩
set_option maxRecDepth 100000 in
theorem zt_e15_34 : zt_eOK "ColumnVault" (104, 6, 19, 0, 2180) := ⟨_, rfl, (zt_in (j := 2) (k := 180) rfl rfl)⟩
set_option maxRecDepth 100000 in
theorem zt_e15_33 : zt_eOK "ColumnVault" (102, 13, 0, 0, 2179) := ⟨"no such numbers", zt_ch_in (j := 2) (List.mem_of_getElem? (i := 179) rfl), fun h => absurd h (by decide)⟩
set_option maxRecDepth 100000 in
theorem zt_e15_32 : zt_eOK "ColumnVault" (98, 4, 30, 0, 2174) := ⟨_, rfl, (zt_in (j := 2) (k := 174) rfl rfl)⟩
set_option maxRecDepth 100000 in
theorem zt_e15_31 : zt_eOK "ColumnVault" (95, 6, 29, 0, 2170) := ⟨_, rfl, (zt_in (j := 2) (k := 170) rfl rfl)⟩
set_option maxRecDepth 100000 in
theorem zt_e15_30 : zt_eOK "ColumnVault" (91, 6, 27, 0, 2161) := ⟨_, rfl, (zt_in (j := 2) (k := 161) rfl rfl)⟩
set_option maxRecDepth 100000 in
theorem zt_e15_29 : zt_eOK "ColumnVault" (87, 6, 24, 0, 2150) := ⟨_, rfl, (zt_in (j := 2) (k := 150) rfl rfl)⟩
set_option maxRecDepth 100000 in
theorem zt_e15_28 : zt_eOK "ColumnVault" (85, 13, 0, 0, 2149) := ⟨"too many rows", zt_ch_in (j := 2) (List.mem_of_getElem? (i := 149) rfl), fun h => absurd h (by decide)⟩
set_option maxRecDepth 100000 in
theorem zt_e15_27 : zt_eOK "ColumnVault" (82, 1, 13, 4, 1072) := ⟨_, "ColumnVault", rfl, by decide, (zt_inN (j := 1) (k := 72) rfl rfl)⟩
set_option maxRecDepth 100000 in
theorem zt_e15_26 : zt_eOK "ColumnVault" (78, 6, 18, 0, 2125) := ⟨_, rfl, (zt_in (j := 2) (k := 125) rfl rfl)⟩
set_option maxRecDepth 100000 in
theorem zt_e15_25 : zt_eOK "ColumnVault" (75, 6, 15, 0, 2109) := ⟨_, rfl, (zt_in (j := 2) (k := 109) rfl rfl)⟩
set_option maxRecDepth 100000 in
theorem zt_e15_24 : zt_eOK "ColumnVault" (72, 13, 0, 0, 2102) := ⟨"too many columns", zt_ch_in (j := 2) (List.mem_of_getElem? (i := 102) rfl), fun h => absurd h (by decide)⟩
set_option maxRecDepth 100000 in
theorem zt_e15_23 : zt_eOK "ColumnVault" (70, 2, 21, 999, 2093) := ⟨"java/lang/IllegalStateException", (zt_in (j := 2) (k := 93) rfl rfl), Or.inr rfl, Or.inl rfl⟩
set_option maxRecDepth 100000 in
theorem zt_e15_22 : zt_eOK "ColumnVault" (64, 1, 13, 3, 1068) := ⟨_, "ColumnVault", rfl, by decide, (zt_inN (j := 1) (k := 68) rfl rfl)⟩
set_option maxRecDepth 100000 in
theorem zt_e15_21 : zt_eOK "ColumnVault" (59, 13, 0, 0, 2086) := ⟨"no such kind", zt_ch_in (j := 2) (List.mem_of_getElem? (i := 86) rfl), fun h => absurd h (by decide)⟩
set_option maxRecDepth 100000 in
theorem zt_e15_20 : zt_eOK "ColumnVault" (57, 2, 20, 999, 2077) := ⟨"java/lang/IllegalArgumentException", (zt_in (j := 2) (k := 77) rfl rfl), Or.inr rfl, Or.inl rfl⟩
set_option maxRecDepth 100000 in
theorem zt_e15_19 : zt_eOK "ColumnVault" (53, 6, 13, 0, 2000) := ⟨_, rfl, (zt_in (j := 2) (k := 0) rfl rfl)⟩
set_option maxRecDepth 100000 in
theorem zt_e15_18 : zt_eOK "ColumnVault" (49, 0, 15, 5, 1208) := ⟨_, "ColumnVault", rfl, by decide, (zt_in (j := 1) (k := 208) rfl rfl), Or.inl rfl⟩
set_option maxRecDepth 100000 in
theorem zt_e15_17 : zt_eOK "ColumnVault" (48, 9, 8, 0, 1185) := ⟨_, "ColumnVault", rfl, (zt_inN (j := 1) (k := 185) rfl rfl)⟩
set_option maxRecDepth 100000 in
theorem zt_e15_16 : zt_eOK "ColumnVault" (46, 2, 5, 999, 1183) := ⟨"ColumnVault$Checks", (zt_in (j := 1) (k := 183) rfl rfl), Or.inr rfl, Or.inl rfl⟩
set_option maxRecDepth 100000 in
theorem zt_e15_15 : zt_eOK "ColumnVault" (42, 0, 15, 4, 1207) := ⟨_, "ColumnVault", rfl, by decide, (zt_in (j := 1) (k := 207) rfl rfl), Or.inl rfl⟩
set_option maxRecDepth 100000 in
theorem zt_e15_14 : zt_eOK "ColumnVault" (41, 9, 7, 0, 1157) := ⟨_, "ColumnVault", rfl, (zt_inN (j := 1) (k := 157) rfl rfl)⟩
set_option maxRecDepth 100000 in
theorem zt_e15_13 : zt_eOK "ColumnVault" (39, 2, 8, 999, 1155) := ⟨"ColumnVault$Groups", (zt_in (j := 1) (k := 155) rfl rfl), Or.inr rfl, Or.inl rfl⟩
set_option maxRecDepth 100000 in
theorem zt_e15_12 : zt_eOK "ColumnVault" (35, 0, 15, 3, 1206) := ⟨_, "ColumnVault", rfl, by decide, (zt_in (j := 1) (k := 206) rfl rfl), Or.inl rfl⟩
set_option maxRecDepth 100000 in
theorem zt_e15_11 : zt_eOK "ColumnVault" (34, 9, 6, 0, 1140) := ⟨_, "ColumnVault", rfl, (zt_inN (j := 1) (k := 140) rfl rfl)⟩
set_option maxRecDepth 100000 in
theorem zt_e15_10 : zt_eOK "ColumnVault" (32, 2, 12, 999, 1138) := ⟨"ColumnVault$Pairs", (zt_in (j := 1) (k := 138) rfl rfl), Or.inr rfl, Or.inl rfl⟩
set_option maxRecDepth 100000 in
theorem zt_e15_9 : zt_eOK "ColumnVault" (28, 0, 15, 2, 1205) := ⟨_, "ColumnVault", rfl, by decide, (zt_in (j := 1) (k := 205) rfl rfl), Or.inl rfl⟩
set_option maxRecDepth 100000 in
theorem zt_e15_8 : zt_eOK "ColumnVault" (27, 9, 5, 0, 1121) := ⟨_, "ColumnVault", rfl, (zt_inN (j := 1) (k := 121) rfl rfl)⟩
set_option maxRecDepth 100000 in
theorem zt_e15_7 : zt_eOK "ColumnVault" (25, 2, 14, 999, 1119) := ⟨"ColumnVault$Tokens", (zt_in (j := 1) (k := 119) rfl rfl), Or.inr rfl, Or.inl rfl⟩
set_option maxRecDepth 100000 in
theorem zt_e15_6 : zt_eOK "ColumnVault" (21, 0, 15, 1, 1204) := ⟨_, "ColumnVault", rfl, by decide, (zt_in (j := 1) (k := 204) rfl rfl), Or.inl rfl⟩
set_option maxRecDepth 100000 in
theorem zt_e15_5 : zt_eOK "ColumnVault" (20, 9, 4, 0, 1106) := ⟨_, "ColumnVault", rfl, (zt_inN (j := 1) (k := 106) rfl rfl)⟩
set_option maxRecDepth 100000 in
theorem zt_e15_4 : zt_eOK "ColumnVault" (18, 2, 7, 999, 1104) := ⟨"ColumnVault$FilterText", (zt_in (j := 1) (k := 104) rfl rfl), Or.inr rfl, Or.inl rfl⟩
set_option maxRecDepth 100000 in
theorem zt_e15_3 : zt_eOK "ColumnVault" (14, 0, 15, 0, 1203) := ⟨_, "ColumnVault", rfl, by decide, (zt_in (j := 1) (k := 203) rfl rfl), Or.inl rfl⟩
set_option maxRecDepth 100000 in
theorem zt_e15_2 : zt_eOK "ColumnVault" (13, 8, 2, 0, 1052) := ⟨_, rfl, (zt_in (j := 1) (k := 52) rfl rfl)⟩
set_option maxRecDepth 100000 in
theorem zt_e15_1 : zt_eOK "ColumnVault" (11, 2, 9, 999, 1050) := ⟨"ColumnVault$History", (zt_in (j := 1) (k := 50) rfl rfl), Or.inr rfl, Or.inl rfl⟩
set_option maxRecDepth 100000 in
theorem zt_e15_0 : zt_eOK "ColumnVault" (5, 10, 0, 0, 1047) := (zt_in (j := 1) (k := 47) rfl rfl)
theorem zt_pl15_ok : ∀ e ∈ zt_pl15, zt_eOK "ColumnVault" e := List.forall_mem_cons.mpr ⟨zt_e15_0, List.forall_mem_cons.mpr ⟨zt_e15_1, List.forall_mem_cons.mpr ⟨zt_e15_2, List.forall_mem_cons.mpr ⟨zt_e15_3, List.forall_mem_cons.mpr ⟨zt_e15_4, List.forall_mem_cons.mpr ⟨zt_e15_5, List.forall_mem_cons.mpr ⟨zt_e15_6, List.forall_mem_cons.mpr ⟨zt_e15_7, List.forall_mem_cons.mpr ⟨zt_e15_8, List.forall_mem_cons.mpr ⟨zt_e15_9, List.forall_mem_cons.mpr ⟨zt_e15_10, List.forall_mem_cons.mpr ⟨zt_e15_11, List.forall_mem_cons.mpr ⟨zt_e15_12, List.forall_mem_cons.mpr ⟨zt_e15_13, List.forall_mem_cons.mpr ⟨zt_e15_14, List.forall_mem_cons.mpr ⟨zt_e15_15, List.forall_mem_cons.mpr ⟨zt_e15_16, List.forall_mem_cons.mpr ⟨zt_e15_17, List.forall_mem_cons.mpr ⟨zt_e15_18, List.forall_mem_cons.mpr ⟨zt_e15_19, List.forall_mem_cons.mpr ⟨zt_e15_20, List.forall_mem_cons.mpr ⟨zt_e15_21, List.forall_mem_cons.mpr ⟨zt_e15_22, List.forall_mem_cons.mpr ⟨zt_e15_23, List.forall_mem_cons.mpr ⟨zt_e15_24, List.forall_mem_cons.mpr ⟨zt_e15_25, List.forall_mem_cons.mpr ⟨zt_e15_26, List.forall_mem_cons.mpr ⟨zt_e15_27, List.forall_mem_cons.mpr ⟨zt_e15_28, List.forall_mem_cons.mpr ⟨zt_e15_29, List.forall_mem_cons.mpr ⟨zt_e15_30, List.forall_mem_cons.mpr ⟨zt_e15_31, List.forall_mem_cons.mpr ⟨zt_e15_32, List.forall_mem_cons.mpr ⟨zt_e15_33, List.forall_mem_cons.mpr ⟨zt_e15_34, List.forall_mem_cons.mpr ⟨zt_e15_35, List.forall_mem_cons.mpr ⟨zt_e15_36, List.forall_mem_cons.mpr ⟨zt_e15_37, List.forall_mem_cons.mpr ⟨zt_e15_38, List.forall_mem_cons.mpr ⟨zt_e15_39, List.forall_mem_cons.mpr ⟨zt_e15_40, List.forall_mem_cons.mpr ⟨zt_e15_41, List.forall_mem_cons.mpr ⟨zt_e15_42, List.forall_mem_cons.mpr ⟨zt_e15_43, List.forall_mem_cons.mpr ⟨zt_e15_44, List.forall_mem_cons.mpr ⟨zt_e15_45, List.forall_mem_cons.mpr ⟨zt_e15_46, List.forall_mem_cons.mpr ⟨zt_e15_47, List.forall_mem_cons.mpr ⟨zt_e15_48, List.forall_mem_cons.mpr ⟨zt_e15_49, List.forall_mem_cons.mpr ⟨zt_e15_50, List.forall_mem_cons.mpr ⟨zt_e15_51, List.forall_mem_cons.mpr ⟨zt_e15_52, List.forall_mem_cons.mpr ⟨zt_e15_53, List.forall_mem_cons.mpr ⟨zt_e15_54, List.forall_mem_cons.mpr ⟨zt_e15_55, List.forall_mem_cons.mpr ⟨zt_e15_56, List.forall_mem_cons.mpr ⟨zt_e15_57, List.forall_mem_cons.mpr ⟨zt_e15_58, List.forall_mem_cons.mpr ⟨zt_e15_59, List.forall_mem_cons.mpr ⟨zt_e15_60, List.forall_mem_cons.mpr ⟨zt_e15_61, List.forall_mem_cons.mpr ⟨zt_e15_62, List.forall_mem_cons.mpr ⟨zt_e15_63, List.forall_mem_cons.mpr ⟨zt_e15_64, List.forall_mem_cons.mpr ⟨zt_e15_65, List.forall_mem_cons.mpr ⟨zt_e15_66, List.forall_mem_cons.mpr ⟨zt_e15_67, List.forall_mem_cons.mpr ⟨zt_e15_68, List.forall_mem_cons.mpr ⟨zt_e15_69, List.forall_mem_cons.mpr ⟨zt_e15_70, List.forall_mem_cons.mpr ⟨zt_e15_71, List.forall_mem_cons.mpr ⟨zt_e15_72, List.forall_mem_cons.mpr ⟨zt_e15_73, List.forall_mem_cons.mpr ⟨zt_e15_74, List.forall_mem_cons.mpr ⟨zt_e15_75, List.forall_mem_cons.mpr ⟨zt_e15_76, List.forall_mem_cons.mpr ⟨zt_e15_77, List.forall_mem_cons.mpr ⟨zt_e15_78, List.forall_mem_cons.mpr ⟨zt_e15_79, List.forall_mem_cons.mpr ⟨zt_e15_80, List.forall_mem_cons.mpr ⟨zt_e15_81, List.forall_mem_cons.mpr ⟨zt_e15_82, List.forall_mem_cons.mpr ⟨zt_e15_83, List.forall_mem_cons.mpr ⟨zt_e15_84, List.forall_mem_cons.mpr ⟨zt_e15_85, List.forall_mem_cons.mpr ⟨zt_e15_86, List.forall_mem_cons.mpr ⟨zt_e15_87, List.forall_mem_cons.mpr ⟨zt_e15_88, List.forall_mem_cons.mpr ⟨zt_e15_89, List.forall_mem_cons.mpr ⟨zt_e15_90, List.forall_mem_cons.mpr ⟨zt_e15_91, List.forall_mem_cons.mpr ⟨zt_e15_92, List.forall_mem_cons.mpr ⟨zt_e15_93, List.forall_mem_cons.mpr ⟨zt_e15_94, List.forall_mem_cons.mpr ⟨zt_e15_95, List.forall_mem_cons.mpr ⟨zt_e15_96, List.forall_mem_cons.mpr ⟨zt_e15_97, List.forall_mem_cons.mpr ⟨zt_e15_98, List.forall_mem_cons.mpr ⟨zt_e15_99, List.forall_mem_cons.mpr ⟨zt_e15_100, List.forall_mem_cons.mpr ⟨zt_e15_101, List.forall_mem_cons.mpr ⟨zt_e15_102, List.forall_mem_cons.mpr ⟨zt_e15_103, List.forall_mem_cons.mpr ⟨zt_e15_104, List.forall_mem_cons.mpr ⟨zt_e15_105, List.forall_mem_cons.mpr ⟨zt_e15_106, List.forall_mem_cons.mpr ⟨zt_e15_107, List.forall_mem_cons.mpr ⟨zt_e15_108, List.forall_mem_cons.mpr ⟨zt_e15_109, List.forall_mem_cons.mpr ⟨zt_e15_110, List.forall_mem_cons.mpr ⟨zt_e15_111, List.forall_mem_cons.mpr ⟨zt_e15_112, List.forall_mem_cons.mpr ⟨zt_e15_113, List.forall_mem_cons.mpr ⟨zt_e15_114, List.forall_mem_cons.mpr ⟨zt_e15_115, List.forall_mem_cons.mpr ⟨zt_e15_116, List.forall_mem_cons.mpr ⟨zt_e15_117, List.forall_mem_cons.mpr ⟨zt_e15_118, List.forall_mem_cons.mpr ⟨zt_e15_119, List.forall_mem_cons.mpr ⟨zt_e15_120, List.forall_mem_cons.mpr ⟨zt_e15_121, List.forall_mem_cons.mpr ⟨zt_e15_122, List.forall_mem_cons.mpr ⟨zt_e15_123, List.forall_mem_cons.mpr ⟨zt_e15_124, List.forall_mem_cons.mpr ⟨zt_e15_125, List.forall_mem_cons.mpr ⟨zt_e15_126, List.forall_mem_cons.mpr ⟨zt_e15_127, List.forall_mem_cons.mpr ⟨zt_e15_128, List.forall_mem_cons.mpr ⟨zt_e15_129, List.forall_mem_cons.mpr ⟨zt_e15_130, List.forall_mem_cons.mpr ⟨zt_e15_131, List.forall_mem_cons.mpr ⟨zt_e15_132, List.forall_mem_cons.mpr ⟨zt_e15_133, List.forall_mem_cons.mpr ⟨zt_e15_134, List.forall_mem_cons.mpr ⟨zt_e15_135, List.forall_mem_cons.mpr ⟨zt_e15_136, fun _ h => absurd h List.not_mem_nil⟩⟩⟩⟩⟩⟩⟩⟩⟩⟩⟩⟩⟩⟩⟩⟩⟩⟩⟩⟩⟩⟩⟩⟩⟩⟩⟩⟩⟩⟩⟩⟩⟩⟩⟩⟩⟩⟩⟩⟩⟩⟩⟩⟩⟩⟩⟩⟩⟩⟩⟩⟩⟩⟩⟩⟩⟩⟩⟩⟩⟩⟩⟩⟩⟩⟩⟩⟩⟩⟩⟩⟩⟩⟩⟩⟩⟩⟩⟩⟩⟩⟩⟩⟩⟩⟩⟩⟩⟩⟩⟩⟩⟩⟩⟩⟩⟩⟩⟩⟩⟩⟩⟩⟩⟩⟩⟩⟩⟩⟩⟩⟩⟩⟩⟩⟩⟩⟩⟩⟩⟩⟩⟩⟩⟩⟩⟩⟩⟩⟩⟩⟩⟩⟩⟩⟩⟩
set_option maxRecDepth 100000 in
theorem zt_lc15_ok : ∀ e ∈ zt_lc15, Cond.constantLong "ColumnVault" e.1 e.2.1 ∈ zt_good := List.forall_mem_cons.mpr ⟨(zt_in (j := 2) (k := 177) rfl rfl), List.forall_mem_cons.mpr ⟨(zt_in (j := 2) (k := 178) rfl rfl), List.forall_mem_cons.mpr ⟨(zt_in (j := 2) (k := 193) rfl rfl), List.forall_mem_cons.mpr ⟨(zt_in (j := 2) (k := 200) rfl rfl), List.forall_mem_cons.mpr ⟨(zt_in (j := 4) (k := 83) rfl rfl), List.forall_mem_cons.mpr ⟨(zt_in (j := 5) (k := 202) rfl rfl), fun _ h => absurd h List.not_mem_nil⟩⟩⟩⟩⟩⟩
set_option maxRecDepth 100000 in
theorem zt_e16_22 : zt_eOK "ColumnVaultModel$Node" (84, 6, 307, 0, 8238) := ⟨_, rfl, (zt_in (j := 8) (k := 238) rfl rfl)⟩
set_option maxRecDepth 100000 in
theorem zt_e16_21 : zt_eOK "ColumnVaultModel$Node" (80, 6, 308, 0, 8233) := ⟨_, rfl, (zt_in (j := 8) (k := 233) rfl rfl)⟩
set_option maxRecDepth 100000 in
theorem zt_e16_20 : zt_eOK "ColumnVaultModel$Node" (76, 6, 305, 0, 8237) := ⟨_, rfl, (zt_in (j := 8) (k := 237) rfl rfl)⟩
set_option maxRecDepth 100000 in
theorem zt_e16_19 : zt_eOK "ColumnVaultModel$Node" (73, 6, 246, 0, 8224) := ⟨_, rfl, (zt_in (j := 8) (k := 224) rfl rfl)⟩
set_option maxRecDepth 100000 in
theorem zt_e16_18 : zt_eOK "ColumnVaultModel$Node" (69, 6, 301, 0, 8189) := ⟨_, rfl, (zt_in (j := 8) (k := 189) rfl rfl)⟩
set_option maxRecDepth 100000 in
theorem zt_e16_17 : zt_eOK "ColumnVaultModel$Node" (65, 6, 268, 0, 8188) := ⟨_, rfl, (zt_in (j := 8) (k := 188) rfl rfl)⟩
set_option maxRecDepth 100000 in
theorem zt_e16_16 : zt_eOK "ColumnVaultModel$Node" (61, 5, 275, 0, 8202) := ⟨_, "ColumnVaultModel", rfl, (zt_inN (j := 8) (k := 202) rfl rfl)⟩
set_option maxRecDepth 100000 in
theorem zt_e16_15 : zt_eOK "ColumnVaultModel$Node" (57, 6, 302, 0, 8198) := ⟨_, rfl, (zt_in (j := 8) (k := 198) rfl rfl)⟩
set_option maxRecDepth 100000 in
theorem zt_e16_14 : zt_eOK "ColumnVaultModel$Node" (55, 2, 3, 999, 8197) := ⟨"java/lang/Long", (zt_in (j := 8) (k := 197) rfl rfl), Or.inr rfl, Or.inl rfl⟩
set_option maxRecDepth 100000 in
theorem zt_e16_13 : zt_eOK "ColumnVaultModel$Node" (51, 6, 257, 0, 8194) := ⟨_, rfl, (zt_in (j := 8) (k := 194) rfl rfl)⟩
set_option maxRecDepth 100000 in
theorem zt_e16_12 : zt_eOK "ColumnVaultModel$Node" (45, 6, 251, 0, 8193) := ⟨_, rfl, (zt_in (j := 8) (k := 193) rfl rfl)⟩
set_option maxRecDepth 100000 in
theorem zt_e16_11 : zt_eOK "ColumnVaultModel$Node" (42, 0, 16, 2, 8090) := ⟨_, "ColumnVaultModel$Node", rfl, by decide, (zt_in (j := 8) (k := 90) rfl rfl), Or.inl rfl⟩
set_option maxRecDepth 100000 in
theorem zt_e16_10 : zt_eOK "ColumnVaultModel$Node" (38, 11, 221, 0, 8204) := ⟨_, rfl, (zt_in (j := 8) (k := 204) rfl rfl)⟩
set_option maxRecDepth 100000 in
theorem zt_e16_9 : zt_eOK "ColumnVaultModel$Node" (35, 6, 299, 0, 8206) := ⟨_, rfl, (zt_in (j := 8) (k := 206) rfl rfl)⟩
set_option maxRecDepth 100000 in
theorem zt_e16_8 : zt_eOK "ColumnVaultModel$Node" (29, 11, 222, 1, 8196) := ⟨_, rfl, (zt_in (j := 8) (k := 196) rfl rfl)⟩
set_option maxRecDepth 100000 in
theorem zt_e16_7 : zt_eOK "ColumnVaultModel$Node" (25, 6, 300, 0, 8184) := ⟨_, rfl, (zt_in (j := 8) (k := 184) rfl rfl)⟩
set_option maxRecDepth 100000 in
theorem zt_e16_6 : zt_eOK "ColumnVaultModel$Node" (21, 0, 16, 0, 8086) := ⟨_, "ColumnVaultModel$Node", rfl, by decide, (zt_in (j := 8) (k := 86) rfl rfl), Or.inl rfl⟩
set_option maxRecDepth 100000 in
theorem zt_e16_5 : zt_eOK "ColumnVaultModel$Node" (18, 0, 16, 3, 8092) := ⟨_, "ColumnVaultModel$Node", rfl, by decide, (zt_in (j := 8) (k := 92) rfl rfl), Or.inl rfl⟩
set_option maxRecDepth 100000 in
theorem zt_e16_4 : zt_eOK "ColumnVaultModel$Node" (13, 2, 16, 999, 8205) := ⟨"ColumnVaultModel$Node", (zt_in (j := 8) (k := 205) rfl rfl), Or.inr rfl, Or.inl rfl⟩
set_option maxRecDepth 100000 in
theorem zt_e16_3 : zt_eOK "ColumnVaultModel$Node" (12, 0, 16, 1, 8088) := ⟨_, "ColumnVaultModel$Node", rfl, by decide, (zt_in (j := 8) (k := 88) rfl rfl), Or.inl rfl⟩
set_option maxRecDepth 100000 in
theorem zt_e16_2 : zt_eOK "ColumnVaultModel$Node" (11, 8, 216, 0, 8085) := ⟨_, rfl, (zt_in (j := 8) (k := 85) rfl rfl)⟩
set_option maxRecDepth 100000 in
theorem zt_e16_1 : zt_eOK "ColumnVaultModel$Node" (9, 2, 4, 999, 8084) := ⟨"java/util/ArrayList", (zt_in (j := 8) (k := 84) rfl rfl), Or.inr rfl, Or.inl rfl⟩
set_option maxRecDepth 100000 in
theorem zt_e16_0 : zt_eOK "ColumnVaultModel$Node" (3, 10, 0, 0, 8083) := (zt_in (j := 8) (k := 83) rfl rfl)
theorem zt_pl16_ok : ∀ e ∈ zt_pl16, zt_eOK "ColumnVaultModel$Node" e := List.forall_mem_cons.mpr ⟨zt_e16_0, List.forall_mem_cons.mpr ⟨zt_e16_1, List.forall_mem_cons.mpr ⟨zt_e16_2, List.forall_mem_cons.mpr ⟨zt_e16_3, List.forall_mem_cons.mpr ⟨zt_e16_4, List.forall_mem_cons.mpr ⟨zt_e16_5, List.forall_mem_cons.mpr ⟨zt_e16_6, List.forall_mem_cons.mpr ⟨zt_e16_7, List.forall_mem_cons.mpr ⟨zt_e16_8, List.forall_mem_cons.mpr ⟨zt_e16_9, List.forall_mem_cons.mpr ⟨zt_e16_10, List.forall_mem_cons.mpr ⟨zt_e16_11, List.forall_mem_cons.mpr ⟨zt_e16_12, List.forall_mem_cons.mpr ⟨zt_e16_13, List.forall_mem_cons.mpr ⟨zt_e16_14, List.forall_mem_cons.mpr ⟨zt_e16_15, List.forall_mem_cons.mpr ⟨zt_e16_16, List.forall_mem_cons.mpr ⟨zt_e16_17, List.forall_mem_cons.mpr ⟨zt_e16_18, List.forall_mem_cons.mpr ⟨zt_e16_19, List.forall_mem_cons.mpr ⟨zt_e16_20, List.forall_mem_cons.mpr ⟨zt_e16_21, List.forall_mem_cons.mpr ⟨zt_e16_22, fun _ h => absurd h List.not_mem_nil⟩⟩⟩⟩⟩⟩⟩⟩⟩⟩⟩⟩⟩⟩⟩⟩⟩⟩⟩⟩⟩⟩⟩
set_option maxRecDepth 100000 in
theorem zt_lc16_ok : ∀ e ∈ zt_lc16, Cond.constantLong "ColumnVaultModel$Node" e.1 e.2.1 ∈ zt_good := fun _ h => absurd h List.not_mem_nil
set_option maxRecDepth 100000 in
theorem zt_e17_28 : zt_eOK "ColumnVaultModel$Table" (96, 6, 274, 0, 8037) := ⟨_, rfl, (zt_in (j := 8) (k := 37) rfl rfl)⟩
set_option maxRecDepth 100000 in
theorem zt_e17_27 : zt_eOK "ColumnVaultModel$Table" (92, 5, 275, 0, 8043) := ⟨_, "ColumnVaultModel", rfl, (zt_inN (j := 8) (k := 43) rfl rfl)⟩
set_option maxRecDepth 100000 in
theorem zt_e17_26 : zt_eOK "ColumnVaultModel$Table" (89, 6, 251, 0, 8042) := ⟨_, rfl, (zt_in (j := 8) (k := 42) rfl rfl)⟩
set_option maxRecDepth 100000 in
theorem zt_e17_25 : zt_eOK "ColumnVaultModel$Table" (85, 6, 268, 0, 8041) := ⟨_, rfl, (zt_in (j := 8) (k := 41) rfl rfl)⟩
set_option maxRecDepth 100000 in
theorem zt_e17_24 : zt_eOK "ColumnVaultModel$Table" (81, 6, 266, 0, 8005) := ⟨_, rfl, (zt_in (j := 8) (k := 5) rfl rfl)⟩
set_option maxRecDepth 100000 in
theorem zt_e17_23 : zt_eOK "ColumnVaultModel$Table" (79, 6, 246, 0, 8004) := ⟨_, rfl, (zt_in (j := 8) (k := 4) rfl rfl)⟩
set_option maxRecDepth 100000 in
theorem zt_e17_22 : zt_eOK "ColumnVaultModel$Table" (75, 11, 262, 4, 7223) := ⟨_, rfl, (zt_in (j := 7) (k := 223) rfl rfl)⟩
set_option maxRecDepth 100000 in
theorem zt_e17_21 : zt_eOK "ColumnVaultModel$Table" (71, 6, 261, 0, 7218) := ⟨_, rfl, (zt_in (j := 7) (k := 218) rfl rfl)⟩
set_option maxRecDepth 100000 in
theorem zt_e17_20 : zt_eOK "ColumnVaultModel$Table" (68, 11, 243, 3, 7213) := ⟨_, rfl, (zt_in (j := 7) (k := 213) rfl rfl)⟩
set_option maxRecDepth 100000 in
theorem zt_e17_19 : zt_eOK "ColumnVaultModel$Table" (65, 4, 248, 0, 7150) := ⟨_, rfl, (zt_in (j := 7) (k := 150) rfl rfl)⟩
set_option maxRecDepth 100000 in
theorem zt_e17_18 : zt_eOK "ColumnVaultModel$Table" (61, 4, 239, 0, 7149) := ⟨_, rfl, (zt_in (j := 7) (k := 149) rfl rfl)⟩
set_option maxRecDepth 100000 in
theorem zt_e17_17 : zt_eOK "ColumnVaultModel$Table" (57, 6, 260, 0, 7214) := ⟨_, rfl, (zt_in (j := 7) (k := 214) rfl rfl)⟩
set_option maxRecDepth 100000 in
theorem zt_e17_16 : zt_eOK "ColumnVaultModel$Table" (54, 6, 252, 0, 7174) := ⟨_, rfl, (zt_in (j := 7) (k := 174) rfl rfl)⟩
set_option maxRecDepth 100000 in
theorem zt_e17_15 : zt_eOK "ColumnVaultModel$Table" (48, 6, 257, 0, 8016) := ⟨_, rfl, (zt_in (j := 8) (k := 16) rfl rfl)⟩
set_option maxRecDepth 100000 in
theorem zt_e17_14 : zt_eOK "ColumnVaultModel$Table" (46, 19, 0, 0, 7024) := (zt_in (j := 7) (k := 24) rfl rfl)
set_option maxRecDepth 100000 in
theorem zt_e17_13 : zt_eOK "ColumnVaultModel$Table" (44, 18, 2, 0, 7023) := ⟨"[J", _, (zt_in (j := 7) (k := 23) rfl rfl), rfl, by decide +kernel⟩
set_option maxRecDepth 100000 in
theorem zt_e17_12 : zt_eOK "ColumnVaultModel$Table" (40, 11, 225, 2, 6192) := ⟨_, rfl, (zt_in (j := 6) (k := 192) rfl rfl)⟩
set_option maxRecDepth 100000 in
theorem zt_e17_11 : zt_eOK "ColumnVaultModel$Table" (38, 2, 2, 999, 6190) := ⟨"java/lang/Integer", (zt_in (j := 6) (k := 190) rfl rfl), Or.inr rfl, Or.inl rfl⟩
set_option maxRecDepth 100000 in
theorem zt_e17_10 : zt_eOK "ColumnVaultModel$Table" (34, 11, 222, 1, 6174) := ⟨_, rfl, (zt_in (j := 6) (k := 174) rfl rfl)⟩
set_option maxRecDepth 100000 in
theorem zt_e17_9 : zt_eOK "ColumnVaultModel$Table" (28, 11, 221, 0, 6164) := ⟨_, rfl, (zt_in (j := 6) (k := 164) rfl rfl)⟩
set_option maxRecDepth 100000 in
theorem zt_e17_8 : zt_eOK "ColumnVaultModel$Table" (27, 8, 215, 0, 6162) := ⟨_, rfl, (zt_in (j := 6) (k := 162) rfl rfl)⟩
set_option maxRecDepth 100000 in
theorem zt_e17_7 : zt_eOK "ColumnVaultModel$Table" (24, 0, 17, 3, 6141) := ⟨_, "ColumnVaultModel$Table", rfl, by decide, (zt_in (j := 6) (k := 141) rfl rfl), Or.inl rfl⟩
set_option maxRecDepth 100000 in
theorem zt_e17_6 : zt_eOK "ColumnVaultModel$Table" (21, 0, 17, 2, 6139) := ⟨_, "ColumnVaultModel$Table", rfl, by decide, (zt_in (j := 6) (k := 139) rfl rfl), Or.inl rfl⟩
set_option maxRecDepth 100000 in
theorem zt_e17_5 : zt_eOK "ColumnVaultModel$Table" (18, 0, 17, 1, 6137) := ⟨_, "ColumnVaultModel$Table", rfl, by decide, (zt_in (j := 6) (k := 137) rfl rfl), Or.inl rfl⟩
set_option maxRecDepth 100000 in
theorem zt_e17_4 : zt_eOK "ColumnVaultModel$Table" (13, 2, 17, 4, 6161) := ⟨"ColumnVaultModel$Table", (zt_in (j := 6) (k := 161) rfl rfl), Or.inr rfl, Or.inr rfl⟩
set_option maxRecDepth 100000 in
theorem zt_e17_3 : zt_eOK "ColumnVaultModel$Table" (12, 0, 17, 0, 6135) := ⟨_, "ColumnVaultModel$Table", rfl, by decide, (zt_in (j := 6) (k := 135) rfl rfl), Or.inl rfl⟩
set_option maxRecDepth 100000 in
theorem zt_e17_2 : zt_eOK "ColumnVaultModel$Table" (11, 8, 216, 0, 6111) := ⟨_, rfl, (zt_in (j := 6) (k := 111) rfl rfl)⟩
set_option maxRecDepth 100000 in
theorem zt_e17_1 : zt_eOK "ColumnVaultModel$Table" (9, 2, 4, 999, 6109) := ⟨"java/util/ArrayList", (zt_in (j := 6) (k := 109) rfl rfl), Or.inr rfl, Or.inl rfl⟩
set_option maxRecDepth 100000 in
theorem zt_e17_0 : zt_eOK "ColumnVaultModel$Table" (3, 10, 0, 0, 6108) := (zt_in (j := 6) (k := 108) rfl rfl)
theorem zt_pl17_ok : ∀ e ∈ zt_pl17, zt_eOK "ColumnVaultModel$Table" e := List.forall_mem_cons.mpr ⟨zt_e17_0, List.forall_mem_cons.mpr ⟨zt_e17_1, List.forall_mem_cons.mpr ⟨zt_e17_2, List.forall_mem_cons.mpr ⟨zt_e17_3, List.forall_mem_cons.mpr ⟨zt_e17_4, List.forall_mem_cons.mpr ⟨zt_e17_5, List.forall_mem_cons.mpr ⟨zt_e17_6, List.forall_mem_cons.mpr ⟨zt_e17_7, List.forall_mem_cons.mpr ⟨zt_e17_8, List.forall_mem_cons.mpr ⟨zt_e17_9, List.forall_mem_cons.mpr ⟨zt_e17_10, List.forall_mem_cons.mpr ⟨zt_e17_11, List.forall_mem_cons.mpr ⟨zt_e17_12, List.forall_mem_cons.mpr ⟨zt_e17_13, List.forall_mem_cons.mpr ⟨zt_e17_14, List.forall_mem_cons.mpr ⟨zt_e17_15, List.forall_mem_cons.mpr ⟨zt_e17_16, List.forall_mem_cons.mpr ⟨zt_e17_17, List.forall_mem_cons.mpr ⟨zt_e17_18, List.forall_mem_cons.mpr ⟨zt_e17_19, List.forall_mem_cons.mpr ⟨zt_e17_20, List.forall_mem_cons.mpr ⟨zt_e17_21, List.forall_mem_cons.mpr ⟨zt_e17_22, List.forall_mem_cons.mpr ⟨zt_e17_23, List.forall_mem_cons.mpr ⟨zt_e17_24, List.forall_mem_cons.mpr ⟨zt_e17_25, List.forall_mem_cons.mpr ⟨zt_e17_26, List.forall_mem_cons.mpr ⟨zt_e17_27, List.forall_mem_cons.mpr ⟨zt_e17_28, fun _ h => absurd h List.not_mem_nil⟩⟩⟩⟩⟩⟩⟩⟩⟩⟩⟩⟩⟩⟩⟩⟩⟩⟩⟩⟩⟩⟩⟩⟩⟩⟩⟩⟩⟩
set_option maxRecDepth 100000 in
theorem zt_lc17_ok : ∀ e ∈ zt_lc17, Cond.constantLong "ColumnVaultModel$Table" e.1 e.2.1 ∈ zt_good := List.forall_mem_cons.mpr ⟨(zt_in (j := 7) (k := 148) rfl rfl), fun _ h => absurd h List.not_mem_nil⟩
set_option maxRecDepth 100000 in
theorem zt_e18_122 : zt_eOK "ColumnVaultModel" (439, 4, 393, 0, 10148) := ⟨_, rfl, (zt_in (j := 10) (k := 148) rfl rfl)⟩
set_option maxRecDepth 100000 in
theorem zt_e18_121 : zt_eOK "ColumnVaultModel" (435, 4, 392, 0, 10145) := ⟨_, rfl, (zt_in (j := 10) (k := 145) rfl rfl)⟩
set_option maxRecDepth 100000 in
theorem zt_e18_120 : zt_eOK "ColumnVaultModel" (431, 4, 391, 0, 10142) := ⟨_, rfl, (zt_in (j := 10) (k := 142) rfl rfl)⟩
set_option maxRecDepth 100000 in
theorem zt_e18_119 : zt_eOK "ColumnVaultModel" (427, 16, 0, 0, 10151) := Or.inl ⟨rfl, (zt_in (j := 10) (k := 151) rfl rfl), (zt_in (j := 3) (k := 193) rfl rfl), (zt_in (j := 1) (k := 17) rfl rfl), (zt_in (j := 3) (k := 194) rfl rfl)⟩
set_option maxRecDepth 100000 in
theorem zt_e18_118 : zt_eOK "ColumnVaultModel" (424, 4, 387, 0, 10129) := ⟨_, rfl, (zt_in (j := 10) (k := 129) rfl rfl)⟩
set_option maxRecDepth 100000 in
theorem zt_e18_117 : zt_eOK "ColumnVaultModel" (420, 4, 386, 0, 10126) := ⟨_, rfl, (zt_in (j := 10) (k := 126) rfl rfl)⟩
set_option maxRecDepth 100000 in
theorem zt_e18_116 : zt_eOK "ColumnVaultModel" (416, 4, 388, 0, 10132) := ⟨_, rfl, (zt_in (j := 10) (k := 132) rfl rfl)⟩
set_option maxRecDepth 100000 in
theorem zt_e18_115 : zt_eOK "ColumnVaultModel" (412, 4, 389, 0, 10135) := ⟨_, rfl, (zt_in (j := 10) (k := 135) rfl rfl)⟩
set_option maxRecDepth 100000 in
theorem zt_e18_114 : zt_eOK "ColumnVaultModel" (408, 4, 383, 0, 10115) := ⟨_, rfl, (zt_in (j := 10) (k := 115) rfl rfl)⟩
set_option maxRecDepth 100000 in
theorem zt_e18_113 : zt_eOK "ColumnVaultModel" (404, 4, 377, 0, 10092) := ⟨_, rfl, (zt_in (j := 10) (k := 92) rfl rfl)⟩
set_option maxRecDepth 100000 in
theorem zt_e18_112 : zt_eOK "ColumnVaultModel" (401, 11, 376, 7, 10084) := ⟨_, rfl, (zt_in (j := 10) (k := 84) rfl rfl)⟩
set_option maxRecDepth 100000 in
theorem zt_e18_111 : zt_eOK "ColumnVaultModel" (398, 4, 375, 0, 10079) := ⟨_, rfl, (zt_in (j := 10) (k := 79) rfl rfl)⟩
set_option maxRecDepth 100000 in
theorem zt_e18_110 : zt_eOK "ColumnVaultModel" (394, 4, 374, 0, 10075) := ⟨_, rfl, (zt_in (j := 10) (k := 75) rfl rfl)⟩
set_option maxRecDepth 100000 in
theorem zt_e18_109 : zt_eOK "ColumnVaultModel" (390, 4, 373, 0, 10070) := ⟨_, rfl, (zt_in (j := 10) (k := 70) rfl rfl)⟩
set_option maxRecDepth 100000 in
theorem zt_e18_108 : zt_eOK "ColumnVaultModel" (386, 4, 372, 0, 10067) := ⟨_, rfl, (zt_in (j := 10) (k := 67) rfl rfl)⟩
set_option maxRecDepth 100000 in
theorem zt_e18_107 : zt_eOK "ColumnVaultModel" (378, 6, 302, 0, 10074) := ⟨_, rfl, (zt_in (j := 10) (k := 74) rfl rfl)⟩
set_option maxRecDepth 100000 in
theorem zt_e18_106 : zt_eOK "ColumnVaultModel" (374, 4, 322, 0, 9063) := ⟨_, rfl, (zt_in (j := 9) (k := 63) rfl rfl)⟩
set_option maxRecDepth 100000 in
theorem zt_e18_105 : zt_eOK "ColumnVaultModel" (371, 0, 18, 14, 7041) := ⟨_, "ColumnVaultModel", rfl, by decide, (zt_in (j := 7) (k := 41) rfl rfl), Or.inl rfl⟩
set_option maxRecDepth 100000 in
theorem zt_e18_104 : zt_eOK "ColumnVaultModel" (368, 11, 324, 6, 9073) := ⟨_, rfl, (zt_in (j := 9) (k := 73) rfl rfl)⟩
set_option maxRecDepth 100000 in
theorem zt_e18_103 : zt_eOK "ColumnVaultModel" (364, 7, 274, 0, 9071) := ⟨_, "ColumnVaultModel", rfl, (zt_inN (j := 9) (k := 71) rfl rfl)⟩
set_option maxRecDepth 100000 in
theorem zt_e18_102 : zt_eOK "ColumnVaultModel" (360, 6, 323, 0, 9067) := ⟨_, rfl, (zt_in (j := 9) (k := 67) rfl rfl)⟩
set_option maxRecDepth 100000 in
theorem zt_e18_101 : zt_eOK "ColumnVaultModel" (356, 4, 275, 0, 9058) := ⟨_, rfl, (zt_in (j := 9) (k := 58) rfl rfl)⟩
set_option maxRecDepth 100000 in
theorem zt_e18_100 : zt_eOK "ColumnVaultModel" (355, 18, 1, 0, 9053) := ⟨"[I", _, (zt_in (j := 9) (k := 53) rfl rfl), rfl, by decide +kernel⟩
set_option maxRecDepth 100000 in
theorem zt_e18_99 : zt_eOK "ColumnVaultModel" (351, 6, 318, 0, 9045) := ⟨_, rfl, (zt_in (j := 9) (k := 45) rfl rfl)⟩
set_option maxRecDepth 100000 in
theorem zt_e18_98 : zt_eOK "ColumnVaultModel" (348, 11, 317, 5, 9037) := ⟨_, rfl, (zt_in (j := 9) (k := 37) rfl rfl)⟩
set_option maxRecDepth 100000 in
theorem zt_e18_97 : zt_eOK "ColumnVaultModel" (345, 6, 316, 0, 9032) := ⟨_, rfl, (zt_in (j := 9) (k := 32) rfl rfl)⟩
set_option maxRecDepth 100000 in
theorem zt_e18_96 : zt_eOK "ColumnVaultModel" (341, 6, 315, 0, 9028) := ⟨_, rfl, (zt_in (j := 9) (k := 28) rfl rfl)⟩
set_option maxRecDepth 100000 in
theorem zt_e18_95 : zt_eOK "ColumnVaultModel" (339, 13, 616, 1, 9023) := ⟨"!(#0 missing) & (#0 > 2 | #0 < -2) & #0 to -9 9", zt_ch_in (j := 9) (List.mem_of_getElem? (i := 23) rfl), fun _ => List.mem_of_getElem? (i := 8) rfl⟩
set_option maxRecDepth 100000 in
theorem zt_e18_94 : zt_eOK "ColumnVaultModel" (337, 13, 614, 1, 9022) := ⟨"#0 to -3 3 | #0 in 7 9 11 & !#0 = 9", zt_ch_in (j := 9) (List.mem_of_getElem? (i := 22) rfl), fun _ => List.mem_of_getElem? (i := 7) rfl⟩
set_option maxRecDepth 100000 in
theorem zt_e18_93 : zt_eOK "ColumnVaultModel" (335, 13, 612, 1, 9021) := ⟨"#0 < 5 & !(#1 = b | #1 missing)", zt_ch_in (j := 9) (List.mem_of_getElem? (i := 21) rfl), fun _ => List.mem_of_getElem? (i := 6) rfl⟩
set_option maxRecDepth 100000 in
theorem zt_e18_92 : zt_eOK "ColumnVaultModel" (329, 6, 307, 0, 8229) := ⟨_, rfl, (zt_in (j := 8) (k := 229) rfl rfl)⟩
set_option maxRecDepth 100000 in
theorem zt_e18_91 : zt_eOK "ColumnVaultModel" (326, 7, 305, 0, 8220) := ⟨_, "ColumnVaultModel", rfl, (zt_inN (j := 8) (k := 220) rfl rfl)⟩
set_option maxRecDepth 100000 in
theorem zt_e18_90 : zt_eOK "ColumnVaultModel" (322, 2, 3, 999, 10073) := ⟨"java/lang/Long", (zt_in (j := 10) (k := 73) rfl rfl), Or.inr rfl, Or.inl rfl⟩
set_option maxRecDepth 100000 in
theorem zt_e18_89 : zt_eOK "ColumnVaultModel" (321, 4, 297, 0, 8163) := ⟨_, rfl, (zt_in (j := 8) (k := 163) rfl rfl)⟩
set_option maxRecDepth 100000 in
theorem zt_e18_88 : zt_eOK "ColumnVaultModel" (318, 1, 16, 3, 8093) := ⟨_, "ColumnVaultModel", rfl, by decide, (zt_inN (j := 8) (k := 93) rfl rfl)⟩
set_option maxRecDepth 100000 in
theorem zt_e18_87 : zt_eOK "ColumnVaultModel" (312, 16, 0, 2, 8162) := Or.inr (Or.inr ⟨rfl, (zt_in (j := 8) (k := 162) rfl rfl), (zt_in (j := 3) (k := 189) rfl rfl), (zt_in (j := 1) (k := 17) rfl rfl), (zt_in (j := 3) (k := 190) rfl rfl)⟩)
set_option maxRecDepth 100000 in
theorem zt_e18_86 : zt_eOK "ColumnVaultModel" (305, 6, 296, 0, 8156) := ⟨_, rfl, (zt_in (j := 8) (k := 156) rfl rfl)⟩
set_option maxRecDepth 100000 in
theorem zt_e18_85 : zt_eOK "ColumnVaultModel" (302, 6, 295, 0, 8152) := ⟨_, rfl, (zt_in (j := 8) (k := 152) rfl rfl)⟩
set_option maxRecDepth 100000 in
theorem zt_e18_84 : zt_eOK "ColumnVaultModel" (300, 1, 16, 0, 8087) := ⟨_, "ColumnVaultModel", rfl, by decide, (zt_inN (j := 8) (k := 87) rfl rfl)⟩
set_option maxRecDepth 100000 in
theorem zt_e18_83 : zt_eOK "ColumnVaultModel" (297, 1, 16, 2, 8091) := ⟨_, "ColumnVaultModel", rfl, by decide, (zt_inN (j := 8) (k := 91) rfl rfl)⟩
set_option maxRecDepth 100000 in
theorem zt_e18_82 : zt_eOK "ColumnVaultModel" (294, 6, 292, 0, 8136) := ⟨_, rfl, (zt_in (j := 8) (k := 136) rfl rfl)⟩
set_option maxRecDepth 100000 in
theorem zt_e18_81 : zt_eOK "ColumnVaultModel" (291, 0, 18, 11, 7038) := ⟨_, "ColumnVaultModel", rfl, by decide, (zt_in (j := 7) (k := 38) rfl rfl), Or.inl rfl⟩
set_option maxRecDepth 100000 in
theorem zt_e18_80 : zt_eOK "ColumnVaultModel" (288, 4, 291, 0, 8131) := ⟨_, rfl, (zt_in (j := 8) (k := 131) rfl rfl)⟩
set_option maxRecDepth 100000 in
theorem zt_e18_79 : zt_eOK "ColumnVaultModel" (287, 13, 610, 1, 8151) := ⟨"missing", zt_ch_in (j := 8) (List.mem_of_getElem? (i := 151) rfl), fun _ => List.mem_of_getElem? (i := 5) rfl⟩
set_option maxRecDepth 100000 in
theorem zt_e18_78 : zt_eOK "ColumnVaultModel" (286, 13, 608, 1, 8150) := ⟨"in", zt_ch_in (j := 8) (List.mem_of_getElem? (i := 150) rfl), fun _ => List.mem_of_getElem? (i := 4) rfl⟩
set_option maxRecDepth 100000 in
theorem zt_e18_77 : zt_eOK "ColumnVaultModel" (282, 6, 293, 0, 8141) := ⟨_, rfl, (zt_in (j := 8) (k := 141) rfl rfl)⟩
set_option maxRecDepth 100000 in
theorem zt_e18_76 : zt_eOK "ColumnVaultModel" (280, 13, 606, 1, 8140) := ⟨"to", zt_ch_in (j := 8) (List.mem_of_getElem? (i := 140) rfl), fun _ => List.mem_of_getElem? (i := 3) rfl⟩
set_option maxRecDepth 100000 in
theorem zt_e18_75 : zt_eOK "ColumnVaultModel" (277, 4, 294, 0, 8147) := ⟨_, rfl, (zt_in (j := 8) (k := 147) rfl rfl)⟩
set_option maxRecDepth 100000 in
theorem zt_e18_74 : zt_eOK "ColumnVaultModel" (273, 6, 130, 0, 8146) := ⟨_, rfl, (zt_in (j := 8) (k := 146) rfl rfl)⟩
set_option maxRecDepth 100000 in
theorem zt_e18_73 : zt_eOK "ColumnVaultModel" (268, 6, 128, 0, 8145) := ⟨_, rfl, (zt_in (j := 8) (k := 145) rfl rfl)⟩
set_option maxRecDepth 100000 in
theorem zt_e18_72 : zt_eOK "ColumnVaultModel" (265, 0, 18, 8, 7035) := ⟨_, "ColumnVaultModel", rfl, by decide, (zt_in (j := 7) (k := 35) rfl rfl), Or.inl rfl⟩
set_option maxRecDepth 100000 in
theorem zt_e18_71 : zt_eOK "ColumnVaultModel" (261, 6, 288, 0, 8119) := ⟨_, rfl, (zt_in (j := 8) (k := 119) rfl rfl)⟩
set_option maxRecDepth 100000 in
theorem zt_e18_70 : zt_eOK "ColumnVaultModel" (258, 6, 290, 0, 8127) := ⟨_, rfl, (zt_in (j := 8) (k := 127) rfl rfl)⟩
set_option maxRecDepth 100000 in
theorem zt_e18_69 : zt_eOK "ColumnVaultModel" (254, 6, 289, 0, 8123) := ⟨_, rfl, (zt_in (j := 8) (k := 123) rfl rfl)⟩
set_option maxRecDepth 100000 in
theorem zt_e18_68 : zt_eOK "ColumnVaultModel" (251, 6, 287, 0, 8115) := ⟨_, rfl, (zt_in (j := 8) (k := 115) rfl rfl)⟩
set_option maxRecDepth 100000 in
theorem zt_e18_67 : zt_eOK "ColumnVaultModel" (248, 6, 285, 0, 8107) := ⟨_, rfl, (zt_in (j := 8) (k := 107) rfl rfl)⟩
set_option maxRecDepth 100000 in
theorem zt_e18_66 : zt_eOK "ColumnVaultModel" (245, 6, 284, 0, 8103) := ⟨_, rfl, (zt_in (j := 8) (k := 103) rfl rfl)⟩
set_option maxRecDepth 100000 in
theorem zt_e18_65 : zt_eOK "ColumnVaultModel" (242, 6, 282, 0, 8074) := ⟨_, rfl, (zt_in (j := 8) (k := 74) rfl rfl)⟩
set_option maxRecDepth 100000 in
theorem zt_e18_64 : zt_eOK "ColumnVaultModel" (239, 1, 16, 1, 8089) := ⟨_, "ColumnVaultModel", rfl, by decide, (zt_inN (j := 8) (k := 89) rfl rfl)⟩
set_option maxRecDepth 100000 in
theorem zt_e18_63 : zt_eOK "ColumnVaultModel" (237, 8, 283, 0, 8080) := ⟨_, rfl, (zt_in (j := 8) (k := 80) rfl rfl)⟩
set_option maxRecDepth 100000 in
theorem zt_e18_62 : zt_eOK "ColumnVaultModel" (234, 0, 18, 7, 7034) := ⟨_, "ColumnVaultModel", rfl, by decide, (zt_in (j := 7) (k := 34) rfl rfl), Or.inl rfl⟩
set_option maxRecDepth 100000 in
theorem zt_e18_61 : zt_eOK "ColumnVaultModel" (231, 6, 286, 0, 8111) := ⟨_, rfl, (zt_in (j := 8) (k := 111) rfl rfl)⟩
set_option maxRecDepth 100000 in
theorem zt_e18_60 : zt_eOK "ColumnVaultModel" (228, 0, 18, 6, 7033) := ⟨_, "ColumnVaultModel", rfl, by decide, (zt_in (j := 7) (k := 33) rfl rfl), Or.inl rfl⟩
set_option maxRecDepth 100000 in
theorem zt_e18_59 : zt_eOK "ColumnVaultModel" (221, 0, 18, 5, 7032) := ⟨_, "ColumnVaultModel", rfl, by decide, (zt_in (j := 7) (k := 32) rfl rfl), Or.inl rfl⟩
set_option maxRecDepth 100000 in
theorem zt_e18_58 : zt_eOK "ColumnVaultModel" (218, 0, 18, 10, 7037) := ⟨_, "ColumnVaultModel", rfl, by decide, (zt_in (j := 7) (k := 37) rfl rfl), Or.inl rfl⟩
set_option maxRecDepth 100000 in
theorem zt_e18_57 : zt_eOK "ColumnVaultModel" (215, 0, 18, 9, 7036) := ⟨_, "ColumnVaultModel", rfl, by decide, (zt_in (j := 7) (k := 36) rfl rfl), Or.inl rfl⟩
set_option maxRecDepth 100000 in
theorem zt_e18_56 : zt_eOK "ColumnVaultModel" (211, 6, 260, 0, 8211) := ⟨_, rfl, (zt_in (j := 8) (k := 211) rfl rfl)⟩
set_option maxRecDepth 100000 in
theorem zt_e18_55 : zt_eOK "ColumnVaultModel" (207, 11, 262, 4, 8209) := ⟨_, rfl, (zt_in (j := 8) (k := 209) rfl rfl)⟩
set_option maxRecDepth 100000 in
theorem zt_e18_54 : zt_eOK "ColumnVaultModel" (203, 19, 0, 0, 8210) := (zt_in (j := 8) (k := 210) rfl rfl)
set_option maxRecDepth 100000 in
theorem zt_e18_53 : zt_eOK "ColumnVaultModel" (202, 4, 248, 0, 8207) := ⟨_, rfl, (zt_in (j := 8) (k := 207) rfl rfl)⟩
set_option maxRecDepth 100000 in
theorem zt_e18_52 : zt_eOK "ColumnVaultModel" (199, 1, 17, 3, 6142) := ⟨_, "ColumnVaultModel", rfl, by decide, (zt_inN (j := 6) (k := 142) rfl rfl)⟩
set_option maxRecDepth 100000 in
theorem zt_e18_51 : zt_eOK "ColumnVaultModel" (194, 2, 16, 999, 8078) := ⟨"ColumnVaultModel$Node", (zt_in (j := 8) (k := 78) rfl rfl), Or.inr rfl, Or.inl rfl⟩
set_option maxRecDepth 100000 in
theorem zt_e18_50 : zt_eOK "ColumnVaultModel" (193, 6, 299, 0, 8180) := ⟨_, rfl, (zt_in (j := 8) (k := 180) rfl rfl)⟩
set_option maxRecDepth 100000 in
theorem zt_e18_49 : zt_eOK "ColumnVaultModel" (189, 6, 281, 0, 8070) := ⟨_, rfl, (zt_in (j := 8) (k := 70) rfl rfl)⟩
set_option maxRecDepth 100000 in
theorem zt_e18_48 : zt_eOK "ColumnVaultModel" (186, 6, 266, 0, 8065) := ⟨_, rfl, (zt_in (j := 8) (k := 65) rfl rfl)⟩
set_option maxRecDepth 100000 in
theorem zt_e18_47 : zt_eOK "ColumnVaultModel" (183, 6, 261, 0, 8060) := ⟨_, rfl, (zt_in (j := 8) (k := 60) rfl rfl)⟩
set_option maxRecDepth 100000 in
theorem zt_e18_46 : zt_eOK "ColumnVaultModel" (180, 6, 252, 0, 8055) := ⟨_, rfl, (zt_in (j := 8) (k := 55) rfl rfl)⟩
set_option maxRecDepth 100000 in
theorem zt_e18_45 : zt_eOK "ColumnVaultModel" (177, 1, 17, 2, 6140) := ⟨_, "ColumnVaultModel", rfl, by decide, (zt_inN (j := 6) (k := 140) rfl rfl)⟩
set_option maxRecDepth 100000 in
theorem zt_e18_44 : zt_eOK "ColumnVaultModel" (173, 6, 273, 0, 8033) := ⟨_, rfl, (zt_in (j := 8) (k := 33) rfl rfl)⟩
set_option maxRecDepth 100000 in
theorem zt_e18_43 : zt_eOK "ColumnVaultModel" (169, 4, 267, 0, 8009) := ⟨_, rfl, (zt_in (j := 8) (k := 9) rfl rfl)⟩
set_option maxRecDepth 100000 in
theorem zt_e18_42 : zt_eOK "ColumnVaultModel" (166, 6, 265, 0, 8000) := ⟨_, rfl, (zt_in (j := 8) (k := 0) rfl rfl)⟩
set_option maxRecDepth 100000 in
theorem zt_e18_41 : zt_eOK "ColumnVaultModel" (161, 6, 268, 0, 8012) := ⟨_, rfl, (zt_in (j := 8) (k := 12) rfl rfl)⟩
set_option maxRecDepth 100000 in
theorem zt_e18_40 : zt_eOK "ColumnVaultModel" (158, 6, 259, 0, 7208) := ⟨_, rfl, (zt_in (j := 7) (k := 208) rfl rfl)⟩
set_option maxRecDepth 100000 in
theorem zt_e18_39 : zt_eOK "ColumnVaultModel" (154, 6, 257, 0, 7200) := ⟨_, rfl, (zt_in (j := 7) (k := 200) rfl rfl)⟩
set_option maxRecDepth 100000 in
theorem zt_e18_38 : zt_eOK "ColumnVaultModel" (150, 4, 255, 0, 7190) := ⟨_, rfl, (zt_in (j := 7) (k := 190) rfl rfl)⟩
set_option maxRecDepth 100000 in
theorem zt_e18_37 : zt_eOK "ColumnVaultModel" (145, 6, 254, 0, 7185) := ⟨_, rfl, (zt_in (j := 7) (k := 185) rfl rfl)⟩
set_option maxRecDepth 100000 in
theorem zt_e18_36 : zt_eOK "ColumnVaultModel" (143, 18, 2, 0, 7180) := ⟨"[J", _, (zt_in (j := 7) (k := 180) rfl rfl), rfl, by decide +kernel⟩
set_option maxRecDepth 100000 in
theorem zt_e18_35 : zt_eOK "ColumnVaultModel" (140, 11, 222, 1, 7179) := ⟨_, rfl, (zt_in (j := 7) (k := 179) rfl rfl)⟩
set_option maxRecDepth 100000 in
theorem zt_e18_34 : zt_eOK "ColumnVaultModel" (138, 1, 17, 1, 6138) := ⟨_, "ColumnVaultModel", rfl, by decide, (zt_inN (j := 6) (k := 138) rfl rfl)⟩
set_option maxRecDepth 100000 in
theorem zt_e18_33 : zt_eOK "ColumnVaultModel" (135, 6, 251, 0, 7170) := ⟨_, rfl, (zt_in (j := 7) (k := 170) rfl rfl)⟩
set_option maxRecDepth 100000 in
theorem zt_e18_32 : zt_eOK "ColumnVaultModel" (125, 6, 250, 0, 7161) := ⟨_, rfl, (zt_in (j := 7) (k := 161) rfl rfl)⟩
set_option maxRecDepth 100000 in
theorem zt_e18_31 : zt_eOK "ColumnVaultModel" (122, 6, 247, 0, 7144) := ⟨_, rfl, (zt_in (j := 7) (k := 144) rfl rfl)⟩
set_option maxRecDepth 100000 in
theorem zt_e18_30 : zt_eOK "ColumnVaultModel" (118, 6, 242, 0, 7115) := ⟨_, rfl, (zt_in (j := 7) (k := 115) rfl rfl)⟩
set_option maxRecDepth 100000 in
theorem zt_e18_29 : zt_eOK "ColumnVaultModel" (113, 2, 2, 999, 8054) := ⟨"java/lang/Integer", (zt_in (j := 8) (k := 54) rfl rfl), Or.inr rfl, Or.inl rfl⟩
set_option maxRecDepth 100000 in
theorem zt_e18_28 : zt_eOK "ColumnVaultModel" (112, 4, 239, 0, 7095) := ⟨_, rfl, (zt_in (j := 7) (k := 95) rfl rfl)⟩
set_option maxRecDepth 100000 in
theorem zt_e18_27 : zt_eOK "ColumnVaultModel" (109, 1, 17, 0, 6136) := ⟨_, "ColumnVaultModel", rfl, by decide, (zt_inN (j := 6) (k := 136) rfl rfl)⟩
set_option maxRecDepth 100000 in
theorem zt_e18_26 : zt_eOK "ColumnVaultModel" (105, 6, 238, 0, 7091) := ⟨_, rfl, (zt_in (j := 7) (k := 91) rfl rfl)⟩
set_option maxRecDepth 100000 in
theorem zt_e18_25 : zt_eOK "ColumnVaultModel" (102, 6, 246, 0, 7140) := ⟨_, rfl, (zt_in (j := 7) (k := 140) rfl rfl)⟩
set_option maxRecDepth 100000 in
theorem zt_e18_24 : zt_eOK "ColumnVaultModel" (99, 6, 237, 0, 7087) := ⟨_, rfl, (zt_in (j := 7) (k := 87) rfl rfl)⟩
set_option maxRecDepth 100000 in
theorem zt_e18_23 : zt_eOK "ColumnVaultModel" (95, 4, 235, 0, 7080) := ⟨_, rfl, (zt_in (j := 7) (k := 80) rfl rfl)⟩
set_option maxRecDepth 100000 in
theorem zt_e18_22 : zt_eOK "ColumnVaultModel" (92, 18, 4, 0, 7135) := ⟨"[LColumnVaultModel$Table;", _, (zt_in (j := 7) (k := 135) rfl rfl), rfl, by decide +kernel⟩
set_option maxRecDepth 100000 in
theorem zt_e18_21 : zt_eOK "ColumnVaultModel" (88, 11, 243, 3, 7122) := ⟨_, rfl, (zt_in (j := 7) (k := 122) rfl rfl)⟩
set_option maxRecDepth 100000 in
theorem zt_e18_20 : zt_eOK "ColumnVaultModel" (84, 11, 221, 0, 7120) := ⟨_, rfl, (zt_in (j := 7) (k := 120) rfl rfl)⟩
set_option maxRecDepth 100000 in
theorem zt_e18_19 : zt_eOK "ColumnVaultModel" (81, 0, 18, 3, 7030) := ⟨_, "ColumnVaultModel", rfl, by decide, (zt_in (j := 7) (k := 30) rfl rfl), Or.inl rfl⟩
set_option maxRecDepth 100000 in
theorem zt_e18_18 : zt_eOK "ColumnVaultModel" (77, 6, 220, 0, 6157) := ⟨_, rfl, (zt_in (j := 6) (k := 157) rfl rfl)⟩
set_option maxRecDepth 100000 in
theorem zt_e18_17 : zt_eOK "ColumnVaultModel" (72, 2, 999, 999, 9066) := ⟨"java/util/List", (zt_in (j := 9) (k := 66) rfl rfl), Or.inl rfl, Or.inl rfl⟩
set_option maxRecDepth 100000 in
theorem zt_e18_16 : zt_eOK "ColumnVaultModel" (71, 11, 225, 2, 7026) := ⟨_, rfl, (zt_in (j := 7) (k := 26) rfl rfl)⟩
set_option maxRecDepth 100000 in
theorem zt_e18_15 : zt_eOK "ColumnVaultModel" (67, 4, 219, 0, 6154) := ⟨_, rfl, (zt_in (j := 6) (k := 154) rfl rfl)⟩
set_option maxRecDepth 100000 in
theorem zt_e18_14 : zt_eOK "ColumnVaultModel" (64, 0, 18, 15, 7042) := ⟨_, "ColumnVaultModel", rfl, by decide, (zt_in (j := 7) (k := 42) rfl rfl), Or.inl rfl⟩
set_option maxRecDepth 100000 in
theorem zt_e18_13 : zt_eOK "ColumnVaultModel" (60, 0, 18, 13, 7040) := ⟨_, "ColumnVaultModel", rfl, by decide, (zt_in (j := 7) (k := 40) rfl rfl), Or.inl rfl⟩
set_option maxRecDepth 100000 in
theorem zt_e18_12 : zt_eOK "ColumnVaultModel" (57, 0, 18, 12, 7039) := ⟨_, "ColumnVaultModel", rfl, by decide, (zt_in (j := 7) (k := 39) rfl rfl), Or.inl rfl⟩
set_option maxRecDepth 100000 in
theorem zt_e18_11 : zt_eOK "ColumnVaultModel" (53, 0, 18, 4, 7031) := ⟨_, "ColumnVaultModel", rfl, by decide, (zt_in (j := 7) (k := 31) rfl rfl), Or.inl rfl⟩
set_option maxRecDepth 100000 in
theorem zt_e18_10 : zt_eOK "ColumnVaultModel" (49, 0, 18, 2, 7029) := ⟨_, "ColumnVaultModel", rfl, by decide, (zt_in (j := 7) (k := 29) rfl rfl), Or.inl rfl⟩
set_option maxRecDepth 100000 in
theorem zt_e18_9 : zt_eOK "ColumnVaultModel" (48, 8, 216, 0, 6153) := ⟨_, rfl, (zt_in (j := 6) (k := 153) rfl rfl)⟩
set_option maxRecDepth 100000 in
theorem zt_e18_8 : zt_eOK "ColumnVaultModel" (46, 2, 4, 999, 6152) := ⟨"java/util/ArrayList", (zt_in (j := 6) (k := 152) rfl rfl), Or.inr rfl, Or.inl rfl⟩
set_option maxRecDepth 100000 in
theorem zt_e18_7 : zt_eOK "ColumnVaultModel" (42, 0, 18, 1, 7028) := ⟨_, "ColumnVaultModel", rfl, by decide, (zt_in (j := 7) (k := 28) rfl rfl), Or.inl rfl⟩
set_option maxRecDepth 100000 in
theorem zt_e18_6 : zt_eOK "ColumnVaultModel" (41, 9, 215, 0, 6105) := ⟨_, "ColumnVaultModel", rfl, (zt_inN (j := 6) (k := 105) rfl rfl)⟩
set_option maxRecDepth 100000 in
theorem zt_e18_5 : zt_eOK "ColumnVaultModel" (39, 2, 17, 4, 6102) := ⟨"ColumnVaultModel$Table", (zt_in (j := 6) (k := 102) rfl rfl), Or.inr rfl, Or.inr rfl⟩
set_option maxRecDepth 100000 in
theorem zt_e18_4 : zt_eOK "ColumnVaultModel" (33, 10, 0, 0, 6101) := (zt_in (j := 6) (k := 101) rfl rfl)
set_option maxRecDepth 100000 in
theorem zt_e18_3 : zt_eOK "ColumnVaultModel" (29, 4, 276, 0, 8046) := ⟨_, rfl, (zt_in (j := 8) (k := 46) rfl rfl)⟩
set_option maxRecDepth 100000 in
theorem zt_e18_2 : zt_eOK "ColumnVaultModel" (23, 4, 256, 0, 7193) := ⟨_, rfl, (zt_in (j := 7) (k := 193) rfl rfl)⟩
set_option maxRecDepth 100000 in
theorem zt_e18_1 : zt_eOK "ColumnVaultModel" (13, 4, 236, 0, 7084) := ⟨_, rfl, (zt_in (j := 7) (k := 84) rfl rfl)⟩
set_option maxRecDepth 100000 in
theorem zt_e18_0 : zt_eOK "ColumnVaultModel" (3, 0, 18, 0, 7027) := ⟨_, "ColumnVaultModel", rfl, by decide, (zt_in (j := 7) (k := 27) rfl rfl), Or.inl rfl⟩
theorem zt_pl18_ok : ∀ e ∈ zt_pl18, zt_eOK "ColumnVaultModel" e := List.forall_mem_cons.mpr ⟨zt_e18_0, List.forall_mem_cons.mpr ⟨zt_e18_1, List.forall_mem_cons.mpr ⟨zt_e18_2, List.forall_mem_cons.mpr ⟨zt_e18_3, List.forall_mem_cons.mpr ⟨zt_e18_4, List.forall_mem_cons.mpr ⟨zt_e18_5, List.forall_mem_cons.mpr ⟨zt_e18_6, List.forall_mem_cons.mpr ⟨zt_e18_7, List.forall_mem_cons.mpr ⟨zt_e18_8, List.forall_mem_cons.mpr ⟨zt_e18_9, List.forall_mem_cons.mpr ⟨zt_e18_10, List.forall_mem_cons.mpr ⟨zt_e18_11, List.forall_mem_cons.mpr ⟨zt_e18_12, List.forall_mem_cons.mpr ⟨zt_e18_13, List.forall_mem_cons.mpr ⟨zt_e18_14, List.forall_mem_cons.mpr ⟨zt_e18_15, List.forall_mem_cons.mpr ⟨zt_e18_16, List.forall_mem_cons.mpr ⟨zt_e18_17, List.forall_mem_cons.mpr ⟨zt_e18_18, List.forall_mem_cons.mpr ⟨zt_e18_19, List.forall_mem_cons.mpr ⟨zt_e18_20, List.forall_mem_cons.mpr ⟨zt_e18_21, List.forall_mem_cons.mpr ⟨zt_e18_22, List.forall_mem_cons.mpr ⟨zt_e18_23, List.forall_mem_cons.mpr ⟨zt_e18_24, List.forall_mem_cons.mpr ⟨zt_e18_25, List.forall_mem_cons.mpr ⟨zt_e18_26, List.forall_mem_cons.mpr ⟨zt_e18_27, List.forall_mem_cons.mpr ⟨zt_e18_28, List.forall_mem_cons.mpr ⟨zt_e18_29, List.forall_mem_cons.mpr ⟨zt_e18_30, List.forall_mem_cons.mpr ⟨zt_e18_31, List.forall_mem_cons.mpr ⟨zt_e18_32, List.forall_mem_cons.mpr ⟨zt_e18_33, List.forall_mem_cons.mpr ⟨zt_e18_34, List.forall_mem_cons.mpr ⟨zt_e18_35, List.forall_mem_cons.mpr ⟨zt_e18_36, List.forall_mem_cons.mpr ⟨zt_e18_37, List.forall_mem_cons.mpr ⟨zt_e18_38, List.forall_mem_cons.mpr ⟨zt_e18_39, List.forall_mem_cons.mpr ⟨zt_e18_40, List.forall_mem_cons.mpr ⟨zt_e18_41, List.forall_mem_cons.mpr ⟨zt_e18_42, List.forall_mem_cons.mpr ⟨zt_e18_43, List.forall_mem_cons.mpr ⟨zt_e18_44, List.forall_mem_cons.mpr ⟨zt_e18_45, List.forall_mem_cons.mpr ⟨zt_e18_46, List.forall_mem_cons.mpr ⟨zt_e18_47, List.forall_mem_cons.mpr ⟨zt_e18_48, List.forall_mem_cons.mpr ⟨zt_e18_49, List.forall_mem_cons.mpr ⟨zt_e18_50, List.forall_mem_cons.mpr ⟨zt_e18_51, List.forall_mem_cons.mpr ⟨zt_e18_52, List.forall_mem_cons.mpr ⟨zt_e18_53, List.forall_mem_cons.mpr ⟨zt_e18_54, List.forall_mem_cons.mpr ⟨zt_e18_55, List.forall_mem_cons.mpr ⟨zt_e18_56, List.forall_mem_cons.mpr ⟨zt_e18_57, List.forall_mem_cons.mpr ⟨zt_e18_58, List.forall_mem_cons.mpr ⟨zt_e18_59, List.forall_mem_cons.mpr ⟨zt_e18_60, List.forall_mem_cons.mpr ⟨zt_e18_61, List.forall_mem_cons.mpr ⟨zt_e18_62, List.forall_mem_cons.mpr ⟨zt_e18_63, List.forall_mem_cons.mpr ⟨zt_e18_64, List.forall_mem_cons.mpr ⟨zt_e18_65, List.forall_mem_cons.mpr ⟨zt_e18_66, List.forall_mem_cons.mpr ⟨zt_e18_67, List.forall_mem_cons.mpr ⟨zt_e18_68, List.forall_mem_cons.mpr ⟨zt_e18_69, List.forall_mem_cons.mpr ⟨zt_e18_70, List.forall_mem_cons.mpr ⟨zt_e18_71, List.forall_mem_cons.mpr ⟨zt_e18_72, List.forall_mem_cons.mpr ⟨zt_e18_73, List.forall_mem_cons.mpr ⟨zt_e18_74, List.forall_mem_cons.mpr ⟨zt_e18_75, List.forall_mem_cons.mpr ⟨zt_e18_76, List.forall_mem_cons.mpr ⟨zt_e18_77, List.forall_mem_cons.mpr ⟨zt_e18_78, List.forall_mem_cons.mpr ⟨zt_e18_79, List.forall_mem_cons.mpr ⟨zt_e18_80, List.forall_mem_cons.mpr ⟨zt_e18_81, List.forall_mem_cons.mpr ⟨zt_e18_82, List.forall_mem_cons.mpr ⟨zt_e18_83, List.forall_mem_cons.mpr ⟨zt_e18_84, List.forall_mem_cons.mpr ⟨zt_e18_85, List.forall_mem_cons.mpr ⟨zt_e18_86, List.forall_mem_cons.mpr ⟨zt_e18_87, List.forall_mem_cons.mpr ⟨zt_e18_88, List.forall_mem_cons.mpr ⟨zt_e18_89, List.forall_mem_cons.mpr ⟨zt_e18_90, List.forall_mem_cons.mpr ⟨zt_e18_91, List.forall_mem_cons.mpr ⟨zt_e18_92, List.forall_mem_cons.mpr ⟨zt_e18_93, List.forall_mem_cons.mpr ⟨zt_e18_94, List.forall_mem_cons.mpr ⟨zt_e18_95, List.forall_mem_cons.mpr ⟨zt_e18_96, List.forall_mem_cons.mpr ⟨zt_e18_97, List.forall_mem_cons.mpr ⟨zt_e18_98, List.forall_mem_cons.mpr ⟨zt_e18_99, List.forall_mem_cons.mpr ⟨zt_e18_100, List.forall_mem_cons.mpr ⟨zt_e18_101, List.forall_mem_cons.mpr ⟨zt_e18_102, List.forall_mem_cons.mpr ⟨zt_e18_103, List.forall_mem_cons.mpr ⟨zt_e18_104, List.forall_mem_cons.mpr ⟨zt_e18_105, List.forall_mem_cons.mpr ⟨zt_e18_106, List.forall_mem_cons.mpr ⟨zt_e18_107, List.forall_mem_cons.mpr ⟨zt_e18_108, List.forall_mem_cons.mpr ⟨zt_e18_109, List.forall_mem_cons.mpr ⟨zt_e18_110, List.forall_mem_cons.mpr ⟨zt_e18_111, List.forall_mem_cons.mpr ⟨zt_e18_112, List.forall_mem_cons.mpr ⟨zt_e18_113, List.forall_mem_cons.mpr ⟨zt_e18_114, List.forall_mem_cons.mpr ⟨zt_e18_115, List.forall_mem_cons.mpr ⟨zt_e18_116, List.forall_mem_cons.mpr ⟨zt_e18_117, List.forall_mem_cons.mpr ⟨zt_e18_118, List.forall_mem_cons.mpr ⟨zt_e18_119, List.forall_mem_cons.mpr ⟨zt_e18_120, List.forall_mem_cons.mpr ⟨zt_e18_121, List.forall_mem_cons.mpr ⟨zt_e18_122, fun _ h => absurd h List.not_mem_nil⟩⟩⟩⟩⟩⟩⟩⟩⟩⟩⟩⟩⟩⟩⟩⟩⟩⟩⟩⟩⟩⟩⟩⟩⟩⟩⟩⟩⟩⟩⟩⟩⟩⟩⟩⟩⟩⟩⟩⟩⟩⟩⟩⟩⟩⟩⟩⟩⟩⟩⟩⟩⟩⟩⟩⟩⟩⟩⟩⟩⟩⟩⟩⟩⟩⟩⟩⟩⟩⟩⟩⟩⟩⟩⟩⟩⟩⟩⟩⟩⟩⟩⟩⟩⟩⟩⟩⟩⟩⟩⟩⟩⟩⟩⟩⟩⟩⟩⟩⟩⟩⟩⟩⟩⟩⟩⟩⟩⟩⟩⟩⟩⟩⟩⟩⟩⟩⟩⟩⟩⟩⟩⟩
set_option maxRecDepth 100000 in
theorem zt_lc18_ok : ∀ e ∈ zt_lc18, Cond.constantLong "ColumnVaultModel" e.1 e.2.1 ∈ zt_good := List.forall_mem_cons.mpr ⟨(zt_in (j := 7) (k := 83) rfl rfl), List.forall_mem_cons.mpr ⟨(zt_in (j := 7) (k := 165) rfl rfl), List.forall_mem_cons.mpr ⟨(zt_in (j := 7) (k := 166) rfl rfl), List.forall_mem_cons.mpr ⟨(zt_in (j := 7) (k := 167) rfl rfl), List.forall_mem_cons.mpr ⟨(zt_in (j := 7) (k := 168) rfl rfl), List.forall_mem_cons.mpr ⟨(zt_in (j := 7) (k := 169) rfl rfl), List.forall_mem_cons.mpr ⟨(zt_in (j := 7) (k := 189) rfl rfl), List.forall_mem_cons.mpr ⟨(zt_in (j := 7) (k := 196) rfl rfl), List.forall_mem_cons.mpr ⟨(zt_in (j := 7) (k := 197) rfl rfl), List.forall_mem_cons.mpr ⟨(zt_in (j := 7) (k := 198) rfl rfl), List.forall_mem_cons.mpr ⟨(zt_in (j := 7) (k := 199) rfl rfl), List.forall_mem_cons.mpr ⟨(zt_in (j := 7) (k := 239) rfl rfl), List.forall_mem_cons.mpr ⟨(zt_in (j := 8) (k := 49) rfl rfl), List.forall_mem_cons.mpr ⟨(zt_in (j := 8) (k := 134) rfl rfl), List.forall_mem_cons.mpr ⟨(zt_in (j := 8) (k := 135) rfl rfl), List.forall_mem_cons.mpr ⟨(zt_in (j := 8) (k := 160) rfl rfl), List.forall_mem_cons.mpr ⟨(zt_in (j := 8) (k := 161) rfl rfl), List.forall_mem_cons.mpr ⟨(zt_in (j := 9) (k := 12) rfl rfl), List.forall_mem_cons.mpr ⟨(zt_in (j := 10) (k := 78) rfl rfl), List.forall_mem_cons.mpr ⟨(zt_in (j := 10) (k := 82) rfl rfl), fun _ h => absurd h List.not_mem_nil⟩⟩⟩⟩⟩⟩⟩⟩⟩⟩⟩⟩⟩⟩⟩⟩⟩⟩⟩⟩
theorem zt_pl19_ok : ∀ e ∈ zt_pl19, zt_eOK "java/lang/IndexOutOfBoundsException" e := fun _ h => absurd h List.not_mem_nil
set_option maxRecDepth 100000 in
theorem zt_lc19_ok : ∀ e ∈ zt_lc19, Cond.constantLong "java/lang/IndexOutOfBoundsException" e.1 e.2.1 ∈ zt_good := fun _ h => absurd h List.not_mem_nil
theorem zt_pl20_ok : ∀ e ∈ zt_pl20, zt_eOK "java/lang/IllegalArgumentException" e := fun _ h => absurd h List.not_mem_nil
set_option maxRecDepth 100000 in
theorem zt_lc20_ok : ∀ e ∈ zt_lc20, Cond.constantLong "java/lang/IllegalArgumentException" e.1 e.2.1 ∈ zt_good := fun _ h => absurd h List.not_mem_nil
theorem zt_pl21_ok : ∀ e ∈ zt_pl21, zt_eOK "java/lang/IllegalStateException" e := fun _ h => absurd h List.not_mem_nil
set_option maxRecDepth 100000 in
theorem zt_lc21_ok : ∀ e ∈ zt_lc21, Cond.constantLong "java/lang/IllegalStateException" e.1 e.2.1 ∈ zt_good := fun _ h => absurd h List.not_mem_nil
theorem zt_pl22_ok : ∀ e ∈ zt_pl22, zt_eOK "java/util/NoSuchElementException" e := fun _ h => absurd h List.not_mem_nil
set_option maxRecDepth 100000 in
theorem zt_lc22_ok : ∀ e ∈ zt_lc22, Cond.constantLong "java/util/NoSuchElementException" e.1 e.2.1 ∈ zt_good := fun _ h => absurd h List.not_mem_nil
set_option maxRecDepth 100000 in
theorem zt_e23_123 : zt_eOK "ColumnVaultLaw" (287, 6, 395, 0, 10156) := ⟨_, rfl, (zt_in (j := 10) (k := 156) rfl rfl)⟩
set_option maxRecDepth 100000 in
theorem zt_e23_122 : zt_eOK "ColumnVaultLaw" (284, 4, 211, 0, 6085) := ⟨_, rfl, (zt_in (j := 6) (k := 85) rfl rfl)⟩
set_option maxRecDepth 100000 in
theorem zt_e23_121 : zt_eOK "ColumnVaultLaw" (283, 6, 394, 0, 10152) := ⟨_, rfl, (zt_in (j := 10) (k := 152) rfl rfl)⟩
set_option maxRecDepth 100000 in
theorem zt_e23_120 : zt_eOK "ColumnVaultLaw" (280, 4, 209, 0, 6078) := ⟨_, rfl, (zt_in (j := 6) (k := 78) rfl rfl)⟩
set_option maxRecDepth 100000 in
theorem zt_e23_119 : zt_eOK "ColumnVaultLaw" (279, 6, 390, 0, 10138) := ⟨_, rfl, (zt_in (j := 10) (k := 138) rfl rfl)⟩
set_option maxRecDepth 100000 in
theorem zt_e23_118 : zt_eOK "ColumnVaultLaw" (277, 4, 200, 0, 6025) := ⟨_, rfl, (zt_in (j := 6) (k := 25) rfl rfl)⟩
set_option maxRecDepth 100000 in
theorem zt_e23_117 : zt_eOK "ColumnVaultLaw" (276, 6, 385, 0, 10122) := ⟨_, rfl, (zt_in (j := 10) (k := 122) rfl rfl)⟩
set_option maxRecDepth 100000 in
theorem zt_e23_116 : zt_eOK "ColumnVaultLaw" (274, 4, 192, 0, 5231) := ⟨_, rfl, (zt_in (j := 5) (k := 231) rfl rfl)⟩
set_option maxRecDepth 100000 in
theorem zt_e23_115 : zt_eOK "ColumnVaultLaw" (273, 6, 384, 0, 10118) := ⟨_, rfl, (zt_in (j := 10) (k := 118) rfl rfl)⟩
set_option maxRecDepth 100000 in
theorem zt_e23_114 : zt_eOK "ColumnVaultLaw" (270, 4, 189, 0, 5218) := ⟨_, rfl, (zt_in (j := 5) (k := 218) rfl rfl)⟩
set_option maxRecDepth 100000 in
theorem zt_e23_113 : zt_eOK "ColumnVaultLaw" (269, 6, 382, 0, 10111) := ⟨_, rfl, (zt_in (j := 10) (k := 111) rfl rfl)⟩
set_option maxRecDepth 100000 in
theorem zt_e23_112 : zt_eOK "ColumnVaultLaw" (266, 4, 187, 0, 5211) := ⟨_, rfl, (zt_in (j := 5) (k := 211) rfl rfl)⟩
set_option maxRecDepth 100000 in
theorem zt_e23_111 : zt_eOK "ColumnVaultLaw" (265, 6, 381, 0, 10107) := ⟨_, rfl, (zt_in (j := 10) (k := 107) rfl rfl)⟩
set_option maxRecDepth 100000 in
theorem zt_e23_110 : zt_eOK "ColumnVaultLaw" (263, 4, 185, 0, 5204) := ⟨_, rfl, (zt_in (j := 5) (k := 204) rfl rfl)⟩
set_option maxRecDepth 100000 in
theorem zt_e23_109 : zt_eOK "ColumnVaultLaw" (262, 6, 380, 0, 10103) := ⟨_, rfl, (zt_in (j := 10) (k := 103) rfl rfl)⟩
set_option maxRecDepth 100000 in
theorem zt_e23_108 : zt_eOK "ColumnVaultLaw" (260, 4, 183, 0, 5193) := ⟨_, rfl, (zt_in (j := 5) (k := 193) rfl rfl)⟩
set_option maxRecDepth 100000 in
theorem zt_e23_107 : zt_eOK "ColumnVaultLaw" (259, 6, 379, 0, 10099) := ⟨_, rfl, (zt_in (j := 10) (k := 99) rfl rfl)⟩
set_option maxRecDepth 100000 in
theorem zt_e23_106 : zt_eOK "ColumnVaultLaw" (257, 4, 179, 0, 5178) := ⟨_, rfl, (zt_in (j := 5) (k := 178) rfl rfl)⟩
set_option maxRecDepth 100000 in
theorem zt_e23_105 : zt_eOK "ColumnVaultLaw" (256, 6, 378, 0, 10095) := ⟨_, rfl, (zt_in (j := 10) (k := 95) rfl rfl)⟩
set_option maxRecDepth 100000 in
theorem zt_e23_104 : zt_eOK "ColumnVaultLaw" (254, 4, 177, 0, 5171) := ⟨_, rfl, (zt_in (j := 5) (k := 171) rfl rfl)⟩
set_option maxRecDepth 100000 in
theorem zt_e23_103 : zt_eOK "ColumnVaultLaw" (253, 6, 371, 0, 10063) := ⟨_, rfl, (zt_in (j := 10) (k := 63) rfl rfl)⟩
set_option maxRecDepth 100000 in
theorem zt_e23_102 : zt_eOK "ColumnVaultLaw" (251, 4, 172, 0, 5133) := ⟨_, rfl, (zt_in (j := 5) (k := 133) rfl rfl)⟩
set_option maxRecDepth 100000 in
theorem zt_e23_101 : zt_eOK "ColumnVaultLaw" (250, 6, 370, 0, 10059) := ⟨_, rfl, (zt_in (j := 10) (k := 59) rfl rfl)⟩
set_option maxRecDepth 100000 in
theorem zt_e23_100 : zt_eOK "ColumnVaultLaw" (248, 4, 164, 0, 5097) := ⟨_, rfl, (zt_in (j := 5) (k := 97) rfl rfl)⟩
set_option maxRecDepth 100000 in
theorem zt_e23_99 : zt_eOK "ColumnVaultLaw" (247, 6, 321, 0, 9059) := ⟨_, rfl, (zt_in (j := 9) (k := 59) rfl rfl)⟩
set_option maxRecDepth 100000 in
theorem zt_e23_98 : zt_eOK "ColumnVaultLaw" (245, 4, 159, 0, 5074) := ⟨_, rfl, (zt_in (j := 5) (k := 74) rfl rfl)⟩
set_option maxRecDepth 100000 in
theorem zt_e23_97 : zt_eOK "ColumnVaultLaw" (244, 6, 320, 0, 9054) := ⟨_, rfl, (zt_in (j := 9) (k := 54) rfl rfl)⟩
set_option maxRecDepth 100000 in
theorem zt_e23_96 : zt_eOK "ColumnVaultLaw" (241, 4, 148, 0, 5006) := ⟨_, rfl, (zt_in (j := 5) (k := 6) rfl rfl)⟩
set_option maxRecDepth 100000 in
theorem zt_e23_95 : zt_eOK "ColumnVaultLaw" (240, 6, 319, 0, 9049) := ⟨_, rfl, (zt_in (j := 9) (k := 49) rfl rfl)⟩
set_option maxRecDepth 100000 in
theorem zt_e23_94 : zt_eOK "ColumnVaultLaw" (238, 4, 145, 0, 4234) := ⟨_, rfl, (zt_in (j := 4) (k := 234) rfl rfl)⟩
set_option maxRecDepth 100000 in
theorem zt_e23_93 : zt_eOK "ColumnVaultLaw" (237, 6, 314, 0, 9024) := ⟨_, rfl, (zt_in (j := 9) (k := 24) rfl rfl)⟩
set_option maxRecDepth 100000 in
theorem zt_e23_92 : zt_eOK "ColumnVaultLaw" (235, 4, 139, 0, 4206) := ⟨_, rfl, (zt_in (j := 4) (k := 206) rfl rfl)⟩
set_option maxRecDepth 100000 in
theorem zt_e23_91 : zt_eOK "ColumnVaultLaw" (234, 6, 313, 0, 9017) := ⟨_, rfl, (zt_in (j := 9) (k := 17) rfl rfl)⟩
set_option maxRecDepth 100000 in
theorem zt_e23_90 : zt_eOK "ColumnVaultLaw" (232, 4, 125, 0, 4143) := ⟨_, rfl, (zt_in (j := 4) (k := 143) rfl rfl)⟩
set_option maxRecDepth 100000 in
theorem zt_e23_89 : zt_eOK "ColumnVaultLaw" (231, 6, 312, 0, 9013) := ⟨_, rfl, (zt_in (j := 9) (k := 13) rfl rfl)⟩
set_option maxRecDepth 100000 in
theorem zt_e23_88 : zt_eOK "ColumnVaultLaw" (228, 6, 10, 0, 1226) := ⟨_, rfl, (zt_in (j := 1) (k := 226) rfl rfl)⟩
set_option maxRecDepth 100000 in
theorem zt_e23_87 : zt_eOK "ColumnVaultLaw" (227, 6, 311, 0, 9008) := ⟨_, rfl, (zt_in (j := 9) (k := 8) rfl rfl)⟩
set_option maxRecDepth 100000 in
theorem zt_e23_86 : zt_eOK "ColumnVaultLaw" (224, 4, 120, 0, 4123) := ⟨_, rfl, (zt_in (j := 4) (k := 123) rfl rfl)⟩
set_option maxRecDepth 100000 in
theorem zt_e23_85 : zt_eOK "ColumnVaultLaw" (223, 6, 310, 0, 9004) := ⟨_, rfl, (zt_in (j := 9) (k := 4) rfl rfl)⟩
set_option maxRecDepth 100000 in
theorem zt_e23_84 : zt_eOK "ColumnVaultLaw" (221, 4, 118, 0, 4116) := ⟨_, rfl, (zt_in (j := 4) (k := 116) rfl rfl)⟩
set_option maxRecDepth 100000 in
theorem zt_e23_83 : zt_eOK "ColumnVaultLaw" (220, 6, 309, 0, 9000) := ⟨_, rfl, (zt_in (j := 9) (k := 0) rfl rfl)⟩
set_option maxRecDepth 100000 in
theorem zt_e23_82 : zt_eOK "ColumnVaultLaw" (218, 4, 116, 0, 4109) := ⟨_, rfl, (zt_in (j := 4) (k := 109) rfl rfl)⟩
set_option maxRecDepth 100000 in
theorem zt_e23_81 : zt_eOK "ColumnVaultLaw" (217, 6, 306, 0, 8225) := ⟨_, rfl, (zt_in (j := 8) (k := 225) rfl rfl)⟩
set_option maxRecDepth 100000 in
theorem zt_e23_80 : zt_eOK "ColumnVaultLaw" (214, 4, 113, 0, 4099) := ⟨_, rfl, (zt_in (j := 4) (k := 99) rfl rfl)⟩
set_option maxRecDepth 100000 in
theorem zt_e23_79 : zt_eOK "ColumnVaultLaw" (213, 6, 304, 0, 8216) := ⟨_, rfl, (zt_in (j := 8) (k := 216) rfl rfl)⟩
set_option maxRecDepth 100000 in
theorem zt_e23_78 : zt_eOK "ColumnVaultLaw" (211, 4, 111, 0, 4092) := ⟨_, rfl, (zt_in (j := 4) (k := 92) rfl rfl)⟩
set_option maxRecDepth 100000 in
theorem zt_e23_77 : zt_eOK "ColumnVaultLaw" (210, 6, 303, 0, 8212) := ⟨_, rfl, (zt_in (j := 8) (k := 212) rfl rfl)⟩
set_option maxRecDepth 100000 in
theorem zt_e23_76 : zt_eOK "ColumnVaultLaw" (208, 4, 109, 0, 4084) := ⟨_, rfl, (zt_in (j := 4) (k := 84) rfl rfl)⟩
set_option maxRecDepth 100000 in
theorem zt_e23_75 : zt_eOK "ColumnVaultLaw" (207, 6, 280, 0, 8066) := ⟨_, rfl, (zt_in (j := 8) (k := 66) rfl rfl)⟩
set_option maxRecDepth 100000 in
theorem zt_e23_74 : zt_eOK "ColumnVaultLaw" (205, 4, 73, 0, 3105) := ⟨_, rfl, (zt_in (j := 3) (k := 105) rfl rfl)⟩
set_option maxRecDepth 100000 in
theorem zt_e23_73 : zt_eOK "ColumnVaultLaw" (204, 6, 279, 0, 8061) := ⟨_, rfl, (zt_in (j := 8) (k := 61) rfl rfl)⟩
set_option maxRecDepth 100000 in
theorem zt_e23_72 : zt_eOK "ColumnVaultLaw" (202, 4, 70, 0, 3095) := ⟨_, rfl, (zt_in (j := 3) (k := 95) rfl rfl)⟩
set_option maxRecDepth 100000 in
theorem zt_e23_71 : zt_eOK "ColumnVaultLaw" (201, 6, 278, 0, 8056) := ⟨_, rfl, (zt_in (j := 8) (k := 56) rfl rfl)⟩
set_option maxRecDepth 100000 in
theorem zt_e23_70 : zt_eOK "ColumnVaultLaw" (199, 4, 67, 0, 3084) := ⟨_, rfl, (zt_in (j := 3) (k := 84) rfl rfl)⟩
set_option maxRecDepth 100000 in
theorem zt_e23_69 : zt_eOK "ColumnVaultLaw" (198, 6, 277, 0, 8050) := ⟨_, rfl, (zt_in (j := 8) (k := 50) rfl rfl)⟩
set_option maxRecDepth 100000 in
theorem zt_e23_68 : zt_eOK "ColumnVaultLaw" (196, 4, 64, 0, 3072) := ⟨_, rfl, (zt_in (j := 3) (k := 72) rfl rfl)⟩
set_option maxRecDepth 100000 in
theorem zt_e23_67 : zt_eOK "ColumnVaultLaw" (195, 6, 272, 0, 8029) := ⟨_, rfl, (zt_in (j := 8) (k := 29) rfl rfl)⟩
set_option maxRecDepth 100000 in
theorem zt_e23_66 : zt_eOK "ColumnVaultLaw" (192, 4, 58, 0, 3050) := ⟨_, rfl, (zt_in (j := 3) (k := 50) rfl rfl)⟩
set_option maxRecDepth 100000 in
theorem zt_e23_65 : zt_eOK "ColumnVaultLaw" (191, 6, 271, 0, 8025) := ⟨_, rfl, (zt_in (j := 8) (k := 25) rfl rfl)⟩
set_option maxRecDepth 100000 in
theorem zt_e23_64 : zt_eOK "ColumnVaultLaw" (189, 4, 55, 0, 3038) := ⟨_, rfl, (zt_in (j := 3) (k := 38) rfl rfl)⟩
set_option maxRecDepth 100000 in
theorem zt_e23_63 : zt_eOK "ColumnVaultLaw" (188, 6, 270, 0, 8021) := ⟨_, rfl, (zt_in (j := 8) (k := 21) rfl rfl)⟩
set_option maxRecDepth 100000 in
theorem zt_e23_62 : zt_eOK "ColumnVaultLaw" (185, 6, 9, 0, 1222) := ⟨_, rfl, (zt_in (j := 1) (k := 222) rfl rfl)⟩
set_option maxRecDepth 100000 in
theorem zt_e23_61 : zt_eOK "ColumnVaultLaw" (184, 6, 269, 0, 8017) := ⟨_, rfl, (zt_in (j := 8) (k := 17) rfl rfl)⟩
set_option maxRecDepth 100000 in
theorem zt_e23_60 : zt_eOK "ColumnVaultLaw" (182, 4, 53, 0, 3031) := ⟨_, rfl, (zt_in (j := 3) (k := 31) rfl rfl)⟩
set_option maxRecDepth 100000 in
theorem zt_e23_59 : zt_eOK "ColumnVaultLaw" (181, 6, 264, 0, 7235) := ⟨_, rfl, (zt_in (j := 7) (k := 235) rfl rfl)⟩
set_option maxRecDepth 100000 in
theorem zt_e23_58 : zt_eOK "ColumnVaultLaw" (179, 4, 47, 0, 3004) := ⟨_, rfl, (zt_in (j := 3) (k := 4) rfl rfl)⟩
set_option maxRecDepth 100000 in
theorem zt_e23_57 : zt_eOK "ColumnVaultLaw" (178, 6, 263, 0, 7231) := ⟨_, rfl, (zt_in (j := 7) (k := 231) rfl rfl)⟩
set_option maxRecDepth 100000 in
theorem zt_e23_56 : zt_eOK "ColumnVaultLaw" (175, 4, 43, 0, 2229) := ⟨_, rfl, (zt_in (j := 2) (k := 229) rfl rfl)⟩
set_option maxRecDepth 100000 in
theorem zt_e23_55 : zt_eOK "ColumnVaultLaw" (174, 6, 258, 0, 7204) := ⟨_, rfl, (zt_in (j := 7) (k := 204) rfl rfl)⟩
set_option maxRecDepth 100000 in
theorem zt_e23_54 : zt_eOK "ColumnVaultLaw" (172, 4, 39, 0, 2212) := ⟨_, rfl, (zt_in (j := 2) (k := 212) rfl rfl)⟩
set_option maxRecDepth 100000 in
theorem zt_e23_53 : zt_eOK "ColumnVaultLaw" (171, 6, 253, 0, 7181) := ⟨_, rfl, (zt_in (j := 7) (k := 181) rfl rfl)⟩
set_option maxRecDepth 100000 in
theorem zt_e23_52 : zt_eOK "ColumnVaultLaw" (168, 4, 31, 0, 2181) := ⟨_, rfl, (zt_in (j := 2) (k := 181) rfl rfl)⟩
set_option maxRecDepth 100000 in
theorem zt_e23_51 : zt_eOK "ColumnVaultLaw" (165, 6, 249, 0, 7157) := ⟨_, rfl, (zt_in (j := 7) (k := 157) rfl rfl)⟩
set_option maxRecDepth 100000 in
theorem zt_e23_50 : zt_eOK "ColumnVaultLaw" (162, 4, 25, 0, 2154) := ⟨_, rfl, (zt_in (j := 2) (k := 154) rfl rfl)⟩
set_option maxRecDepth 100000 in
theorem zt_e23_49 : zt_eOK "ColumnVaultLaw" (161, 6, 245, 0, 7136) := ⟨_, rfl, (zt_in (j := 7) (k := 136) rfl rfl)⟩
set_option maxRecDepth 100000 in
theorem zt_e23_48 : zt_eOK "ColumnVaultLaw" (158, 4, 22, 0, 2142) := ⟨_, rfl, (zt_in (j := 2) (k := 142) rfl rfl)⟩
set_option maxRecDepth 100000 in
theorem zt_e23_47 : zt_eOK "ColumnVaultLaw" (154, 6, 213, 0, 6092) := ⟨_, rfl, (zt_in (j := 6) (k := 92) rfl rfl)⟩
set_option maxRecDepth 100000 in
theorem zt_e23_46 : zt_eOK "ColumnVaultLaw" (153, 6, 234, 0, 7076) := ⟨_, rfl, (zt_in (j := 7) (k := 76) rfl rfl)⟩
set_option maxRecDepth 100000 in
theorem zt_e23_45 : zt_eOK "ColumnVaultLaw" (148, 4, 11, 0, 1230) := ⟨_, rfl, (zt_in (j := 1) (k := 230) rfl rfl)⟩
set_option maxRecDepth 100000 in
theorem zt_e23_44 : zt_eOK "ColumnVaultLaw" (147, 8, 214, 0, 6098) := ⟨_, rfl, (zt_in (j := 6) (k := 98) rfl rfl)⟩
set_option maxRecDepth 100000 in
theorem zt_e23_43 : zt_eOK "ColumnVaultLaw" (145, 2, 18, 999, 6096) := ⟨"ColumnVaultModel", (zt_in (j := 6) (k := 96) rfl rfl), Or.inr rfl, Or.inl rfl⟩
set_option maxRecDepth 100000 in
theorem zt_e23_42 : zt_eOK "ColumnVaultLaw" (144, 8, 1, 0, 1044) := ⟨_, rfl, (zt_in (j := 1) (k := 44) rfl rfl)⟩
set_option maxRecDepth 100000 in
theorem zt_e23_41 : zt_eOK "ColumnVaultLaw" (140, 6, 212, 0, 6088) := ⟨_, rfl, (zt_in (j := 6) (k := 88) rfl rfl)⟩
set_option maxRecDepth 100000 in
theorem zt_e23_40 : zt_eOK "ColumnVaultLaw" (136, 6, 210, 0, 6081) := ⟨_, rfl, (zt_in (j := 6) (k := 81) rfl rfl)⟩
set_option maxRecDepth 100000 in
theorem zt_e23_39 : zt_eOK "ColumnVaultLaw" (133, 6, 201, 0, 6028) := ⟨_, rfl, (zt_in (j := 6) (k := 28) rfl rfl)⟩
set_option maxRecDepth 100000 in
theorem zt_e23_38 : zt_eOK "ColumnVaultLaw" (130, 6, 193, 0, 5234) := ⟨_, rfl, (zt_in (j := 5) (k := 234) rfl rfl)⟩
set_option maxRecDepth 100000 in
theorem zt_e23_37 : zt_eOK "ColumnVaultLaw" (126, 6, 190, 0, 5221) := ⟨_, rfl, (zt_in (j := 5) (k := 221) rfl rfl)⟩
set_option maxRecDepth 100000 in
theorem zt_e23_36 : zt_eOK "ColumnVaultLaw" (122, 6, 188, 0, 5214) := ⟨_, rfl, (zt_in (j := 5) (k := 214) rfl rfl)⟩
set_option maxRecDepth 100000 in
theorem zt_e23_35 : zt_eOK "ColumnVaultLaw" (118, 6, 186, 0, 5207) := ⟨_, rfl, (zt_in (j := 5) (k := 207) rfl rfl)⟩
set_option maxRecDepth 100000 in
theorem zt_e23_34 : zt_eOK "ColumnVaultLaw" (115, 6, 184, 0, 5196) := ⟨_, rfl, (zt_in (j := 5) (k := 196) rfl rfl)⟩
set_option maxRecDepth 100000 in
theorem zt_e23_33 : zt_eOK "ColumnVaultLaw" (112, 6, 180, 0, 5181) := ⟨_, rfl, (zt_in (j := 5) (k := 181) rfl rfl)⟩
set_option maxRecDepth 100000 in
theorem zt_e23_32 : zt_eOK "ColumnVaultLaw" (109, 6, 178, 0, 5174) := ⟨_, rfl, (zt_in (j := 5) (k := 174) rfl rfl)⟩
set_option maxRecDepth 100000 in
theorem zt_e23_31 : zt_eOK "ColumnVaultLaw" (107, 2, 22, 999, 5136) := ⟨"java/util/NoSuchElementException", (zt_in (j := 5) (k := 136) rfl rfl), Or.inr rfl, Or.inl rfl⟩
set_option maxRecDepth 100000 in
theorem zt_e23_30 : zt_eOK "ColumnVaultLaw" (104, 6, 173, 0, 5137) := ⟨_, rfl, (zt_in (j := 5) (k := 137) rfl rfl)⟩
set_option maxRecDepth 100000 in
theorem zt_e23_29 : zt_eOK "ColumnVaultLaw" (100, 6, 165, 0, 5100) := ⟨_, rfl, (zt_in (j := 5) (k := 100) rfl rfl)⟩
set_option maxRecDepth 100000 in
theorem zt_e23_28 : zt_eOK "ColumnVaultLaw" (97, 6, 160, 0, 5077) := ⟨_, rfl, (zt_in (j := 5) (k := 77) rfl rfl)⟩
set_option maxRecDepth 100000 in
theorem zt_e23_27 : zt_eOK "ColumnVaultLaw" (93, 6, 149, 0, 5009) := ⟨_, rfl, (zt_in (j := 5) (k := 9) rfl rfl)⟩
set_option maxRecDepth 100000 in
theorem zt_e23_26 : zt_eOK "ColumnVaultLaw" (90, 6, 146, 0, 4237) := ⟨_, rfl, (zt_in (j := 4) (k := 237) rfl rfl)⟩
set_option maxRecDepth 100000 in
theorem zt_e23_25 : zt_eOK "ColumnVaultLaw" (87, 6, 140, 0, 4209) := ⟨_, rfl, (zt_in (j := 4) (k := 209) rfl rfl)⟩
set_option maxRecDepth 100000 in
theorem zt_e23_24 : zt_eOK "ColumnVaultLaw" (84, 6, 126, 0, 4146) := ⟨_, rfl, (zt_in (j := 4) (k := 146) rfl rfl)⟩
set_option maxRecDepth 100000 in
theorem zt_e23_23 : zt_eOK "ColumnVaultLaw" (80, 6, 121, 0, 4126) := ⟨_, rfl, (zt_in (j := 4) (k := 126) rfl rfl)⟩
set_option maxRecDepth 100000 in
theorem zt_e23_22 : zt_eOK "ColumnVaultLaw" (77, 6, 119, 0, 4119) := ⟨_, rfl, (zt_in (j := 4) (k := 119) rfl rfl)⟩
set_option maxRecDepth 100000 in
theorem zt_e23_21 : zt_eOK "ColumnVaultLaw" (74, 6, 117, 0, 4112) := ⟨_, rfl, (zt_in (j := 4) (k := 112) rfl rfl)⟩
set_option maxRecDepth 100000 in
theorem zt_e23_20 : zt_eOK "ColumnVaultLaw" (70, 6, 114, 0, 4102) := ⟨_, rfl, (zt_in (j := 4) (k := 102) rfl rfl)⟩
set_option maxRecDepth 100000 in
theorem zt_e23_19 : zt_eOK "ColumnVaultLaw" (67, 6, 112, 0, 4095) := ⟨_, rfl, (zt_in (j := 4) (k := 95) rfl rfl)⟩
set_option maxRecDepth 100000 in
theorem zt_e23_18 : zt_eOK "ColumnVaultLaw" (64, 6, 110, 0, 4087) := ⟨_, rfl, (zt_in (j := 4) (k := 87) rfl rfl)⟩
set_option maxRecDepth 100000 in
theorem zt_e23_17 : zt_eOK "ColumnVaultLaw" (61, 6, 74, 0, 3108) := ⟨_, rfl, (zt_in (j := 3) (k := 108) rfl rfl)⟩
set_option maxRecDepth 100000 in
theorem zt_e23_16 : zt_eOK "ColumnVaultLaw" (57, 6, 71, 0, 3098) := ⟨_, rfl, (zt_in (j := 3) (k := 98) rfl rfl)⟩
set_option maxRecDepth 100000 in
theorem zt_e23_15 : zt_eOK "ColumnVaultLaw" (54, 6, 68, 0, 3087) := ⟨_, rfl, (zt_in (j := 3) (k := 87) rfl rfl)⟩
set_option maxRecDepth 100000 in
theorem zt_e23_14 : zt_eOK "ColumnVaultLaw" (51, 6, 65, 0, 3075) := ⟨_, rfl, (zt_in (j := 3) (k := 75) rfl rfl)⟩
set_option maxRecDepth 100000 in
theorem zt_e23_13 : zt_eOK "ColumnVaultLaw" (47, 6, 59, 0, 3053) := ⟨_, rfl, (zt_in (j := 3) (k := 53) rfl rfl)⟩
set_option maxRecDepth 100000 in
theorem zt_e23_12 : zt_eOK "ColumnVaultLaw" (44, 6, 56, 0, 3041) := ⟨_, rfl, (zt_in (j := 3) (k := 41) rfl rfl)⟩
set_option maxRecDepth 100000 in
theorem zt_e23_11 : zt_eOK "ColumnVaultLaw" (41, 6, 54, 0, 3034) := ⟨_, rfl, (zt_in (j := 3) (k := 34) rfl rfl)⟩
set_option maxRecDepth 100000 in
theorem zt_e23_10 : zt_eOK "ColumnVaultLaw" (38, 6, 48, 0, 3007) := ⟨_, rfl, (zt_in (j := 3) (k := 7) rfl rfl)⟩
set_option maxRecDepth 100000 in
theorem zt_e23_9 : zt_eOK "ColumnVaultLaw" (34, 6, 44, 0, 2232) := ⟨_, rfl, (zt_in (j := 2) (k := 232) rfl rfl)⟩
set_option maxRecDepth 100000 in
theorem zt_e23_8 : zt_eOK "ColumnVaultLaw" (31, 6, 40, 0, 2215) := ⟨_, rfl, (zt_in (j := 2) (k := 215) rfl rfl)⟩
set_option maxRecDepth 100000 in
theorem zt_e23_7 : zt_eOK "ColumnVaultLaw" (27, 6, 32, 0, 2184) := ⟨_, rfl, (zt_in (j := 2) (k := 184) rfl rfl)⟩
set_option maxRecDepth 100000 in
theorem zt_e23_6 : zt_eOK "ColumnVaultLaw" (23, 6, 26, 0, 2157) := ⟨_, rfl, (zt_in (j := 2) (k := 157) rfl rfl)⟩
set_option maxRecDepth 100000 in
theorem zt_e23_5 : zt_eOK "ColumnVaultLaw" (19, 6, 23, 0, 2145) := ⟨_, rfl, (zt_in (j := 2) (k := 145) rfl rfl)⟩
set_option maxRecDepth 100000 in
theorem zt_e23_4 : zt_eOK "ColumnVaultLaw" (17, 2, 21, 999, 1235) := ⟨"java/lang/IllegalStateException", (zt_in (j := 1) (k := 235) rfl rfl), Or.inr rfl, Or.inl rfl⟩
set_option maxRecDepth 100000 in
theorem zt_e23_3 : zt_eOK "ColumnVaultLaw" (15, 2, 20, 999, 1234) := ⟨"java/lang/IllegalArgumentException", (zt_in (j := 1) (k := 234) rfl rfl), Or.inr rfl, Or.inl rfl⟩
set_option maxRecDepth 100000 in
theorem zt_e23_2 : zt_eOK "ColumnVaultLaw" (13, 2, 19, 999, 1233) := ⟨"java/lang/IndexOutOfBoundsException", (zt_in (j := 1) (k := 233) rfl rfl), Or.inr rfl, Or.inl rfl⟩
set_option maxRecDepth 100000 in
theorem zt_e23_1 : zt_eOK "ColumnVaultLaw" (8, 2, 15, 999, 1042) := ⟨"ColumnVault", (zt_in (j := 1) (k := 42) rfl rfl), Or.inr rfl, Or.inl rfl⟩
set_option maxRecDepth 100000 in
theorem zt_e23_0 : zt_eOK "ColumnVaultLaw" (7, 6, 12, 0, 1236) := ⟨_, rfl, (zt_in (j := 1) (k := 236) rfl rfl)⟩
theorem zt_pl23_ok : ∀ e ∈ zt_pl23, zt_eOK "ColumnVaultLaw" e := List.forall_mem_cons.mpr ⟨zt_e23_0, List.forall_mem_cons.mpr ⟨zt_e23_1, List.forall_mem_cons.mpr ⟨zt_e23_2, List.forall_mem_cons.mpr ⟨zt_e23_3, List.forall_mem_cons.mpr ⟨zt_e23_4, List.forall_mem_cons.mpr ⟨zt_e23_5, List.forall_mem_cons.mpr ⟨zt_e23_6, List.forall_mem_cons.mpr ⟨zt_e23_7, List.forall_mem_cons.mpr ⟨zt_e23_8, List.forall_mem_cons.mpr ⟨zt_e23_9, List.forall_mem_cons.mpr ⟨zt_e23_10, List.forall_mem_cons.mpr ⟨zt_e23_11, List.forall_mem_cons.mpr ⟨zt_e23_12, List.forall_mem_cons.mpr ⟨zt_e23_13, List.forall_mem_cons.mpr ⟨zt_e23_14, List.forall_mem_cons.mpr ⟨zt_e23_15, List.forall_mem_cons.mpr ⟨zt_e23_16, List.forall_mem_cons.mpr ⟨zt_e23_17, List.forall_mem_cons.mpr ⟨zt_e23_18, List.forall_mem_cons.mpr ⟨zt_e23_19, List.forall_mem_cons.mpr ⟨zt_e23_20, List.forall_mem_cons.mpr ⟨zt_e23_21, List.forall_mem_cons.mpr ⟨zt_e23_22, List.forall_mem_cons.mpr ⟨zt_e23_23, List.forall_mem_cons.mpr ⟨zt_e23_24, List.forall_mem_cons.mpr ⟨zt_e23_25, List.forall_mem_cons.mpr ⟨zt_e23_26, List.forall_mem_cons.mpr ⟨zt_e23_27, List.forall_mem_cons.mpr ⟨zt_e23_28, List.forall_mem_cons.mpr ⟨zt_e23_29, List.forall_mem_cons.mpr ⟨zt_e23_30, List.forall_mem_cons.mpr ⟨zt_e23_31, List.forall_mem_cons.mpr ⟨zt_e23_32, List.forall_mem_cons.mpr ⟨zt_e23_33, List.forall_mem_cons.mpr ⟨zt_e23_34, List.forall_mem_cons.mpr ⟨zt_e23_35, List.forall_mem_cons.mpr ⟨zt_e23_36, List.forall_mem_cons.mpr ⟨zt_e23_37, List.forall_mem_cons.mpr ⟨zt_e23_38, List.forall_mem_cons.mpr ⟨zt_e23_39, List.forall_mem_cons.mpr ⟨zt_e23_40, List.forall_mem_cons.mpr ⟨zt_e23_41, List.forall_mem_cons.mpr ⟨zt_e23_42, List.forall_mem_cons.mpr ⟨zt_e23_43, List.forall_mem_cons.mpr ⟨zt_e23_44, List.forall_mem_cons.mpr ⟨zt_e23_45, List.forall_mem_cons.mpr ⟨zt_e23_46, List.forall_mem_cons.mpr ⟨zt_e23_47, List.forall_mem_cons.mpr ⟨zt_e23_48, List.forall_mem_cons.mpr ⟨zt_e23_49, List.forall_mem_cons.mpr ⟨zt_e23_50, List.forall_mem_cons.mpr ⟨zt_e23_51, List.forall_mem_cons.mpr ⟨zt_e23_52, List.forall_mem_cons.mpr ⟨zt_e23_53, List.forall_mem_cons.mpr ⟨zt_e23_54, List.forall_mem_cons.mpr ⟨zt_e23_55, List.forall_mem_cons.mpr ⟨zt_e23_56, List.forall_mem_cons.mpr ⟨zt_e23_57, List.forall_mem_cons.mpr ⟨zt_e23_58, List.forall_mem_cons.mpr ⟨zt_e23_59, List.forall_mem_cons.mpr ⟨zt_e23_60, List.forall_mem_cons.mpr ⟨zt_e23_61, List.forall_mem_cons.mpr ⟨zt_e23_62, List.forall_mem_cons.mpr ⟨zt_e23_63, List.forall_mem_cons.mpr ⟨zt_e23_64, List.forall_mem_cons.mpr ⟨zt_e23_65, List.forall_mem_cons.mpr ⟨zt_e23_66, List.forall_mem_cons.mpr ⟨zt_e23_67, List.forall_mem_cons.mpr ⟨zt_e23_68, List.forall_mem_cons.mpr ⟨zt_e23_69, List.forall_mem_cons.mpr ⟨zt_e23_70, List.forall_mem_cons.mpr ⟨zt_e23_71, List.forall_mem_cons.mpr ⟨zt_e23_72, List.forall_mem_cons.mpr ⟨zt_e23_73, List.forall_mem_cons.mpr ⟨zt_e23_74, List.forall_mem_cons.mpr ⟨zt_e23_75, List.forall_mem_cons.mpr ⟨zt_e23_76, List.forall_mem_cons.mpr ⟨zt_e23_77, List.forall_mem_cons.mpr ⟨zt_e23_78, List.forall_mem_cons.mpr ⟨zt_e23_79, List.forall_mem_cons.mpr ⟨zt_e23_80, List.forall_mem_cons.mpr ⟨zt_e23_81, List.forall_mem_cons.mpr ⟨zt_e23_82, List.forall_mem_cons.mpr ⟨zt_e23_83, List.forall_mem_cons.mpr ⟨zt_e23_84, List.forall_mem_cons.mpr ⟨zt_e23_85, List.forall_mem_cons.mpr ⟨zt_e23_86, List.forall_mem_cons.mpr ⟨zt_e23_87, List.forall_mem_cons.mpr ⟨zt_e23_88, List.forall_mem_cons.mpr ⟨zt_e23_89, List.forall_mem_cons.mpr ⟨zt_e23_90, List.forall_mem_cons.mpr ⟨zt_e23_91, List.forall_mem_cons.mpr ⟨zt_e23_92, List.forall_mem_cons.mpr ⟨zt_e23_93, List.forall_mem_cons.mpr ⟨zt_e23_94, List.forall_mem_cons.mpr ⟨zt_e23_95, List.forall_mem_cons.mpr ⟨zt_e23_96, List.forall_mem_cons.mpr ⟨zt_e23_97, List.forall_mem_cons.mpr ⟨zt_e23_98, List.forall_mem_cons.mpr ⟨zt_e23_99, List.forall_mem_cons.mpr ⟨zt_e23_100, List.forall_mem_cons.mpr ⟨zt_e23_101, List.forall_mem_cons.mpr ⟨zt_e23_102, List.forall_mem_cons.mpr ⟨zt_e23_103, List.forall_mem_cons.mpr ⟨zt_e23_104, List.forall_mem_cons.mpr ⟨zt_e23_105, List.forall_mem_cons.mpr ⟨zt_e23_106, List.forall_mem_cons.mpr ⟨zt_e23_107, List.forall_mem_cons.mpr ⟨zt_e23_108, List.forall_mem_cons.mpr ⟨zt_e23_109, List.forall_mem_cons.mpr ⟨zt_e23_110, List.forall_mem_cons.mpr ⟨zt_e23_111, List.forall_mem_cons.mpr ⟨zt_e23_112, List.forall_mem_cons.mpr ⟨zt_e23_113, List.forall_mem_cons.mpr ⟨zt_e23_114, List.forall_mem_cons.mpr ⟨zt_e23_115, List.forall_mem_cons.mpr ⟨zt_e23_116, List.forall_mem_cons.mpr ⟨zt_e23_117, List.forall_mem_cons.mpr ⟨zt_e23_118, List.forall_mem_cons.mpr ⟨zt_e23_119, List.forall_mem_cons.mpr ⟨zt_e23_120, List.forall_mem_cons.mpr ⟨zt_e23_121, List.forall_mem_cons.mpr ⟨zt_e23_122, List.forall_mem_cons.mpr ⟨zt_e23_123, fun _ h => absurd h List.not_mem_nil⟩⟩⟩⟩⟩⟩⟩⟩⟩⟩⟩⟩⟩⟩⟩⟩⟩⟩⟩⟩⟩⟩⟩⟩⟩⟩⟩⟩⟩⟩⟩⟩⟩⟩⟩⟩⟩⟩⟩⟩⟩⟩⟩⟩⟩⟩⟩⟩⟩⟩⟩⟩⟩⟩⟩⟩⟩⟩⟩⟩⟩⟩⟩⟩⟩⟩⟩⟩⟩⟩⟩⟩⟩⟩⟩⟩⟩⟩⟩⟩⟩⟩⟩⟩⟩⟩⟩⟩⟩⟩⟩⟩⟩⟩⟩⟩⟩⟩⟩⟩⟩⟩⟩⟩⟩⟩⟩⟩⟩⟩⟩⟩⟩⟩⟩⟩⟩⟩⟩⟩⟩⟩⟩⟩
set_option maxRecDepth 100000 in
theorem zt_lc23_ok : ∀ e ∈ zt_lc23, Cond.constantLong "ColumnVaultLaw" e.1 e.2.1 ∈ zt_good := List.forall_mem_cons.mpr ⟨(zt_in (j := 10) (k := 160) rfl rfl), fun _ h => absurd h List.not_mem_nil⟩
theorem zt_pl24_ok : ∀ e ∈ zt_pl24, zt_eOK "java/lang/Math" e := fun _ h => absurd h List.not_mem_nil
set_option maxRecDepth 100000 in
theorem zt_lc24_ok : ∀ e ∈ zt_lc24, Cond.constantLong "java/lang/Math" e.1 e.2.1 ∈ zt_good := fun _ h => absurd h List.not_mem_nil
set_option maxRecDepth 100000 in
theorem zt_e25_1 : zt_eOK "java/lang/StringLatin1" (240, 4, 347, 0, 9189) := ⟨_, rfl, (zt_in (j := 9) (k := 189) rfl rfl)⟩
set_option maxRecDepth 100000 in
theorem zt_e25_0 : zt_eOK "java/lang/StringLatin1" (9, 4, 133, 0, 4176) := ⟨_, rfl, (zt_in (j := 4) (k := 176) rfl rfl)⟩
theorem zt_pl25_ok : ∀ e ∈ zt_pl25, zt_eOK "java/lang/StringLatin1" e := List.forall_mem_cons.mpr ⟨zt_e25_0, List.forall_mem_cons.mpr ⟨zt_e25_1, fun _ h => absurd h List.not_mem_nil⟩⟩
set_option maxRecDepth 100000 in
theorem zt_lc25_ok : ∀ e ∈ zt_lc25, Cond.constantLong "java/lang/StringLatin1" e.1 e.2.1 ∈ zt_good := fun _ h => absurd h List.not_mem_nil
theorem zt_pl26_ok : ∀ e ∈ zt_pl26, zt_eOK "jdk/internal/util/Preconditions" e := fun _ h => absurd h List.not_mem_nil
set_option maxRecDepth 100000 in
theorem zt_lc26_ok : ∀ e ∈ zt_lc26, Cond.constantLong "jdk/internal/util/Preconditions" e.1 e.2.1 ∈ zt_good := fun _ h => absurd h List.not_mem_nil
set_option maxRecDepth 100000 in
theorem zt_e27_12 : zt_eOK "java/lang/StringUTF16" (419, 4, 349, 0, 9195) := ⟨_, rfl, (zt_in (j := 9) (k := 195) rfl rfl)⟩
set_option maxRecDepth 100000 in
theorem zt_e27_11 : zt_eOK "java/lang/StringUTF16" (414, 4, 133, 0, 4193) := ⟨_, rfl, (zt_in (j := 4) (k := 193) rfl rfl)⟩
set_option maxRecDepth 100000 in
theorem zt_e27_10 : zt_eOK "java/lang/StringUTF16" (393, 4, 357, 0, 9227) := ⟨_, rfl, (zt_in (j := 9) (k := 227) rfl rfl)⟩
set_option maxRecDepth 100000 in
theorem zt_e27_9 : zt_eOK "java/lang/StringUTF16" (241, 4, 340, 0, 9163) := ⟨_, rfl, (zt_in (j := 9) (k := 163) rfl rfl)⟩
set_option maxRecDepth 100000 in
theorem zt_e27_8 : zt_eOK "java/lang/StringUTF16" (173, 4, 348, 0, 9192) := ⟨_, rfl, (zt_in (j := 9) (k := 192) rfl rfl)⟩
set_option maxRecDepth 100000 in
theorem zt_e27_7 : zt_eOK "java/lang/StringUTF16" (126, 4, 364, 0, 10043) := ⟨_, rfl, (zt_in (j := 10) (k := 43) rfl rfl)⟩
set_option maxRecDepth 100000 in
theorem zt_e27_6 : zt_eOK "java/lang/StringUTF16" (123, 4, 368, 0, 10040) := ⟨_, rfl, (zt_in (j := 10) (k := 40) rfl rfl)⟩
set_option maxRecDepth 100000 in
theorem zt_e27_5 : zt_eOK "java/lang/StringUTF16" (111, 4, 342, 0, 9169) := ⟨_, rfl, (zt_in (j := 9) (k := 169) rfl rfl)⟩
set_option maxRecDepth 100000 in
theorem zt_e27_4 : zt_eOK "java/lang/StringUTF16" (96, 4, 339, 0, 9160) := ⟨_, rfl, (zt_in (j := 9) (k := 160) rfl rfl)⟩
set_option maxRecDepth 100000 in
theorem zt_e27_3 : zt_eOK "java/lang/StringUTF16" (71, 4, 138, 0, 4194) := ⟨_, rfl, (zt_in (j := 4) (k := 194) rfl rfl)⟩
set_option maxRecDepth 100000 in
theorem zt_e27_2 : zt_eOK "java/lang/StringUTF16" (67, 4, 136, 0, 4187) := ⟨_, rfl, (zt_in (j := 4) (k := 187) rfl rfl)⟩
set_option maxRecDepth 100000 in
theorem zt_e27_1 : zt_eOK "java/lang/StringUTF16" (48, 4, 137, 0, 4190) := ⟨_, rfl, (zt_in (j := 4) (k := 190) rfl rfl)⟩
set_option maxRecDepth 100000 in
theorem zt_e27_0 : zt_eOK "java/lang/StringUTF16" (11, 4, 330, 0, 9103) := ⟨_, rfl, (zt_in (j := 9) (k := 103) rfl rfl)⟩
theorem zt_pl27_ok : ∀ e ∈ zt_pl27, zt_eOK "java/lang/StringUTF16" e := List.forall_mem_cons.mpr ⟨zt_e27_0, List.forall_mem_cons.mpr ⟨zt_e27_1, List.forall_mem_cons.mpr ⟨zt_e27_2, List.forall_mem_cons.mpr ⟨zt_e27_3, List.forall_mem_cons.mpr ⟨zt_e27_4, List.forall_mem_cons.mpr ⟨zt_e27_5, List.forall_mem_cons.mpr ⟨zt_e27_6, List.forall_mem_cons.mpr ⟨zt_e27_7, List.forall_mem_cons.mpr ⟨zt_e27_8, List.forall_mem_cons.mpr ⟨zt_e27_9, List.forall_mem_cons.mpr ⟨zt_e27_10, List.forall_mem_cons.mpr ⟨zt_e27_11, List.forall_mem_cons.mpr ⟨zt_e27_12, fun _ h => absurd h List.not_mem_nil⟩⟩⟩⟩⟩⟩⟩⟩⟩⟩⟩⟩⟩
set_option maxRecDepth 100000 in
theorem zt_lc27_ok : ∀ e ∈ zt_lc27, Cond.constantLong "java/lang/StringUTF16" e.1 e.2.1 ∈ zt_good := fun _ h => absurd h List.not_mem_nil
set_option maxRecDepth 100000 in
theorem zt_e28_1 : zt_eOK "java/util/AbstractList" (7, 0, 4, 0, 6125) := ⟨_, "java/util/AbstractList", rfl, by decide, (zt_in (j := 6) (k := 125) rfl rfl), Or.inl rfl⟩
set_option maxRecDepth 100000 in
theorem zt_e28_0 : zt_eOK "java/util/AbstractList" (1, 8, 218, 0, 6117) := ⟨_, rfl, (zt_in (j := 6) (k := 117) rfl rfl)⟩
theorem zt_pl28_ok : ∀ e ∈ zt_pl28, zt_eOK "java/util/AbstractList" e := List.forall_mem_cons.mpr ⟨zt_e28_0, List.forall_mem_cons.mpr ⟨zt_e28_1, fun _ h => absurd h List.not_mem_nil⟩⟩
set_option maxRecDepth 100000 in
theorem zt_lc28_ok : ∀ e ∈ zt_lc28, Cond.constantLong "java/util/AbstractList" e.1 e.2.1 ∈ zt_good := fun _ h => absurd h List.not_mem_nil
set_option maxRecDepth 100000 in
theorem zt_e29_0 : zt_eOK "java/util/AbstractCollection" (1, 10, 0, 0, 6120) := (zt_in (j := 6) (k := 120) rfl rfl)
theorem zt_pl29_ok : ∀ e ∈ zt_pl29, zt_eOK "java/util/AbstractCollection" e := List.forall_mem_cons.mpr ⟨zt_e29_0, fun _ h => absurd h List.not_mem_nil⟩
set_option maxRecDepth 100000 in
theorem zt_lc29_ok : ∀ e ∈ zt_lc29, Cond.constantLong "java/util/AbstractCollection" e.1 e.2.1 ∈ zt_good := fun _ h => absurd h List.not_mem_nil
set_option maxRecDepth 100000 in
theorem zt_e30_0 : zt_eOK "java/util/Objects" (105, 4, 134, 0, 6185) := ⟨_, rfl, (zt_in (j := 6) (k := 185) rfl rfl)⟩
theorem zt_pl30_ok : ∀ e ∈ zt_pl30, zt_eOK "java/util/Objects" e := List.forall_mem_cons.mpr ⟨zt_e30_0, fun _ h => absurd h List.not_mem_nil⟩
set_option maxRecDepth 100000 in
theorem zt_lc30_ok : ∀ e ∈ zt_lc30, Cond.constantLong "java/util/Objects" e.1 e.2.1 ∈ zt_good := fun _ h => absurd h List.not_mem_nil
set_option maxRecDepth 100000 in
theorem zt_e31_1 : zt_eOK "jdk/internal/util/ArraysSupport" (201, 4, 230, 0, 6217) := ⟨_, rfl, (zt_in (j := 6) (k := 217) rfl rfl)⟩
set_option maxRecDepth 100000 in
theorem zt_e31_0 : zt_eOK "jdk/internal/util/ArraysSupport" (194, 16, 0, 0, 6215) := Or.inl ⟨rfl, (zt_in (j := 6) (k := 215) rfl rfl), (zt_in (j := 3) (k := 193) rfl rfl), (zt_in (j := 1) (k := 17) rfl rfl), (zt_in (j := 3) (k := 194) rfl rfl)⟩
theorem zt_pl31_ok : ∀ e ∈ zt_pl31, zt_eOK "jdk/internal/util/ArraysSupport" e := List.forall_mem_cons.mpr ⟨zt_e31_0, List.forall_mem_cons.mpr ⟨zt_e31_1, fun _ h => absurd h List.not_mem_nil⟩⟩
set_option maxRecDepth 100000 in
theorem zt_lc31_ok : ∀ e ∈ zt_lc31, Cond.constantLong "jdk/internal/util/ArraysSupport" e.1 e.2.1 ∈ zt_good := fun _ h => absurd h List.not_mem_nil
set_option maxRecDepth 100000 in
theorem zt_e32_14 : zt_eOK "java/util/Arrays" (343, 4, 366, 0, 10026) := ⟨_, rfl, (zt_in (j := 10) (k := 26) rfl rfl)⟩
set_option maxRecDepth 100000 in
theorem zt_e32_13 : zt_eOK "java/util/Arrays" (339, 4, 365, 0, 10023) := ⟨_, rfl, (zt_in (j := 10) (k := 23) rfl rfl)⟩
set_option maxRecDepth 100000 in
theorem zt_e32_12 : zt_eOK "java/util/Arrays" (337, 13, 0, 0, 10033) := ⟨" > ", zt_ch_in (j := 10) (List.mem_of_getElem? (i := 33) rfl), fun h => absurd h (by decide)⟩
set_option maxRecDepth 100000 in
theorem zt_e32_11 : zt_eOK "java/util/Arrays" (311, 18, 3, 0, 9151) := ⟨"[B", _, (zt_in (j := 9) (k := 151) rfl rfl), rfl, by decide +kernel⟩
set_option maxRecDepth 100000 in
theorem zt_e32_10 : zt_eOK "java/util/Arrays" (304, 16, 0, 1, 7017) := Or.inr (Or.inl ⟨rfl, (zt_in (j := 7) (k := 17) rfl rfl), (zt_in (j := 7) (k := 18) rfl rfl), (zt_in (j := 1) (k := 17) rfl rfl), (zt_in (j := 7) (k := 19) rfl rfl)⟩)
set_option maxRecDepth 100000 in
theorem zt_e32_9 : zt_eOK "java/util/Arrays" (300, 4, 232, 0, 7011) := ⟨_, rfl, (zt_in (j := 7) (k := 11) rfl rfl)⟩
set_option maxRecDepth 100000 in
theorem zt_e32_8 : zt_eOK "java/util/Arrays" (150, 17, 0, 0, 7020) := (zt_in (j := 7) (k := 20) rfl rfl)
set_option maxRecDepth 100000 in
theorem zt_e32_7 : zt_eOK "java/util/Arrays" (110, 18, 5, 0, 7014) := ⟨"[Ljava/lang/Object;", _, (zt_in (j := 7) (k := 14) rfl rfl), rfl, by decide +kernel⟩
set_option maxRecDepth 100000 in
theorem zt_e32_6 : zt_eOK "java/util/Arrays" (61, 6, 358, 0, 10035) := ⟨_, rfl, (zt_in (j := 10) (k := 35) rfl rfl)⟩
set_option maxRecDepth 100000 in
theorem zt_e32_5 : zt_eOK "java/util/Arrays" (54, 6, 352, 0, 10032) := ⟨_, rfl, (zt_in (j := 10) (k := 32) rfl rfl)⟩
set_option maxRecDepth 100000 in
theorem zt_e32_4 : zt_eOK "java/util/Arrays" (50, 6, 331, 0, 10034) := ⟨_, rfl, (zt_in (j := 10) (k := 34) rfl rfl)⟩
set_option maxRecDepth 100000 in
theorem zt_e32_3 : zt_eOK "java/util/Arrays" (47, 8, 327, 0, 10031) := ⟨_, rfl, (zt_in (j := 10) (k := 31) rfl rfl)⟩
set_option maxRecDepth 100000 in
theorem zt_e32_2 : zt_eOK "java/util/Arrays" (45, 2, 1, 999, 10030) := ⟨"java/lang/StringBuilder", (zt_in (j := 10) (k := 30) rfl rfl), Or.inr rfl, Or.inl rfl⟩
set_option maxRecDepth 100000 in
theorem zt_e32_1 : zt_eOK "java/util/Arrays" (43, 2, 20, 999, 10029) := ⟨"java/lang/IllegalArgumentException", (zt_in (j := 10) (k := 29) rfl rfl), Or.inr rfl, Or.inl rfl⟩
set_option maxRecDepth 100000 in
theorem zt_e32_0 : zt_eOK "java/util/Arrays" (2, 2, 999, 5, 7016) := ⟨"java/lang/Object", (zt_in (j := 7) (k := 16) rfl rfl), Or.inl rfl, Or.inr rfl⟩
theorem zt_pl32_ok : ∀ e ∈ zt_pl32, zt_eOK "java/util/Arrays" e := List.forall_mem_cons.mpr ⟨zt_e32_0, List.forall_mem_cons.mpr ⟨zt_e32_1, List.forall_mem_cons.mpr ⟨zt_e32_2, List.forall_mem_cons.mpr ⟨zt_e32_3, List.forall_mem_cons.mpr ⟨zt_e32_4, List.forall_mem_cons.mpr ⟨zt_e32_5, List.forall_mem_cons.mpr ⟨zt_e32_6, List.forall_mem_cons.mpr ⟨zt_e32_7, List.forall_mem_cons.mpr ⟨zt_e32_8, List.forall_mem_cons.mpr ⟨zt_e32_9, List.forall_mem_cons.mpr ⟨zt_e32_10, List.forall_mem_cons.mpr ⟨zt_e32_11, List.forall_mem_cons.mpr ⟨zt_e32_12, List.forall_mem_cons.mpr ⟨zt_e32_13, List.forall_mem_cons.mpr ⟨zt_e32_14, fun _ h => absurd h List.not_mem_nil⟩⟩⟩⟩⟩⟩⟩⟩⟩⟩⟩⟩⟩⟩⟩
set_option maxRecDepth 100000 in
theorem zt_lc32_ok : ∀ e ∈ zt_lc32, Cond.constantLong "java/util/Arrays" e.1 e.2.1 ∈ zt_good := fun _ h => absurd h List.not_mem_nil
set_option maxRecDepth 100000 in
theorem zt_e33_0 : zt_eOK "java/lang/Number" (1, 10, 0, 0, 7110) := (zt_in (j := 7) (k := 110) rfl rfl)
theorem zt_pl33_ok : ∀ e ∈ zt_pl33, zt_eOK "java/lang/Number" e := List.forall_mem_cons.mpr ⟨zt_e33_0, fun _ h => absurd h List.not_mem_nil⟩
set_option maxRecDepth 100000 in
theorem zt_lc33_ok : ∀ e ∈ zt_lc33, Cond.constantLong "java/lang/Number" e.1 e.2.1 ∈ zt_good := fun _ h => absurd h List.not_mem_nil
set_option maxRecDepth 100000 in
theorem zt_e34_1 : zt_eOK "java/lang/Boolean" (31, 14, 2, 0, 7155) := ⟨_, rfl, (zt_in (j := 7) (k := 155) rfl rfl)⟩
set_option maxRecDepth 100000 in
theorem zt_e34_0 : zt_eOK "java/lang/Boolean" (27, 14, 1, 0, 7153) := ⟨_, rfl, (zt_in (j := 7) (k := 153) rfl rfl)⟩
theorem zt_pl34_ok : ∀ e ∈ zt_pl34, zt_eOK "java/lang/Boolean" e := List.forall_mem_cons.mpr ⟨zt_e34_0, List.forall_mem_cons.mpr ⟨zt_e34_1, fun _ h => absurd h List.not_mem_nil⟩⟩
set_option maxRecDepth 100000 in
theorem zt_lc34_ok : ∀ e ∈ zt_lc34, Cond.constantLong "java/lang/Boolean" e.1 e.2.1 ∈ zt_good := fun _ h => absurd h List.not_mem_nil
set_option maxRecDepth 100000 in
theorem zt_e35_15 : zt_eOK "java/lang/AbstractStringBuilder" (399, 6, 351, 0, 9201) := ⟨_, rfl, (zt_in (j := 9) (k := 201) rfl rfl)⟩
set_option maxRecDepth 100000 in
theorem zt_e35_14 : zt_eOK "java/lang/AbstractStringBuilder" (251, 4, 356, 0, 9224) := ⟨_, rfl, (zt_in (j := 9) (k := 224) rfl rfl)⟩
set_option maxRecDepth 100000 in
theorem zt_e35_13 : zt_eOK "java/lang/AbstractStringBuilder" (248, 4, 355, 0, 9217) := ⟨_, rfl, (zt_in (j := 9) (k := 217) rfl rfl)⟩
set_option maxRecDepth 100000 in
theorem zt_e35_12 : zt_eOK "java/lang/AbstractStringBuilder" (245, 4, 354, 0, 9214) := ⟨_, rfl, (zt_in (j := 9) (k := 214) rfl rfl)⟩
set_option maxRecDepth 100000 in
theorem zt_e35_11 : zt_eOK "java/lang/AbstractStringBuilder" (226, 4, 338, 0, 9157) := ⟨_, rfl, (zt_in (j := 9) (k := 157) rfl rfl)⟩
set_option maxRecDepth 100000 in
theorem zt_e35_10 : zt_eOK "java/lang/AbstractStringBuilder" (125, 4, 346, 0, 9186) := ⟨_, rfl, (zt_in (j := 9) (k := 186) rfl rfl)⟩
set_option maxRecDepth 100000 in
theorem zt_e35_9 : zt_eOK "java/lang/AbstractStringBuilder" (114, 4, 229, 0, 9140) := ⟨_, rfl, (zt_in (j := 9) (k := 140) rfl rfl)⟩
set_option maxRecDepth 100000 in
theorem zt_e35_8 : zt_eOK "java/lang/AbstractStringBuilder" (108, 4, 336, 0, 9142) := ⟨_, rfl, (zt_in (j := 9) (k := 142) rfl rfl)⟩
set_option maxRecDepth 100000 in
theorem zt_e35_7 : zt_eOK "java/lang/AbstractStringBuilder" (79, 0, 1, 3, 9110) := ⟨_, "java/lang/AbstractStringBuilder", rfl, by decide, (zt_in (j := 9) (k := 110) rfl rfl), Or.inl rfl⟩
set_option maxRecDepth 100000 in
theorem zt_e35_6 : zt_eOK "java/lang/AbstractStringBuilder" (40, 6, 129, 0, 9181) := ⟨_, rfl, (zt_in (j := 9) (k := 181) rfl rfl)⟩
set_option maxRecDepth 100000 in
theorem zt_e35_5 : zt_eOK "java/lang/AbstractStringBuilder" (32, 6, 128, 0, 9172) := ⟨_, rfl, (zt_in (j := 9) (k := 172) rfl rfl)⟩
set_option maxRecDepth 100000 in
theorem zt_e35_4 : zt_eOK "java/lang/AbstractStringBuilder" (26, 4, 329, 0, 9100) := ⟨_, rfl, (zt_in (j := 9) (k := 100) rfl rfl)⟩
set_option maxRecDepth 100000 in
theorem zt_e35_3 : zt_eOK "java/lang/AbstractStringBuilder" (22, 0, 1, 1, 9108) := ⟨_, "java/lang/AbstractStringBuilder", rfl, by decide, (zt_in (j := 9) (k := 108) rfl rfl), Or.inl rfl⟩
set_option maxRecDepth 100000 in
theorem zt_e35_2 : zt_eOK "java/lang/AbstractStringBuilder" (18, 14, 6, 0, 9099) := ⟨_, rfl, (zt_in (j := 9) (k := 99) rfl rfl)⟩
set_option maxRecDepth 100000 in
theorem zt_e35_1 : zt_eOK "java/lang/AbstractStringBuilder" (15, 0, 1, 0, 9107) := ⟨_, "java/lang/AbstractStringBuilder", rfl, by decide, (zt_in (j := 9) (k := 107) rfl rfl), Or.inl rfl⟩
set_option maxRecDepth 100000 in
theorem zt_e35_0 : zt_eOK "java/lang/AbstractStringBuilder" (3, 10, 0, 0, 9098) := (zt_in (j := 9) (k := 98) rfl rfl)
theorem zt_pl35_ok : ∀ e ∈ zt_pl35, zt_eOK "java/lang/AbstractStringBuilder" e := List.forall_mem_cons.mpr ⟨zt_e35_0, List.forall_mem_cons.mpr ⟨zt_e35_1, List.forall_mem_cons.mpr ⟨zt_e35_2, List.forall_mem_cons.mpr ⟨zt_e35_3, List.forall_mem_cons.mpr ⟨zt_e35_4, List.forall_mem_cons.mpr ⟨zt_e35_5, List.forall_mem_cons.mpr ⟨zt_e35_6, List.forall_mem_cons.mpr ⟨zt_e35_7, List.forall_mem_cons.mpr ⟨zt_e35_8, List.forall_mem_cons.mpr ⟨zt_e35_9, List.forall_mem_cons.mpr ⟨zt_e35_10, List.forall_mem_cons.mpr ⟨zt_e35_11, List.forall_mem_cons.mpr ⟨zt_e35_12, List.forall_mem_cons.mpr ⟨zt_e35_13, List.forall_mem_cons.mpr ⟨zt_e35_14, List.forall_mem_cons.mpr ⟨zt_e35_15, fun _ h => absurd h List.not_mem_nil⟩⟩⟩⟩⟩⟩⟩⟩⟩⟩⟩⟩⟩⟩⟩⟩
set_option maxRecDepth 100000 in
theorem zt_lc35_ok : ∀ e ∈ zt_lc35, Cond.constantLong "java/lang/AbstractStringBuilder" e.1 e.2.1 ∈ zt_good := fun _ h => absurd h List.not_mem_nil
/-- what a call through List stands on -/
def zt_iOK (e : MethodName × Nat) : Prop := ∃ (y : MethodName) (cc : ByteArray) (nL : Nat) (ret : Option FieldType) (oc np hsel : Nat), zt_m[e.2]? = some (y, cc, nL, ret, [], oc, np, 0, 0, hsel, 0) ∧ 0 < e.2 ∧ y.cls = "java/util/ArrayList" ∧ Cond.selects "java/util/ArrayList" e.1 y ∈ zt_good ∧ Cond.declares e.1 ∈ lw_tbl ∧ Cond.interfaceMethod e.1.cls e.1.cls e.1.name e.1.desc ∈ lw_tbl ∧ Cond.publicMethod y ∈ lw_tbl ∧ Cond.unhidden "java/util/ArrayList" e.1.name e.1.desc ∈ lw_tbl ∧ Cond.castable "java/util/ArrayList" e.1.cls ∈ lw_tbl ∧ (e.1.cls ≠ "java/lang/invoke/MethodHandle" ∧ e.1.cls ≠ "java/lang/invoke/VarHandle") ∧ (parseMethodDescriptor e.1.desc).map (fun d => d.parameters.length) = some np
set_option maxRecDepth 100000 in
theorem zt_ift_ok : ∀ e ∈ zt_ift, zt_iOK e := List.forall_mem_cons.mpr ⟨⟨_, _, _, _, _, 0, _, rfl, by decide, rfl, (zt_in (j := 6) (k := 168) rfl rfl), (zt_ch_in (j := 6) (List.mem_of_getElem? (i := 166) rfl)), (zt_ch_in (j := 6) (List.mem_of_getElem? (i := 165) rfl)), (zt_ch_in (j := 6) (List.mem_of_getElem? (i := 171) rfl)), (zt_ch_in (j := 6) (List.mem_of_getElem? (i := 169) rfl)), (zt_ch_in (j := 6) (List.mem_of_getElem? (i := 167) rfl)), by decide +kernel, by decide +kernel⟩, List.forall_mem_cons.mpr ⟨⟨_, _, _, _, _, 1, _, rfl, by decide, rfl, (zt_in (j := 6) (k := 177) rfl rfl), (zt_ch_in (j := 6) (List.mem_of_getElem? (i := 176) rfl)), (zt_ch_in (j := 6) (List.mem_of_getElem? (i := 175) rfl)), (zt_ch_in (j := 6) (List.mem_of_getElem? (i := 180) rfl)), (zt_ch_in (j := 6) (List.mem_of_getElem? (i := 178) rfl)), (zt_ch_in (j := 6) (List.mem_of_getElem? (i := 167) rfl)), by decide +kernel, by decide +kernel⟩, List.forall_mem_cons.mpr ⟨⟨_, _, _, _, _, 1, _, rfl, by decide, rfl, (zt_in (j := 6) (k := 195) rfl rfl), (zt_ch_in (j := 6) (List.mem_of_getElem? (i := 194) rfl)), (zt_ch_in (j := 6) (List.mem_of_getElem? (i := 193) rfl)), (zt_ch_in (j := 6) (List.mem_of_getElem? (i := 198) rfl)), (zt_ch_in (j := 6) (List.mem_of_getElem? (i := 196) rfl)), (zt_ch_in (j := 6) (List.mem_of_getElem? (i := 167) rfl)), by decide +kernel, by decide +kernel⟩, List.forall_mem_cons.mpr ⟨⟨_, _, _, _, _, 1, _, rfl, by decide, rfl, (zt_in (j := 7) (k := 125) rfl rfl), (zt_ch_in (j := 7) (List.mem_of_getElem? (i := 124) rfl)), (zt_ch_in (j := 7) (List.mem_of_getElem? (i := 123) rfl)), (zt_ch_in (j := 7) (List.mem_of_getElem? (i := 128) rfl)), (zt_ch_in (j := 7) (List.mem_of_getElem? (i := 126) rfl)), (zt_ch_in (j := 6) (List.mem_of_getElem? (i := 167) rfl)), by decide +kernel, by decide +kernel⟩, List.forall_mem_cons.mpr ⟨⟨_, _, _, _, _, 2, _, rfl, by decide, rfl, (zt_in (j := 7) (k := 226) rfl rfl), (zt_ch_in (j := 7) (List.mem_of_getElem? (i := 225) rfl)), (zt_ch_in (j := 7) (List.mem_of_getElem? (i := 224) rfl)), (zt_ch_in (j := 7) (List.mem_of_getElem? (i := 229) rfl)), (zt_ch_in (j := 7) (List.mem_of_getElem? (i := 227) rfl)), (zt_ch_in (j := 6) (List.mem_of_getElem? (i := 167) rfl)), by decide +kernel, by decide +kernel⟩, List.forall_mem_cons.mpr ⟨⟨_, _, _, _, _, 0, _, rfl, by decide, rfl, (zt_in (j := 9) (k := 40) rfl rfl), (zt_ch_in (j := 9) (List.mem_of_getElem? (i := 39) rfl)), (zt_ch_in (j := 9) (List.mem_of_getElem? (i := 38) rfl)), (zt_ch_in (j := 9) (List.mem_of_getElem? (i := 43) rfl)), (zt_ch_in (j := 9) (List.mem_of_getElem? (i := 41) rfl)), (zt_ch_in (j := 6) (List.mem_of_getElem? (i := 167) rfl)), by decide +kernel, by decide +kernel⟩, List.forall_mem_cons.mpr ⟨⟨_, _, _, _, _, 2, _, rfl, by decide, rfl, (zt_in (j := 9) (k := 76) rfl rfl), (zt_ch_in (j := 9) (List.mem_of_getElem? (i := 75) rfl)), (zt_ch_in (j := 9) (List.mem_of_getElem? (i := 74) rfl)), (zt_ch_in (j := 9) (List.mem_of_getElem? (i := 79) rfl)), (zt_ch_in (j := 9) (List.mem_of_getElem? (i := 77) rfl)), (zt_ch_in (j := 6) (List.mem_of_getElem? (i := 167) rfl)), by decide +kernel, by decide +kernel⟩, List.forall_mem_cons.mpr ⟨⟨_, _, _, _, _, 0, _, rfl, by decide, rfl, (zt_in (j := 10) (k := 87) rfl rfl), (zt_ch_in (j := 10) (List.mem_of_getElem? (i := 86) rfl)), (zt_ch_in (j := 10) (List.mem_of_getElem? (i := 85) rfl)), (zt_ch_in (j := 10) (List.mem_of_getElem? (i := 90) rfl)), (zt_ch_in (j := 10) (List.mem_of_getElem? (i := 88) rfl)), (zt_ch_in (j := 6) (List.mem_of_getElem? (i := 167) rfl)), by decide +kernel, by decide +kernel⟩, fun _ h => absurd h List.not_mem_nil⟩⟩⟩⟩⟩⟩⟩⟩
set_option maxRecDepth 100000 in
theorem zt_acopy : Cond.native arraycopyName ∈ zt_good ∧ Cond.static arraycopyName ∈ zt_good ∧ Cond.initialized "java/lang/System" ∈ zt_good := ⟨(zt_in (j := 2) (k := 124) rfl rfl), (zt_in (j := 2) (k := 123) rfl rfl), (zt_in (j := 1) (k := 19) rfl rfl)⟩
theorem zt_pl_ok {oc : Nat} {own : String} {l : List (Nat × Nat × Nat × Nat × Nat)} (ho : zt_on[oc]? = some own) (h : zt_pl[oc]? = some l) : ∀ e ∈ l, zt_eOK own e := by
  match oc, ho, h with
  | 0, ho, h => cases ho; cases h; exact zt_pl0_ok
  | 1, ho, h => cases ho; cases h; exact zt_pl1_ok
  | 2, ho, h => cases ho; cases h; exact zt_pl2_ok
  | 3, ho, h => cases ho; cases h; exact zt_pl3_ok
  | 4, ho, h => cases ho; cases h; exact zt_pl4_ok
  | 5, ho, h => cases ho; cases h; exact zt_pl5_ok
  | 6, ho, h => cases ho; cases h; exact zt_pl6_ok
  | 7, ho, h => cases ho; cases h; exact zt_pl7_ok
  | 8, ho, h => cases ho; cases h; exact zt_pl8_ok
  | 9, ho, h => cases ho; cases h; exact zt_pl9_ok
  | 10, ho, h => cases ho; cases h; exact zt_pl10_ok
  | 11, ho, h => cases ho; cases h; exact zt_pl11_ok
  | 12, ho, h => cases ho; cases h; exact zt_pl12_ok
  | 13, ho, h => cases ho; cases h; exact zt_pl13_ok
  | 14, ho, h => cases ho; cases h; exact zt_pl14_ok
  | 15, ho, h => cases ho; cases h; exact zt_pl15_ok
  | 16, ho, h => cases ho; cases h; exact zt_pl16_ok
  | 17, ho, h => cases ho; cases h; exact zt_pl17_ok
  | 18, ho, h => cases ho; cases h; exact zt_pl18_ok
  | 19, ho, h => cases ho; cases h; exact zt_pl19_ok
  | 20, ho, h => cases ho; cases h; exact zt_pl20_ok
  | 21, ho, h => cases ho; cases h; exact zt_pl21_ok
  | 22, ho, h => cases ho; cases h; exact zt_pl22_ok
  | 23, ho, h => cases ho; cases h; exact zt_pl23_ok
  | 24, ho, h => cases ho; cases h; exact zt_pl24_ok
  | 25, ho, h => cases ho; cases h; exact zt_pl25_ok
  | 26, ho, h => cases ho; cases h; exact zt_pl26_ok
  | 27, ho, h => cases ho; cases h; exact zt_pl27_ok
  | 28, ho, h => cases ho; cases h; exact zt_pl28_ok
  | 29, ho, h => cases ho; cases h; exact zt_pl29_ok
  | 30, ho, h => cases ho; cases h; exact zt_pl30_ok
  | 31, ho, h => cases ho; cases h; exact zt_pl31_ok
  | 32, ho, h => cases ho; cases h; exact zt_pl32_ok
  | 33, ho, h => cases ho; cases h; exact zt_pl33_ok
  | 34, ho, h => cases ho; cases h; exact zt_pl34_ok
  | 35, ho, h => cases ho; cases h; exact zt_pl35_ok
  | k + 36, ho, h => exact absurd ho (by simp [zt_on])
theorem zt_lc_ok {oc : Nat} {own : String} {l : List (Nat × Int64 × Nat)} (ho : zt_on[oc]? = some own) (h : zt_lc[oc]? = some l) : ∀ e ∈ l, Cond.constantLong own e.1 e.2.1 ∈ zt_good := by
  match oc, ho, h with
  | 0, ho, h => cases ho; cases h; exact zt_lc0_ok
  | 1, ho, h => cases ho; cases h; exact zt_lc1_ok
  | 2, ho, h => cases ho; cases h; exact zt_lc2_ok
  | 3, ho, h => cases ho; cases h; exact zt_lc3_ok
  | 4, ho, h => cases ho; cases h; exact zt_lc4_ok
  | 5, ho, h => cases ho; cases h; exact zt_lc5_ok
  | 6, ho, h => cases ho; cases h; exact zt_lc6_ok
  | 7, ho, h => cases ho; cases h; exact zt_lc7_ok
  | 8, ho, h => cases ho; cases h; exact zt_lc8_ok
  | 9, ho, h => cases ho; cases h; exact zt_lc9_ok
  | 10, ho, h => cases ho; cases h; exact zt_lc10_ok
  | 11, ho, h => cases ho; cases h; exact zt_lc11_ok
  | 12, ho, h => cases ho; cases h; exact zt_lc12_ok
  | 13, ho, h => cases ho; cases h; exact zt_lc13_ok
  | 14, ho, h => cases ho; cases h; exact zt_lc14_ok
  | 15, ho, h => cases ho; cases h; exact zt_lc15_ok
  | 16, ho, h => cases ho; cases h; exact zt_lc16_ok
  | 17, ho, h => cases ho; cases h; exact zt_lc17_ok
  | 18, ho, h => cases ho; cases h; exact zt_lc18_ok
  | 19, ho, h => cases ho; cases h; exact zt_lc19_ok
  | 20, ho, h => cases ho; cases h; exact zt_lc20_ok
  | 21, ho, h => cases ho; cases h; exact zt_lc21_ok
  | 22, ho, h => cases ho; cases h; exact zt_lc22_ok
  | 23, ho, h => cases ho; cases h; exact zt_lc23_ok
  | 24, ho, h => cases ho; cases h; exact zt_lc24_ok
  | 25, ho, h => cases ho; cases h; exact zt_lc25_ok
  | 26, ho, h => cases ho; cases h; exact zt_lc26_ok
  | 27, ho, h => cases ho; cases h; exact zt_lc27_ok
  | 28, ho, h => cases ho; cases h; exact zt_lc28_ok
  | 29, ho, h => cases ho; cases h; exact zt_lc29_ok
  | 30, ho, h => cases ho; cases h; exact zt_lc30_ok
  | 31, ho, h => cases ho; cases h; exact zt_lc31_ok
  | 32, ho, h => cases ho; cases h; exact zt_lc32_ok
  | 33, ho, h => cases ho; cases h; exact zt_lc33_ok
  | 34, ho, h => cases ho; cases h; exact zt_lc34_ok
  | 35, ho, h => cases ho; cases h; exact zt_lc35_ok
  | k + 36, ho, h => exact absurd ho (by simp [zt_on])
theorem zt_at_ok : ∀ (t : Nat) (ty : FieldType), zt_at[t]? = some ty → (((∀ C, ty ≠ .object C) ∧ Cond.arrayClass ty ∈ zt_good) ∨ ∃ C, ty = .object C ∧ Cond.arrayOver ty ∈ lw_tbl) := by
  intro t ty h
  match t, h with
  | 0, h => cases h; exact Or.inr ⟨_, rfl, zt_ch_in (j := 1) (List.mem_of_getElem? (i := 57) rfl)⟩
  | 1, h => cases h; exact Or.inl ⟨fun C h => FieldType.noConfusion h, (zt_in (j := 1) (k := 94) rfl rfl)⟩
  | 2, h => cases h; exact Or.inl ⟨fun C h => FieldType.noConfusion h, (zt_in (j := 1) (k := 95) rfl rfl)⟩
  | 3, h => cases h; exact Or.inl ⟨fun C h => FieldType.noConfusion h, (zt_in (j := 2) (k := 76) rfl rfl)⟩
  | 4, h => cases h; exact Or.inr ⟨_, rfl, zt_ch_in (j := 6) (List.mem_of_getElem? (i := 103) rfl)⟩
  | 5, h => cases h; exact Or.inr ⟨_, rfl, zt_ch_in (j := 7) (List.mem_of_getElem? (i := 15) rfl)⟩
  | 6, h => cases h; exact Or.inl ⟨fun C h => FieldType.noConfusion h, (zt_in (j := 8) (k := 239) rfl rfl)⟩
  | 7, h => cases h; exact Or.inl ⟨fun C h => FieldType.noConfusion h, (zt_in (j := 10) (k := 161) rfl rfl)⟩
  | k + 8, h => exact absurd h (by simp [zt_at])
theorem zt_atc_ok : ∀ (t ci : Nat) (C : String), zt_at[t]? = some (.object C) → zt_atc[t]? = some ci → ci ≠ 999 → (zt_cl[ci]?).map (·.1) = some C := by
  intro t ci C h h2 h3
  match t, h, h2 with
  | 0, h, h2 => cases h; cases h2; exact rfl
  | 1, h, h2 => cases h
  | 2, h, h2 => cases h
  | 3, h, h2 => cases h
  | 4, h, h2 => cases h; cases h2; exact rfl
  | 5, h, h2 => cases h2; exact absurd rfl h3
  | 6, h, h2 => cases h
  | 7, h, h2 => cases h
  | k + 8, h, h2 => exact absurd h (by simp [zt_at])

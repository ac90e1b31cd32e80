/-! ===== what a call answers, refusals too ===== -/
section ZAS
variable {h g : zx_H} {a b : Int32} {c : Int64}
/-- the answer for an exception of class E -/
def zxc (E : Nat) : Int64 := if E = 13 then -3000000001 else if E = 16 then -3000000002 else if E = 14 then -3000000003 else -3000000004
def zEx (E : Nat) : Prop := E = 13 ∨ E = 14 ∨ E = 15 ∨ E = 16
theorem zxc_e {E : Nat} (hE : zEx E) (h : zx_H) : (if E = 13 then some ((-3000000001 : Int64), h) else if E = 16 then some ((-3000000002 : Int64), h) else if E = 14 then some ((-3000000003 : Int64), h) else if E = 15 then some ((-3000000004 : Int64), h) else none) = some (zxc E, h) := by
  rcases hE with rfl | rfl | rfl | rfl <;> rfl
theorem zask0 (e0 : zf_is 12 1 h = some ()) {v : Int32} (e : f_ColumnVault_addColumn 1 a b h = some (.inl v, g)) : f_ColumnVaultLaw_asks 1 0 a b c h = some (v.toInt64, g) := by
  unfold f_ColumnVaultLaw_asks
  rw [if_pos rfl, ze_b e0, ze_b4 e]
theorem zask0E (e0 : zf_is 12 1 h = some ()) {E : Nat} (hE : zEx E) (e : f_ColumnVault_addColumn 1 a b h = some (.inr E, g)) : f_ColumnVaultLaw_asks 1 0 a b c h = some (zxc E, g) := by
  unfold f_ColumnVaultLaw_asks
  rw [if_pos rfl, ze_b e0, ze_b4E e]
  exact zxc_e hE g
theorem zask1 (e0 : zf_is 12 1 h = some ()) {v : Int32} (e : f_ColumnVault_addRow 1 a h = some (.inl v, g)) : f_ColumnVaultLaw_asks 1 1 a b c h = some (v.toInt64, g) := by
  unfold f_ColumnVaultLaw_asks
  rw [if_neg (by decide), if_pos rfl, ze_b e0, ze_b4 e]
theorem zask1E (e0 : zf_is 12 1 h = some ()) {E : Nat} (hE : zEx E) (e : f_ColumnVault_addRow 1 a h = some (.inr E, g)) : f_ColumnVaultLaw_asks 1 1 a b c h = some (zxc E, g) := by
  unfold f_ColumnVaultLaw_asks
  rw [if_neg (by decide), if_pos rfl, ze_b e0, ze_b4E e]
  exact zxc_e hE g
theorem zask2 (e0 : zf_is 12 1 h = some ()) {v : Int32} (e : f_ColumnVault_fill 1 a b ((c).toInt32) (7 : Int32) (3 : Int32) h = some (.inl v, g)) : f_ColumnVaultLaw_asks 1 2 a b c h = some (v.toInt64, g) := by
  unfold f_ColumnVaultLaw_asks
  rw [if_neg (by decide), if_neg (by decide), if_pos rfl, ze_b e0, ze_b4 e]
theorem zask2E (e0 : zf_is 12 1 h = some ()) {E : Nat} (hE : zEx E) (e : f_ColumnVault_fill 1 a b ((c).toInt32) (7 : Int32) (3 : Int32) h = some (.inr E, g)) : f_ColumnVaultLaw_asks 1 2 a b c h = some (zxc E, g) := by
  unfold f_ColumnVaultLaw_asks
  rw [if_neg (by decide), if_neg (by decide), if_pos rfl, ze_b e0, ze_b4E e]
  exact zxc_e hE g
theorem zask3 (e0 : zf_is 12 1 h = some ()) {v : Int32} (e : f_ColumnVault_set 1 a (0 : Int32) b c h = some (.inl v, g)) : f_ColumnVaultLaw_asks 1 3 a b c h = some (if v = 0 then 0 else 1, g) := by
  unfold f_ColumnVaultLaw_asks
  rw [if_neg (by decide), if_neg (by decide), if_neg (by decide), if_pos rfl, ze_b e0, ze_b4 e]
  by_cases hv : v = 0
  · rw [if_pos hv, if_pos hv]
  · rw [if_neg hv, if_neg hv]
theorem zask3E (e0 : zf_is 12 1 h = some ()) {E : Nat} (hE : zEx E) (e : f_ColumnVault_set 1 a (0 : Int32) b c h = some (.inr E, g)) : f_ColumnVaultLaw_asks 1 3 a b c h = some (zxc E, g) := by
  unfold f_ColumnVaultLaw_asks
  rw [if_neg (by decide), if_neg (by decide), if_neg (by decide), if_pos rfl, ze_b e0, ze_b4E e]
  exact zxc_e hE g
theorem zask4 (e0 : zf_is 12 1 h = some ()) {v : Int64} (e : f_ColumnVault_get 1 a b ((c).toInt32) h = some (.inl v, g)) : f_ColumnVaultLaw_asks 1 4 a b c h = some (v, g) := by
  unfold f_ColumnVaultLaw_asks
  rw [if_neg (by decide), if_neg (by decide), if_neg (by decide), if_neg (by decide), if_pos rfl, ze_b e0, ze_b4 e]
theorem zask4E (e0 : zf_is 12 1 h = some ()) {E : Nat} (hE : zEx E) (e : f_ColumnVault_get 1 a b ((c).toInt32) h = some (.inr E, g)) : f_ColumnVaultLaw_asks 1 4 a b c h = some (zxc E, g) := by
  unfold f_ColumnVaultLaw_asks
  rw [if_neg (by decide), if_neg (by decide), if_neg (by decide), if_neg (by decide), if_pos rfl, ze_b e0, ze_b4E e]
  exact zxc_e hE g
theorem zask5 (e0 : zf_is 12 1 h = some ()) {v : Int32} (e : f_ColumnVault_back 1 a h = some (.inl v, g)) : f_ColumnVaultLaw_asks 1 5 a b c h = some (v.toInt64, g) := by
  unfold f_ColumnVaultLaw_asks
  rw [if_neg (by decide), if_neg (by decide), if_neg (by decide), if_neg (by decide), if_neg (by decide), if_pos rfl, ze_b e0, ze_b4 e]
theorem zask5E (e0 : zf_is 12 1 h = some ()) {E : Nat} (hE : zEx E) (e : f_ColumnVault_back 1 a h = some (.inr E, g)) : f_ColumnVaultLaw_asks 1 5 a b c h = some (zxc E, g) := by
  unfold f_ColumnVaultLaw_asks
  rw [if_neg (by decide), if_neg (by decide), if_neg (by decide), if_neg (by decide), if_neg (by decide), if_pos rfl, ze_b e0, ze_b4E e]
  exact zxc_e hE g
theorem zask6 (e0 : zf_is 12 1 h = some ()) {v : Int32} (e : f_ColumnVault_rowAt 1 a b h = some (.inl v, g)) : f_ColumnVaultLaw_asks 1 6 a b c h = some (v.toInt64, g) := by
  unfold f_ColumnVaultLaw_asks
  rw [if_neg (by decide), if_neg (by decide), if_neg (by decide), if_neg (by decide), if_neg (by decide), if_neg (by decide), if_pos rfl, ze_b e0, ze_b4 e]
theorem zask6E (e0 : zf_is 12 1 h = some ()) {E : Nat} (hE : zEx E) (e : f_ColumnVault_rowAt 1 a b h = some (.inr E, g)) : f_ColumnVaultLaw_asks 1 6 a b c h = some (zxc E, g) := by
  unfold f_ColumnVaultLaw_asks
  rw [if_neg (by decide), if_neg (by decide), if_neg (by decide), if_neg (by decide), if_neg (by decide), if_neg (by decide), if_pos rfl, ze_b e0, ze_b4E e]
  exact zxc_e hE g
theorem zask7 (e0 : zf_is 12 1 h = some ()) {v : Int32} (e : f_ColumnVault_choose 1 a b h = some (.inl v, g)) : f_ColumnVaultLaw_asks 1 7 a b c h = some (v.toInt64, g) := by
  unfold f_ColumnVaultLaw_asks
  rw [if_neg (by decide), if_neg (by decide), if_neg (by decide), if_neg (by decide), if_neg (by decide), if_neg (by decide), if_neg (by decide), if_pos rfl, ze_b e0, ze_b4 e]
theorem zask7E (e0 : zf_is 12 1 h = some ()) {E : Nat} (hE : zEx E) (e : f_ColumnVault_choose 1 a b h = some (.inr E, g)) : f_ColumnVaultLaw_asks 1 7 a b c h = some (zxc E, g) := by
  unfold f_ColumnVaultLaw_asks
  rw [if_neg (by decide), if_neg (by decide), if_neg (by decide), if_neg (by decide), if_neg (by decide), if_neg (by decide), if_neg (by decide), if_pos rfl, ze_b e0, ze_b4E e]
  exact zxc_e hE g
theorem zask8 (e0 : zf_is 12 1 h = some ()) {v : Int32} (e : f_ColumnVault_count 1 a h = some (.inl v, g)) : f_ColumnVaultLaw_asks 1 8 a b c h = some (v.toInt64, g) := by
  unfold f_ColumnVaultLaw_asks
  rw [if_neg (by decide), if_neg (by decide), if_neg (by decide), if_neg (by decide), if_neg (by decide), if_neg (by decide), if_neg (by decide), if_neg (by decide), if_pos rfl, ze_b e0, ze_b4 e]
theorem zask8E (e0 : zf_is 12 1 h = some ()) {E : Nat} (hE : zEx E) (e : f_ColumnVault_count 1 a h = some (.inr E, g)) : f_ColumnVaultLaw_asks 1 8 a b c h = some (zxc E, g) := by
  unfold f_ColumnVaultLaw_asks
  rw [if_neg (by decide), if_neg (by decide), if_neg (by decide), if_neg (by decide), if_neg (by decide), if_neg (by decide), if_neg (by decide), if_neg (by decide), if_pos rfl, ze_b e0, ze_b4E e]
  exact zxc_e hE g
theorem zask9 (e0 : zf_is 12 1 h = some ()) {v : Int32} (e : f_ColumnVault_join 1 a b a ((c).toInt32) (0 : Int32) h = some (.inl v, g)) : f_ColumnVaultLaw_asks 1 9 a b c h = some (v.toInt64, g) := by
  unfold f_ColumnVaultLaw_asks
  rw [if_neg (by decide), if_neg (by decide), if_neg (by decide), if_neg (by decide), if_neg (by decide), if_neg (by decide), if_neg (by decide), if_neg (by decide), if_neg (by decide), if_pos rfl, ze_b e0, ze_b4 e]
theorem zask9E (e0 : zf_is 12 1 h = some ()) {E : Nat} (hE : zEx E) (e : f_ColumnVault_join 1 a b a ((c).toInt32) (0 : Int32) h = some (.inr E, g)) : f_ColumnVaultLaw_asks 1 9 a b c h = some (zxc E, g) := by
  unfold f_ColumnVaultLaw_asks
  rw [if_neg (by decide), if_neg (by decide), if_neg (by decide), if_neg (by decide), if_neg (by decide), if_neg (by decide), if_neg (by decide), if_neg (by decide), if_neg (by decide), if_pos rfl, ze_b e0, ze_b4E e]
  exact zxc_e hE g
theorem zask10 (e0 : zf_is 12 1 h = some ()) {v : Int32} (e : f_ColumnVault_pairAt 1 a (0 : Int32) h = some (.inl v, g)) : f_ColumnVaultLaw_asks 1 10 a b c h = some (v.toInt64, g) := by
  unfold f_ColumnVaultLaw_asks
  rw [if_neg (by decide), if_neg (by decide), if_neg (by decide), if_neg (by decide), if_neg (by decide), if_neg (by decide), if_neg (by decide), if_neg (by decide), if_neg (by decide), if_neg (by decide), if_pos rfl, ze_b e0, ze_b4 e]
theorem zask10E (e0 : zf_is 12 1 h = some ()) {E : Nat} (hE : zEx E) (e : f_ColumnVault_pairAt 1 a (0 : Int32) h = some (.inr E, g)) : f_ColumnVaultLaw_asks 1 10 a b c h = some (zxc E, g) := by
  unfold f_ColumnVaultLaw_asks
  rw [if_neg (by decide), if_neg (by decide), if_neg (by decide), if_neg (by decide), if_neg (by decide), if_neg (by decide), if_neg (by decide), if_neg (by decide), if_neg (by decide), if_neg (by decide), if_pos rfl, ze_b e0, ze_b4E e]
  exact zxc_e hE g
theorem zask11 (e0 : zf_is 12 1 h = some ()) {v : Int64} (e : f_ColumnVault_groupAt 1 a b h = some (.inl v, g)) : f_ColumnVaultLaw_asks 1 11 a b c h = some (v, g) := by
  unfold f_ColumnVaultLaw_asks
  rw [if_neg (by decide), if_neg (by decide), if_neg (by decide), if_neg (by decide), if_neg (by decide), if_neg (by decide), if_neg (by decide), if_neg (by decide), if_neg (by decide), if_neg (by decide), if_neg (by decide), if_pos rfl, ze_b e0, ze_b4 e]
theorem zask11E (e0 : zf_is 12 1 h = some ()) {E : Nat} (hE : zEx E) (e : f_ColumnVault_groupAt 1 a b h = some (.inr E, g)) : f_ColumnVaultLaw_asks 1 11 a b c h = some (zxc E, g) := by
  unfold f_ColumnVaultLaw_asks
  rw [if_neg (by decide), if_neg (by decide), if_neg (by decide), if_neg (by decide), if_neg (by decide), if_neg (by decide), if_neg (by decide), if_neg (by decide), if_neg (by decide), if_neg (by decide), if_neg (by decide), if_pos rfl, ze_b e0, ze_b4E e]
  exact zxc_e hE g
theorem zask12 (e0 : zf_is 12 1 h = some ()) {v : Int64} (e : f_ColumnVault_total 1 a b ((c).toInt32) h = some (.inl v, g)) : f_ColumnVaultLaw_asks 1 12 a b c h = some (v, g) := by
  unfold f_ColumnVaultLaw_asks
  rw [if_neg (by decide), if_neg (by decide), if_neg (by decide), if_neg (by decide), if_neg (by decide), if_neg (by decide), if_neg (by decide), if_neg (by decide), if_neg (by decide), if_neg (by decide), if_neg (by decide), if_neg (by decide), if_pos rfl, ze_b e0, ze_b4 e]
theorem zask12E (e0 : zf_is 12 1 h = some ()) {E : Nat} (hE : zEx E) (e : f_ColumnVault_total 1 a b ((c).toInt32) h = some (.inr E, g)) : f_ColumnVaultLaw_asks 1 12 a b c h = some (zxc E, g) := by
  unfold f_ColumnVaultLaw_asks
  rw [if_neg (by decide), if_neg (by decide), if_neg (by decide), if_neg (by decide), if_neg (by decide), if_neg (by decide), if_neg (by decide), if_neg (by decide), if_neg (by decide), if_neg (by decide), if_neg (by decide), if_neg (by decide), if_pos rfl, ze_b e0, ze_b4E e]
  exact zxc_e hE g
theorem zask13 (e0 : zf_is 12 1 h = some ()) {v : Int32} (e : f_ColumnVault_rank 1 a b b ((c).toInt32) h = some (.inl v, g)) : f_ColumnVaultLaw_asks 1 13 a b c h = some (v.toInt64, g) := by
  unfold f_ColumnVaultLaw_asks
  rw [if_neg (by decide), if_neg (by decide), if_neg (by decide), if_neg (by decide), if_neg (by decide), if_neg (by decide), if_neg (by decide), if_neg (by decide), if_neg (by decide), if_neg (by decide), if_neg (by decide), if_neg (by decide), if_neg (by decide), if_pos rfl, ze_b e0, ze_b4 e]
theorem zask13E (e0 : zf_is 12 1 h = some ()) {E : Nat} (hE : zEx E) (e : f_ColumnVault_rank 1 a b b ((c).toInt32) h = some (.inr E, g)) : f_ColumnVaultLaw_asks 1 13 a b c h = some (zxc E, g) := by
  unfold f_ColumnVaultLaw_asks
  rw [if_neg (by decide), if_neg (by decide), if_neg (by decide), if_neg (by decide), if_neg (by decide), if_neg (by decide), if_neg (by decide), if_neg (by decide), if_neg (by decide), if_neg (by decide), if_neg (by decide), if_neg (by decide), if_neg (by decide), if_pos rfl, ze_b e0, ze_b4E e]
  exact zxc_e hE g
theorem zask14 (e0 : zf_is 12 1 h = some ()) {v : Int32} (e : f_ColumnVault_between 1 a b c c h = some (.inl v, g)) : f_ColumnVaultLaw_asks 1 14 a b c h = some (v.toInt64, g) := by
  unfold f_ColumnVaultLaw_asks
  rw [if_neg (by decide), if_neg (by decide), if_neg (by decide), if_neg (by decide), if_neg (by decide), if_neg (by decide), if_neg (by decide), if_neg (by decide), if_neg (by decide), if_neg (by decide), if_neg (by decide), if_neg (by decide), if_neg (by decide), if_neg (by decide), if_pos rfl, ze_b e0, ze_b4 e]
theorem zask14E (e0 : zf_is 12 1 h = some ()) {E : Nat} (hE : zEx E) (e : f_ColumnVault_between 1 a b c c h = some (.inr E, g)) : f_ColumnVaultLaw_asks 1 14 a b c h = some (zxc E, g) := by
  unfold f_ColumnVaultLaw_asks
  rw [if_neg (by decide), if_neg (by decide), if_neg (by decide), if_neg (by decide), if_neg (by decide), if_neg (by decide), if_neg (by decide), if_neg (by decide), if_neg (by decide), if_neg (by decide), if_neg (by decide), if_neg (by decide), if_neg (by decide), if_neg (by decide), if_pos rfl, ze_b e0, ze_b4E e]
  exact zxc_e hE g
theorem zask15 (e0 : zf_is 12 1 h = some ()) {v : Int64} (e : f_ColumnVault_nearest 1 a b c (1 : Int32) h = some (.inl v, g)) : f_ColumnVaultLaw_asks 1 15 a b c h = some (v, g) := by
  unfold f_ColumnVaultLaw_asks
  rw [if_neg (by decide), if_neg (by decide), if_neg (by decide), if_neg (by decide), if_neg (by decide), if_neg (by decide), if_neg (by decide), if_neg (by decide), if_neg (by decide), if_neg (by decide), if_neg (by decide), if_neg (by decide), if_neg (by decide), if_neg (by decide), if_neg (by decide), if_pos rfl, ze_b e0, ze_b4 e]
theorem zask15E (e0 : zf_is 12 1 h = some ()) {E : Nat} (hE : zEx E) (e : f_ColumnVault_nearest 1 a b c (1 : Int32) h = some (.inr E, g)) : f_ColumnVaultLaw_asks 1 15 a b c h = some (zxc E, g) := by
  unfold f_ColumnVaultLaw_asks
  rw [if_neg (by decide), if_neg (by decide), if_neg (by decide), if_neg (by decide), if_neg (by decide), if_neg (by decide), if_neg (by decide), if_neg (by decide), if_neg (by decide), if_neg (by decide), if_neg (by decide), if_neg (by decide), if_neg (by decide), if_neg (by decide), if_neg (by decide), if_pos rfl, ze_b e0, ze_b4E e]
  exact zxc_e hE g
theorem zask16 (e0 : zf_is 12 1 h = some ()) {v : Int64} (e : f_ColumnVault_nearest 1 a b c (0 : Int32) h = some (.inl v, g)) : f_ColumnVaultLaw_asks 1 16 a b c h = some (v, g) := by
  unfold f_ColumnVaultLaw_asks
  rw [if_neg (by decide), if_neg (by decide), if_neg (by decide), if_neg (by decide), if_neg (by decide), if_neg (by decide), if_neg (by decide), if_neg (by decide), if_neg (by decide), if_neg (by decide), if_neg (by decide), if_neg (by decide), if_neg (by decide), if_neg (by decide), if_neg (by decide), if_neg (by decide), if_pos rfl, ze_b e0, ze_b4 e]
theorem zask16E (e0 : zf_is 12 1 h = some ()) {E : Nat} (hE : zEx E) (e : f_ColumnVault_nearest 1 a b c (0 : Int32) h = some (.inr E, g)) : f_ColumnVaultLaw_asks 1 16 a b c h = some (zxc E, g) := by
  unfold f_ColumnVaultLaw_asks
  rw [if_neg (by decide), if_neg (by decide), if_neg (by decide), if_neg (by decide), if_neg (by decide), if_neg (by decide), if_neg (by decide), if_neg (by decide), if_neg (by decide), if_neg (by decide), if_neg (by decide), if_neg (by decide), if_neg (by decide), if_neg (by decide), if_neg (by decide), if_neg (by decide), if_pos rfl, ze_b e0, ze_b4E e]
  exact zxc_e hE g
theorem zask17 (e0 : zf_is 12 1 h = some ()) {v : Int32} (e : f_ColumnVault_type 1 c h = some (.inl v, g)) : f_ColumnVaultLaw_asks 1 17 a b c h = some (v.toInt64, g) := by
  unfold f_ColumnVaultLaw_asks
  rw [if_neg (by decide), if_neg (by decide), if_neg (by decide), if_neg (by decide), if_neg (by decide), if_neg (by decide), if_neg (by decide), if_neg (by decide), if_neg (by decide), if_neg (by decide), if_neg (by decide), if_neg (by decide), if_neg (by decide), if_neg (by decide), if_neg (by decide), if_neg (by decide), if_neg (by decide), if_pos rfl, ze_b e0, ze_b4 e]
theorem zask17E (e0 : zf_is 12 1 h = some ()) {E : Nat} (hE : zEx E) (e : f_ColumnVault_type 1 c h = some (.inr E, g)) : f_ColumnVaultLaw_asks 1 17 a b c h = some (zxc E, g) := by
  unfold f_ColumnVaultLaw_asks
  rw [if_neg (by decide), if_neg (by decide), if_neg (by decide), if_neg (by decide), if_neg (by decide), if_neg (by decide), if_neg (by decide), if_neg (by decide), if_neg (by decide), if_neg (by decide), if_neg (by decide), if_neg (by decide), if_neg (by decide), if_neg (by decide), if_neg (by decide), if_neg (by decide), if_neg (by decide), if_pos rfl, ze_b e0, ze_b4E e]
  exact zxc_e hE g
theorem zask18 (e0 : zf_is 12 1 h = some ()) {v : Int32} (e : f_ColumnVault_alike 1 a b ((c).toInt32) h = some (.inl v, g)) : f_ColumnVaultLaw_asks 1 18 a b c h = some (v.toInt64, g) := by
  unfold f_ColumnVaultLaw_asks
  rw [if_neg (by decide), if_neg (by decide), if_neg (by decide), if_neg (by decide), if_neg (by decide), if_neg (by decide), if_neg (by decide), if_neg (by decide), if_neg (by decide), if_neg (by decide), if_neg (by decide), if_neg (by decide), if_neg (by decide), if_neg (by decide), if_neg (by decide), if_neg (by decide), if_neg (by decide), if_neg (by decide), if_pos rfl, ze_b e0, ze_b4 e]
theorem zask18E (e0 : zf_is 12 1 h = some ()) {E : Nat} (hE : zEx E) (e : f_ColumnVault_alike 1 a b ((c).toInt32) h = some (.inr E, g)) : f_ColumnVaultLaw_asks 1 18 a b c h = some (zxc E, g) := by
  unfold f_ColumnVaultLaw_asks
  rw [if_neg (by decide), if_neg (by decide), if_neg (by decide), if_neg (by decide), if_neg (by decide), if_neg (by decide), if_neg (by decide), if_neg (by decide), if_neg (by decide), if_neg (by decide), if_neg (by decide), if_neg (by decide), if_neg (by decide), if_neg (by decide), if_neg (by decide), if_neg (by decide), if_neg (by decide), if_neg (by decide), if_pos rfl, ze_b e0, ze_b4E e]
  exact zxc_e hE g
theorem zask19 (e0 : zf_is 12 1 h = some ()) {v : Int64} (e : f_ColumnVault_groupTotal 1 a b ((c).toInt32) h = some (.inl v, g)) : f_ColumnVaultLaw_asks 1 19 a b c h = some (v, g) := by
  unfold f_ColumnVaultLaw_asks
  rw [if_neg (by decide), if_neg (by decide), if_neg (by decide), if_neg (by decide), if_neg (by decide), if_neg (by decide), if_neg (by decide), if_neg (by decide), if_neg (by decide), if_neg (by decide), if_neg (by decide), if_neg (by decide), if_neg (by decide), if_neg (by decide), if_neg (by decide), if_neg (by decide), if_neg (by decide), if_neg (by decide), if_neg (by decide), if_pos rfl, ze_b e0, ze_b4 e]
theorem zask19E (e0 : zf_is 12 1 h = some ()) {E : Nat} (hE : zEx E) (e : f_ColumnVault_groupTotal 1 a b ((c).toInt32) h = some (.inr E, g)) : f_ColumnVaultLaw_asks 1 19 a b c h = some (zxc E, g) := by
  unfold f_ColumnVaultLaw_asks
  rw [if_neg (by decide), if_neg (by decide), if_neg (by decide), if_neg (by decide), if_neg (by decide), if_neg (by decide), if_neg (by decide), if_neg (by decide), if_neg (by decide), if_neg (by decide), if_neg (by decide), if_neg (by decide), if_neg (by decide), if_neg (by decide), if_neg (by decide), if_neg (by decide), if_neg (by decide), if_neg (by decide), if_neg (by decide), if_pos rfl, ze_b e0, ze_b4E e]
  exact zxc_e hE g
theorem zask20 (e0 : zf_is 12 1 h = some ()) {v : Int64} (e : f_ColumnVault_running 1 a b ((c).toInt32) h = some (.inl v, g)) : f_ColumnVaultLaw_asks 1 20 a b c h = some (v, g) := by
  unfold f_ColumnVaultLaw_asks
  rw [if_neg (by decide), if_neg (by decide), if_neg (by decide), if_neg (by decide), if_neg (by decide), if_neg (by decide), if_neg (by decide), if_neg (by decide), if_neg (by decide), if_neg (by decide), if_neg (by decide), if_neg (by decide), if_neg (by decide), if_neg (by decide), if_neg (by decide), if_neg (by decide), if_neg (by decide), if_neg (by decide), if_neg (by decide), if_neg (by decide), if_pos rfl, ze_b e0, ze_b4 e]
theorem zask20E (e0 : zf_is 12 1 h = some ()) {E : Nat} (hE : zEx E) (e : f_ColumnVault_running 1 a b ((c).toInt32) h = some (.inr E, g)) : f_ColumnVaultLaw_asks 1 20 a b c h = some (zxc E, g) := by
  unfold f_ColumnVaultLaw_asks
  rw [if_neg (by decide), if_neg (by decide), if_neg (by decide), if_neg (by decide), if_neg (by decide), if_neg (by decide), if_neg (by decide), if_neg (by decide), if_neg (by decide), if_neg (by decide), if_neg (by decide), if_neg (by decide), if_neg (by decide), if_neg (by decide), if_neg (by decide), if_neg (by decide), if_neg (by decide), if_neg (by decide), if_neg (by decide), if_neg (by decide), if_pos rfl, ze_b e0, ze_b4E e]
  exact zxc_e hE g
theorem zask21 (e0 : zf_is 12 1 h = some ()) {v : Int32} (e : f_ColumnVault_size 1 a b h = some (.inl v, g)) : f_ColumnVaultLaw_asks 1 21 a b c h = some (v.toInt64, g) := by
  unfold f_ColumnVaultLaw_asks
  rw [if_neg (by decide), if_neg (by decide), if_neg (by decide), if_neg (by decide), if_neg (by decide), if_neg (by decide), if_neg (by decide), if_neg (by decide), if_neg (by decide), if_neg (by decide), if_neg (by decide), if_neg (by decide), if_neg (by decide), if_neg (by decide), if_neg (by decide), if_neg (by decide), if_neg (by decide), if_neg (by decide), if_neg (by decide), if_neg (by decide), if_neg (by decide), ze_b e0, ze_b4 e]
theorem zask21E (e0 : zf_is 12 1 h = some ()) {E : Nat} (hE : zEx E) (e : f_ColumnVault_size 1 a b h = some (.inr E, g)) : f_ColumnVaultLaw_asks 1 21 a b c h = some (zxc E, g) := by
  unfold f_ColumnVaultLaw_asks
  rw [if_neg (by decide), if_neg (by decide), if_neg (by decide), if_neg (by decide), if_neg (by decide), if_neg (by decide), if_neg (by decide), if_neg (by decide), if_neg (by decide), if_neg (by decide), if_neg (by decide), if_neg (by decide), if_neg (by decide), if_neg (by decide), if_neg (by decide), if_neg (by decide), if_neg (by decide), if_neg (by decide), if_neg (by decide), if_neg (by decide), if_neg (by decide), ze_b e0, ze_b4E e]
  exact zxc_e hE g
end ZAS

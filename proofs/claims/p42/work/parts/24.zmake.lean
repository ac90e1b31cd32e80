/-! ===== making: cells at the end of the heap ===== -/
section ZMK
variable {g r : zx_H} {c c' : zx_E}
theorem zh_ag : (g ++ c :: r)[g.length]? = some c := by
  rw [List.getElem?_append_right (Nat.le_refl _), Nat.sub_self]; rfl
theorem zh_as : (g ++ c :: r).set g.length c' = g ++ c' :: r := by
  rw [List.set_append_right _ _ (Nat.le_refl _), Nat.sub_self]; rfl
theorem zh_newI {n : Nat} (hl : g.length + r.length < 600000) (hn : n ≤ 100000) : zf_newa .int 1 (nI n) (g ++ r) = some (g.length + r.length, g ++ (r ++ [.inl (1, n, .inl fun _ => 0)])) := by
  have h1 : ¬ nI n < 0 ∧ n * componentBytes .int ≤ 536870912 ∧ (g ++ r).length < zx_lim := by
    refine ⟨nI_pos (by omega), ?_, ?_⟩
    · show n * 4 ≤ 536870912
      omega
    · rw [List.length_append]
      show _ < 1000000
      omega
  unfold zf_newa
  rw [nI_clamp (by omega)]
  show (if _ then _ else _) = _
  rw [if_pos h1, List.length_append, List.append_assoc]
theorem zh_newJ {n : Nat} (hl : g.length + r.length < 600000) (hn : n ≤ 100000) : zf_newa .long 2 (nI n) (g ++ r) = some (g.length + r.length, g ++ (r ++ [.inl (2, n, .inr (.inl fun _ => 0))])) := by
  have h1 : ¬ nI n < 0 ∧ n * componentBytes .long ≤ 536870912 ∧ (g ++ r).length < zx_lim := by
    refine ⟨nI_pos (by omega), ?_, ?_⟩
    · show n * 8 ≤ 536870912
      omega
    · rw [List.length_append]
      show _ < 1000000
      omega
  unfold zf_newa
  rw [nI_clamp (by omega)]
  show (if _ then _ else _) = _
  rw [if_pos h1, List.length_append, List.append_assoc]
theorem zh_new {ci : Nat} (hl : g.length < 600000) : zf_new ci g = some (g.length, g ++ [.inr (ci, zx_def ci)]) := by
  have h1 : g.length < zx_lim := by
    show _ < 1000000
    omega
  unfold zf_new
  rw [if_pos h1]
theorem zh_putE {ci k : Nat} {fs : List Value} {v : Value} (hk : k < fs.length) : zf_put ci k g.length v (g ++ .inr (ci, fs) :: r) = some (g ++ .inr (ci, fs.set k v) :: r) := by
  rw [zh_put zh_ag hk, zh_as]
/-- the four cells of a Sheet without columns -/
def zS_cells (q : Nat) : zx_H := [.inr (10, [.ref (q + 1), .ref (q + 2), .ref (q + 3), .int 0, .int 0, .long 0]), .inl (1, 4, .inl fun _ => 0), .inl (2, 160, .inr (.inl fun _ => 0)), .inl (1, 40, .inl fun _ => 0)]
theorem zS_def : zx_def 10 = [.null, .null, .null, .int 0, .int 0, .long 0] := by with_unfolding_all rfl
theorem zS_init (hl : g.length < 500000) : f_Sheet_init g.length (g ++ [.inr (10, zx_def 10)]) = some ((), g ++ zS_cells g.length) := by
  rw [zS_def]
  unfold f_Sheet_init
  rw [show (4 : Int32) = nI 4 from rfl, show (160 : Int32) = nI 160 from rfl, show (40 : Int32) = nI 40 from rfl]
  rw [ze_b2 (zh_newI (by show _ + 1 < _; omega) (by decide))]
  rw [List.cons_append, ze_b (zh_putE (by show _ < 6; decide))]
  rw [ze_b2 (zh_newJ (by show _ + 2 < _; omega) (by decide))]
  rw [List.cons_append, ze_b (zh_putE (by show _ < 6; decide))]
  rw [ze_b2 (zh_newI (by show _ + 3 < _; omega) (by decide))]
  rw [List.cons_append, ze_b (zh_putE (by show _ < 6; decide)), ze_b (zh_putE (by show _ < 6; decide)), ze_b (zh_putE (by show _ < 6; decide)), ze_b (zh_putE (by show _ < 6; decide))]
  rfl
end ZMK

/-! ===== the object made ===== -/
section ZIN
variable {h g j : zx_H} {c0 c1 : zx_E} {q i n : Nat}
theorem zd_6 : zx_def 6 = [.null, .int 0] := by with_unfolding_all rfl
theorem zd_4 : zx_def 4 = [.null, .int 0] := by with_unfolding_all rfl
theorem zd_11 : zx_def 11 = [.null, .null, .null, .int 0] := by with_unfolding_all rfl
theorem zd_9 : zx_def 9 = [.null, .null, .int 0] := by with_unfolding_all rfl
theorem zd_5 : zx_def 5 = [.null, .null, .null, .int 0, .int 0] := by with_unfolding_all rfl
theorem zd_2 : zx_def 2 = [.null, .null, .null] := by with_unfolding_all rfl
theorem zd_12 : zx_def 12 = [.null, .null, .null, .null, .null, .null] := by with_unfolding_all rfl
theorem zh_stA0 {F : Nat → Option Nat} {k : Nat} {fs : List Value} (e : h[q]? = some (.inl (0, 36, .inr (.inr (.inr (.inr F)))))) (e2 : h[k]? = some (.inr (10, fs))) (hi : i < 36) : zf_stA q (nI i) k h = some (h.set q (.inl (0, 36, .inr (.inr (.inr (.inr (va_up F i (some k)))))))) := by
  have hin : zx_in (nI i) 36 := vp_in_nI hi (by decide)
  unfold zf_stA
  rw [e, e2]
  show (if 10 = 10 ∧ 10 ≠ 999 ∧ zx_in (nI i) 36 then _ else none) = _
  rw [if_pos ⟨rfl, by decide, hin⟩, nI_clamp (by omega)]
theorem zM_S (q : Nat) : zM (zS_cells q) ≤ 400 := (by decide : zM (zS_cells 0) ≤ 400)
theorem zM_apl2 (h l : zx_H) : zM (h ++ l) = zM h + zM l := zM_apl h l
/-- an empty Sheet at q -/
def zS0 (h : zx_H) (q : Nat) : Prop := SH h q (fun _ => 0) (fun _ => 0) (fun _ => 0) 0 0 0
theorem zS0_new : zS0 (g ++ zS_cells g.length) g.length := by
  have hg : ∀ j, (g ++ zS_cells g.length)[g.length + j]? = (zS_cells g.length)[j]? := fun j => by
    rw [List.getElem?_append_right (by omega), Nat.add_sub_cancel_left]
  exact ⟨hg 0, hg 1, hg 2, hg 3, by decide, by decide⟩
theorem zS0_k (s : zS0 h q) (hq : ∀ p, q ≤ p → p < q + 4 → g[p]? = h[p]?) : zS0 g q := by
  obtain ⟨a, b, c, d, e, f⟩ := s
  exact ⟨(hq q (by omega) (by omega)).trans a, (hq (q + 1) (by omega) (by omega)).trans b, (hq (q + 2) (by omega) (by omega)).trans c, (hq (q + 3) (by omega) (by omega)).trans d, e, f⟩
def zHI (c0 c1 : zx_E) (B i : Nat) (h : zx_H) : Prop := h.length = 4 + 4 * i ∧ h[0]? = some c0 ∧ h[1]? = some c1 ∧ h[2]? = some (.inr (6, [.ref 3, .int 0])) ∧ (∃ F, h[3]? = some (.inl (0, 36, .inr (.inr (.inr (.inr F))))) ∧ ∀ s, s < i → F s = some (4 + 4 * s)) ∧ (∀ s, s < i → zS0 h (4 + 4 * s)) ∧ zM h ≤ B + 400 * i
theorem zar4 {x y B i : Nat} (h1 : y ≤ x + 400) (h2 : x ≤ B + 400 * i) : y ≤ B + 400 * (i + 1) := Nat.le_trans h1 (by rw [Nat.mul_succ, ← Nat.add_assoc]; exact Nat.add_le_add_right h2 400)
theorem zhi20 {B : Nat} : ∀ n i h, i ≤ 36 → 36 - i < n → zHI c0 c1 B i h → ∃ g, f_History_init_20 n 2 (nI i) h = some ((), g) ∧ zHI c0 c1 B 36 g := by
  intro n
  induction n with
  | zero => intro i _ _ hn; exact absurd hn (Nat.not_lt_zero _)
  | succ n ih =>
    intro i h hi hn z
    obtain ⟨a1, a2, a3, a4, ⟨F, a5, a6⟩, a7, a8⟩ := id z
    have hA : zf_A 6 0 2 h = some 3 := zh_A a4 rfl
    have hL : zf_len 3 h = some (nI 36) := zh_len (by show 3 ≠ 1000000; decide) a5 rfl
    unfold f_History_init_20
    rw [ze_b hA, ze_b hL]
    rcases Nat.lt_or_ge i 36 with hlt | hge
    · have e1 := zh_new (g := h) (ci := 10) (by omega)
      have e2 := zS_init (g := h) (by omega)
      have hg : ∀ p, p < h.length → (h ++ zS_cells h.length)[p]? = h[p]? := fun p hp => List.getElem?_append_left hp
      have b5 : (h ++ zS_cells h.length)[3]? = some (.inl (0, 36, .inr (.inr (.inr (.inr F))))) := by rw [hg 3 (by omega)]; exact a5
      have sn := zS0_new (g := h)
      have e3 := zh_stA0 (i := i) b5 sn.1 hlt
      generalize hg3 : (h ++ zS_cells h.length).set 3 (.inl (0, 36, .inr (.inr (.inr (.inr (va_up F i (some h.length))))))) = g3 at e3
      have l3 : g3.length = h.length + 4 := by rw [← hg3, List.length_set, List.length_append]; rfl
      have hk : ∀ p, p ≠ 3 → g3[p]? = (h ++ zS_cells h.length)[p]? := fun p hp => by rw [← hg3, zh_set_n (by omega)]
      have m3 : zM g3 ≤ zM h + 400 := by
        have x1 := zM_S h.length
        have x2 := zM_apl2 h (zS_cells h.length)
        have x3 : zM g3 = zM (h ++ zS_cells h.length) := by
          unfold zM
          rw [← hg3, List.length_set, zh_set_sz (c' := .inl (0, 36, .inr (.inr (.inr (.inr (va_up F i (some h.length))))))) b5 rfl]
        omega
      have mm : zM g3 ≤ B + 400 * (i + 1) := zar4 m3 a8
      obtain ⟨g, e4, z4⟩ := ih (i + 1) g3 hlt (by omega) ⟨by omega, by rw [hk 0 (by omega), hg 0 (by omega)]; exact a2, by rw [hk 1 (by omega), hg 1 (by omega)]; exact a3, by rw [hk 2 (by omega), hg 2 (by omega)]; exact a4, ⟨_, by rw [← hg3]; exact zh_set_s b5, fun s hs => by
        unfold va_up
        by_cases c : s = i
        · rw [if_pos c, c, a1]
        · rw [if_neg c]; exact a6 s (by omega)⟩, fun s hs => by
        by_cases c : s = i
        · subst c
          rw [← a1]
          exact zS0_k sn fun p hp hp2 => hk p (by omega)
        · exact zS0_k (a7 s (by omega)) fun p hp hp2 => by rw [hk p (by omega), hg p (by omega)], mm⟩
      refine ⟨g, ?_, z4⟩
      rw [if_neg (nI_ge hlt (by omega)), ze_b hA, ze_b2 e1, ze_b2 e2, ze_b e3, nI_1]
      exact e4
    · obtain rfl : i = 36 := by omega
      rw [if_pos (nI_le (Nat.le_refl _) (by decide))]
      exact ⟨h, rfl, z⟩
theorem zhinit : ∃ g, f_History_init 2 [c0, c1, .inr (6, zx_def 6)] = some ((), g) ∧ zHI c0 c1 (zM [c0, c1] + 200) 36 g := by
  rw [zd_6]
  have e1 : zf_newr 0 (36 : Int32) [c0, c1, .inr (6, [.null, .int 0])] = some (3, [c0, c1, .inr (6, [.null, .int 0]), .inl (0, 36, .inr (.inr (.inr (.inr fun _ => none))))]) := by
    unfold zf_newr
    rw [if_pos ⟨by decide, by decide, by show 3 < 1000000; decide⟩]
    rfl
  have e2 : zf_put 6 0 2 (.ref 3) [c0, c1, .inr (6, [.null, .int 0]), .inl (0, 36, .inr (.inr (.inr (.inr fun _ => none))))] = some [c0, c1, .inr (6, [.ref 3, .int 0]), .inl (0, 36, .inr (.inr (.inr (.inr fun _ => none))))] := zh_put (fs := [.null, .int 0]) (k := 0) rfl (by decide)
  have e3 : zf_put 6 1 2 (.int (0 : Int32)) [c0, c1, .inr (6, [.ref 3, .int 0]), .inl (0, 36, .inr (.inr (.inr (.inr fun _ => none))))] = some [c0, c1, .inr (6, [.ref 3, .int 0]), .inl (0, 36, .inr (.inr (.inr (.inr fun _ => none))))] := zh_put (fs := [.ref 3, .int 0]) (k := 1) rfl (by decide)
  unfold f_History_init
  rw [ze_b2 e1, ze_b e2, ze_b e3]
  have x := zM_apl2 [c0, c1] [.inr (6, [.ref 3, .int 0]), .inl (0, 36, .inr (.inr (.inr (.inr fun _ => none))))]
  have y : zM [.inr (6, [.ref 3, .int 0]), .inl (0, 36, .inr (.inr (.inr (.inr fun _ => none))))] ≤ 200 := by decide
  have z : zM [c0, c1, .inr (6, [.ref 3, .int 0]), .inl (0, 36, .inr (.inr (.inr (.inr fun _ => none))))] = _ := x
  obtain ⟨g, e, z⟩ := zhi20 (c0 := c0) (c1 := c1) (B := zM [c0, c1] + 200) zF 0 [c0, c1, .inr (6, [.ref 3, .int 0]), .inl (0, 36, .inr (.inr (.inr (.inr fun _ => none))))] (by decide) (by unfold zF; decide) ⟨rfl, rfl, rfl, rfl, ⟨_, rfl, fun s hs => absurd hs (Nat.not_lt_zero _)⟩, fun s hs => absurd hs (Nat.not_lt_zero _), by omega⟩
  rw [nI_0] at e
  exact ⟨g, e, z⟩
/-! the other parts -/
def zft (q : Nat) : zx_H := [.inr (4, [.ref (q + 1), .int 0]), .inl (1, 160, .inl fun _ => 0)]
theorem zft_i (hl : g.length < 500000) : f_FilterText_init g.length (g ++ [.inr (4, zx_def 4)]) = some ((), g ++ zft g.length) := by
  rw [zd_4]
  unfold f_FilterText_init
  rw [show (160 : Int32) = nI 160 from rfl, ze_b2 (zh_newI (by show _ + 1 < _; omega) (by decide)), List.cons_append, ze_b (zh_putE (by show _ < 2; decide)), ze_b (zh_putE (by show _ < 2; decide))]
  rfl
def ztk0 (q : Nat) : zx_H := [.inr (11, [.ref (q + 1), .ref (q + 2), .ref (q + 3), .int 0]), .inl (1, 161, .inl fun _ => 0), .inl (1, 161, .inl fun _ => 0), .inl (2, 161, .inr (.inl fun _ => 0))]
theorem ztk_i (hl : g.length < 500000) : f_Tokens_init g.length (g ++ [.inr (11, zx_def 11)]) = some ((), g ++ ztk0 g.length) := by
  rw [zd_11]
  unfold f_Tokens_init
  rw [show (161 : Int32) = nI 161 from rfl, ze_b2 (zh_newI (by show _ + 1 < _; omega) (by decide)), List.cons_append, ze_b (zh_putE (by show _ < 4; decide)), ze_b2 (zh_newI (by show _ + 2 < _; omega) (by decide)), List.cons_append, ze_b (zh_putE (by show _ < 4; decide)), ze_b2 (zh_newJ (by show _ + 3 < _; omega) (by decide)), List.cons_append, ze_b (zh_putE (by show _ < 4; decide)), ze_b (zh_putE (by show _ < 4; decide))]
  rfl
def zpa0 (q : Nat) : zx_H := [.inr (9, [.ref (q + 1), .ref (q + 2), .int 0]), .inl (1, 1600, .inl fun _ => 0), .inl (1, 1600, .inl fun _ => 0)]
theorem zpa_i (hl : g.length < 500000) : f_Pairs_init g.length (g ++ [.inr (9, zx_def 9)]) = some ((), g ++ zpa0 g.length) := by
  rw [zd_9]
  unfold f_Pairs_init
  rw [show (1600 : Int32) = nI 1600 from rfl, ze_b2 (zh_newI (by show _ + 1 < _; omega) (by decide)), List.cons_append, ze_b (zh_putE (by show _ < 3; decide)), ze_b2 (zh_newI (by show _ + 2 < _; omega) (by decide)), List.cons_append, ze_b (zh_putE (by show _ < 3; decide)), ze_b (zh_putE (by show _ < 3; decide))]
  rfl
def zgr0 (q : Nat) : zx_H := .inr (5, [.ref (q + 1), .ref (q + 5), .ref (q + 6), .int 0, .int 0]) :: (zS_cells (q + 1) ++ [.inl (2, 40, .inr (.inl fun _ => 0)), .inl (2, 40, .inr (.inl fun _ => 0))])
theorem zsheet_in {x : zx_E} (hl : g.length < 400000) : zf_new 10 (g ++ [x]) = some (g.length + 1, g ++ [x] ++ [.inr (10, zx_def 10)]) ∧ f_Sheet_init (g.length + 1) (g ++ [x] ++ [.inr (10, zx_def 10)]) = some ((), g ++ x :: zS_cells (g.length + 1)) := by
  have hlen : (g ++ [x]).length = g.length + 1 := List.length_append
  have e1 := zh_new (g := g ++ [x]) (ci := 10) (by omega)
  have e2 := zS_init (g := g ++ [x]) (by omega)
  rw [hlen] at e1 e2
  rw [List.append_assoc g [x] (zS_cells (g.length + 1))] at e2
  exact ⟨e1, e2⟩
theorem zgr_i (hl : g.length < 400000) : f_Groups_init g.length (g ++ [.inr (5, zx_def 5)]) = some ((), g ++ zgr0 g.length) := by
  rw [zd_5]
  unfold f_Groups_init
  obtain ⟨e1, e2⟩ := zsheet_in (g := g) (x := .inr (5, [.null, .null, .null, .int 0, .int 0])) hl
  rw [ze_b2 e1, ze_b2 e2, ze_b (zh_putE (by show _ < 5; decide)), show (40 : Int32) = nI 40 from rfl, ze_b2 (zh_newJ (by show _ + 5 < _; omega) (by decide)), List.cons_append, ze_b (zh_putE (by show _ < 5; decide)), ze_b2 (zh_newJ (by show _ + 6 < _; omega) (by decide)), List.cons_append, ze_b (zh_putE (by show _ < 5; decide)), ze_b (zh_putE (by show _ < 5; decide)), ze_b (zh_putE (by show _ < 5; decide))]
  rfl
end ZIN

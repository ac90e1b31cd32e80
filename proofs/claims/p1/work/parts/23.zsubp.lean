section ZYSP
variable {len : Nat} {s : Nat → Int32}
theorem zs_zxj {pc : Nat} {off : Int} {lv : List (Nat × Value)} {st : List Value} {f : zx_F} (h : (zx_j pc off).map (fun t => (t, lv, st)) = some f) : (zx_j pc off).map (fun t => (t, zs_lv len s lv, zs_st len s st)) = some (zs_f len s f) := by
  simp only [Option.map_eq_some_iff] at h ⊢
  obtain ⟨t, h1, rfl⟩ := h
  exact ⟨t, h1, rfl⟩
set_option maxHeartbeats 8000000 in
theorem zs_p {nL pc n : Nat} {lv : List (Nat × Value)} {st : List Value} {ins : Instr} {f : zx_F} (h : zx_p nL pc lv st ins n = some f) (hk : ((zy_pk ins).any fun g => g lv st f) = true) : zx_p nL pc (zs_lv len s lv) (zs_st len s st) ins n = some (zs_f len s f) := by
  unfold zx_p at h
  split at h
  all_goals (first
    | exact zs_ld h
    | exact zs_sv h
    | exact zs_zxj h
    | skip)
  all_goals (try (split at h))
  all_goals (try (cases h; done))
  all_goals (first
    | (cases h
       simp only [zy_pk, Option.any_some, zy_h0, zy_h1, zy_u, Bool.and_eq_true, and_true, true_and] at hk
       simp only [zx_p, zs_f, zs_v, zs_st, List.map_cons, zs_i_u, zs_l_u, hk]
       done)
    | (cases h
       simp only [zx_p, zs_f, zs_v, zs_st, List.map_cons]
       done)
    | skip)
  all_goals (try (split at h))
  all_goals (try (cases h; done))
  all_goals (first
    | (cases h
       simp only [zy_pk, Option.any_some, zy_h0, zy_h1, zy_u, Bool.and_eq_true, and_true, true_and] at hk
       simp only [zx_p, zs_f, zs_v, zs_st, List.map_cons, zs_i_u, zs_l_u, hk]
       first | done | (rw [if_neg ‹_›]; done) | (rw [if_pos ‹_›]; done))
    | (cases h
       simp only [zx_p, zs_f, zs_v, zs_st, List.map_cons, zs_cat]
       first | done | (rw [if_pos ‹_›]; done) | (rw [if_neg ‹_›]; done))
    | (simp only [zy_pk, Option.any_some, zy_h0, zy_h1, zy_u, Bool.and_eq_true, and_true, true_and] at hk
       simp only [zx_p, zs_v, zs_st, List.map_cons, zs_i_u, hk]
       exact zs_br h)
    | (simp only [zx_p, zs_v, zs_st, List.map_cons]
       exact zs_br h)
    | skip)
  · -- iinc
    next hx hc =>
    cases h
    simp only [zy_pk, Option.any_some, hx, Bool.and_eq_true] at hk
    simp only [zx_p, zs_lk, hx, Option.map_some, zs_v, zs_i_u hk.1, zs_f]
    rw [if_pos hc]
    have h9 := zs_s1 (len := len) (s := s) ‹Nat› (.int (‹Int32› + Int32.ofInt ‹Int›)) lv
    simp only [zs_v, zs_i_u hk.2] at h9
    rw [h9]
  · next hc =>
    cases h
    simp only [zx_p, zs_f, zs_st, List.map_cons, zs_cat]
    rw [if_pos hc]
  · next hc =>
    cases h
    simp only [zx_p, zs_f, zs_st, List.map_cons, zs_cat]
    rw [if_pos hc]
  · next hc =>
    cases h
    simp only [zx_p, zs_f, zs_st, List.map_cons, zs_cat]
    rw [if_pos hc]
  · next hc =>
    cases h
    simp only [zx_p, zs_f, zs_st, List.map_cons, zs_cat]
    rw [if_pos hc]
  · next hc =>
    simp only [zy_pk, Option.any_some, zy_h0, zy_u] at hk
    simp only [zx_p, zs_st, List.map_cons, zs_v, zs_i_u hk]
    rw [if_pos hc]
    exact zs_zxj h
  · next hc =>
    simp only [zy_pk, Option.any_some, zy_h0, zy_u] at hk
    simp only [zx_p, zs_st, List.map_cons, zs_v, zs_i_u hk]
    rw [if_neg hc]
    revert h
    split
    · intro h
      exact zs_zxj h
    · intro h; cases h
  · next hc =>
    simp only [zy_pk, Option.any_some, zy_h0, zy_u] at hk
    simp only [zx_p, zs_st, List.map_cons, zs_v, zs_i_u hk]
    rw [if_pos hc]
    exact zs_zxj h
end ZYSP

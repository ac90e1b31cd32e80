section ZYSH
variable {len : Nat} {s : Nat → Int32}
theorem zs_get (h : zx_H) (q : Nat) : (zs_h len s h)[q]? = (h[q]?).map (zs_e len s) := List.getElem?_map
theorem zs_hset (h : zx_H) (q : Nat) (e : zx_E) : zs_h len s (h.set q e) = (zs_h len s h).set q (zs_e len s e) := List.map_set
theorem zs_hpush (h : zx_H) (e : zx_E) : zs_h len s (h ++ [e]) = zs_h len s h ++ [zs_e len s e] := by simp [zs_h]
theorem zs_hlen (h : zx_H) : (zs_h len s h).length = h.length := List.length_map _
theorem zs_upd (f : Nat → Int32) (i : Nat) (x : Int32) : (fun j => zs_i len s (upd f i x j)) = upd (fun j => zs_i len s (f j)) i (zs_i len s x) := by
  funext j
  simp only [upd]
  split <;> rfl
theorem zs_updL (f : Nat → Int64) (i : Nat) (x : Int64) : (fun j => zs_l len s (vp_updL f i x j)) = vp_updL (fun j => zs_l len s (f j)) i (zs_l len s x) := by
  funext j
  simp only [vp_updL]
  split <;> rfl
theorem zs_cpy (f g : Nat → Int32) (a b n : Nat) : (fun j => zs_i len s (va_cpy f g a b n j)) = va_cpy (fun j => zs_i len s (f j)) (fun j => zs_i len s (g j)) a b n := by
  funext j
  simp only [va_cpy]
  split <;> rfl
theorem zs_cpyL (f g : Nat → Int64) (a b n : Nat) : (fun j => zs_l len s (va_cpy f g a b n j)) = va_cpy (fun j => zs_l len s (f j)) (fun j => zs_l len s (g j)) a b n := by
  funext j
  simp only [va_cpy]
  split <;> rfl
theorem zs_dv (ty : FieldType) : zs_v len s (defaultValue ty) = defaultValue ty := by
  cases ty <;> first | rfl | (exact zs_u (by decide))
theorem zs_def (ci : Nat) : (zx_def ci).map (zs_v len s) = zx_def ci := by
  unfold zx_def
  rw [List.map_map]
  exact List.map_congr_left fun ty _ => zs_dv ty
theorem zs_arr {ty : FieldType} {n : Nat} {a : vp_A} (h : zx_arr ty n = some a) : zs_a len s a = a := by
  have h0 : zs_i len s 0 = 0 := zs_i_n (by decide)
  have h1 : zs_l len s 0 = 0 := zs_l_n (by decide)
  unfold zx_arr at h
  split at h <;> first | (cases h; simp only [zs_a, h0, h1]; done) | (cases h; rfl) | (cases h; done)
theorem zs_getf (oc i q : Nat) (h : zx_H) : zx_getf oc i q (zs_h len s h) = (zx_getf oc i q h).map (zs_v len s) := by
  unfold zx_getf
  split
  · next kd ci k w _ =>
    rw [zs_get]
    cases hq : h[q]? with
    | none => rfl
    | some e =>
      match e with
      | .inl (t, a) => rfl
      | .inr (cj, fs) =>
        simp only [Option.map_some, zs_e]
        split
        · rw [List.getElem?_map]
        · rfl
  · rfl
theorem zs_putf {oc i q : Nat} {ini : Bool} {v : Value} {h h' : zx_H} (hv : zs_v len s v = v) (hp : zx_putf oc i q ini v h = some h') : zx_putf oc i q ini v (zs_h len s h) = some (zs_h len s h') := by
  unfold zx_putf at hp ⊢
  split at hp
  · next kd ci k w _ =>
    rw [zs_get]
    split at hp
    · next cj fs hq =>
      rw [hq]
      simp only [Option.map_some, zs_e]
      split at hp
      · next hc =>
        cases hp
        rw [if_pos (by rw [List.length_map]; exact hc), zs_hset]
        simp only [zs_e, List.map_set, hv]
      · cases hp
    · cases hp
  · cases hp
theorem zs_or (v : Value) : zx_or (zs_v len s v) = zx_or v := by cases v <;> rfl
theorem zs_or2 (v : Value) : zx_or2 (zs_v len s v) = zx_or2 v := by cases v <;> rfl
theorem zs_acmp {b : Bool} {pc : Nat} {off : Int} {lv : List (Nat × Value)} {st : List Value} {h h' : zx_H} {f : zx_F} (hz : (zx_br b pc off lv st).map (fun f => (f, h)) = some (f, h')) : (zx_br b pc off (zs_lv len s lv) (zs_st len s st)).map (fun f => (f, zs_h len s h)) = some (zs_f len s f, zs_h len s h') := by
  simp only [Option.map_eq_some_iff, Prod.mk.injEq] at hz ⊢
  obtain ⟨g, h1, rfl, rfl⟩ := hz
  exact ⟨_, zs_br h1, rfl, rfl⟩
theorem zs_rf (r : Option Nat) : zs_v len s (zx_rf r) = zx_rf r := by cases r <;> rfl
set_option maxHeartbeats 4000000 in
theorem zs_hh {oc pc n : Nat} {ini nf nf' : Bool} {lv : List (Nat × Value)} {st : List Value} {h h' : zx_H} {ins : Instr} {f : zx_F} (hz : zx_h oc ini ((0, fun _ => 0), nf) pc lv st h ins n = some (f, h')) (hk : ((zy_hk ins).any fun g => g st f) = true) : zx_h oc ini ((len, s), nf') pc (zs_lv len s lv) (zs_st len s st) (zs_h len s h) ins n = some (zs_f len s f, zs_h len s h') := by
  unfold zx_h at hz
  split at hz
  · -- getfield
    split at hz
    · simp only [Option.map_eq_some_iff, Prod.mk.injEq] at hz
      obtain ⟨v, hv, rfl, rfl⟩ := hz
      simp only [zx_h, List.map_cons, zs_vi, zs_vl, zs_vr, zs_vn, zs_vd, zs_getf, hv, Option.map_some]
      rfl
    · cases hz
  · -- putfield
    split at hz
    · simp only [Option.map_eq_some_iff, Prod.mk.injEq] at hz
      obtain ⟨v, hv, rfl, rfl⟩ := hz
      simp only [zy_hk, Option.any_some, zy_h0] at hk
      have hu := zs_u (len := len) (s := s) hk
      simp only [zx_h, List.map_cons, zs_vi, zs_vl, zs_vr, zs_vn, zs_vd, hu, zs_putf hu hv, Option.map_some]
      rfl
    · cases hz
  · -- new
    split at hz
    · next hp =>
      split at hz
      · next hc =>
        cases hz
        simp only [zx_h, hp, zs_hlen, hc, and_self, if_true, zs_hpush, zs_e, zs_def, zs_f, List.map_cons, zs_vi, zs_vl, zs_vr, zs_vn, zs_vd]
      · cases hz
    · cases hz
  · -- newarray
    split at hz
    · split at hz
      · next ha hb =>
        split at hz
        · next hc =>
          cases hz
          simp only [zy_hk, Option.any_some, zy_h0, zy_u] at hk
          simp only [zx_h, List.map_cons, zs_vi, zs_vl, zs_vr, zs_vn, zs_vd, zs_i_u hk, ha, hb, zs_hlen, hc, and_self, if_true, zs_hpush, zs_e, zs_arr hb, zs_f, not_false_eq_true]
        · cases hz
      · cases hz
    · cases hz
  · -- anewarray
    split at hz
    · split at hz
      · next hp =>
        split at hz
        · next ht =>
          split at hz
          · next hc =>
            cases hz
            simp only [zy_hk, Option.any_some, zy_h0, zy_u] at hk
            simp only [zx_h, List.map_cons, zs_vi, zs_vl, zs_vr, zs_vn, zs_vd, zs_i_u hk, hp, ht, zs_hlen, hc, and_self, if_true, zs_hpush, zs_e, zs_a, zs_f, not_false_eq_true]
          · cases hz
        · cases hz
      · cases hz
    · cases hz
  · -- arraylength
    split at hz
    · next q r =>
      split at hz
      · next hq =>
        simp only [zy_hk, Option.any_some, hq, ne_eq, not_true_eq_false, decide_false, Bool.false_and] at hk
        cases hk
      · next hq =>
        split at hz
        · next t9 n9 c9 hc =>
          split at hz
          · next ht =>
            cases hz
            simp only [zy_hk, Option.any_some, zy_h0, zy_u, Bool.and_eq_true] at hk
            obtain ⟨c8, hz9⟩ : ∃ c8, (zs_h len s h)[q]? = some (.inl (t9, n9, c8)) := by
              rw [zs_get, hc]
              rcases c9 with c9 | c9 | c9 | c9 | c9 <;> exact ⟨_, rfl⟩
            simp only [zx_h, List.map_cons, zs_vr, hq, if_false, hz9, zs_f, zs_vi, zs_i_u hk.2]
            rw [if_pos ht]
          · cases hz
        · cases hz
    · cases hz
  · -- iaload
    split at hz
    · simp only [zy_hk, Option.any_some, Bool.and_eq_true, decide_eq_true_eq] at hk
      split at hz
      · next hq => exact absurd hq hk.2
      · next hq =>
        split at hz
        · next hc =>
          split at hz
          · next ht =>
            cases hz
            simp only [zx_h, List.map_cons, zs_vi, zs_vl, zs_vr, zs_vn, zs_vd, hq, if_false, zs_get, hc, Option.map_some, zs_e, zs_a, zs_f, zs_i_u hk.1]
            rw [if_pos ht]
          · cases hz
        · cases hz
    · cases hz
  · -- laload
    split at hz
    · simp only [zy_hk, Option.any_some, zy_h0, zy_u] at hk
      split at hz
      · next hc =>
        split at hz
        · next ht =>
          cases hz
          simp only [zx_h, List.map_cons, zs_vi, zs_vl, zs_vr, zs_vn, zs_vd, zs_get, hc, Option.map_some, zs_e, zs_a, zs_f, zs_i_u hk]
          rw [if_pos ht]
        · cases hz
      · cases hz
    · cases hz
  · -- daload
    split at hz
    · simp only [zy_hk, Option.any_some, zy_h0, zy_u] at hk
      split at hz
      · next hc =>
        split at hz
        · next ht =>
          cases hz
          simp only [zx_h, List.map_cons, zs_vi, zs_vl, zs_vr, zs_vn, zs_vd, zs_get, hc, Option.map_some, zs_e, zs_a, zs_f, zs_i_u hk]
          rw [if_pos ht]
        · cases hz
      · cases hz
    · cases hz
  · -- baload
    split at hz
    · simp only [zy_hk, Option.any_some, zy_h0, zy_u] at hk
      split at hz
      · next hc =>
        split at hz
        · next ht =>
          cases hz
          simp only [zx_h, List.map_cons, zs_vi, zs_vl, zs_vr, zs_vn, zs_vd, zs_get, hc, Option.map_some, zs_e, zs_a, zs_f, zs_i_u hk]
          rw [if_pos ht]
        · cases hz
      · cases hz
    · cases hz
  · -- aaload
    split at hz
    · simp only [zy_hk, Option.any_some, zy_h0, zy_u] at hk
      split at hz
      · next hc =>
        split at hz
        · next ht =>
          split at hz
          · next hi =>
            cases hz
            simp only [zx_h, List.map_cons, zs_vi, zs_vl, zs_vr, zs_vn, zs_vd, zs_get, hc, Option.map_some, zs_e, zs_a, zs_f, zs_i_u hk, ht]
            rw [if_pos hi, zs_rf]
          · cases hz
        · cases hz
      · cases hz
    · cases hz
  · -- iastore
    split at hz
    · simp only [zy_hk, Option.any_some, zy_u] at hk
      split at hz
      · next hc =>
        split at hz
        · next ht =>
          cases hz
          simp only [zx_h, List.map_cons, zs_vi, zs_vl, zs_vr, zs_vn, zs_vd, zs_get, hc, Option.map_some, zs_e, zs_a, zs_f, zs_i_u hk]
          rw [if_pos ht, zs_hset]
          simp only [zs_e, zs_a, zs_upd]
        · cases hz
      · cases hz
    · cases hz
  · -- lastore
    split at hz
    · simp only [zy_hk, Option.any_some, zy_u] at hk
      split at hz
      · next hc =>
        split at hz
        · next ht =>
          cases hz
          simp only [zx_h, List.map_cons, zs_vi, zs_vl, zs_vr, zs_vn, zs_vd, zs_get, hc, Option.map_some, zs_e, zs_a, zs_f, zs_i_u hk]
          rw [if_pos ht, zs_hset]
          simp only [zs_e, zs_a, zs_updL]
        · cases hz
      · cases hz
    · cases hz
  · -- aastore
    split at hz
    · simp only [zy_hk, Option.any_some, zy_u] at hk
      split at hz
      · next hc =>
        split at hz
        · next ht =>
          split at hz
          · next hi =>
            cases hz
            simp only [zx_h, List.map_cons, zs_vi, zs_vl, zs_vr, zs_vn, zs_vd, zs_get, hc, Option.map_some, zs_e, zs_a, zs_f, zs_i_u hk, ht]
            rw [if_pos hi, zs_hset]
            rfl
          · cases hz
        · cases hz
      · cases hz
    · simp only [zy_hk, Option.any_some, zy_u] at hk
      split at hz
      · next hc =>
        split at hz
        · next ht hj hd =>
          split at hz
          · next hi =>
            cases hz
            simp only [zx_h, List.map_cons, zs_vi, zs_vl, zs_vr, zs_vn, zs_vd, zs_get, hc, hd, Option.map_some, zs_e, zs_a, zs_f, zs_i_u hk, ht, hj]
            rw [if_pos hi, zs_hset]
            rfl
          · cases hz
        · cases hz
      · cases hz
    · cases hz
  · -- if_acmp
    split at hz
    · split at hz
      · next h1 h2 =>
        split at hz
        · simp only [zx_h, List.map_cons, zs_or, h1, h2]
          exact zs_acmp hz
        · simp only [zx_h, List.map_cons, zs_or, h1, h2]
          exact zs_acmp hz
      · cases hz
    · cases hz
  · -- dastore
    split at hz
    · simp only [zy_hk, Option.any_some, zy_u] at hk
      split at hz
      · next hc =>
        split at hz
        · next ht =>
          cases hz
          simp only [zx_h, List.map_cons, zs_vi, zs_vl, zs_vr, zs_vn, zs_vd, zs_get, hc, Option.map_some, zs_e, zs_a, zs_f, zs_i_u hk]
          rw [if_pos ht, zs_hset]
          rfl
        · cases hz
      · cases hz
    · cases hz
  · -- invokespecial
    split at hz
    · split at hz
      · next hp =>
        split at hz
        · next hc =>
          cases hz
          simp only [zx_h, List.map_cons, zs_vi, zs_vl, zs_vr, zs_vn, zs_vd, hp]
          rw [if_pos (by rw [zs_cats]; exact hc)]
          rfl
        · cases hz
      · cases hz
    · cases hz
  · -- ldc2_w
    simp only [Option.map_eq_some_iff, Prod.mk.injEq] at hz
    obtain ⟨v, hv, rfl, rfl⟩ := hz
    simp only [zy_hk, Option.any_some, zy_h0, zy_u] at hk
    simp only [zx_h, hv, Option.map_some, zs_f, List.map_cons, zs_vi, zs_vl, zs_vr, zs_vn, zs_vd, zs_l_u hk]
  · cases hz
end ZYSH

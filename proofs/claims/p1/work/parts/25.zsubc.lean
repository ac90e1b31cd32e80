section ZYSC
variable {len : Nat} {s : Nat → Int32}
theorem zs_x_get {h : zx_H} {k : Nat} {q : FieldType × zx_E} (hl : h.length ≤ zx_lim) (hx : zx_x k = some q) : h[k]? = none := by
  unfold zx_x at hx
  split at hx
  · next hc => exact List.getElem?_eq_none (by omega)
  · cases hx
theorem zs_ob (h : zx_H) (k : Nat) : zx_ob (zs_h len s h) k = zx_ob h k := by
  unfold zx_ob
  rw [zs_get]
  cases hq : h[k]? with
  | none => rfl
  | some e => rcases e with ⟨t, n, c | c | c | c | c⟩ | ⟨c, fs⟩ <;> rfl
theorem zs_all {st : List Value} (h : st.all zy_u = true) : zs_st len s st = st := by
  induction st with
  | nil => rfl
  | cons v r ih =>
    simp only [List.all_cons, Bool.and_eq_true] at h
    simp only [zs_st, List.map_cons, zs_u h.1]
    exact congrArg _ (ih h.2)
set_option maxHeartbeats 4000000 in
theorem zs_stv {nf nf' sb : Bool} (hnf : nf = nf' ∨ sb = true) {x : Nat} {v : Value} (hv : (zt_stv nf)[x]? = some v) (hk : (match v with
    | .ref q => !sb || decide (q ≠ zx_lim + 6)
    | .null => !sb
    | _ => true) = true) : (zt_stv nf')[x]? = some v := by
  rcases hnf with rfl | rfl
  · exact hv
  · match x, hv with
    | 0, hv | 1, hv | 2, hv | 3, hv | 4, hv | 5, hv | 6, hv => exact hv
    | 7, hv =>
      cases nf <;> (simp [zt_stv] at hv; subst hv; simp at hk)
    | x + 8, hv => simp [zt_stv] at hv
theorem zs_hh2 {oc pc n : Nat} {nf nf' sb : Bool} (hnf : nf = nf' ∨ sb = true) {lv : List (Nat × Value)} {st : List Value} {h h' : zx_H} {ins : Instr} {f : zx_F} (hz : zx_h2 oc ((0, fun _ => 0), nf) pc lv st h ins n = some (f, h')) (hl : h.length ≤ zx_lim) (hk : ((zy_hk2 ins).any fun g => g sb st f) = true) : zx_h2 oc ((len, s), nf') pc (zs_lv len s lv) (zs_st len s st) (zs_h len s h) ins n = some (zs_f len s f, zs_h len s h') := by
  unfold zx_h2 at hz
  split at hz
  · -- getfield
    split at hz
    · split at hz
      · next hp hx =>
        split at hz
        · next hc =>
          split at hz
          · cases hz
          · next v hnr hv =>
            cases hz
            simp only [zy_hk2, Option.any_some, zy_h0] at hk
            have hu := zs_u (len := len) (s := s) hk
            simp only [zx_h2, List.map_cons, zs_vi, zs_vl, zs_vr, zs_vn, zs_vd, hp, hx, hc, if_true, hv, zs_f, hu]
            try rfl
          · cases hz
        · cases hz
      · cases hz
    · cases hz
  · -- getstatic
    split at hz
    · next hp =>
      simp only [Option.map_eq_some_iff, Prod.mk.injEq] at hz
      obtain ⟨v, hv, rfl, rfl⟩ := hz
      simp only [zy_hk2, Option.any_some, zy_h0, Bool.and_eq_true] at hk
      have hu := zs_u (len := len) (s := s) hk.1
      have hv' := zs_stv hnf hv (by
        have h9 := hk.2
        cases v <;> first | rfl | exact h9)
      simp only [zx_h2, hp, hv', Option.map_some, zs_f, List.map_cons, hu]
    · cases hz
  · -- arraylength
    split at hz
    · split at hz
      · next hx =>
        cases hz
        simp only [zy_hk2, Option.any_some, zy_h0, zy_u] at hk
        simp only [zx_h2, List.map_cons, zs_vi, zs_vl, zs_vr, zs_vn, zs_vd, hx, zs_f, zs_i_u hk]
      · cases hz
    · cases hz
  · -- baload
    split at hz
    · split at hz
      · next hx =>
        split at hz
        · next hi =>
          cases hz
          simp only [zy_hk2, Option.any_some, zy_h0, zy_u, Bool.and_eq_true] at hk
          simp only [zx_h2, List.map_cons, zs_vi, zs_vl, zs_vr, zs_vn, zs_vd, hx, zs_f, zs_i_u hk.1, zs_i_u hk.2]
          rw [if_pos hi]
        · cases hz
      · cases hz
    · cases hz
  · -- aaload
    split at hz
    · split at hz
      · next hx =>
        split at hz
        · next hi =>
          cases hz
          simp only [zy_hk2, Option.any_some, zy_h0, zy_u, Bool.and_eq_true] at hk
          simp only [zx_h2, List.map_cons, zs_vi, zs_vl, zs_vr, zs_vn, zs_vd, hx, zs_f, zs_i_u hk.1]
          rw [if_pos hi, zs_rf]
        · cases hz
      · cases hz
    · cases hz
  · -- aastore
    split at hz
    · simp only [zy_hk2, Option.any_some, zy_u] at hk
      split at hz
      · next hc =>
        split at hz
        · next hi =>
          cases hz
          simp only [zx_h2, List.map_cons, zs_vi, zs_vl, zs_vr, zs_vn, zs_vd, zs_get, hc, Option.map_some, zs_e, zs_a, zs_f, zs_i_u hk, zs_ob]
          rw [if_pos hi, zs_hset]
          rfl
        · cases hz
      · cases hz
    · cases hz
  · -- checkcast
    split at hz
    · cases hz; simp only [zx_h2, List.map_cons, zs_vi, zs_vl, zs_vr, zs_vn, zs_vd, zs_f]
    · split at hz
      · next hp =>
        split at hz
        · next hc =>
          split at hz
          · next hd =>
            cases hz
            simp only [zx_h2, List.map_cons, zs_vi, zs_vl, zs_vr, zs_vn, zs_vd, zs_f, hp, zs_get, hc, Option.map_some, zs_e, hd, and_self, if_true, ne_eq, not_false_eq_true]
          · cases hz
        · next hno =>
          split at hz
          · next hx =>
            split at hz
            · next hd =>
              cases hz
              simp only [zx_h2, List.map_cons, zs_vi, zs_vl, zs_vr, zs_vn, zs_vd, zs_f, hp, zs_get, zs_x_get hl hx, Option.map_none, hx, hd, and_self, if_true, ne_eq, not_false_eq_true]
            · cases hz
          · cases hz
      · next hp =>
        split at hz
        · next hc =>
          split at hz
          · next hd =>
            cases hz
            rename_i a9
            obtain ⟨n9, c9⟩ := a9
            rcases c9 with c9 | c9 | c9 | c9 | c9 <;> simp only [zx_h2, List.map_cons, zs_vi, zs_vl, zs_vr, zs_vn, zs_vd, zs_f, hp, zs_get, hc, Option.map_some, zs_e, zs_a, hd, if_true]
          · cases hz
        · cases hz
      · next hp =>
        split at hz
        · next hc =>
          cases hz
          simp only [zx_h2, List.map_cons, zs_vi, zs_vl, zs_vr, zs_vn, zs_vd, zs_f, hp]
          rw [if_pos hc]
        · cases hz
      · cases hz
    · cases hz
  · -- bastore
    split at hz
    · simp only [zy_hk2, Option.any_some, zy_h1, zy_u, Bool.and_eq_true] at hk
      split at hz
      · next hc =>
        split at hz
        · next hd =>
          cases hz
          simp only [zx_h2, List.map_cons, zs_vi, zs_vl, zs_vr, zs_vn, zs_vd, zs_get, hc, Option.map_some, zs_e, zs_a, zs_f, zs_i_u hk.1.1, zs_i_u hk.1.2]
          rw [if_pos hd, zs_hset]
          simp only [zs_e, zs_a, zs_upd, zs_i_u hk.2.1]
        · next hd0 =>
          split at hz
          · next hd =>
            cases hz
            simp only [zx_h2, List.map_cons, zs_vi, zs_vl, zs_vr, zs_vn, zs_vd, zs_get, hc, Option.map_some, zs_e, zs_a, zs_f, zs_i_u hk.1.1, zs_i_u hk.1.2]
            rw [if_neg hd0, if_pos hd, zs_hset]
            simp only [zs_e, zs_a, zs_upd, zs_i_u hk.2.2]
          · cases hz
      · cases hz
    · cases hz
  · -- invokestatic
    simp only [zy_hk2, Option.any_some, Bool.and_eq_true] at hk
    obtain ⟨hall, hf0⟩ := hk
    rw [zs_all hall]
    split at hz
    · next hp =>
      split at hz
      · split at hz
        · next hc =>
          cases hz
          simp only [List.all_cons, Bool.and_eq_true] at hall
          simp only [zy_h0] at hf0
          have hr := zs_all (len := len) (s := s) hall.2.2
          simp only [zx_h2, hp]
          rw [if_pos hc]
          simp only [zs_f, List.map_cons, zs_u hf0, hr]
        · cases hz
      · cases hz
    · next hp =>
      split at hz
      · split at hz
        · next hc =>
          cases hz
          simp only [List.all_cons, Bool.and_eq_true] at hall
          simp only [zy_h0] at hf0
          have hr := zs_all (len := len) (s := s) hall.2.2
          simp only [zx_h2, hp]
          rw [if_pos hc]
          simp only [zs_f, List.map_cons, zs_u hf0, hr]
        · cases hz
      · cases hz
    · next hp =>
      split at hz
      · split at hz
        · next hc =>
          cases hz
          simp only [List.all_cons, Bool.and_eq_true] at hall
          simp only [zy_h0] at hf0
          have hr := zs_all (len := len) (s := s) hall.2.2
          simp only [zx_h2, hp]
          rw [if_pos hc]
          simp only [zs_f, List.map_cons, zs_u hf0, hr]
        · cases hz
      · cases hz
    · next hp =>
      split at hz
      · simp only [List.all_cons, Bool.and_eq_true] at hall
        have hr := zs_all (len := len) (s := s) hall.2.2.2.2.2
        split at hz
        · next h0 h1 =>
          split at hz
          · next hc =>
            cases hz
            simp only [zx_h2, hp, zs_get, h0, h1, Option.map_some, zs_e, zs_a]
            rw [if_pos hc, zs_hset]
            simp only [zs_f, hr, zs_e, zs_a, zs_cpy]
          · cases hz
        · next h0 h1 =>
          split at hz
          · next hc =>
            cases hz
            simp only [zx_h2, hp, zs_get, h0, h1, Option.map_some, zs_e, zs_a]
            rw [if_pos hc, zs_hset]
            simp only [zs_f, hr, zs_e, zs_a, zs_cpyL]
          · cases hz
        · cases hz
      · cases hz
    · cases hz
  · -- ldc
    split at hz
    · next hp => cases hz; simp only [zx_h2, hp, zs_f, List.map_cons, zs_vi, zs_vl, zs_vr, zs_vn, zs_vd]
    · cases hz
  · -- ldc_w
    split at hz
    · next hp => cases hz; simp only [zx_h2, hp, zs_f, List.map_cons, zs_vi, zs_vl, zs_vr, zs_vn, zs_vd]
    · cases hz
  · -- if_acmp
    split at hz
    · split at hz
      · next h1 h2 =>
        split at hz
        · simp only [zx_h2, List.map_cons, zs_or2, h1, h2]
          exact zs_acmp hz
        · simp only [zx_h2, List.map_cons, zs_or2, h1, h2]
          exact zs_acmp hz
      · cases hz
    · cases hz
  · cases hz
/-! what an instruction is not -/
theorem zn_h_p {oc pc n : Nat} {ini : Bool} {sc : (Nat × (Nat → Int32)) × Bool} {lv : List (Nat × Value)} {st : List Value} {h : zx_H} {ins : Instr} {r : zx_F × zx_H} (hz : zx_h oc ini sc pc lv st h ins n = some r) (nL pc' : Nat) (lv' : List (Nat × Value)) (st' : List Value) : zx_p nL pc' lv' st' ins n = none := by
  unfold zx_h at hz
  split at hz <;> first | rfl | cases hz
theorem zn_h2_p {oc pc n : Nat} {sc : (Nat × (Nat → Int32)) × Bool} {lv : List (Nat × Value)} {st : List Value} {h : zx_H} {ins : Instr} {r : zx_F × zx_H} (hz : zx_h2 oc sc pc lv st h ins n = some r) (nL pc' : Nat) (lv' : List (Nat × Value)) (st' : List Value) : zx_p nL pc' lv' st' ins n = none := by
  unfold zx_h2 at hz
  split at hz <;> first | rfl | cases hz
theorem zn_rt {n : Nat} {ret : Option FieldType} {st : List Value} {ins : Instr} {v : Option Value} (hz : zx_rt ret st ins n = some v) (nL pc' oc : Nat) (ini : Bool) (sc : (Nat × (Nat → Int32)) × Bool) (lv' : List (Nat × Value)) (st' : List Value) (h : zx_H) : zx_p nL pc' lv' st' ins n = none ∧ zx_h oc ini sc pc' lv' st' h ins n = none ∧ zx_h2 oc sc pc' lv' st' h ins n = none := by
  unfold zx_rt at hz
  split at hz <;> first | exact ⟨rfl, rfl, rfl⟩ | cases hz
theorem zn_c {n oc : Nat} {st : List Value} {h : zx_H} {ins : Instr} {r : Nat × List Value × List Value} (hz : zx_c oc st h ins n = some r) (nL pc' : Nat) (ini : Bool) (sc : (Nat × (Nat → Int32)) × Bool) (lv' : List (Nat × Value)) (st' : List Value) (h' : zx_H) (ret : Option FieldType) : zx_p nL pc' lv' st' ins n = none ∧ zx_h oc ini sc pc' lv' st' h' ins n = none ∧ zx_h2 oc sc pc' lv' st' h' ins n = none ∧ zx_rt ret st' ins n = none := by
  unfold zx_c at hz
  split at hz
  · -- invokestatic
    split at hz
    · next hp =>
      split at hz
      · split at hz
        · next hc =>
          refine ⟨rfl, rfl, ?_, rfl⟩
          rcases hc.2.1 with h9 | ⟨h9, -⟩ <;> (subst h9; simp only [zx_h2, hp])
        · cases hz
      · cases hz
    · cases hz
  · exact ⟨rfl, rfl, rfl, rfl⟩
  · -- invokespecial
    split at hz
    · next hp =>
      split at hz
      · split at hz
        · split at hz
          · next hc =>
            refine ⟨rfl, ?_, rfl, rfl⟩
            simp only [zx_h, hp]
            split
            · rcases hc.2.1 with h9 | h9 <;> (subst h9; simp)
            · rfl
          · cases hz
        · cases hz
      · cases hz
    · cases hz
  · exact ⟨rfl, rfl, rfl, rfl⟩
  · cases hz
theorem zn_th {n oc pc : Nat} {cc : ByteArray} {st : List Value} {ins : Instr} {ci : Nat} (hz : zx_th oc cc pc st ins n = some ci) (nL pc' : Nat) (ini : Bool) (sc : (Nat × (Nat → Int32)) × Bool) (lv' : List (Nat × Value)) (st' : List Value) (h' : zx_H) (ret : Option FieldType) : zx_p nL pc' lv' st' ins n = none ∧ zx_h oc ini sc pc' lv' st' h' ins n = none ∧ zx_h2 oc sc pc' lv' st' h' ins n = none ∧ zx_rt ret st' ins n = none ∧ zx_c oc st' h' ins n = none := by
  unfold zx_th at hz
  split at hz
  · split at hz
    · next hp =>
      split at hz
      · next hc =>
        refine ⟨rfl, ?_, rfl, rfl, rfl⟩
        simp only [zx_h, hp]
        rw [if_neg (by omega)]
      · cases hz
    · cases hz
  · cases hz
/-- what stood before is none of the new cells -/
theorem zn_h2_h {oc pc n : Nat} {ini nf nf' sb : Bool} {lv : List (Nat × Value)} {st : List Value} {h h' : zx_H} {ins : Instr} {f : zx_F} (hz : zx_h2 oc ((0, fun _ => 0), nf) pc lv st h ins n = some (f, h')) (h0 : zx_h oc ini ((0, fun _ => 0), nf) pc lv st h ins n = none) (hl : h.length ≤ zx_lim) (hk : ((zy_hk2 ins).any fun g => g sb st f) = true) : zx_h oc ini ((len, s), nf') pc (zs_lv len s lv) (zs_st len s st) (zs_h len s h) ins n = none := by
  unfold zx_h2 at hz
  split at hz
  · -- getfield
    split at hz
    · split at hz
      · next hp hx =>
        have hn := zs_x_get hl hx
        simp only [zx_h, List.map_cons, zs_vi, zs_vl, zs_vr, zs_vn, zs_vd, zs_getf]
        unfold zx_getf
        split
        · rw [hn]; rfl
        · rfl
      · cases hz
    · cases hz
  · rfl
  · -- arraylength
    split at hz
    · split at hz
      · next hx =>
        have hn := zs_x_get hl hx
        simp only [zx_h, List.map_cons, zs_vi, zs_vl, zs_vr, zs_vn, zs_vd]
        rw [if_neg (by intro h9; unfold zx_x at hx; rw [h9, if_neg (Nat.lt_irrefl _)] at hx; cases hx)]
        simp only [zs_get, hn, Option.map_none]
      · cases hz
    · cases hz
  · -- baload
    split at hz
    · split at hz
      · next hx =>
        have hn := zs_x_get hl hx
        simp only [zx_h, List.map_cons, zs_vi, zs_vl, zs_vr, zs_vn, zs_vd, zs_get, hn, Option.map_none]
      · cases hz
    · cases hz
  · -- aaload
    split at hz
    · split at hz
      · next hx =>
        have hn := zs_x_get hl hx
        simp only [zx_h, List.map_cons, zs_vi, zs_vl, zs_vr, zs_vn, zs_vd, zs_get, hn, Option.map_none]
      · cases hz
    · cases hz
  · -- aastore
    split at hz
    · next k i q r =>
      split at hz
      · next hc =>
        simp only [zy_hk2, Option.any_some, zy_u] at hk
        simp only [zx_h, hc] at h0
        simp only [zx_h, List.map_cons, zs_vi, zs_vl, zs_vr, zs_vn, zs_vd, zs_get, hc, Option.map_some, zs_e, zs_a, zs_i_u hk]
        split
        · next ht hj hd =>
          cases hk9 : h[k]? with
          | none => rw [hk9] at hd; cases hd
          | some e =>
            rw [hk9] at hd
            rcases e with ⟨t, a⟩ | ⟨c, fs⟩
            · cases hd
            · simp only [Option.map_some, zs_e, Option.some.injEq, Sum.inr.injEq, Prod.mk.injEq] at hd
              obtain ⟨rfl, -⟩ := hd
              simp only [ht, hj, hk9] at h0
              split at h0
              · cases h0
              · next hno => rw [if_neg hno]
        · rfl
      · cases hz
    · cases hz
  · rfl
  · rfl
  · -- invokestatic
    rfl
  · rfl
  · rfl
  · -- if_acmp
    split at hz
    · have hbr : ∀ (b : Bool) (pc : Nat) (off : Int) (lv lv' : List (Nat × Value)) (st st' : List Value), zx_br b pc off lv st = none → zx_br b pc off lv' st' = none := by
        intro b pc off lv lv' st st' h9
        unfold zx_br at h9 ⊢
        split at h9
        · split at h9 <;> cases h9
        · rfl
      simp only [zx_h] at h0
      simp only [zx_h, List.map_cons, zs_or]
      split at h0
      · split at h0
        · simp only [Option.map_eq_none_iff] at h0 ⊢
          exact hbr _ _ _ _ _ _ _ h0
        · simp only [Option.map_eq_none_iff] at h0 ⊢
          exact hbr _ _ _ _ _ _ _ h0
      · rfl
    · cases hz
  · cases hz
/-- an answer -/
theorem zs_rt {ret : Option FieldType} {st : List Value} {ins : Instr} {n : Nat} {v : Option Value} (hz : zx_rt ret st ins n = some v) (hk : v.toList.all zy_u = true) : zx_rt ret (zs_st len s st) ins n = some (v.map (zs_v len s)) := by
  unfold zx_rt at hz
  split at hz
  · split at hz
    · split at hz
      · next hc =>
        cases hz
        simp only [Option.toList_some, List.all_cons, List.all_nil, Bool.and_true, zy_u] at hk
        simp only [zx_rt, List.map_cons, List.map_nil, zs_vi, zs_vl, zs_vr, zs_vn, zs_vd, zs_i_u hk, hc, if_true, Option.map_some]
      · cases hz
    · cases hz
  all_goals first | (cases hz; done) | (split at hz <;> first | (cases hz; rfl) | cases hz)
theorem zs_kl (h : zx_H) (q : Nat) : zx_kl (zs_h len s h) q = zx_kl h q := by
  unfold zx_kl
  rw [zs_get]
  rcases hq : h[q]? with _ | e
  · rfl
  · rcases e with ⟨t, n, c | c | c | c | c⟩ | ⟨c, fs⟩ <;> rfl
theorem zs_c {oc n : Nat} {st : List Value} {h : zx_H} {ins : Instr} {mj : Nat} {as rest : List Value} (hz : zx_c oc st h ins n = some (mj, as, rest)) : zx_c oc (zs_st len s st) (zs_h len s h) ins n = some (mj, zs_st len s as, zs_st len s rest) := by
  have hcs : ∀ l : List Value, zx_cs (zs_st len s l) = zx_cs l := fun l => by unfold zx_cs; rw [zs_cats]
  have hsl : ∀ l : List Value, (lg_sl (zs_st len s l)).length = (lg_sl l).length := fun l => by
    induction l with
    | nil => rfl
    | cons v as ih =>
      simp only [lg_sl, zs_st, List.map_cons, List.flatMap_cons, List.length_append, zs_cat] at ih ⊢
      rw [ih]
      split <;> rfl
  have htk : ∀ (k : Nat), ((zs_st len s st).take k).reverse = zs_st len s (st.take k).reverse := fun k => by simp [zs_st]
  have hdr : ∀ (k : Nat), (zs_st len s st).drop k = zs_st len s (st.drop k) := fun k => by simp [zs_st]
  have hll : (zs_st len s st).length = st.length := by simp [zs_st]
  have hrf : ∀ (q : Nat) (l : List Value), Value.ref q :: zs_st len s l = zs_st len s (.ref q :: l) := fun q l => rfl
  have hsq : ∀ (q k : Nat), (lg_sl (.ref q :: ((zs_st len s st).take k).reverse)).length = (lg_sl (.ref q :: (st.take k).reverse)).length := fun q k => by
    rw [htk]; exact hsl (.ref q :: (st.take k).reverse)
  unfold zx_c at hz
  split at hz
  · -- invokestatic
    split at hz
    · next kd mx y0 w0 hp =>
      split at hz
      · next y cy nL ret hh oj np h0 hs hsel hi hm =>
        split at hz
        · next hc =>
          cases hz
          simp only [zx_c, hp, hm]
          rw [if_pos (by rw [hdr, htk, hcs, hsl, hll]; exact hc), htk, hdr]
        · cases hz
      · cases hz
    · cases hz
  · -- invokevirtual
    split at hz
    · next kd mx y0 w0 hp =>
      split at hz
      · next y cy nL ret hh oj np h0 hs hsel hi hm =>
        split at hz
        · next q rst hd =>
          have hd' : (zs_st len s st).drop np = .ref q :: zs_st len s rst := by rw [hdr, hd]; rfl
          split at hz
          · next ci hq =>
            have hq' : zx_kl (zs_h len s h) q = some ci := by rw [zs_kl]; exact hq
            split at hz
            · next hc =>
              cases hz
              simp only [zx_c, hp, hm, hd', hq']
              rw [if_pos (by rw [hcs, hsq]; exact hc), htk]
              rfl
            · cases hz
          · cases hz
        · cases hz
      · cases hz
    · cases hz
  · -- invokespecial
    split at hz
    · next kd mx y0 w0 hp =>
      split at hz
      · next y cy nL ret hh oj np h0 hs hsel hi hm =>
        split at hz
        · next q rst hd =>
          have hd' : (zs_st len s st).drop np = .ref q :: zs_st len s rst := by rw [hdr, hd]; rfl
          split at hz
          · next hc =>
            cases hz
            simp only [zx_c, hp, hm, hd']
            rw [if_pos (by rw [hcs, hsq]; exact hc), htk]
            rfl
          · cases hz
        · cases hz
      · cases hz
    · cases hz
  · -- invokeinterface
    split at hz
    · next mx y0 w0 hp =>
      split at hz
      · next y cy nL ret hh oj np h0 hs hsel hi hm =>
        split at hz
        · next q rst hd =>
          have hd' : (zs_st len s st).drop np = .ref q :: zs_st len s rst := by rw [hdr, hd]; rfl
          split at hz
          · next ci fs hq =>
            have hq' : (zs_h len s h)[q]? = some (.inr (ci, fs.map (zs_v len s))) := by rw [zs_get, hq]; rfl
            split at hz
            · next hc =>
              cases hz
              simp only [zx_c, hp, hm, hd', hq']
              rw [if_pos (by rw [hcs, hsq]; exact hc), htk]
              rfl
            · cases hz
          · cases hz
        · cases hz
      · cases hz
    · cases hz
  · cases hz
theorem zs_th {oc pc n : Nat} {cc : ByteArray} {st : List Value} {ins : Instr} {ci : Nat} (hz : zx_th oc cc pc st ins n = some ci) : zx_th oc cc pc (zs_st len s st) ins n = some ci := by
  have hcs : zx_cs (zs_st len s st) = zx_cs st := by unfold zx_cs; rw [zs_cats]
  unfold zx_th at hz ⊢
  simp only [hcs]
  exact hz
theorem zs_ca {cc : ByteArray} {nL hp : Nat} {lv : List (Nat × Value)} {f : zx_F} (hz : zx_ca cc nL hp lv = some f) : zx_ca cc nL hp (zs_lv len s lv) = some (zs_f len s f) := by
  have ht : ∀ k, (zx_s1 k .null (zs_lv len s lv)).tail = zs_lv len s (zx_s1 k .null lv).tail := fun k => by
    have h9 := zs_s1 (len := len) (s := s) k .null lv
    rw [show zs_v len s .null = .null from rfl] at h9
    rw [h9]
    simp [zs_lv, List.map_tail]
  unfold zx_ca at hz
  split at hz
  · next hd =>
    simp only [zx_ca, hd]
    split at hz
    · next hc => cases hz; rw [if_pos hc, ht]; rfl
    · cases hz
  · next hd =>
    simp only [zx_ca, hd]
    split at hz
    · next hc => cases hz; rw [if_pos hc, ht]; rfl
    · cases hz
  · cases hz
theorem zs_args (as : List Value) : ∀ i, lv_args i (zs_st len s as) = zs_lv len s (lv_args i as) := by
  induction as with
  | nil => intro i; rfl
  | cons v as ih =>
    intro i
    have h9 := ih
    simp only [zs_st, List.map_cons, lv_args, zs_cat, zs_lv] at h9 ⊢
    rw [h9]
end ZYSC

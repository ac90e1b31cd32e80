/-! ===== the rows by which a method's function is shown to be what the evaluator does ===== -/
noncomputable def zd_at (t : zd_T) (pc : Nat) : Option (Instr × Nat) := (t[pc / 32]?).bind (zd_lf pc)
noncomputable def zd_ps (t : zd_T) (nL : Nat) : Nat → zx_F → Option zx_F
  | 0, f => some f
  | k + 1, f => match zd_at t f.1 with
    | some (ins, len) => match zx_p nL f.1 f.2.1 f.2.2 ins len with
      | some f' => zd_ps t nL k f'
      | none => none
    | none => none
section ZVR
variable {sc : (Nat × (Nat → Int32)) × Bool} {d mi pc : Nat} {lv : List (Nat × Value)} {st : List Value} {h h1 h' : zx_H} {o : zx_O} {y : MethodName} {cc : ByteArray} {nL : Nat} {ret : Option FieldType} {hh : List (Nat × Nat × Nat × Nat)} {oc np hc hs hsel hi : Nat} {ins : Instr} {len : Nat} {f f' : zx_F} {t : zd_T}
theorem zv_d (hq : zt_m[mi]? = some (y, cc, nL, ret, hh, oc, np, hc, hs, hsel, hi)) (zo : zd_of mi = some t) (hd : zd_at t pc = some (ins, len)) : decode cc pc = .ok (ins, len) := zd_ok hq (by unfold zd; rw [zo]; exact hd)
theorem zv_p {k : Nat} (hq : zt_m[mi]? = some (y, cc, nL, ret, hh, oc, np, hc, hs, hsel, hi)) (zo : zd_of mi = some t) (hp : zd_ps t nL k f = some f') (k9 : zx_T sc d mi f' h o h') : zx_T sc d mi f h o h' := by
  induction k generalizing f with
  | zero => cases hp; exact k9
  | succ k ih =>
    obtain ⟨pc, lv, st⟩ := f
    unfold zd_ps at hp
    split at hp
    · next ins len hd =>
      split at hp
      · next f1 h1 => exact zx_T_p hq (zv_d hq zo hd) h1 (ih hp)
      · cases hp
    · cases hp
theorem zv_gf {i kd ci k w q : Nat} {v : Value} (hq : zt_m[mi]? = some (y, cc, nL, ret, hh, oc, np, hc, hs, hsel, hi)) (zo : zd_of mi = some t) (hd : zd_at t pc = some (.getfield i, 3)) (hp : zx_pool oc i = some (kd, ci, k, w)) (hk : Nat.ble kd 1 = true) (hv : zf_get ci k q h = some v) (k9 : zx_T sc d mi (pc + 3, lv, v :: st) h o h') : zx_T sc d mi (pc, lv, .ref q :: st) h o h' := by
  have hk := Nat.le_of_ble_eq_true hk
  refine zx_T_h hq (zv_d hq zo hd) rfl ?_ k9
  show (zx_getf oc i q h).map _ = _
  unfold zf_get at hv
  unfold zx_getf
  rw [hp]
  split at hv
  · next cj fs he =>
    split at hv
    · next hc => simp only [he]; rw [if_pos ⟨hk, hc⟩, hv]; rfl
    · cases hv
  · cases hv
theorem zv_gfx {i ci k w q : Nat} {v : Value} (hq : zt_m[mi]? = some (y, cc, nL, ret, hh, oc, np, hc, hs, hsel, hi)) (zo : zd_of mi = some t) (hd : zd_at t pc = some (.getfield i, 3)) (hp : zx_pool oc i = some (0, ci, k, w)) (hv : zfx_get ci k q h = some v) (k9 : zx_T sc d mi (pc + 3, lv, v :: st) h o h') : zx_T sc d mi (pc, lv, .ref q :: st) h o h' := by
  unfold zfx_get at hv
  split at hv
  · next cj fs he => exact zv_gf hq zo hd hp rfl (by unfold zf_get; rw [he]; exact hv) k9
  · cases hv
  · next he =>
    split at hv
    · next C cj fs hx =>
      split at hv
      · next hc =>
        subst hc
        refine zx_T_h2 hq (zv_d hq zo hd) rfl ?_ ?_ k9
        · show (zx_getf oc i q h).map _ = _
          unfold zx_getf
          rw [hp]
          simp only [he]
          rfl
        · simp only [zx_h2, hp, hx, if_true]
          split at hv
          · cases hv
          · next hr => 
            split
            · next z hz => rw [hz] at hv; exact absurd hz (hr z)
            · next v' hv' hn => rw [hn] at hv; cases hv; rfl
            · next hn => rw [hn] at hv; cases hv
      · cases hv
    · cases hv
theorem zv_pf {i kd ci k w q : Nat} {v : Value} (hq : zt_m[mi]? = some (y, cc, nL, ret, hh, oc, np, hc, hs, hsel, hi)) (zo : zd_of mi = some t) (hd : zd_at t pc = some (.putfield i, 3)) (hp : zx_pool oc i = some (kd, ci, k, w)) (hn : narrow (zx_ftype ci k) v = v) (hb : (fits (zx_ftype ci k) v && ((Nat.ble kd 1 && !zx_fin ci k) || (Nat.beq kd 0 && (hs == 2) && zx_fin ci k && Nat.beq oc ci && zx_own ci k))) = true) (hv : zf_put ci k q v h = some h1) (k9 : zx_T sc d mi (pc + 3, lv, st) h1 o h') : zx_T sc d mi (pc, lv, v :: .ref q :: st) h o h' := by
  refine zx_T_h hq (zv_d hq zo hd) rfl ?_ k9
  show (zx_putf oc i q (hs == 2) v h).map _ = _
  unfold zf_put at hv
  unfold zx_putf
  rw [hp]
  simp only [Bool.and_eq_true, Bool.or_eq_true, Bool.not_eq_true', Nat.ble_eq, Nat.beq_eq] at hb
  obtain ⟨hf, hb⟩ := hb
  have hb' : (kd ≤ 1 ∧ zx_fin ci k = false) ∨ (kd = 0 ∧ (hs == 2) = true ∧ zx_fin ci k = true ∧ oc = ci ∧ zx_own ci k = true) := by
    rcases hb with hb | ⟨⟨⟨⟨b1, b2⟩, b3⟩, b4⟩, b5⟩
    · exact Or.inl hb
    · exact Or.inr ⟨b1, b2, b3, b4, b5⟩
  split at hv
  · next cj fs he =>
    split at hv
    · next hc => cases hv; simp only [he]; rw [if_pos ⟨hc.1, hc.2, hn, hf, hb'⟩]; rfl
    · cases hv
  · cases hv
theorem zv_new {i ci w z q : Nat} (hq : zt_m[mi]? = some (y, cc, nL, ret, hh, oc, np, hc, hs, hsel, hi)) (zo : zd_of mi = some t) (hd : zd_at t pc = some (.new i, 3)) (hp : zx_pool oc i = some (2, ci, w, z)) (hk : Nat.blt ci zt_x0 = true) (hv : zf_new ci h = some (q, h1)) (k9 : zx_T sc d mi (pc + 3, lv, .ref q :: st) h1 o h') : zx_T sc d mi (pc, lv, st) h o h' := by
  unfold zf_new at hv
  split at hv
  · next hc =>
    cases hv
    refine zx_T_h hq (zv_d hq zo hd) rfl ?_ k9
    simp only [zx_h, hp]
    rw [if_pos ⟨trivial, Nat.le_of_ble_eq_true hk, hc⟩]
  · cases hv
theorem zv_newa {aty : ArrayType} {n : Int32} {tt q : Nat} (hq : zt_m[mi]? = some (y, cc, nL, ret, hh, oc, np, hc, hs, hsel, hi)) (zo : zd_of mi = some t) (hd : zd_at t pc = some (.newarray aty, 2)) (ht : zx_at (newarray.typeOf aty) = some tt) (hv : zf_newa (newarray.typeOf aty) tt n h = some (q, h1)) (k9 : zx_T sc d mi (pc + 2, lv, .ref q :: st) h1 o h') : zx_T sc d mi (pc, lv, .int n :: st) h o h' := by
  unfold zf_newa at hv
  split at hv
  · next a0 ha =>
    split at hv
    · next hc =>
      cases hv
      refine zx_T_h hq (zv_d hq zo hd) rfl ?_ k9
      simp only [zx_h, ht, ha]
      rw [if_pos hc]
    · cases hv
  · cases hv
theorem zv_newr {i x tt w q : Nat} {C : String} {n : Int32} (hq : zt_m[mi]? = some (y, cc, nL, ret, hh, oc, np, hc, hs, hsel, hi)) (zo : zd_of mi = some t) (hd : zd_at t pc = some (.anewarray i, 3)) (hp : zx_pool oc i = some (2, x, tt, w)) (ht : zt_at[tt]? = some (.object C)) (hv : zf_newr tt n h = some (q, h1)) (k9 : zx_T sc d mi (pc + 3, lv, .ref q :: st) h1 o h') : zx_T sc d mi (pc, lv, .int n :: st) h o h' := by
  unfold zf_newr at hv
  split at hv
  · next hc =>
    cases hv
    refine zx_T_h hq (zv_d hq zo hd) rfl ?_ k9
    simp only [zx_h, hp, ht]
    rw [if_pos ⟨trivial, hc⟩]
  · cases hv
theorem zv_len {q : Nat} {v : Int32} (hq : zt_m[mi]? = some (y, cc, nL, ret, hh, oc, np, hc, hs, hsel, hi)) (zo : zd_of mi = some t) (hd : zd_at t pc = some (.arraylength, 1)) (hv : zf_len q h = some v) (k9 : zx_T sc d mi (pc + 1, lv, .int v :: st) h o h') : zx_T sc d mi (pc, lv, .ref q :: st) h o h' := by
  unfold zf_len at hv
  split at hv
  · cases hv
  · next hq9 =>
    split at hv
    · next tt n x he =>
      split at hv
      · next hc =>
        cases hv
        refine zx_T_h hq (zv_d hq zo hd) rfl ?_ k9
        simp only [zx_h, he, if_neg hq9]
        rw [if_pos hc]
      · cases hv
    · cases hv
    · next he =>
      split at hv
      · next C w n x hx =>
        cases hv
        refine zx_T_h2 hq (zv_d hq zo hd) rfl ?_ ?_ k9
        · simp only [zx_h, he, if_neg hq9]
        · simp only [zx_h2, hx]
      · cases hv
theorem zv_slen  (hq : zt_m[mi]? = some (y, cc, nL, ret, hh, oc, np, hc, hs, hsel, hi)) (zo : zd_of mi = some t) (hd : zd_at t pc = some (.arraylength, 1))  (k9 : zx_T sc d mi (pc + 1, lv, .int (Int32.ofNat sc.1.1) :: st) h o h') : zx_T sc d mi (pc, lv, .ref zx_lim :: st) h o h' := by
  refine zx_T_h hq (zv_d hq zo hd) rfl ?_ k9
  simp only [zx_h, if_true]
theorem zv_sld {i v : Int32} (hq : zt_m[mi]? = some (y, cc, nL, ret, hh, oc, np, hc, hs, hsel, hi)) (zo : zd_of mi = some t) (hd : zd_at t pc = some (.iaload, 1)) (hv : zf_sld sc i = some v) (k9 : zx_T sc d mi (pc + 1, lv, .int v :: st) h o h') : zx_T sc d mi (pc, lv, .int i :: .ref zx_lim :: st) h o h' := by
  unfold zf_sld at hv
  split at hv
  · next hc =>
    cases hv
    refine zx_T_h hq (zv_d hq zo hd) rfl ?_ k9
    simp only [zx_h, if_true]
    rw [if_pos hc]
  · cases hv
theorem zv_ldI {q : Nat} {i v : Int32} (hq : zt_m[mi]? = some (y, cc, nL, ret, hh, oc, np, hc, hs, hsel, hi)) (zo : zd_of mi = some t) (hd : zd_at t pc = some (.iaload, 1)) (hv : zf_ldI q i h = some v) (k9 : zx_T sc d mi (pc + 1, lv, .int v :: st) h o h') : zx_T sc d mi (pc, lv, .int i :: .ref q :: st) h o h' := by
  unfold zf_ldI at hv
  split at hv
  · cases hv
  · next hq9 =>
    split at hv
    · next tt n x he =>
      split at hv
      · next hc =>
        cases hv
        refine zx_T_h hq (zv_d hq zo hd) rfl ?_ k9
        simp only [zx_h, he, if_neg hq9]
        rw [if_pos hc]
      · cases hv
    · cases hv
theorem zv_ldJ {q : Nat} {i : Int32} {v : Int64} (hq : zt_m[mi]? = some (y, cc, nL, ret, hh, oc, np, hc, hs, hsel, hi)) (zo : zd_of mi = some t) (hd : zd_at t pc = some (.laload, 1)) (hv : zf_ldJ q i h = some v) (k9 : zx_T sc d mi (pc + 1, lv, .long v :: st) h o h') : zx_T sc d mi (pc, lv, .int i :: .ref q :: st) h o h' := by
  unfold zf_ldJ at hv
  split at hv
  · next tt n x he =>
    split at hv
    · next hc =>
      cases hv
      refine zx_T_h hq (zv_d hq zo hd) rfl ?_ k9
      simp only [zx_h, he]
      rw [if_pos hc]
    · cases hv
  · cases hv
theorem zv_ldB {q : Nat} {i v : Int32} (hq : zt_m[mi]? = some (y, cc, nL, ret, hh, oc, np, hc, hs, hsel, hi)) (zo : zd_of mi = some t) (hd : zd_at t pc = some (.baload, 1)) (hv : zf_ldB q i h = some v) (k9 : zx_T sc d mi (pc + 1, lv, .int v :: st) h o h') : zx_T sc d mi (pc, lv, .int i :: .ref q :: st) h o h' := by
  unfold zf_ldB at hv
  split at hv
  · next tt n x he =>
    split at hv
    · next hc =>
      cases hv
      refine zx_T_h hq (zv_d hq zo hd) rfl ?_ k9
      simp only [zx_h, he]
      rw [if_pos hc]
    · cases hv
  · cases hv
  · next he =>
    split at hv
    · next w n x hx =>
      split at hv
      · next hc =>
        cases hv
        refine zx_T_h2 hq (zv_d hq zo hd) rfl ?_ ?_ k9
        · simp only [zx_h, he]
        · simp only [zx_h2, hx]
          rw [if_pos hc]
      · cases hv
    · cases hv
theorem zv_ldA {q v : Nat} {i : Int32} (hq : zt_m[mi]? = some (y, cc, nL, ret, hh, oc, np, hc, hs, hsel, hi)) (zo : zd_of mi = some t) (hd : zd_at t pc = some (.aaload, 1)) (hv : zf_ldA q i h = some v) (k9 : zx_T sc d mi (pc + 1, lv, .ref v :: st) h o h') : zx_T sc d mi (pc, lv, .int i :: .ref q :: st) h o h' := by
  unfold zf_ldA at hv
  split at hv
  · next tt n x he =>
    split at hv
    · next C hat =>
      split at hv
      · next hc =>
        refine zx_T_h hq (zv_d hq zo hd) rfl ?_ k9
        simp only [zx_h, he, hat]
        rw [if_pos hc, hv]
        rfl
      · cases hv
    · next C hat =>
      split at hv
      · next hc =>
        refine zx_T_h2 hq (zv_d hq zo hd) rfl ?_ ?_ k9
        · simp only [zx_h, he, hat]
        · simp only [zx_h2, he, hat]
          rw [if_pos hc, hv]
          rfl
      · cases hv
    · cases hv
  · cases hv
theorem zv_stI {q : Nat} {i : Int32} {v : Int32} (hq : zt_m[mi]? = some (y, cc, nL, ret, hh, oc, np, hc, hs, hsel, hi)) (zo : zd_of mi = some t) (hd : zd_at t pc = some (.iastore, 1)) (hv : zf_stI q i v h = some h1) (k9 : zx_T sc d mi (pc + 1, lv, st) h1 o h') : zx_T sc d mi (pc, lv, .int v :: .int i :: .ref q :: st) h o h' := by
  unfold zf_stI at hv
  split at hv
  · next tt n x he =>
    split at hv
    · next hc =>
      cases hv
      refine zx_T_h hq (zv_d hq zo hd) rfl ?_ k9
      simp only [zx_h, he]
      rw [if_pos hc]
    · cases hv
  · cases hv
theorem zv_stJ {q : Nat} {i : Int32} {v : Int64} (hq : zt_m[mi]? = some (y, cc, nL, ret, hh, oc, np, hc, hs, hsel, hi)) (zo : zd_of mi = some t) (hd : zd_at t pc = some (.lastore, 1)) (hv : zf_stJ q i v h = some h1) (k9 : zx_T sc d mi (pc + 1, lv, st) h1 o h') : zx_T sc d mi (pc, lv, .long v :: .int i :: .ref q :: st) h o h' := by
  unfold zf_stJ at hv
  split at hv
  · next tt n x he =>
    split at hv
    · next hc =>
      cases hv
      refine zx_T_h hq (zv_d hq zo hd) rfl ?_ k9
      simp only [zx_h, he]
      rw [if_pos hc]
    · cases hv
  · cases hv
theorem zv_stB {q : Nat} {i v : Int32} (hq : zt_m[mi]? = some (y, cc, nL, ret, hh, oc, np, hc, hs, hsel, hi)) (zo : zd_of mi = some t) (hd : zd_at t pc = some (.bastore, 1)) (hv : zf_stB q i v h = some h1) (k9 : zx_T sc d mi (pc + 1, lv, st) h1 o h') : zx_T sc d mi (pc, lv, .int v :: .int i :: .ref q :: st) h o h' := by
  unfold zf_stB at hv
  split at hv
  · next tt n x he =>
    refine zx_T_h2 hq (zv_d hq zo hd) rfl rfl ?_ k9
    simp only [zx_h2, he]
    split at hv
    · next hc => cases hv; rw [if_pos hc]
    · next hc =>
      rw [if_neg hc]
      split at hv
      · next hc => cases hv; rw [if_pos hc]
      · cases hv
  · cases hv
theorem zv_stA {q k : Nat} {i : Int32} (hq : zt_m[mi]? = some (y, cc, nL, ret, hh, oc, np, hc, hs, hsel, hi)) (zo : zd_of mi = some t) (hd : zd_at t pc = some (.aastore, 1)) (hv : zf_stA q i k h = some h1) (k9 : zx_T sc d mi (pc + 1, lv, st) h1 o h') : zx_T sc d mi (pc, lv, .ref k :: .int i :: .ref q :: st) h o h' := by
  unfold zf_stA at hv
  split at hv
  · next tt n x he =>
    split at hv
    · next C cj ci fs e1 e2 e3 =>
      split at hv
      · next hc =>
        cases hv
        refine zx_T_h hq (zv_d hq zo hd) rfl ?_ k9
        simp only [zx_h, he, e1, e2, e3]
        rw [if_pos hc]
      · cases hv
    · next C cj e1 e2 e3 =>
      split at hv
      · next C8 ci fs hxx =>
        split at hv
        · next hc =>
          cases hv
          refine zx_T_h2 hq (zv_d hq zo hd) rfl ?_ ?_ k9
          · simp only [zx_h, he, e1, e2, e3]
          · have hob : ¬ (tt = zt_objT ∧ zt_objT ≠ 999 ∧ zx_ob h k = true ∧ zx_in i n) := fun z => z.2.1 rfl
            simp only [zx_h2, he]
            rw [if_neg hob]
            simp only [e1, e2, hxx]
            rw [if_pos hc]
        · cases hv
      · cases hv
    · cases hv
  · cases hv
theorem zv_multi {i tt t2 y9 w9 q : Nat} {ty : FieldType} {n m : Int32} (hq : zt_m[mi]? = some (y, cc, nL, ret, hh, oc, np, hc, hs, hsel, hi)) (zo : zd_of mi = some t) (hd : zd_at t pc = some (.multianewarray i 2, 4)) (hp : zx_pool oc i = some (18, tt, y9, w9)) (ht : zt_at[tt]? = some (.array ty)) (ht2 : zx_at ty = some t2) (hv : zf_multi ty tt t2 n m h = some (q, h1)) (k9 : zx_T sc d mi (pc + 4, lv, .ref q :: st) h1 o h') : zx_T sc d mi (pc, lv, .int m :: .int n :: st) h o h' := by
  unfold zf_multi at hv
  split at hv
  · next a0 ha =>
    split at hv
    · next hc =>
      cases hv
      refine zx_T_h2 hq (zv_d hq zo hd) rfl rfl ?_ k9
      simp only [zx_h2, hp, ht, ht2, ha]
      rw [if_pos ⟨trivial, hc⟩]
    · cases hv
  · cases hv
theorem zv_mm0 {i u w : Nat} {x z : Int32} (hq : zt_m[mi]? = some (y, cc, nL, ret, hh, oc, np, hc, hs, hsel, hi)) (zo : zd_of mi = some t) (hd : zd_at t pc = some (.invokestatic i, 3)) (hp : zx_pool oc i = some (16, u, 0, w)) (hsm : Nat.ble ((st.map fun v => v.category).sum) 8 = true) (k9 : zx_T sc d mi (pc + 3, lv, .int (if x < z then z else x) :: st) h o h') : zx_T sc d mi (pc, lv, .int z :: .int x :: st) h o h' := by
  refine zx_T_h2 hq (zv_d hq zo hd) rfl rfl ?_ k9
  simp only [zx_h2, hp]
  rw [if_pos (Nat.le_of_ble_eq_true hsm)]
theorem zv_mm1 {i u w : Nat} {x z : Int32} (hq : zt_m[mi]? = some (y, cc, nL, ret, hh, oc, np, hc, hs, hsel, hi)) (zo : zd_of mi = some t) (hd : zd_at t pc = some (.invokestatic i, 3)) (hp : zx_pool oc i = some (16, u, 1, w)) (hsm : Nat.ble ((st.map fun v => v.category).sum) 8 = true) (k9 : zx_T sc d mi (pc + 3, lv, .int (if z < x then z else x) :: st) h o h') : zx_T sc d mi (pc, lv, .int z :: .int x :: st) h o h' := by
  refine zx_T_h2 hq (zv_d hq zo hd) rfl rfl ?_ k9
  simp only [zx_h2, hp]
  rw [if_pos (Nat.le_of_ble_eq_true hsm)]
theorem zv_mm2 {i u w : Nat} {x z : Int64} (hq : zt_m[mi]? = some (y, cc, nL, ret, hh, oc, np, hc, hs, hsel, hi)) (zo : zd_of mi = some t) (hd : zd_at t pc = some (.invokestatic i, 3)) (hp : zx_pool oc i = some (16, u, 2, w)) (hsm : Nat.ble ((st.map fun v => v.category).sum) 8 = true) (k9 : zx_T sc d mi (pc + 3, lv, .long (if z < x then z else x) :: st) h o h') : zx_T sc d mi (pc, lv, .long z :: .long x :: st) h o h' := by
  refine zx_T_h2 hq (zv_d hq zo hd) rfl rfl ?_ k9
  simp only [zx_h2, hp]
  rw [if_pos (Nat.le_of_ble_eq_true hsm)]
theorem zv_cpy {i u w z q0 q1 : Nat} {sp dp ln : Int32} (hq : zt_m[mi]? = some (y, cc, nL, ret, hh, oc, np, hc, hs, hsel, hi)) (zo : zd_of mi = some t) (hd : zd_at t pc = some (.invokestatic i, 3)) (hp : zx_pool oc i = some (17, u, w, z)) (hsm : Nat.ble ((st.map fun v => v.category).sum) 8 = true) (hv : zf_cpy q0 sp q1 dp ln h = some h1) (k9 : zx_T sc d mi (pc + 3, lv, st) h1 o h') : zx_T sc d mi (pc, lv, .int ln :: .int dp :: .ref q1 :: .int sp :: .ref q0 :: st) h o h' := by
  have hsm := Nat.le_of_ble_eq_true hsm
  unfold zf_cpy at hv
  split at hv
  · next t0 n0 f t1 n1 g e0 e1 =>
    split at hv
    · next hc =>
      cases hv
      obtain ⟨c1, c2, c3, c4, c5, c6, c7⟩ := hc
      refine zx_T_h2 hq (zv_d hq zo hd) rfl rfl ?_ k9
      simp only [zx_h2, hp, e0, e1]
      rw [if_pos ⟨c1, c2, c3, c4, c5, c6, c7, hsm⟩]
    · cases hv
  · next t0 n0 f t1 n1 g e0 e1 =>
    split at hv
    · next hc =>
      cases hv
      obtain ⟨c1, c2, c3, c4, c5, c6, c7⟩ := hc
      refine zx_T_h2 hq (zv_d hq zo hd) rfl rfl ?_ k9
      simp only [zx_h2, hp, e0, e1]
      rw [if_pos ⟨c1, c2, c3, c4, c5, c6, c7, hsm⟩]
    · cases hv
  · next t1 n1 g e0 e1 =>
    split at hv
    · next w9 n0 f hxx =>
      split at hv
      · next hc =>
        cases hv
        obtain ⟨c1, c8, c3, c4, c5, c6, c7⟩ := hc
        refine zx_T_h2 hq (zv_d hq zo hd) rfl rfl ?_ k9
        simp only [zx_h2, hp, e0, e1, hxx]
        rw [if_pos ⟨c1, c3, c4, c5, c6, c7, hsm, c8⟩]
      · cases hv
    · cases hv
  · cases hv
theorem zv_ldi {i w : Nat} {v : Int32} (hq : zt_m[mi]? = some (y, cc, nL, ret, hh, oc, np, hc, hs, hsel, hi)) (zo : zd_of mi = some t) (hd : zd_at t pc = some (.ldc i, 2)) (hn : zx_pool oc i = none) (hp : zx_int oc i = some (v, w)) (k9 : zx_T sc d mi (pc + 2, lv, .int v :: st) h o h') : zx_T sc d mi (pc, lv, st) h o h' := by
  refine zx_T_h2 hq (zv_d hq zo hd) rfl rfl ?_ k9
  simp only [zx_h2, hn, hp, Option.map_some]
theorem zv_ldiw {i w : Nat} {v : Int32} (hq : zt_m[mi]? = some (y, cc, nL, ret, hh, oc, np, hc, hs, hsel, hi)) (zo : zd_of mi = some t) (hd : zd_at t pc = some (.ldc_w i, 3)) (hn : zx_pool oc i = none) (hp : zx_int oc i = some (v, w)) (k9 : zx_T sc d mi (pc + 3, lv, .int v :: st) h o h') : zx_T sc d mi (pc, lv, st) h o h' := by
  refine zx_T_h2 hq (zv_d hq zo hd) rfl rfl ?_ k9
  simp only [zx_h2, hn, hp, Option.map_some]
theorem zv_oi {i x z w q : Nat} (hq : zt_m[mi]? = some (y, cc, nL, ret, hh, oc, np, hc, hs, hsel, hi)) (zo : zd_of mi = some t) (hd : zd_at t pc = some (.invokespecial i, 3)) (hp : zx_pool oc i = some (10, x, z, w)) (hsm : Nat.ble ((st.map fun v => v.category).sum) 8 = true) (k9 : zx_T sc d mi (pc + 3, lv, st) h o h') : zx_T sc d mi (pc, lv, .ref q :: st) h o h' := by
  refine zx_T_h hq (zv_d hq zo hd) rfl ?_ k9
  simp only [zx_h, hp]
  rw [if_pos ⟨trivial, Nat.le_of_ble_eq_true hsm⟩]
theorem zv_lng {i w : Nat} {v : Int64} (hq : zt_m[mi]? = some (y, cc, nL, ret, hh, oc, np, hc, hs, hsel, hi)) (zo : zd_of mi = some t) (hd : zd_at t pc = some (.ldc2_w i, 3)) (hp : zx_lng oc i = some (v, w)) (k9 : zx_T sc d mi (pc + 3, lv, .long v :: st) h o h') : zx_T sc d mi (pc, lv, st) h o h' := by
  refine zx_T_h hq (zv_d hq zo hd) rfl ?_ k9
  simp only [zx_h, hp, Option.map_some]
theorem zv_str {i x w : Nat} (hq : zt_m[mi]? = some (y, cc, nL, ret, hh, oc, np, hc, hs, hsel, hi)) (zo : zd_of mi = some t) (hd : zd_at t pc = some (.ldc i, 2)) (hp : zx_pool oc i = some (13, x, 1, w)) (k9 : zx_T sc d mi (pc + 2, lv, .ref (zx_lim + 1 + x) :: st) h o h') : zx_T sc d mi (pc, lv, st) h o h' := by
  refine zx_T_h2 hq (zv_d hq zo hd) rfl rfl ?_ k9
  simp only [zx_h2, hp]
theorem zv_strw {i x w : Nat} (hq : zt_m[mi]? = some (y, cc, nL, ret, hh, oc, np, hc, hs, hsel, hi)) (zo : zd_of mi = some t) (hd : zd_at t pc = some (.ldc_w i, 3)) (hp : zx_pool oc i = some (13, x, 1, w)) (k9 : zx_T sc d mi (pc + 3, lv, .ref (zx_lim + 1 + x) :: st) h o h') : zx_T sc d mi (pc, lv, st) h o h' := by
  refine zx_T_h2 hq (zv_d hq zo hd) rfl rfl ?_ k9
  simp only [zx_h2, hp]
theorem zv_gs {i x z w : Nat} {v : Value} (hq : zt_m[mi]? = some (y, cc, nL, ret, hh, oc, np, hc, hs, hsel, hi)) (zo : zd_of mi = some t) (hd : zd_at t pc = some (.getstatic i, 3)) (hp : zx_pool oc i = some (14, x, z, w)) (hv : (zt_stv sc.2)[x]? = some v) (k9 : zx_T sc d mi (pc + 3, lv, v :: st) h o h') : zx_T sc d mi (pc, lv, st) h o h' := by
  refine zx_T_h2 hq (zv_d hq zo hd) rfl rfl ?_ k9
  simp only [zx_h2, hp, hv, Option.map_some]
theorem zv_div_idiv {x z : Int32} (hq : zt_m[mi]? = some (y, cc, nL, ret, hh, oc, np, hc, hs, hsel, hi)) (zo : zd_of mi = some t) (hd : zd_at t pc = some (.idiv, 1)) (hc : ¬ z = 0) (k9 : zx_T sc d mi (pc + 1, lv, .int (x / z) :: st) h o h') : zx_T sc d mi (pc, lv, .int z :: .int x :: st) h o h' := by
  refine zx_T_p hq (zv_d hq zo hd) ?_ k9
  simp only [zx_p]
  rw [if_neg hc]
theorem zv_div_irem {x z : Int32} (hq : zt_m[mi]? = some (y, cc, nL, ret, hh, oc, np, hc, hs, hsel, hi)) (zo : zd_of mi = some t) (hd : zd_at t pc = some (.irem, 1)) (hc : ¬ z = 0) (k9 : zx_T sc d mi (pc + 1, lv, .int (x - x / z * z) :: st) h o h') : zx_T sc d mi (pc, lv, .int z :: .int x :: st) h o h' := by
  refine zx_T_p hq (zv_d hq zo hd) ?_ k9
  simp only [zx_p]
  rw [if_neg hc]
theorem zv_div_ldiv {x z : Int64} (hq : zt_m[mi]? = some (y, cc, nL, ret, hh, oc, np, hc, hs, hsel, hi)) (zo : zd_of mi = some t) (hd : zd_at t pc = some (.ldiv, 1)) (hc : ¬ z = 0) (k9 : zx_T sc d mi (pc + 1, lv, .long (x / z) :: st) h o h') : zx_T sc d mi (pc, lv, .long z :: .long x :: st) h o h' := by
  refine zx_T_p hq (zv_d hq zo hd) ?_ k9
  simp only [zx_p]
  rw [if_neg hc]
theorem zv_div_lrem {x z : Int64} (hq : zt_m[mi]? = some (y, cc, nL, ret, hh, oc, np, hc, hs, hsel, hi)) (zo : zd_of mi = some t) (hd : zd_at t pc = some (.lrem, 1)) (hc : ¬ z = 0) (k9 : zx_T sc d mi (pc + 1, lv, .long (x - x / z * z) :: st) h o h') : zx_T sc d mi (pc, lv, .long z :: .long x :: st) h o h' := by
  refine zx_T_p hq (zv_d hq zo hd) ?_ k9
  simp only [zx_p]
  rw [if_neg hc]
theorem zv_fdiv {x z : UInt32} (hq : zt_m[mi]? = some (y, cc, nL, ret, hh, oc, np, hc, hs, hsel, hi)) (zo : zd_of mi = some t) (hd : zd_at t pc = some (.fdiv, 1)) (hc : FP.fdiv x z &&& 0x7fffffff ≤ 0x7f800000) (k9 : zx_T sc d mi (pc + 1, lv, .float (FP.fdiv x z) :: st) h o h') : zx_T sc d mi (pc, lv, .float z :: .float x :: st) h o h' := by
  refine zx_T_p hq (zv_d hq zo hd) ?_ k9
  simp only [zx_p]
  rw [if_pos hc]
theorem zv_ddiv {x z : UInt64} (hq : zt_m[mi]? = some (y, cc, nL, ret, hh, oc, np, hc, hs, hsel, hi)) (zo : zd_of mi = some t) (hd : zd_at t pc = some (.ddiv, 1)) (hc : FP.ddiv x z &&& 0x7fffffffffffffff ≤ 0x7ff0000000000000) (k9 : zx_T sc d mi (pc + 1, lv, .double (FP.ddiv x z) :: st) h o h') : zx_T sc d mi (pc, lv, .double z :: .double x :: st) h o h' := by
  refine zx_T_p hq (zv_d hq zo hd) ?_ k9
  simp only [zx_p]
  rw [if_pos hc]
theorem zv_brT {c : Prop} [Decidable c] {off : Int} {r : List Value} {tt : Nat} (hq : zt_m[mi]? = some (y, cc, nL, ret, hh, oc, np, hc, hs, hsel, hi)) (zo : zd_of mi = some t) (hc : c) (hd : zd_at t pc = some (ins, len)) (hp : zx_p nL pc lv st ins len = zx_br (decide c) pc off lv r) (hj : zx_j pc off = some tt) (k9 : zx_T sc d mi (tt, lv, r) h o h') : zx_T sc d mi (pc, lv, st) h o h' := by
  refine zx_T_p hq (zv_d hq zo hd) ?_ k9
  rw [hp, decide_eq_true hc]
  unfold zx_br
  rw [hj]
  rfl
theorem zv_brF {c : Prop} [Decidable c] {off : Int} {r : List Value} {tt : Nat} (hq : zt_m[mi]? = some (y, cc, nL, ret, hh, oc, np, hc, hs, hsel, hi)) (zo : zd_of mi = some t) (hc : ¬ c) (hd : zd_at t pc = some (ins, len)) (hp : zx_p nL pc lv st ins len = zx_br (decide c) pc off lv r) (hj : zx_j pc off = some tt) (k9 : zx_T sc d mi (pc + 3, lv, r) h o h') : zx_T sc d mi (pc, lv, st) h o h' := by
  refine zx_T_p hq (zv_d hq zo hd) ?_ k9
  rw [hp, decide_eq_false hc]
  unfold zx_br
  rw [hj]
  rfl
theorem zv_sw {x x' : Int32} (hq : zt_m[mi]? = some (y, cc, nL, ret, hh, oc, np, hc, hs, hsel, hi)) (zo : zd_of mi = some t) (hd : zd_at t pc = some (ins, len)) (hx : x = x') (hp : zx_p nL pc lv (.int x' :: st) ins len = some f') (k9 : zx_T sc d mi f' h o h') : zx_T sc d mi (pc, lv, .int x :: st) h o h' := by
  rw [hx]
  exact zx_T_p hq (zv_d hq zo hd) hp k9
theorem zv_tsd {x : Int32} {dflt lo hi9 : Int} {offs : Array Int} {tt : Nat} (hq : zt_m[mi]? = some (y, cc, nL, ret, hh, oc, np, hc, hs, hsel, hi)) (zo : zd_of mi = some t) (hd : zd_at t pc = some (.tableswitch dflt lo hi9 offs, len)) (hx : x.toInt < lo ∨ hi9 < x.toInt) (hj : zx_j pc dflt = some tt) (k9 : zx_T sc d mi (tt, lv, st) h o h') : zx_T sc d mi (pc, lv, .int x :: st) h o h' := by
  refine zx_T_p hq (zv_d hq zo hd) ?_ k9
  simp only [zx_p]
  rw [if_pos hx, hj]
  rfl
theorem zv_lsd {x : Int32} {dflt : Int} {ps : Array (Int × Int)} {tt : Nat} (hq : zt_m[mi]? = some (y, cc, nL, ret, hh, oc, np, hc, hs, hsel, hi)) (zo : zd_of mi = some t) (hd : zd_at t pc = some (.lookupswitch dflt ps, len)) (ho : Op.lookupswitch.offset ps.toList dflt x.toInt = dflt) (hs : ((ps.toList.zip (ps.toList.drop 1)).all (fun (a, next) => a.1 < next.1)) = true) (hj : zx_j pc dflt = some tt) (k9 : zx_T sc d mi (tt, lv, st) h o h') : zx_T sc d mi (pc, lv, .int x :: st) h o h' := by
  refine zx_T_p hq (zv_d hq zo hd) ?_ k9
  simp only [zx_p]
  rw [if_pos hs, ho, hj]
  rfl
theorem zv_r {v : Option Value} (hq : zt_m[mi]? = some (y, cc, nL, ret, hh, oc, np, hc, hs, hsel, hi)) (zo : zd_of mi = some t) (hd : zd_at t pc = some (ins, len)) (hp : zx_p nL pc lv st ins len = none) (e1 : zx_h oc (hs == 2) sc pc lv st h ins len = none) (e2 : zx_h2 oc sc pc lv st h ins len = none) (hr : zx_rt ret st ins len = some v) : zx_T sc d mi (pc, lv, st) h (.inl v) h := zx_T_r hq (zv_d hq zo hd) hp e1 e2 hr
theorem zv_rn {v : Int32} {ty : FieldType} (hq : zt_m[mi]? = some (y, cc, nL, some ty, hh, oc, np, hc, hs, hsel, hi)) (zo : zd_of mi = some t) (hd : zd_at t pc = some (.ireturn, 1)) (hn : narrow ty (.int v) = .int v) : zx_T sc d mi (pc, lv, [.int v]) h (.inl (some (.int v))) h := zx_T_r hq (zv_d hq zo hd) rfl rfl rfl (by simp only [zx_rt]; rw [if_pos hn])
theorem zv_c {mj : Nat} {as rest : List Value} {v : Option Value} (hq : zt_m[mi]? = some (y, cc, nL, ret, hh, oc, np, hc, hs, hsel, hi)) (zo : zd_of mi = some t) (hd : zd_at t pc = some (ins, len)) (hp : zx_p nL pc lv st ins len = none) (e1 : zx_h oc (hs == 2) sc pc lv st h ins len = none) (e2 : zx_h2 oc sc pc lv st h ins len = none) (hr : zx_rt ret st ins len = none) (hcl : zx_c oc st h ins len = some (mj, as, rest)) (kc : zx_T sc d mj (0, lv_args 0 as, []) h (.inl v) h1) (k9 : zx_T sc (d + 1) mi (pc + len, lv, v.toList ++ rest) h1 o h') : zx_T sc (d + 1) mi (pc, lv, st) h o h' := zx_T_c hq (zv_d hq zo hd) hp e1 e2 hr hcl kc k9
theorem zv_cx {mj E : Nat} {as rest : List Value} (hq : zt_m[mi]? = some (y, cc, nL, ret, hh, oc, np, hc, hs, hsel, hi)) (zo : zd_of mi = some t) (hd : zd_at t pc = some (ins, len)) (hp : zx_p nL pc lv st ins len = none) (e1 : zx_h oc (hs == 2) sc pc lv st h ins len = none) (e2 : zx_h2 oc sc pc lv st h ins len = none) (hr : zx_rt ret st ins len = none) (hcl : zx_c oc st h ins len = some (mj, as, rest)) (kc : zx_T sc d mj (0, lv_args 0 as, []) h (.inr E) h1) (hhd : zx_hd oc pc E hh = some none) : zx_T sc (d + 1) mi (pc, lv, st) h (.inr E) h1 := zx_T_cx hq (zv_d hq zo hd) hp e1 e2 hr hcl kc hhd
def zv_cad (nL hp : Nat) (lv : List (Nat × Value)) : Option (Instr × Nat) → Option zx_F
  | some (.astore_n k, 1) => if (k : Nat) < nL then some (hp + 1, (zx_s1 k .null lv).tail, []) else none
  | some (.astore k, 2) => if k < nL then some (hp + 2, (zx_s1 k .null lv).tail, []) else none
  | _ => none
theorem zv_cad_ok {hp : Nat} (hq : zt_m[mi]? = some (y, cc, nL, ret, hh, oc, np, hc, hs, hsel, hi)) (zo : zd_of mi = some t) (h9 : zv_cad nL hp lv (zd_at t hp) = some f) : zx_ca cc nL hp lv = some f := by
  unfold zv_cad at h9
  split at h9
  · next k hd => unfold zx_ca; rw [zv_d hq zo hd]; exact h9
  · next k hd => unfold zx_ca; rw [zv_d hq zo hd]; exact h9
  · cases h9
theorem zv_ca {mj E hp9 : Nat} {as rest : List Value} (hq : zt_m[mi]? = some (y, cc, nL, ret, hh, oc, np, hc, hs, hsel, hi)) (zo : zd_of mi = some t) (hd : zd_at t pc = some (ins, len)) (hp : zx_p nL pc lv st ins len = none) (e1 : zx_h oc (hs == 2) sc pc lv st h ins len = none) (e2 : zx_h2 oc sc pc lv st h ins len = none) (hr : zx_rt ret st ins len = none) (hcl : zx_c oc st h ins len = some (mj, as, rest)) (kc : zx_T sc d mj (0, lv_args 0 as, []) h (.inr E) h1) (hhd : zx_hd oc pc E hh = some (some hp9)) (hca : zv_cad nL hp9 lv (zd_at t hp9) = some f) (k9 : zx_T sc (d + 1) mi f h1 o h') : zx_T sc (d + 1) mi (pc, lv, st) h o h' := zx_T_ca hq (zv_d hq zo hd) hp e1 e2 hr hcl kc hhd (zv_cad_ok hq zo hca) k9
def zv_thd (oc ci : Nat) (i ic : Nat) : Bool := (decide ((oc, ic, ci) ∈ zt_exw) || decide ((oc, ic, ci) ∈ zt_exn)) && ((zx_pool oc i).map (·.1) == some 13)
theorem zv_t {ci ik i ic y9 w9 : Nat} (hq : zt_m[mi]? = some (y, cc, nL, ret, [], oc, np, hc, hs, hsel, hi)) (zo : zd_of mi = some t) (hd : zd_at t pc = some (.new ik, 3)) (d3 : zd_at t (pc + 3) = some (.dup, 1)) (d4 : zd_at t (pc + 4) = some (.ldc i, 2)) (d6 : zd_at t (pc + 6) = some (.invokespecial ic, 3)) (d9 : zd_at t (pc + 9) = some (.athrow, 1)) (hp : zx_pool oc ik = some (2, ci, y9, w9)) (hx0 : Nat.ble zt_x0 ci = true) (hcs : Nat.ble (zx_cs st) 8 = true) (hth : zv_thd oc ci i ic = true) (hlim : h.length < zx_lim) : zx_T sc d mi (pc, lv, st) h (.inr ci) (h ++ [.inr (ci, [])]) := by
  have hx0 := Nat.le_of_ble_eq_true hx0
  have hlt : ¬ ci < zt_x0 := by omega
  simp only [zv_thd, Bool.and_eq_true, Bool.or_eq_true, decide_eq_true_eq, beq_iff_eq] at hth
  refine zx_T_t hq (zv_d hq zo hd) rfl ?_ rfl rfl rfl ?_ hlim
  · simp only [zx_h, hp]
    rw [if_neg (fun z => hlt z.2.1)]
  · simp only [zx_th, hp]
    rw [if_pos ⟨hx0, Nat.le_of_ble_eq_true hcs⟩, zv_d hq zo d3, zv_d hq zo d4]
    simp only [zv_d hq zo d6, zv_d hq zo d9]
    rw [if_pos ⟨hth.1, hth.2⟩]
theorem zv_tw {ci ik i ic y9 w9 : Nat} (hq : zt_m[mi]? = some (y, cc, nL, ret, [], oc, np, hc, hs, hsel, hi)) (zo : zd_of mi = some t) (hd : zd_at t pc = some (.new ik, 3)) (d3 : zd_at t (pc + 3) = some (.dup, 1)) (d4 : zd_at t (pc + 4) = some (.ldc_w i, 3)) (d6 : zd_at t (pc + 7) = some (.invokespecial ic, 3)) (d9 : zd_at t (pc + 10) = some (.athrow, 1)) (hp : zx_pool oc ik = some (2, ci, y9, w9)) (hx0 : Nat.ble zt_x0 ci = true) (hcs : Nat.ble (zx_cs st) 8 = true) (hth : zv_thd oc ci i ic = true) (hlim : h.length < zx_lim) : zx_T sc d mi (pc, lv, st) h (.inr ci) (h ++ [.inr (ci, [])]) := by
  have hx0 := Nat.le_of_ble_eq_true hx0
  have hlt : ¬ ci < zt_x0 := by omega
  simp only [zv_thd, Bool.and_eq_true, Bool.or_eq_true, decide_eq_true_eq, beq_iff_eq] at hth
  refine zx_T_t hq (zv_d hq zo hd) rfl ?_ rfl rfl rfl ?_ hlim
  · simp only [zx_h, hp]
    rw [if_neg (fun z => hlt z.2.1)]
  · simp only [zx_th, hp]
    rw [if_pos ⟨hx0, Nat.le_of_ble_eq_true hcs⟩, zv_d hq zo d3, zv_d hq zo d4]
    simp only [zv_d hq zo d6, zv_d hq zo d9]
    rw [if_pos ⟨hth.1, hth.2⟩]
theorem zv_dp {mj : Nat} (j : Nat) (k : zx_T sc d mj f h o h') : zx_T sc (d + j) mj f h o h' := zx_T_deeper k j
theorem zv_cv {i kd mj y0 w q oj npj nLj hcj hij : Nat} {yj : MethodName} {cj : ByteArray} {retj : Option FieldType} {rest : List Value} (hp : zx_pool oc i = some (kd, mj, y0, w)) (hm : zt_m[mj]? = some (yj, cj, nLj, retj, [], oj, npj, hcj, 0, 0, hij)) (hdr : st.drop npj = .ref q :: rest) (hk : zx_kl h q = some oj)
    (hb : (decide (zt_pln[oj]? = some true) && (Nat.beq kd 6 || Nat.beq kd 7) && Nat.blt 0 mj && Nat.ble (zx_cs rest) 8 && Nat.ble ((lg_sl (.ref q :: (st.take npj).reverse)).length) nLj) = true) : zx_c oc st h (.invokevirtual i) 3 = some (mj, .ref q :: (st.take npj).reverse, rest) := by
  simp only [Bool.and_eq_true, Bool.or_eq_true, decide_eq_true_eq, Nat.beq_eq] at hb
  obtain ⟨⟨⟨⟨b1, b2⟩, b3⟩, b4⟩, b5⟩ := hb
  rcases b2 with rfl | rfl
  · simp only [zx_c, hp, hm, hdr, hk]
    rw [if_pos ⟨b1, Or.inl trivial, trivial, trivial, trivial, Nat.le_of_ble_eq_true b3, trivial, Nat.le_of_ble_eq_true b4, Nat.le_of_ble_eq_true b5⟩]
  · simp only [zx_c, hp, hm, hdr, hk]
    rw [if_pos ⟨b1, Or.inr trivial, trivial, trivial, trivial, Nat.le_of_ble_eq_true b3, trivial, Nat.le_of_ble_eq_true b4, Nat.le_of_ble_eq_true b5⟩]
theorem zv_cp {i mj y0 w q ci oj npj nLj hcj hselj hij : Nat} {yj : MethodName} {cj : ByteArray} {retj : Option FieldType} {rest : List Value} (hp : zx_pool oc i = some (15, mj, y0, w)) (hm : zt_m[mj]? = some (yj, cj, nLj, retj, [], oj, npj, hcj, 0, hselj, hij)) (hdr : st.drop npj = .ref q :: rest) (hk : zx_kl h q = some ci)
    (hb : (decide (zt_pln[oj]? = some true) && Nat.blt 0 mj && Nat.ble (zx_cs rest) 8 && Nat.ble ((lg_sl (.ref q :: (st.take npj).reverse)).length) nLj) = true) : zx_c oc st h (.invokevirtual i) 3 = some (mj, .ref q :: (st.take npj).reverse, rest) := by
  simp only [Bool.and_eq_true, decide_eq_true_eq] at hb
  obtain ⟨⟨⟨b1, b3⟩, b4⟩, b5⟩ := hb
  simp only [zx_c, hp, hm, hdr, hk]
  rw [if_pos ⟨trivial, trivial, Nat.le_of_ble_eq_true b3, b1, Nat.le_of_ble_eq_true b4, Nat.le_of_ble_eq_true b5⟩]
theorem zv_cs {i mj y0 w q ci oj npj nLj hcj hselj hij : Nat} {yj : MethodName} {cj : ByteArray} {retj : Option FieldType} {rest : List Value} (hp : zx_pool oc i = some (21, mj, y0, w)) (hm : zt_m[mj]? = some (yj, cj, nLj, retj, [], oj, npj, hcj, 0, hselj, hij)) (hdr : st.drop npj = .ref q :: rest) (hk : zx_kl h q = some ci)
    (hb : (decide (zt_pln[oj]? = some true) && Nat.blt 0 mj && Nat.ble (zx_cs rest) 8 && Nat.ble ((lg_sl (.ref q :: (st.take npj).reverse)).length) nLj) = true) : zx_c oc st h (.invokespecial i) 3 = some (mj, .ref q :: (st.take npj).reverse, rest) := by
  simp only [Bool.and_eq_true, decide_eq_true_eq] at hb
  obtain ⟨⟨⟨b1, b3⟩, b4⟩, b5⟩ := hb
  simp only [zx_c, hp, hm, hdr, hk]
  rw [if_pos ⟨trivial, trivial, Nat.le_of_ble_eq_true b3, b1, Nat.le_of_ble_eq_true b4, Nat.le_of_ble_eq_true b5⟩]
theorem zv_c12 {i vid mj y0 w q ci oj npj nLj hcj hselj hij : Nat} {yj : MethodName} {cj : ByteArray} {retj : Option FieldType} {rest : List Value} (hp : zx_pool oc i = some (12, vid, y0, w)) (hvp : zt_vp[vid]? = some npj) (hvf : zx_vf vid ci false zt_vt = some mj) (hm : zt_m[mj]? = some (yj, cj, nLj, retj, [], oj, npj, hcj, 0, hselj, hij)) (hdr : st.drop npj = .ref q :: rest) (hk : zx_kl h q = some ci)
    (hb : (decide (zt_pln[oj]? = some true) && Nat.ble (zx_cs rest) 8 && Nat.ble ((lg_sl (.ref q :: (st.take npj).reverse)).length) nLj) = true) : zx_c oc st h (.invokevirtual i) 3 = some (mj, .ref q :: (st.take npj).reverse, rest) := by
  simp only [Bool.and_eq_true, decide_eq_true_eq] at hb
  obtain ⟨⟨b1, b4⟩, b5⟩ := hb
  simp only [zx_c, hp, hvp, hdr, hk, hvf, hm]
  rw [if_pos ⟨trivial, trivial, trivial, b1, Nat.le_of_ble_eq_true b4, Nat.le_of_ble_eq_true b5⟩]
theorem zv_c11 {i cnt vid mj y0 w q ci oj npj nLj hcj hselj hij : Nat} {yj : MethodName} {cj : ByteArray} {retj : Option FieldType} {rest : List Value} (hp : zx_pool oc i = some (11, vid, y0, w)) (hvp : zt_vp[vid]? = some npj) (hvf : zx_vf vid ci true zt_vt = some mj) (hm : zt_m[mj]? = some (yj, cj, nLj, retj, [], oj, npj, hcj, 0, hselj, hij)) (hdr : st.drop npj = .ref q :: rest) (hk : zx_kl h q = some ci)
    (hb : (decide (zt_pln[oj]? = some true) && Nat.ble (zx_cs rest) 8 && Nat.ble ((lg_sl (.ref q :: (st.take npj).reverse)).length) nLj) = true) : zx_c oc st h (.invokeinterface i cnt) 5 = some (mj, .ref q :: (st.take npj).reverse, rest) := by
  simp only [Bool.and_eq_true, decide_eq_true_eq] at hb
  obtain ⟨⟨b1, b4⟩, b5⟩ := hb
  simp only [zx_c, hp, hvp, hdr, hk, hvf, hm]
  rw [if_pos ⟨trivial, trivial, trivial, b1, Nat.le_of_ble_eq_true b4, Nat.le_of_ble_eq_true b5⟩]
def zx_pick : List Nat → List (Nat × Value) → List (Nat × Value)
  | [], _ => []
  | k :: r, l => match zx_lk k l with
    | some v => (k, v) :: zx_pick r l
    | none => zx_pick r l
theorem zx_pick_le {l : List (Nat × Value)} (hl : (l.map (·.1)).Nodup) : ∀ {ks : List Nat}, ks.Nodup → zx_le (zx_pick ks l) l := by
  intro ks hk
  have key : ∀ ks : List Nat, (∀ e ∈ zx_pick ks l, e ∈ l ∧ e.1 ∈ ks) := by
    intro ks
    induction ks with
    | nil => intro e he; cases he
    | cons k r ih =>
      intro e he
      unfold zx_pick at he
      split at he
      · next v hv =>
        rcases List.mem_cons.mp he with rfl | he
        · exact ⟨zx_lk_mem hv, List.mem_cons_self⟩
        · exact ⟨(ih e he).1, List.mem_cons_of_mem _ (ih e he).2⟩
      · exact ⟨(ih e he).1, List.mem_cons_of_mem _ (ih e he).2⟩
  refine ⟨?_, hl, fun e he => (key ks e he).1⟩
  induction ks with
  | nil => exact List.nodup_nil
  | cons k r ih =>
    have hk2 := List.nodup_cons.mp hk
    unfold zx_pick
    split
    · rw [List.map_cons]
      refine List.nodup_cons.mpr ⟨fun hm => ?_, ih hk2.2⟩
      obtain ⟨e, he, hee⟩ := List.mem_map.mp hm
      have h1 := (key r e he).2
      rw [hee] at h1
      exact hk2.1 h1
    · exact ih hk2.2
theorem zv_pick (ks : List Nat) {lv' : List (Nat × Value)} (hp : zx_pick ks lv = lv') (hn : (zx_nd ks && zx_nd (lv.map (·.1))) = true) (k9 : zx_T sc d mi (pc, lv', st) h o h') : zx_T sc d mi (pc, lv, st) h o h' := by
  obtain ⟨n1, n2⟩ := Bool.and_eq_true_iff.mp hn
  obtain ⟨n, hr⟩ := k9
  exact ⟨n, zx_run_le n d mi pc lv' lv st h _ (by rw [← hp]; exact zx_pick_le (zx_nd_ok n2) (zx_nd_ok n1)) hr⟩
theorem zl_lt {x z : Int64} : lg_cmp x z < 0 ↔ x < z := lg_cmp_lt x z
theorem zl_le {x z : Int64} : lg_cmp x z ≤ 0 ↔ x ≤ z := lg_cmp_le x z
theorem zl_gt {x z : Int64} : 0 < lg_cmp x z ↔ z < x := lg_cmp_gt x z
theorem zl_ge {x z : Int64} : 0 ≤ lg_cmp x z ↔ z ≤ x := lg_cmp_ge x z
theorem zl_eq {x z : Int64} : lg_cmp x z = 0 ↔ x = z := lg_cmp_eq x z
theorem zl_ne {x z : Int64} : ¬ lg_cmp x z = 0 ↔ ¬ x = z := not_congr (lg_cmp_eq x z)
theorem zi_ne {x z : Int32} {k : Int} (hk : z.toInt = k) (h : ¬ x = z) : ¬ x.toInt = k := fun h1 => h (Int32.toInt_inj.mp (h1.trans hk.symm))
theorem zi_on (dflt k : Int) : Op.lookupswitch.offset [] dflt k = dflt := rfl
theorem zi_oc {a off dflt k : Int} {r : List (Int × Int)} (h : ¬ k = a) (ih : Op.lookupswitch.offset r dflt k = dflt) : Op.lookupswitch.offset ((a, off) :: r) dflt k = dflt := by
  rw [Op.lookupswitch.offset_cons, if_neg (fun e => h e.symm)]
  exact ih
end ZVR

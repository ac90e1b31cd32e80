section ZXI
variable {p : Program} {l : Launch} {e : Env} {R : Room} {s : State} {m : MethodId} {args : Array Value} {below : List Frame} {meth : Method} {c : Code} {H : Heap} {locs : List Loc} {cells slots : Nat} {Q : State → Prop} {cc : ByteArray} {pc nL : Nat} {ls : Array Slot} {lv : List (Nat × Value)} {st : List Value} {a : Nat → Nat}
variable {D : va_G} {dA : Nat → ClassId} {B b n0 z0 oc : Nat} {own : String} {ini : Bool} {sc : (Nat × (Nat → Int32)) × Bool} {h : zx_H}
theorem zx_def_ok {ci : Nat} {r : vw_C} (hr : zt_cl[ci]? = some r) (hlen : (zt_fty.getD ci []).length = r.2.2) (a : Nat → Nat) : ∀ j, j < r.2.2 → defaultValue ((zt_fty.getD ci []).getD j .int) = vp_V ((zx_def ci).map (zx_v a)) j := by
  intro j hj
  unfold zx_def
  generalize zt_fty.getD ci [] = L at hlen ⊢
  have h1 : L[j]? = some (L.getD j .int) := by
    rw [List.getD_eq_getElem?_getD, List.getElem?_eq_getElem (by omega)]
    rfl
  unfold vp_V
  rw [List.getD_eq_getElem?_getD (l := (L.map defaultValue).map (zx_v a)), List.getElem?_map, List.getElem?_map, h1]
  simp only [Option.map_some, Option.getD_some]
  cases L.getD j .int <;> rfl
theorem zt_fty_len : ∀ ci, ci < zt_x0 → (zt_fty.getD ci []).length = ((zt_cl[ci]?).map (·.2.2)).getD 0 ∧ zt_sz.getD ci 0 = ((zt_cl[ci]?).map (·.2.2)).getD 0 := by decide +kernel
theorem zx_new_ok (C : zx_Cx D dA B a b sc oc own ini cc nL p s m args meth c) (hS : zx_S D dA B a n0 z0 s h H locs cells slots) {i ci y hh : Nat} {rest : List Value} (hd : decode cc pc = .ok (.new i, 3)) (hp : zx_pool oc i = some (2, ci, y, hh)) (hci : ci < zt_x0) (hlim : h.length < zx_lim) (hc1 : cells + 1 ≤ R.cells) (hs1 : slots + zx_sz1 (.inr (ci, zx_def ci)) ≤ R.slots)
    (k : ∀ H', zx_S D dA B a n0 z0 s (h ++ [.inr (ci, zx_def ci)]) H' locs (cells + 1) (slots + zx_sz1 (.inr (ci, zx_def ci))) → W p l e R s m args below meth c H' locs (cells + 1) (slots + zx_sz1 (.inr (ci, zx_def ci))) Q (F0 m (pc + 3) ls (.ref (a h.length) :: rest))) : W p l e R s m args below meth c H locs cells slots Q (F0 m pc ls rest) := by
  obtain ⟨hx, hb, hml, hown, hon, hts, hnw, hK, hini, ha, hab, hbB, hBs, hX, hK2, hH2⟩ := C
  obtain ⟨C0, hw, hC, -⟩ := zx_pool_ok hon hp
  have hr : ∃ r, zt_cl[ci]? = some r := by
    have h9 : ci < zt_cl.length := Nat.lt_of_lt_of_le hci (by decide)
    exact ⟨_, List.getElem?_eq_getElem h9⟩
  obtain ⟨r, hr⟩ := hr
  have hok := zt_cl_ok hr
  obtain ⟨hf1, hf2⟩ := zt_fty_len ci hci
  rw [hr] at hf1 hf2
  simp only [Option.map_some, Option.getD_some] at hf1 hf2
  have hC' : r.1 = C0 := by
    rcases hC with h9 | h9
    · subst h9
      exact absurd hci (by decide)
    · rw [hr] at h9
      exact Option.some.inj h9
  subst hC'
  have hz : zx_sz1 (.inr (ci, zx_def ci)) = r.2.2 := hf2
  rw [hz] at hs1 k
  rw [ha _ hlim] at k
  refine va_new (C := r.1) (T := r.2.1) (N := r.2.2) (fs := (zx_def ci).map (zx_v a)) hx hb hts (zx_uws hr) (fun k => (zt_fty.getD ci []).getD k .int) hok.2.1 hown (hts _ hw) (hts _ (hok.2.2.2.1 hci)) (hts _ hok.2.2.2.2.1) hK hS.1 zx_w_D hS.2.1 (fun q hq => Nat.le_trans hBs hq) hr (zx_def_ok hr hf1 a) hc1 hs1 hd (fun q H1 hP hD hV => ?_)
  intro T hT X
  have hq := zx_push_q hS hP hD hT X
  subst hq
  exact k H1 (zx_S_push (e1 := .inr (ci, zx_def ci)) hS hz hlim hP hV) T hT X
theorem zx_RA_fc {U : State} {cA : ClassId} {ty : FieldType} (h : va_RA U cA ty) : U.vm.findClass ("[" ++ ty.toString) = some cA := by
  cases ty with
  | object C => obtain ⟨_, _, _, _, _, h4⟩ := h; exact h4
  | _ => exact h
theorem zx_arr_len {ty : FieldType} {n : Nat} {a0 : vp_A} (h : zx_arr ty n = some a0) : a0.1 = n := by
  cases ty <;> (cases h <;> rfl)
theorem zx_newa_ok (C : zx_Cx D dA B a b sc oc own ini cc nL p s m args meth c) (hS : zx_S D dA B a n0 z0 s h H locs cells slots) {ty : ArrayType} {t : Nat} {a0 : vp_A} {n : Int32} {rest : List Value} (hd : decode cc pc = .ok (.newarray ty, 2)) (ht : zx_at (newarray.typeOf ty) = some t) (ha0 : zx_arr (newarray.typeOf ty) n.toNatClampNeg = some a0) (hn : ¬ n < 0) (hby : n.toNatClampNeg * componentBytes (newarray.typeOf ty) ≤ 536870912) (hlim : h.length < zx_lim) (hc1 : cells + 1 ≤ R.cells) (hs1 : slots + n.toNatClampNeg ≤ R.slots)
    (k : ∀ H', zx_S D dA B a n0 z0 s (h ++ [.inl (t, a0)]) H' locs (cells + 1) (slots + n.toNatClampNeg) → W p l e R s m args below meth c H' locs (cells + 1) (slots + n.toNatClampNeg) Q (F0 m (pc + 2) ls (.ref (a h.length) :: rest))) : W p l e R s m args below meth c H locs cells slots Q (F0 m pc ls (.int n :: rest)) := by
  obtain ⟨hx, hb, hml, hown, hon, hts, hnw, hK, hini, ha, hab, hbB, hBs, hX, hK2, hH2⟩ := C
  have hta := zx_at_ok ht
  have harr : Cond.arrayClass (newarray.typeOf ty) ∈ zt_good := by
    rcases zt_at_ok _ _ hta with h9 | ⟨C9, h9, -⟩ | ⟨C9, h9, -⟩
    · exact h9.2
    · cases ty <;> cases h9
    · cases ty <;> cases h9
  rw [ha _ hlim] at k
  have hcell : (∀ cA : ClassId, vp_cell cA a0 = arrV cA n.toNatClampNeg (fun _ => defaultValue (newarray.typeOf ty))) ∧ zx_sz1 (.inl (t, a0)) = n.toNatClampNeg ∧ (∀ cA, zx_e (fun _ => cA) a (.inl (t, a0)) = .inl (cA, a0)) ∧ zx_e dA a (.inl (t, a0)) = .inl (dA t, a0) := by
    cases ty <;> (cases ha0; exact ⟨fun _ => rfl, rfl, fun _ => rfl, rfl⟩)
  refine va_newa (a0 := a0) hx hb (hts _ harr) rfl hK hS.1 zx_w_D hS.2.1 (fun q hq => Nat.le_trans hBs hq) hcell.1 hn rfl hby hc1 hs1 hd (fun q cA H1 hK1 hP hD hV => ?_)
  have e1 := zx_RA_fc (hK1.2 (zx_tys dA).length (cA, newarray.typeOf ty) List.getElem?_concat_length).2
  have e2 := zx_RA_fc (hK.2 t _ (zx_tys_get hta)).2
  have e3 : cA = dA t := Option.some.inj (e1.symm.trans e2)
  subst e3
  intro T hT X
  have hq := zx_push_q hS hP hD hT X
  subst hq
  rw [← hcell.2.2.2] at hP
  exact k H1 (zx_S_push (e1 := .inl (t, a0)) hS hcell.2.1 hlim hP hV) T hT X
theorem zx_newq_ok (C : zx_Cx D dA B a b sc oc own ini cc nL p s m args meth c) (hS : zx_S D dA B a n0 z0 s h H locs cells slots) {i x t hh : Nat} {C1 : String} {n : Int32} {rest : List Value} (hd : decode cc pc = .ok (.anewarray i, 3)) (hp : zx_pool oc i = some (2, x, t, hh)) (ht : zt_at[t]? = some (.object C1)) (hn : ¬ n < 0) (hby : n.toNatClampNeg * 4 ≤ 536870912) (hlim : h.length < zx_lim) (hc1 : cells + 1 ≤ R.cells) (hs1 : slots + n.toNatClampNeg ≤ R.slots)
    (k : ∀ H', zx_S D dA B a n0 z0 s (h ++ [.inl (t, n.toNatClampNeg, .inr (.inr (.inr (.inr (fun _ => none)))))]) H' locs (cells + 1) (slots + n.toNatClampNeg) → W p l e R s m args below meth c H' locs (cells + 1) (slots + n.toNatClampNeg) Q (F0 m (pc + 3) ls (.ref (a h.length) :: rest))) : W p l e R s m args below meth c H locs cells slots Q (F0 m pc ls (.int n :: rest)) := by
  obtain ⟨hx, hb, hml, hown, hon, hts, hnw, hK, hini, ha, hab, hbB, hBs, hX, hK2, hH2⟩ := C
  obtain ⟨C0, hw, -, hC⟩ := zx_pool_ok hon hp
  have hC' : C1 = C0 := by
    rcases hC with h9 | h9
    · subst h9
      cases ht
    · rw [ht] at h9
      cases h9
      rfl
  subst hC'
  have hov : va_AO C1 s := by
    rcases zt_at_ok _ _ ht with h9 | ⟨C9, h9, h10⟩ | ⟨C9, h9, h10⟩
    · exact absurd rfl (h9.1.1 C1)
    · cases h9
      exact hK2.1 _ h10
    · cases h9
  rw [ha _ hlim] at k
  refine va_newq hx hb hown (hts _ hw) hov hK hS.1 zx_w_D hS.2.1 (fun q hq => Nat.le_trans hBs hq) hn rfl hby hc1 hs1 hd (fun q cA H1 hK1 hP hD hV => ?_)
  have e1 := zx_RA_fc (hK1.2 (zx_tys dA).length (cA, .object C1) List.getElem?_concat_length).2
  have e2 := zx_RA_fc (hK.2 t _ (zx_tys_get ht)).2
  have e3 : cA = dA t := Option.some.inj (e1.symm.trans e2)
  subst e3
  intro T hT X
  have hq := zx_push_q hS hP hD hT X
  subst hq
  exact k H1 (zx_S_push (e1 := .inl (t, n.toNatClampNeg, .inr (.inr (.inr (.inr (fun _ => none)))))) hS rfl hlim hP hV) T hT X
theorem zx_iald_ok (C : zx_Cx D dA B a b sc oc own ini cc nL p s m args meth c) (hS : zx_S D dA B a n0 z0 s h H locs cells slots) {q t n : Nat} {f : Nat → Int32} {i : Int32} {rest : List Value} (hd : decode cc pc = .ok (.iaload, 1)) (hq : h[q]? = some (.inl (t, n, .inl f))) (ht : zt_at[t]? = some .int) (hin : zx_in i n) (k : W p l e R s m args below meth c H locs cells slots Q (F0 m (pc + 1) ls (.int (f i.toNatClampNeg) :: rest))) : W p l e R s m args below meth c H locs cells slots Q (F0 m pc ls (.int i :: .ref (a q) :: rest)) := by
  obtain ⟨hx, hb, hml, hown, hon, hts, hnw, hK, hini, ha, hab, hbB, hBs, hX, hK2, hH2⟩ := C
  rw [zx_S_q hS ha hq]
  exact va_iald hx hb hK hS.1 q t (zx_w_get hq) (zx_tys_get ht) hin hd k
theorem zx_lald_ok (C : zx_Cx D dA B a b sc oc own ini cc nL p s m args meth c) (hS : zx_S D dA B a n0 z0 s h H locs cells slots) {q t n : Nat} {f : Nat → Int64} {i : Int32} {rest : List Value} (hd : decode cc pc = .ok (.laload, 1)) (hq : h[q]? = some (.inl (t, n, .inr (.inl f)))) (ht : zt_at[t]? = some .long) (hin : zx_in i n) (k : W p l e R s m args below meth c H locs cells slots Q (F0 m (pc + 1) ls (.long (f i.toNatClampNeg) :: rest))) : W p l e R s m args below meth c H locs cells slots Q (F0 m pc ls (.int i :: .ref (a q) :: rest)) := by
  obtain ⟨hx, hb, hml, hown, hon, hts, hnw, hK, hini, ha, hab, hbB, hBs, hX, hK2, hH2⟩ := C
  rw [zx_S_q hS ha hq]
  exact va_lald hx hb hK hS.1 q t (zx_w_get hq) (zx_tys_get ht) hin hd k
theorem zx_dald_ok (C : zx_Cx D dA B a b sc oc own ini cc nL p s m args meth c) (hS : zx_S D dA B a n0 z0 s h H locs cells slots) {q t n : Nat} {f : Nat → UInt64} {i : Int32} {rest : List Value} (hd : decode cc pc = .ok (.daload, 1)) (hq : h[q]? = some (.inl (t, n, .inr (.inr (.inr (.inl f)))))) (ht : zt_at[t]? = some .double) (hin : zx_in i n) (k : W p l e R s m args below meth c H locs cells slots Q (F0 m (pc + 1) ls (.double (f i.toNatClampNeg) :: rest))) : W p l e R s m args below meth c H locs cells slots Q (F0 m pc ls (.int i :: .ref (a q) :: rest)) := by
  obtain ⟨hx, hb, hml, hown, hon, hts, hnw, hK, hini, ha, hab, hbB, hBs, hX, hK2, hH2⟩ := C
  rw [zx_S_q hS ha hq]
  exact va_dald hx hb hK hS.1 q t (zx_w_get hq) (zx_tys_get ht) hin hd k
theorem zx_zald_ok (C : zx_Cx D dA B a b sc oc own ini cc nL p s m args meth c) (hS : zx_S D dA B a n0 z0 s h H locs cells slots) {q t n : Nat} {f : Nat → Int32} {i : Int32} {rest : List Value} (hd : decode cc pc = .ok (.baload, 1)) (hq : h[q]? = some (.inl (t, n, .inl f))) (ht : zt_at[t]? = some .boolean) (hin : zx_in i n) (k : W p l e R s m args below meth c H locs cells slots Q (F0 m (pc + 1) ls (.int (f i.toNatClampNeg) :: rest))) : W p l e R s m args below meth c H locs cells slots Q (F0 m pc ls (.int i :: .ref (a q) :: rest)) := by
  obtain ⟨hx, hb, hml, hown, hon, hts, hnw, hK, hini, ha, hab, hbB, hBs, hX, hK2, hH2⟩ := C
  rw [zx_S_q hS ha hq]
  exact va_zald hx hb hK hS.1 q t (zx_w_get hq) (zx_tys_get ht) hin hd k
theorem zx_bald_ok (C : zx_Cx D dA B a b sc oc own ini cc nL p s m args meth c) (hS : zx_S D dA B a n0 z0 s h H locs cells slots) {q t n : Nat} {f : Nat → Int32} {i : Int32} {rest : List Value} (hd : decode cc pc = .ok (.baload, 1)) (hq : h[q]? = some (.inl (t, n, .inl f))) (ht : zt_at[t]? = some .byte) (hin : zx_in i n) (k : W p l e R s m args below meth c H locs cells slots Q (F0 m (pc + 1) ls (.int (f i.toNatClampNeg) :: rest))) : W p l e R s m args below meth c H locs cells slots Q (F0 m pc ls (.int i :: .ref (a q) :: rest)) := by
  obtain ⟨hx, hb, hml, hown, hon, hts, hnw, hK, hini, ha, hab, hbB, hBs, hX, hK2, hH2⟩ := C
  rw [zx_S_q hS ha hq]
  exact va_bald hx hb hK hS.1 q t (zx_w_get hq) (zx_tys_get ht) hin hd k
theorem zx_rf_v (a : Nat → Nat) (r : Option Nat) : zx_v a (zx_rf r) = va_rf (r.map a) := by cases r <;> rfl
theorem zx_aald_ok (C : zx_Cx D dA B a b sc oc own ini cc nL p s m args meth c) (hS : zx_S D dA B a n0 z0 s h H locs cells slots) {q t n : Nat} {C1 : String} {f : Nat → Option Nat} {i : Int32} {rest : List Value} (hd : decode cc pc = .ok (.aaload, 1)) (hq : h[q]? = some (.inl (t, n, .inr (.inr (.inr (.inr f)))))) (ht : zt_at[t]? = some (.object C1)) (hin : zx_in i n) (k : W p l e R s m args below meth c H locs cells slots Q (F0 m (pc + 1) ls (zx_v a (zx_rf (f i.toNatClampNeg)) :: rest))) : W p l e R s m args below meth c H locs cells slots Q (F0 m pc ls (.int i :: .ref (a q) :: rest)) := by
  obtain ⟨hx, hb, hml, hown, hon, hts, hnw, hK, hini, ha, hab, hbB, hBs, hX, hK2, hH2⟩ := C
  rw [zx_S_q hS ha hq]
  rw [zx_rf_v] at k
  exact va_aldq hx hb hK hS.1 q t (zx_w_get hq) (zx_tys_get ht) hin hd k
theorem zx_alen_ok (C : zx_Cx D dA B a b sc oc own ini cc nL p s m args meth c) (hS : zx_S D dA B a n0 z0 s h H locs cells slots) {q t n : Nat} {x : (Nat → Int32) ⊕ (Nat → Int64) ⊕ (Nat → UInt32) ⊕ (Nat → UInt64) ⊕ (Nat → Option Nat)} {ty : FieldType} {rest : List Value} (hd : decode cc pc = .ok (.arraylength, 1)) (hq : h[q]? = some (.inl (t, n, x))) (ht : zt_at[t]? = some ty) (k : W p l e R s m args below meth c H locs cells slots Q (F0 m (pc + 1) ls (.int (Int32.ofNat n) :: rest))) : W p l e R s m args below meth c H locs cells slots Q (F0 m pc ls (.ref (a q) :: rest)) := by
  obtain ⟨hx, hb, hml, hown, hon, hts, hnw, hK, hini, ha, hab, hbB, hBs, hX, hK2, hH2⟩ := C
  rw [zx_S_q hS ha hq]
  have hg := zx_w_get (dA := dA) (B := B) (a := a) hq
  rcases x with x | x | x | x | x <;> exact va_alen hx hb hK hS.1 q t hg (zx_tys_get ht) rfl hd k
theorem zx_sld_ok (C : zx_Cx D dA B a b sc oc own ini cc nL p s m args meth c) (hS : zx_S D dA B a n0 z0 s h H locs cells slots) {i : Int32} {rest : List Value} (hd : decode cc pc = .ok (.iaload, 1)) (hin : zx_in i sc.1.1) (k : W p l e R s m args below meth c H locs cells slots Q (F0 m (pc + 1) ls (.int (sc.1.2 i.toNatClampNeg) :: rest))) : W p l e R s m args below meth c H locs cells slots Q (F0 m pc ls (.int i :: .ref (a zx_lim) :: rest)) := by
  obtain ⟨hx, hb, hml, hown, hon, hts, hnw, hK, hini, ha, hab, hbB, hBs, hX, hK2, hH2⟩ := C
  rw [hab]
  exact va_sld hx hb hX (Nat.lt_of_lt_of_le hbB hBs) (A := fun q => B ≤ q) (by show ¬ B ≤ b; omega) hS.2.1 hin hd k
theorem zx_slen_ok (C : zx_Cx D dA B a b sc oc own ini cc nL p s m args meth c) (hS : zx_S D dA B a n0 z0 s h H locs cells slots) {rest : List Value} (hd : decode cc pc = .ok (.arraylength, 1)) (k : W p l e R s m args below meth c H locs cells slots Q (F0 m (pc + 1) ls (.int (Int32.ofNat sc.1.1) :: rest))) : W p l e R s m args below meth c H locs cells slots Q (F0 m pc ls (.ref (a zx_lim) :: rest)) := by
  obtain ⟨hx, hb, hml, hown, hon, hts, hnw, hK, hini, ha, hab, hbB, hBs, hX, hK2, hH2⟩ := C
  rw [hab]
  exact va_slen hx hb hX (Nat.lt_of_lt_of_le hbB hBs) (A := fun q => B ≤ q) (by show ¬ B ≤ b; omega) hS.2.1 hd k
theorem zx_iast_ok (C : zx_Cx D dA B a b sc oc own ini cc nL p s m args meth c) (hS : zx_S D dA B a n0 z0 s h H locs cells slots) {q t n : Nat} {f : Nat → Int32} {i : Int32} {x : Int32} {rest : List Value} (hd : decode cc pc = .ok (.iastore, 1)) (hq : h[q]? = some (.inl (t, n, .inl f))) (ht : zt_at[t]? = some .int) (hin : zx_in i n) (k : ∀ H' locs', zx_S D dA B a n0 z0 s (h.set q (.inl (t, n, .inl (upd f i.toNatClampNeg x)))) H' locs' cells slots → W p l e R s m args below meth c H' locs' cells slots Q (F0 m (pc + 1) ls rest)) : W p l e R s m args below meth c H locs cells slots Q (F0 m pc ls (.int x :: .int i :: .ref (a q) :: rest)) := by
  obtain ⟨hx, hb, hml, hown, hon, hts, hnw, hK, hini, ha, hab, hbB, hBs, hX, hK2, hH2⟩ := C
  rw [zx_S_q hS ha hq]
  exact va_iast hx hb hK hS.1 zx_w_D hS.2.1 q t (zx_w_get hq) (zx_tys_get ht) hin hd (fun H1 locs1 hP _ hV => k H1 locs1 (zx_S_set (e1 := .inl (t, n, .inl (upd f i.toNatClampNeg x))) hS hq rfl hP hV))
theorem zx_last_ok (C : zx_Cx D dA B a b sc oc own ini cc nL p s m args meth c) (hS : zx_S D dA B a n0 z0 s h H locs cells slots) {q t n : Nat} {f : Nat → Int64} {i : Int32} {x : Int64} {rest : List Value} (hd : decode cc pc = .ok (.lastore, 1)) (hq : h[q]? = some (.inl (t, n, .inr (.inl f)))) (ht : zt_at[t]? = some .long) (hin : zx_in i n) (k : ∀ H' locs', zx_S D dA B a n0 z0 s (h.set q (.inl (t, n, .inr (.inl (vp_updL f i.toNatClampNeg x))))) H' locs' cells slots → W p l e R s m args below meth c H' locs' cells slots Q (F0 m (pc + 1) ls rest)) : W p l e R s m args below meth c H locs cells slots Q (F0 m pc ls (.long x :: .int i :: .ref (a q) :: rest)) := by
  obtain ⟨hx, hb, hml, hown, hon, hts, hnw, hK, hini, ha, hab, hbB, hBs, hX, hK2, hH2⟩ := C
  rw [zx_S_q hS ha hq]
  exact va_last hx hb hK hS.1 zx_w_D hS.2.1 q t (zx_w_get hq) (zx_tys_get ht) hin hd (fun H1 locs1 hP _ hV => k H1 locs1 (zx_S_set (e1 := .inl (t, n, .inr (.inl (vp_updL f i.toNatClampNeg x)))) hS hq rfl hP hV))
theorem zx_dast_ok (C : zx_Cx D dA B a b sc oc own ini cc nL p s m args meth c) (hS : zx_S D dA B a n0 z0 s h H locs cells slots) {q t n : Nat} {f : Nat → UInt64} {i : Int32} {x : UInt64} {rest : List Value} (hd : decode cc pc = .ok (.dastore, 1)) (hq : h[q]? = some (.inl (t, n, .inr (.inr (.inr (.inl f)))))) (ht : zt_at[t]? = some .double) (hin : zx_in i n) (k : ∀ H' locs', zx_S D dA B a n0 z0 s (h.set q (.inl (t, n, .inr (.inr (.inr (.inl (vf_upd f i.toNatClampNeg x))))))) H' locs' cells slots → W p l e R s m args below meth c H' locs' cells slots Q (F0 m (pc + 1) ls rest)) : W p l e R s m args below meth c H locs cells slots Q (F0 m pc ls (.double x :: .int i :: .ref (a q) :: rest)) := by
  obtain ⟨hx, hb, hml, hown, hon, hts, hnw, hK, hini, ha, hab, hbB, hBs, hX, hK2, hH2⟩ := C
  rw [zx_S_q hS ha hq]
  exact va_dast hx hb hK hS.1 zx_w_D hS.2.1 q t (zx_w_get hq) (zx_tys_get ht) hin hd (fun H1 locs1 hP _ hV => k H1 locs1 (zx_S_set (e1 := .inl (t, n, .inr (.inr (.inr (.inl (vf_upd f i.toNatClampNeg x)))))) hS hq rfl hP hV))
theorem zx_up_map (a : Nat → Nat) (f : Nat → Option Nat) (i : Nat) (r : Option Nat) : (fun j => (va_up f i r j).map a) = va_up (fun j => (f j).map a) i (r.map a) := by
  funext j
  unfold va_up
  split <;> rfl
theorem zx_aastN_ok (C : zx_Cx D dA B a b sc oc own ini cc nL p s m args meth c) (hS : zx_S D dA B a n0 z0 s h H locs cells slots) {q t n : Nat} {C1 : String} {f : Nat → Option Nat} {i : Int32} {rest : List Value} (hd : decode cc pc = .ok (.aastore, 1)) (hq : h[q]? = some (.inl (t, n, .inr (.inr (.inr (.inr f)))))) (ht : zt_at[t]? = some (.object C1)) (hin : zx_in i n) (k : ∀ H' locs', zx_S D dA B a n0 z0 s (h.set q (.inl (t, n, .inr (.inr (.inr (.inr (va_up f i.toNatClampNeg none))))))) H' locs' cells slots → W p l e R s m args below meth c H' locs' cells slots Q (F0 m (pc + 1) ls rest)) : W p l e R s m args below meth c H locs cells slots Q (F0 m pc ls (.null :: .int i :: .ref (a q) :: rest)) := by
  obtain ⟨hx, hb, hml, hown, hon, hts, hnw, hK, hini, ha, hab, hbB, hBs, hX, hK2, hH2⟩ := C
  rw [zx_S_q hS ha hq]
  refine va_astqN hx hb hK hS.1 zx_w_D hS.2.1 q t (zx_w_get hq) (zx_tys_get ht) hin hd (fun H1 locs1 hP _ hV => k H1 locs1 (zx_S_set (e1 := .inl (t, n, .inr (.inr (.inr (.inr (va_up f i.toNatClampNeg none)))))) hS hq rfl ?_ hV))
  have e9 := zx_up_map a f i.toNatClampNeg none
  simp only [zx_e, e9]
  exact hP
theorem zx_aast_ok (C : zx_Cx D dA B a b sc oc own ini cc nL p s m args meth c) (hS : zx_S D dA B a n0 z0 s h H locs cells slots) {q t n cj v : Nat} {vs : List Value} {C1 : String} {f : Nat → Option Nat} {i : Int32} {rest : List Value} (hd : decode cc pc = .ok (.aastore, 1)) (hq : h[q]? = some (.inl (t, n, .inr (.inr (.inr (.inr f)))))) (ht : zt_at[t]? = some (.object C1)) (hc : zt_atc[t]? = some cj) (hc9 : cj ≠ 999) (hv : h[v]? = some (.inr (cj, vs))) (hin : zx_in i n) (k : ∀ H' locs', zx_S D dA B a n0 z0 s (h.set q (.inl (t, n, .inr (.inr (.inr (.inr (va_up f i.toNatClampNeg (some v)))))))) H' locs' cells slots → W p l e R s m args below meth c H' locs' cells slots Q (F0 m (pc + 1) ls rest)) : W p l e R s m args below meth c H locs cells slots Q (F0 m pc ls (.ref (a v) :: .int i :: .ref (a q) :: rest)) := by
  obtain ⟨hx, hb, hml, hown, hon, hts, hnw, hK, hini, ha, hab, hbB, hBs, hX, hK2, hH2⟩ := C
  rw [zx_S_q hS ha hq]
  have hr := zt_atc_ok t cj C1 ht hc hc9
  simp only [Option.map_eq_some_iff] at hr
  obtain ⟨r, hr, rfl⟩ := hr
  have hg := zx_w_get (dA := dA) (B := B) (a := a) hv
  rw [← zx_S_q hS ha hv] at hg
  refine va_astq hx hb hK hS.1 zx_w_D hS.2.1 q t v cj (r := r) (zx_w_get hq) (zx_tys_get ht) hg hr hin hd (fun H1 locs1 hP _ hV => k H1 locs1 (zx_S_set (e1 := .inl (t, n, .inr (.inr (.inr (.inr (va_up f i.toNatClampNeg (some v))))))) hS hq rfl ?_ hV))
  have e9 := zx_up_map a f i.toNatClampNeg (some v)
  simp only [zx_e, e9]
  exact hP
end ZXI

/-! ===== the further heap steps are the kit's rows ===== -/
section ZXK2
variable {p : Program} {l : Launch} {e : Env} {R : Room} {s : State} {m : MethodId} {args : Array Value} {below : List Frame} {meth : Method} {c : Code} {H : Heap} {locs : List Loc} {cells slots : Nat} {Q : State → Prop} {cc : ByteArray} {pc nL : Nat} {ls : Array Slot} {lv : List (Nat × Value)} {st : List Value} {a : Nat → Nat}
variable {D : va_G} {dA : Nat → ClassId} {B b n0 z0 oc : Nat} {own : String} {ini : Bool} {sc : (Nat × (Nat → Int32)) × Bool} {h : zx_H}
theorem zx_x_at {q : Nat} {e0 : FieldType × zx_E} (h : zx_x q = some e0) : ∃ j, q = zx_lim + 1 + j ∧ zt_ext j = some e0 := by
  unfold zx_x at h
  split at h
  · next hq => exact ⟨q - zx_lim - 1, by omega, h⟩
  · cases h
theorem zx_x_ok {nf : Bool} {H0 : Heap} (hF : zx_XF B a nf s H0) {q : Nat} {e0 : FieldType × zx_E} (h : zx_x q = some e0) : zx_xe B a s H0 q e0 := by
  obtain ⟨j, rfl, hj⟩ := zx_x_at h
  exact hF.1 j e0 hj
theorem zx_or2_ok {nf : Bool} {H0 : Heap} (hF : zx_XF B a nf s H0) (ha : ∀ k, k < zx_lim → a k = B + k) {x y : Value} {u w : Option Nat} (hx : zx_or2 x = some u) (hy : zx_or2 y = some w) : zx_v a x = va_rf (u.map a) ∧ zx_v a y = va_rf (w.map a) ∧ (u.map a = w.map a ↔ u = w) := by
  have key : ∀ {z : Value} {t : Option Nat}, zx_or2 z = some t → zx_v a z = va_rf (t.map a) ∧ (t = none ∨ ∃ k, t = some k ∧ ((k < zx_lim ∧ a k = B + k) ∨ (k = zx_lim + 1 ∧ a k < B))) := by
    intro z t hz
    unfold zx_or2 at hz
    split at hz
    · cases hz; exact ⟨rfl, Or.inl rfl⟩
    · next k =>
      split at hz
      · next hk =>
        cases hz
        refine ⟨rfl, Or.inr ⟨k, rfl, ?_⟩⟩
        rcases hk with hk | ⟨rfl, hk⟩
        · exact Or.inl ⟨hk, ha k hk⟩
        · obtain ⟨q, hq⟩ := Option.isSome_iff_exists.mp hk
          exact Or.inr ⟨rfl, hF.2.2.2.1 0 q hq⟩
      · cases hz
    · cases hz
  obtain ⟨e1, h1⟩ := key hx
  obtain ⟨e2, h2⟩ := key hy
  refine ⟨e1, e2, ⟨fun h9 => ?_, fun h9 => by rw [h9]⟩⟩
  rcases h1 with rfl | ⟨k, rfl, h1⟩ <;> rcases h2 with rfl | ⟨j, rfl, h2⟩
  · rfl
  · cases h9
  · cases h9
  · simp only [Option.map_some, Option.some.injEq] at h9 ⊢
    omega
theorem zx_ob_any (C : zx_Cx D dA B a b sc oc own ini cc nL p s m args meth c) (hS : zx_S D dA B a n0 z0 s h H locs cells slots) {k : Nat} (hk : zx_ob h k = true) : va_Any "java/lang/Object" s H (a k) := by
  obtain ⟨hx, hb, hml, hown, hon, hts, hnw, hK, hini, ha, hab, hbB, hBs, hX, hK2, hH2⟩ := C
  unfold zx_ob at hk
  split at hk
  · next ci fs hq =>
    have hci : ci < zt_x0 := by simpa using hk
    rw [zx_S_q hS ha hq]
    have hg := zx_w_get (dA := dA) (B := B) (a := a) hq
    obtain ⟨r, hr, -⟩ := hS.1 _ _ hg
    exact va_rAny hK hS.1 hg hr (fun comp c0 h1 h2 => vb_asgC (hnw _ (zt_cobj ci r hci hr)) comp c0 h1 h2)
  · next t x hq =>
    have hk : zt_aok[t]? = some true := by simpa using hk
    have ht : t < zt_at.length := zt_aok_lt hk
    rw [zx_S_q hS ha hq]
    have hg := zx_w_get (dA := dA) (B := B) (a := a) hq
    have hty := List.getElem?_eq_getElem ht
    obtain ⟨nm, hnm, hcast⟩ := zt_aobj t _ hk hty
    have hfc := zx_RA_fc (hK.2 t _ (zx_tys_get hty)).2
    dsimp only at hfc
    rw [← hnm] at hfc
    obtain ⟨k9, h9, -⟩ := Vm.findClass_spec hfc
    have hcell : ∃ cell : Cell, H[B + k]? = some cell ∧ cell.vm.isStatics = false ∧ cell.cls = dA t := by
      have h8 := hS.1 _ _ hg
      obtain ⟨n, x⟩ := x
      rcases x with x | x | x | x | x <;> exact ⟨_, h8, rfl, rfl⟩
    obtain ⟨cell, c1, c2, c3⟩ := hcell
    refine ⟨cell, c1, c2, ⟨k9, by rw [c3]; exact h9⟩, fun comp hcomp => ?_⟩
    rw [c3]
    exact vb_asgC (hnw _ hcast) comp (dA t) hcomp hfc
  · next hq =>
    split at hk
    · next C1 o1 hxx =>
      obtain ⟨j, hj, hjx⟩ := zx_x_at hxx
      have hxe := zx_x_ok hH2.1 hxx
      obtain ⟨ci1, fs1⟩ := o1
      obtain ⟨hO, -⟩ := hxe
      obtain ⟨cell, c1, c2, c3, c4⟩ := va_O.kept hO hS.2.1.2.1
      obtain ⟨k9, h9, -⟩ := Vm.findClass_spec c3
      exact ⟨cell, c1, c2, ⟨k9, h9⟩, fun comp hcomp => vb_asgC (hnw _ (zt_xobj C1 (zt_ext_obj j C1 _ hjx))) comp cell.cls hcomp c3⟩
    · cases hk
theorem zx_ldcW (hexec : p.tables.exec = Jvm.exec) (hb : c.code = cc) {own tx : String} {index q : Nat} {rest : List Value} (hown : s.vm.findClass own = some m.cls) (hZ : vk_R own index tx q s) (hdg : decode cc pc = .ok (.ldc_w index, 3))
    (k : W p l e R s m args below meth c H locs cells slots Q (F0 m (pc + 3) ls (.ref q :: rest))) : W p l e R s m args below meth c H locs cells slots Q (F0 m pc ls rest) := by
  intro T hT X
  obtain ⟨t, a1, b1⟩ := k T hT X
  exact ⟨t, X.ldcStringW hexec hown (text := tx) (a := q) hZ.1 hZ.2 (g := F0 m pc ls rest) rfl (by rw [hb]; exact hdg) t a1, b1⟩
theorem zt_ac_words : nativeFrameWords "java/lang/System" "arraycopy" 5 + 11 + 8 ≤ 150 := by decide +kernel
theorem zx_clone_ok (C : zx_Cx D dA B a b sc oc own ini cc nL p s m args meth c) (hS : zx_S D dA B a n0 z0 s h H locs cells slots) {i t y0 w0 n q : Nat} {f : Nat → Int32} {rest : List Value} (hd : decode cc pc = .ok (.invokevirtual i, 3)) (hp : zx_pool oc i = some (23, t, y0, w0)) (hq : h[q]? = some (.inl (t, n, .inl f))) (hfb : zx_fb f 0 n = true) (hlim : h.length < zx_lim) (hmls : c.maxLocals = ls.size)
    (hframes : 1 ≤ R.frames) (hlocals : (rest.map fun v => v.category).sum + 14 ≤ R.locals) (hcells : cells + 1 ≤ R.cells) (hslots : slots + n ≤ R.slots)
    (kk : ∀ (H1 : Heap), zx_S D dA B a n0 z0 s (h ++ [.inl (t, n, .inl f)]) H1 locs (cells + 1) (slots + n) → W p l e R s m args below meth c H1 locs (cells + 1) (slots + n) Q (F0 m (pc + 3) ls (.ref (a h.length) :: rest))) : W p l e R s m args below meth c H locs cells slots Q (F0 m pc ls (.ref (a q) :: rest)) := by
  obtain ⟨hx, hb, hml, hown, hon, hts, hnw, hK, hini, ha, hab, hbB, hBs, hX, hK2, hH2⟩ := C
  obtain ⟨hty, w1, w2, w3, w4, w5, w6⟩ := zx_pool_ok hon hp
  have hV := hS.2.1
  rw [zx_S_q hS ha hq]
  have hg := zx_w_get (dA := dA) (B := B) (a := a) hq
  have hcell : H[B + q]? = some (vp_cell (dA t) (n, .inl f)) := hS.1 q _ hg
  have hsz : (vp_cell (dA t) (n, .inl f)).slots.size = n := arrV_size _ _ _
  have hRA := hK.2 t _ (zx_tys_get hty)
  have hfc := zx_RA_fc hRA.2
  have hnm : s.vm.findClass "[B" = some (dA t) := hfc
  obtain ⟨c0, t9, f1, f2, f3⟩ := Cond.castable_spec (va_Nw.use (A := args) rfl (hnw _ w6))
  cases hnm.symm.trans f1
  intro T hT X
  have hHs := zx_S_size hS hT X
  obtain ⟨-, kA, hkA, comp, hkind⟩ := State.isArrayOf_alike X.warmed.alike (hRA.1 0 (fun _ => .null))
  obtain ⟨-, kS, hkS, compS, hkindS⟩ := hRA.1 0 (fun _ => .null)
  obtain ⟨vm', X', st⟩ := X.cloneArray hx hown (hts _ w1) (hts _ w2) (hts _ w3) (hts _ w4) (hts _ w5) (a := B + q) (cell := vp_cell (dA t) (n, .inl f)) (by rw [hT]; exact hcell) (fun k h => by cases h) (fun h => by cases h) hnm f2 f3
    (fun i v hv => by
      have hk' : T.vm.classes[dA t]? = some kA := hkA
      have h8 : fits .byte v = true := va_fit (cA := dA t) (n := n) (F := fun j => .int (f j)) (fun j hj => by
        have h7 := zx_fb_ok hfb j hj
        rw [Nat.zero_add] at h7
        exact h7) i v hv
      show State.fitsSlot _ (dA t) _ i v = true
      simpa [State.fitsSlot, State.slotType?, hk', hkind] using h8)
    (g := F0 m pc ls (.ref (B + q) :: rest)) rfl (by rw [hmls]) rfl (by rw [hb]; exact hd) hframes (by show 2 * 0 + _ + 14 ≤ _; omega) hcells (by rw [hsz]; exact hslots) (hloader := Vm.clonesLoader_of_array hkS hkindS)
  have hcellE : ({ cls := (vp_cell (dA t) (n, .inl f)).cls, slots := (vp_cell (dA t) (n, .inl f)).slots } : Cell) = vp_cell (dA t) (n, .inl f) := rfl
  rw [hcellE, hsz] at X'
  generalize hH1 : H.push (vp_cell (dA t) (n, .inl f)) = H1
  have z1 : H1.size = H.size + 1 := by rw [← hH1, Array.size_push]
  have e1 : H1[H.size]? = some (vp_cell (dA t) (n, .inl f)) := by rw [← hH1, Array.getElem?_push_size]
  have o1 : ∀ j : Nat, j < H.size → H1[j]? = H[j]? := fun j hj => by rw [← hH1, Array.getElem?_push, if_neg (Nat.ne_of_lt hj)]
  have hP1 : va_P D zt_cl (zx_w dA B a h ++ [(B + h.length, zx_e dA a (.inl (t, n, .inl f)))]) H1 := by
    refine (hS.1.kept fun k y hy => o1 y.1 ((hS.1 k y hy).lt)).app fun k y hy => ?_
    have hz : k < 1 := (List.getElem?_eq_some_iff.mp hy).1
    rw [show k = 0 by omega] at hy
    cases hy
    rw [← hHs]
    exact e1
  have hS1 := zx_S_push (e1 := .inl (t, n, .inl f)) hS (N := n) rfl hlim hP1 ⟨Nat.le_trans hV.1 (by omega), fun y h1 h2 => (o1 y (Nat.lt_of_lt_of_le h1 hV.1)).trans (hV.2.1 y h1 h2), hV.2.2⟩
  have hkk := kk H1 hS1
  rw [ha h.length hlim, ← hHs] at hkk
  obtain ⟨t2, b1, b2⟩ := hkk ((T.setVm vm').pushCell (vp_cell (dA t) (n, .inl f))) (by rw [← hH1, ← hT]; rfl) X'
  refine ⟨t2, st t2 ?_, b2⟩
  rw [hcellE, hT]
  exact b1
set_option maxHeartbeats 4000000 in
theorem zx_h2_ok (C : zx_Cx D dA B a b sc oc own ini cc nL p s m args meth c) (hS : zx_S D dA B a n0 z0 s h H locs cells slots) {ins : Instr} {n : Nat} {f : zx_F} {h' : zx_H} (hd : decode cc pc = .ok (ins, n)) (hl : lv_has ls nL (zx_l a lv)) (h1 : zx_h2 oc sc pc lv st h ins n = some (f, h'))
    (hc1 : cells ≤ R.cells) (hs1 : slots ≤ R.slots) (hc2 : n0 + R.cells ≥ h'.length) (hs2 : z0 + R.slots ≥ zx_sz h') (hRf : 1 ≤ R.frames) (hRl : 150 ≤ R.locals) (hk : zx_KH D dA B n0 z0 p l e R s m args below meth c Q nL a (f, h')) : W p l e R s m args below meth c H locs cells slots Q (F0 m pc ls (zx_st a st)) := by
  have C0 := C
  obtain ⟨hx, hb, hml, hown, hon, hts, hnw, hK, hini, ha, hab, hbB, hBs, hX, hK2, hH2⟩ := C0
  have hn0 := hS.2.2.1
  have hz0 := hS.2.2.2.2.1
  have hF := hH2.1
  have hmls : c.maxLocals = ls.size := by rw [hml]; exact hl.1.symm
  have hsum : ∀ r : List Value, (r.map fun v => v.category).sum ≤ 8 → ((zx_st a r).map fun v => v.category).sum ≤ 8 := fun r hr => by rw [zx_cats]; exact hr
  have hac := zt_ac_words
  unfold zx_h2 at h1
  split at h1
  · -- getfield
    split at h1
    · next q r =>
      split at h1
      · next ci k w0 C1 cj fs hp hxx =>
        split at h1
        · next hc =>
          subst hc
          split at h1
          · cases h1
          · next v hnr hv =>
            cases h1
            obtain ⟨r9, ref, hr, hkN, hw, hsm⟩ := zx_pool_ok hon hp
            obtain ⟨hO, hor⟩ := zx_x_ok hF hxx
            rcases hor with h9 | ⟨r8, hr8, -, hfs⟩
            · subst h9
              exact absurd (List.getElem?_eq_some_iff.mp hr).1 (by decide)
            · cases Option.some.inj (hr.symm.trans hr8)
              obtain ⟨-, hOF⟩ := hfs k v hv (fun z hz => hnr z hz)
              exact va_getX (N := 1) (i := 0) (v := fun _ => zx_v a v) (ad := fun _ => a q) hx hb (fun _ _ => hOF) Nat.zero_lt_one hS.2.1 hown (hts _ hw) (zx_same hts hsm) hd (hk _ _ _ _ hS ls hl)
          · cases h1
        · cases h1
      · cases h1
    · cases h1
  · -- getstatic
    split at h1
    · next x y0 w0 hp =>
      simp only [Option.map_eq_some_iff, Prod.mk.injEq] at h1
      obtain ⟨v, hv, rfl, rfl⟩ := h1
      obtain ⟨e9, he9, hw⟩ := zx_pool_ok hon hp
      exact va_gets hx hb (hF.2.1 x e9 v he9 hv) hS.2.1 hown (hts _ hw) (fun _ h9 => h9) hd (hk _ _ _ _ hS ls hl)
    · cases h1
  · -- arraylength
    split at h1
    · next q r =>
      split at h1
      · next ty t n x hxx =>
        cases h1
        have hxe := zx_x_ok hF hxx
        rcases x with x | x | x | x | x
        · exact va_tlen hx hb hxe hS.2.1 rfl hd (hk _ _ _ _ hS ls hl)
        · cases ty <;> exact hxe.elim
        · cases ty <;> exact hxe.elim
        · cases ty <;> exact hxe.elim
        · exact va_tlen hx hb hxe hS.2.1 rfl hd (hk _ _ _ _ hS ls hl)
      · cases h1
    · cases h1
  · -- baload
    split at h1
    · next i q r =>
      split at h1
      · next t n f hxx =>
        split at h1
        · next hin =>
          cases h1
          exact va_tb hx hb (zx_x_ok hF hxx) hS.2.1 hin rfl hd (hk _ _ _ _ hS ls hl)
        · cases h1
      · cases h1
    · cases h1
  · -- aaload
    split at h1
    · next i q r =>
      split at h1
      · next t n f hq =>
        split at h1
        · next ty ht =>
          split at h1
          · next hin => cases h1; exact zx_aalda_ok C hS hd hq ht hin (hk _ _ _ _ hS ls hl)
          · cases h1
        · cases h1
      · cases h1
      · split at h1
        · next C1 t n f hxx =>
          split at h1
          · next hin =>
            cases h1
            exact vb_tq hx hb (zx_x_ok hF hxx) hS.2.1 hin rfl hd (hk _ _ _ _ hS ls hl)
          · cases h1
        · cases h1
    · cases h1
  · -- aastore
    split at h1
    · next k i q r =>
      split at h1
      · next t n f hq =>
        split at h1
        · next hc =>
          obtain ⟨rfl, h999, hob, hin⟩ := hc
          cases h1
          have hany := zx_ob_any C hS hob
          have hqa : a q = B + q := zx_S_q hS ha hq
          show W p l e R s m args below meth c H locs cells slots Q (F0 m pc ls (.ref (a k) :: .int i :: .ref (a q) :: zx_st a r))
          rw [hqa]
          refine va_astqM hx hb hK hS.1 zx_w_D hS.2.1 q zt_objT (zx_w_get hq) (zx_tys_get (zt_objT_ok h999)) hany hin hd (fun H1 locs1 hP _ hV => ?_)
          refine hk _ _ _ _ (zx_S_set (e1 := .inl (zt_objT, n, .inr (.inr (.inr (.inr (va_up f i.toNatClampNeg (some k))))))) hS hq rfl ?_ hV) ls hl
          have e9 := zx_up_map a f i.toNatClampNeg (some k)
          simp only [zx_e, e9]
          exact hP
        · split at h1
          · next C9 cj C8 ci fs ht hcj hxx =>
            split at h1
            · next hc =>
              obtain ⟨rfl, h999, hin⟩ := hc
              cases h1
              have hqa : a q = B + q := zx_S_q hS ha hq
              have h7 := zt_atc_ok t ci C9 ht hcj h999
              simp only [Option.map_eq_some_iff] at h7
              obtain ⟨r7, hr7, hC7⟩ := h7
              obtain ⟨hO, hor⟩ := zx_x_ok hF hxx
              obtain ⟨r8, hr8, hC8, -⟩ := hor.resolve_left h999
              cases Option.some.inj (hr7.symm.trans hr8)
              obtain ⟨cell, c1, c2, c3, c4⟩ := va_O.kept hO hS.2.1.2.1
              have hAt := (hK.1 ci r7 hr7).2
              have hany : va_Any C9 s H (a k) := by
                rw [← hC8] at c3
                have hcc : D.1 ci = cell.cls := Option.some.inj (hAt.1.symm.trans c3)
                refine ⟨cell, c1, c2, ?_, fun comp hcomp => ?_⟩
                · obtain ⟨kC, hkC, -⟩ := hAt.2
                  exact ⟨kC, by rw [← hcc]; exact hkC⟩
                · rw [← hC7] at hcomp
                  have h8 : comp = D.1 ci := Option.some.inj (hcomp.symm.trans hAt.1)
                  rw [h8, ← hcc]
                  exact va_assign hAt
              show W p l e R s m args below meth c H locs cells slots Q (F0 m pc ls (.ref (a k) :: .int i :: .ref (a q) :: zx_st a r))
              rw [hqa]
              refine va_astqM hx hb hK hS.1 zx_w_D hS.2.1 q t (zx_w_get hq) (zx_tys_get ht) hany hin hd (fun H1 locs1 hP _ hV => ?_)
              refine hk _ _ _ _ (zx_S_set (e1 := .inl (t, n, .inr (.inr (.inr (.inr (va_up f i.toNatClampNeg (some k))))))) hS hq rfl ?_ hV) ls hl
              have e9 := zx_up_map a f i.toNatClampNeg (some k)
              simp only [zx_e, e9]
              exact hP
            · cases h1
          · cases h1
      · cases h1
    · cases h1
  · -- multianewarray
    split at h1
    · next mk nk r =>
      split at h1
      · next t y0 w0 hp =>
        split at h1
        · next ty ht =>
          split at h1
          · next t2 a0 ht2 ha0 =>
            split at h1
            · next hc =>
              obtain ⟨rfl, c1, c2, c3, c4, c5⟩ := hc
              cases h1
              have hz1 := zx_arr_len ha0
              have hz2 : zx_sz1 (.inl (t2, a0)) = mk.toNatClampNeg := hz1
              have hzz : zx_sz (h ++ .inl (t, nk.toNatClampNeg, .inr (.inr (.inr (.inr (fun j => if j < nk.toNatClampNeg then some (h.length + 1 + j) else none))))) :: List.replicate nk.toNatClampNeg (.inl (t2, a0))) = zx_sz h + (nk.toNatClampNeg + nk.toNatClampNeg * mk.toNatClampNeg) := by
                simp only [zx_sz, List.map_append, List.sum_append, List.map_cons, List.sum_cons, List.map_replicate, hz2, List.sum_replicate_nat]
                rfl
              rw [hzz] at hs2
              simp only [List.length_append, List.length_cons, List.length_replicate] at hc2
              exact zx_multi_ok C hS hd hp ht ht2 ha0 c1 c2 c3 c4 c5 (by omega) (by omega) (fun H' locs' hS' => hk _ _ _ _ hS' ls hl)
            · cases h1
          · cases h1
        · cases h1
      · cases h1
    · cases h1
  · -- checkcast
    split at h1
    · cases h1
      exact lv_castN hx hb hd (hk _ _ _ _ hS ls hl)
    · next k r =>
      split at h1
      · next ci y0 w0 hp =>
        obtain ⟨C1, hw, hC, -⟩ := zx_pool_ok hon hp
        split at h1
        · next cj fs hq =>
          split at h1
          · next hc =>
            obtain ⟨rfl, h999⟩ := hc
            cases h1
            have hC2 : (zt_cl[cj]?).map (·.1) = some C1 := hC.resolve_left h999
            simp only [Option.map_eq_some_iff] at hC2
            obtain ⟨r9, hr9, rfl⟩ := hC2
            have hrecv := va_recv hK hS.1 hr9 (zx_w_get hq)
            rw [← zx_S_q hS ha hq] at hrecv
            exact va_castE hx hb hown (hts _ hw) hrecv hd (hk _ _ _ _ hS ls hl)
          · cases h1
        · split at h1
          · next C2 cj fs hxx =>
            split at h1
            · next hc =>
              obtain ⟨rfl, h999⟩ := hc
              cases h1
              have hC2 : (zt_cl[cj]?).map (·.1) = some C1 := hC.resolve_left h999
              simp only [Option.map_eq_some_iff] at hC2
              obtain ⟨r9, hr9, rfl⟩ := hC2
              obtain ⟨hO, hor⟩ := zx_x_ok hF hxx
              obtain ⟨r8, hr8, hC9, -⟩ := hor.resolve_left h999
              cases Option.some.inj (hr9.symm.trans hr8)
              obtain ⟨cell, c1, c2, c3, c4⟩ := va_O.kept hO hS.2.1.2.1
              exact va_castE hx hb hown (hts _ hw) ⟨cell, c1, c2, by rw [hC9]; exact c3⟩ hd (hk _ _ _ _ hS ls hl)
            · cases h1
          · cases h1
      · next t y0 w0 hp =>
        obtain ⟨nm, ty, hw, hty, hnm⟩ := zx_pool_ok hon hp
        split at h1
        · next t' x hq =>
          split at h1
          · next hc =>
            subst hc
            cases h1
            have hfc := zx_RA_fc (hK.2 t' _ (zx_tys_get hty)).2
            dsimp only at hfc
            rw [← hnm] at hfc
            have hqa : a k = B + k := zx_S_q hS ha hq
            show W p l e R s m args below meth c H locs cells slots Q (F0 m pc ls (.ref (a k) :: zx_st a r))
            have hk9 := hk _ _ _ _ hS ls hl
            have hk9 : W p l e R s m args below meth c H locs cells slots Q (F0 m (pc + 3) ls (.ref (a k) :: zx_st a r)) := hk9
            rw [hqa] at hk9 ⊢
            have hg := zx_w_get (dA := dA) (B := B) (a := a) hq
            obtain ⟨n9, x⟩ := x
            rcases x with x | x | x | x | x <;> exact va_castA hx hb hown (hts _ hw) hS.1 k hg hfc hd hk9
          · cases h1
        · cases h1
      · next x0 y0 w0 hp =>
        split at h1
        · next hc =>
          cases h1
          have hw := zx_pool_ok hon hp
          have hO : ∃ cell : Cell, H[a k]? = some cell ∧ cell.vm.isStatics = false ∧ s.vm.findClass "java/lang/Boolean" = some cell.cls := by
            rcases hc with ⟨rfl, hz⟩ | ⟨rfl, hz⟩
            · obtain ⟨cell, c1, c2, c3, c4⟩ := va_O.kept (hF.1 1 _ (zt_bool1 hz)).1 hS.2.1.2.1
              exact ⟨cell, c1, c2, c3⟩
            · obtain ⟨cell, c1, c2, c3, c4⟩ := va_O.kept (hF.1 2 _ (zt_bool2 hz)).1 hS.2.1.2.1
              exact ⟨cell, c1, c2, c3⟩
          exact va_castE hx hb hown (hts _ hw) hO hd (hk _ _ _ _ hS ls hl)
        · cases h1
      · cases h1
    · cases h1
  · -- bastore
    split at h1
    · next x i q r =>
      split at h1
      · next t n f hq =>
        have hqa : a q = B + q := zx_S_q hS ha hq
        show W p l e R s m args below meth c H locs cells slots Q (F0 m pc ls (.int x :: .int i :: .ref (a q) :: zx_st a r))
        rw [hqa]
        split at h1
        · next hc =>
          cases h1
          exact va_zast hx hb hK hS.1 zx_w_D hS.2.1 q t (zx_w_get hq) (zx_tys_get hc.1) hc.2 hd (fun H1 locs1 hP _ hV => hk _ _ _ _ (zx_S_set (e1 := .inl (t, n, .inl (upd f i.toNatClampNeg (vp_nar .boolean x)))) hS hq rfl hP hV) ls hl)
        · split at h1
          · next hc =>
            cases h1
            exact va_bast hx hb hK hS.1 zx_w_D hS.2.1 q t (zx_w_get hq) (zx_tys_get hc.1) hc.2 hd (fun H1 locs1 hP _ hV => hk _ _ _ _ (zx_S_set (e1 := .inl (t, n, .inl (upd f i.toNatClampNeg (vp_nar .byte x)))) hS hq rfl hP hV) ls hl)
          · cases h1
      · cases h1
    · cases h1
  · -- invokestatic: Math, arraycopy
    split at h1
    · next x0 w0 hp =>
      have hw := zx_pool_ok hon hp
      split at h1
      · next y x r =>
        split at h1
        · next hc =>
          cases h1
          have h9 : ((List.map (zx_v a) r).map fun v => v.category).sum ≤ 8 := hsum r hc
          rcases hw with ⟨-, w1, w2, w3, w4⟩ | ⟨h8, -⟩ | ⟨h8, -⟩
          · exact va_mmax hx hb hmls hown (hts _ w1) (hts _ w2) (hts _ w3) (hts _ w4) hRf (by omega) hc1 hs1 hd (hk _ _ _ _ hS ls hl)
          · exact absurd h8 (by decide)
          · exact absurd h8 (by decide)
        · cases h1
      · cases h1
    · next x0 w0 hp =>
      have hw := zx_pool_ok hon hp
      split at h1
      · next y x r =>
        split at h1
        · next hc =>
          cases h1
          have h9 : ((List.map (zx_v a) r).map fun v => v.category).sum ≤ 8 := hsum r hc
          rcases hw with ⟨h8, -⟩ | ⟨-, w1, w2, w3, w4⟩ | ⟨h8, -⟩
          · exact absurd h8 (by decide)
          · exact va_mmin hx hb hmls hown (hts _ w1) (hts _ w2) (hts _ w3) (hts _ w4) hRf (by omega) hc1 hs1 hd (hk _ _ _ _ hS ls hl)
          · exact absurd h8 (by decide)
        · cases h1
      · cases h1
    · next x0 w0 hp =>
      have hw := zx_pool_ok hon hp
      split at h1
      · next y x r =>
        split at h1
        · next hc =>
          cases h1
          have h9 : ((List.map (zx_v a) r).map fun v => v.category).sum ≤ 8 := hsum r hc
          rcases hw with ⟨h8, -⟩ | ⟨h8, -⟩ | ⟨-, w1, w2, w3, w4⟩
          · exact absurd h8 (by decide)
          · exact absurd h8 (by decide)
          · exact va_mmin_long hx hb hmls hown (hts _ w1) (hts _ w2) (hts _ w3) (hts _ w4) hRf (by omega) hc1 hs1 hd (hk _ _ _ _ hS ls hl)
        · cases h1
      · cases h1
    · next x0 y0 w0 hp =>
      have hw := zx_pool_ok hon hp
      split at h1
      · next len dp q1 sp q0 r =>
        split at h1
        · next t0 m0 f0 t1 m1 g0 hq0 hq1 =>
          split at h1
          · next hc =>
            obtain ⟨rfl, hty, c1, c2, c3, c4, c5, c6⟩ := hc
            cases h1
            have h9 := hsum r c6
            show W p l e R s m args below meth c H locs cells slots Q (F0 m pc ls (.int len :: .int dp :: .ref (a q1) :: .int sp :: .ref (a q0) :: zx_st a r))
            rw [zx_S_q hS ha hq0, zx_S_q hS ha hq1]
            rcases hty with hty | ⟨hty, hfb⟩
            · exact va_copyi hx hb hmls hown (hts _ hw) (hts _ zt_acopy.1) (hts _ zt_acopy.2.1) (hts _ zt_acopy.2.2) hK hS.1 zx_w_D hS.2.1 q0 q1 t0 t0 (zx_w_get hq0) (zx_w_get hq1) (zx_tys_get hty) (zx_tys_get hty) rfl c1 c2 c3 c4 c5 (fun _ _ => rfl) hRf (by omega) hd (fun H1 locs1 hP _ hV => hk _ _ _ _ (zx_S_set (e1 := .inl (t0, m1, .inl (va_cpy f0 g0 sp.toNatClampNeg dp.toNatClampNeg len.toNatClampNeg))) hS hq1 rfl hP hV) ls hl)
            · exact va_copyi hx hb hmls hown (hts _ hw) (hts _ zt_acopy.1) (hts _ zt_acopy.2.1) (hts _ zt_acopy.2.2) hK hS.1 zx_w_D hS.2.1 q0 q1 t0 t0 (zx_w_get hq0) (zx_w_get hq1) (zx_tys_get hty) (zx_tys_get hty) rfl c1 c2 c3 c4 c5 (zx_fb_ok hfb) hRf (by omega) hd (fun H1 locs1 hP _ hV => hk _ _ _ _ (zx_S_set (e1 := .inl (t0, m1, .inl (va_cpy f0 g0 sp.toNatClampNeg dp.toNatClampNeg len.toNatClampNeg))) hS hq1 rfl hP hV) ls hl)
          · cases h1
        · next t0 m0 f0 t1 m1 g0 hq0 hq1 =>
          split at h1
          · next hc =>
            obtain ⟨rfl, hty, c1, c2, c3, c4, c5, c6⟩ := hc
            cases h1
            have h9 := hsum r c6
            show W p l e R s m args below meth c H locs cells slots Q (F0 m pc ls (.int len :: .int dp :: .ref (a q1) :: .int sp :: .ref (a q0) :: zx_st a r))
            rw [zx_S_q hS ha hq0, zx_S_q hS ha hq1]
            exact va_copyl hx hb hmls hown (hts _ hw) (hts _ zt_acopy.1) (hts _ zt_acopy.2.1) (hts _ zt_acopy.2.2) hK hS.1 zx_w_D hS.2.1 q0 q1 t0 t0 (zx_w_get hq0) (zx_w_get hq1) (zx_tys_get hty) (zx_tys_get hty) rfl c1 c2 c3 c4 c5 (fun _ _ => rfl) hRf (by omega) hd (fun H1 locs1 hP _ hV => hk _ _ _ _ (zx_S_set (e1 := .inl (t0, m1, .inr (.inl (va_cpy f0 g0 sp.toNatClampNeg dp.toNatClampNeg len.toNatClampNeg)))) hS hq1 rfl hP hV) ls hl)
          · cases h1
        · next t1 m1 g0 hq0 hq1 =>
          split at h1
          · next w9 n9 f9 hxx =>
            split at h1
            · next hc =>
              obtain ⟨hty, c1, c2, c3, c4, c5, c6, hfb⟩ := hc
              cases h1
              have h9 := hsum r c6
              show W p l e R s m args below meth c H locs cells slots Q (F0 m pc ls (.int len :: .int dp :: .ref (a q1) :: .int sp :: .ref (a q0) :: zx_st a r))
              exact zx_cpT_ok C hS (hts _ hw) (zx_x_ok hF hxx) hq1 hty c1 c2 c3 c4 c5 hfb hmls hRf (by omega) hd (fun H1 locs1 hS1 => hk _ _ _ _ hS1 ls hl)
            · cases h1
          · cases h1
        · cases h1
      · cases h1
    · cases h1
  · -- ldc
    split at h1
    · next x w0 hp =>
      cases h1
      obtain ⟨tx, -, hst⟩ := zx_pool_ok hon hp
      exact va_ldcS hx hb hown (hF.2.2.1 _ (hst rfl)) hd (hk _ _ _ _ hS ls hl)
    · simp only [Option.map_eq_some_iff, Prod.mk.injEq] at h1
      obtain ⟨q, hq, rfl, rfl⟩ := h1
      exact lv_ldc hx hb hown (hts _ (zx_int_ok hon hq)) hd (hk _ _ _ _ hS ls hl)
  · -- ldc_w
    split at h1
    · next x w0 hp =>
      cases h1
      obtain ⟨tx, -, hst⟩ := zx_pool_ok hon hp
      exact zx_ldcW hx hb hown (hF.2.2.1 _ (hst rfl)) hd (hk _ _ _ _ hS ls hl)
    · simp only [Option.map_eq_some_iff, Prod.mk.injEq] at h1
      obtain ⟨q, hq, rfl, rfl⟩ := h1
      exact lv_ldcw hx hb hown (hts _ (zx_int_ok hon hq)) hd (hk _ _ _ _ hS ls hl)
  · -- if_acmp
    split at h1
    · split at h1
      · next hu hw =>
        obtain ⟨e1, e2, e3⟩ := zx_or2_ok hF ha hu hw
        simp only [zx_st, List.map_cons]
        rw [e1, e2]
        split at h1
        · simp only [Option.map_eq_some_iff, Prod.mk.injEq] at h1
          obtain ⟨f0, hf0, rfl, rfl⟩ := h1
          obtain ⟨t, ht, rfl⟩ := zx_br_get hf0
          refine lv_acmp_eq hx hb hd ht (fun hc => ?_) (fun hc => ?_)
          · have h2 := hk _ _ _ _ hS ls
            simp only [e3.mp hc, decide_true, if_true] at h2
            exact h2 hl
          · have h2 := hk _ _ _ _ hS ls
            have hne := mt e3.mpr hc
            simp only [hne, decide_false, if_false, Bool.false_eq_true] at h2
            exact h2 hl
        · simp only [Option.map_eq_some_iff, Prod.mk.injEq] at h1
          obtain ⟨f0, hf0, rfl, rfl⟩ := h1
          obtain ⟨t, ht, rfl⟩ := zx_br_get hf0
          refine lv_acmp_ne hx hb hd ht (fun hc => ?_) (fun hc => ?_)
          · have h2 := hk _ _ _ _ hS ls
            have hne := mt e3.mpr hc
            simp only [hne, not_false_eq_true, decide_true, if_true] at h2
            exact h2 hl
          · have h2 := hk _ _ _ _ hS ls
            simp only [e3.mp hc, not_true, decide_false, if_false, Bool.false_eq_true] at h2
            exact h2 hl
      · cases h1
    · cases h1
  · -- the copy of an array
    split at h1
    · split at h1
      · next q r =>
        split at h1
        · next t y0 w0 hp =>
          split at h1
          · next t' n9 f9 hq =>
            split at h1
            · next hc =>
              obtain ⟨rfl, c1, c2, c3⟩ := hc
              cases h1
              have h9 : (List.map (fun v => v.category) (List.map (zx_v a) r)).sum ≤ 8 := hsum r c2
              have hz : zx_sz (h ++ [.inl (t', n9, .inl f9)]) = zx_sz h + n9 := by simp [zx_sz, zx_sz1]
              rw [hz] at hs2
              simp only [List.length_append, List.length_cons, List.length_nil] at hc2
              exact zx_clone_ok C hS hd hp hq c1 c3 hmls hRf (by omega) (by omega) (by omega) (fun H1 hS1 => hk _ _ _ _ hS1 ls hl)
            · cases h1
          · cases h1
        · cases h1
      · cases h1
    · cases h1
  · cases h1
end ZXK2

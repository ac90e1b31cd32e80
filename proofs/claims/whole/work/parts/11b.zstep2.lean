/-! ===== the further heap steps are the kit's rows ===== -/
section ZXK2
variable {p : Program} {l : Launch} {e : Env} {R : Room} {s : State} {m : MethodId} {args : Array Value} {below : List Frame} {meth : Method} {c : Code} {H : Heap} {locs : List Loc} {cells slots : Nat} {Q : State → Prop} {cc : ByteArray} {pc nL : Nat} {ls : Array Slot} {lv : List (Nat × Value)} {st : List Value} {a : Nat → Nat}
variable {D : va_G} {dA : Nat → ClassId} {B b n0 z0 oc : Nat} {own : String} {ini : Bool} {sc : (Nat × (Nat → Int32)) × Bool} {h : zx_H}
theorem zx_x_at {q : Nat} {e0 : FieldType × zx_E} (h : zx_x q = some e0) : ∃ j, q = zx_lim + 1 + j ∧ zt_ext j = some e0 := by
  unfold zx_x at h
  split at h
  · next hq => exact ⟨q - zx_lim - 1, by omega, h⟩
  · cases h
theorem zx_x_ok {nf : Bool} {H0 : Heap} (hF : zx_XF B a nf s H0) {q : Nat} {e0 : FieldType × zx_E} (h : zx_x q = some e0) : zx_xe B a s H0 q e0 := by
  obtain ⟨j, rfl, hj⟩ := zx_x_at h
  exact hF.1 j e0 hj
theorem zx_or2_ok {nf : Bool} {H0 : Heap} (hF : zx_XF B a nf s H0) (ha : ∀ k, k < zx_lim → a k = B + k) {x y : Value} {u w : Option Nat} (hx : zx_or2 x = some u) (hy : zx_or2 y = some w) : zx_v a x = va_rf (u.map a) ∧ zx_v a y = va_rf (w.map a) ∧ (u.map a = w.map a ↔ u = w) := by
  have key : ∀ {z : Value} {t : Option Nat}, zx_or2 z = some t → zx_v a z = va_rf (t.map a) ∧ (t = none ∨ ∃ k, t = some k ∧ ((k < zx_lim ∧ a k = B + k) ∨ (k = zx_lim + 1 ∧ a k < B))) := by
    intro z t hz
    unfold zx_or2 at hz
    split at hz
    · cases hz; exact ⟨rfl, Or.inl rfl⟩
    · next k =>
      split at hz
      · next hk =>
        cases hz
        refine ⟨rfl, Or.inr ⟨k, rfl, ?_⟩⟩
        rcases hk with hk | ⟨rfl, hk⟩
        · exact Or.inl ⟨hk, ha k hk⟩
        · obtain ⟨q, hq⟩ := Option.isSome_iff_exists.mp hk
          exact Or.inr ⟨rfl, hF.2.2.2.1 0 q hq⟩
      · cases hz
    · cases hz
  obtain ⟨e1, h1⟩ := key hx
  obtain ⟨e2, h2⟩ := key hy
  refine ⟨e1, e2, ⟨fun h9 => ?_, fun h9 => by rw [h9]⟩⟩
  rcases h1 with rfl | ⟨k, rfl, h1⟩ <;> rcases h2 with rfl | ⟨j, rfl, h2⟩
  · rfl
  · cases h9
  · cases h9
  · simp only [Option.map_some, Option.some.injEq] at h9 ⊢
    omega
theorem zx_ob_any (C : zx_Cx D dA B a b sc oc own ini cc nL p s m args meth c) (hS : zx_S D dA B a n0 z0 s h H locs cells slots) {k : Nat} (hk : zx_ob h k = true) : va_Any "java/lang/Object" s H (a k) := by
  obtain ⟨hx, hb, hml, hown, hon, hts, hnw, hK, hini, ha, hab, hbB, hBs, hX, hK2, hH2⟩ := C
  unfold zx_ob at hk
  split at hk
  · next ci fs hq =>
    have hci : ci < zt_x0 := by simpa using hk
    rw [zx_S_q hS ha hq]
    have hg := zx_w_get (dA := dA) (B := B) (a := a) hq
    obtain ⟨r, hr, -⟩ := hS.1 _ _ hg
    exact va_rAny hK hS.1 hg hr (fun comp c0 h1 h2 => vb_asgC (hnw _ (zt_cobj ci r hci hr)) comp c0 h1 h2)
  · next t x hq =>
    have ht : t < zt_at.length := by simpa using hk
    rw [zx_S_q hS ha hq]
    have hg := zx_w_get (dA := dA) (B := B) (a := a) hq
    have hty := List.getElem?_eq_getElem ht
    obtain ⟨nm, hnm, hcast⟩ := zt_aobj t _ hty
    have hfc := zx_RA_fc (hK.2 t _ (zx_tys_get hty)).2
    dsimp only at hfc
    rw [← hnm] at hfc
    obtain ⟨k9, h9, -⟩ := Vm.findClass_spec hfc
    have hcell : ∃ cell : Cell, H[B + k]? = some cell ∧ cell.vm.isStatics = false ∧ cell.cls = dA t := by
      have h8 := hS.1 _ _ hg
      obtain ⟨n, x⟩ := x
      rcases x with x | x | x | x | x <;> exact ⟨_, h8, rfl, rfl⟩
    obtain ⟨cell, c1, c2, c3⟩ := hcell
    refine ⟨cell, c1, c2, ⟨k9, by rw [c3]; exact h9⟩, fun comp hcomp => ?_⟩
    rw [c3]
    exact vb_asgC (hnw _ hcast) comp (dA t) hcomp hfc
  · next hq =>
    split at hk
    · next C1 o1 hxx =>
      obtain ⟨j, hj, hjx⟩ := zx_x_at hxx
      have hxe := zx_x_ok hH2.1 hxx
      obtain ⟨ci1, fs1⟩ := o1
      obtain ⟨hO, -⟩ := hxe
      obtain ⟨cell, c1, c2, c3, c4⟩ := va_O.kept hO hS.2.1.2.1
      obtain ⟨k9, h9, -⟩ := Vm.findClass_spec c3
      exact ⟨cell, c1, c2, ⟨k9, h9⟩, fun comp hcomp => vb_asgC (hnw _ (zt_xobj C1 (zt_ext_obj j C1 _ hjx))) comp cell.cls hcomp c3⟩
    · cases hk
theorem zt_ac_words : nativeFrameWords "java/lang/System" "arraycopy" 5 + 11 + 8 ≤ 150 := by decide +kernel
end ZXK2

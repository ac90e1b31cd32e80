/-! ===== one step with the heap is the kit's row ===== -/
section ZXJ
variable {p : Program} {l : Launch} {e : Env} {R : Room} {s : State} {m : MethodId} {args : Array Value} {below : List Frame} {meth : Method} {c : Code} {H : Heap} {locs : List Loc} {cells slots : Nat} {Q : State → Prop} {cc : ByteArray} {pc nL : Nat} {ls : Array Slot} {lv : List (Nat × Value)} {st : List Value} {a : Nat → Nat}
variable {D : va_G} {dA : Nat → ClassId} {B b n0 z0 oc : Nat} {own : String} {ini : Bool} {sc : (Nat × (Nat → Int32)) × Bool} {h : zx_H}
theorem zx_or_ok (ha : ∀ k, k < zx_lim → a k = B + k) {x y : Value} {u w : Option Nat} (hx : zx_or x = some u) (hy : zx_or y = some w) : zx_v a x = va_rf (u.map a) ∧ zx_v a y = va_rf (w.map a) ∧ (u.map a = w.map a ↔ u = w) := by
  unfold zx_or at hx hy
  split at hx
  · cases hx
    split at hy
    · cases hy; exact ⟨rfl, rfl, by simp⟩
    · split at hy
      · cases hy; exact ⟨rfl, rfl, by simp⟩
      · cases hy
    · cases hy
  · next k =>
    split at hx
    · next hk =>
      cases hx
      split at hy
      · cases hy; exact ⟨rfl, rfl, by simp⟩
      · next j =>
        split at hy
        · next hj =>
          cases hy
          refine ⟨rfl, rfl, ?_⟩
          simp only [Option.map_some, Option.some.injEq, ha k hk, ha j hj]
          omega
        · cases hy
      · cases hy
    · cases hx
  · cases hx
theorem zt_obj_words : Cond.instanceMethod objectInit ∈ zt_good ∧ Cond.code objectInit ⟨#[0xb1]⟩ 1 none ∈ zt_good := zt_obj
set_option maxHeartbeats 4000000 in
theorem zx_h_ok (C : zx_Cx D dA B a b sc oc own ini cc nL p s m args meth c) (hS : zx_S D dA B a n0 z0 s h H locs cells slots) {ins : Instr} {n : Nat} {f : zx_F} {h' : zx_H} (hd : decode cc pc = .ok (ins, n)) (hl : lv_has ls nL (zx_l a lv)) (h1 : zx_h oc ini sc pc lv st h ins n = some (f, h'))
    (hc1 : n0 + R.cells ≥ h'.length) (hs1 : z0 + R.slots ≥ zx_sz h') (hRf : 1 ≤ R.frames) (hRl : 20 ≤ R.locals) (hk : zx_KH D dA B n0 z0 p l e R s m args below meth c Q nL a (f, h')) : W p l e R s m args below meth c H locs cells slots Q (F0 m pc ls (zx_st a st)) := by
  have C0 := C
  obtain ⟨hx, hb, hml, hown, hon, hts, hnw, hK, hini, ha, hab, hbB, hBs, hX, hK2, hH2⟩ := C0
  have hn0 := hS.2.2.1
  have hz0 := hS.2.2.2.2.1
  unfold zx_h at h1
  split at h1
  · -- getfield
    split at h1
    · simp only [Option.map_eq_some_iff, Prod.mk.injEq] at h1
      obtain ⟨v, hv, rfl, rfl⟩ := h1
      exact zx_get_ok C hS hd hv (hk _ _ _ _ hS ls hl)
    · cases h1
  · -- putfield
    split at h1
    · simp only [Option.map_eq_some_iff, Prod.mk.injEq] at h1
      obtain ⟨v, hv, rfl, rfl⟩ := h1
      exact zx_put_ok C hS hd hv (fun H' locs' hS' => hk _ _ _ _ hS' ls hl)
    · cases h1
  · -- new
    split at h1
    · next kd ci y hh hp =>
      split at h1
      · next hcond =>
        obtain ⟨rfl, hci, hlim⟩ := hcond
        cases h1
        rw [List.length_append] at hc1
        have hz : zx_sz (h ++ [.inr (ci, zx_def ci)]) = zx_sz h + zx_sz1 (.inr (ci, zx_def ci)) := by simp [zx_sz]
        exact zx_new_ok C hS hd hp hci hlim (by simp at hc1; omega) (by omega) (fun H' hS' => hk _ _ _ _ hS' ls hl)
      · cases h1
    · cases h1
  · -- newarray
    split at h1
    · split at h1
      · next t a0 ht ha0 =>
        split at h1
        · next hcond =>
          obtain ⟨hn, hby, hlim⟩ := hcond
          cases h1
          rw [List.length_append] at hc1
          have hz1 := zx_arr_len ha0
          have hz : zx_sz (h ++ [.inl (t, a0)]) = zx_sz h + a0.1 := by simp [zx_sz, zx_sz1]
          exact zx_newa_ok C hS hd ht ha0 hn hby hlim (by simp at hc1; omega) (by omega) (fun H' hS' => hk _ _ _ _ hS' ls hl)
        · cases h1
      · cases h1
    · cases h1
  · -- anewarray
    split at h1
    · split at h1
      · next kd x t hh hp =>
        split at h1
        · next C1 ht =>
          split at h1
          · next hcond =>
            obtain ⟨rfl, hn, hby, hlim⟩ := hcond
            cases h1
            rw [List.length_append] at hc1
            have hz := fun (i : Int32) => show zx_sz (h ++ [.inl (t, i.toNatClampNeg, .inr (.inr (.inr (.inr (fun _ => none)))))]) = zx_sz h + i.toNatClampNeg by simp [zx_sz, zx_sz1]
            rw [hz] at hs1
            exact zx_newq_ok C hS hd hp ht hn hby hlim (by simp at hc1; omega) (by omega) (fun H' hS' => hk _ _ _ _ hS' ls hl)
          · cases h1
        · cases h1
      · cases h1
    · cases h1
  · -- arraylength
    split at h1
    · split at h1
      · next hq => cases h1; subst hq; exact zx_slen_ok C hS hd (hk _ _ _ _ hS ls hl)
      · split at h1
        · next hq =>
          split at h1
          · next hty =>
            cases h1
            obtain ⟨ty, hty⟩ := Option.isSome_iff_exists.mp hty
            exact zx_alen_ok C hS hd hq hty (hk _ _ _ _ hS ls hl)
          · cases h1
        · cases h1
    · cases h1
  · -- iaload
    split at h1
    · split at h1
      · next hq =>
        split at h1
        · next hin => cases h1; subst hq; exact zx_sld_ok C hS hd hin (hk _ _ _ _ hS ls hl)
        · cases h1
      · split at h1
        · next hq =>
          split at h1
          · next hc => cases h1; exact zx_iald_ok C hS hd hq hc.1 hc.2 (hk _ _ _ _ hS ls hl)
          · cases h1
        · cases h1
    · cases h1
  · -- laload
    split at h1
    · split at h1
      · next hq =>
        split at h1
        · next hc => cases h1; exact zx_lald_ok C hS hd hq hc.1 hc.2 (hk _ _ _ _ hS ls hl)
        · cases h1
      · cases h1
    · cases h1
  · -- daload
    split at h1
    · split at h1
      · next hq =>
        split at h1
        · next hc => cases h1; exact zx_dald_ok C hS hd hq hc.1 hc.2 (hk _ _ _ _ hS ls hl)
        · cases h1
      · cases h1
    · cases h1
  · -- baload
    split at h1
    · split at h1
      · next hq =>
        split at h1
        · next hc =>
          cases h1
          rcases hc.1 with h9 | h9
          · exact zx_zald_ok C hS hd hq h9 hc.2 (hk _ _ _ _ hS ls hl)
          · exact zx_bald_ok C hS hd hq h9 hc.2 (hk _ _ _ _ hS ls hl)
        · cases h1
      · cases h1
    · cases h1
  · -- aaload
    split at h1
    · split at h1
      · next hq =>
        split at h1
        · next ht =>
          split at h1
          · next hc => cases h1; exact zx_aald_ok C hS hd hq ht hc (hk _ _ _ _ hS ls hl)
          · cases h1
        · cases h1
      · cases h1
    · cases h1
  · -- iastore
    split at h1
    · split at h1
      · next hq =>
        split at h1
        · next hc => cases h1; exact zx_iast_ok C hS hd hq hc.1 hc.2 (fun H' locs' hS' => hk _ _ _ _ hS' ls hl)
        · cases h1
      · cases h1
    · cases h1
  · -- lastore
    split at h1
    · split at h1
      · next hq =>
        split at h1
        · next hc => cases h1; exact zx_last_ok C hS hd hq hc.1 hc.2 (fun H' locs' hS' => hk _ _ _ _ hS' ls hl)
        · cases h1
      · cases h1
    · cases h1
  · -- aastore
    split at h1
    · split at h1
      · next hq =>
        split at h1
        · next ht =>
          split at h1
          · next hc => cases h1; exact zx_aastN_ok C hS hd hq ht hc (fun H' locs' hS' => hk _ _ _ _ hS' ls hl)
          · cases h1
        · cases h1
      · cases h1
    · split at h1
      · next hq =>
        split at h1
        · next ht hcj hv =>
          split at h1
          · next hc =>
            obtain ⟨rfl, h9, hin⟩ := hc
            cases h1
            exact zx_aast_ok C hS hd hq ht hcj h9 hv hin (fun H' locs' hS' => hk _ _ _ _ hS' ls hl)
          · cases h1
        · cases h1
      · cases h1
    · cases h1
  · -- if_acmp
    split at h1
    · split at h1
      · next hu hw =>
        obtain ⟨e1, e2, e3⟩ := zx_or_ok ha hu hw
        simp only [zx_st, List.map_cons]
        rw [e1, e2]
        split at h1
        · simp only [Option.map_eq_some_iff, Prod.mk.injEq] at h1
          obtain ⟨f0, hf0, rfl, rfl⟩ := h1
          obtain ⟨t, ht, rfl⟩ := zx_br_get hf0
          refine lv_acmp_eq hx hb hd ht (fun hc => ?_) (fun hc => ?_)
          · have h2 := hk _ _ _ _ hS ls
            simp only [e3.mp hc, decide_true, if_true] at h2
            exact h2 hl
          · have h2 := hk _ _ _ _ hS ls
            have hne := mt e3.mpr hc
            simp only [hne, decide_false, if_false, Bool.false_eq_true] at h2
            exact h2 hl
        · simp only [Option.map_eq_some_iff, Prod.mk.injEq] at h1
          obtain ⟨f0, hf0, rfl, rfl⟩ := h1
          obtain ⟨t, ht, rfl⟩ := zx_br_get hf0
          refine lv_acmp_ne hx hb hd ht (fun hc => ?_) (fun hc => ?_)
          · have h2 := hk _ _ _ _ hS ls
            have hne := mt e3.mpr hc
            simp only [hne, not_false_eq_true, decide_true, if_true] at h2
            exact h2 hl
          · have h2 := hk _ _ _ _ hS ls
            simp only [e3.mp hc, not_true, decide_false, if_false, Bool.false_eq_true] at h2
            exact h2 hl
      · cases h1
    · cases h1
  · -- dastore
    split at h1
    · split at h1
      · next hq =>
        split at h1
        · next hc => cases h1; exact zx_dast_ok C hS hd hq hc.1 hc.2 (fun H' locs' hS' => hk _ _ _ _ hS' ls hl)
        · cases h1
      · cases h1
    · cases h1
  · -- invokespecial Object.<init>
    split at h1
    · split at h1
      · next kd x y hh hp =>
        split at h1
        · next hc =>
          obtain ⟨rfl, hsum⟩ := hc
          cases h1
          have hw := zx_pool_ok hon hp
          refine W.objInit hx hb hown (hts _ hw) (hts _ zt_obj_words.1) (hts _ zt_obj_words.2) rfl (by rw [hml]; exact hl.1) rfl hd hRf ?_ ?_
          · rw [zx_cats]
            show 2 * 0 + _ + 12 ≤ R.locals
            omega
          · exact hk _ _ _ _ hS ls hl
        · cases h1
      · cases h1
    · cases h1
  · -- ldc2_w
    simp only [Option.map_eq_some_iff, Prod.mk.injEq] at h1
    obtain ⟨q, hq, rfl, rfl⟩ := h1
    exact lv_ldc2 hx hb hown (hts _ (zx_lng_ok hon hq)) hd (hk _ _ _ _ hS ls hl)
  · cases h1
end ZXJ

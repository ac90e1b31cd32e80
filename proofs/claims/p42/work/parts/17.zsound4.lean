section ZXF
variable {p : Program} {l : Launch} {e : Env} {R : Room} {s : State} {m : MethodId} {args : Array Value} {below : List Frame} {meth : Method} {c : Code} {H : Heap} {locs : List Loc} {cells slots : Nat} {Q : State → Prop} {cc : ByteArray} {pc nL : Nat} {ls : Array Slot} {lv : List (Nat × Value)} {st : List Value} {a : Nat → Nat}
theorem zx_s1_tail (a : Nat → Nat) (i : Nat) (lv : List (Nat × Value)) : zx_l a (zx_s1 i .null lv).tail = (zx_l a lv).filter (fun q => !(q.1 == i) && !(q.1 + 1 == i && q.2.category == 2)) := by
  have h := zx_s1_map a i .null lv
  exact (List.tail_eq_of_cons_eq h).symm
/-- a handler's first row: the exception is put away, whichever it is -/
theorem zx_ca_ok (hx : p.tables.exec = Jvm.exec) (hb : c.code = cc) (hl : lv_has ls nL (zx_l a lv)) {hp : Nat} {f : zx_F} (hca : zx_ca cc nL hp lv = some f) (q : Nat)
    (k : ∀ ls', lv_has ls' nL (zx_l a f.2.1) → W p l e R s m args below meth c H locs cells slots Q (F0 m f.1 ls' (zx_st a f.2.2))) : W p l e R s m args below meth c H locs cells slots Q (F0 m hp ls [.ref q]) := by
  unfold zx_ca at hca
  split at hca
  · next kk hd =>
    split at hca
    · next hk =>
      cases hca
      refine lv_astore_n hx hb hd rfl hl hk rfl (fun ls' hl' => k ls' ⟨hl'.1, hl'.2.1, fun z hz => ?_⟩)
      rw [zx_s1_tail] at hz
      exact hl'.2.2 z (List.mem_cons_of_mem _ hz)
    · cases hca
  · next kk hd =>
    split at hca
    · next hk =>
      cases hca
      refine lv_astore hx hb hd hl hk rfl (fun ls' hl' => k ls' ⟨hl'.1, hl'.2.1, fun z hz => ?_⟩)
      rw [zx_s1_tail] at hz
      exact hl'.2.2 z (List.mem_cons_of_mem _ hz)
    · cases hca
  · cases hca
end ZXF
theorem zt_castself : ∀ (ci : Nat) (r : vw_C), zt_x0 ≤ ci → zt_cl[ci]? = some r → Cond.castable r.1 r.1 ∈ zt_nw := zt_cast
set_option maxHeartbeats 2000000 in
theorem zx_sound {D : va_G} {dA : Nat → ClassId} {B : Nat} {a : Nat → Nat} {b : Nat} {sc : (Nat × (Nat → Int32)) × Bool} {l : Launch} (hlt : l.stackTraces = false) (ha : ∀ k, k < zx_lim → a k = B + k) (hab : a zx_lim = b) (hbB : b < B) : ∀ n, zx_SND D dA B a b sc l n := by
  intro n
  induction n with
  | zero => intro d mi f h o h' y cc nL ret hh oc np hc hs hsel hi hq hrun; cases hrun
  | succ n ih =>
    intro d mi f h o h' y cc nL ret hh oc np hc hs hsel hi hq hrun p e R s m args below meth c H locs cells slots ls n0 z0 mc ms own C hret hlk htab hS hl hRf hRl hmc hms hmR hsR
    have C0 := C
    obtain ⟨hx, hb, hml, hown, hon, hts, hnw, hK, hini, -, -, -, hBs, hX, hK2, hH2⟩ := C0
    obtain ⟨hP, hV, hn0, hs0, hz0, hlm⟩ := hS
    have hS : zx_S D dA B a n0 z0 s h H locs cells slots := ⟨hP, hV, hn0, hs0, hz0, hlm⟩
    have hmono0 := zx_run_mono _ _ _ _ _ _ _ hrun
    unfold zx_run at hrun
    rw [hq] at hrun
    dsimp only at hrun
    split at hrun
    · cases hrun
    · next ins len hd =>
      split at hrun
      · next f' hp =>
        exact zx_p_ok hx hb hd hl hp (fun ls' hl' => ih d mi f' h o h' y cc nL ret hh oc np hc hs hsel hi hq hrun p e R s m args below meth c H locs cells slots ls' n0 z0 mc ms own C hret hlk htab hS hl' hRf hRl hmc hms hmR hsR)
      · split at hrun
        · next f' h2 hh2 =>
          have hm := zx_run_mono _ _ _ _ _ _ _ hrun
          exact zx_h_ok C hS hd hl hh2 (by omega) (by omega) (by omega) (by omega) (fun H' locs' cells' slots' hS' ls' hl' => ih d mi f' h2 o h' y cc nL ret hh oc np hc hs hsel hi hq hrun p e R s m args below meth c H' locs' cells' slots' ls' n0 z0 mc ms own C hret hlk htab hS' hl' hRf hRl hmc hms hmR hsR)
        · split at hrun
          · next f' h2 hh2 =>
            have hm := zx_run_mono _ _ _ _ _ _ _ hrun
            exact zx_h2_ok C hS hd hl hh2 (by have := zx_h2_mono hh2; omega) (by have := zx_h2_mono hh2; omega) (by omega) (by omega) (by omega) (by omega) (fun H' locs' cells' slots' hS' ls' hl' => ih d mi f' h2 o h' y cc nL ret hh oc np hc hs hsel hi hq hrun p e R s m args below meth c H' locs' cells' slots' ls' n0 z0 mc ms own C hret hlk htab hS' hl' hRf hRl hmc hms hmR hsR)
          split at hrun
          · next v hv =>
            cases hrun
            have e1 : mc = cells := by omega
            have e2 : ms = slots := by omega
            subst e1 e2
            exact zx_rt_ok hx hb hret hlk hd hv (fun t ht hW => ⟨⟨v, rfl, rfl⟩, by rw [ht]; exact hP, hV.F ht, hlm⟩) hV.2.2
          · split at hrun
            · next mj as rest hcall =>
              split at hrun
              · cases hrun
              · next d' =>
                split at hrun
                · cases hrun
                · next v h1 hcr =>
                  have hm1 := zx_run_mono _ _ _ _ _ _ _ hcr
                  have hm2 := zx_run_mono _ _ _ _ _ _ _ hrun
                  intro T hT X
                  have hHs := zx_S_size hS hT X
                  obtain ⟨av, hr⟩ := zx_call (l := l) ha hab hbB C hS hHs hd hcall hl ih hcr hRf hRl (mC := h1.length - h.length) (sC := zx_sz h1 - zx_sz h) (by omega) (by omega) (by constructor <;> omega)
                  refine zx_after hr hS (by omega) (by omega) (fun v' H1 locs1 ho hS1 => ?_) (fun ci r H1 locs1 q ce ho => by cases ho) T hT X
                  cases ho
                  exact ih (d' + 1) mi _ h1 o h' y cc nL ret hh oc np hc hs hsel hi hq hrun p e R s m args below meth c H1 locs1 _ _ ls n0 z0 mc ms own C hret hlk htab hS1 hl hRf hRl hmc hms hmR hsR
                · next E h1 hcr =>
                  have hm1 := zx_run_mono _ _ _ _ _ _ _ hcr
                  intro T hT X
                  have hHs := zx_S_size hS hT X
                  have hm2 : h1.length ≤ h'.length ∧ zx_sz h1 ≤ zx_sz h' := by
                    split at hrun
                    · cases hrun
                    · cases hrun; exact ⟨Nat.le_refl _, Nat.le_refl _⟩
                    · split at hrun
                      · cases hrun
                      · exact zx_run_mono _ _ _ _ _ _ _ hrun
                  obtain ⟨av, hr⟩ := zx_call (l := l) ha hab hbB C hS hHs hd hcall hl ih hcr hRf hRl (mC := h1.length - h.length) (sC := zx_sz h1 - zx_sz h) (by omega) (by omega) (by constructor <;> omega)
                  refine zx_after hr hS (by omega) (by omega) (fun v' H1 locs1 ho => by cases ho) (fun ci r H1 locs1 q ce ho hci hr9 hS1 hce hcv hcl => ?_) T hT X
                  cases ho
                  obtain ⟨hP1, hV1, hn1, hs1, hz1, hlm1⟩ := hS1
                  have hS1 : zx_S D dA B a n0 z0 s h1 H1 locs1 (cells + (h1.length - h.length)) (slots + (zx_sz h1 - zx_sz h)) := ⟨hP1, hV1, hn1, hs1, hz1, hlm1⟩
                  split at hrun
                  · cases hrun
                  · next hhd =>
                    cases hrun
                    rcases zx_hd_ok (args := args) hon hts hK2 hr9 hci hh none hhd with ⟨-, hpass⟩ | ⟨hp, pre, x, suf, h9, -⟩
                    · exact vx_outP hown hlk (by rw [htab]; exact hpass) hce hcv hcl (fun t ht hal => ⟨⟨E, r, rfl, hci, hr9, rfl⟩, by rw [ht]; exact hP1, hV1.F ht, hlm1⟩) hV1.2.2 (by omega) (by omega)
                    · cases h9
                  · next hp hhd =>
                    split at hrun
                    · cases hrun
                    · next f' hca =>
                      rcases zx_hd_ok (args := args) hon hts hK2 hr9 hci hh (some hp) hhd with ⟨h9, -⟩ | ⟨hp9, pre, x, suf, h9, hsplit, hpre, hcov, hct, hhp, hlink⟩
                      · cases h9
                      · cases h9
                        refine vx_catch hown pre x suf (by rw [htab]; exact hsplit) hpre hcov hct hlink (va_Nw.use rfl (hnw _ (zt_castself E r hci hr9))) hce hcv hcl ?_
                        rw [hhp]
                        exact zx_ca_ok hx hb hl hca q (fun ls' hl' => ih (d' + 1) mi f' h1 o h' y cc nL ret hh oc np hc hs hsel hi hq hrun p e R s m args below meth c H1 locs1 _ _ ls' n0 z0 mc ms own C hret hlk htab hS1 hl' hRf hRl hmc hms hmR hsR)
            · split at hrun
              · next ci hth =>
                split at hrun
                · next hcond =>
                  obtain ⟨rfl, hlim⟩ := hcond
                  cases hrun
                  rw [zx_sz_push] at hms
                  exact zx_th_ok hlt C hS hlk htab hl hd hth hlim (by simpa using hmc) hms hmR hsR (by omega) (by omega)
                · cases hrun
              · cases hrun

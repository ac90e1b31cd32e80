section ZXC
variable {p : Program} {l : Launch} {e : Env} {R : Room} {s : State} {m : MethodId} {args : Array Value} {below : List Frame} {meth : Method} {c : Code} {H : Heap} {locs : List Loc} {cells slots : Nat} {Q : State → Prop} {cc : ByteArray} {pc nL : Nat} {ls : Array Slot} {lv : List (Nat × Value)} {st : List Value} {a : Nat → Nat}
variable {D : va_G} {dA : Nat → ClassId} {B b n0 z0 oc : Nat} {own : String} {ini : Bool} {sc : (Nat × (Nat → Int32)) × Bool} {h : zx_H}
theorem zx_ws_ok {y : MethodName} {cy : ByteArray} {nY : Nat} {ret : Option FieldType} {hh : List (Nat × Nat × Nat × Nat)} (hts : ∀ w ∈ zt_good, w.before args s = true) (hw : (if hh = [] then Cond.code y cy nY ret else Cond.codeWith y cy nY ret hh) ∈ zt_good) : ∀ w ∈ zx_ws y cy nY ret hh, ∀ (a' : Array Value) (U : State), s.WarmedH U.vm → w.before a' U = true := by
  have key : ∀ w ∈ zt_good, ∀ (a' : Array Value) (U : State), s.WarmedH U.vm → w.before a' U = true := fun w hw9 a' U hW => word_at hW (good_of_word (List.mem_filter.mp hw9).2) (hts w hw9)
  intro w h9
  rcases List.mem_cons.mp h9 with h9 | h9
  · rw [h9]; exact key _ hw
  · exact key w h9
theorem zx_stk {a : Nat → Nat} {st : List Value} (n : Nat) : zx_st a st = ((st.take n).reverse.map (zx_v a)).reverse ++ zx_st a (st.drop n) := by
  rw [List.map_reverse, List.reverse_reverse, ← List.map_append, List.take_append_drop]
theorem zx_hlen {y : MethodName} {np : Nat} {ret : Option FieldType} (hpd : (parseMethodDescriptor y.desc).map (fun d => (d.parameters.length, d.returnType)) = some (np, ret)) : ∀ sig, parseMethodDescriptor y.desc = some sig → np = sig.parameters.length := by
  intro sig h9
  rw [h9] at hpd
  simp only [Option.map_some, Option.some.injEq, Prod.mk.injEq] at hpd
  exact hpd.1.symm
theorem zx_kl_ok (C : zx_Cx D dA B a b sc oc own ini cc nL p s m args meth c) (hS : zx_S D dA B a n0 z0 s h H locs cells slots) {q ci : Nat} (hq : zx_kl h q = some ci) : ∃ r, zt_cl[ci]? = some r ∧ ∃ cell : Cell, H[a q]? = some cell ∧ cell.vm.isStatics = false ∧ s.vm.findClass r.1 = some cell.cls := by
  obtain ⟨hx, hb, hml, hown, hon, hts, hnw, hK, hini, ha, hab, hbB, hBs, hX, hK2, hH2⟩ := C
  unfold zx_kl at hq
  split at hq
  · next ci' fs hcell =>
    cases hq
    have hl9 : ci < zt_cl.length := by
      obtain ⟨r, h9, -⟩ := hS.1 _ _ (zx_w_get (dA := dA) (B := B) (a := a) hcell)
      exact (List.getElem?_eq_some_iff.mp h9).1
    have hr := List.getElem?_eq_getElem hl9
    have hrecv := va_recv hK hS.1 hr (zx_w_get (dA := dA) (B := B) (a := a) hcell)
    rw [← zx_S_q hS ha hcell] at hrecv
    exact ⟨_, hr, hrecv⟩
  · cases hq
  · next hcell =>
    split at hq
    · next C1 cj fs hxx =>
      split at hq
      · cases hq
      · next h9 =>
        cases hq
        have hxe := zx_x_ok hH2.1 hxx
        obtain ⟨hO, hor⟩ := hxe
        rcases hor with h8 | ⟨r8, hr8, hC, -⟩
        · exact absurd h8 h9
        · obtain ⟨cell, c1, c2, c3, c4⟩ := va_O.kept hO hS.2.1.2.1
          exact ⟨r8, hr8, cell, c1, c2, by rw [hC]; exact c3⟩
    · cases hq
set_option maxHeartbeats 2000000 in
theorem zx_call (ha : ∀ k, k < zx_lim → a k = B + k) (hab : a zx_lim = b) (hbB : b < B) (C : zx_Cx D dA B a b sc oc own ini cc nL p s m args meth c) (hS : zx_S D dA B a n0 z0 s h H locs cells slots) (hsz : H.size = B + h.length) {ins : Instr} {n : Nat} (hd : decode cc pc = .ok (ins, n)) {mj : Nat} {as rest : List Value} (hc : zx_c oc st h ins n = some (mj, as, rest)) (hl : lv_has ls nL (zx_l a lv))
    {k d' : Nat} {o1 : zx_O} {h1 : zx_H} (hSND : zx_SND D dA B a b sc l k) (hrun : zx_run sc k d' mj (0, lv_args 0 as, []) h = some (o1, h1)) (hRf : 12 + (d' + 1) ≤ R.frames) (hRl : 150 + 60 * (d' + 1) ≤ R.locals) {mC sC : Nat} (hmc : h1.length = h.length + mC) (hms : zx_sz h1 = zx_sz h + sC) (hf : cells + mC ≤ R.cells ∧ slots + sC ≤ R.slots) :
    ∃ av, zx_RN n p l e R s m args below meth c H locs cells slots mC sC (F0 m pc ls (zx_st a st)) (zx_st a rest) (zx_Qc D dA B a o1 h1 av) (zx_XC D dA B a o1 h1) (fun q => B ≤ q) := by
  have C0 := C
  obtain ⟨hx, hb, hml, hown, hon, hts, hnw, hK, hini, -, -, -, hBs, hX, hK2, hH2⟩ := C0
  have hKK : zx_KK D dA s := ⟨hnw, hK, hK2⟩
  have hHH : zx_HH B a b sc s s.heap := ⟨hX, hH2⟩
  have hPc : ∀ U : State, U.heap = H → s.WarmedH U.vm → zx_Pc D dA B a b sc h as (as.map (zx_v a)).toArray U := by
    intro U hU hW
    refine ⟨rfl, by rw [hU]; exact hsz, by rw [hU]; exact hS.1, zx_KK_warm D dA hW hKK, ?_, hS.2.2.2.2.2⟩
    rw [hU]
    exact zx_HH_go B a b sc hW hbB (Nat.lt_of_lt_of_le hbB hBs) hS.2.1.2.1 hHH
  have hcats : ∀ r : List Value, zx_cs r ≤ 8 → 2 * (F0 m pc ls (zx_st a st)).monitorRoom + ((zx_st a r).map fun v => v.category).sum ≤ 8 := by
    intro r hr
    rw [zx_cats]
    show 2 * 0 + _ ≤ 8
    unfold zx_cs at hr
    omega
  unfold zx_c at hc
  split at hc
  · -- invokestatic
    split at hc
    · next kd mx y0 w0 hpool =>
      split at hc
      · next y cy nY ret hh oj np h0 hs hsel hi hq =>
        split at hc
        · next hcond =>
          obtain ⟨hpl, hkd, rfl, hmj, hnp, hcs, hfit⟩ := hcond
          cases hc
          have hM := zx_met D dA B a b sc l ha hab hbB hSND hq hmj hpl hrun hfit hmc hms
          obtain ⟨mi, rfl⟩ : ∃ mi, mj = mi + 1 := ⟨mj - 1, by omega⟩
          obtain ⟨hw, hony, hiniy, hst, hsl, hpd, hnL, hnm⟩ := zt_m_ok hq
          have hony2 := zt_on_ok _ (List.mem_of_getElem? hony)
          simp only [if_true] at hst
          refine ⟨((st.take np).reverse.map (zx_v a)).toArray, ?_⟩
          have hn : ((st.take np).reverse.map (zx_v a)).length = np := by simp; omega
          rcases hkd with rfl | ⟨rfl, rfl⟩
          · obtain ⟨q9, hq9, hlk⟩ := zx_pool_ok hon hpool
            cases Option.some.inj (hq9.symm.trans hq)
            by_cases hhe : hh = []
            · subst hhe
              exact vx_runS (Ts := zt_good) (bytes := cy) (maxL := nY) (ret := ret) ⟨hx, hb, hml, hown, hts⟩ hM ⟨⟨rfl, rfl, by show 12 + d' + 1 ≤ _; omega, by show 8 + (nY + 11) + (150 + 60 * d') ≤ _; omega, zx_ws_ok hts hw, List.mem_cons_self, hts _ hw, hts _ hiniy, hony2.1, zx_hlen hpd, hts _ hlk⟩, hts _ hst⟩ ⟨zx_Pc_blind D dA B a b sc h _, hPc⟩ rfl hn hl.1 (zx_stk np) (hcats _ hcs) hd hf
            · rw [if_neg hhe] at hw
              exact vx_runSX (Ts := zt_good) (bytes := cy) (maxL := nY) (ret := ret) (hh := hh) ⟨hx, hb, hml, hown, hts⟩ hM ⟨⟨rfl, rfl, by show 12 + d' + 1 ≤ _; omega, by show 8 + (nY + 11) + (150 + 60 * d') ≤ _; omega, zx_ws_ok hts (by rw [if_neg hhe]; exact hw), by unfold zx_ws; rw [if_neg hhe]; exact List.mem_cons_self⟩, hts _ hw, hts _ hiniy, hony2.1, zx_hlen hpd, hts _ hlk, hts _ hst⟩ ⟨zx_Pc_blind D dA B a b sc h _, hPc⟩ rfl hn hl.1 (zx_stk np) (hcats _ hcs) hd hf
          · obtain ⟨q9, host, hq9, hlk⟩ := zx_pool_ok hon hpool
            cases Option.some.inj (hq9.symm.trans hq)
            exact vx_runSN (Ts := zt_good) (bytes := cy) (maxL := nY) (ret := ret) ⟨hx, hb, hml, hown, hts⟩ hM ⟨⟨⟨rfl, rfl, by show 12 + d' + 1 ≤ _; omega, by show 8 + (nY + 11) + (150 + 60 * d') ≤ _; omega, zx_ws_ok hts hw, List.mem_cons_self⟩, hts _ hw, hts _ hiniy, hony2.1, zx_hlen hpd, va_Nw.use rfl (hnw _ hlk)⟩, hts _ hst, trivial⟩ ⟨zx_Pc_blind D dA B a b sc h _, hPc⟩ rfl hn hl.1 (zx_stk np) (hcats _ hcs) hd hf
        · cases hc
      · cases hc
    · cases hc
  · -- invokevirtual
    split at hc
    · next kd mx y0 w0 hpool =>
      split at hc
      · next y cy nY ret hh oj np h0 hs hsel hi hq =>
        split at hc
        · next q rst hdrop =>
          split at hc
          · next ci hcell =>
            split at hc
            · next hcond =>
              obtain ⟨hpl, hkd, rfl, rfl, rfl, hmj, rfl, hcs, hfit⟩ := hcond
              cases hc
              have hM := zx_met D dA B a b sc l ha hab hbB hSND hq hmj hpl hrun hfit hmc hms
              obtain ⟨mi, rfl⟩ : ∃ mi, mj = mi + 1 := ⟨mj - 1, by omega⟩
              obtain ⟨hw, hony, hiniy, hst, hsl, hpd, hnL, hnm⟩ := zt_m_ok hq
              have hony2 := zt_on_ok _ (List.mem_of_getElem? hony)
              have hst : Cond.instanceMethod y ∈ zt_good := hst
              have hsl : Cond.selects y.cls y y ∈ zt_good := by
                rcases hsl with h9 | h9
                · exact absurd h9 (by decide)
                · exact h9
              have hnp : np < st.length := by
                have h9 := congrArg List.length hdrop
                simp only [List.length_drop, List.length_cons] at h9
                omega
              have hn : ((st.take np).reverse.map (zx_v a)).length = np := by simp; omega
              have hstk : (F0 m pc ls (zx_st a st)).stack = ((st.take np).reverse.map (zx_v a)).reverse ++ .ref (a q) :: zx_st a rest := by
                show zx_st a st = _
                rw [zx_stk np, hdrop]
                rfl
              obtain ⟨r, hr, hrecv⟩ := zx_kl_ok C hS hcell
              rw [zt_on_cl hony hr] at hrecv
              refine ⟨(.ref (a q) :: (st.take np).reverse.map (zx_v a)).toArray, ?_⟩
              rcases hkd with rfl | rfl
              · obtain ⟨q9, hq9, hlk⟩ := zx_pool_ok hon hpool
                cases Option.some.inj (hq9.symm.trans hq)
                exact vx_runV (Ts := zt_good) (bytes := cy) (maxL := nY) (ret := ret) (C := y.cls) ⟨hx, hb, hml, hown, hts⟩ hM ⟨⟨rfl, rfl, by show 12 + d' + 1 ≤ _; omega, by show 8 + (nY + 11) + (150 + 60 * d') ≤ _; omega, zx_ws_ok hts hw, List.mem_cons_self, hts _ hw, hts _ hiniy, hony2.1, zx_hlen hpd, hts _ hlk⟩, hts _ hst, hts _ hsl⟩ ⟨zx_Pc_blind D dA B a b sc h _, hrecv, hPc⟩ rfl hn hl.1 hstk (hcats _ hcs) hd hf
              · obtain ⟨q9, host, hq9, hlk⟩ := zx_pool_ok hon hpool
                cases Option.some.inj (hq9.symm.trans hq)
                exact vx_runVN (Ts := zt_good) (bytes := cy) (maxL := nY) (ret := ret) (C := y.cls) ⟨hx, hb, hml, hown, hts⟩ hM ⟨⟨⟨rfl, rfl, by show 12 + d' + 1 ≤ _; omega, by show 8 + (nY + 11) + (150 + 60 * d') ≤ _; omega, zx_ws_ok hts hw, List.mem_cons_self⟩, hts _ hw, hts _ hiniy, hony2.1, zx_hlen hpd, va_Nw.use rfl (hnw _ hlk)⟩, hts _ hst, hts _ hsl⟩ ⟨zx_Pc_blind D dA B a b sc h _, hrecv, hPc⟩ rfl hn hl.1 hstk (hcats _ hcs) hd hf
            · cases hc
          · cases hc
        · cases hc
      · cases hc
    · cases hc
  · -- invokespecial
    split at hc
    · next kd mx y0 w0 hpool =>
      split at hc
      · next y cy nY ret hh oj np h0 hs hsel hi hq =>
        split at hc
        · next q rst hdrop =>
          split at hc
          · next hcond =>
            obtain ⟨hpl, hkd, rfl, rfl, rfl, hmj, hcs, hfit⟩ := hcond
            cases hc
            have hM := zx_met D dA B a b sc l ha hab hbB hSND hq hmj hpl hrun hfit hmc hms
            obtain ⟨mi, rfl⟩ : ∃ mi, mj = mi + 1 := ⟨mj - 1, by omega⟩
            obtain ⟨hw, hony, hiniy, hst, hsl, hpd, hnL, hnm⟩ := zt_m_ok hq
            have hony2 := zt_on_ok _ (List.mem_of_getElem? hony)
            have hst : Cond.instanceMethod y ∈ zt_good := hst
            have hnp : np < st.length := by
              have h9 := congrArg List.length hdrop
              simp only [List.length_drop, List.length_cons] at h9
              omega
            have hn : ((st.take np).reverse.map (zx_v a)).length = np := by simp; omega
            have hstk : (F0 m pc ls (zx_st a st)).stack = ((st.take np).reverse.map (zx_v a)).reverse ++ .ref (a q) :: zx_st a rest := by
              show zx_st a st = _
              rw [zx_stk np, hdrop]
              rfl
            refine ⟨(.ref (a q) :: (st.take np).reverse.map (zx_v a)).toArray, ?_⟩
            rcases hkd with rfl | rfl
            · obtain ⟨q9, hq9, hlk⟩ := zx_pool_ok hon hpool
              cases Option.some.inj (hq9.symm.trans hq)
              exact vx_runI (Ts := zt_good) (bytes := cy) (maxL := nY) ⟨hx, hb, hml, hown, hts⟩ hM ⟨⟨rfl, rfl, by show 12 + d' + 1 ≤ _; omega, by show 8 + (nY + 11) + (150 + 60 * d') ≤ _; omega, zx_ws_ok hts hw, List.mem_cons_self, hts _ hw, hts _ hiniy, hony2.1, zx_hlen hpd, hts _ hlk⟩, hnm rfl, hts _ hst⟩ ⟨zx_Pc_blind D dA B a b sc h _, hPc⟩ rfl hn hl.1 hstk (hcats _ hcs) hd hf
            · obtain ⟨q9, host, hq9, hlk⟩ := zx_pool_ok hon hpool
              cases Option.some.inj (hq9.symm.trans hq)
              exact vx_runIN (Ts := zt_good) (bytes := cy) (maxL := nY) ⟨hx, hb, hml, hown, hts⟩ hM ⟨⟨⟨rfl, rfl, by show 12 + d' + 1 ≤ _; omega, by show 8 + (nY + 11) + (150 + 60 * d') ≤ _; omega, zx_ws_ok hts hw, List.mem_cons_self⟩, hts _ hw, hts _ hiniy, hony2.1, zx_hlen hpd, va_Nw.use rfl (hnw _ hlk)⟩, hnm rfl, hts _ hst⟩ ⟨zx_Pc_blind D dA B a b sc h _, hPc⟩ rfl hn hl.1 hstk (hcats _ hcs) hd hf
          · cases hc
        · cases hc
      · cases hc
    · cases hc
  · -- invokeinterface
    split at hc
    · next mx y0 w0 hpool =>
      split at hc
      · next y cy nY ret hh oj np h0 hs hsel hi hq =>
        split at hc
        · next q rst hdrop =>
          split at hc
          · next ci fs hcell =>
            split at hc
            · next hcond =>
              obtain ⟨rfl, rfl, hpl, rfl, hcs, hfit, hift⟩ := hcond
              cases hc
              obtain ⟨x9, hx9, hlk⟩ := zx_pool_ok hon hpool
              have hmem : (x9, mj) ∈ zt_ift := List.mem_of_getElem? hx9
              obtain ⟨y2, cy2, nY2, ret2, oj2, np2, hsel2, hq2, hmj, hyC, hselw, hd1, hd2, hd3, hd4, hd5, hnx, hpx⟩ := zt_ift_ok _ hmem
              dsimp only at hq2 hselw hnx hpx hmj
              cases Option.some.inj (hq.symm.trans hq2)
              have hFw := hH2.1.2.2.2.2 _ hmem _ hq
              have hM := zx_met D dA B a b sc l ha hab hbB hSND hq hmj hpl hrun hfit hmc hms
              obtain ⟨mi, rfl⟩ : ∃ mi, mj = mi + 1 := ⟨mj - 1, by omega⟩
              obtain ⟨hw, hony, hiniy, hst, hsl, hpd, hnL, hnm⟩ := zt_m_ok hq
              have hst : Cond.instanceMethod y ∈ zt_good := hst
              have hnp : np < st.length := by
                have h9 := congrArg List.length hdrop
                simp only [List.length_drop, List.length_cons] at h9
                omega
              have hn : ((st.take np).reverse.map (zx_v a)).length = np := by simp; omega
              have hstk : (F0 m pc ls (zx_st a st)).stack = ((st.take np).reverse.map (zx_v a)).reverse ++ .ref (a q) :: zx_st a rest := by
                show zx_st a st = _
                rw [zx_stk np, hdrop]
                rfl
              obtain ⟨r, hr, hrC⟩ : ∃ r, zt_cl[ci]? = some r ∧ r.1 = y.cls := by
                have hl9 : ci < zt_cl.length := by
                  obtain ⟨r, h9, -⟩ := hS.1 _ _ (zx_w_get hcell)
                  exact (List.getElem?_eq_some_iff.mp h9).1
                exact ⟨_, List.getElem?_eq_getElem hl9, zt_on_cl hony (List.getElem?_eq_getElem hl9)⟩
              have hrecv := va_recv hK hS.1 hr (zx_w_get hcell)
              have hcat := (hK.1 ci r hr).2
              rw [hrC, hyC] at hcat
              rw [← zx_S_q hS ha hcell, hrC, hyC] at hrecv
              refine ⟨(.ref (a q) :: (st.take np).reverse.map (zx_v a)).toArray, ?_⟩
              exact vx_runF (Ts := zt_good) (bytes := cy) (maxL := nY) (ret := ret) (C := "java/util/ArrayList") hcat ⟨hx, hb, hml, hown, hts⟩ hM ⟨⟨rfl, rfl, by show 12 + d' + 1 ≤ _; omega, by show 8 + (nY + 11) + (150 + 60 * d') ≤ _; omega, zx_ws_ok hts hw, List.mem_cons_self⟩, hts _ hlk, va_any rfl hFw.1, va_any rfl hFw.2.1, hts _ hselw, hts _ hst, va_any rfl hFw.2.2.1, va_any rfl hFw.2.2.2.1, va_any rfl hFw.2.2.2.2, hts _ hiniy, hts _ hw, hnx, fun sig h9 => by rw [h9] at hpx; exact (Option.some.inj hpx).symm⟩ ⟨zx_Pc_blind D dA B a b sc h _, hrecv, hPc⟩ rfl hn hl.1 hstk (hcats _ hcs) hd hf
            · cases hc
          · cases hc
        · cases hc
      · cases hc
    · cases hc
  · cases hc
end ZXC

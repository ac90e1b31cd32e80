section ZXE
variable {p : Program} {l : Launch} {e : Env} {R : Room} {s : State} {m : MethodId} {args : Array Value} {below : List Frame} {meth : Method} {c : Code} {H : Heap} {locs : List Loc} {cells slots : Nat} {Q : State → Prop} {cc : ByteArray} {pc nL : Nat} {ls : Array Slot} {lv : List (Nat × Value)} {st : List Value} {a : Nat → Nat}
variable {D : va_G} {dA : Nat → ClassId} {B b n0 z0 oc : Nat} {own : String} {ini : Bool} {sc : (Nat × (Nat → Int32)) × Bool} {h : zx_H} {free : Addr → Prop}
theorem zx_rt_ok {Qc : Array Value → State → Outcome → State → Prop} {XC : String → State → State → Prop} (hx : p.tables.exec = Jvm.exec) (hb : c.code = cc) {ret : Option FieldType} (hr : meth.sig.returnType = ret) (hlocks : meth.locks = false) {ins : Instr} {n : Nat} (hd : decode cc pc = .ok (ins, n)) {v : Option Value} (hrt : zx_rt ret st ins n = some v)
    (hq : ∀ t : State, t.heap = H → s.WarmedH t.vm → Qc args s (.returned (v.map (zx_v a))) t) (hf : ∀ q ∈ locs, free q.base) : W p l e R s m args below meth c H locs cells slots (vx_MQ below Qc XC args s cells slots free) (F0 m pc ls (zx_st a st)) := by
  unfold zx_rt at hrt
  split at hrt
  · split at hrt
    · split at hrt
      · next hn => cases hrt; exact vx_ret (W.zret hx hb hr hn hq hf hd hlocks)
      · cases hrt
    · cases hrt
  · split at hrt
    · cases hrt; exact vx_ret (W.lret hx hb hr hq hf hd hlocks)
    · cases hrt
  · split at hrt
    · cases hrt; exact vx_ret (W.fret hx hb hr hq hf hd hlocks)
    · cases hrt
  · split at hrt
    · cases hrt; exact vx_ret (W.dret hx hb hr hq hf hd hlocks)
    · cases hrt
  · split at hrt
    · cases hrt; exact vx_ret (W.aret hx hb hr (Or.inl ⟨_, rfl⟩) (Or.inr ⟨_, rfl⟩) hq hf hd hlocks)
    · cases hrt; exact vx_ret (W.aret hx hb hr (Or.inr ⟨_, rfl⟩) (Or.inr ⟨_, rfl⟩) hq hf hd hlocks)
    · cases hrt; exact vx_ret (W.aret hx hb hr (Or.inl ⟨_, rfl⟩) (Or.inl rfl) hq hf hd hlocks)
    · cases hrt; exact vx_ret (W.aret hx hb hr (Or.inr ⟨_, rfl⟩) (Or.inl rfl) hq hf hd hlocks)
    · cases hrt
  · split at hrt
    · cases hrt; exact vx_ret (W.vret hx hb hr hq hf hd hlocks)
    · cases hrt
  · cases hrt
theorem zx_th_ok (hlt : l.stackTraces = false) (C : zx_Cx D dA B a b sc oc own ini cc nL p s m args meth c) (hS : zx_S D dA B a n0 z0 s h H locs cells slots) (hlocks : meth.locks = false) (htab : c.exceptionTable.toList = []) (hl : lv_has ls nL (zx_l a lv)) {ins : Instr} {n : Nat} (hd : decode cc pc = .ok (ins, n)) {ci : Nat} (hth : zx_th oc cc pc st ins n = some ci) (hlim : h.length < zx_lim)
    {mc ms : Nat} (hmc : h.length + 1 = n0 + mc) (hms : zx_sz h + zx_sz1 (.inr (ci, [])) = z0 + ms) (hmR : mc ≤ R.cells) (hsR : ms ≤ R.slots) (hRf : 12 ≤ R.frames) (hRl : 150 ≤ R.locals) :
    W p l e R s m args below meth c H locs cells slots (vx_MQ below (zx_Qc D dA B a (.inr ci) (h ++ [.inr (ci, [])])) (zx_XC D dA B a (.inr ci) (h ++ [.inr (ci, [])])) args s mc ms (fun q => B ≤ q)) (F0 m pc ls (zx_st a st)) := by
  have C0 := C
  obtain ⟨hx, hb, hml, hown, hon, hts, hnw, hK, hini, ha, hab, hbB, hBs, hX, hK2, hH2⟩ := C0
  have hS0 := hS
  obtain ⟨hP, hV, hn0, hs0, hz0, hlm⟩ := hS0
  have key : ∀ {ik i ic y w0 : Nat} {AT : String → Nat → String → List String → List Cond}, zx_pool oc ik = some (2, ci, y, w0) → zt_x0 ≤ ci → zx_cs st ≤ 8 → ci ≠ 999 → (∀ r, zt_cl[ci]? = some r → (∀ w ∈ AT own ic r.1 ["java/lang/RuntimeException", "java/lang/Exception"], (w ∈ lw_tbl ∧ (goodWord w = true ∨ zx_nwk w = true)) ∧ vx_ot w = true) ∧ Bundle.fit r.1 = true ∧ vx_ot (.initialized r.1) = true ∧ (∀ ik, vx_ot (.classLink own ik r.1) = true)) → (zx_pool oc i).map (·.1) = some 13 →
      ∃ (r : vw_C) (tx : String) (sa : Nat), zt_cl[ci]? = some r ∧ Bundle.fit r.1 = true ∧ (Cond.classLink own ik r.1).before args s = true ∧ (Cond.initialized r.1).before args s = true ∧ vk_R own i tx sa s ∧ (∀ w ∈ AT own ic r.1 ["java/lang/RuntimeException", "java/lang/Exception"], w.before args s = true) ∧
        (∀ w ∈ Cond.classLink own ik r.1 :: Cond.initialized r.1 :: AT own ic r.1 ["java/lang/RuntimeException", "java/lang/Exception"], vx_ot w = true) ∧ zx_sz1 (.inr (ci, [])) = 6 ∧
        (∀ (t : State) (ce : Cell), s.vm.Alike t.vm → H.size ≤ t.heap.size → (∀ q : Nat, q < H.size → t.heap[q]? = H[q]?) → t.heap[H.size]? = some ce → ce.vm = .none → s.vm.findClass r.1 = some ce.cls → H.size = B + h.length → zx_XC D dA B a (.inr ci) (h ++ [.inr (ci, [])]) r.1 s t) := by
    intro ik i ic y w0 AT hpool hci hcs h999 hex hstr
    obtain ⟨C0, hw, hC, -⟩ := zx_pool_ok hon hpool
    have hC2 : (zt_cl[ci]?).map (·.1) = some C0 := by
      rcases hC with h9 | h9
      · exact absurd h9 h999
      · exact h9
    simp only [Option.map_eq_some_iff] at hC2
    obtain ⟨r, hr, rfl⟩ := hC2
    obtain ⟨hwords, hfit, hot1, hot2⟩ := hex r hr
    have hok := zt_cl_ok hr
    simp only [Option.map_eq_some_iff] at hstr
    obtain ⟨⟨k1, x1, y1, z1⟩, hp1, hk1⟩ := hstr
    dsimp only at hk1
    subst hk1
    obtain ⟨tx, htx, -⟩ := zx_pool_ok hon hp1
    obtain ⟨sa, hsa⟩ := hK2.2.1 own i tx htx
    have hsz := zt_xsz hr hci
    refine ⟨r, tx, sa, hr, hfit, hts _ hw, hts _ hok.2.2.2.2.1, hsa, fun w hw9 => ?_, fun w hw9 => ?_, hsz.2, fun t ce hal hz hq hce hcv hcl hHs => ⟨⟨ci, r, rfl, hci, hr, rfl⟩, ?_, ?_, ?_⟩⟩
    · obtain ⟨⟨h1, h2⟩, -⟩ := hwords w hw9
      rcases h2 with h2 | h2
      · exact hts _ (List.mem_filter.mpr ⟨h1, h2⟩)
      · have h3 := hnw _ (List.mem_filter.mpr ⟨h1, h2⟩)
        cases w with
        | fieldLinkNest _ _ _ _ _ _ => exact va_Nw.use rfl h3
        | methodLinkNest _ _ _ _ => exact va_Nw.use rfl h3
        | declares _ => exact va_Nw.use rfl h3
        | castable _ _ => exact va_Nw.use rfl h3
        | privateMethod _ => exact va_Nw.use rfl h3
        | _ => cases h2
    · rcases List.mem_cons.mp hw9 with h9 | h9
      · rw [h9]; exact hot2 ik
      · rcases List.mem_cons.mp h9 with h9 | h9
        · rw [h9]; exact hot1
        · exact (hwords w h9).2
    · rw [zx_w_push]
      refine va_P.app (va_P.kept hP (fun k q hk => hq _ (hP k q hk).lt)) ?_
      intro k q hk
      match k, hk with
      | 0, hk =>
        cases hk
        refine ⟨r, hr, ce, ?_, ?_, hcv, fun k9 hk9 => ?_⟩
        · show t.heap[B + h.length]? = some ce
          rw [← hHs]; exact hce
        · have h8 := (hK.1 ci r hr).2.1
          rw [hcl] at h8
          exact (Option.some.inj h8)
        · rw [hsz.1] at hk9
          exact absurd hk9 (Nat.not_lt_zero _)
      | k + 1, hk => exact nomatch hk
    · exact ⟨Nat.le_trans hV.1 hz, fun q h1 h2 => by rw [hq q (Nat.lt_of_lt_of_le h1 hV.1)]; exact hV.2.1 q h1 h2⟩
    · simp; omega
  have hnames : ∀ n ∈ ["java/lang/RuntimeException", "java/lang/Exception"], Bundle.fit n = true := by decide +kernel
  intro T hT X
  have hHs := zx_S_size hS hT X
  unfold zx_th at hth
  split at hth
  · split at hth
    · next ci9 y9 w9 hpool =>
      split at hth
      · next hcond =>
        obtain ⟨hci, hcs⟩ := hcond
        have hcats : ((zx_st a st).map fun v => v.category).sum ≤ 8 := by rw [zx_cats]; exact hcs
        split at hth
        · next d3 d4 =>
          split at hth
          · next d6 d9 =>
            split at hth
            · next hex =>
              cases hth
              rcases hex.1 with hexw | hexw
              · obtain ⟨r, tx, sa, hr, hfit, hk, hini9, hstr, hat, hgood, hsz6, hXC⟩ := key (AT := vx_atS) hpool hci hcs (fun h9 => by subst h9; exact absurd hexw (by simp [zt_exw])) (fun r hr => zt_exw_ok hon hr hexw) hex.2
                exact zx_throwS hx hb hlt hown hfit hnames hk hini9 hstr hat hgood hH2.2.1 hH2.2.2 hV (by rw [hml]; exact hl.1) hd d3 d4 d6 d9 (by rw [htab]; exact fun x hx9 => nomatch hx9) (by show 2 + 3 < _; omega) (by show _ + (13 * 3 + 43) ≤ _; omega) (by omega) (by omega) hlocks (fun t ce h1 h2 h3 h4 h5 h6 => hXC t ce h1 h2 h3 h4 h5 h6 hHs) hV.2.2 (by omega) (by omega) T hT X
              · obtain ⟨r, tx, sa, hr, hfit, hk, hini9, hstr, hat, hgood, hsz6, hXC⟩ := key (AT := zn_at) hpool hci hcs (fun h9 => by subst h9; exact absurd hexw (by simp [zt_exn])) (fun r hr => zt_exn_ok hon hr hexw) hex.2
                exact zx_throwN hx hb hlt hown hfit hnames hk hini9 hstr hat hgood hH2.2.1 hH2.2.2 hV (by rw [hml]; exact hl.1) hd d3 d4 d6 d9 (by rw [htab]; exact fun x hx9 => nomatch hx9) (by show 2 + 3 < _; omega) (by show _ + (13 * 3 + 43) ≤ _; omega) (by omega) (by omega) hlocks (fun t ce h1 h2 h3 h4 h5 h6 => hXC t ce h1 h2 h3 h4 h5 h6 hHs) hV.2.2 (by omega) (by omega) T hT X
            · cases hth
          · cases hth
        · next d3 d4 =>
          split at hth
          · next d6 d9 =>
            split at hth
            · next hex =>
              cases hth
              rcases hex.1 with hexw | hexw
              · obtain ⟨r, tx, sa, hr, hfit, hk, hini9, hstr, hat, hgood, hsz6, hXC⟩ := key (AT := vx_atS) hpool hci hcs (fun h9 => by subst h9; exact absurd hexw (by simp [zt_exw])) (fun r hr => zt_exw_ok hon hr hexw) hex.2
                exact zx_throwSW hx hb hlt hown hfit hnames hk hini9 hstr hat hgood hH2.2.1 hH2.2.2 hV (by rw [hml]; exact hl.1) hd d3 d4 d6 d9 (by rw [htab]; exact fun x hx9 => nomatch hx9) (by show 2 + 3 < _; omega) (by show _ + (13 * 3 + 43) ≤ _; omega) (by omega) (by omega) hlocks (fun t ce h1 h2 h3 h4 h5 h6 => hXC t ce h1 h2 h3 h4 h5 h6 hHs) hV.2.2 (by omega) (by omega) T hT X
              · obtain ⟨r, tx, sa, hr, hfit, hk, hini9, hstr, hat, hgood, hsz6, hXC⟩ := key (AT := zn_at) hpool hci hcs (fun h9 => by subst h9; exact absurd hexw (by simp [zt_exn])) (fun r hr => zt_exn_ok hon hr hexw) hex.2
                exact zx_throwNW hx hb hlt hown hfit hnames hk hini9 hstr hat hgood hH2.2.1 hH2.2.2 hV (by rw [hml]; exact hl.1) hd d3 d4 d6 d9 (by rw [htab]; exact fun x hx9 => nomatch hx9) (by show 2 + 3 < _; omega) (by show _ + (13 * 3 + 43) ≤ _; omega) (by omega) (by omega) hlocks (fun t ce h1 h2 h3 h4 h5 h6 => hXC t ce h1 h2 h3 h4 h5 h6 hHs) hV.2.2 (by omega) (by omega) T hT X
            · cases hth
          · cases hth
        · cases hth
      · cases hth
    · cases hth
  · cases hth
end ZXE

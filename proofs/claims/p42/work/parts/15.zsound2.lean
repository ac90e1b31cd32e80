/-! ===== a private method, called on an object of a class below ===== -/
section ZXVP
variable {p : Program} {l : Launch} {e : Env} {R : Room} {s : State} {m : MethodId} {args : Array Value} {below : List Frame} {meth : Method} {c : Code} {H : Heap} {locs : List Loc} {cells slots : Nat}
theorem zx_callVP {T : State} {locs : List Loc} {cells slots : Nat} (X : Stand p l e R s m args below meth c T locs cells slots) (hexec : p.tables.exec = Jvm.exec) {own C : String} {index : Nat} {y : MethodName} {bytes : ByteArray} {maxL : Nat} {ret : Option FieldType}
    (hown : s.vm.findClass own = some m.cls) (hlink : (Cond.methodLink own index y).before args s = true) (hsame : (Cond.sameMethod y.cls y.cls y.name y.desc).before args s = true) (hy : y.cls ≠ "java/lang/invoke/MethodHandle" ∧ y.cls ≠ "java/lang/invoke/VarHandle")
    (hpriv : (Cond.privateMethod y).before args s = true) (hinst : (Cond.instanceMethod y).before args s = true) (hcode : (Cond.code y bytes maxL ret).before args s = true)
    {W : Nat} {Pre : Pt → Array Value → Prop} {Post : Pt → Array Value → Option Value → Pt → Prop} {PostX : Pt → Array Value → Addr → Pt → Prop} (hK : vx_Back l R p e below s args y 3 W Pre Post PostX)
    {b : Addr} {cellB : Cell} (hcell : T.heap[b]? = some cellB) (hobj : cellB.vm.isStatics = false)
    {g : JFrame} (hg : g.method = m) (hsize : g.locals.size = c.maxLocals) {argsL rest : List Value} (hlen : ∀ sig, parseMethodDescriptor y.desc = some sig → argsL.length = sig.parameters.length)
    (hstack : g.stack = argsL.reverse ++ .ref b :: rest) (hW : 2 * g.monitorRoom + (rest.map fun v => v.category).sum ≤ W) (hdg : decode c.code g.pc = .ok (.invokevirtual index, 3))
    (hpre : ∀ vm₁, s.WarmedH vm₁ → Pre ⟨T.setVm vm₁, locs, cells, slots⟩ (Value.ref b :: argsL).toArray) :
    (∃ (v : Option Value) (vm₁ : Vm) (B : Pt), s.WarmedH vm₁ ∧ Stand p l e R s m args below meth c B.U B.locs B.cells B.slots ∧ Post ⟨T.setVm vm₁, locs, cells, slots⟩ (Value.ref b :: argsL).toArray v B ∧
      ∀ target, Steps p.tables e below (B.U.setTop { g with pc := g.pc + 3, stack := v.toList ++ rest }) target → Steps p.tables e below (T.setTop g) target) ∨
    (∃ (q : Addr) (vm₁ : Vm) (B : Pt), s.WarmedH vm₁ ∧ Stand p l e R s m args below meth c B.U B.locs B.cells B.slots ∧ PostX ⟨T.setVm vm₁, locs, cells, slots⟩ (Value.ref b :: argsL).toArray q B ∧
      Steps p.tables e below (T.setTop g) ((B.U.setTop { g with stack := rest }).pushFrame (.throwing q))) := by
  obtain ⟨cn, ck, r1, hcn, hck, hni, hf, hn1⟩ := Cond.sameMethod_found hsame
  obtain ⟨mk, methM, hnamed, hmethM, hstM, habM⟩ := Cond.instanceMethod_spec hinst
  obtain ⟨methM', cM, hmethM', -, -, -, -, -, -, hsigM⟩ := Cond.code_spec hnamed hcode
  cases hmethM.symm.trans hmethM'
  have hcls : mk.cls = cn := Option.some.inj ((findClass_of_methodNamed hnamed).symm.trans hcn)
  have hselP : selectMethod e.platform s.vm cellB.cls mk = .method mk := selectMethod_private hmethM (Cond.privateMethod_at hpriv mk methM hnamed hmethM)
  have hn : s.methodNamed? ⟨y.cls, y.name, y.desc⟩ = some mk := hnamed
  obtain ⟨vm₁, X₁, hstep₁⟩ := X.invokevirtualUp hexec hown hlink hsame hy hn hmethM hstM (a := b) (cell := cellB) hcell
    (fun z h => by rw [h] at hobj; cases hobj) hselP hmethM habM (by rw [hcls]; exact hck) hni (g := g) hg (argsL := argsL) (rest := rest) (hlen _ hsigM) hstack hdg
  rcases hK m meth c ⟨T.setVm vm₁, locs, cells, slots⟩ { g with stack := rest } (.invokevirtual index) mk (Value.ref b :: argsL).toArray X₁ hg hsize hdg hW (X₁.named hnamed) (hpre vm₁ X₁.warmed) with ⟨v, B, X', hpost, hsteps⟩ | ⟨q, B, X', hpost, hsteps⟩
  · exact Or.inl ⟨v, vm₁, B, X₁.warmed, X', hpost, fun target h => hstep₁ _ fun acts => by rw [doInvoke_state]; exact hsteps.trans h⟩
  · exact Or.inr ⟨q, vm₁, B, X₁.warmed, X', hpost, hstep₁ _ fun acts => by rw [doInvoke_state]; exact hsteps⟩
theorem zx_runVP {y : MethodName} {bytes cc : ByteArray} {maxL nL mc ms n index : Nat} {ret : Option FieldType} {ws : List Cond} {rm : Room} {Pc : Array Value → State → Prop} {Qc : Array Value → State → Outcome → State → Prop} {XC : String → State → State → Prop} {free : Addr → Prop} {Ts : List Cond} {own C : String} {b : Addr} {As rest : List Value} {g : JFrame}
    (S : CallFix p m c cc nL s args Ts own) (hM : vx_Met l y ws rm Pc Qc XC mc ms free) (hrc : rm.cells = mc) (hrs : rm.slots = ms) (hfr : rm.frames + 1 ≤ R.frames) (hlo : 8 + (maxL + 11) + rm.locals ≤ R.locals) (hws : ∀ w ∈ ws, ∀ (a' : Array Value) (U : State), s.WarmedH U.vm → w.before a' U = true) (hcw : Cond.code y bytes maxL ret ∈ ws)
    (hlink : (Cond.methodLink own index y).before args s = true) (hsame : (Cond.sameMethod y.cls y.cls y.name y.desc).before args s = true) (hy : y.cls ≠ "java/lang/invoke/MethodHandle" ∧ y.cls ≠ "java/lang/invoke/VarHandle") (hpriv : (Cond.privateMethod y).before args s = true) (hinst : (Cond.instanceMethod y).before args s = true) (hcode : (Cond.code y bytes maxL ret).before args s = true) (hini : (Cond.initialized y.cls).before args s = true) (hlen : ∀ sig, parseMethodDescriptor y.desc = some sig → n = sig.parameters.length)
    (hp : PreV s H C b Pc As) (hg : g.method = m) (hn : As.length = n) (hsize : g.locals.size = nL) (hstack : g.stack = As.reverse ++ .ref b :: rest) (hW : 2 * g.monitorRoom + (rest.map fun v => v.category).sum ≤ 8) (hdg : decode cc g.pc = .ok (.invokevirtual index, 3)) (hf : cells + mc ≤ R.cells ∧ slots + ms ≤ R.slots) :
    vx_Run p l e R s m args below meth c H locs cells slots mc ms g rest (Qc (Value.ref b :: As).toArray) XC free := by
  have hK : vx_Back l R p e below s args y 3 8 (PreOf R mc ms Pc) (PostOf Qc mc ms free) (vx_Post XC mc ms free) := vx_back (bytes := bytes) (maxL := maxL) (ret := ret) hM hp.1 hrc hrs hfr hlo hws hcw (fun a' U hW => word_at hW (Or.inl (by first | rfl | simp [Cond.onTables, Cond.keeps, Cond.steady])) hini)
  obtain ⟨hx, hb, hml, ho, -⟩ := S
  obtain ⟨-, ⟨cellB, hcB, hoB, hclB⟩, hPc⟩ := hp
  intro T hT X
  rcases zx_callVP (C := C) X hx (bytes := bytes) (maxL := maxL) (ret := ret) ho hlink hsame hy hpriv hinst hcode hK (by rw [hT]; exact hcB) hoB hg (hsize.trans hml.symm) (argsL := As) (rest := rest) (fun sig h => hn.trans (hlen sig h)) hstack hW (by rw [hb]; exact hdg)
    (fun vm₁ hW₁ => ⟨hf.1, hf.2, hPc (T.setVm vm₁) hT hW₁⟩) with ⟨v, vm₁, ⟨U', l2, c2, s2⟩, hW₁, X', ⟨g', mk, t, L, e1, e2, hq, h1, hL, h2, h3⟩, st⟩ | ⟨q, vm₁, ⟨U', l2, c2, s2⟩, hW₁, X', ⟨g', mk, t, L, E, ce, e1, e2, hq, hce, hcv, hcl, h1, hL, h2, h3⟩, st⟩
  · dsimp only [Pt.U, Pt.locs, Pt.cells, Pt.slots] at X' e1 e2 h1 h2 h3 st
    subst h1; subst h2; subst h3
    exact Or.inl ⟨v, (T.setVm vm₁).calling g' mk (Value.ref b :: As).toArray, t, U', L, hT, X', hL, e1, e2, hq, st⟩
  · dsimp only [Pt.U, Pt.locs, Pt.cells, Pt.slots] at X' e1 e2 h1 h2 h3 st hcl
    subst h1; subst h2; subst h3
    exact Or.inr ⟨q, (T.setVm vm₁).calling g' mk (Value.ref b :: As).toArray, t, U', L, E, ce, hT, X', hL, e1, e2, hq, hce, hcv, vx_cls hW₁ hcl, st⟩
end ZXVP
section ZXC
variable {p : Program} {l : Launch} {e : Env} {R : Room} {s : State} {m : MethodId} {args : Array Value} {below : List Frame} {meth : Method} {c : Code} {H : Heap} {locs : List Loc} {cells slots : Nat} {Q : State → Prop} {cc : ByteArray} {pc nL : Nat} {ls : Array Slot} {lv : List (Nat × Value)} {st : List Value} {a : Nat → Nat}
variable {D : va_G} {dA : Nat → ClassId} {B b n0 z0 oc : Nat} {own : String} {ini : Bool} {sc : (Nat × (Nat → Int32)) × Bool} {h : zx_H}
theorem zx_ws_ok {y : MethodName} {cy : ByteArray} {nY : Nat} {ret : Option FieldType} {hh : List (Nat × Nat × Nat × Nat)} (hts : ∀ w ∈ zt_good, w.before args s = true) (hw : (if hh = [] then Cond.code y cy nY ret else Cond.codeWith y cy nY ret hh) ∈ zt_good) : ∀ w ∈ zx_ws y cy nY ret hh, ∀ (a' : Array Value) (U : State), s.WarmedH U.vm → w.before a' U = true := by
  have key : ∀ w ∈ zt_good, ∀ (a' : Array Value) (U : State), s.WarmedH U.vm → w.before a' U = true := fun w hw9 a' U hW => word_at hW (good_of_word (List.mem_filter.mp hw9).2) (hts w hw9)
  intro w h9
  rcases List.mem_cons.mp h9 with h9 | h9
  · rw [h9]; exact key _ hw
  · exact key w h9
theorem zx_stk {a : Nat → Nat} {st : List Value} (n : Nat) : zx_st a st = ((st.take n).reverse.map (zx_v a)).reverse ++ zx_st a (st.drop n) := by
  rw [List.map_reverse, List.reverse_reverse, ← List.map_append, List.take_append_drop]
theorem zx_hlen {y : MethodName} {np : Nat} {ret : Option FieldType} (hpd : (parseMethodDescriptor y.desc).map (fun d => (d.parameters.length, d.returnType)) = some (np, ret)) : ∀ sig, parseMethodDescriptor y.desc = some sig → np = sig.parameters.length := by
  intro sig h9
  rw [h9] at hpd
  simp only [Option.map_some, Option.some.injEq, Prod.mk.injEq] at hpd
  exact hpd.1.symm
theorem zx_kl_ok (C : zx_Cx D dA B a b sc oc own ini cc nL p s m args meth c) (hS : zx_S D dA B a n0 z0 s h H locs cells slots) {q ci : Nat} (hq : zx_kl h q = some ci) : ∃ r, zt_cl[ci]? = some r ∧ ∃ cell : Cell, H[a q]? = some cell ∧ cell.vm.isStatics = false ∧ s.vm.findClass r.1 = some cell.cls := by
  obtain ⟨hx, hb, hml, hown, hon, hts, hnw, hK, hini, ha, hab, hbB, hBs, hX, hK2, hH2⟩ := C
  unfold zx_kl at hq
  split at hq
  · next ci' fs hcell =>
    cases hq
    have hl9 : ci < zt_cl.length := by
      obtain ⟨r, h9, -⟩ := hS.1 _ _ (zx_w_get (dA := dA) (B := B) (a := a) hcell)
      exact (List.getElem?_eq_some_iff.mp h9).1
    have hr := List.getElem?_eq_getElem hl9
    have hrecv := va_recv hK hS.1 hr (zx_w_get (dA := dA) (B := B) (a := a) hcell)
    rw [← zx_S_q hS ha hcell] at hrecv
    exact ⟨_, hr, hrecv⟩
  · cases hq
  · next hcell =>
    split at hq
    · next C1 cj fs hxx =>
      split at hq
      · cases hq
      · next h9 =>
        cases hq
        have hxe := zx_x_ok hH2.1 hxx
        obtain ⟨hO, hor⟩ := hxe
        rcases hor with h8 | ⟨r8, hr8, hC, -⟩
        · exact absurd h8 h9
        · obtain ⟨cell, c1, c2, c3, c4⟩ := va_O.kept hO hS.2.1.2.1
          exact ⟨r8, hr8, cell, c1, c2, by rw [hC]; exact c3⟩
    · cases hq
set_option maxHeartbeats 2000000 in
theorem zx_call (ha : ∀ k, k < zx_lim → a k = B + k) (hab : a zx_lim = b) (hbB : b < B) (C : zx_Cx D dA B a b sc oc own ini cc nL p s m args meth c) (hS : zx_S D dA B a n0 z0 s h H locs cells slots) (hsz : H.size = B + h.length) {ins : Instr} {n : Nat} (hd : decode cc pc = .ok (ins, n)) {mj : Nat} {as rest : List Value} (hc : zx_c oc st h ins n = some (mj, as, rest)) (hl : lv_has ls nL (zx_l a lv))
    {k d' : Nat} {o1 : zx_O} {h1 : zx_H} (hSND : zx_SND D dA B a b sc l k) (hrun : zx_run sc k d' mj (0, lv_args 0 as, []) h = some (o1, h1)) (hRf : 12 + (d' + 1) ≤ R.frames) (hRl : 150 + 60 * (d' + 1) ≤ R.locals) {mC sC : Nat} (hmc : h1.length = h.length + mC) (hms : zx_sz h1 = zx_sz h + sC) (hf : cells + mC ≤ R.cells ∧ slots + sC ≤ R.slots) :
    ∃ av, zx_RN n p l e R s m args below meth c H locs cells slots mC sC (F0 m pc ls (zx_st a st)) (zx_st a rest) (zx_Qc D dA B a o1 h1 av) (zx_XC D dA B a o1 h1) (fun q => B ≤ q) := by
  have C0 := C
  obtain ⟨hx, hb, hml, hown, hon, hts, hnw, hK, hini, -, -, -, hBs, hX, hK2, hH2⟩ := C0
  have hKK : zx_KK D dA s := ⟨hnw, hK, hK2⟩
  have hHH : zx_HH B a b sc s s.heap := ⟨hX, hH2⟩
  have hPc : ∀ U : State, U.heap = H → s.WarmedH U.vm → zx_Pc D dA B a b sc h as (as.map (zx_v a)).toArray U := by
    intro U hU hW
    refine ⟨rfl, by rw [hU]; exact hsz, by rw [hU]; exact hS.1, zx_KK_warm D dA hW hKK, ?_, hS.2.2.2.2.2⟩
    rw [hU]
    exact zx_HH_go B a b sc hW hbB (Nat.lt_of_lt_of_le hbB hBs) hS.2.1.2.1 hHH
  have hcats : ∀ r : List Value, zx_cs r ≤ 8 → 2 * (F0 m pc ls (zx_st a st)).monitorRoom + ((zx_st a r).map fun v => v.category).sum ≤ 8 := by
    intro r hr
    rw [zx_cats]
    show 2 * 0 + _ ≤ 8
    unfold zx_cs at hr
    omega
  unfold zx_c at hc
  split at hc
  · -- invokestatic
    split at hc
    · next kd mx y0 w0 hpool =>
      split at hc
      · next y cy nY ret hh oj np h0 hs hsel hi hq =>
        split at hc
        · next hcond =>
          obtain ⟨hpl, hkd, rfl, hmj, hnp, hcs, hfit⟩ := hcond
          cases hc
          have hM := zx_met D dA B a b sc l ha hab hbB hSND hq hmj hpl hrun hfit hmc hms
          obtain ⟨mi, rfl⟩ : ∃ mi, mj = mi + 1 := ⟨mj - 1, by omega⟩
          obtain ⟨hw, hony, hiniy, hst, hsl, hpd, hnL, hnm⟩ := zt_m_ok hq
          have hony2 := zt_on_ok _ (List.mem_of_getElem? hony)
          simp only [if_true] at hst
          refine ⟨((st.take np).reverse.map (zx_v a)).toArray, ?_⟩
          have hn : ((st.take np).reverse.map (zx_v a)).length = np := by simp; omega
          rcases hkd with rfl | ⟨rfl, rfl⟩
          · obtain ⟨q9, hq9, hlk⟩ := zx_pool_ok hon hpool
            cases Option.some.inj (hq9.symm.trans hq)
            by_cases hhe : hh = []
            · subst hhe
              exact vx_runS (Ts := zt_good) (bytes := cy) (maxL := nY) (ret := ret) ⟨hx, hb, hml, hown, hts⟩ hM ⟨⟨rfl, rfl, by show 12 + d' + 1 ≤ _; omega, by show 8 + (nY + 11) + (150 + 60 * d') ≤ _; omega, zx_ws_ok hts hw, List.mem_cons_self, hts _ hw, hts _ hiniy, hony2.1, zx_hlen hpd, hts _ hlk⟩, hts _ hst⟩ ⟨zx_Pc_blind D dA B a b sc h _, hPc⟩ rfl hn hl.1 (zx_stk np) (hcats _ hcs) hd hf
            · rw [if_neg hhe] at hw
              exact vx_runSX (Ts := zt_good) (bytes := cy) (maxL := nY) (ret := ret) (hh := hh) ⟨hx, hb, hml, hown, hts⟩ hM ⟨⟨rfl, rfl, by show 12 + d' + 1 ≤ _; omega, by show 8 + (nY + 11) + (150 + 60 * d') ≤ _; omega, zx_ws_ok hts (by rw [if_neg hhe]; exact hw), by unfold zx_ws; rw [if_neg hhe]; exact List.mem_cons_self⟩, hts _ hw, hts _ hiniy, hony2.1, zx_hlen hpd, hts _ hlk, hts _ hst⟩ ⟨zx_Pc_blind D dA B a b sc h _, hPc⟩ rfl hn hl.1 (zx_stk np) (hcats _ hcs) hd hf
          · obtain ⟨q9, host, hq9, hlk⟩ := zx_pool_ok hon hpool
            cases Option.some.inj (hq9.symm.trans hq)
            exact vx_runSN (Ts := zt_good) (bytes := cy) (maxL := nY) (ret := ret) ⟨hx, hb, hml, hown, hts⟩ hM ⟨⟨⟨rfl, rfl, by show 12 + d' + 1 ≤ _; omega, by show 8 + (nY + 11) + (150 + 60 * d') ≤ _; omega, zx_ws_ok hts hw, List.mem_cons_self⟩, hts _ hw, hts _ hiniy, hony2.1, zx_hlen hpd, va_Nw.use rfl (hnw _ hlk)⟩, hts _ hst, trivial⟩ ⟨zx_Pc_blind D dA B a b sc h _, hPc⟩ rfl hn hl.1 (zx_stk np) (hcats _ hcs) hd hf
        · cases hc
      · cases hc
    · cases hc
  · -- invokevirtual
    split at hc
    · next vid y9 w9 hpool =>
      split at hc
      · next np hvp =>
        split at hc
        · next q rst hdrop =>
          split at hc
          · next ci hcell =>
            split at hc
            · next mj9 hvf =>
              split at hc
              · next y cy nY ret hh oj np' h0 hs hsel hi hq =>
                split at hc
                · next hcond =>
                  obtain ⟨rfl, rfl, rfl, hpl, hcs, hfit⟩ := hcond
                  cases hc
                  have hmem := zx_vf_mem hvf
                  obtain ⟨x9, y2, cy2, nY2, ret2, oj2, np2, hsel2, r9, hvn, hq2, hmj, hr9, hselw, hnx, hpx, hrest⟩ := zt_vt_ok _ hmem
                  dsimp only at hvn hq2 hmj hr9 hrest
                  cases Option.some.inj (hq.symm.trans hq2)
                  obtain ⟨x8, hx8, hlk⟩ := zx_pool_ok hon hpool
                  cases Option.some.inj (hvn.symm.trans hx8)
                  have hM := zx_met D dA B a b sc l ha hab hbB hSND hq hmj hpl hrun hfit hmc hms
                  obtain ⟨mi, rfl⟩ : ∃ mi, mj = mi + 1 := ⟨mj - 1, by omega⟩
                  obtain ⟨hw, hony, hiniy, hst, hsl, hpd, hnL, hnm⟩ := zt_m_ok hq
                  have hst : Cond.instanceMethod y ∈ zt_good := hst
                  have hnp : np' < st.length := by
                    have h9 := congrArg List.length hdrop
                    simp only [List.length_drop, List.length_cons] at h9
                    omega
                  have hn : ((st.take np').reverse.map (zx_v a)).length = np' := by simp; omega
                  have hstk : (F0 m pc ls (zx_st a st)).stack = ((st.take np').reverse.map (zx_v a)).reverse ++ .ref (a q) :: zx_st a rest := by
                    show zx_st a st = _
                    rw [zx_stk np', hdrop]
                    rfl
                  obtain ⟨r, hr, hrecv⟩ := zx_kl_ok C hS hcell
                  obtain rfl := Option.some.inj (hr9.symm.trans hr)
                  have hlen9 : ∀ sig, parseMethodDescriptor x9.desc = some sig → np' = sig.parameters.length := fun sig h9 => by rw [h9] at hpx; exact (Option.some.inj hpx).symm
                  refine ⟨(.ref (a q) :: (st.take np').reverse.map (zx_v a)).toArray, ?_⟩
                  have hdecl : va_Decl s ⟨x9.cls, x9.name, x9.desc⟩ := by
                    rcases hrest.2 with h9 | ⟨h9, b9, m9, r8, h8⟩
                    · exact va_Decl.abs (hnw _ h9)
                    · exact va_Decl.of (hts _ h9) (hts _ h8)
                  exact vx_runU (Ts := zt_good) (bytes := cy) (maxL := nY) (ret := ret) (C := r9.1) (owner := x9.cls) ⟨hx, hb, hml, hown, hts⟩ hM ⟨⟨rfl, rfl, by show 12 + d' + 1 ≤ _; omega, by show 8 + (nY + 11) + (150 + 60 * d') ≤ _; omega, zx_ws_ok hts hw, List.mem_cons_self⟩, hts _ hw, hts _ hiniy, hnx, hlen9, hts _ hlk, hts _ hrest.1, hdecl, hts _ hselw, hts _ hst⟩ ⟨zx_Pc_blind D dA B a b sc h _, hrecv, hPc⟩ rfl hn hl.1 hstk (hcats _ hcs) hd hf
                · cases hc
              · cases hc
            · cases hc
          · cases hc
        · cases hc
      · cases hc
    · next mj9 y9 w9 hpool =>
      split at hc
      · next y cy nY ret hh oj np h0 hs hsel hi hq =>
        split at hc
        · next q rst hdrop =>
          split at hc
          · next ci hcell =>
            split at hc
            · next hcond =>
                obtain ⟨rfl, rfl, hmj, hpl, hcs, hfit⟩ := hcond
                cases hc
                obtain ⟨q9, hq9, hlk, hsm, hpr⟩ := zx_pool_ok hon hpool
                cases Option.some.inj (hq9.symm.trans hq)
                have hM := zx_met D dA B a b sc l ha hab hbB hSND hq hmj hpl hrun hfit hmc hms
                obtain ⟨mi, rfl⟩ : ∃ mi, mj = mi + 1 := ⟨mj - 1, by omega⟩
                obtain ⟨hw, hony, hiniy, hst, hsl, hpd, hnL, hnm⟩ := zt_m_ok hq
                have hony2 := zt_on_ok _ (List.mem_of_getElem? hony)
                have hst : Cond.instanceMethod y ∈ zt_good := hst
                have hnp : np < st.length := by
                  have h9 := congrArg List.length hdrop
                  simp only [List.length_drop, List.length_cons] at h9
                  omega
                have hn : ((st.take np).reverse.map (zx_v a)).length = np := by simp; omega
                have hstk : (F0 m pc ls (zx_st a st)).stack = ((st.take np).reverse.map (zx_v a)).reverse ++ .ref (a q) :: zx_st a rest := by
                  show zx_st a st = _
                  rw [zx_stk np, hdrop]
                  rfl
                obtain ⟨r, hr, hrecv⟩ := zx_kl_ok C hS hcell
                refine ⟨(.ref (a q) :: (st.take np).reverse.map (zx_v a)).toArray, ?_⟩
                exact zx_runVP (Ts := zt_good) (bytes := cy) (maxL := nY) (ret := ret) (C := r.1) ⟨hx, hb, hml, hown, hts⟩ hM rfl rfl (by show 12 + d' + 1 ≤ _; omega) (by show 8 + (nY + 11) + (150 + 60 * d') ≤ _; omega) (zx_ws_ok hts hw) List.mem_cons_self (hts _ hlk) (hts _ hsm) hony2.1 (va_Nw.use rfl (hnw _ hpr)) (hts _ hst) (hts _ hw) (hts _ hiniy) (zx_hlen hpd) ⟨zx_Pc_blind D dA B a b sc h _, hrecv, hPc⟩ rfl hn hl.1 hstk (hcats _ hcs) hd hf
            · cases hc
          · cases hc
        · cases hc
      · cases hc
    · next kd mx y0 w0 _ _ hpool =>
      split at hc
      · next y cy nY ret hh oj np h0 hs hsel hi hq =>
        split at hc
        · next q rst hdrop =>
          split at hc
          · next ci hcell =>
            split at hc
            · next hcond =>
              obtain ⟨hpl, hkd, rfl, rfl, rfl, hmj, rfl, hcs, hfit⟩ := hcond
              cases hc
              have hM := zx_met D dA B a b sc l ha hab hbB hSND hq hmj hpl hrun hfit hmc hms
              obtain ⟨mi, rfl⟩ : ∃ mi, mj = mi + 1 := ⟨mj - 1, by omega⟩
              obtain ⟨hw, hony, hiniy, hst, hsl, hpd, hnL, hnm⟩ := zt_m_ok hq
              have hony2 := zt_on_ok _ (List.mem_of_getElem? hony)
              have hst : Cond.instanceMethod y ∈ zt_good := hst
              have hsl : Cond.selects y.cls y y ∈ zt_good := by
                rcases hsl with h9 | h9
                · exact absurd h9 (by decide)
                · exact h9
              have hnp : np < st.length := by
                have h9 := congrArg List.length hdrop
                simp only [List.length_drop, List.length_cons] at h9
                omega
              have hn : ((st.take np).reverse.map (zx_v a)).length = np := by simp; omega
              have hstk : (F0 m pc ls (zx_st a st)).stack = ((st.take np).reverse.map (zx_v a)).reverse ++ .ref (a q) :: zx_st a rest := by
                show zx_st a st = _
                rw [zx_stk np, hdrop]
                rfl
              obtain ⟨r, hr, hrecv⟩ := zx_kl_ok C hS hcell
              rw [zt_on_cl hony hr] at hrecv
              refine ⟨(.ref (a q) :: (st.take np).reverse.map (zx_v a)).toArray, ?_⟩
              rcases hkd with rfl | rfl
              · obtain ⟨q9, hq9, hlk⟩ := zx_pool_ok hon hpool
                cases Option.some.inj (hq9.symm.trans hq)
                exact vx_runV (Ts := zt_good) (bytes := cy) (maxL := nY) (ret := ret) (C := y.cls) ⟨hx, hb, hml, hown, hts⟩ hM ⟨⟨rfl, rfl, by show 12 + d' + 1 ≤ _; omega, by show 8 + (nY + 11) + (150 + 60 * d') ≤ _; omega, zx_ws_ok hts hw, List.mem_cons_self, hts _ hw, hts _ hiniy, hony2.1, zx_hlen hpd, hts _ hlk⟩, hts _ hst, hts _ hsl⟩ ⟨zx_Pc_blind D dA B a b sc h _, hrecv, hPc⟩ rfl hn hl.1 hstk (hcats _ hcs) hd hf
              · obtain ⟨q9, host, hq9, hlk⟩ := zx_pool_ok hon hpool
                cases Option.some.inj (hq9.symm.trans hq)
                exact vx_runVN (Ts := zt_good) (bytes := cy) (maxL := nY) (ret := ret) (C := y.cls) ⟨hx, hb, hml, hown, hts⟩ hM ⟨⟨⟨rfl, rfl, by show 12 + d' + 1 ≤ _; omega, by show 8 + (nY + 11) + (150 + 60 * d') ≤ _; omega, zx_ws_ok hts hw, List.mem_cons_self⟩, hts _ hw, hts _ hiniy, hony2.1, zx_hlen hpd, va_Nw.use rfl (hnw _ hlk)⟩, hts _ hst, hts _ hsl⟩ ⟨zx_Pc_blind D dA B a b sc h _, hrecv, hPc⟩ rfl hn hl.1 hstk (hcats _ hcs) hd hf
            · cases hc
          · cases hc
        · cases hc
      · cases hc
    · cases hc
  · -- invokespecial
    split at hc
    · next mj9 y9 w9 hpool =>
      split at hc
      · next y cy nY ret hh oj np h0 hs hsel hi hq =>
        split at hc
        · next q rst hdrop =>
          split at hc
          · next ci hcell =>
            split at hc
            · next hcond =>
                obtain ⟨rfl, rfl, hmj, hpl, hcs, hfit⟩ := hcond
                cases hc
                obtain ⟨q9, hq9, hlk, hsm, hsup, hno⟩ := zx_pool_ok hon hpool
                cases Option.some.inj (hq9.symm.trans hq)
                have hM := zx_met D dA B a b sc l ha hab hbB hSND hq hmj hpl hrun hfit hmc hms
                obtain ⟨mi, rfl⟩ : ∃ mi, mj = mi + 1 := ⟨mj - 1, by omega⟩
                obtain ⟨hw, hony, hiniy, hst, hsl, hpd, hnL, hnm⟩ := zt_m_ok hq
                have hony2 := zt_on_ok _ (List.mem_of_getElem? hony)
                have hst : Cond.instanceMethod y ∈ zt_good := hst
                have hnp : np < st.length := by
                  have h9 := congrArg List.length hdrop
                  simp only [List.length_drop, List.length_cons] at h9
                  omega
                have hn : ((st.take np).reverse.map (zx_v a)).length = np := by simp; omega
                have hstk : (F0 m pc ls (zx_st a st)).stack = ((st.take np).reverse.map (zx_v a)).reverse ++ .ref (a q) :: zx_st a rest := by
                  show zx_st a st = _
                  rw [zx_stk np, hdrop]
                  rfl
                obtain ⟨r, hr, hrecv⟩ := zx_kl_ok C hS hcell
                refine ⟨(.ref (a q) :: (st.take np).reverse.map (zx_v a)).toArray, ?_⟩
                have hcat := (hK.1 ci r hr).2
                exact vx_runSU (Ts := zt_good) (bytes := cy) (maxL := nY) (ret := ret) (C := r.1) hcat ⟨hx, hb, hml, hown, hts⟩ hM ⟨⟨rfl, rfl, by show 12 + d' + 1 ≤ _; omega, by show 8 + (nY + 11) + (150 + 60 * d') ≤ _; omega, zx_ws_ok hts hw, List.mem_cons_self⟩, hts _ hlk, hts _ hsm, hts _ hsup, hts _ hst, hts _ hiniy, hts _ hw, hno, zx_hlen hpd⟩ ⟨zx_Pc_blind D dA B a b sc h _, hrecv, hPc⟩ rfl hn hl.1 hstk (hcats _ hcs) hd hf
            · cases hc
          · cases hc
        · cases hc
      · cases hc
    · next kd mx y0 w0 _ hpool =>
      split at hc
      · next y cy nY ret hh oj np h0 hs hsel hi hq =>
        split at hc
        · next q rst hdrop =>
          split at hc
          · next hcond =>
            obtain ⟨hpl, hkd, rfl, rfl, rfl, hmj, hcs, hfit⟩ := hcond
            cases hc
            have hM := zx_met D dA B a b sc l ha hab hbB hSND hq hmj hpl hrun hfit hmc hms
            obtain ⟨mi, rfl⟩ : ∃ mi, mj = mi + 1 := ⟨mj - 1, by omega⟩
            obtain ⟨hw, hony, hiniy, hst, hsl, hpd, hnL, hnm⟩ := zt_m_ok hq
            have hony2 := zt_on_ok _ (List.mem_of_getElem? hony)
            have hst : Cond.instanceMethod y ∈ zt_good := hst
            have hnp : np < st.length := by
              have h9 := congrArg List.length hdrop
              simp only [List.length_drop, List.length_cons] at h9
              omega
            have hn : ((st.take np).reverse.map (zx_v a)).length = np := by simp; omega
            have hstk : (F0 m pc ls (zx_st a st)).stack = ((st.take np).reverse.map (zx_v a)).reverse ++ .ref (a q) :: zx_st a rest := by
              show zx_st a st = _
              rw [zx_stk np, hdrop]
              rfl
            refine ⟨(.ref (a q) :: (st.take np).reverse.map (zx_v a)).toArray, ?_⟩
            rcases hkd with rfl | rfl
            · obtain ⟨q9, hq9, hlk⟩ := zx_pool_ok hon hpool
              cases Option.some.inj (hq9.symm.trans hq)
              exact vx_runI (Ts := zt_good) (bytes := cy) (maxL := nY) ⟨hx, hb, hml, hown, hts⟩ hM ⟨⟨rfl, rfl, by show 12 + d' + 1 ≤ _; omega, by show 8 + (nY + 11) + (150 + 60 * d') ≤ _; omega, zx_ws_ok hts hw, List.mem_cons_self, hts _ hw, hts _ hiniy, hony2.1, zx_hlen hpd, hts _ hlk⟩, hnm rfl, hts _ hst⟩ ⟨zx_Pc_blind D dA B a b sc h _, hPc⟩ rfl hn hl.1 hstk (hcats _ hcs) hd hf
            · obtain ⟨q9, host, hq9, hlk⟩ := zx_pool_ok hon hpool
              cases Option.some.inj (hq9.symm.trans hq)
              exact vx_runIN (Ts := zt_good) (bytes := cy) (maxL := nY) ⟨hx, hb, hml, hown, hts⟩ hM ⟨⟨⟨rfl, rfl, by show 12 + d' + 1 ≤ _; omega, by show 8 + (nY + 11) + (150 + 60 * d') ≤ _; omega, zx_ws_ok hts hw, List.mem_cons_self⟩, hts _ hw, hts _ hiniy, hony2.1, zx_hlen hpd, va_Nw.use rfl (hnw _ hlk)⟩, hnm rfl, hts _ hst⟩ ⟨zx_Pc_blind D dA B a b sc h _, hPc⟩ rfl hn hl.1 hstk (hcats _ hcs) hd hf
          · cases hc
        · cases hc
      · cases hc
    · cases hc
  · -- invokeinterface
    split at hc
    · next vid y9 w9 hpool =>
      split at hc
      · next np hvp =>
        split at hc
        · next q rst hdrop =>
          split at hc
          · next ci hcell =>
            split at hc
            · next mj9 hvf =>
              split at hc
              · next y cy nY ret hh oj np' h0 hs hsel hi hq =>
                split at hc
                · next hcond =>
                  obtain ⟨rfl, rfl, rfl, hpl, hcs, hfit⟩ := hcond
                  cases hc
                  have hmem := zx_vf_mem hvf
                  obtain ⟨x9, y2, cy2, nY2, ret2, oj2, np2, hsel2, r9, hvn, hq2, hmj, hr9, hselw, hnx, hpx, hrest⟩ := zt_vt_ok _ hmem
                  dsimp only at hvn hq2 hmj hr9 hrest
                  cases Option.some.inj (hq.symm.trans hq2)
                  obtain ⟨x8, hx8, hlk⟩ := zx_pool_ok hon hpool
                  cases Option.some.inj (hvn.symm.trans hx8)
                  have hM := zx_met D dA B a b sc l ha hab hbB hSND hq hmj hpl hrun hfit hmc hms
                  obtain ⟨mi, rfl⟩ : ∃ mi, mj = mi + 1 := ⟨mj - 1, by omega⟩
                  obtain ⟨hw, hony, hiniy, hst, hsl, hpd, hnL, hnm⟩ := zt_m_ok hq
                  have hst : Cond.instanceMethod y ∈ zt_good := hst
                  have hnp : np' < st.length := by
                    have h9 := congrArg List.length hdrop
                    simp only [List.length_drop, List.length_cons] at h9
                    omega
                  have hn : ((st.take np').reverse.map (zx_v a)).length = np' := by simp; omega
                  have hstk : (F0 m pc ls (zx_st a st)).stack = ((st.take np').reverse.map (zx_v a)).reverse ++ .ref (a q) :: zx_st a rest := by
                    show zx_st a st = _
                    rw [zx_stk np', hdrop]
                    rfl
                  obtain ⟨r, hr, hrecv⟩ := zx_kl_ok C hS hcell
                  obtain rfl := Option.some.inj (hr9.symm.trans hr)
                  have hlen9 : ∀ sig, parseMethodDescriptor x9.desc = some sig → np' = sig.parameters.length := fun sig h9 => by rw [h9] at hpx; exact (Option.some.inj hpx).symm
                  refine ⟨(.ref (a q) :: (st.take np').reverse.map (zx_v a)).toArray, ?_⟩
                  have hFw := hH2.1.2.2.2.2 _ hmem rfl _ _ _ hvn hq hr
                  have hcat := (hK.1 ci r9 hr).2
                  exact vx_runF (Ts := zt_good) (bytes := cy) (maxL := nY) (ret := ret) (C := r9.1) hcat ⟨hx, hb, hml, hown, hts⟩ hM ⟨⟨rfl, rfl, by show 12 + d' + 1 ≤ _; omega, by show 8 + (nY + 11) + (150 + 60 * d') ≤ _; omega, zx_ws_ok hts hw, List.mem_cons_self⟩, hts _ hlk, va_any rfl hFw.1, va_any rfl hFw.2.1, hts _ hselw, hts _ hst, va_any rfl hFw.2.2.1, va_any rfl hFw.2.2.2.1, va_any rfl hFw.2.2.2.2, hts _ hiniy, hts _ hw, hnx, hlen9⟩ ⟨zx_Pc_blind D dA B a b sc h _, hrecv, hPc⟩ rfl hn hl.1 hstk (hcats _ hcs) hd hf
                · cases hc
              · cases hc
            · cases hc
          · cases hc
        · cases hc
      · cases hc
    · cases hc
  · cases hc
end ZXC

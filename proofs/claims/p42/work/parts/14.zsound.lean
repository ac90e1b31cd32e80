/-! ===== a run of the evaluator is a walk of the machine ===== -/
theorem zx_args_map (a : Nat → Nat) : ∀ (as : List Value) (i : Nat), lv_args i (as.map (zx_v a)) = zx_l a (lv_args i as)
  | [], i => rfl
  | v :: as, i => by
    simp only [List.map_cons, lv_args, zx_cat, zx_args_map a as]
theorem zx_lg_map (a : Nat → Nat) (as : List Value) : (lg_sl (as.map (zx_v a))).length = (lg_sl as).length := by
  induction as with
  | nil => rfl
  | cons v as ih =>
    simp only [lg_sl, List.map_cons, List.flatMap_cons, List.length_append, zx_cat] at ih ⊢
    rw [ih]
    split <;> rfl
def zx_ws (y : MethodName) (cc : ByteArray) (nL : Nat) (ret : Option FieldType) (hh : List (Nat × Nat × Nat × Nat)) : List Cond := (if hh = [] then Cond.code y cc nL ret else Cond.codeWith y cc nL ret hh) :: zt_good
def zx_rm (d mc ms : Nat) : Room := { frames := 12 + d, cells := mc, slots := ms, locals := 150 + 60 * d }
/-- a call of k bytes, seen from its caller: it comes back with a value, or throws -/
def zx_RN (k : Nat) (p : Program) (l : Launch) (e : Env) (R : Room) (s : State) (m : MethodId) (args : Array Value) (below : List Frame) (meth : Method) (c : Code) (H : Heap) (locs : List Loc) (cells slots mc ms : Nat) (g : JFrame) (rest : List Value) (Qa : State → Outcome → State → Prop) (XC : String → State → State → Prop) (free : Addr → Prop) : Prop :=
  ∀ T : State, T.heap = H → Stand p l e R s m args below meth c T locs cells slots →
    (∃ (v : Option Value) (st₀ t T' : State) (L : List Loc), st₀.heap = H ∧ Stand p l e R s m args below meth c T' (locs ++ L) (cells + mc) (slots + ms) ∧ (∀ q ∈ L, free q.base) ∧ T'.heap = t.heap ∧ T'.vm = t.vm ∧ Qa st₀ (.returned v) t ∧
      Goes p e below T g T' { g with pc := g.pc + k, stack := v.toList ++ rest }) ∨
    (∃ (q : Addr) (st₀ t T' : State) (L : List Loc) (E : String) (ce : Cell), st₀.heap = H ∧ Stand p l e R s m args below meth c T' (locs ++ L) (cells + mc) (slots + ms) ∧ (∀ z ∈ L, free z.base) ∧ T'.heap = t.heap ∧ T'.vm = t.vm ∧ XC E st₀ t ∧ t.heap[q]? = some ce ∧ ce.vm = .none ∧ s.vm.findClass E = some ce.cls ∧
      Steps p.tables e below (T.setTop g) ((T'.setTop { g with stack := rest }).pushFrame (.throwing q)))
section ZXSND
variable {p : Program} {l : Launch} {e : Env} {R : Room} {s : State} {m : MethodId} {args : Array Value} {below : List Frame} {meth : Method} {c : Code} {H : Heap} {locs : List Loc} {cells slots : Nat} {Q : State → Prop} {cc : ByteArray} {pc nL : Nat} {ls : Array Slot} {a : Nat → Nat}
variable {D : va_G} {dA : Nat → ClassId} {B b n0 z0 oc : Nat} {own : String} {ini : Bool} {sc : (Nat × (Nat → Int32)) × Bool} {h h1 : zx_H}
theorem zx_after {kl : Nat} {o1 : zx_O} {mC sC : Nat} {st rest : List Value} {av : Array Value} (hr : zx_RN kl p l e R s m args below meth c H locs cells slots mC sC (F0 m pc ls (zx_st a st)) (zx_st a rest) (zx_Qc D dA B a o1 h1 av) (zx_XC D dA B a o1 h1) (fun q => B ≤ q)) (hS : zx_S D dA B a n0 z0 s h H locs cells slots) (hmc : h1.length = h.length + mC) (hms : zx_sz h1 = zx_sz h + sC)
    (kk : ∀ v H1 locs1, o1 = .inl v → zx_S D dA B a n0 z0 s h1 H1 locs1 (cells + mC) (slots + sC) → W p l e R s m args below meth c H1 locs1 (cells + mC) (slots + sC) Q (F0 m (pc + kl) ls (zx_st a (v.toList ++ rest))))
    (kx : ∀ (ci : Nat) (r : vw_C) H1 locs1 q ce, o1 = .inr ci → zt_x0 ≤ ci → zt_cl[ci]? = some r → zx_S D dA B a n0 z0 s h1 H1 locs1 (cells + mC) (slots + sC) → H1[q]? = some ce → ce.vm = .none → s.vm.findClass r.1 = some ce.cls → vx_W p l e R s m args below meth c H1 locs1 (cells + mC) (slots + sC) Q (F0 m pc ls (zx_st a rest)) q) :
    W p l e R s m args below meth c H locs cells slots Q (F0 m pc ls (zx_st a st)) := by
  intro T hT X
  obtain ⟨-, hV, hn, hs, hz, -⟩ := hS
  rcases hr T hT X with ⟨v, st₀, t, T', L, h0, X', hL, e1, e2, ⟨⟨v', ho, hv⟩, hP, hF, hlm⟩, hst⟩ | ⟨q, st₀, t, T', L, E, ce, h0, X', hL, e1, e2, ⟨⟨ci, r, ho, hci, hr9, rfl⟩, hP, hF, hlm⟩, hce, hcv, hcl, hst⟩
  · obtain ⟨k1, k2, k3⟩ := vx_keep h0 e1 hV (fun _ _ z => z) (fun _ z => z) hL hF
    have hv' : v = v'.map (zx_v a) := by cases hv; rfl
    subst hv'
    have hS1 : zx_S D dA B a n0 z0 s h1 T'.heap (locs ++ L) (cells + mC) (slots + sC) := ⟨by rw [e1]; exact hP, k3, by omega, hs, by omega, hlm⟩
    have hst' : zx_st a (v'.toList ++ rest) = (v'.map (zx_v a)).toList ++ zx_st a rest := by cases v' <;> simp [zx_st]
    have k9 := kk v' T'.heap (locs ++ L) ho hS1
    rw [hst'] at k9
    obtain ⟨t2, a1, b1⟩ := k9 T' rfl X'
    exact ⟨t2, hst t2 a1, b1⟩
  · obtain ⟨k1, k2, k3⟩ := vx_keep h0 e1 hV (fun _ _ z => z) (fun _ z => z) hL hF
    have hS1 : zx_S D dA B a n0 z0 s h1 T'.heap (locs ++ L) (cells + mC) (slots + sC) := ⟨by rw [e1]; exact hP, k3, by omega, hs, by omega, hlm⟩
    obtain ⟨t2, a1, b1⟩ := kx ci r T'.heap (locs ++ L) q ce ho hci hr9 hS1 (by rw [e1]; exact hce) hcv hcl T' rfl X'
    exact ⟨t2, hst.trans a1, b1⟩
end ZXSND
section ZXSND2
variable (D : va_G) (dA : Nat → ClassId) (B : Nat) (a : Nat → Nat) (b : Nat) (sc : (Nat × (Nat → Int32)) × Bool) (l : Launch)
def zx_SND (n : Nat) : Prop := ∀ (d mi : Nat) (f : zx_F) (h : zx_H) (o : zx_O) (h' : zx_H) (y : MethodName) (cc : ByteArray) (nL : Nat) (ret : Option FieldType) (hh : List (Nat × Nat × Nat × Nat)) (oc np hc hs hsel hi : Nat),
  zt_m[mi]? = some (y, cc, nL, ret, hh, oc, np, hc, hs, hsel, hi) → zx_run sc n d mi f h = some (o, h') →
  ∀ (p : Program) (e : Env) (R : Room) (s : State) (m : MethodId) (args : Array Value) (below : List Frame) (meth : Method) (c : Code) (H : Heap) (locs : List Loc) (cells slots : Nat) (ls : Array Slot) (n0 z0 mc ms : Nat) (own : String),
   zx_Cx D dA B a b sc oc own (hs == 2) cc nL p s m args meth c → meth.sig.returnType = ret → meth.locks = false → c.exceptionTable.toList = tableOf hh →
   zx_S D dA B a n0 z0 s h H locs cells slots → lv_has ls nL (zx_l a f.2.1) → 12 + d ≤ R.frames → 150 + 60 * d ≤ R.locals →
   h'.length = n0 + mc → zx_sz h' = z0 + ms → mc ≤ R.cells → ms ≤ R.slots →
   W p l e R s m args below meth c H locs cells slots (vx_MQ below (zx_Qc D dA B a o h') (zx_XC D dA B a o h') args s mc ms (fun q => B ≤ q)) (F0 m f.1 ls (zx_st a f.2.2))
set_option maxHeartbeats 1000000 in
theorem zx_met (ha : ∀ k, k < zx_lim → a k = B + k) (hab : a zx_lim = b) (hbB : b < B) {n : Nat} (hS : zx_SND D dA B a b sc l n) {d mj : Nat} {as : List Value} {h : zx_H} {o : zx_O} {h' : zx_H} {y : MethodName} {cc : ByteArray} {nL : Nat} {ret : Option FieldType} {hh : List (Nat × Nat × Nat × Nat)} {oc np hc hs hsel hi mc ms : Nat}
    (hq : zt_m[mj]? = some (y, cc, nL, ret, hh, oc, np, hc, hs, hsel, hi)) (hmj : 0 < mj) (hpl : zt_pln[oc]? = some true) (hrun : zx_run sc n d mj (0, lv_args 0 as, []) h = some (o, h')) (hfit : (lg_sl as).length ≤ nL) (hmc : h'.length = h.length + mc) (hms : zx_sz h' = zx_sz h + ms) :
    vx_Met l y (zx_ws y cc nL ret hh) (zx_rm d mc ms) (zx_Pc D dA B a b sc h as) (zx_Qc D dA B a o h') (zx_XC D dA B a o h') mc ms (fun q => B ≤ q) := by
  obtain ⟨mi, rfl⟩ : ∃ mi, mj = mi + 1 := ⟨mj - 1, by omega⟩
  obtain ⟨hw, hon, hini, hst, hsl, hpd, hnL, hnm⟩ := zt_m_ok hq
  have body : ∀ p e s m args below meth c s₁, BodyLoose p l y (headSpec (zx_ws y cc nL ret hh) (zx_rm d mc ms)) cc nL ret e s m args below meth c s₁ → c.maxLocals = nL → c.exceptionTable.toList = tableOf hh → zx_Pc D dA B a b sc h as args s →
      W p l e (headSpec (zx_ws y cc nL ret hh) (zx_rm d mc ms)).room s m args below meth c s.heap [] 0 0 (vx_MQ below (zx_Qc D dA B a o h') (zx_XC D dA B a o h') args s mc ms (fun q => B ≤ q)) (entryFrame m args nL) := by
    intro p e s m args below meth c s₁ Bd hml ht hv
    obtain ⟨rfl, hsz, hP, hKK, hHH, hlim⟩ := hv
    have hts0 := atoms_spec (ws := zx_ws y cc nL ret hh) Bd.pre
    have hts : ∀ w ∈ zt_good, w.before (as.map (zx_v a)).toArray s = true := fun w hw9 => hts0 w (List.mem_cons_of_mem _ hw9)
    have hown : s.vm.findClass y.cls = some m.cls := findClass_of_methodNamed Bd.named
    have hl := lv_entry (as.map (zx_v a)) (n := nL) (by rw [zx_lg_map]; exact hfit)
    rw [lg_entry_eq]
    rw [zx_args_map] at hl
    refine hS d (mi + 1) (0, lv_args 0 as, []) h o h' y cc nL ret hh oc np hc hs hsel hi hq hrun p e _ s m _ below meth c s.heap [] 0 0 _ h.length (zx_sz h) mc ms y.cls
      ⟨Bd.exec, Bd.bytes, hml, hown, hon, hts, hKK.1, hKK.2.1, fun h9 => ?_, ha, hab, hbB, by omega, hHH.1, hKK.2.2, hHH.2⟩ Bd.returns Bd.notSynchronized ht ⟨hP, va_S.rf, rfl, hsz, rfl, hlim⟩ hl (Nat.le_refl _) (Nat.le_refl _) hmc hms (Nat.le_refl _) (Nat.le_refl _)
    have h10 : hs = 2 := by simpa using h9
    exact (name_of_methodNamed Bd.named Bd.method).1.trans (hnm h10)
  have hpn := zt_pln_ok hon hpl
  by_cases hhe : hh = []
  · subst hhe
    refine vx_ofW (cc := cc) (maxL := nL) (ret := ret) hpn (by simp only [zx_ws, if_true]; rfl) ?_
    intro p e s m args below meth c s₁ Bd hml ht hv
    exact body p e s m args below meth c s₁ Bd hml (List.eq_nil_iff_forall_not_mem.mpr ht) hv
  · refine vx_ofWH (cc := cc) (maxL := nL) (ret := ret) (hh := hh) hpn (by simp only [zx_ws, if_neg hhe]; rfl) ?_
    intro p e s m args below meth c s₁ Bd hml hv
    refine body p e s m args below meth c s₁ Bd hml ?_ hv
    have h9 := atoms_spec (ws := zx_ws y cc nL ret hh) Bd.pre (Cond.codeWith y cc nL ret hh) (by simp [zx_ws, hhe])
    exact vx_table (x := y) Bd h9
end ZXSND2

/-! ===== further rows: an array of arrays, bytes that are copied, int constants ===== -/
/-- the outer array when its first i places are filled, the inner ones lie behind it -/
def zm_o (cA : ClassId) (N h0 i : Nat) : Cell := arrV cA N (fun j => if j < i then .ref (h0 + 1 + j) else .null)
def zm_f (T : State) (cA comp : ClassId) (N M : Nat) (dv : Value) : Nat → State
  | 0 => T.pushCell (zm_o cA N T.heap.size 0)
  | i + 1 => ((zm_f T cA comp N M dv i).pushCell (arrV comp M (fun _ => dv))).setCell T.heap.size (zm_o cA N T.heap.size (i + 1))
theorem zm_o_step (cA : ClassId) (N h0 i : Nat) : (zm_o cA N h0 i).setSlot i (.ref (h0 + 1 + i)) = zm_o cA N h0 (i + 1) := by
  unfold zm_o
  rw [arrV_store]
  congr 1
  funext j
  simp only [updV]
  by_cases h : j = i
  · subst h; simp
  · rw [if_neg h]
    by_cases hj : j < i
    · rw [if_pos hj, if_pos (by omega)]
    · rw [if_neg hj, if_neg (by omega)]
theorem zm_f_at (T : State) (cA comp : ClassId) (N M : Nat) (dv : Value) (i : Nat) : (zm_f T cA comp N M dv i).heap.size = T.heap.size + 1 + i ∧ (zm_f T cA comp N M dv i).heap[T.heap.size]? = some (zm_o cA N T.heap.size i) ∧ (zm_f T cA comp N M dv i).vm = T.vm ∧ (zm_f T cA comp N M dv i).slotsUsed = T.slotsUsed + N + i * M := by
  induction i with
  | zero => exact ⟨by simp [zm_f], by simp [zm_f], rfl, by simp [zm_f, zm_o, arrV_size]⟩
  | succ i ih =>
    obtain ⟨a, b, d, u⟩ := ih
    have hlt : T.heap.size < (zm_f T cA comp N M dv i).heap.size := by omega
    have hb' : ((zm_f T cA comp N M dv i).pushCell (arrV comp M (fun _ => dv))).heap[T.heap.size]? = some (zm_o cA N T.heap.size i) := by rw [State.heap_pushCell_of_lt (h := hlt)]; exact b
    refine ⟨?_, State.heap_setCell_self hb', by simp [zm_f, d], ?_⟩
    · simp [zm_f, State.setCell, a]; omega
    · simp [zm_f, u, arrV_size, Nat.succ_mul]; omega
theorem zm_f_top (T : State) (f : JFrame) (cA comp : ClassId) (N M : Nat) (dv : Value) (i : Nat) : zm_f (T.setTop f) cA comp N M dv i = (zm_f T cA comp N M dv i).setTop f := by
  induction i with
  | zero => rfl
  | succ i ih => simp only [zm_f, ih, State.heap_setTop, State.pushCell_setTop, State.setCell_setTop]
theorem zm_f_old (T : State) (cA comp : ClassId) (N M : Nat) (dv : Value) {q : Nat} (hq : q < T.heap.size) (i : Nat) : (zm_f T cA comp N M dv i).heap[q]? = T.heap[q]? := by
  induction i with
  | zero => exact State.heap_pushCell_of_lt _ _ hq
  | succ i ih =>
    have f1 := (zm_f_at T cA comp N M dv i).1
    have hlt : q < (zm_f T cA comp N M dv i).heap.size := by omega
    show (((zm_f T cA comp N M dv i).pushCell (arrV comp M (fun _ => dv))).setCell T.heap.size _).heap[q]? = _
    rw [State.heap_setCell_other (Nat.ne_of_gt hq), State.heap_pushCell_of_lt (h := hlt)]
    exact ih
theorem zm_f_in (T : State) (cA comp : ClassId) (N M : Nat) (dv : Value) (i j : Nat) (hj : j < i) : (zm_f T cA comp N M dv i).heap[T.heap.size + 1 + j]? = some (arrV comp M (fun _ => dv)) := by
  induction i with
  | zero => exact absurd hj (Nat.not_lt_zero _)
  | succ i ih =>
    have f1 := (zm_f_at T cA comp N M dv i).1
    show (((zm_f T cA comp N M dv i).pushCell (arrV comp M (fun _ => dv))).setCell T.heap.size _).heap[T.heap.size + 1 + j]? = _
    rw [State.heap_setCell_other (show T.heap.size ≠ T.heap.size + 1 + j by omega)]
    rcases Nat.lt_or_ge j i with h9 | h9
    · have hlt : T.heap.size + 1 + j < (zm_f T cA comp N M dv i).heap.size := by omega
      rw [State.heap_pushCell_of_lt (h := hlt)]
      exact ih h9
    · have e9 : j = i := by omega
      subst e9
      rw [← f1]
      exact State.heap_pushCell_size _ _
section ZMA
variable {E : CtlPost} {e : Env} {d : Bool} {acts : List Action} {s : State}
theorem zm_new {c comp : ClassId} {k : Class} {ty : FieldType} {N : Nat} {dv : Value} (hk : s.vm.classes[c]? = some k) (hkind : k.kind = .array comp ty) (hl : ¬ N > e.platform.arrayLengthLimit) (hh : ¬ N * componentBytes ty > e.platform.maxHeapBytes) (hfit : fits ty dv = true) (hdef : dv.isDefault = true) {Q : Addr → Pre}
    (h1 : s.heap.size < e.platform.maxCells) (h2 : s.slotsUsed + N ≤ e.platform.maxSlots) (hq : Q s.heap.size d acts (s.pushCell (arrV c N (fun _ => dv)))) : wp (Jvm.newArray c N dv) Q E e d acts s := by
  rw [← arrV_new] at hq
  have hfits : ∀ i v, (Array.replicate N dv)[i]? = some v → s.fitsSlot c .none i v = true := by
    intro i v hv
    simp only [Array.getElem?_replicate] at hv
    split at hv
    · cases hv; simp [State.fitsSlot, State.slotType?, hk, hkind, hfit]
    · cases hv
  have hda : allocActs (Array.replicate N dv) s.heap.size acts = acts := by
    have hall : ((Array.replicate N dv).all (·.isDefault)) = true := by
      rw [Array.all_replicate]; split <;> simp [hdef]
    unfold allocActs; rw [if_pos hall]
  simp only [Jvm.newArray, Jvm.arrayFits, wp_bind', W.ask, W.ite, hl, if_false, wp_pure', W.theClass, hk, hkind, hh, W.alloc, W.stop, Option.some.injEq, exists_eq_left', Array.size_replicate, hda]
  rw [if_neg (by omega)]
  exact ⟨h1, h2, hfits, hq⟩
theorem zm_make {c comp cc : ClassId} {k kc : Class} {ty : FieldType} {n m : Int32} (hk : s.vm.classes[c]? = some k) (hkind : k.kind = .array comp (.array ty)) (hkc : s.vm.classes[comp]? = some kc) (hkindc : kc.kind = .array cc ty) (hn : ¬ n < 0) (hm : ¬ m < 0)
    (hl1 : ¬ n.toNatClampNeg > e.platform.arrayLengthLimit) (hh1 : ¬ n.toNatClampNeg * componentBytes (.array ty) > e.platform.maxHeapBytes) (hl2 : ¬ m.toNatClampNeg > e.platform.arrayLengthLimit) (hh2 : ¬ m.toNatClampNeg * componentBytes ty > e.platform.maxHeapBytes) (hdf : fits ty (defaultValue ty) = true) (hdd : (defaultValue ty).isDefault = true)
    (hc : s.heap.size + 1 + n.toNatClampNeg ≤ e.platform.maxCells) (hs : s.slotsUsed + n.toNatClampNeg + n.toNatClampNeg * m.toNatClampNeg ≤ e.platform.maxSlots)
    {Q : Addr → Pre} (hq : ∀ d' acts', Q s.heap.size d' acts' (zm_f s c comp n.toNatClampNeg m.toNatClampNeg (defaultValue ty) n.toNatClampNeg)) : wp (multianewarray.make c [n, m]) Q E e d acts s := by
  have hfind : ([m].find? (· < 0)) = none := by simp [hm]
  have hmul0 := Nat.zero_le (n.toNatClampNeg * m.toNatClampNeg)
  rw [multianewarray.make]
  simp only [wp_bind', W.ite, hn, if_false, wp_pure', W.theClass, hk, hkind, Option.some.injEq, exists_eq_left']
  refine zm_new hk hkind hl1 hh1 rfl rfl (by omega) (by omega) ?_
  simp only [hfind]
  rw [ite_self, wp_bind', Std.Legacy.Range.forIn_eq_forIn_range']
  have hsz : ([:n.toNatClampNeg] : Std.Legacy.Range).size = n.toNatClampNeg := by simp [Std.Legacy.Range.size]
  rw [hsz]
  have e0 : s.pushCell (arrV c n.toNatClampNeg (fun _ => .null)) = zm_f s c comp n.toNatClampNeg m.toNatClampNeg (defaultValue ty) 0 := rfl
  rw [e0]
  show wp (forIn (List.range' 0 n.toNatClampNeg 1) PUnit.unit _) _ E e d acts _
  refine wp_forIn_inv (fun rest s' => ∃ i, i ≤ n.toNatClampNeg ∧ rest = List.range' i (n.toNatClampNeg - i) ∧ s' = zm_f s c comp n.toNatClampNeg m.toNatClampNeg (defaultValue ty) i) _ _ ⟨0, Nat.zero_le _, rfl, rfl⟩ ?_ ?_
  · rintro x rest s' d' acts' Q' ⟨i, hi, hl, rfl⟩ hnext
    have hlt : i < n.toNatClampNeg := by
      rcases Nat.lt_or_ge i n.toNatClampNeg with h | h
      · exact h
      · rw [show n.toNatClampNeg - i = 0 by omega] at hl; simp at hl
    obtain ⟨rfl, hrest⟩ : x = i ∧ rest = List.range' (i + 1) (n.toNatClampNeg - (i + 1)) := by
      rw [show n.toNatClampNeg - i = (n.toNatClampNeg - (i + 1)) + 1 by omega, List.range'_succ] at hl
      exact ⟨(List.cons.inj hl).1, (List.cons.inj hl).2⟩
    obtain ⟨f1, f2, f3, f4⟩ := zm_f_at s c comp n.toNatClampNeg m.toNatClampNeg (defaultValue ty) x
    have hmul : x * m.toNatClampNeg + m.toNatClampNeg ≤ n.toNatClampNeg * m.toNatClampNeg := by
      have := Nat.mul_le_mul_right m.toNatClampNeg (show x + 1 ≤ n.toNatClampNeg from hlt)
      rw [Nat.succ_mul] at this; exact this
    simp only [wp_bind']
    rw [multianewarray.make]
    simp only [wp_bind', W.ite, hm, if_false, wp_pure', W.theClass, f3, hkc, hkindc, Option.some.injEq, exists_eq_left']
    refine zm_new (by rw [f3]; exact hkc) hkindc hl2 hh2 hdf hdd (by rw [f1]; omega) (by rw [f4]; omega) ?_
    have hlt0 : s.heap.size < (zm_f s c comp n.toNatClampNeg m.toNatClampNeg (defaultValue ty) x).heap.size := by rw [f1]; omega
    simp only [wp_bind', W.writeLoc, wp_pure']
    refine ⟨zm_o c n.toNatClampNeg s.heap.size x, by rw [State.heap_pushCell_of_lt (h := hlt0)]; exact f2, by simp [zm_o, arrV], by unfold zm_o; rw [arrV_size]; exact hlt, ?_, hnext _ _ _ ⟨x + 1, hlt, hrest, ?_⟩⟩
    · simp [zm_o, arrV, State.fitsSlot, State.slotType?, f3, hk, hkind, fits]
    · rw [f1, zm_o_step]; rfl
  · rintro s' d' acts' ⟨i, hi, hl, rfl⟩
    have hiN : i = n.toNatClampNeg := by
      rcases Nat.lt_or_ge i n.toNatClampNeg with h | h
      · rw [show n.toNatClampNeg - i = (n.toNatClampNeg - (i + 1)) + 1 by omega, List.range'_succ] at hl; cases hl
      · omega
    subst hiN
    simp only [wp_pure']
    exact hq _ _
end ZMA
theorem zm_over {args : Array Value} {first s : State} {o : Option Outcome} {idx : List Nat} {t : FieldType} (h : (Cond.arrayOver (.array t)).holds args first o s idx = true) :
    ∃ comp c k, s.vm.findClass (FieldType.array t).toString = some comp ∧ s.vm.classes[c]? = some k ∧ k.kind = .array comp (.array t) ∧ s.vm.findClass ("[" ++ (FieldType.array t).toString) = some c := by
  simp only [Cond.holds, Cond.value, beq_iff_eq] at h
  cases hc : s.vm.findClass (FieldType.array t).toString with
  | none => simp [hc] at h
  | some comp =>
    simp only [hc, Option.bind_some, Option.bind_eq_some_iff, Option.map_eq_some_iff] at h
    obtain ⟨c, hi, k, hk, hb⟩ := h
    obtain ⟨hlt, hp, -⟩ := Array.findIdx?_eq_some_iff_getElem.mp hi
    have hkk : s.vm.classes[c] = k := (Array.getElem?_eq_some_iff.mp hk).2
    rw [hkk] at hp
    cases hkind : k.kind with
    | array component ty =>
      rw [hkind] at hb hp
      simp at hb hp
      exact ⟨comp, c, k, rfl, hk, by rw [hkind, hp, hb.1], hb.2⟩
    | _ => rw [hkind] at hb; simp at hb
theorem zm_AOof {args : Array Value} {s : State} {t : FieldType} (h : (Cond.arrayOver (.array t)).before args s = true) : zm_AO t s := by
  have h : (Cond.arrayOver (.array t)).holds args s none s [] = true := h
  exact zm_over h
section ZMB
variable {p : Program} {l : Launch} {e : Env} {R : Room} {s : State} {m : MethodId} {args : Array Value} {below : List Frame} {meth : Method} {c : Code} {T : State} {locs : List Loc} {cells slots : Nat} {H : Heap} {Q : State → Prop} {cc : ByteArray} {pc nL : Nat} {ls : Array Slot} {a : Nat → Nat}
theorem zm_st (X : Stand p l e R s m args below meth c T locs cells slots) (cA comp : ClassId) (N M : Nat) (dv : Value) (i : Nat) : Stand p l e R s m args below meth c (zm_f T cA comp N M dv i) (locs ++ (List.range i).map fun j => ⟨T.heap.size, j⟩) (cells + 1 + i) (slots + N + i * M) := by
  induction i with
  | zero =>
    have h := X.pushed (zm_o cA N T.heap.size 0)
    have e9 : (zm_o cA N T.heap.size 0).slots.size = N := arrV_size _ _ _
    rw [e9] at h
    simpa [zm_f] using h
  | succ i ih =>
    obtain ⟨f1, f2, f3, f4⟩ := zm_f_at T cA comp N M dv i
    have hlt0 : T.heap.size < (zm_f T cA comp N M dv i).heap.size := by rw [f1]; omega
    have hcell : ((zm_f T cA comp N M dv i).pushCell (arrV comp M (fun _ => dv))).heap[T.heap.size]? = some (zm_o cA N T.heap.size i) := by rw [State.heap_pushCell_of_lt (h := hlt0)]; exact f2
    have h := (ih.pushed (arrV comp M (fun _ => dv))).stored hcell i (.ref (T.heap.size + 1 + i))
    rw [arrV_size, zm_o_step] at h
    have e2 : (locs ++ (List.range (i + 1)).map fun j => (⟨T.heap.size, j⟩ : Loc)) = (locs ++ (List.range i).map fun j => (⟨T.heap.size, j⟩ : Loc)) ++ [⟨T.heap.size, i⟩] := by simp [List.range_succ, List.append_assoc]
    have e3 : slots + N + (i + 1) * M = slots + N + i * M + M := by rw [Nat.succ_mul]; omega
    rw [e2, e3]
    exact h
theorem zm_W (hexec : p.tables.exec = Jvm.exec) (hb : c.code = cc) {own : String} {index : Nat} {ty : FieldType} (hown : s.vm.findClass own = some m.cls) (hclink : (Cond.classLink own index ("[" ++ (FieldType.array ty).toString)).before args s = true) (hover : zm_AO ty s) (harr : (Cond.arrayClass ty).before args s = true)
    (hdg : decode cc pc = .ok (.multianewarray index 2, 4)) {n k : Int32} {rest : List Value} (hn : ¬ n < 0) (hk : ¬ k < 0) (hb1 : n.toNatClampNeg * 4 ≤ 536870912) (hb2 : k.toNatClampNeg * componentBytes ty ≤ 536870912) (hb3 : k.toNatClampNeg ≤ 536870912) (hdf : fits ty (defaultValue ty) = true) (hdd : (defaultValue ty).isDefault = true)
    (hcells : cells + (1 + n.toNatClampNeg) ≤ R.cells) (hslots : slots + (n.toNatClampNeg + n.toNatClampNeg * k.toNatClampNeg) ≤ R.slots)
    (kk : ∀ (H' : Heap) (cA comp : ClassId), s.vm.findClass ("[" ++ (FieldType.array ty).toString) = some cA → s.vm.findClass (FieldType.array ty).toString = some comp → H'[H.size]? = some (zm_o cA n.toNatClampNeg H.size n.toNatClampNeg) → (∀ j, j < n.toNatClampNeg → H'[H.size + 1 + j]? = some (arrV comp k.toNatClampNeg (fun _ => defaultValue ty))) → H'.size = H.size + 1 + n.toNatClampNeg → (∀ q, q < H.size → H'[q]? = H[q]?) →
      W p l e R s m args below meth c H' (locs ++ (List.range n.toNatClampNeg).map fun j => ⟨H.size, j⟩) (cells + 1 + n.toNatClampNeg) (slots + n.toNatClampNeg + n.toNatClampNeg * k.toNatClampNeg) Q (F0 m (pc + 4) ls (.ref H.size :: rest))) : W p l e R s m args below meth c H locs cells slots Q (F0 m pc ls (.int k :: .int n :: rest)) := by
  intro T hT X
  have hpl : e.platform.magicAccessors = ({} : Platform).magicAccessors := by rw [X.admits.platform]
  obtain ⟨comp, cA, kA, hcomp, hkA, hkindA, hnameA⟩ := hover
  obtain ⟨comp', kC, cc', hcomp', hkC, hkindC⟩ := Cond.arrayClass_spec harr
  have ecomp : comp' = comp := Option.some.inj (hcomp'.symm.trans hcomp)
  subst ecomp
  obtain ⟨c0, hfc0, hcl⟩ := Cond.classLink_spec hown hclink e.platform hpl
  cases hnameA.symm.trans hfc0
  obtain ⟨hg₁, hwarm₁, hready₁⟩ := State.classEntry (e := e) X.warmed hcl
  generalize T.vm.noted m.cls index (.cls cA) = vm₁ at hg₁ hwarm₁ hready₁
  have hal : s.vm.Alike vm₁ := hwarm₁.alike
  obtain ⟨kA₁, hkA₁, heA⟩ := hal.2.2 _ _ hkA
  obtain ⟨kC₁, hkC₁, heC⟩ := hal.2.2 _ _ hkC
  have hkindA₁ : kA₁.kind = .array comp' (.array ty) := by rw [heA]; exact hkindA
  have hkindC₁ : kC₁.kind = .array cc' ty := by rw [heC]; exact hkindC
  have X₁ := X.noted hwarm₁
  obtain ⟨hr1, hr2⟩ := X.roomAbove hcells hslots
  have XF := zm_st X₁ cA comp' n.toNatClampNeg k.toNatClampNeg (defaultValue ty) n.toNatClampNeg
  have hsz : (T.setVm vm₁).heap.size = H.size := by rw [← hT]; rfl
  obtain ⟨f1, f2, f3, f4⟩ := zm_f_at (T.setVm vm₁) cA comp' n.toNatClampNeg k.toNatClampNeg (defaultValue ty) n.toNatClampNeg
  have f5 := fun j hj => zm_f_in (T.setVm vm₁) cA comp' n.toNatClampNeg k.toNatClampNeg (defaultValue ty) n.toNatClampNeg j hj
  have f6 := fun q hq => zm_f_old (T.setVm vm₁) cA comp' n.toNatClampNeg k.toNatClampNeg (defaultValue ty) (q := q) hq n.toNatClampNeg
  rw [hsz] at f1 f2 f5 XF
  obtain ⟨t, a1, b1⟩ := kk _ cA comp' hnameA hcomp f2 f5 f1 (fun q hq => by rw [f6 q (by rw [hsz]; exact hq), ← hT]; rfl) _ rfl XF
  refine ⟨t, ?_, b1⟩
  have hl1 : ¬ n.toNatClampNeg > e.platform.arrayLengthLimit := by rw [Launch.admits_arrayLengthLimit X.admits]; omega
  have hh1 : ¬ n.toNatClampNeg * componentBytes (.array ty) > e.platform.maxHeapBytes := by
    rw [Launch.admits_maxHeapBytes X.admits]; show ¬ n.toNatClampNeg * 4 > 536870912; omega
  have hl2 : ¬ k.toNatClampNeg > e.platform.arrayLengthLimit := by rw [Launch.admits_arrayLengthLimit X.admits]; omega
  have hh2 : ¬ k.toNatClampNeg * componentBytes ty > e.platform.maxHeapBytes := by rw [Launch.admits_maxHeapBytes X.admits]; omega
  have hdg' : decode c.code (F0 m pc ls (.int k :: .int n :: rest)).pc = .ok (.multianewarray index 2, 4) := by rw [hb]; exact hdg
  generalize hgg : F0 m pc ls (.int k :: .int n :: rest) = g at hdg' ⊢
  have hgm : g.method = m := by rw [← hgg]
  have hgs : g.stack = .int k :: .int n :: rest := by rw [← hgg]
  have hgt : ({ g with pc := g.pc + 4, stack := .ref H.size :: rest } : JFrame) = F0 m (pc + 4) ls (.ref H.size :: rest) := by rw [← hgg]
  rw [← hgt] at a1
  subst hgm
  jvm_step X.here [hexec, hdg']
  simp only [multianewarray.sem, wp_bind', W.resolveClassAt_links (State.method?_setTop g X.here.top) hg₁]
  rw [W.popN, if_neg (by decide)]
  refine ⟨g, State.topJava?_setTop' (s := T.setVm vm₁) g X.here.top, [.int n, .int k], rest, rfl, hgs, ?_⟩
  simp only [List.mapM_cons, List.mapM_nil, wp_bind', wp_pure']
  refine zm_make (k := kA₁) (kc := kC₁) (comp := comp') (cc := cc') (ty := ty) hkA₁ hkindA₁ hkC₁ hkindC₁ hn hk hl1 hh1 hl2 hh2 hdf hdd (by show T.heap.size + 1 + _ ≤ _; omega) (by show T.slotsUsed + _ + _ ≤ _; omega) (fun d' acts' => ?_)
  have eS : ((T.setTop g).setVm vm₁).setTop { g with stack := rest } = (T.setVm vm₁).setTop { g with stack := rest } := by
    show ((T.setVm vm₁).setTop g).setTop _ = _
    rw [State.setTop_setTop]
  rw [eS, zm_f_top]
  have XG := zm_st X₁ cA comp' n.toNatClampNeg k.toNatClampNeg (defaultValue ty) n.toNatClampNeg
  simp only [wp_bind', W.mark, W.pushRef, State.topJava?_setTop' _ XG.here.top, Option.some.injEq, exists_eq_left', State.setTop_setTop, State.heap_setTop]
  intro acts
  simp [jvm, XG.here.top]
  have hsz2 : T.heap.size = H.size := by rw [hT]
  rw [hsz2]
  exact a1
end ZMB
section ZMC
variable {p : Program} {l : Launch} {e : Env} {R : Room} {s : State} {m : MethodId} {args : Array Value} {below : List Frame} {meth : Method} {c : Code} {H : Heap} {locs : List Loc} {cells slots : Nat} {Q : State → Prop} {cc : ByteArray} {pc nL : Nat} {ls : Array Slot} {lv : List (Nat × Value)} {st : List Value} {a : Nat → Nat}
variable {D : va_G} {dA : Nat → ClassId} {B b n0 z0 oc : Nat} {own : String} {ini : Bool} {sc : (Nat × (Nat → Int32)) × Bool} {h : zx_H}
theorem zx_int_ok {oc i : Nat} {own : String} (ho : zt_on[oc]? = some own) {e : Int32 × Nat} (h : zx_int oc i = some e) : Cond.constant own i e.1 ∈ zt_good := by
  simp only [zx_int, Option.bind_eq_some_iff] at h
  obtain ⟨l, hl, h1⟩ := h
  exact zt_ic_ok ho hl _ (zx_fp_mem h1)
theorem zx_aalda_ok (C : zx_Cx D dA B a b sc oc own ini cc nL p s m args meth c) (hS : zx_S D dA B a n0 z0 s h H locs cells slots) {q t n : Nat} {ty : FieldType} {f : Nat → Option Nat} {i : Int32} {rest : List Value} (hd : decode cc pc = .ok (.aaload, 1)) (hq : h[q]? = some (.inl (t, n, .inr (.inr (.inr (.inr f)))))) (ht : zt_at[t]? = some (.array ty)) (hin : zx_in i n) (k : W p l e R s m args below meth c H locs cells slots Q (F0 m (pc + 1) ls (zx_v a (zx_rf (f i.toNatClampNeg)) :: rest))) : W p l e R s m args below meth c H locs cells slots Q (F0 m pc ls (.int i :: .ref (a q) :: rest)) := by
  obtain ⟨hx, hb, hml, hown, hon, hts, hnw, hK, hini, ha, hab, hbB, hBs, hX, hK2, hH2⟩ := C
  rw [zx_S_q hS ha hq]
  rw [zx_rf_v] at k
  have hin : vp_in i n := hin
  have hlt : i.toNatClampNeg < n := Nat.not_le.mp fun q => hin (Or.inr q)
  have hg := zx_w_get (dA := dA) (B := B) (a := a) hq
  exact W.aald (v := va_rf ((f i.toNatClampNeg).map a)) (ty := .array ty) hx hb (hS.1 q _ hg) ((hK.2 t _ (zx_tys_get ht)).1 n (fun j => va_rf ((f j).map a))) rfl (fun q => by cases q) (by show ¬ (i < 0 ∨ (arrV _ _ _).slots.size ≤ _); rw [arrV_size]; exact hin) (by show (arrV _ _ _).slots[_]? = _; rw [arrV_read _ _ hlt]) rfl rfl hd k
theorem zx_fb_ok {f : Nat → Int32} {sp n : Nat} (h : zx_fb f sp n = true) : ∀ i, i < n → fits .byte (.int (f (sp + i))) = true := fun i hi => List.all_eq_true.mp h i (List.mem_range.mpr hi)
theorem zx_cpT_ok (C : zx_Cx D dA B a b sc oc own ini cc nL p s m args meth c) (hS : zx_S D dA B a n0 z0 s h H locs cells slots) {index b0 n0' : Nat} {f : Nat → Int32} (hlink : (Cond.methodLink own index arraycopyName).before args s = true) (hT0 : va_T .byte b0 n0' (fun j => .int (f j)) (fun x => B ≤ x) s s.heap) {q1 t1 n1 : Nat} {g : Nat → Int32} (hq : h[q1]? = some (.inl (t1, n1, .inl g))) (ht : zt_at[t1]? = some .byte)
    {sp dp n : Int32} (h1 : ¬ sp < 0) (h2 : ¬ dp < 0) (h3 : ¬ n < 0) (h4 : sp.toNatClampNeg + n.toNatClampNeg ≤ n0') (h5 : dp.toNatClampNeg + n.toNatClampNeg ≤ n1) (hfit : zx_fb f sp.toNatClampNeg n.toNatClampNeg = true) {rest : List Value}
    (hmls : c.maxLocals = ls.size) (hframes : 1 ≤ R.frames) (hlocals : (rest.map fun v => v.category).sum + (nativeFrameWords "java/lang/System" "arraycopy" 5 + 11) ≤ R.locals) (hdg : decode cc pc = .ok (.invokestatic index, 3))
    (kk : ∀ (H1 : Heap) (locs1 : List Loc), zx_S D dA B a n0 z0 s (h.set q1 (.inl (t1, n1, .inl (va_cpy f g sp.toNatClampNeg dp.toNatClampNeg n.toNatClampNeg)))) H1 locs1 cells slots → W p l e R s m args below meth c H1 locs1 cells slots Q (F0 m (pc + 3) ls rest)) : W p l e R s m args below meth c H locs cells slots Q (F0 m pc ls (.int n :: .int dp :: .ref (a q1) :: .int sp :: .ref b0 :: rest)) := by
  obtain ⟨hx, hb, hml, hown, hon, hts, hnw, hK, hini, ha, hab, hbB, hBs, hX, hK2, hH2⟩ := C
  have hV := hS.2.1
  have hqa : a q1 = B + q1 := zx_S_q hS ha hq
  rw [hqa]
  have nn : ∀ z : Int32, ¬ z < 0 → z.toInt = (z.toNatClampNeg : Int) := by
    intro z hz
    have hz0 : (0 : Int) ≤ z.toInt := by
      have := Int32.not_lt.mp hz
      simpa using Int32.le_iff_toInt_le.mp this
    show z.toInt = ((z.toInt.toNat : Nat) : Int)
    omega
  intro T hT X
  obtain ⟨scr, hs1, hs2, hs3, hs4, -, hs5, hs6⟩ := hT0
  have hc0 : H[b0]? = some scr := by rw [hV.2.1 b0 (Array.getElem?_eq_some_iff.mp hs1).1 hs6]; exact hs1
  have hg := zx_w_get (dA := dA) (B := B) (a := a) hq
  have hc1 : H[B + q1]? = some (vp_cell (dA t1) (n1, .inl g)) := hS.1 q1 _ hg
  obtain ⟨hs7, k0, hk0, cm0, hkk0⟩ := hs2
  obtain ⟨-, k1, hk1, cm1, hkk1⟩ := (hK.2 t1 _ (zx_tys_get ht)).1 n1 (fun j => .int (g j))
  obtain ⟨vm', X', step⟩ := X.arraycopy hx hown hlink (hts _ zt_acopy.1) (hts _ zt_acopy.2.1) (hts _ zt_acopy.2.2) (src := b0) (dst := B + q1) (cs := scr) (cd := vp_cell (dA t1) (n1, .inl g)) (srcPos := sp) (destPos := dp) (n := n) (by rw [hT]; exact hc0) (by rw [hT]; exact hc1)
    hs7 (fun _ h => by cases h) hs3 (fun h => by cases h) hk0 hk1 hkk0 hkk1 (by simp [refKind]) h1 h2 h3
    (by rw [nn sp h1, nn n h3]; omega)
    (by rw [nn dp h2, nn n h3]; show ¬ _ > ((arrV (dA t1) n1 (fun j => .int (g j))).slots.size : Int); rw [arrV_size]; omega)
    (fun vm₁ _ i hi => by
      have e : scr.slots.getD (sp.toNatClampNeg + i) .null = .int (f (sp.toNatClampNeg + i)) := by
        rw [Array.getD_eq_getD_getElem?, hs5 _ (by omega)]
        rfl
      refine ⟨?_, ?_⟩
      · rw [e]
        exact zx_fb_ok hfit i hi
      · rw [e]
        exact trivial)
    (g := F0 m pc ls (.int n :: .int dp :: .ref (B + q1) :: .int sp :: .ref b0 :: rest)) rfl (by rw [hmls]) (rest := rest) rfl (by rw [hb]; exact hdg) hframes (by show 2 * 0 + _ + _ ≤ _; omega)
  have e1 : copied scr (vp_cell (dA t1) (n1, .inl g)) sp dp n = vp_cell (dA t1) (n1, .inl (va_cpy f g sp.toNatClampNeg dp.toNatClampNeg n.toNatClampNeg)) := va_copiedX (fun z => .int z) scr (dA t1) f g hs5 h4
  rw [e1] at X' step
  have hl : B + q1 < H.size := (Array.getElem?_eq_some_iff.mp hc1).1
  have hheap : ((T.setVm vm').setCell (B + q1) (vp_cell (dA t1) (n1, .inl (va_cpy f g sp.toNatClampNeg dp.toNatClampNeg n.toNatClampNeg)))).heap = H.setIfInBounds (B + q1) (vp_cell (dA t1) (n1, .inl (va_cpy f g sp.toNatClampNeg dp.toNatClampNeg n.toNatClampNeg))) := by rw [← hT]; rfl
  have oq : ∀ q : Nat, q ≠ B + q1 → (H.setIfInBounds (B + q1) (vp_cell (dA t1) (n1, .inl (va_cpy f g sp.toNatClampNeg dp.toNatClampNeg n.toNatClampNeg))))[q]? = H[q]? := fun q hq => by simp [Array.getElem?_setIfInBounds, Ne.symm hq]
  have hP1 := hS.1.set (zx_w_D (dA := dA) (B := B) (a := a) (h := h)) hg (e := .inl (dA t1, n1, .inl (va_cpy f g sp.toNatClampNeg dp.toNatClampNeg n.toNatClampNeg))) (show (H.setIfInBounds (B + q1) _)[B + q1]? = some _ by simp [Array.getElem?_setIfInBounds, hl]) oq
  obtain ⟨t, a1, b1⟩ := kk _ _ (zx_S_set (e1 := .inl (t1, n1, .inl (va_cpy f g sp.toNatClampNeg dp.toNatClampNeg n.toNatClampNeg))) hS hq rfl hP1 ⟨by simp; exact hV.1, fun q g1 g2 => by
      rw [oq q (fun e => g2 (by rw [e]; show B ≤ B + q1; omega))]
      exact hV.2.1 q g1 g2, fun q hq => by
      rcases List.mem_append.mp hq with h | h
      · exact hV.2.2 q h
      · obtain ⟨z, -, hz⟩ := List.mem_map.mp h
        rw [← hz]
        show B ≤ B + q1
        omega⟩) _ hheap X'
  exact ⟨t, step t a1, b1⟩
theorem zx_rep_get {t : Nat} {x : zx_E} {n k : Nat} {e : zx_E} (hk : (List.replicate n x)[k]? = some e) : k < n ∧ e = x := by
  rw [List.getElem?_replicate] at hk
  split at hk
  · next h => cases hk; exact ⟨h, rfl⟩
  · cases hk
set_option maxHeartbeats 1000000 in
theorem zx_multi_ok (C : zx_Cx D dA B a b sc oc own ini cc nL p s m args meth c) (hS : zx_S D dA B a n0 z0 s h H locs cells slots) {i t t2 y0 w0 : Nat} {ty : FieldType} {a0 : vp_A} {n k : Int32} {rest : List Value} (hd : decode cc pc = .ok (.multianewarray i 2, 4)) (hp : zx_pool oc i = some (18, t, y0, w0)) (ht : zt_at[t]? = some (.array ty)) (ht2 : zx_at ty = some t2) (ha0 : zx_arr ty k.toNatClampNeg = some a0) (hn : ¬ n < 0) (hk : ¬ k < 0) (hb1 : n.toNatClampNeg * 4 ≤ 536870912) (hb2 : k.toNatClampNeg * componentBytes ty ≤ 536870912) (hlim : h.length + n.toNatClampNeg < zx_lim)
    (hc1 : cells + (1 + n.toNatClampNeg) ≤ R.cells) (hs1 : slots + (n.toNatClampNeg + n.toNatClampNeg * k.toNatClampNeg) ≤ R.slots)
    (kk : ∀ H' locs', zx_S D dA B a n0 z0 s (h ++ .inl (t, n.toNatClampNeg, .inr (.inr (.inr (.inr (fun j => if j < n.toNatClampNeg then some (h.length + 1 + j) else none))))) :: List.replicate n.toNatClampNeg (.inl (t2, a0))) H' locs' (cells + 1 + n.toNatClampNeg) (slots + n.toNatClampNeg + n.toNatClampNeg * k.toNatClampNeg) → W p l e R s m args below meth c H' locs' (cells + 1 + n.toNatClampNeg) (slots + n.toNatClampNeg + n.toNatClampNeg * k.toNatClampNeg) Q (F0 m (pc + 4) ls (.ref (a h.length) :: rest))) : W p l e R s m args below meth c H locs cells slots Q (F0 m pc ls (.int k :: .int n :: rest)) := by
  obtain ⟨hx, hb, hml, hown, hon, hts, hnw, hK, hini, ha, hab, hbB, hBs, hX, hK2, hH2⟩ := C
  obtain ⟨nm, ty9, hw, hty9, hnm⟩ := zx_pool_ok hon hp
  cases Option.some.inj (hty9.symm.trans ht)
  rw [hnm] at hw
  have hta2 := zx_at_ok ht2
  have hover : zm_AO ty s := hK2.2.2.2 ty (by
    rcases zt_at_ok _ _ ht with h9 | ⟨C9, h9, h10⟩ | ⟨t9, h9, h10⟩
    · exact absurd rfl (h9.1.2 ty)
    · cases h9
    · cases h9; exact h10)
  have harr : Cond.arrayClass ty ∈ zt_good := by
    rcases zt_at_ok _ _ hta2 with h9 | ⟨C9, h9, -⟩ | ⟨t9, h9, -⟩
    · exact h9.2
    · subst h9; cases ha0
    · subst h9; cases ha0
  have hb3 : k.toNatClampNeg ≤ 536870912 := by
    have : 1 ≤ componentBytes ty := by cases ty <;> simp [componentBytes]
    exact Nat.le_trans (Nat.le_mul_of_pos_right _ this) hb2
  have hcell : (∀ cA : ClassId, vp_cell cA a0 = arrV cA k.toNatClampNeg (fun _ => defaultValue ty)) ∧ zx_sz1 (.inl (t2, a0)) = k.toNatClampNeg ∧ zx_e dA a (.inl (t2, a0)) = .inl (dA t2, a0) ∧ fits ty (defaultValue ty) = true ∧ (defaultValue ty).isDefault = true := by
    cases ty <;> first | (cases ha0; exact ⟨fun _ => rfl, rfl, rfl, rfl, rfl⟩) | (cases ha0)
  intro T hT X
  have hHs := zx_S_size hS hT X
  refine zm_W hx hb hown (hts _ hw) hover (hts _ harr) hd hn hk hb1 hb2 hb3 hcell.2.2.2.1 hcell.2.2.2.2 hc1 hs1 (fun H' cA comp hcA hcomp o1 o2 o3 o4 => ?_) T hT X
  have e1 := zx_RA_fc (hK.2 t _ (zx_tys_get ht)).2
  have e2 := zx_RA_fc (hK.2 t2 _ (zx_tys_get hta2)).2
  have e3 : cA = dA t := Option.some.inj (hcA.symm.trans e1)
  have e4 : comp = dA t2 := by
    have h9 : FieldType.toString (.array ty) = "[" ++ ty.toString := rfl
    rw [h9] at hcomp
    exact Option.some.inj (hcomp.symm.trans e2)
  subst e3 e4
  have hal := ha h.length (by omega)
  have hkk := kk H' (locs ++ (List.range n.toNatClampNeg).map fun j => ⟨H.size, j⟩)
  rw [hal, ← hHs] at hkk
  refine hkk ?_
  obtain ⟨hP, hV, hn0, hs0, hzz, hlm⟩ := hS
  refine ⟨?_, ⟨by omega, fun q g1 g2 => ?_, fun x hx9 => ?_⟩, ?_, hs0, ?_, ?_⟩
  · intro j q hj
    simp only [zx_w, List.getElem?_mapIdx, Option.map_eq_some_iff] at hj
    obtain ⟨e9, he9, rfl⟩ := hj
    rcases Nat.lt_or_ge j h.length with hlt | hge
    · rw [List.getElem?_append_left hlt] at he9
      have h8 := hP j _ (zx_w_get (dA := dA) (B := B) (a := a) he9)
      have h7 := h8.lt
      dsimp only at h7
      exact h8.kept (o4 _ h7)
    · rw [List.getElem?_append_right hge] at he9
      rcases Nat.eq_zero_or_pos (j - h.length) with hz | hz
      · rw [hz] at he9
        cases he9
        have ej : B + j = H.size := by omega
        show H'[B + j]? = some (vp_cell _ _)
        rw [ej, o1]
        unfold zm_o
        rw [vp_cell_q]
        congr 2
        funext z
        by_cases hzz9 : z < n.toNatClampNeg
        · rw [if_pos hzz9]
          simp only [hzz9, if_true, Option.map_some, va_rf]
          rw [ha (h.length + 1 + z) (by omega), hHs]
          exact congrArg Value.ref (show (B + h.length + 1 + z : Nat) = B + (h.length + 1 + z) by omega)
        · rw [if_neg hzz9]
          simp only [hzz9, if_false, Option.map_none, va_rf]
      · obtain ⟨z, hz9⟩ : ∃ z, j - h.length = z + 1 := ⟨j - h.length - 1, by omega⟩
        rw [hz9, List.getElem?_cons_succ] at he9
        obtain ⟨hzn, rfl⟩ := zx_rep_get (t := t) he9
        have ej : B + j = H.size + 1 + z := by omega
        rw [hcell.2.2.1]
        show H'[B + j]? = some (vp_cell _ _)
        rw [ej, o2 z hzn, hcell.1]
  · rw [o4 q (Nat.lt_of_lt_of_le g1 hV.1)]
    exact hV.2.1 q g1 g2
  · rcases List.mem_append.mp hx9 with h9 | h9
    · exact hV.2.2 x h9
    · obtain ⟨z, -, hz⟩ := List.mem_map.mp h9
      rw [← hz]
      show B ≤ H.size
      omega
  · simp; omega
  · have hz9 : zx_sz (h ++ .inl (t, n.toNatClampNeg, .inr (.inr (.inr (.inr (fun j => if j < n.toNatClampNeg then some (h.length + 1 + j) else none))))) :: List.replicate n.toNatClampNeg (.inl (t2, a0))) = zx_sz h + (n.toNatClampNeg + n.toNatClampNeg * k.toNatClampNeg) := by
      have h8 : zx_sz1 (.inl (t2, a0)) = k.toNatClampNeg := hcell.2.1
      simp only [zx_sz, List.map_append, List.sum_append, List.map_cons, List.sum_cons, List.map_replicate, h8, List.sum_replicate_nat]
      rfl
    rw [hz9]
    omega
  · simp; omega
end ZMC

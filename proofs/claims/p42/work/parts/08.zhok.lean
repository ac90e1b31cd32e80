/-! ===== heap steps are the kit's rows ===== -/
theorem zx_fp_mem {β : Type} {i : Nat} {v : β} : ∀ {l : List (Nat × β)}, zx_fp i l = some v → (i, v) ∈ l
  | [], h => by cases h
  | (j, w) :: r, h => by
    unfold zx_fp at h
    split at h
    · next e => cases h; subst e; exact List.mem_cons_self
    · exact List.mem_cons_of_mem _ (zx_fp_mem h)
theorem zx_pool_ok {oc i : Nat} {own : String} (ho : zt_on[oc]? = some own) {e : Nat × Nat × Nat × Nat} (h : zx_pool oc i = some e) : zt_eOK own (i, e) := by
  simp only [zx_pool, Option.bind_eq_some_iff] at h
  obtain ⟨l, hl, h1⟩ := h
  exact zt_pl_ok ho hl _ (zx_fp_mem h1)
theorem zx_lng_ok {oc i : Nat} {own : String} (ho : zt_on[oc]? = some own) {e : Int64 × Nat} (h : zx_lng oc i = some e) : Cond.constantLong own i e.1 ∈ zt_good := by
  simp only [zx_lng, Option.bind_eq_some_iff] at h
  obtain ⟨l, hl, h1⟩ := h
  exact zt_lc_ok ho hl _ (zx_fp_mem h1)
theorem zx_fi_at {ty : FieldType} : ∀ {l : List FieldType} {k t : Nat}, zx_fi ty k l = some t → k ≤ t ∧ l[t - k]? = some ty
  | [], _, _, h => by cases h
  | a :: r, k, t, h => by
    unfold zx_fi at h
    split at h
    · next e =>
      cases h
      subst e
      exact ⟨Nat.le_refl _, by rw [Nat.sub_self]; rfl⟩
    · obtain ⟨h1, h2⟩ := zx_fi_at h
      refine ⟨by omega, ?_⟩
      rw [show t - k = (t - (k + 1)) + 1 by omega]
      exact h2
theorem zx_at_ok {ty : FieldType} {t : Nat} (h : zx_at ty = some t) : zt_at[t]? = some ty := by
  have h1 := (zx_fi_at h).2
  rwa [Nat.sub_zero] at h1
/-- abstract cells as real ones -/
def zx_e (dA : Nat → ClassId) (a : Nat → Nat) : zx_E → va_E
  | .inl (t, n, .inl f) => .inl (dA t, n, .inl f)
  | .inl (t, n, .inr (.inl f)) => .inl (dA t, n, .inr (.inl f))
  | .inl (t, n, .inr (.inr (.inl f))) => .inl (dA t, n, .inr (.inr (.inl f)))
  | .inl (t, n, .inr (.inr (.inr (.inl f)))) => .inl (dA t, n, .inr (.inr (.inr (.inl f))))
  | .inl (t, n, .inr (.inr (.inr (.inr f)))) => .inl (dA t, n, .inr (.inr (.inr (.inr (fun j => (f j).map a)))))
  | .inr (c, vs) => .inr (c, vs.map (zx_v a))
def zx_w (dA : Nat → ClassId) (B : Nat) (a : Nat → Nat) (h : zx_H) : va_W := h.mapIdx (fun k e => (B + k, zx_e dA a e))
theorem zx_w_get {dA : Nat → ClassId} {B : Nat} {a : Nat → Nat} {h : zx_H} {k : Nat} {e : zx_E} (hk : h[k]? = some e) : (zx_w dA B a h)[k]? = some (B + k, zx_e dA a e) := by
  simp [zx_w, List.getElem?_mapIdx, hk]
theorem zx_w_set {dA : Nat → ClassId} {B : Nat} {a : Nat → Nat} {h : zx_H} {k : Nat} {e : zx_E} : (zx_w dA B a h).set k (B + k, zx_e dA a e) = zx_w dA B a (h.set k e) := by
  apply List.ext_getElem?
  intro j
  simp only [zx_w, List.getElem?_mapIdx, List.getElem?_set, List.length_mapIdx]
  by_cases hj : k = j
  · subst hj
    by_cases hl : k < h.length
    · simp [hl]
    · simp [hl]
  · simp [hj]
theorem zx_w_push {dA : Nat → ClassId} {B : Nat} {a : Nat → Nat} {h : zx_H} {e : zx_E} : zx_w dA B a (h ++ [e]) = zx_w dA B a h ++ [(B + h.length, zx_e dA a e)] := by
  simp [zx_w, List.mapIdx_append]
theorem zx_w_len {dA : Nat → ClassId} {B : Nat} {a : Nat → Nat} {h : zx_H} : (zx_w dA B a h).length = h.length := by simp [zx_w]
theorem zx_w_inv {dA : Nat → ClassId} {B : Nat} {a : Nat → Nat} {h : zx_H} {k : Nat} {q : Nat × va_E} (hk : (zx_w dA B a h)[k]? = some q) : q.1 = B + k ∧ k < h.length := by
  simp only [zx_w, List.getElem?_mapIdx, Option.map_eq_some_iff] at hk
  obtain ⟨e, h1, h2⟩ := hk
  exact ⟨by rw [← h2], (List.getElem?_eq_some_iff.mp h1).1⟩
theorem zx_w_D {dA : Nat → ClassId} {B : Nat} {a : Nat → Nat} {h : zx_H} : va_D (fun q => B ≤ q) (zx_w dA B a h) := by
  refine ⟨fun i j x y hi hj hxy => ?_, fun k q hk => ?_⟩
  · have h1 := (zx_w_inv hi).1
    have h2 := (zx_w_inv hj).1
    omega
  · have h1 := (zx_w_inv hk).1
    show B ≤ q.1
    omega
abbrev zx_tys (dA : Nat → ClassId) : List (ClassId × FieldType) := zt_at.mapIdx (fun t ty => (dA t, ty))
theorem zx_tys_get {dA : Nat → ClassId} {t : Nat} {ty : FieldType} (h : zt_at[t]? = some ty) : (zx_tys dA)[t]? = some (dA t, ty) := by
  simp [zx_tys, List.getElem?_mapIdx, h]
/-- how the heap looks, with the room's book -/
def zx_S (D : va_G) (dA : Nat → ClassId) (B : Nat) (a : Nat → Nat) (n0 z0 : Nat) (s : State) (h : zx_H) (H : Heap) (locs : List Loc) (cells slots : Nat) : Prop :=
  va_P D zt_cl (zx_w dA B a h) H ∧ va_S (fun q => B ≤ q) s.heap H locs ∧ n0 + cells = h.length ∧ s.heap.size = B + n0 ∧ z0 + slots = zx_sz h ∧ h.length ≤ zx_lim
/-- the class of arrays of arrays -/
def zm_AO (ty : FieldType) (s : State) : Prop := ∃ comp c k, s.vm.findClass (FieldType.array ty).toString = some comp ∧ s.vm.classes[c]? = some k ∧ k.kind = .array comp (.array ty) ∧ s.vm.findClass ("[" ++ (FieldType.array ty).toString) = some c
theorem zm_AO.moved {ty : FieldType} {u U : State} (hvm : u.vm.Alike U.vm) (h : zm_AO ty u) : zm_AO ty U := by
  obtain ⟨comp, c, k, h1, h2, h3, h4⟩ := h
  obtain ⟨k', hk', he⟩ := hvm.2.2 _ _ h2
  exact ⟨comp, c, k', by rw [hvm.findClass]; exact h1, hk', by rw [he]; exact h3, by rw [hvm.findClass]; exact h4⟩
/-- what else the tables say: arrays of references, texts, exceptions that are none of another kind -/
def zx_K2 (s : State) : Prop := (∀ C, Cond.arrayOver (.object C) ∈ lw_tbl → va_AO C s) ∧ (∀ own i tx, Cond.stringRef own i tx ∈ lw_tbl → ∃ sa, vk_R own i tx sa s) ∧
  (∀ (c d : Nat) (r1 r2 : vw_C), zt_x0 ≤ c → zt_x0 ≤ d → c ≠ d → zt_cl[c]? = some r1 → zt_cl[d]? = some r2 → va_Nc r1.1 r2.1 s) ∧ (∀ ty, Cond.arrayOver (.array ty) ∈ lw_tbl → zm_AO ty s)
/-- a cell that stood before: what is said of it -/
def zx_xe (B : Nat) (a : Nat → Nat) (U : State) (H : Heap) (k : Nat) (q : FieldType × zx_E) : Prop := match q with
  | (ty, .inl (_, n, .inl f)) => va_T ty (a k) n (fun j => .int (f j)) (fun x => B ≤ x) U H
  | (ty, .inl (_, n, .inr (.inr (.inr (.inr f))))) => va_T ty (a k) n (fun j => zx_v a (zx_rf (f j))) (fun x => B ≤ x) U H
  | (.object C, .inr (ci, fs)) => va_O C (a k) (fun x => B ≤ x) U H ∧ (ci = 999 ∨ ∃ r, zt_cl[ci]? = some r ∧ r.1 = C ∧ ∀ i v, fs[i]? = some v → (∀ z, v ≠ .retAddr z) → i < r.2.2 ∧ va_OF (r.2.1 i).1 (r.2.1 i).2.1 (r.2.1 i).2.2.1 (zx_v a v) (a k) (fun x => B ≤ x) U H)
  | _ => False
def zx_XF (B : Nat) (a : Nat → Nat) (nf : Bool) (s : State) (H : Heap) : Prop := (∀ j q, zt_ext j = some q → zx_xe B a s H (zx_lim + 1 + j) q) ∧
  (∀ (x : Nat) (e : String × String × String) (v : Value), zt_stn[x]? = some e → (zt_stv nf)[x]? = some v → va_Z e.1 e.2.1 e.2.2 (zx_v a v) (fun x => B ≤ x) s H) ∧
  (∀ e ∈ zt_str, vk_R e.1 e.2.1 e.2.2.1 (a (zx_lim + 1 + e.2.2.2)) s) ∧ (∀ j q, zt_ext j = some q → a (zx_lim + 1 + j) < B) ∧
  (∀ e ∈ zt_vt, e.2.2.2 = true → ∀ x q r, zt_vn[e.1]? = some x → zt_m[e.2.2.1]? = some q → zt_cl[e.2.1]? = some r → va_Fw r.1 x q.1 s)
def zx_H2 (B : Nat) (a : Nat → Nat) (nf : Bool) (s : State) (H : Heap) : Prop := zx_XF B a nf s H ∧ vx_Zq Bundle.tN "UNASSIGNED_STACK" Bundle.steD (fun q => B ≤ q) s H ∧ vx_Zq Bundle.tN "SUPPRESSED_SENTINEL" Bundle.listD (fun q => B ≤ q) s H
/-- what stays true while a method runs: the machine, its code, the tables -/
def zx_Cx (D : va_G) (dA : Nat → ClassId) (B : Nat) (a : Nat → Nat) (b : Nat) (sc : (Nat × (Nat → Int32)) × Bool) (oc : Nat) (own : String) (ini : Bool) (cc : ByteArray) (nL : Nat) (p : Program) (s : State) (m : MethodId) (args : Array Value) (meth : Method) (c : Code) : Prop :=
  p.tables.exec = Jvm.exec ∧ c.code = cc ∧ c.maxLocals = nL ∧ s.vm.findClass own = some m.cls ∧ zt_on[oc]? = some own ∧ (∀ w ∈ zt_good, w.before args s = true) ∧ (∀ w ∈ zt_nw, va_Nw w s) ∧ va_K D zt_cl (zx_tys dA) s ∧ (ini = true → meth.name = "<init>") ∧
  (∀ k, k < zx_lim → a k = B + k) ∧ a zx_lim = b ∧ b < B ∧ B ≤ s.heap.size ∧ va_X b sc.1.1 sc.1.2 s s.heap ∧ zx_K2 s ∧ zx_H2 B a sc.2 s s.heap
theorem zt_on_pre : zt_on.take zt_cl.length = zt_cl.map (·.1) := rfl
theorem zt_on_cl {ci : Nat} {own : String} {r : vw_C} (h1 : zt_on[ci]? = some own) (h2 : zt_cl[ci]? = some r) : r.1 = own := by
  have hl := (List.getElem?_eq_some_iff.mp h2).1
  have h3 : (zt_on.take zt_cl.length)[ci]? = some own := by rw [List.getElem?_take]; rw [if_pos hl]; exact h1
  rw [zt_on_pre, List.getElem?_map, h2] at h3
  exact Option.some.inj h3
section ZXH
variable {p : Program} {l : Launch} {e : Env} {R : Room} {s : State} {m : MethodId} {args : Array Value} {below : List Frame} {meth : Method} {c : Code} {H : Heap} {locs : List Loc} {cells slots : Nat} {Q : State → Prop} {cc : ByteArray} {pc nL : Nat} {ls : Array Slot} {lv : List (Nat × Value)} {st : List Value} {a : Nat → Nat}
variable {D : va_G} {dA : Nat → ClassId} {B b n0 z0 oc : Nat} {own : String} {ini : Bool} {sc : (Nat × (Nat → Int32)) × Bool} {h : zx_H}
/-- the goal goes on at f with the heap h' -/
def zx_KH (D : va_G) (dA : Nat → ClassId) (B : Nat) (n0 z0 : Nat) (p : Program) (l : Launch) (e : Env) (R : Room) (s : State) (m : MethodId) (args : Array Value) (below : List Frame) (meth : Method) (c : Code) (Q : State → Prop) (nL : Nat) (a : Nat → Nat) (q : zx_F × zx_H) : Prop :=
  ∀ (H' : Heap) (locs' : List Loc) (cells' slots' : Nat), zx_S D dA B a n0 z0 s q.2 H' locs' cells' slots' → zx_K p l e R s m args below meth c H' locs' cells' slots' Q nL a q.1
theorem zx_S_size (hS : zx_S D dA B a n0 z0 s h H locs cells slots) {T : State} (hT : T.heap = H) (X : Stand p l e R s m args below meth c T locs cells slots) : H.size = B + h.length := by
  obtain ⟨hP, hV, hn, hs, -, -⟩ := hS
  have h1 : T.heap.size ≤ s.heap.size + cells := X.same.2.2.1
  rw [hT] at h1
  have h2 : s.heap.size ≤ H.size := hV.1
  rcases Nat.eq_zero_or_pos h.length with h0 | h0
  · omega
  · obtain ⟨e0, he⟩ : ∃ e0, h[h.length - 1]? = some e0 := ⟨_, List.getElem?_eq_getElem (by omega)⟩
    have h3 := (hP _ _ (zx_w_get he)).lt
    dsimp only at h3
    omega
theorem zx_sz_set {k : Nat} {e0 e1 : zx_E} (hk : h[k]? = some e0) (hz : zx_sz1 e1 = zx_sz1 e0) : zx_sz (h.set k e1) = zx_sz h := by
  have h1 : (h.set k e1).map zx_sz1 = h.map zx_sz1 := by
    apply List.ext_getElem?
    intro j
    simp only [List.getElem?_map, List.getElem?_set]
    by_cases hj : k = j
    · subst hj
      by_cases hl : k < h.length
      · rw [if_pos rfl, if_pos hl, hk]
        simp [hz]
      · rw [if_pos rfl, if_neg hl]
        rw [List.getElem?_eq_none (by omega)] at hk
        cases hk
    · rw [if_neg hj]
  unfold zx_sz
  rw [h1]
theorem zx_S_set (hS : zx_S D dA B a n0 z0 s h H locs cells slots) {k : Nat} {e0 e1 : zx_E} (hk : h[k]? = some e0) (hz : zx_sz1 e1 = zx_sz1 e0) {H1 : Heap} {locs1 : List Loc} (hP : va_P D zt_cl ((zx_w dA B a h).set k (B + k, zx_e dA a e1)) H1) (hV : va_S (fun q => B ≤ q) s.heap H1 locs1) : zx_S D dA B a n0 z0 s (h.set k e1) H1 locs1 cells slots := by
  obtain ⟨-, -, hn, hs, hzz, hlm⟩ := hS
  rw [zx_w_set] at hP
  exact ⟨hP, hV, by rw [List.length_set]; exact hn, hs, by rw [zx_sz_set hk hz]; exact hzz, by rw [List.length_set]; exact hlm⟩
theorem zx_push_q (hS : zx_S D dA B a n0 z0 s h H locs cells slots) {q : Nat} {H1 : Heap} {e1 : va_E} {slots1 : Nat} (hP : va_P D zt_cl (zx_w dA B a h ++ [(q, e1)]) H1) (hD : va_D (fun q => B ≤ q) (zx_w dA B a h ++ [(q, e1)])) {T : State} (hT : T.heap = H1) (X : Stand p l e R s m args below meth c T locs (cells + 1) slots1) : q = B + h.length := by
  obtain ⟨-, hV, hn, hs, -, -⟩ := hS
  have h1 : T.heap.size ≤ s.heap.size + (cells + 1) := X.same.2.2.1
  rw [hT] at h1
  have hl : (zx_w dA B a h ++ [(q, e1)])[h.length]? = some (q, e1) := by
    rw [List.getElem?_append_right (by rw [zx_w_len]; exact Nat.le_refl _), zx_w_len, Nat.sub_self]
    rfl
  have h2 := (hP _ _ hl).lt
  dsimp only at h2
  have h3 : B ≤ q := hD.2 _ _ hl
  rcases Nat.lt_or_ge (q - B) h.length with h4 | h4
  · obtain ⟨e0, he⟩ : ∃ e0, h[q - B]? = some e0 := ⟨_, List.getElem?_eq_getElem h4⟩
    have h5 : (zx_w dA B a h ++ [(q, e1)])[q - B]? = some (B + (q - B), zx_e dA a e0) := by
      rw [List.getElem?_append_left (by rw [zx_w_len]; exact h4)]
      exact zx_w_get he
    have h6 := hD.1 (q - B) h.length _ _ h5 hl (by dsimp only; omega)
    omega
  · omega
theorem zx_S_push (hS : zx_S D dA B a n0 z0 s h H locs cells slots) {e1 : zx_E} {N : Nat} (hN : zx_sz1 e1 = N) (hlim : h.length < zx_lim) {H1 : Heap} (hP : va_P D zt_cl (zx_w dA B a h ++ [(B + h.length, zx_e dA a e1)]) H1) (hV : va_S (fun q => B ≤ q) s.heap H1 locs) : zx_S D dA B a n0 z0 s (h ++ [e1]) H1 locs (cells + 1) (slots + N) := by
  obtain ⟨-, -, hn, hs, hzz, -⟩ := hS
  rw [← zx_w_push] at hP
  refine ⟨hP, hV, by simp; omega, hs, ?_, by simp; omega⟩
  have : zx_sz (h ++ [e1]) = zx_sz h + N := by simp [zx_sz, hN]
  omega
theorem zx_S_q (hS : zx_S D dA B a n0 z0 s h H locs cells slots) (ha : ∀ k, k < zx_lim → a k = B + k) {q : Nat} {e0 : zx_E} (hq : h[q]? = some e0) : a q = B + q := by
  have h1 := (List.getElem?_eq_some_iff.mp hq).1
  exact ha q (Nat.lt_of_lt_of_le h1 hS.2.2.2.2.2)
theorem zx_same {ref : String} {r : vw_C} {k : Nat} (hts : ∀ w ∈ zt_good, w.before args s = true) (h : ref = (r.2.1 k).1 ∨ Cond.sameField ref (r.2.1 k).1 (r.2.1 k).2.1 (r.2.1 k).2.2.1 ∈ zt_good) : ∀ x, s.fieldFound? (r.2.1 k).1 (r.2.1 k).2.1 (r.2.1 k).2.2.1 = some x → s.fieldFound? ref (r.2.1 k).2.1 (r.2.1 k).2.2.1 = some x := by
  intro x hx
  rcases h with h | h
  · rw [h]; exact hx
  · exact u_same (hts _ h) x hx
theorem zx_uws {r : vw_C} {ci : Nat} (hr : zt_cl[ci]? = some r) : ∀ w ∈ u_ws r.1 r.2.1 r.2.2, w ∈ zt_good := by
  intro w hw
  obtain ⟨k, hk, rfl⟩ := List.mem_map.mp hw
  exact (zt_cl_ok hr).1 k (List.mem_range.mp hk)
theorem zx_get_ok (C : zx_Cx D dA B a b sc oc own ini cc nL p s m args meth c) (hS : zx_S D dA B a n0 z0 s h H locs cells slots) {i q : Nat} {v : Value} {rest : List Value} (hd : decode cc pc = .ok (.getfield i, 3)) (h1 : zx_getf oc i q h = some v)
    (k : W p l e R s m args below meth c H locs cells slots Q (F0 m (pc + 3) ls (zx_v a v :: rest))) : W p l e R s m args below meth c H locs cells slots Q (F0 m pc ls (.ref (a q) :: rest)) := by
  obtain ⟨hx, hb, hml, hown, hon, hts, hnw, hK, hini, ha, hab, hbB, hBs, hX, hK2, hH2⟩ := C
  unfold zx_getf at h1
  split at h1
  · next kd ci kk hh hpl =>
    split at h1
    · next cj fs hq =>
      split at h1
      · next hc =>
        obtain ⟨hkd, rfl⟩ := hc
        have he := zx_pool_ok hon hpl
        have hv : (fs.map (zx_v a))[kk]? = some (zx_v a v) := by simp [h1]
        rw [zx_S_q hS ha hq]
        match kd, hkd, he with
        | 0, _, he =>
          obtain ⟨r, ref, hr, hkN, hw, hsm⟩ := he
          exact va_get (C := r.1) (T := r.2.1) (N := r.2.2) hx hb hts (zx_uws hr) hown hK hS.1 q (zx_w_get hq) hr kk hkN (hts _ hw) (zx_same hts hsm) hv hd k
        | 1, _, he =>
          obtain ⟨r, host, hr, hkN, hw⟩ := he
          exact va_getN (C := r.1) (T := r.2.1) (N := r.2.2) hx hb hts (zx_uws hr) hown hK hS.1 q (zx_w_get hq) hr kk hkN (va_Nw.use rfl (hnw _ hw)) (fun _ h9 => h9) hv hd k
        | kd + 2, hkd, _ => exact absurd hkd (by omega)
      · cases h1
    · cases h1
  · cases h1
theorem zx_put_ok (C : zx_Cx D dA B a b sc oc own ini cc nL p s m args meth c) (hS : zx_S D dA B a n0 z0 s h H locs cells slots) {i q : Nat} {v : Value} {rest : List Value} {h' : zx_H} (hd : decode cc pc = .ok (.putfield i, 3)) (h1 : zx_putf oc i q ini v h = some h')
    (k : ∀ H' locs', zx_S D dA B a n0 z0 s h' H' locs' cells slots → W p l e R s m args below meth c H' locs' cells slots Q (F0 m (pc + 3) ls rest)) : W p l e R s m args below meth c H locs cells slots Q (F0 m pc ls (zx_v a v :: .ref (a q) :: rest)) := by
  obtain ⟨hx, hb, hml, hown, hon, hts, hnw, hK, hini, ha, hab, hbB, hBs, hX, hK2, hH2⟩ := C
  unfold zx_putf at h1
  split at h1
  · next kd ci kk hh hpl =>
    split at h1
    · next cj fs hq =>
      split at h1
      · next hc =>
        obtain ⟨rfl, hlt, hn, hf, hor⟩ := hc
        cases h1
        have he := zx_pool_ok hon hpl
        rw [zx_S_q hS ha hq]
        have hn' : narrow (zx_ftype cj kk) (zx_v a v) = zx_v a v := by
          cases v <;> first | exact hn | (cases (zx_ftype cj kk) <;> rfl)
        have hf' : fits (zx_ftype cj kk) (zx_v a v) = true := by
          cases v <;> first | exact hf | (revert hf; cases (zx_ftype cj kk) <;> exact id)
        have hset : ∀ H1 locs1, va_P D zt_cl ((zx_w dA B a h).set q (B + q, .inr (cj, (fs.map (zx_v a)).set kk (zx_v a v)))) H1 → va_S (fun q => B ≤ q) s.heap H1 locs1 → zx_S D dA B a n0 z0 s (h.set q (.inr (cj, fs.set kk v))) H1 locs1 cells slots := by
          intro H1 locs1 hP1 hV1
          refine zx_S_set (e1 := .inr (cj, fs.set kk v)) hS hq rfl ?_ hV1
          rw [← List.map_set] at hP1
          exact hP1
        rcases hor with ⟨hkd, hfin⟩ | ⟨rfl, hi0, hfin, rfl, how⟩
        · match kd, hkd, he with
          | 0, _, he =>
            obtain ⟨r, ref, hr, hkN, hw, hsm⟩ := he
            have hok := zt_cl_ok hr
            have hfin' : (r.2.1 kk).2.2.2 = false := by simpa [zx_fin, hr] using hfin
            exact va_put (C := r.1) (T := r.2.1) (N := r.2.2) hx hb hts (zx_uws hr) (fun k => (zt_fty.getD cj []).getD k .int) hok.2.1 hok.2.2.1 hown hK hS.1 zx_w_D hS.2.1 q (zx_w_get hq) hr kk hkN (hts _ hw) (zx_same hts hsm) hfin' (hok.2.1 kk hkN) hn' hf' (by simpa using hlt) hd (fun H1 locs1 hP1 _ hV1 => k H1 locs1 (hset H1 locs1 hP1 hV1))
          | 1, _, he =>
            obtain ⟨r, host, hr, hkN, hw⟩ := he
            have hok := zt_cl_ok hr
            have hfin' : (r.2.1 kk).2.2.2 = false := by simpa [zx_fin, hr] using hfin
            exact va_putN (C := r.1) (T := r.2.1) (N := r.2.2) hx hb hts (zx_uws hr) (fun k => (zt_fty.getD cj []).getD k .int) hok.2.1 hok.2.2.1 hown hK hS.1 zx_w_D hS.2.1 q (zx_w_get hq) hr kk hkN (va_Nw.use rfl (hnw _ hw)) (fun _ h9 => h9) hfin' (hok.2.1 kk hkN) hn' hf' (by simpa using hlt) hd (fun H1 locs1 hP1 _ hV1 => k H1 locs1 (hset H1 locs1 hP1 hV1))
          | kd + 2, hkd, _ => exact absurd hkd (by omega)
        · obtain ⟨r, ref, hr, hkN, hw, hsm⟩ := he
          have hok := zt_cl_ok hr
          have hfin' : (r.2.1 kk).2.2.2 = true := by simpa [zx_fin, hr] using hfin
          have how' : (r.2.1 kk).1 = own := by
            rw [hok.2.2.2.2.2 kk hkN how]
            exact zt_on_cl hon hr
          exact va_putF (C := r.1) (T := r.2.1) (N := r.2.2) hx hb hts (zx_uws hr) (fun k => (zt_fty.getD oc []).getD k .int) hok.2.1 hok.2.2.1 hown hK hS.1 zx_w_D hS.2.1 q (zx_w_get hq) hr kk hkN (hts _ hw) (zx_same hts hsm) hfin' (hini hi0) how' (hok.2.1 kk hkN) hn' hf' (by simpa using hlt) hd (fun H1 locs1 hP1 _ hV1 => k H1 locs1 (hset H1 locs1 hP1 hV1))
      · cases h1
    · cases h1
  · cases h1
end ZXH

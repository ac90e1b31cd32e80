/-! ===== each of them is the kit's row ===== -/
section ZXP
variable {p : Program} {l : Launch} {e : Env} {R : Room} {s : State} {m : MethodId} {args : Array Value} {below : List Frame} {meth : Method} {c : Code} {H : Heap} {locs : List Loc} {cells slots : Nat} {Q : State → Prop} {cc : ByteArray} {pc nL : Nat} {ls : Array Slot} {lv : List (Nat × Value)} {st : List Value} {a : Nat → Nat}
/-- the goal goes on at f -/
def zx_K (p : Program) (l : Launch) (e : Env) (R : Room) (s : State) (m : MethodId) (args : Array Value) (below : List Frame) (meth : Method) (c : Code) (H : Heap) (locs : List Loc) (cells slots : Nat) (Q : State → Prop) (nL : Nat) (a : Nat → Nat) (f : zx_F) : Prop :=
  ∀ ls' : Array Slot, lv_has ls' nL (zx_l a f.2.1) → W p l e R s m args below meth c H locs cells slots Q (F0 m f.1 ls' (zx_st a f.2.2))
theorem zx_ldin (hx : p.tables.exec = Jvm.exec) (hb : c.code = cc) {k : Fin 4} {f : zx_F} (hd : decode cc pc = .ok (.iload_n k, 1)) (hl : lv_has ls nL (zx_l a lv)) (h : zx_ld 0 k 1 pc lv st = some f) (hk : zx_K p l e R s m args below meth c H locs cells slots Q nL a f) : W p l e R s m args below meth c H locs cells slots Q (F0 m pc ls (zx_st a st)) := by
  unfold zx_ld at h
  split at h
  · next x e =>
    simp at h
    subst h
    exact lv_iload_n hx hb hd rfl (zx_lk_at hl e) (hk ls hl)
  · simp at h
  · simp at h
  · simp at h
  · simp at h
  · simp at h
  · cases h
theorem zx_ldiw (hx : p.tables.exec = Jvm.exec) (hb : c.code = cc) {k : Nat} {f : zx_F} (hd : decode cc pc = .ok (.iload k, 2)) (hl : lv_has ls nL (zx_l a lv)) (h : zx_ld 0 k 2 pc lv st = some f) (hk : zx_K p l e R s m args below meth c H locs cells slots Q nL a f) : W p l e R s m args below meth c H locs cells slots Q (F0 m pc ls (zx_st a st)) := by
  unfold zx_ld at h
  split at h
  · next x e =>
    simp at h
    subst h
    exact lv_iload hx hb hd (zx_lk_at hl e) (hk ls hl)
  · simp at h
  · simp at h
  · simp at h
  · simp at h
  · simp at h
  · cases h
theorem zx_ldln (hx : p.tables.exec = Jvm.exec) (hb : c.code = cc) {k : Fin 4} {f : zx_F} (hd : decode cc pc = .ok (.lload_n k, 1)) (hl : lv_has ls nL (zx_l a lv)) (h : zx_ld 1 k 1 pc lv st = some f) (hk : zx_K p l e R s m args below meth c H locs cells slots Q nL a f) : W p l e R s m args below meth c H locs cells slots Q (F0 m pc ls (zx_st a st)) := by
  unfold zx_ld at h
  split at h
  · simp at h
  · next x e =>
    simp at h
    subst h
    exact lv_lload_n hx hb hd rfl (zx_lk_at hl e) (hk ls hl)
  · simp at h
  · simp at h
  · simp at h
  · simp at h
  · cases h
theorem zx_ldlw (hx : p.tables.exec = Jvm.exec) (hb : c.code = cc) {k : Nat} {f : zx_F} (hd : decode cc pc = .ok (.lload k, 2)) (hl : lv_has ls nL (zx_l a lv)) (h : zx_ld 1 k 2 pc lv st = some f) (hk : zx_K p l e R s m args below meth c H locs cells slots Q nL a f) : W p l e R s m args below meth c H locs cells slots Q (F0 m pc ls (zx_st a st)) := by
  unfold zx_ld at h
  split at h
  · simp at h
  · next x e =>
    simp at h
    subst h
    exact lv_lload hx hb hd (zx_lk_at hl e) (hk ls hl)
  · simp at h
  · simp at h
  · simp at h
  · simp at h
  · cases h
theorem zx_ldfn (hx : p.tables.exec = Jvm.exec) (hb : c.code = cc) {k : Fin 4} {f : zx_F} (hd : decode cc pc = .ok (.fload_n k, 1)) (hl : lv_has ls nL (zx_l a lv)) (h : zx_ld 2 k 1 pc lv st = some f) (hk : zx_K p l e R s m args below meth c H locs cells slots Q nL a f) : W p l e R s m args below meth c H locs cells slots Q (F0 m pc ls (zx_st a st)) := by
  unfold zx_ld at h
  split at h
  · simp at h
  · simp at h
  · next x e =>
    simp at h
    subst h
    exact lv_fload_n hx hb hd rfl (zx_lk_at hl e) (hk ls hl)
  · simp at h
  · simp at h
  · simp at h
  · cases h
theorem zx_ldfw (hx : p.tables.exec = Jvm.exec) (hb : c.code = cc) {k : Nat} {f : zx_F} (hd : decode cc pc = .ok (.fload k, 2)) (hl : lv_has ls nL (zx_l a lv)) (h : zx_ld 2 k 2 pc lv st = some f) (hk : zx_K p l e R s m args below meth c H locs cells slots Q nL a f) : W p l e R s m args below meth c H locs cells slots Q (F0 m pc ls (zx_st a st)) := by
  unfold zx_ld at h
  split at h
  · simp at h
  · simp at h
  · next x e =>
    simp at h
    subst h
    exact lv_fload hx hb hd (zx_lk_at hl e) (hk ls hl)
  · simp at h
  · simp at h
  · simp at h
  · cases h
theorem zx_lddn (hx : p.tables.exec = Jvm.exec) (hb : c.code = cc) {k : Fin 4} {f : zx_F} (hd : decode cc pc = .ok (.dload_n k, 1)) (hl : lv_has ls nL (zx_l a lv)) (h : zx_ld 3 k 1 pc lv st = some f) (hk : zx_K p l e R s m args below meth c H locs cells slots Q nL a f) : W p l e R s m args below meth c H locs cells slots Q (F0 m pc ls (zx_st a st)) := by
  unfold zx_ld at h
  split at h
  · simp at h
  · simp at h
  · simp at h
  · next x e =>
    simp at h
    subst h
    exact lv_dload_n hx hb hd rfl (zx_lk_at hl e) (hk ls hl)
  · simp at h
  · simp at h
  · cases h
theorem zx_lddw (hx : p.tables.exec = Jvm.exec) (hb : c.code = cc) {k : Nat} {f : zx_F} (hd : decode cc pc = .ok (.dload k, 2)) (hl : lv_has ls nL (zx_l a lv)) (h : zx_ld 3 k 2 pc lv st = some f) (hk : zx_K p l e R s m args below meth c H locs cells slots Q nL a f) : W p l e R s m args below meth c H locs cells slots Q (F0 m pc ls (zx_st a st)) := by
  unfold zx_ld at h
  split at h
  · simp at h
  · simp at h
  · simp at h
  · next x e =>
    simp at h
    subst h
    exact lv_dload hx hb hd (zx_lk_at hl e) (hk ls hl)
  · simp at h
  · simp at h
  · cases h
theorem zx_ldan (hx : p.tables.exec = Jvm.exec) (hb : c.code = cc) {k : Fin 4} {f : zx_F} (hd : decode cc pc = .ok (.aload_n k, 1)) (hl : lv_has ls nL (zx_l a lv)) (h : zx_ld 4 k 1 pc lv st = some f) (hk : zx_K p l e R s m args below meth c H locs cells slots Q nL a f) : W p l e R s m args below meth c H locs cells slots Q (F0 m pc ls (zx_st a st)) := by
  unfold zx_ld at h
  split at h
  · simp at h
  · simp at h
  · simp at h
  · simp at h
  · next x e =>
    simp at h
    subst h
    exact lv_aload_n hx hb hd rfl (zx_lk_at hl e) (hk ls hl)
  · next e =>
    simp at h
    subst h
    exact lv_aload_nN hx hb hd rfl (zx_lk_at hl e) (hk ls hl)
  · cases h
theorem zx_ldaw (hx : p.tables.exec = Jvm.exec) (hb : c.code = cc) {k : Nat} {f : zx_F} (hd : decode cc pc = .ok (.aload k, 2)) (hl : lv_has ls nL (zx_l a lv)) (h : zx_ld 4 k 2 pc lv st = some f) (hk : zx_K p l e R s m args below meth c H locs cells slots Q nL a f) : W p l e R s m args below meth c H locs cells slots Q (F0 m pc ls (zx_st a st)) := by
  unfold zx_ld at h
  split at h
  · simp at h
  · simp at h
  · simp at h
  · simp at h
  · next x e =>
    simp at h
    subst h
    exact lv_aload hx hb hd (zx_lk_at hl e) (hk ls hl)
  · next e =>
    simp at h
    subst h
    exact lv_aloadN hx hb hd (zx_lk_at hl e) (hk ls hl)
  · cases h
theorem zx_svin (hx : p.tables.exec = Jvm.exec) (hb : c.code = cc) {k : Fin 4} {f : zx_F} (hd : decode cc pc = .ok (.istore_n k, 1)) (hl : lv_has ls nL (zx_l a lv)) (h : zx_sv 0 nL k 1 pc lv st = some f) (hk : zx_K p l e R s m args below meth c H locs cells slots Q nL a f) : W p l e R s m args below meth c H locs cells slots Q (F0 m pc ls (zx_st a st)) := by
  unfold zx_sv at h
  split at h
  · next x r =>
    split at h
    · next hi =>
      cases h
      exact lv_istore_n hx hb hd rfl hl hi.2 (zx_s1_map a _ (.int x) lv) (fun ls' h' => hk ls' h')
    · cases h
  · simp at h
  · simp at h
  · simp at h
  · simp at h
  · simp at h
  · cases h
theorem zx_sviw (hx : p.tables.exec = Jvm.exec) (hb : c.code = cc) {k : Nat} {f : zx_F} (hd : decode cc pc = .ok (.istore k, 2)) (hl : lv_has ls nL (zx_l a lv)) (h : zx_sv 0 nL k 2 pc lv st = some f) (hk : zx_K p l e R s m args below meth c H locs cells slots Q nL a f) : W p l e R s m args below meth c H locs cells slots Q (F0 m pc ls (zx_st a st)) := by
  unfold zx_sv at h
  split at h
  · next x r =>
    split at h
    · next hi =>
      cases h
      exact lv_istore hx hb hd hl hi.2 (zx_s1_map a _ (.int x) lv) (fun ls' h' => hk ls' h')
    · cases h
  · simp at h
  · simp at h
  · simp at h
  · simp at h
  · simp at h
  · cases h
theorem zx_svln (hx : p.tables.exec = Jvm.exec) (hb : c.code = cc) {k : Fin 4} {f : zx_F} (hd : decode cc pc = .ok (.lstore_n k, 1)) (hl : lv_has ls nL (zx_l a lv)) (h : zx_sv 1 nL k 1 pc lv st = some f) (hk : zx_K p l e R s m args below meth c H locs cells slots Q nL a f) : W p l e R s m args below meth c H locs cells slots Q (F0 m pc ls (zx_st a st)) := by
  unfold zx_sv at h
  split at h
  · simp at h
  · next x r =>
    split at h
    · next hi =>
      cases h
      exact lv_lstore_n hx hb hd rfl hl hi.2 (zx_s2_map a _ (.long x) lv) (fun ls' h' => hk ls' h')
    · cases h
  · simp at h
  · simp at h
  · simp at h
  · simp at h
  · cases h
theorem zx_svlw (hx : p.tables.exec = Jvm.exec) (hb : c.code = cc) {k : Nat} {f : zx_F} (hd : decode cc pc = .ok (.lstore k, 2)) (hl : lv_has ls nL (zx_l a lv)) (h : zx_sv 1 nL k 2 pc lv st = some f) (hk : zx_K p l e R s m args below meth c H locs cells slots Q nL a f) : W p l e R s m args below meth c H locs cells slots Q (F0 m pc ls (zx_st a st)) := by
  unfold zx_sv at h
  split at h
  · simp at h
  · next x r =>
    split at h
    · next hi =>
      cases h
      exact lv_lstore hx hb hd hl hi.2 (zx_s2_map a _ (.long x) lv) (fun ls' h' => hk ls' h')
    · cases h
  · simp at h
  · simp at h
  · simp at h
  · simp at h
  · cases h
theorem zx_svfn (hx : p.tables.exec = Jvm.exec) (hb : c.code = cc) {k : Fin 4} {f : zx_F} (hd : decode cc pc = .ok (.fstore_n k, 1)) (hl : lv_has ls nL (zx_l a lv)) (h : zx_sv 2 nL k 1 pc lv st = some f) (hk : zx_K p l e R s m args below meth c H locs cells slots Q nL a f) : W p l e R s m args below meth c H locs cells slots Q (F0 m pc ls (zx_st a st)) := by
  unfold zx_sv at h
  split at h
  · simp at h
  · simp at h
  · next x r =>
    split at h
    · next hi =>
      cases h
      exact lv_fstore_n hx hb hd rfl hl hi.2 (zx_s1_map a _ (.float x) lv) (fun ls' h' => hk ls' h')
    · cases h
  · simp at h
  · simp at h
  · simp at h
  · cases h
theorem zx_svfw (hx : p.tables.exec = Jvm.exec) (hb : c.code = cc) {k : Nat} {f : zx_F} (hd : decode cc pc = .ok (.fstore k, 2)) (hl : lv_has ls nL (zx_l a lv)) (h : zx_sv 2 nL k 2 pc lv st = some f) (hk : zx_K p l e R s m args below meth c H locs cells slots Q nL a f) : W p l e R s m args below meth c H locs cells slots Q (F0 m pc ls (zx_st a st)) := by
  unfold zx_sv at h
  split at h
  · simp at h
  · simp at h
  · next x r =>
    split at h
    · next hi =>
      cases h
      exact lv_fstore hx hb hd hl hi.2 (zx_s1_map a _ (.float x) lv) (fun ls' h' => hk ls' h')
    · cases h
  · simp at h
  · simp at h
  · simp at h
  · cases h
theorem zx_svdn (hx : p.tables.exec = Jvm.exec) (hb : c.code = cc) {k : Fin 4} {f : zx_F} (hd : decode cc pc = .ok (.dstore_n k, 1)) (hl : lv_has ls nL (zx_l a lv)) (h : zx_sv 3 nL k 1 pc lv st = some f) (hk : zx_K p l e R s m args below meth c H locs cells slots Q nL a f) : W p l e R s m args below meth c H locs cells slots Q (F0 m pc ls (zx_st a st)) := by
  unfold zx_sv at h
  split at h
  · simp at h
  · simp at h
  · simp at h
  · next x r =>
    split at h
    · next hi =>
      cases h
      exact lv_dstore_n hx hb hd rfl hl hi.2 (zx_s2_map a _ (.double x) lv) (fun ls' h' => hk ls' h')
    · cases h
  · simp at h
  · simp at h
  · cases h
theorem zx_svdw (hx : p.tables.exec = Jvm.exec) (hb : c.code = cc) {k : Nat} {f : zx_F} (hd : decode cc pc = .ok (.dstore k, 2)) (hl : lv_has ls nL (zx_l a lv)) (h : zx_sv 3 nL k 2 pc lv st = some f) (hk : zx_K p l e R s m args below meth c H locs cells slots Q nL a f) : W p l e R s m args below meth c H locs cells slots Q (F0 m pc ls (zx_st a st)) := by
  unfold zx_sv at h
  split at h
  · simp at h
  · simp at h
  · simp at h
  · next x r =>
    split at h
    · next hi =>
      cases h
      exact lv_dstore hx hb hd hl hi.2 (zx_s2_map a _ (.double x) lv) (fun ls' h' => hk ls' h')
    · cases h
  · simp at h
  · simp at h
  · cases h
theorem zx_svan (hx : p.tables.exec = Jvm.exec) (hb : c.code = cc) {k : Fin 4} {f : zx_F} (hd : decode cc pc = .ok (.astore_n k, 1)) (hl : lv_has ls nL (zx_l a lv)) (h : zx_sv 4 nL k 1 pc lv st = some f) (hk : zx_K p l e R s m args below meth c H locs cells slots Q nL a f) : W p l e R s m args below meth c H locs cells slots Q (F0 m pc ls (zx_st a st)) := by
  unfold zx_sv at h
  split at h
  · simp at h
  · simp at h
  · simp at h
  · simp at h
  · next x r =>
    split at h
    · next hi =>
      cases h
      exact lv_astore_n hx hb hd rfl hl hi.2 (zx_s1_map a _ (.ref x) lv) (fun ls' h' => hk ls' h')
    · cases h
  · next r =>
    split at h
    · next hi =>
      cases h
      exact lv_astore_nN hx hb hd rfl hl hi.2 (zx_s1_map a _ .null lv) (fun ls' h' => hk ls' h')
    · cases h
  · cases h
theorem zx_svaw (hx : p.tables.exec = Jvm.exec) (hb : c.code = cc) {k : Nat} {f : zx_F} (hd : decode cc pc = .ok (.astore k, 2)) (hl : lv_has ls nL (zx_l a lv)) (h : zx_sv 4 nL k 2 pc lv st = some f) (hk : zx_K p l e R s m args below meth c H locs cells slots Q nL a f) : W p l e R s m args below meth c H locs cells slots Q (F0 m pc ls (zx_st a st)) := by
  unfold zx_sv at h
  split at h
  · simp at h
  · simp at h
  · simp at h
  · simp at h
  · next x r =>
    split at h
    · next hi =>
      cases h
      exact lv_astore hx hb hd hl hi.2 (zx_s1_map a _ (.ref x) lv) (fun ls' h' => hk ls' h')
    · cases h
  · next r =>
    split at h
    · next hi =>
      cases h
      exact lv_astoreN hx hb hd hl hi.2 (zx_s1_map a _ .null lv) (fun ls' h' => hk ls' h')
    · cases h
  · cases h
theorem zx_br_get {b : Bool} {off : Int} {f : zx_F} (h : zx_br b pc off lv st = some f) : ∃ t : Nat, (pc : Int) + off = (t : Int) ∧ f = if b then (t, lv, st) else (pc + 3, lv, st) := by
  unfold zx_br at h
  split at h
  · next t ht =>
    refine ⟨t, zx_j_ok ht, ?_⟩
    cases b <;> simp at h ⊢ <;> exact h.symm
  · cases h
theorem zx_if_eq (hx : p.tables.exec = Jvm.exec) (hb : c.code = cc) {x : Int32} {off : Int} {f : zx_F} (hd : decode cc pc = .ok (.ifCond .eq off, 3)) (hl : lv_has ls nL (zx_l a lv)) (h : zx_br (decide (x = 0)) pc off lv st = some f) (hk : zx_K p l e R s m args below meth c H locs cells slots Q nL a f) : W p l e R s m args below meth c H locs cells slots Q (F0 m pc ls (.int x :: zx_st a st)) := by
  obtain ⟨t, ht, rfl⟩ := zx_br_get h
  refine lv_if_eq hx hb hd ht (fun hc => ?_) (fun hc => ?_)
  · have h1 := hk ls
    simp only [hc, decide_true, decide_false, if_true, if_false, not_true, not_false_eq_true, Bool.false_eq_true] at h1
    exact h1 hl
  · have h1 := hk ls
    simp only [hc, decide_true, decide_false, if_true, if_false, not_true, not_false_eq_true, Bool.false_eq_true] at h1
    exact h1 hl
theorem zx_if_ne (hx : p.tables.exec = Jvm.exec) (hb : c.code = cc) {x : Int32} {off : Int} {f : zx_F} (hd : decode cc pc = .ok (.ifCond .ne off, 3)) (hl : lv_has ls nL (zx_l a lv)) (h : zx_br (decide (¬ x = 0)) pc off lv st = some f) (hk : zx_K p l e R s m args below meth c H locs cells slots Q nL a f) : W p l e R s m args below meth c H locs cells slots Q (F0 m pc ls (.int x :: zx_st a st)) := by
  obtain ⟨t, ht, rfl⟩ := zx_br_get h
  refine lv_if_ne hx hb hd ht (fun hc => ?_) (fun hc => ?_)
  · have h1 := hk ls
    simp only [hc, decide_true, decide_false, if_true, if_false, not_true, not_false_eq_true, Bool.false_eq_true] at h1
    exact h1 hl
  · have h1 := hk ls
    simp only [hc, decide_true, decide_false, if_true, if_false, not_true, not_false_eq_true, Bool.false_eq_true] at h1
    exact h1 hl
theorem zx_if_lt (hx : p.tables.exec = Jvm.exec) (hb : c.code = cc) {x : Int32} {off : Int} {f : zx_F} (hd : decode cc pc = .ok (.ifCond .lt off, 3)) (hl : lv_has ls nL (zx_l a lv)) (h : zx_br (decide (x < 0)) pc off lv st = some f) (hk : zx_K p l e R s m args below meth c H locs cells slots Q nL a f) : W p l e R s m args below meth c H locs cells slots Q (F0 m pc ls (.int x :: zx_st a st)) := by
  obtain ⟨t, ht, rfl⟩ := zx_br_get h
  refine lv_if_lt hx hb hd ht (fun hc => ?_) (fun hc => ?_)
  · have h1 := hk ls
    simp only [hc, decide_true, decide_false, if_true, if_false, not_true, not_false_eq_true, Bool.false_eq_true] at h1
    exact h1 hl
  · have h1 := hk ls
    simp only [hc, decide_true, decide_false, if_true, if_false, not_true, not_false_eq_true, Bool.false_eq_true] at h1
    exact h1 hl
theorem zx_if_ge (hx : p.tables.exec = Jvm.exec) (hb : c.code = cc) {x : Int32} {off : Int} {f : zx_F} (hd : decode cc pc = .ok (.ifCond .ge off, 3)) (hl : lv_has ls nL (zx_l a lv)) (h : zx_br (decide (0 ≤ x)) pc off lv st = some f) (hk : zx_K p l e R s m args below meth c H locs cells slots Q nL a f) : W p l e R s m args below meth c H locs cells slots Q (F0 m pc ls (.int x :: zx_st a st)) := by
  obtain ⟨t, ht, rfl⟩ := zx_br_get h
  refine lv_if_ge hx hb hd ht (fun hc => ?_) (fun hc => ?_)
  · have h1 := hk ls
    simp only [hc, decide_true, decide_false, if_true, if_false, not_true, not_false_eq_true, Bool.false_eq_true] at h1
    exact h1 hl
  · have h1 := hk ls
    simp only [hc, decide_true, decide_false, if_true, if_false, not_true, not_false_eq_true, Bool.false_eq_true] at h1
    exact h1 hl
theorem zx_if_gt (hx : p.tables.exec = Jvm.exec) (hb : c.code = cc) {x : Int32} {off : Int} {f : zx_F} (hd : decode cc pc = .ok (.ifCond .gt off, 3)) (hl : lv_has ls nL (zx_l a lv)) (h : zx_br (decide (0 < x)) pc off lv st = some f) (hk : zx_K p l e R s m args below meth c H locs cells slots Q nL a f) : W p l e R s m args below meth c H locs cells slots Q (F0 m pc ls (.int x :: zx_st a st)) := by
  obtain ⟨t, ht, rfl⟩ := zx_br_get h
  refine lv_if_gt hx hb hd ht (fun hc => ?_) (fun hc => ?_)
  · have h1 := hk ls
    simp only [hc, decide_true, decide_false, if_true, if_false, not_true, not_false_eq_true, Bool.false_eq_true] at h1
    exact h1 hl
  · have h1 := hk ls
    simp only [hc, decide_true, decide_false, if_true, if_false, not_true, not_false_eq_true, Bool.false_eq_true] at h1
    exact h1 hl
theorem zx_if_le (hx : p.tables.exec = Jvm.exec) (hb : c.code = cc) {x : Int32} {off : Int} {f : zx_F} (hd : decode cc pc = .ok (.ifCond .le off, 3)) (hl : lv_has ls nL (zx_l a lv)) (h : zx_br (decide (x ≤ 0)) pc off lv st = some f) (hk : zx_K p l e R s m args below meth c H locs cells slots Q nL a f) : W p l e R s m args below meth c H locs cells slots Q (F0 m pc ls (.int x :: zx_st a st)) := by
  obtain ⟨t, ht, rfl⟩ := zx_br_get h
  refine lv_if_le hx hb hd ht (fun hc => ?_) (fun hc => ?_)
  · have h1 := hk ls
    simp only [hc, decide_true, decide_false, if_true, if_false, not_true, not_false_eq_true, Bool.false_eq_true] at h1
    exact h1 hl
  · have h1 := hk ls
    simp only [hc, decide_true, decide_false, if_true, if_false, not_true, not_false_eq_true, Bool.false_eq_true] at h1
    exact h1 hl
theorem zx_icmp_eq (hx : p.tables.exec = Jvm.exec) (hb : c.code = cc) {x y : Int32} {off : Int} {f : zx_F} (hd : decode cc pc = .ok (.if_icmp .eq off, 3)) (hl : lv_has ls nL (zx_l a lv)) (h : zx_br (decide (x = y)) pc off lv st = some f) (hk : zx_K p l e R s m args below meth c H locs cells slots Q nL a f) : W p l e R s m args below meth c H locs cells slots Q (F0 m pc ls (.int y :: .int x :: zx_st a st)) := by
  obtain ⟨t, ht, rfl⟩ := zx_br_get h
  refine lv_icmp_eq hx hb hd ht (fun hc => ?_) (fun hc => ?_)
  · have h1 := hk ls
    simp only [hc, decide_true, decide_false, if_true, if_false, not_true, not_false_eq_true, Bool.false_eq_true] at h1
    exact h1 hl
  · have h1 := hk ls
    simp only [hc, decide_true, decide_false, if_true, if_false, not_true, not_false_eq_true, Bool.false_eq_true] at h1
    exact h1 hl
theorem zx_icmp_ne (hx : p.tables.exec = Jvm.exec) (hb : c.code = cc) {x y : Int32} {off : Int} {f : zx_F} (hd : decode cc pc = .ok (.if_icmp .ne off, 3)) (hl : lv_has ls nL (zx_l a lv)) (h : zx_br (decide (¬ x = y)) pc off lv st = some f) (hk : zx_K p l e R s m args below meth c H locs cells slots Q nL a f) : W p l e R s m args below meth c H locs cells slots Q (F0 m pc ls (.int y :: .int x :: zx_st a st)) := by
  obtain ⟨t, ht, rfl⟩ := zx_br_get h
  refine lv_icmp_ne hx hb hd ht (fun hc => ?_) (fun hc => ?_)
  · have h1 := hk ls
    simp only [hc, decide_true, decide_false, if_true, if_false, not_true, not_false_eq_true, Bool.false_eq_true] at h1
    exact h1 hl
  · have h1 := hk ls
    simp only [hc, decide_true, decide_false, if_true, if_false, not_true, not_false_eq_true, Bool.false_eq_true] at h1
    exact h1 hl
theorem zx_icmp_lt (hx : p.tables.exec = Jvm.exec) (hb : c.code = cc) {x y : Int32} {off : Int} {f : zx_F} (hd : decode cc pc = .ok (.if_icmp .lt off, 3)) (hl : lv_has ls nL (zx_l a lv)) (h : zx_br (decide (x < y)) pc off lv st = some f) (hk : zx_K p l e R s m args below meth c H locs cells slots Q nL a f) : W p l e R s m args below meth c H locs cells slots Q (F0 m pc ls (.int y :: .int x :: zx_st a st)) := by
  obtain ⟨t, ht, rfl⟩ := zx_br_get h
  refine lv_icmp_lt hx hb hd ht (fun hc => ?_) (fun hc => ?_)
  · have h1 := hk ls
    simp only [hc, decide_true, decide_false, if_true, if_false, not_true, not_false_eq_true, Bool.false_eq_true] at h1
    exact h1 hl
  · have h1 := hk ls
    simp only [hc, decide_true, decide_false, if_true, if_false, not_true, not_false_eq_true, Bool.false_eq_true] at h1
    exact h1 hl
theorem zx_icmp_ge (hx : p.tables.exec = Jvm.exec) (hb : c.code = cc) {x y : Int32} {off : Int} {f : zx_F} (hd : decode cc pc = .ok (.if_icmp .ge off, 3)) (hl : lv_has ls nL (zx_l a lv)) (h : zx_br (decide (y ≤ x)) pc off lv st = some f) (hk : zx_K p l e R s m args below meth c H locs cells slots Q nL a f) : W p l e R s m args below meth c H locs cells slots Q (F0 m pc ls (.int y :: .int x :: zx_st a st)) := by
  obtain ⟨t, ht, rfl⟩ := zx_br_get h
  refine lv_icmp_ge hx hb hd ht (fun hc => ?_) (fun hc => ?_)
  · have h1 := hk ls
    simp only [hc, decide_true, decide_false, if_true, if_false, not_true, not_false_eq_true, Bool.false_eq_true] at h1
    exact h1 hl
  · have h1 := hk ls
    simp only [hc, decide_true, decide_false, if_true, if_false, not_true, not_false_eq_true, Bool.false_eq_true] at h1
    exact h1 hl
theorem zx_icmp_gt (hx : p.tables.exec = Jvm.exec) (hb : c.code = cc) {x y : Int32} {off : Int} {f : zx_F} (hd : decode cc pc = .ok (.if_icmp .gt off, 3)) (hl : lv_has ls nL (zx_l a lv)) (h : zx_br (decide (y < x)) pc off lv st = some f) (hk : zx_K p l e R s m args below meth c H locs cells slots Q nL a f) : W p l e R s m args below meth c H locs cells slots Q (F0 m pc ls (.int y :: .int x :: zx_st a st)) := by
  obtain ⟨t, ht, rfl⟩ := zx_br_get h
  refine lv_icmp_gt hx hb hd ht (fun hc => ?_) (fun hc => ?_)
  · have h1 := hk ls
    simp only [hc, decide_true, decide_false, if_true, if_false, not_true, not_false_eq_true, Bool.false_eq_true] at h1
    exact h1 hl
  · have h1 := hk ls
    simp only [hc, decide_true, decide_false, if_true, if_false, not_true, not_false_eq_true, Bool.false_eq_true] at h1
    exact h1 hl
theorem zx_icmp_le (hx : p.tables.exec = Jvm.exec) (hb : c.code = cc) {x y : Int32} {off : Int} {f : zx_F} (hd : decode cc pc = .ok (.if_icmp .le off, 3)) (hl : lv_has ls nL (zx_l a lv)) (h : zx_br (decide (x ≤ y)) pc off lv st = some f) (hk : zx_K p l e R s m args below meth c H locs cells slots Q nL a f) : W p l e R s m args below meth c H locs cells slots Q (F0 m pc ls (.int y :: .int x :: zx_st a st)) := by
  obtain ⟨t, ht, rfl⟩ := zx_br_get h
  refine lv_icmp_le hx hb hd ht (fun hc => ?_) (fun hc => ?_)
  · have h1 := hk ls
    simp only [hc, decide_true, decide_false, if_true, if_false, not_true, not_false_eq_true, Bool.false_eq_true] at h1
    exact h1 hl
  · have h1 := hk ls
    simp only [hc, decide_true, decide_false, if_true, if_false, not_true, not_false_eq_true, Bool.false_eq_true] at h1
    exact h1 hl
set_option maxHeartbeats 4000000 in
theorem zx_p_ok (hx : p.tables.exec = Jvm.exec) (hb : c.code = cc) {ins : Instr} {n : Nat} {f : zx_F} (hd : decode cc pc = .ok (ins, n)) (hl : lv_has ls nL (zx_l a lv)) (h : zx_p nL pc lv st ins n = some f) (hk : zx_K p l e R s m args below meth c H locs cells slots Q nL a f) : W p l e R s m args below meth c H locs cells slots Q (F0 m pc ls (zx_st a st)) := by
  unfold zx_p at h
  split at h
  · cases h; exact lv_iconst hx hb hd rfl (hk ls hl)
  · cases h; exact lv_bipush hx hb hd rfl (hk ls hl)
  · cases h; exact lv_sipush hx hb hd rfl (hk ls hl)
  · cases h; exact lv_lconst hx hb hd rfl (hk ls hl)
  · cases h; exact lv_null hx hb hd (hk ls hl)
  · next q =>
    split at h
    · next hq =>
      cases h
      have hq0 : q = 0 := Fin.ext hq
      subst hq0
      exact lv_fconst0 hx hb hd (hk ls hl)
    · cases h
  · next q =>
    split at h
    · next hq =>
      cases h
      have hq0 : q = 0 := Fin.ext hq
      subst hq0
      exact lv_dconst0 hx hb hd (hk ls hl)
    · cases h
  · exact zx_ldin hx hb hd hl h hk
  · exact zx_ldln hx hb hd hl h hk
  · exact zx_ldfn hx hb hd hl h hk
  · exact zx_lddn hx hb hd hl h hk
  · exact zx_ldan hx hb hd hl h hk
  · exact zx_ldiw hx hb hd hl h hk
  · exact zx_ldlw hx hb hd hl h hk
  · exact zx_ldfw hx hb hd hl h hk
  · exact zx_lddw hx hb hd hl h hk
  · exact zx_ldaw hx hb hd hl h hk
  · exact zx_svin hx hb hd hl h hk
  · exact zx_svln hx hb hd hl h hk
  · exact zx_svfn hx hb hd hl h hk
  · exact zx_svdn hx hb hd hl h hk
  · exact zx_svan hx hb hd hl h hk
  · exact zx_sviw hx hb hd hl h hk
  · exact zx_svlw hx hb hd hl h hk
  · exact zx_svfw hx hb hd hl h hk
  · exact zx_svdw hx hb hd hl h hk
  · exact zx_svaw hx hb hd hl h hk
  · next i q =>
    split at h
    · next x e =>
      split at h
      · next hi =>
        cases h
        obtain ⟨k9, hk9⟩ := List.mem_iff_getElem?.mp (show (i, Value.int x) ∈ zx_l a lv from List.mem_map.mpr ⟨(i, .int x), zx_lk_mem e, rfl⟩)
        exact lv_iinc hx hb hd hl hk9 rfl hi (zx_s1_map a i (.int (x + Int32.ofInt q)) lv) (fun ls' h' => hk ls' h')
      · cases h
    · cases h
  · simp only [Option.map_eq_some_iff] at h
    obtain ⟨t, ht, rfl⟩ := h
    exact lv_goto hx hb hd (zx_j_ok ht) (hk ls hl)
  · split at h
    · split at h
      · exact zx_if_eq hx hb hd hl h hk
      · exact zx_if_ne hx hb hd hl h hk
      · exact zx_if_lt hx hb hd hl h hk
      · exact zx_if_ge hx hb hd hl h hk
      · exact zx_if_gt hx hb hd hl h hk
      · exact zx_if_le hx hb hd hl h hk
    · cases h
  · split at h
    · split at h
      · exact zx_icmp_eq hx hb hd hl h hk
      · exact zx_icmp_ne hx hb hd hl h hk
      · exact zx_icmp_lt hx hb hd hl h hk
      · exact zx_icmp_ge hx hb hd hl h hk
      · exact zx_icmp_gt hx hb hd hl h hk
      · exact zx_icmp_le hx hb hd hl h hk
    · cases h
  · split at h
    · obtain ⟨t, ht, rfl⟩ := zx_br_get h
      exact lv_ifnullN hx hb hd ht (hk ls hl)
    · obtain ⟨t, ht, rfl⟩ := zx_br_get h
      exact lv_ifnull hx hb hd (hk ls hl)
    · cases h
  · split at h
    · obtain ⟨t, ht, rfl⟩ := zx_br_get h
      exact lv_ifnonnullN hx hb hd (hk ls hl)
    · obtain ⟨t, ht, rfl⟩ := zx_br_get h
      exact lv_ifnonnull hx hb hd ht (hk ls hl)
    · cases h
  · split at h
    · cases h; exact lv_iadd hx hb hd (hk ls hl)
    · cases h
  · split at h
    · cases h; exact lv_isub hx hb hd (hk ls hl)
    · cases h
  · split at h
    · cases h; exact lv_imul hx hb hd (hk ls hl)
    · cases h
  · split at h
    · cases h; exact lv_iand hx hb hd (hk ls hl)
    · cases h
  · split at h
    · cases h; exact lv_ior hx hb hd (hk ls hl)
    · cases h
  · split at h
    · cases h; exact lv_ixor hx hb hd (hk ls hl)
    · cases h
  · split at h
    · cases h; exact lv_ishl hx hb hd (hk ls hl)
    · cases h
  · split at h
    · cases h; exact lv_ishr hx hb hd (hk ls hl)
    · cases h
  · split at h
    · cases h; exact lv_iushr hx hb hd rfl (hk ls hl)
    · cases h
  · split at h
    · split at h
      · cases h
      · next hne => cases h; exact lv_idiv hx hb hd hne (hk ls hl)
    · cases h
  · split at h
    · split at h
      · cases h
      · next hne => cases h; exact lv_irem hx hb hd hne (hk ls hl)
    · cases h
  · split at h
    · cases h; exact lv_ineg hx hb hd (hk ls hl)
    · cases h
  · split at h
    · cases h; exact lv_ladd hx hb hd (hk ls hl)
    · cases h
  · split at h
    · cases h; exact lv_lsub hx hb hd (hk ls hl)
    · cases h
  · split at h
    · cases h; exact lv_lmul hx hb hd (hk ls hl)
    · cases h
  · split at h
    · cases h; exact lv_land hx hb hd (hk ls hl)
    · cases h
  · split at h
    · cases h; exact lv_lor hx hb hd (hk ls hl)
    · cases h
  · split at h
    · cases h; exact lv_lxor hx hb hd (hk ls hl)
    · cases h
  · split at h
    · split at h
      · cases h
      · next hne => cases h; exact lv_ldiv hx hb hd hne (hk ls hl)
    · cases h
  · split at h
    · split at h
      · cases h
      · next hne => cases h; exact lv_lrem hx hb hd hne (hk ls hl)
    · cases h
  · split at h
    · cases h; exact lv_lneg hx hb hd (hk ls hl)
    · cases h
  · split at h
    · cases h; exact lv_lshl hx hb hd rfl (hk ls hl)
    · cases h
  · split at h
    · cases h; exact lv_lshr hx hb hd rfl (hk ls hl)
    · cases h
  · split at h
    · cases h; exact lv_lushr hx hb hd rfl (hk ls hl)
    · cases h
  · split at h
    · cases h; exact W.lcmp hx hb hd (hk ls hl)
    · cases h
  · split at h
    · cases h; exact lv_i2l hx hb hd rfl (hk ls hl)
    · cases h
  · split at h
    · cases h; exact lv_l2i hx hb hd rfl (hk ls hl)
    · cases h
  · split at h
    · cases h; exact lv_i2b hx hb hd rfl (hk ls hl)
    · cases h
  · split at h
    · cases h; exact lv_i2s hx hb hd rfl (hk ls hl)
    · cases h
  · split at h
    · cases h; exact lv_i2c hx hb hd rfl (hk ls hl)
    · cases h
  · split at h
    · cases h; exact lv_i2f hx hb hd (hk ls hl)
    · cases h
  · split at h
    · cases h; exact lv_i2d hx hb hd (hk ls hl)
    · cases h
  · split at h
    · cases h; exact lv_l2d hx hb hd (hk ls hl)
    · cases h
  · split at h
    · split at h
      · next hne => cases h; exact lv_fdiv hx hb hd hne (hk ls hl)
      · cases h
    · cases h
  · split at h
    · split at h
      · next hne => cases h; exact lv_ddiv hx hb hd hne (hk ls hl)
      · cases h
    · cases h
  · split at h
    · split at h
      · next hne => cases h; exact lv_f2d hx hb hd hne (hk ls hl)
      · cases h
    · cases h
  · split at h
    · cases h; exact lv_fcmp hx hb hd (hk ls hl)
    · cases h
  · split at h
    · cases h; exact lv_dcmp hx hb hd (hk ls hl)
    · cases h
  · split at h
    · split at h
      · next hne => cases h; exact lv_dup hx hb hd (by rw [zx_cat]; exact hne) (hk ls hl)
      · cases h
    · cases h
  · split at h
    · split at h
      · next hne => cases h; exact lv_pop hx hb hd (by rw [zx_cat]; exact hne) (hk ls hl)
      · cases h
    · cases h
  · split at h
    · split at h
      · next hne => cases h; exact lv_dup_x1 hx hb hd (by rw [zx_cat]; exact hne.1) (by rw [zx_cat]; exact hne.2) (hk ls hl)
      · cases h
    · cases h
  · split at h
    · split at h
      · next hne => cases h; exact lv_dup2_11 hx hb hd (by rw [zx_cat]; exact hne.1) (by rw [zx_cat]; exact hne.2) (hk ls hl)
      · cases h
    · cases h
  · split at h
    · split at h
      · next ho =>
        simp only [Option.map_eq_some_iff] at h
        obtain ⟨t, ht, rfl⟩ := h
        exact lv_tableOut hx hb hd ho (zx_j_ok ht) (hk ls hl)
      · next ho =>
        split at h
        · next off hof =>
          simp only [Option.map_eq_some_iff] at h
          obtain ⟨t, ht, rfl⟩ := h
          exact lv_tableIn hx hb hd (fun q => ho (Or.inl q)) (fun q => ho (Or.inr q)) hof (zx_j_ok ht) (hk ls hl)
        · cases h
    · cases h
  · split at h
    · split at h
      · next ho =>
        simp only [Option.map_eq_some_iff] at h
        obtain ⟨t, ht, rfl⟩ := h
        exact lv_lookup hx hb hd ho rfl (zx_j_ok ht) (hk ls hl)
      · cases h
    · cases h
  · cases h
end ZXP

/-! ===== a table copied, and changed ===== -/
section ZCP
variable {h : zx_H} {q p : Nat} {T : zT}
theorem zh_set_r {h g : zx_H} {q : Nat} {c c' : zx_E} (e : h[q]? = some c) (hg : h.set q c' = g) : g[q]? = some c' := by rw [← hg]; exact zh_set_s e
theorem zh_set_k {h g : zx_H} {q j : Nat} {c x : zx_E} (hg : h.set q c = g) (hn : q ≠ j) (e : h[j]? = some x) : g[j]? = some x := by rw [← hg, zh_set_n hn]; exact e
/-- any sheet -/
def zSh (h : zx_H) (q : Nat) : Prop := (∃ K X O nc nr ch, SH h q K X O nc nr ch) ∧ q + 4 ≤ 600
theorem TS.sh (S : TS h q T) : zSh h q := by
  obtain ⟨⟨K, X, O, H, _⟩, hq⟩ := S
  exact ⟨⟨K, X, O, _, _, _, H⟩, hq⟩
theorem zh_cpyI {q0 q1 n0 n1 n : Nat} {f g : Nat → Int32} (e0 : h[q0]? = some (.inl (1, n0, .inl f))) (e1 : h[q1]? = some (.inl (1, n1, .inl g))) (h0 : n ≤ n0) (h1 : n ≤ n1) (hn : n < 2 ^ 31) : zf_cpy q0 0 q1 0 (nI n) h = some (h.set q1 (.inl (1, n1, .inl (va_cpy f g 0 0 n)))) := by
  unfold zf_cpy
  rw [e0, e1]
  show (if _ then _ else _) = _
  have hc := nI_clamp hn
  have z : ((0 : Int32)).toNatClampNeg = 0 := rfl
  rw [if_pos]
  · rw [hc, z]
  · exact ⟨rfl, Or.inl rfl, by decide, by decide, nI_pos hn, by rw [hc, z]; omega, by rw [hc, z]; omega⟩
theorem zh_cpyJ {q0 q1 n0 n1 n : Nat} {f g : Nat → Int64} (e0 : h[q0]? = some (.inl (2, n0, .inr (.inl f)))) (e1 : h[q1]? = some (.inl (2, n1, .inr (.inl g)))) (h0 : n ≤ n0) (h1 : n ≤ n1) (hn : n < 2 ^ 31) : zf_cpy q0 0 q1 0 (nI n) h = some (h.set q1 (.inl (2, n1, .inr (.inl (va_cpy f g 0 0 n))))) := by
  unfold zf_cpy
  rw [e0, e1]
  show (if _ then _ else _) = _
  have hc := nI_clamp hn
  have z : ((0 : Int32)).toNatClampNeg = 0 := rfl
  rw [if_pos]
  · rw [hc, z]
  · exact ⟨rfl, rfl, by decide, by decide, nI_pos hn, by rw [hc, z]; omega, by rw [hc, z]; omega⟩
theorem zU_w {a n a' n' : Nat} {h g : zx_H} (x : zU a n h g) (ha : a' ≤ a) (hb : a + n ≤ a' + n') : zU a' n' h g := ⟨x.1, x.2.1, fun j hj => x.2.2 j (by omega)⟩
theorem SH.copy {K K' : Nat → Int32} {X X' : Nat → Int64} {O O' : Nat → Int32} {nc nr nc' nr' : Nat} {ch ch' : Int64} (H : SH h q K X O nc nr ch) (H' : SH h p K' X' O' nc' nr' ch') (hd : p + 4 ≤ q ∨ q + 4 ≤ p ∨ p = q) : ∃ g, f_Sheet_copyFrom p q h = some ((), g) ∧ (∃ K2 X2 O2, SH g p K2 X2 O2 nc nr ch ∧ (∀ i, i < 4 → K2 i = K i) ∧ (∀ i, i < 160 → X2 i = X i) ∧ ∀ i, i < 40 → O2 i = O i) ∧ zU p 4 h g := by
  -- the three arrays
  have r1 := zh_cpyI (n := 4) H.k H'.k (by omega) (by omega) (by decide)
  generalize hh1 : h.set (p + 1) (.inl (1, 4, .inl (va_cpy K K' 0 0 4))) = h1 at r1
  have f1 : ∀ j, j ≠ p + 1 → h1[j]? = h[j]? := fun j hj => by rw [← hh1]; exact zh_set_n (Ne.symm hj)
  have s1 := zh_set_r H'.k hh1
  have u1 : zU p 4 h h1 := by rw [← hh1]; exact zU_s H'.k rfl (by omega)
  have c1 : h1[q]? = _ := (f1 q (by omega)).trans H.c
  have c1' : h1[p]? = _ := (f1 p (by omega)).trans H'.c
  have r2 := zh_cpyJ (n := 160) (h := h1) ((f1 (q + 2) (by omega)).trans H.x) ((f1 (p + 2) (by omega)).trans H'.x) (by omega) (by omega) (by decide)
  generalize hh2 : h1.set (p + 2) (.inl (2, 160, .inr (.inl (va_cpy X X' 0 0 160)))) = h2 at r2
  have f2 : ∀ j, j ≠ p + 2 → h2[j]? = h1[j]? := fun j hj => by rw [← hh2]; exact zh_set_n (Ne.symm hj)
  have x1 : h1[p + 2]? = _ := (f1 (p + 2) (by omega)).trans H'.x
  have s2 := zh_set_r x1 hh2
  have u2 : zU p 4 h1 h2 := by rw [← hh2]; exact zU_s x1 rfl (by omega)
  have c2 : h2[q]? = _ := (f2 q (by omega)).trans c1
  have c2' : h2[p]? = _ := (f2 p (by omega)).trans c1'
  have o2 : h2[p + 3]? = _ := (f2 (p + 3) (by omega)).trans ((f1 (p + 3) (by omega)).trans H'.o)
  have r3 := zh_cpyI (n := 40) (h := h2) ((f2 (q + 3) (by omega)).trans ((f1 (q + 3) (by omega)).trans H.o)) o2 (by omega) (by omega) (by decide)
  generalize hh3 : h2.set (p + 3) (.inl (1, 40, .inl (va_cpy O O' 0 0 40))) = h3 at r3
  have f3 : ∀ j, j ≠ p + 3 → h3[j]? = h2[j]? := fun j hj => by rw [← hh3]; exact zh_set_n (Ne.symm hj)
  have s3 := zh_set_r o2 hh3
  have u3 : zU p 4 h2 h3 := by rw [← hh3]; exact zU_s o2 rfl (by omega)
  have c3 : h3[q]? = _ := (f3 q (by omega)).trans c2
  have c3' : h3[p]? = _ := (f3 p (by omega)).trans c2'
  -- the three fields
  have r4 := zh_put (k := 3) (v := .int (nI nc)) c3' (by show _ < 6; decide)
  generalize hh4 : h3.set p (.inr (10, [.ref (p + 1), .ref (p + 2), .ref (p + 3), .int (nI nc), .int (nI nr'), .long ch'])) = h4
  have r4 : zf_put 10 3 p (.int (nI nc)) h3 = some h4 := r4.trans (congrArg some hh4)
  have f4 : ∀ j, j ≠ p → h4[j]? = h3[j]? := fun j hj => by rw [← hh4]; exact zh_set_n (Ne.symm hj)
  have s4 := zh_set_r c3' hh4
  have u4 : zU p 4 h3 h4 := by rw [← hh4]; exact zU_s c3' rfl (by omega)
  have i4 : zf_I 10 4 q h4 = some (nI nr) := by
    rcases Nat.decEq p q with e | e
    · exact zh_I ((f4 q (Ne.symm e)).trans c3) rfl
    · subst e
      have e9 := c3.symm.trans c3'
      injection e9 with e9; injection e9 with e9; injection e9 with _ e9; injection e9 with _ e9; injection e9 with _ e9; injection e9 with _ e9; injection e9 with _ e9; injection e9 with e9 _; injection e9 with e9
      rw [e9]
      exact zh_I s4 rfl
  have r5 := zh_put (k := 4) (v := .int (nI nr)) s4 (by show _ < 6; decide)
  generalize hh5 : h4.set p (.inr (10, [.ref (p + 1), .ref (p + 2), .ref (p + 3), .int (nI nc), .int (nI nr), .long ch'])) = h5
  have r5 : zf_put 10 4 p (.int (nI nr)) h4 = some h5 := r5.trans (congrArg some hh5)
  have f5 : ∀ j, j ≠ p → h5[j]? = h4[j]? := fun j hj => by rw [← hh5]; exact zh_set_n (Ne.symm hj)
  have s5 := zh_set_r s4 hh5
  have u5 : zU p 4 h4 h5 := by rw [← hh5]; exact zU_s s4 rfl (by omega)
  have i5 : zf_J 10 5 q h5 = some ch := by
    rcases Nat.decEq p q with e | e
    · exact zh_J ((f5 q (Ne.symm e)).trans ((f4 q (Ne.symm e)).trans c3)) rfl
    · subst e
      have e9 := c3.symm.trans c3'
      injection e9 with e9; injection e9 with e9; injection e9 with _ e9; injection e9 with _ e9; injection e9 with _ e9; injection e9 with _ e9; injection e9 with _ e9; injection e9 with _ e9; injection e9 with e9 _; injection e9 with e9
      rw [e9]
      exact zh_J s5 rfl
  have r6 := zh_put (k := 5) (v := .long ch) s5 (by show _ < 6; decide)
  generalize hh6 : h5.set p (.inr (10, [.ref (p + 1), .ref (p + 2), .ref (p + 3), .int (nI nc), .int (nI nr), .long ch])) = h6
  have r6 : zf_put 10 5 p (.long ch) h5 = some h6 := r6.trans (congrArg some hh6)
  have f6 : ∀ j, j ≠ p → h6[j]? = h5[j]? := fun j hj => by rw [← hh6]; exact zh_set_n (Ne.symm hj)
  have s6 := zh_set_r s5 hh6
  have u6 : zU p 4 h5 h6 := by rw [← hh6]; exact zU_s s5 rfl (by omega)
  refine ⟨h6, ?_, ⟨va_cpy K K' 0 0 4, va_cpy X X' 0 0 160, va_cpy O O' 0 0 40, ⟨s6, ?_, ?_, ?_, H.nc4, H.nr40⟩, ?_, ?_, ?_⟩, zU_t u1 (zU_t u2 (zU_t u3 (zU_t u4 (zU_t u5 u6))))⟩
  · unfold f_Sheet_copyFrom
    rw [show (4 : Int32) = nI 4 from rfl, show (160 : Int32) = nI 160 from rfl, show (40 : Int32) = nI 40 from rfl]
    rw [ze_b (zh_A H.c rfl), ze_b (zh_A H'.c rfl), ze_b r1, ze_b (zh_A c1 rfl), ze_b (zh_A c1' rfl), ze_b r2, ze_b (zh_A c2 rfl), ze_b (zh_A c2' rfl), ze_b r3, ze_b (zh_I c3 rfl), ze_b r4, ze_b i4, ze_b r5, ze_b i5, ze_b r6]
  · rw [f6 _ (by omega), f5 _ (by omega), f4 _ (by omega), f3 _ (by omega), f2 _ (by omega)]; exact s1
  · rw [f6 _ (by omega), f5 _ (by omega), f4 _ (by omega), f3 _ (by omega)]; exact s2
  · rw [f6 _ (by omega), f5 _ (by omega), f4 _ (by omega)]; exact s3
  · intro i hi; rw [pk_cpy_in (Nat.zero_le _) (by omega)]; congr 1; omega
  · intro i hi; rw [pk_cpy_in (Nat.zero_le _) (by omega)]; congr 1; omega
  · intro i hi; rw [pk_cpy_in (Nat.zero_le _) (by omega)]; congr 1; omega
theorem TS.copy (S : TS h q T) (S' : zSh h p) (hd : p + 4 ≤ q ∨ q + 4 ≤ p ∨ p = q) : ∃ g, f_Sheet_copyFrom p q h = some ((), g) ∧ TS g p T ∧ zU p 4 h g := by
  have h4 := S.c4
  have h40 := S.r40
  obtain ⟨⟨K, X, O, H, hK, hX, hO⟩, hq⟩ := S
  obtain ⟨⟨K', X', O', nc', nr', ch', H'⟩, hp⟩ := S'
  obtain ⟨g, e, ⟨K2, X2, O2, H2, a1, a2, a3⟩, hU⟩ := H.copy H' hd
  exact ⟨g, e, ⟨⟨K2, X2, O2, H2, fun c hc => (a1 c (by omega)).trans (hK c hc), fun c r hc hr => (a2 _ (by omega)).trans (hX c r hc hr), fun i hi => (a3 i (by omega)).trans (hO i hi)⟩, hp⟩, hU⟩
theorem TS.U {g : zx_H} {a n : Nat} (S : TS h q T) (x : zU a n h g) (hd : q + 4 ≤ a ∨ a + n ≤ q) : TS g q T := by
  obtain ⟨⟨K, X, O, H, hr⟩, hq⟩ := S
  refine ⟨⟨K, X, O, ⟨?_, ?_, ?_, ?_, H.nc4, H.nr40⟩, hr⟩, hq⟩
  · rw [x.2.2 _ (by omega)]; exact H.c
  · rw [x.2.2 _ (by omega)]; exact H.k
  · rw [x.2.2 _ (by omega)]; exact H.x
  · rw [x.2.2 _ (by omega)]; exact H.o
theorem zSh.U {g : zx_H} {a n : Nat} (S : zSh h q) (x : zU a n h g) (hd : q + 4 ≤ a ∨ a + n ≤ q) : zSh g q := by
  obtain ⟨⟨K, X, O, nc, nr, ch, H⟩, hq⟩ := S
  refine ⟨⟨K, X, O, nc, nr, ch, ⟨?_, ?_, ?_, ?_, H.nc4, H.nr40⟩⟩, hq⟩
  · rw [x.2.2 _ (by omega)]; exact H.c
  · rw [x.2.2 _ (by omega)]; exact H.k
  · rw [x.2.2 _ (by omega)]; exact H.x
  · rw [x.2.2 _ (by omega)]; exact H.o
theorem TS.G {g : zx_H} {k a b : Nat} (S : TS h q T) (x : zG k a b h g) (hd : q + 4 ≤ a ∨ b ≤ q) : TS g q T := by
  obtain ⟨⟨K, X, O, H, hr⟩, hq⟩ := S
  exact ⟨⟨K, X, O, ⟨x.gt H.c (by omega), x.gt H.k (by omega), x.gt H.x (by omega), x.gt H.o (by omega), H.nc4, H.nr40⟩, hr⟩, hq⟩
theorem zSh.G {g : zx_H} {k a b : Nat} (S : zSh h q) (x : zG k a b h g) (hd : q + 4 ≤ a ∨ b ≤ q) : zSh g q := by
  obtain ⟨⟨K, X, O, nc, nr, ch, H⟩, hq⟩ := S
  exact ⟨⟨K, X, O, nc, nr, ch, ⟨x.gt H.c (by omega), x.gt H.k (by omega), x.gt H.x (by omega), x.gt H.o (by omega), H.nc4, H.nr40⟩⟩, hq⟩
/-! one key -/
def zPut (T : zT) (c r : Nat) (k : Int64) : zT := zMk T.nc T.nr T.kd (fun c' r' => if c' = c ∧ r' = r then k else T.ky c' r') T.od T.ch
theorem TS.putKey (S : TS h q T) {c r : Nat} (hc : c < T.nc) (hr : r < T.nr) (k : Int64) : ∃ g, f_Sheet_putKey q (nI c) (nI r) k h = some ((), g) ∧ TS g q (zPut T c r k) ∧ zU q 4 h g := by
  have h4 := S.c4
  have h40 := S.r40
  obtain ⟨⟨K, X, O, H, hK, hX, hO⟩, hq⟩ := S
  obtain ⟨g, e, eg, H2⟩ := zS_putKey H hc hr k
  refine ⟨g, e, ⟨⟨K, _, O, H2, hK, fun c' r' hc' hr' => ?_, hO⟩, hq⟩, ?_⟩
  · have hc' : c' < T.nc := hc'
    have hr' : r' < T.nr := hr'
    show _ = if c' = c ∧ r' = r then k else T.ky c' r'
    by_cases e1 : c' = c ∧ r' = r
    · rw [if_pos e1, e1.1, e1.2, pk_uLs]
    · rw [if_neg e1, pk_uLn (by omega)]
      exact hX c' r' hc' hr'
  · rw [eg]; exact zU_s H.x rfl (by omega)
theorem zWF.put {T : zT} (w : zWF T) {c r : Nat} {k : Int64} (hk : zokK (T.kd c) k) : zWF (zPut T c r k) := by
  refine ⟨w.c4, w.r40, fun c' hc' => w.k1 hc', fun c' r' hc' hr' => ?_, w.p⟩
  show zokK (T.kd c') (if c' = c ∧ r' = r then k else T.ky c' r')
  by_cases e1 : c' = c ∧ r' = r
  · rw [if_pos e1, e1.1]; exact hk
  · rw [if_neg e1]; exact w.k hc' hr'
/-! a column more -/
def zCol (T : zT) (kd : Nat) : zT := zMk (T.nc + 1) T.nr (fun c => if c = T.nc then kd else T.kd c) (fun c r => if c = T.nc then -9000000000 else T.ky c r) T.od T.ch
theorem TS.col (S : TS h q T) (hc : T.nc < 4) (kd : Nat) : ∃ g, f_Sheet_appendColumn q (nI kd) h = some (nI T.nc, g) ∧ TS g q (zCol T kd) ∧ zU q 4 h g := by
  have h40 := S.r40
  obtain ⟨⟨K, X, O, H, hK, hX, hO⟩, hq⟩ := S
  obtain ⟨g, X', e, H2, hX', hU⟩ := zS_appendColumn H hc (nI kd)
  refine ⟨g, e, ⟨⟨_, X', O, H2, fun c hc' => ?_, fun c r hc' hr' => ?_, hO⟩, hq⟩, hU⟩
  · show _ = nI (if c = T.nc then kd else T.kd c)
    have hc' : c < T.nc + 1 := hc'
    by_cases e1 : c = T.nc
    · rw [if_pos e1, e1, pk_us]
    · rw [if_neg e1, pk_un e1]
      exact hK c (by omega)
  · have hc' : c < T.nc + 1 := hc'
    have hr' : r < T.nr := hr'
    show _ = if c = T.nc then -9000000000 else T.ky c r
    rw [hX']
    by_cases e1 : c = T.nc
    · rw [if_pos e1, if_pos (by omega)]
    · rw [if_neg e1, if_neg (by omega)]
      exact hX c r (by omega) hr'
theorem zWF.col {T : zT} (w : zWF T) (hc : T.nc < 4) {kd : Nat} (hk : kd ≤ 1) : zWF (zCol T kd) := by
  refine ⟨hc, w.r40, fun c' hc' => ?_, fun c' r' hc' hr' => ?_, w.p⟩
  · have hc' : c' < T.nc + 1 := hc'
    show (if c' = T.nc then kd else T.kd c') ≤ 1
    by_cases e : c' = T.nc
    · rw [if_pos e]; exact hk
    · rw [if_neg e]; exact w.k1 (by omega)
  · have hc' : c' < T.nc + 1 := hc'
    show zokK (if c' = T.nc then kd else T.kd c') (if c' = T.nc then -9000000000 else T.ky c' r')
    by_cases e : c' = T.nc
    · rw [if_pos e, if_pos e]; exact Or.inl rfl
    · rw [if_neg e, if_neg e]; exact w.k (by omega) hr'
/-! a row more -/
def zRow (T : zT) : zT := zMk T.nc (T.nr + 1) T.kd (fun c r => if r = T.nr then -9000000000 else T.ky c r) (fun p => if p = T.nr then T.nr else T.od p) (fun r => if r = T.nr then true else T.ch r)
theorem TS.row (S : TS h q T) (hr : T.nr < 40) : ∃ g, f_Sheet_appendRow q h = some (nI T.nr, g) ∧ TS g q (zRow T) ∧ zU q 4 h g := by
  have h4 := S.c4
  obtain ⟨⟨K, X, O, H, hK, hX, hO⟩, hq⟩ := S
  have r1 := zh_stI (x := nI T.nr) H.o hr (by decide)
  generalize hh1 : h.set (q + 3) (.inl (1, 40, .inl (upd O T.nr (nI T.nr)))) = h1 at r1
  have f1 : ∀ j, j ≠ q + 3 → h1[j]? = h[j]? := fun j hj => by rw [← hh1]; exact zh_set_n (Ne.symm hj)
  have s1 := zh_set_r H.o hh1
  have u1 : zU q 4 h h1 := by rw [← hh1]; exact zU_s H.o rfl (by omega)
  have c1 : h1[q]? = _ := (f1 q (by omega)).trans H.c
  have r2 := zh_put (k := 4) (v := .int (nI (T.nr + 1))) c1 (by show _ < 6; decide)
  generalize hh2 : h1.set q (.inr (10, [.ref (q + 1), .ref (q + 2), .ref (q + 3), .int (nI T.nc), .int (nI (T.nr + 1)), .long (zB T.ch T.nr)])) = h2
  have r2 : zf_put 10 4 q (.int (nI (T.nr + 1))) h1 = some h2 := r2.trans (congrArg some hh2)
  have f2 : ∀ j, j ≠ q → h2[j]? = h1[j]? := fun j hj => by rw [← hh2]; exact zh_set_n (Ne.symm hj)
  have s2 := zh_set_r c1 hh2
  have u2 : zU q 4 h1 h2 := by rw [← hh2]; exact zU_s c1 rfl (by omega)
  have ec : zB T.ch T.nr ||| ((1 : Int64) <<< ((nI T.nr).toInt64 &&& 63)) = zB (fun r => if r = T.nr then true else T.ch r) (T.nr + 1) := by
    show _ = (if (if T.nr = T.nr then true else T.ch T.nr) = true then zB _ T.nr ||| _ else _)
    rw [if_pos (if_pos rfl)]
    congr 1
    exact zB_c fun j hj => (if_neg (by omega)).symm
  have r3 := zh_put (k := 5) (v := .long (zB (fun r => if r = T.nr then true else T.ch r) (T.nr + 1))) s2 (by show _ < 6; decide)
  generalize hh3 : h2.set q (.inr (10, [.ref (q + 1), .ref (q + 2), .ref (q + 3), .int (nI T.nc), .int (nI (T.nr + 1)), .long (zB (fun r => if r = T.nr then true else T.ch r) (T.nr + 1))])) = h3
  have r3 : zf_put 10 5 q (.long (zB (fun r => if r = T.nr then true else T.ch r) (T.nr + 1))) h2 = some h3 := r3.trans (congrArg some hh3)
  have f3 : ∀ j, j ≠ q → h3[j]? = h2[j]? := fun j hj => by rw [← hh3]; exact zh_set_n (Ne.symm hj)
  have s3 := zh_set_r s2 hh3
  have u3 : zU q 4 h2 h3 := by rw [← hh3]; exact zU_s s2 rfl (by omega)
  have S3 : TS h3 q (zMk T.nc (T.nr + 1) T.kd (fun c r => X (c * 40 + r)) (fun p => if p = T.nr then T.nr else T.od p) (fun r => if r = T.nr then true else T.ch r)) := by
    refine ⟨⟨K, X, upd O T.nr (nI T.nr), ⟨s3, ?_, ?_, ?_, h4, hr⟩, hK, fun _ _ _ _ => rfl, fun i hi => ?_⟩, hq⟩
    · rw [f3 _ (by omega), f2 _ (by omega), f1 _ (by omega)]; exact H.k
    · rw [f3 _ (by omega), f2 _ (by omega), f1 _ (by omega)]; exact H.x
    · rw [f3 _ (by omega), f2 _ (by omega)]; exact s1
    · have hi : i < T.nr + 1 := hi
      show _ = nI (if i = T.nr then T.nr else T.od i)
      by_cases e : i = T.nr
      · rw [if_pos e, e, pk_us]
      · rw [if_neg e, pk_un e]; exact hO i (by omega)
  have key : ∀ n i (Z : Nat → Nat → Int64) (g0 : zx_H), i ≤ T.nc → T.nc - i < n → TS g0 q (zMk T.nc (T.nr + 1) T.kd Z (fun p => if p = T.nr then T.nr else T.od p) (fun r => if r = T.nr then true else T.ch r)) → (∀ c r, c < T.nc → r < T.nr → Z c r = T.ky c r) → (∀ c, c < i → Z c T.nr = -9000000000) → ∃ g, f_Sheet_appendRow_47 n q (nI T.nr) (nI i) g0 = some (nI T.nr, g) ∧ TS g q (zRow T) ∧ zU q 4 g0 g := by
    intro n
    induction n with
    | zero => intro i _ _ _ hn; exact absurd hn (Nat.not_lt_zero _)
    | succ n ih =>
      intro i Z g0 hi hn SZ hz1 hz2
      unfold f_Sheet_appendRow_47
      rcases Nat.lt_or_ge i T.nc with hlt | hge
      · obtain ⟨g1, e1, S1, U1⟩ := SZ.putKey (c := i) (r := T.nr) hlt (Nat.lt_succ_self _) (-9000000000)
        have e0 : zf_I 10 3 q g0 = some (nI T.nc) := SZ.I3
        rw [ze_b e0, if_neg (nI_ge hlt (by omega)), ze_b SZ.ok, ze_b2 e1, nI_1]
        obtain ⟨g, e2, S2, U2⟩ := ih (i + 1) _ g1 hlt (by omega) S1 (fun c r hc hr' => by
          show (if c = i ∧ r = T.nr then _ else Z c r) = _
          rw [if_neg (by omega)]; exact hz1 c r hc hr') (fun c hc => by
          show (if c = i ∧ T.nr = T.nr then _ else Z c T.nr) = _
          by_cases e : c = i
          · rw [if_pos ⟨e, rfl⟩]
          · rw [if_neg (fun x => e x.1)]; exact hz2 c (by omega))
        exact ⟨g, e2, S2, zU_t U1 U2⟩
      · have e : i = T.nc := Nat.le_antisymm hi hge
        have e0 : zf_I 10 3 q g0 = some (nI T.nc) := SZ.I3
        rw [ze_b e0, e, if_pos (nI_le (Nat.le_refl _) (by omega))]
        refine ⟨g0, rfl, ?_, zU_r⟩
        obtain ⟨⟨K, X, O, H, hK, hX, hO⟩, hq⟩ := SZ
        refine ⟨⟨K, X, O, H, hK, fun c r hc hr' => ?_, hO⟩, hq⟩
        have hc : c < T.nc := hc
        have hr' : r < T.nr + 1 := hr'
        rw [hX c r hc hr']
        show Z c r = if r = T.nr then -9000000000 else T.ky c r
        by_cases e1 : r = T.nr
        · rw [if_pos e1, e1]; exact hz2 c (by omega)
        · rw [if_neg e1]; exact hz1 c r hc (by omega)
  obtain ⟨g, e, S9, U9⟩ := key zF 0 _ h3 (Nat.zero_le _) (by unfold zF; omega) S3 (fun c r hc hr' => hX c r hc hr') (fun c hc => absurd hc (Nat.not_lt_zero _))
  refine ⟨g, ?_, S9, zU_t u1 (zU_t u2 (zU_t u3 U9))⟩
  unfold f_Sheet_appendRow
  rw [ze_b (zh_I H.c rfl), if_pos (show nI T.nr < (40 : Int32) from nI_lt (b := 40) hr (by decide)), ze_b (zh_I H.c rfl), ze_b (zh_A H.c rfl), ze_b r1, ze_b (zh_I c1 rfl), nI_1, ze_b r2, ze_b (zh_J s2 rfl), ec, ze_b r3]
  exact e
theorem zPerm_row {o : Nat → Nat} {n : Nat} (h : zPerm o n) : zPerm (fun p => if p = n then n else o p) (n + 1) := by
  refine ⟨fun i hi => ?_, fun i j hij hj => ?_⟩
  · show (if i = n then n else o i) < n + 1
    by_cases e : i = n
    · rw [if_pos e]; omega
    · rw [if_neg e]; have := h.1 i (by omega); omega
  · show (if i = n then n else o i) ≠ (if j = n then n else o j)
    rw [if_neg (show ¬ i = n by omega)]
    by_cases e : j = n
    · rw [if_pos e]; have := h.1 i (by omega); omega
    · rw [if_neg e]; exact h.2 i j hij (by omega)
theorem zWF.row {T : zT} (w : zWF T) (hr : T.nr < 40) : zWF (zRow T) := by
  refine ⟨w.c4, hr, fun c' hc' => w.k1 hc', fun c' r' hc' hr' => ?_, zPerm_row w.p⟩
  have hr' : r' < T.nr + 1 := hr'
  show zokK (T.kd c') (if r' = T.nr then -9000000000 else T.ky c' r')
  by_cases e : r' = T.nr
  · rw [if_pos e]; exact Or.inl rfl
  · rw [if_neg e]; exact w.k hc' (by omega)
/-! another choice -/
def zCho (T : zT) (p : Nat → Bool) : zT := zMk T.nc T.nr T.kd T.ky T.od p
theorem TS.cho (S : TS h q T) (p : Nat → Bool) : ∃ g, zf_put 10 5 q (.long (zB p T.nr)) h = some g ∧ TS g q (zCho T p) ∧ zU q 4 h g := by
  obtain ⟨⟨K, X, O, H, hK, hX, hO⟩, hq⟩ := S
  have r1 := zh_put (k := 5) (v := .long (zB p T.nr)) H.c (by show _ < 6; decide)
  refine ⟨_, r1, ⟨⟨K, X, O, ⟨zh_set_s H.c, ?_, ?_, ?_, H.nc4, H.nr40⟩, hK, hX, hO⟩, hq⟩, zU_s H.c rfl (by omega)⟩
  · rw [zh_set_n (by omega)]; exact H.k
  · rw [zh_set_n (by omega)]; exact H.x
  · rw [zh_set_n (by omega)]; exact H.o
theorem zWF.cho {T : zT} (w : zWF T) (p : Nat → Bool) : zWF (zCho T p) := w
end ZCP

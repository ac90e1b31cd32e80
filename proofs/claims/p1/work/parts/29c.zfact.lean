section ZST
variable {s : State} {args : Array Value}
theorem zz_Lof {A : Nat → Prop} {st : Term} (hc : st.closed = true) (hlen : (Term.length st).eval args s none [] s = some (.int (Int32.ofNat 256)))
    (hall : (Cond.all st (.and (.exactly (.elem st (.index 0)) "java/lang/Long") (.eq (.field (.elem st (.index 0)) "java/lang/Long" "value" "J") (.op1 .i2l (.sub (.index 0) (.int 128)))))).before args s = true) (hA : ∀ a : Nat, a < s.heap.size → ¬ A a) :
    ∃ ad : Nat → Nat, (∀ k, k < 256 → va_O "java/lang/Long" (ad k) A s s.heap ∧ va_OF "java/lang/Long" "value" "J" (.long (Int32.ofNat k - 128).toInt64) (ad k) A s s.heap) ∧ ∀ j : Nat, j < 256 → (Term.elem st (.int (Int32.ofNat j))).eval args s none [] s = some (.ref (ad j)) := by
  obtain ⟨b, cell, ht, hat, hv⟩ := Term.length_spec hlen
  have hsz : ∀ k : Nat, k < 256 → k < cell.slots.size := by
    intro k hk
    apply Nat.not_le.mp
    intro hle
    have e : Int32.ofNat cell.slots.size = Int32.ofNat 256 := (Value.int.inj hv).symm
    have h1 : (Int32.ofNat cell.slots.size).toNatClampNeg = cell.slots.size := Int32.toNatClampNeg_ofNat_of_lt (by omega)
    have h2 : (Int32.ofNat 256).toNatClampNeg = 256 := Int32.toNatClampNeg_ofNat_of_lt (by omega)
    rw [e, h2] at h1
    omega
  have hall' := Cond.all_elim ht hat (by simpa [Cond.before, Cond.holds] using hall)
  have h0 : ∀ k : Nat, ∃ a : Nat, k < 256 → (Term.elem st (.int (Int32.ofNat k))).eval args s none [] s = some (.ref a) ∧ va_O "java/lang/Long" a A s s.heap ∧ va_OF "java/lang/Long" "value" "J" (.long (Int32.ofNat k - 128).toInt64) a A s s.heap := by
    intro k
    by_cases hk : k < 256
    · obtain ⟨hE, hF⟩ := va_andE (hall' k (hsz k hk))
      obtain ⟨a, c, cA, kA, q1, q2, q3, q4, q5, q6, -⟩ := Cond.exactly_spec (args := args) (first := s) (o := none) (s := s) (idx := [k]) (t := .elem st (.index 0)) (cls := "java/lang/Long") (by simp [Cond.holds, hE])
      have hfv := va_eqI hF (v := .long (Int32.ofNat k - 128).toInt64) (by first | (simp [Term.eval, Unary.apply]; done) | (simp [Term.eval, Unary.apply]; rfl))
      refine ⟨a, fun _ => ⟨?_, ⟨cA, q3, q5, by rw [q6]; exact q2, hA a (Array.getElem?_eq_some_iff.mp q3).1⟩, ?_⟩⟩
      · rw [← q1]
        simp only [Term.eval, Term.eval_closed none [k] st s hc]
        rfl
      · cases hfo : s.fieldFound? "java/lang/Long" "value" "J" with
        | none =>
          rw [va_fe q1] at hfv
          simp [State.fieldOf?, State.fieldNamed?, hfo] at hfv
        | some x =>
          obtain ⟨cf, kf, fi, f⟩ := x
          obtain ⟨g1, cell2, g2, g3, -, -, g6⟩ := Term.field_spec hfo q1 hfv
          exact ⟨cf, kf, fi, f, cell2, hfo, g1, g2, g3, g6, hA _ (Array.getElem?_eq_some_iff.mp g2).1⟩
    · exact ⟨0, fun h => absurd h hk⟩
  obtain ⟨ad, had⟩ := Classical.axiomOfChoice h0
  exact ⟨ad, fun k hk => (had k hk).2, fun k hk => (had k hk).1⟩
def zz_SF (A : Nat → Prop) (s : State) (own : String) (k : Nat) (tx : String) (n : Nat) (byt : List Int32) (q v : Nat) : Prop := vk_R own k tx q s ∧ va_O "java/lang/String" q A s s.heap ∧ va_OF "java/lang/String" "coder" "B" (.int 0) q A s s.heap ∧ va_OF "java/lang/String" "value" "[B" (.ref v) q A s s.heap ∧ va_T .byte v n (fun j => .int (byt.getD j 0)) A s s.heap
theorem zz_str {A : Nat → Prop} {own tx : String} {k n : Nat} {byt : List Int32} (hn : n < 2 ^ 31) (hw : (Cond.stringRef own k tx).before args s = true) (hex : (Cond.exactly (.string own k) "java/lang/String").before args s = true) (hco : (Cond.eq (.field (.string own k) "java/lang/String" "coder" "B") (.int 0)).before args s = true)
    (har : (Cond.arrayOf (.field (.string own k) "java/lang/String" "value" "[B") .byte).before args s = true) (hle : (Cond.eq (.length (.field (.string own k) "java/lang/String" "value" "[B")) (.int (Int32.ofNat n))).before args s = true)
    (hel : ∀ j : Nat, j < n → (Cond.eq (.elem (.field (.string own k) "java/lang/String" "value" "[B") (.int (Int32.ofNat j))) (.int (byt.getD j 0))).before args s = true) (hA : ∀ a : Nat, a < s.heap.size → ¬ A a) : ∃ q v, zz_SF A s own k tx n byt q v := by
  obtain ⟨a, c, cA, kA, q1, -⟩ := Cond.exactly_spec (args := args) (first := s) (o := none) (s := s) (idx := []) hex
  obtain ⟨t, ht, hT⟩ := va_Tof (f := fun j => .int (byt.getD j 0)) (A := A) hn har (va_eqt hle) (fun j hj => va_eqt (hel j hj)) hA
  exact ⟨a, t, vk_R.of hw q1, va_Oof hex q1 hA, vk_OFof q1 (va_eqt hco) hA, vk_OFof q1 ht hA, hT⟩
/-- the cells that stood before, by place -/
def zz_e (t0 tT tF tI tL tf : Nat) (adI adL q v : Nat → Nat) (j : Nat) : Nat :=
  if j = 0 then t0 else if j = 1 then tT else if j = 2 then tF else if j = 3 then tI else if j = 4 then tL else if j = 5 then tf else
  if 10 ≤ j ∧ j < 266 then adI (j - 10) else if 300 ≤ j ∧ j < 556 then adL (j - 300) else if j % 2 = 0 then q ((j - 600) / 2) else v ((j - 600) / 2)
def zz_a (B b : Nat) (e : Nat → Nat) (k : Nat) : Nat := if k < zx_lim then B + k else if k = zx_lim then b else e (k - zx_lim - 1)
theorem zz_a1 {B b : Nat} {e : Nat → Nat} (k : Nat) (h : k < zx_lim) : zz_a B b e k = B + k := if_pos h
theorem zz_a2 {B b : Nat} {e : Nat → Nat} : zz_a B b e zx_lim = b := by unfold zz_a; rw [if_neg (Nat.lt_irrefl _), if_pos rfl]
theorem zz_a3 {B b : Nat} {e : Nat → Nat} (j : Nat) : zz_a B b e (zx_lim + 1 + j) = e j := by
  unfold zz_a
  rw [if_neg (by omega), if_neg (by omega), show zx_lim + 1 + j - zx_lim - 1 = j by omega]
theorem zz_xS {B : Nat} {a : Nat → Nat} {H : Heap} {k j q v : Nat} (hq : a k = q) (hv : a (zx_lim + 1 + j) = v) (hO : va_O "java/lang/String" q (fun x => B ≤ x) s H) (hC : va_OF "java/lang/String" "coder" "B" (.int 0) q (fun x => B ≤ x) s H) (hV : va_OF "java/lang/String" "value" "[B" (.ref v) q (fun x => B ≤ x) s H) : zx_xe B a s H k (.object "java/lang/String", .inr (0, [.ref (zx_lim + 1 + j), .int 0, .retAddr 0, .retAddr 0])) := by
  subst hq
  refine ⟨hO, Or.inr ⟨_, rfl, rfl, ?_⟩⟩
  intro i x hi hx
  match i, hi with
  | 0, hi =>
    cases hi
    refine ⟨by decide, ?_⟩
    show va_OF "java/lang/String" "value" "[B" (.ref (a (zx_lim + 1 + j))) (a k) _ s H
    rw [hv]; exact hV
  | 1, hi => cases hi; exact ⟨by decide, hC⟩
  | 2, hi => cases hi; exact absurd rfl (hx 0)
  | 3, hi => cases hi; exact absurd rfl (hx 0)
  | i + 4, hi => cases hi
end ZST
theorem zz_l8 : ∀ k, k < 256 → (Int32.ofNat k - 128).toInt64 = Int64.ofNat k - 128 := by decide +kernel
theorem zz_lt {B q : Nat} (h : ¬ (fun x => B ≤ x) q) : q < B := Nat.not_le.mp h
theorem zz_ltO {E : String} {B q : Nat} {s : State} {H : Heap} (h : va_O E q (fun x => B ≤ x) s H) : q < B := Nat.not_le.mp h.choose_spec.2.2.2
theorem zz_T {ty : FieldType} {t N : Nat} {f g : Nat → Nat} {A : Nat → Prop} {s : State} {H : Heap} (hfg : ∀ i, i < N → f i = g i) (h : va_T ty t N (fun i => .ref (g i)) A s H) : va_T ty t N (fun i => .ref (f i)) A s H := by
  obtain ⟨cell, h1, h2, h3, h4, h5, h6, h7⟩ := h
  refine ⟨cell, h1, h2, h3, h4, h5, fun j hj => ?_, h7⟩
  show _ = some (Value.ref (f j))
  rw [hfg j hj]
  exact h6 j hj
theorem zz_K {s : State} {args : Array Value} (hts : ∀ w ∈ lw_tbl, w.before args s = true) (c0 : ClassId) : ∃ (D : va_G) (dA : Nat → ClassId), va_K D zt_cl (zx_tys dA) s := by
  have hg : ∀ w ∈ zt_good, w.before args s = true := fun w hw => hts w (List.mem_filter.mp hw).1
  have h1 : ∀ c : Nat, ∃ p : ClassId × (Nat → Nat), ∀ q : vw_C, zt_cl[c]? = some q → u_Kn s q.1 q.2.1 q.2.2 p.1 p.2 := by
    intro c
    have key : ∀ q : vw_C, zt_cl[c]? = some q → ∃ n, (Cond.instantiable q.1 n).before args s = true := by
      intro q hq
      rcases Nat.lt_or_ge c zt_x0 with h | h
      · exact ⟨_, hg _ ((zt_cl_ok hq).2.2.2.1 h)⟩
      · match c, h, hq with
        | 19, _, hq => cases hq; exact ⟨_, hts _ (zt_ch_in (j := 2) (List.mem_of_getElem? (i := 9) rfl))⟩
        | 20, _, hq => cases hq; exact ⟨_, hts _ (zt_ch_in (j := 2) (List.mem_of_getElem? (i := 78) rfl))⟩
        | 21, _, hq => cases hq; exact ⟨_, hts _ (zt_ch_in (j := 2) (List.mem_of_getElem? (i := 94) rfl))⟩
        | 22, _, hq => cases hq; exact ⟨_, hts _ (zt_ch_in (j := 5) (List.mem_of_getElem? (i := 156) rfl))⟩
        | c + 23, _, hq => cases hq
    cases hq : zt_cl[c]? with
    | none => exact ⟨(c0, fun _ => 0), fun q h => by cases h⟩
    | some q =>
      obtain ⟨n, hi⟩ := key q hq
      obtain ⟨cC, iS, h9⟩ := u_known (C := q.1) (T := q.2.1) (N := q.2.2) (n := n) hg (zx_uws hq) hi
      exact ⟨(cC, iS), fun q' h => by cases h; exact h9⟩
  have h2 : ∀ t : Nat, ∃ cA : ClassId, ∀ ty : FieldType, zt_at[t]? = some ty → ArrOfT s cA ty ∧ va_RA s cA ty := by
    intro t
    cases hq : zt_at[t]? with
    | none => exact ⟨c0, fun q h => by cases h⟩
    | some ty =>
      rcases zt_at_ok t ty hq with ⟨hno, hw⟩ | ⟨C, rfl, hw⟩
      · obtain ⟨c, k, comp, e1, e2, e3⟩ := Cond.arrayClass_spec (hg _ hw)
        refine ⟨c, fun ty' h => ?_⟩
        cases h
        refine ⟨fun n z => ⟨fun k h => (by cases h), k, e2, comp, e3⟩, ?_⟩
        cases ty <;> first | exact e1 | exact absurd rfl (hno _)
      · obtain ⟨comp, c, k, e1, -, e2, e3, e4⟩ := Cond.arrayOver_spec (hts _ hw)
        refine ⟨c, fun ty' h => ?_⟩
        cases h
        exact ⟨fun n z => ⟨fun k h => (by cases h), k, e2, comp, e3⟩, k, comp, e2, e3, e1, e4⟩
  obtain ⟨p, hp⟩ := Classical.axiomOfChoice h1
  obtain ⟨dA, hdA⟩ := Classical.axiomOfChoice h2
  refine ⟨(fun c => (p c).1, fun c => (p c).2), dA, fun c q hq => hp c q hq, fun k q hq => ?_⟩
  simp only [zx_tys, List.getElem?_mapIdx, Option.map_eq_some_iff] at hq
  obtain ⟨ty, hty, rfl⟩ := hq
  exact hdA k ty hty
theorem zz_K2 {s : State} {args : Array Value} (hts : ∀ w ∈ lw_tbl, w.before args s = true) (hn : narrow_1.before args s = true) : zx_K2 s := by
  refine ⟨fun C h => va_AO.of (hts _ h), fun own i tx h => ?_, ?_⟩
  · have h9 := hts _ h
    have hcur : ∃ cur, s.vm.findClass own = some cur := by
      cases hc : s.vm.findClass own with
      | none => simp [Cond.before, Cond.holds, Cond.value, hc] at h9
      | some cur => exact ⟨cur, rfl⟩
    obtain ⟨cur, hcur⟩ := hcur
    obtain ⟨k, cf, i', a, -, -, -, -, -, he⟩ := Cond.stringRef_spec (args := args) (first := s) (o := none) (idx := []) hcur h9
    exact ⟨a, vk_R.of h9 he⟩
  · intro c d r1 r2 hc hd hcd h1 h2
    have hb : ∀ (x : Nat) (r : vw_C), zt_cl[x]? = some r → x < 23 := fun x r h => (List.getElem?_eq_some_iff.mp h).1
    have hc' := hb c r1 h1
    have hd' := hb d r2 h2
    unfold zt_x0 at hc hd
    have ec : c = 19 ∨ c = 20 ∨ c = 21 ∨ c = 22 := by omega
    have ed : d = 19 ∨ d = 20 ∨ d = 21 ∨ d = 22 := by omega
    rcases ec with rfl | rfl | rfl | rfl <;> rcases ed with rfl | rfl | rfl | rfl <;> first
      | exact absurd rfl hcd
      | (cases h1; cases h2; exact va_Nc.of (zn_288 hn))
      | (cases h1; cases h2; exact va_Nc.of (zn_289 hn))
      | (cases h1; cases h2; exact va_Nc.of (zn_290 hn))
      | (cases h1; cases h2; exact va_Nc.of (zn_291 hn))
      | (cases h1; cases h2; exact va_Nc.of (zn_292 hn))
      | (cases h1; cases h2; exact va_Nc.of (zn_293 hn))
      | (cases h1; cases h2; exact va_Nc.of (zn_294 hn))
      | (cases h1; cases h2; exact va_Nc.of (zn_295 hn))
      | (cases h1; cases h2; exact va_Nc.of (zn_296 hn))
      | (cases h1; cases h2; exact va_Nc.of (zn_297 hn))
      | (cases h1; cases h2; exact va_Nc.of (zn_298 hn))
      | (cases h1; cases h2; exact va_Nc.of (zn_299 hn))

theorem zz_K {s : State} {args : Array Value} (hts : ∀ w ∈ lw_tbl, w.before args s = true) (c0 : ClassId) : ∃ (D : va_G) (dA : Nat → ClassId), va_K D zt_cl (zx_tys dA) s := by
  have hg : ∀ w ∈ zt_good, w.before args s = true := fun w hw => hts w (List.mem_filter.mp hw).1
  have h1 : ∀ c : Nat, ∃ p : ClassId × (Nat → Nat), ∀ q : vw_C, zt_cl[c]? = some q → u_Kn s q.1 q.2.1 q.2.2 p.1 p.2 := by
    intro c
    have key : ∀ q : vw_C, zt_cl[c]? = some q → ∃ n, (Cond.instantiable q.1 n).before args s = true := by
      intro q hq
      rcases Nat.lt_or_ge c zt_x0 with h | h
      · exact ⟨_, hg _ ((zt_cl_ok hq).2.2.2.1 h)⟩
      · match c, h, hq with
        | 13, _, hq => cases hq; exact ⟨_, hts _ (zt_ch_in (j := 1) (List.mem_of_getElem? (i := 227) rfl))⟩
        | 14, _, hq => cases hq; exact ⟨_, hts _ (zt_ch_in (j := 2) (List.mem_of_getElem? (i := 80) rfl))⟩
        | 15, _, hq => cases hq; exact ⟨_, hts _ (zt_ch_in (j := 2) (List.mem_of_getElem? (i := 126) rfl))⟩
        | 16, _, hq => cases hq; exact ⟨_, hts _ (zt_ch_in (j := 4) (List.mem_of_getElem? (i := 102) rfl))⟩
        | c + 17, _, hq => cases hq
    cases hq : zt_cl[c]? with
    | none => exact ⟨(c0, fun _ => 0), fun q h => by cases h⟩
    | some q =>
      obtain ⟨n, hi⟩ := key q hq
      obtain ⟨cC, iS, h9⟩ := u_known (C := q.1) (T := q.2.1) (N := q.2.2) (n := n) hg (zx_uws hq) hi
      exact ⟨(cC, iS), fun q' h => by cases h; exact h9⟩
  have h2 : ∀ t : Nat, ∃ cA : ClassId, ∀ ty : FieldType, zt_at[t]? = some ty → ArrOfT s cA ty ∧ va_RA s cA ty := by
    intro t
    cases hq : zt_at[t]? with
    | none => exact ⟨c0, fun q h => by cases h⟩
    | some ty =>
      rcases zt_at_ok t ty hq with ⟨⟨hno, hno2⟩, hw⟩ | ⟨C, rfl, hw⟩ | ⟨C, rfl, hw⟩
      · obtain ⟨c, k, comp, e1, e2, e3⟩ := Cond.arrayClass_spec (hg _ hw)
        refine ⟨c, fun ty' h => ?_⟩
        cases h
        refine ⟨fun n z => ⟨fun k h => (by cases h), k, e2, comp, e3⟩, ?_⟩
        cases ty <;> first | exact e1 | exact absurd rfl (hno _) | exact absurd rfl (hno2 _)
      · obtain ⟨comp, c, k, e1, -, e2, e3, e4⟩ := Cond.arrayOver_spec (hts _ hw)
        refine ⟨c, fun ty' h => ?_⟩
        cases h
        exact ⟨fun n z => ⟨fun k h => (by cases h), k, e2, comp, e3⟩, k, comp, e2, e3, e1, e4⟩
      · obtain ⟨comp, c, k, e1, e2, e3, e4⟩ := zm_AOof (hts _ hw)
        refine ⟨c, fun ty' h => ?_⟩
        cases h
        exact ⟨fun n z => ⟨fun k h => (by cases h), k, e2, comp, e3⟩, e4⟩
  obtain ⟨p, hp⟩ := Classical.axiomOfChoice h1
  obtain ⟨dA, hdA⟩ := Classical.axiomOfChoice h2
  refine ⟨(fun c => (p c).1, fun c => (p c).2), dA, fun c q hq => hp c q hq, fun k q hq => ?_⟩
  simp only [zx_tys, List.getElem?_mapIdx, Option.map_eq_some_iff] at hq
  obtain ⟨ty, hty, rfl⟩ := hq
  exact hdA k ty hty
theorem zz_K2 {s : State} {args : Array Value} (hts : ∀ w ∈ lw_tbl, w.before args s = true) (hn : narrow_1.before args s = true) : zx_K2 s := by
  refine ⟨fun C h => va_AO.of (hts _ h), fun own i tx h => ?_, ?_, fun ty h => ?_⟩
  · have h9 := hts _ h
    have hcur : ∃ cur, s.vm.findClass own = some cur := by
      cases hc : s.vm.findClass own with
      | none => simp [Cond.before, Cond.holds, Cond.value, hc] at h9
      | some cur => exact ⟨cur, rfl⟩
    obtain ⟨cur, hcur⟩ := hcur
    obtain ⟨k, cf, i', a, -, -, -, -, -, he⟩ := Cond.stringRef_spec (args := args) (first := s) (o := none) (idx := []) hcur h9
    exact ⟨a, vk_R.of h9 he⟩
  · intro c d r1 r2 hc hd hcd h1 h2
    have hb : ∀ (x : Nat) (r : vw_C), zt_cl[x]? = some r → x < 17 := fun x r h => (List.getElem?_eq_some_iff.mp h).1
    have hc' := hb c r1 h1
    have hd' := hb d r2 h2
    unfold zt_x0 at hc hd
    have ec : c = 13 ∨ c = 14 ∨ c = 15 ∨ c = 16 := by omega
    have ed : d = 13 ∨ d = 14 ∨ d = 15 ∨ d = 16 := by omega
    rcases ec with rfl | rfl | rfl | rfl <;> rcases ed with rfl | rfl | rfl | rfl <;> first
      | exact absurd rfl hcd
      | (cases h1; cases h2; exact va_Nc.of (zzn_554 hn))
      | (cases h1; cases h2; exact va_Nc.of (zzn_555 hn))
      | (cases h1; cases h2; exact va_Nc.of (zzn_556 hn))
      | (cases h1; cases h2; exact va_Nc.of (zzn_557 hn))
      | (cases h1; cases h2; exact va_Nc.of (zzn_558 hn))
      | (cases h1; cases h2; exact va_Nc.of (zzn_559 hn))
      | (cases h1; cases h2; exact va_Nc.of (zzn_560 hn))
      | (cases h1; cases h2; exact va_Nc.of (zzn_561 hn))
      | (cases h1; cases h2; exact va_Nc.of (zzn_562 hn))
      | (cases h1; cases h2; exact va_Nc.of (zzn_563 hn))
      | (cases h1; cases h2; exact va_Nc.of (zzn_564 hn))
      | (cases h1; cases h2; exact va_Nc.of (zzn_565 hn))
  · exact zm_AOof (hts _ h)

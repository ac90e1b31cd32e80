set_option maxRecDepth 100000 in
set_option maxHeartbeats 4000000 in
theorem zz_H2 {s : State} {args : Array Value} (hts : ∀ w ∈ lw_tbl, w.before args s = true) (hn : narrow_1.before args s = true) (b : Nat) : ∃ (e : Nat → Nat) (nf : Bool), zx_H2 s.heap.size (zz_a s.heap.size b e) nf s s.heap := by
  have hA : ∀ a : Nat, a < s.heap.size → ¬ (fun x => s.heap.size ≤ x) a := fun a h => Nat.not_le.mpr h
  obtain ⟨q, v, hS⟩ := zz_strs hts hn
  obtain ⟨t8, ht8, hT8⟩ := zz_ones hn
  obtain ⟨t9, ht9, hT9⟩ := zz_tens hn
  have hfm : ∃ (nf : Bool) (tf : Nat), va_Z "jdk/internal/util/Preconditions" "SIOOBE_FORMATTER" "Ljava/util/function/BiFunction;" (if nf then .null else .ref tf) (fun x => s.heap.size ≤ x) s s.heap := by
    rcases va_Zqof (A := fun x => s.heap.size ≤ x) (hts _ (zt_ch_in (j := 5) (List.mem_of_getElem? (i := 78) rfl))) (hts _ (zt_ch_in (j := 1) (List.mem_of_getElem? (i := 29) rfl))) (zzn_551 hn) hA with h | ⟨t, h⟩
    · exact ⟨true, 0, h⟩
    · exact ⟨false, t, h⟩
  obtain ⟨nf, tf, hfm⟩ := hfm
  have hq : ∀ i, i < 42 → ∃ own k tx, zt_str[i]? = some (own, k, tx, 600 + 2 * i) := fun i hi => by
    have hl : i < zt_str.length := hi
    obtain ⟨e, he⟩ : ∃ e, zt_str[i]? = some e := ⟨_, List.getElem?_eq_getElem hl⟩
    obtain ⟨own, k, tx, j⟩ := e
    obtain ⟨n, byt, -, -, h3, -⟩ := hS i own k tx j he
    exact ⟨own, k, tx, by rw [he, h3]⟩
  have he0 : ∀ i, i < 42 → zz_e tf t8 t9 q v (600 + 2 * i) = q i := fun i hi => by
    unfold zz_e
    rw [if_neg (by omega), if_neg (by omega), if_neg (by omega), if_pos (by omega), show (600 + 2 * i - 600) / 2 = i by omega]
  have he1 : ∀ i, i < 42 → zz_e tf t8 t9 q v (600 + 2 * i + 1) = v i := fun i hi => by
    unfold zz_e
    rw [if_neg (by omega), if_neg (by omega), if_neg (by omega), if_neg (by omega), show (600 + 2 * i + 1 - 600) / 2 = i by omega]
  -- a cell that stood before
  have hx : ∀ j x, zt_ext j = some x → (∃ i own k tx byt, i < 42 ∧ zt_tx[i]? = some byt ∧ zz_SF (fun x => s.heap.size ≤ x) s own k tx byt.length byt (q i) (v i) ∧ ((j = 600 + 2 * i ∧ x = (.object "java/lang/String", .inr (0, [.ref (zx_lim + 1 + (j + 1)), .int 0, .retAddr 0, .retAddr 0]))) ∨ (j = 600 + 2 * i + 1 ∧ x = (.byte, .inl (0, byt.length, .inl (fun i => byt.getD i 0)))))) ∨ (j = 800 ∧ x = (.byte, .inl (0, 100, .inl (fun i => Int32.ofNat (48 + i % 10))))) ∨ (j = 801 ∧ x = (.byte, .inl (0, 100, .inl (fun i => Int32.ofNat (48 + i / 10))))) := by
    intro j x hj
    unfold zt_ext at hj
    by_cases c1 : j < 600
    · rw [if_pos c1] at hj; cases hj
    rw [if_neg c1] at hj
    by_cases c2 : j < 800
    · rw [if_pos c2] at hj
      cases ht : zt_tx[(j - 600) / 2]? with
      | none => rw [ht] at hj; cases hj
      | some byt =>
        rw [ht] at hj
        have hi : (j - 600) / 2 < 42 := (List.getElem?_eq_some_iff.mp ht).1
        obtain ⟨own, k, tx, hs⟩ := hq _ hi
        obtain ⟨n, byt', h1, h2, h3, h4⟩ := hS _ _ _ _ _ hs
        have : byt' = byt := Option.some.inj (h1.symm.trans ht)
        subst this
        subst h2
        have hj : some (zt_tc j byt') = some x := hj
        refine Or.inl ⟨(j - 600) / 2, own, k, tx, byt', hi, ht, h4, ?_⟩
        have hj := Option.some.inj hj
        unfold zt_tc at hj
        by_cases c3 : j % 2 = 0
        · rw [if_pos c3] at hj
          exact Or.inl ⟨by omega, hj.symm⟩
        · rw [if_neg c3] at hj
          exact Or.inr ⟨by omega, hj.symm⟩
    rw [if_neg c2] at hj
    by_cases c3 : j = 800
    · rw [if_pos c3] at hj
      exact Or.inr (Or.inl ⟨c3, (Option.some.inj hj).symm⟩)
    rw [if_neg c3] at hj
    by_cases c4 : j = 801
    · rw [if_pos c4] at hj
      exact Or.inr (Or.inr ⟨c4, (Option.some.inj hj).symm⟩)
    rw [if_neg c4] at hj
    cases hj
  have e8 : zz_e tf t8 t9 q v 800 = t8 := rfl
  have e9 : zz_e tf t8 t9 q v 801 = t9 := rfl
  refine ⟨zz_e tf t8 t9 q v, nf, ⟨?_, ?_, ?_, ?_, ?_⟩, vx_Zqof (hts _ (zt_ch_in (j := 2) (List.mem_of_getElem? (i := 13) rfl))) (hts _ (zt_ch_in (j := 1) (List.mem_of_getElem? (i := 9) rfl))) (zzn_552 hn) hA, vx_Zqof (hts _ (zt_ch_in (j := 2) (List.mem_of_getElem? (i := 15) rfl))) (hts _ (zt_ch_in (j := 1) (List.mem_of_getElem? (i := 9) rfl))) (zzn_553 hn) hA⟩
  · intro j x hj
    rcases hx j x hj with ⟨i, own, k, tx, byt, hi, ht, h4, ⟨rfl, rfl⟩ | ⟨rfl, rfl⟩⟩ | ⟨rfl, rfl⟩ | ⟨rfl, rfl⟩
    · exact zz_xS (q := q i) (v := v i) (by rw [zz_a3]; exact he0 i hi) (by rw [zz_a3]; exact he1 i hi) h4.2.1 h4.2.2.1 h4.2.2.2.1
    · exact (show va_T _ (zz_a _ _ _ (zx_lim + 1 + (600 + 2 * i + 1))) byt.length _ _ s s.heap by rw [zz_a3, he1 i hi]; exact h4.2.2.2.2)
    · exact (show va_T _ (zz_a _ _ _ (zx_lim + 1 + 800)) 100 _ _ s s.heap by rw [zz_a3, e8]; exact hT8)
    · exact (show va_T _ (zz_a _ _ _ (zx_lim + 1 + 801)) 100 _ _ s s.heap by rw [zz_a3, e9]; exact hT9)
  · intro x e v' he hv
    match x, he, hv with
    | 0, he, hv => cases he; cases hv; exact va_Zof (hts _ (zt_ch_in (j := 4) (List.mem_of_getElem? (i := 231) rfl))) (hts _ (zt_ch_in (j := 1) (List.mem_of_getElem? (i := 24) rfl))) (va_eqt (zzn_550 hn)) hA
    | 1, he, hv =>
      cases he; cases hv; cases nf with
      | true => exact hfm
      | false => exact (show va_Z _ _ _ (.ref (zz_a _ _ _ (zx_lim + 1 + 5))) _ s s.heap by rw [zz_a3]; exact hfm)
    | 2, he, hv => cases he; cases hv; exact (show va_Z _ _ _ (.ref (zz_a _ _ _ (zx_lim + 1 + 800))) _ s s.heap by rw [zz_a3, e8]; exact va_Zof (hts _ (zt_ch_in (j := 5) (List.mem_of_getElem? (i := 156) rfl))) (hts _ (zt_ch_in (j := 1) (List.mem_of_getElem? (i := 30) rfl))) ht8 hA)
    | 3, he, hv => cases he; cases hv; exact (show va_Z _ _ _ (.ref (zz_a _ _ _ (zx_lim + 1 + 801))) _ s s.heap by rw [zz_a3, e9]; exact va_Zof (hts _ (zt_ch_in (j := 5) (List.mem_of_getElem? (i := 158) rfl))) (hts _ (zt_ch_in (j := 1) (List.mem_of_getElem? (i := 30) rfl))) ht9 hA)
    | x + 4, he, hv => cases he
  · intro e he
    obtain ⟨i, hi, hg⟩ := List.getElem_of_mem he
    obtain ⟨own, k, tx, j⟩ := e
    have hs : zt_str[i]? = some (own, k, tx, j) := by rw [List.getElem?_eq_getElem hi, hg]
    obtain ⟨n, byt, h1, h2, h3, h4⟩ := hS i _ _ _ _ hs
    subst h3
    exact (show vk_R _ _ _ (zz_a _ _ _ (zx_lim + 1 + (600 + 2 * i))) s by rw [zz_a3, he0 i hi]; exact h4.1)
  · intro j x hj
    rw [zz_a3]
    rcases hx j x hj with ⟨i, own, k, tx, byt, hi, ht, h4, ⟨rfl, -⟩ | ⟨rfl, -⟩⟩ | ⟨rfl, -⟩ | ⟨rfl, -⟩
    · rw [he0 i hi]; exact zz_ltO h4.2.1
    · rw [he1 i hi]; exact zz_lt h4.2.2.2.2.out
    · rw [e8]; exact zz_lt hT8.out
    · rw [e9]; exact zz_lt hT9.out
  · intro e he hb x y r hx hy hr
    obtain ⟨x', y', _, _, _, _, _, _, r', a1, a2, _, a3, _, _, _, a4⟩ := zt_vt_ok e he
    rw [if_pos hb] at a4
    cases Option.some.inj (hx.symm.trans a1)
    cases Option.some.inj (hy.symm.trans a2)
    cases Option.some.inj (hr.symm.trans a3)
    exact va_Fw.of (hts _ a4.1) (hts _ a4.2.1) (hts _ a4.2.2.1) (hts _ a4.2.2.2.1) (hts _ a4.2.2.2.2)

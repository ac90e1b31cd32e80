noncomputable def zd_gc (c : Nat) : Bool := match zd_of 0 with
  | some t => match t[c]? with
    | some l => l.all fun e => decide (decode code e.1 = .ok e.2)
    | none => true
  | none => true
set_option maxRecDepth 100000 in
theorem zd_gc0 : zd_gc 0 = true := by decide +kernel
set_option maxRecDepth 100000 in
theorem zd_gc1 : zd_gc 1 = true := by decide +kernel
set_option maxRecDepth 100000 in
theorem zd_gc2 : zd_gc 2 = true := by decide +kernel
set_option maxRecDepth 100000 in
theorem zd_gc3 : zd_gc 3 = true := by decide +kernel
set_option maxRecDepth 100000 in
theorem zd_gc4 : zd_gc 4 = true := by decide +kernel
set_option maxRecDepth 100000 in
theorem zd_gc5 : zd_gc 5 = true := by decide +kernel
set_option maxRecDepth 100000 in
theorem zd_gc6 : zd_gc 6 = true := by decide +kernel
set_option maxRecDepth 100000 in
theorem zd_gc7 : zd_gc 7 = true := by decide +kernel
set_option maxRecDepth 100000 in
theorem zd_gc8 : zd_gc 8 = true := by decide +kernel
set_option maxRecDepth 100000 in
theorem zd_gc9 : zd_gc 9 = true := by decide +kernel
set_option maxRecDepth 100000 in
theorem zd_gc10 : zd_gc 10 = true := by decide +kernel
set_option maxRecDepth 100000 in
theorem zd_gc11 : zd_gc 11 = true := by decide +kernel
set_option maxRecDepth 100000 in
theorem zd_gc12 : zd_gc 12 = true := by decide +kernel
set_option maxRecDepth 100000 in
theorem zd_gc13 : zd_gc 13 = true := by decide +kernel
set_option maxRecDepth 100000 in
theorem zd_gc14 : zd_gc 14 = true := by decide +kernel
set_option maxRecDepth 100000 in
theorem zd_gc15 : zd_gc 15 = true := by decide +kernel
set_option maxRecDepth 100000 in
theorem zd_gc16 : zd_gc 16 = true := by decide +kernel
set_option maxRecDepth 100000 in
theorem zd_gc17 : zd_gc 17 = true := by decide +kernel
set_option maxRecDepth 100000 in
theorem zd_gc18 : zd_gc 18 = true := by decide +kernel
set_option maxRecDepth 100000 in
theorem zd_gc19 : zd_gc 19 = true := by decide +kernel
set_option maxRecDepth 100000 in
theorem zd_gc20 : zd_gc 20 = true := by decide +kernel
set_option maxRecDepth 100000 in
theorem zd_gc21 : zd_gc 21 = true := by decide +kernel
set_option maxRecDepth 100000 in
theorem zd_gc22 : zd_gc 22 = true := by decide +kernel
set_option maxRecDepth 100000 in
theorem zd_gc23 : zd_gc 23 = true := by decide +kernel
set_option maxRecDepth 100000 in
theorem zd_gc24 : zd_gc 24 = true := by decide +kernel
set_option maxRecDepth 100000 in
theorem zd_gc25 : zd_gc 25 = true := by decide +kernel
set_option maxRecDepth 100000 in
theorem zd_gc26 : zd_gc 26 = true := by decide +kernel
set_option maxRecDepth 100000 in
theorem zd_gc27 : zd_gc 27 = true := by decide +kernel
set_option maxRecDepth 100000 in
theorem zd_gc28 : zd_gc 28 = true := by decide +kernel
set_option maxRecDepth 100000 in
theorem zd_gc29 : zd_gc 29 = true := by decide +kernel
set_option maxRecDepth 100000 in
theorem zd_gc30 : zd_gc 30 = true := by decide +kernel
set_option maxRecDepth 100000 in
theorem zd_gc31 : zd_gc 31 = true := by decide +kernel
set_option maxRecDepth 100000 in
theorem zd_gc32 : zd_gc 32 = true := by decide +kernel
set_option maxRecDepth 100000 in
theorem zd_gc33 : zd_gc 33 = true := by decide +kernel
set_option maxRecDepth 100000 in
theorem zd_gc34 : zd_gc 34 = true := by decide +kernel
set_option maxRecDepth 100000 in
theorem zd_gc35 : zd_gc 35 = true := by decide +kernel
set_option maxRecDepth 100000 in
theorem zd_gc36 : zd_gc 36 = true := by decide +kernel
set_option maxRecDepth 100000 in
theorem zd_gc37 : zd_gc 37 = true := by decide +kernel
set_option maxRecDepth 100000 in
theorem zd_gc38 : zd_gc 38 = true := by decide +kernel
set_option maxRecDepth 100000 in
theorem zd_gc39 : zd_gc 39 = true := by decide +kernel
set_option maxRecDepth 100000 in
theorem zd_gc40 : zd_gc 40 = true := by decide +kernel
set_option maxRecDepth 100000 in
theorem zd_gc41 : zd_gc 41 = true := by decide +kernel
set_option maxRecDepth 100000 in
theorem zd_gc42 : zd_gc 42 = true := by decide +kernel
set_option maxRecDepth 100000 in
theorem zd_gc43 : zd_gc 43 = true := by decide +kernel
set_option maxRecDepth 100000 in
theorem zd_gc44 : zd_gc 44 = true := by decide +kernel
set_option maxRecDepth 100000 in
theorem zd_gc45 : zd_gc 45 = true := by decide +kernel
set_option maxRecDepth 100000 in
theorem zd_gc46 : zd_gc 46 = true := by decide +kernel
set_option maxRecDepth 100000 in
theorem zd_gc47 : zd_gc 47 = true := by decide +kernel
set_option maxRecDepth 100000 in
theorem zd_gc48 : zd_gc 48 = true := by decide +kernel
set_option maxRecDepth 100000 in
theorem zd_gc49 : zd_gc 49 = true := by decide +kernel
set_option maxRecDepth 100000 in
theorem zd_gc50 : zd_gc 50 = true := by decide +kernel
set_option maxRecDepth 100000 in
theorem zd_gc51 : zd_gc 51 = true := by decide +kernel
set_option maxRecDepth 100000 in
theorem zd_gc52 : zd_gc 52 = true := by decide +kernel
set_option maxRecDepth 100000 in
theorem zd_gc53 : zd_gc 53 = true := by decide +kernel
set_option maxRecDepth 100000 in
theorem zd_gc54 : zd_gc 54 = true := by decide +kernel
set_option maxRecDepth 100000 in
theorem zd_gc55 : zd_gc 55 = true := by decide +kernel
set_option maxRecDepth 100000 in
theorem zd_gc56 : zd_gc 56 = true := by decide +kernel
set_option maxRecDepth 100000 in
theorem zd_gc57 : zd_gc 57 = true := by decide +kernel
set_option maxRecDepth 100000 in
theorem zd_gc58 : zd_gc 58 = true := by decide +kernel
set_option maxRecDepth 100000 in
theorem zd_gc59 : zd_gc 59 = true := by decide +kernel
set_option maxRecDepth 100000 in
theorem zd_gc60 : zd_gc 60 = true := by decide +kernel
set_option maxRecDepth 100000 in
theorem zd_gc61 : zd_gc 61 = true := by decide +kernel
set_option maxRecDepth 100000 in
theorem zd_gc62 : zd_gc 62 = true := by decide +kernel
set_option maxRecDepth 100000 in
theorem zd_gc63 : zd_gc 63 = true := by decide +kernel
set_option maxRecDepth 100000 in
theorem zd_gc64 : zd_gc 64 = true := by decide +kernel
set_option maxRecDepth 100000 in
theorem zd_gc65 : zd_gc 65 = true := by decide +kernel
set_option maxRecDepth 100000 in
theorem zd_gc66 : zd_gc 66 = true := by decide +kernel
set_option maxRecDepth 100000 in
theorem zd_gc67 : zd_gc 67 = true := by decide +kernel
set_option maxRecDepth 100000 in
theorem zd_gc68 : zd_gc 68 = true := by decide +kernel
set_option maxRecDepth 100000 in
theorem zd_gc69 : zd_gc 69 = true := by decide +kernel
set_option maxRecDepth 100000 in
theorem zd_gc70 : zd_gc 70 = true := by decide +kernel
set_option maxRecDepth 100000 in
theorem zd_gc71 : zd_gc 71 = true := by decide +kernel
set_option maxRecDepth 100000 in
theorem zd_gc72 : zd_gc 72 = true := by decide +kernel
set_option maxRecDepth 100000 in
theorem zd_gc73 : zd_gc 73 = true := by decide +kernel
set_option maxRecDepth 100000 in
theorem zd_gc74 : zd_gc 74 = true := by decide +kernel
set_option maxRecDepth 100000 in
theorem zd_gc75 : zd_gc 75 = true := by decide +kernel
set_option maxRecDepth 100000 in
theorem zd_gc76 : zd_gc 76 = true := by decide +kernel
set_option maxRecDepth 100000 in
theorem zd_gc77 : zd_gc 77 = true := by decide +kernel
set_option maxRecDepth 100000 in
theorem zd_gc78 : zd_gc 78 = true := by decide +kernel
set_option maxRecDepth 100000 in
theorem zd_gc79 : zd_gc 79 = true := by decide +kernel
set_option maxRecDepth 100000 in
theorem zd_gc80 : zd_gc 80 = true := by decide +kernel
set_option maxRecDepth 100000 in
theorem zd_gc81 : zd_gc 81 = true := by decide +kernel
set_option maxRecDepth 100000 in
theorem zd_gc82 : zd_gc 82 = true := by decide +kernel
set_option maxRecDepth 100000 in
theorem zd_gc83 : zd_gc 83 = true := by decide +kernel
set_option maxRecDepth 100000 in
theorem zd_gc84 : zd_gc 84 = true := by decide +kernel
set_option maxRecDepth 100000 in
theorem zd_gc85 : zd_gc 85 = true := by decide +kernel
set_option maxRecDepth 100000 in
theorem zd_gc86 : zd_gc 86 = true := by decide +kernel
set_option maxRecDepth 100000 in
theorem zd_gc87 : zd_gc 87 = true := by decide +kernel
set_option maxRecDepth 100000 in
theorem zd_gc88 : zd_gc 88 = true := by decide +kernel
set_option maxRecDepth 100000 in
theorem zd_gc89 : zd_gc 89 = true := by decide +kernel
set_option maxRecDepth 100000 in
theorem zd_gc90 : zd_gc 90 = true := by decide +kernel
set_option maxRecDepth 100000 in
theorem zd_gc91 : zd_gc 91 = true := by decide +kernel
set_option maxRecDepth 100000 in
theorem zd_gc92 : zd_gc 92 = true := by decide +kernel
set_option maxRecDepth 100000 in
theorem zd_gc93 : zd_gc 93 = true := by decide +kernel
set_option maxRecDepth 100000 in
theorem zd_gc94 : zd_gc 94 = true := by decide +kernel
set_option maxRecDepth 100000 in
theorem zd_gc95 : zd_gc 95 = true := by decide +kernel
set_option maxRecDepth 100000 in
theorem zd_gc96 : zd_gc 96 = true := by decide +kernel
set_option maxRecDepth 100000 in
theorem zd_gc97 : zd_gc 97 = true := by decide +kernel
set_option maxRecDepth 100000 in
theorem zd_gc98 : zd_gc 98 = true := by decide +kernel
set_option maxRecDepth 100000 in
theorem zd_gc99 : zd_gc 99 = true := by decide +kernel
set_option maxRecDepth 100000 in
theorem zd_gc100 : zd_gc 100 = true := by decide +kernel
theorem zd_gcall : ∀ c, c < 101 → zd_gc c = true := by
  intro c h
  have h0 : zd_gc c = true ∨ 101 ≤ c := by
    match c with
    | 0 => exact Or.inl zd_gc0
    | 1 => exact Or.inl zd_gc1
    | 2 => exact Or.inl zd_gc2
    | 3 => exact Or.inl zd_gc3
    | 4 => exact Or.inl zd_gc4
    | 5 => exact Or.inl zd_gc5
    | 6 => exact Or.inl zd_gc6
    | 7 => exact Or.inl zd_gc7
    | 8 => exact Or.inl zd_gc8
    | 9 => exact Or.inl zd_gc9
    | 10 => exact Or.inl zd_gc10
    | 11 => exact Or.inl zd_gc11
    | 12 => exact Or.inl zd_gc12
    | 13 => exact Or.inl zd_gc13
    | 14 => exact Or.inl zd_gc14
    | 15 => exact Or.inl zd_gc15
    | 16 => exact Or.inl zd_gc16
    | 17 => exact Or.inl zd_gc17
    | 18 => exact Or.inl zd_gc18
    | 19 => exact Or.inl zd_gc19
    | 20 => exact Or.inl zd_gc20
    | 21 => exact Or.inl zd_gc21
    | 22 => exact Or.inl zd_gc22
    | 23 => exact Or.inl zd_gc23
    | 24 => exact Or.inl zd_gc24
    | 25 => exact Or.inl zd_gc25
    | 26 => exact Or.inl zd_gc26
    | 27 => exact Or.inl zd_gc27
    | 28 => exact Or.inl zd_gc28
    | 29 => exact Or.inl zd_gc29
    | 30 => exact Or.inl zd_gc30
    | 31 => exact Or.inl zd_gc31
    | 32 => exact Or.inl zd_gc32
    | 33 => exact Or.inl zd_gc33
    | 34 => exact Or.inl zd_gc34
    | 35 => exact Or.inl zd_gc35
    | 36 => exact Or.inl zd_gc36
    | 37 => exact Or.inl zd_gc37
    | 38 => exact Or.inl zd_gc38
    | 39 => exact Or.inl zd_gc39
    | 40 => exact Or.inl zd_gc40
    | 41 => exact Or.inl zd_gc41
    | 42 => exact Or.inl zd_gc42
    | 43 => exact Or.inl zd_gc43
    | 44 => exact Or.inl zd_gc44
    | 45 => exact Or.inl zd_gc45
    | 46 => exact Or.inl zd_gc46
    | 47 => exact Or.inl zd_gc47
    | 48 => exact Or.inl zd_gc48
    | 49 => exact Or.inl zd_gc49
    | 50 => exact Or.inl zd_gc50
    | 51 => exact Or.inl zd_gc51
    | 52 => exact Or.inl zd_gc52
    | 53 => exact Or.inl zd_gc53
    | 54 => exact Or.inl zd_gc54
    | 55 => exact Or.inl zd_gc55
    | 56 => exact Or.inl zd_gc56
    | 57 => exact Or.inl zd_gc57
    | 58 => exact Or.inl zd_gc58
    | 59 => exact Or.inl zd_gc59
    | 60 => exact Or.inl zd_gc60
    | 61 => exact Or.inl zd_gc61
    | 62 => exact Or.inl zd_gc62
    | 63 => exact Or.inl zd_gc63
    | 64 => exact Or.inl zd_gc64
    | 65 => exact Or.inl zd_gc65
    | 66 => exact Or.inl zd_gc66
    | 67 => exact Or.inl zd_gc67
    | 68 => exact Or.inl zd_gc68
    | 69 => exact Or.inl zd_gc69
    | 70 => exact Or.inl zd_gc70
    | 71 => exact Or.inl zd_gc71
    | 72 => exact Or.inl zd_gc72
    | 73 => exact Or.inl zd_gc73
    | 74 => exact Or.inl zd_gc74
    | 75 => exact Or.inl zd_gc75
    | 76 => exact Or.inl zd_gc76
    | 77 => exact Or.inl zd_gc77
    | 78 => exact Or.inl zd_gc78
    | 79 => exact Or.inl zd_gc79
    | 80 => exact Or.inl zd_gc80
    | 81 => exact Or.inl zd_gc81
    | 82 => exact Or.inl zd_gc82
    | 83 => exact Or.inl zd_gc83
    | 84 => exact Or.inl zd_gc84
    | 85 => exact Or.inl zd_gc85
    | 86 => exact Or.inl zd_gc86
    | 87 => exact Or.inl zd_gc87
    | 88 => exact Or.inl zd_gc88
    | 89 => exact Or.inl zd_gc89
    | 90 => exact Or.inl zd_gc90
    | 91 => exact Or.inl zd_gc91
    | 92 => exact Or.inl zd_gc92
    | 93 => exact Or.inl zd_gc93
    | 94 => exact Or.inl zd_gc94
    | 95 => exact Or.inl zd_gc95
    | 96 => exact Or.inl zd_gc96
    | 97 => exact Or.inl zd_gc97
    | 98 => exact Or.inl zd_gc98
    | 99 => exact Or.inl zd_gc99
    | 100 => exact Or.inl zd_gc100
    | c + 101 => exact Or.inr (by omega)
  rcases h0 with h0 | h0
  · exact h0
  · omega
theorem zd_len0 : (zd_of 0).all (fun t => decide (t.length ≤ 101)) = true := by decide +kernel
theorem zd_m0 : zt_m[0]?.map (fun m => m.2.1) = some code := rfl
theorem zd_g_law : zd_g 0 = true := by
  unfold zd_g
  split
  · next m t hm ht =>
    have h1 : m.2.1 = code := by
      have h2 := zd_m0
      rw [hm] at h2
      exact Option.some.inj h2
    have hl := zd_len0
    rw [ht] at hl
    have hl : t.length ≤ 101 := by simpa using hl
    refine List.all_eq_true.mpr fun l hmem => ?_
    obtain ⟨c, hc⟩ := List.mem_iff_getElem?.mp hmem
    have h3 := zd_gcall c (Nat.lt_of_lt_of_le (List.getElem?_eq_some_iff.mp hc).1 hl)
    unfold zd_gc at h3
    rw [ht] at h3
    dsimp only at h3
    rw [hc] at h3
    rw [h1]
    exact h3
  · rfl

/-! ===== a node put into another ===== -/
section ZPU
variable {h : zx_H} {q : Nat}
theorem zIsN.is (x : zIsN h q) : zf_is 8 q h = some () := by
  obtain ⟨fs, e, _⟩ := x
  exact zh_is e
theorem zf_J_of {ci k q : Nat} {v : Int64} (e : zf_get ci k q h = some (.long v)) : zf_J ci k q h = some v := by
  unfold zf_J
  rw [e]
  rfl
theorem zBd.put {d e k : Nat} {f : Int32} {x : Int64} {l l' : List Nat} (B : zBd d h q e f x k l l') {c ec kc : Nat} {y : Int64} (hec : e ≤ c) (N : zNo d h c ec kc) (hc : zIsN h c) (h4 : zf_N 8 4 c h = some none) (hy : zf_J 8 1 c h = some y) (hlen : l.length ≤ 200) : ∃ g l'', f_Node_put q c h = some ((), g) ∧ zBd d g q ec f (if f = 1 then x &&& y else x ||| y) (k + kc) (l ++ [c]) l'' ∧ zKp (fun u _ => u = q ∨ (q < u ∧ u < ec)) h g := by
  obtain ⟨b0, b1, b2, b3, b4, ⟨a, b5, b6⟩, ⟨b, b7, b8⟩, b9, b10, b11, b12, b13, b14, K, E, b15, b16, b17, b18⟩ := B
  have hce := zNo_lt N
  have hqc : q ≠ c := by omega
  have hcl : c ∉ l := fun z => by have := (b17 c z).2.1; have := zNo_lt (b17 c z).2.2.1; omega
  have hql : q ∉ l := fun z => by have := (b17 q z).1; omega
  have hle : ∀ u ∈ l, u < e := fun u z => by have := (b17 u z).2.1; have := zNo_lt (b17 u z).2.2.1; omega
  generalize hx' : (if f = 1 then x &&& y else x ||| y) = x'
  obtain ⟨g1, r1, v1, k1⟩ := zNput (k := 1) b0 (by decide) (.long x')
  have n3 : zf_N 8 3 q g1 = zf_N 8 3 q h := zf_N_c (k1.1 3 q (fun z => absurd z.2 (by decide)))
  -- told
  have stA : ∃ g3, (f_Node_put_30 q c q x' h = zf_b2 (f_Node_putByCounts q c g3) fun _ h7 => some ((), h7)) ∧ zKp (fun u j => (u = q ∧ (j = 1 ∨ j = 2 ∨ j = 3)) ∨ (u ∈ l ∧ j = 4)) h g3 ∧ zf_J 8 1 q g3 = some x' ∧ zf_N 8 3 q g3 = some (some c) ∧ ∃ a, zf_N 8 2 q g3 = some a ∧ zCh 4 g3 (l ++ [c]) a := by
    rcases b9 with ⟨e1, e2⟩ | ⟨l1, t, e1, e2⟩
    · obtain ⟨g2, r2, v2, k2⟩ := zNput (k := 2) (k1.2.1 q b0) (by decide) (.ref c)
      obtain ⟨g3, r3, v3, k3⟩ := zNput (k := 3) (k2.2.1 q (k1.2.1 q b0)) (by decide) (.ref c)
      refine ⟨g3, ?_, (k1.w fun u j z => Or.inl ⟨z.1, Or.inl z.2⟩).t ((k2.w fun u j z => Or.inl ⟨z.1, Or.inr (Or.inl z.2)⟩).t (k3.w fun u j z => Or.inl ⟨z.1, Or.inr (Or.inr z.2)⟩)), zf_J_of ((k3.1 1 q (fun z => absurd z.2 (by decide))).trans ((k2.1 1 q (fun z => absurd z.2 (by decide))).trans v1)), zf_N_of v3, some c, zf_N_of ((k3.1 2 q (fun z => absurd z.2 (by decide))).trans v2), ?_⟩
      · unfold f_Node_put_30
        rw [ze_b r1, ze_b (n3.trans e2)]
        show zf_b (zf_put 8 2 q (.ref c) g1) _ = _
        rw [ze_b r2, ze_b r3, ze_b (k3.2.1 q (k2.2.1 q (k1.2.1 q b0))).is]
      · rw [e1]
        refine ⟨rfl, none, ?_, rfl⟩
        exact (zf_N_c ((k3.1 4 c (fun z => absurd z.2 (by decide))).trans ((k2.1 4 c (fun z => absurd z.2 (by decide))).trans (k1.1 4 c (fun z => absurd z.2 (by decide)))))).trans h4
    · have htl : t ∈ l := by rw [e1]; exact List.mem_append.mpr (Or.inr (List.mem_cons_self ..))
      have htq : t ≠ q := fun z => hql (by rw [← z]; exact htl)
      have htc : t ≠ c := fun z => hcl (by rw [← z]; exact htl)
      obtain ⟨g2, r2, v2, k2⟩ := zNput (k := 4) (k1.2.1 t (b17 t htl).2.2.2.1) (by decide) (.ref c)
      obtain ⟨g3, r3, v3, k3⟩ := zNput (k := 3) (k2.2.1 q (k1.2.1 q b0)) (by decide) (.ref c)
      refine ⟨g3, ?_, (k1.w fun u j z => Or.inl ⟨z.1, Or.inl z.2⟩).t ((k2.w fun u j z => Or.inr ⟨by rw [z.1]; exact htl, z.2⟩).t (k3.w fun u j z => Or.inl ⟨z.1, Or.inr (Or.inr z.2)⟩)), zf_J_of ((k3.1 1 q (fun z => absurd z.2 (by decide))).trans ((k2.1 1 q (fun z => absurd z.2 (by decide))).trans v1)), zf_N_of v3, a, ?_, ?_⟩
      · unfold f_Node_put_30
        rw [ze_b r1, ze_b (n3.trans e2)]
        show zf_b (zf_N 8 3 q g1) _ = _
        rw [ze_b (n3.trans e2)]
        show zf_b (zf_put 8 4 t (.ref c) g1) _ = _
        rw [ze_b r2, ze_b r3, ze_b (k3.2.1 q (k2.2.1 q (k1.2.1 q b0))).is]
      · exact (zf_N_c ((k3.1 2 q (fun z => absurd z.2 (by decide))).trans ((k2.1 2 q (fun z => absurd z.2 (by decide))).trans (k1.1 2 q (fun z => absurd z.2 (by decide)))))).trans b5
      · have b6' : zCh 4 h (l1 ++ t :: []) a := by rw [e1] at b6; exact b6
        have b10' : zNd (l1 ++ t :: []) := by rw [e1] at b10; exact b10
        rw [e1, List.append_assoc]
        show zCh 4 g3 (l1 ++ t :: c :: []) a
        refine zCh_i b6' (zCh_last b6') (fun u hu => ?_) (zf_N_of ((k3.1 4 t (fun z => absurd z.2 (by decide))).trans v2)) ?_
        · have hut : u ≠ t := fun z => zNd_m b10' (by rw [← z]; exact hu)
          exact (k3.1 4 u (fun z => absurd z.2 (by decide))).trans ((k2.1 4 u (fun z => hut z.1)).trans (k1.1 4 u (fun z => absurd z.2 (by decide))))
        · exact (zf_N_c ((k3.1 4 c (fun z => absurd z.2 (by decide))).trans ((k2.1 4 c (fun z => htc z.1.symm)).trans (k1.1 4 c (fun z => absurd z.2 (by decide)))))).trans h4
  obtain ⟨g3, r3, kA, j3, t3, a3, f3, c3⟩ := stA
  -- by counts
  have hA : ∀ j u, (j = 0 ∨ j = 5 ∨ j = 6) → zf_get 8 j u g3 = zf_get 8 j u h := fun j u hj => kA.1 j u fun z => by
    rcases z with ⟨_, z⟩ | ⟨_, z⟩ <;> omega
  have hA1 : ∀ u, u ≠ q → zf_get 8 1 u g3 = zf_get 8 1 u h := fun u hu => kA.1 1 u fun z => by
    rcases z with ⟨z, _⟩ | ⟨_, z⟩
    · exact hu z
    · omega
  obtain ⟨g4, m1, m2, b', r4, e4, f4, c4, kB⟩ := zputC (h := g3) (p := q) (c := c) (f := f) (x := y) (l' := l') (b := b) (kA.2.1 c hc) (kA.2.1 q b0) hqc ((zf_I_c (hA 0 q (Or.inl rfl))).trans b1) ((zf_J_c (hA1 c (Ne.symm hqc))).trans hy) (fun z => hcl ((b12 c).mp z)) b11 (fun z => hql ((b12 q).mp z)) (fun u hu => by
    have hu := (b12 u).mp hu
    obtain ⟨yu, hyu⟩ := (b17 u hu).2.2.2.2
    exact ⟨kA.2.1 u (b17 u hu).2.2.2.1, yu, (zf_J_c (hA1 u (fun z => hql (by rw [← z]; exact hu)))).trans hyu⟩) ((zf_N_c (hA 5 q (Or.inr (Or.inl rfl)))).trans b7) (zCh_c (fun u _ => hA 6 u (Or.inr (Or.inr rfl))) b8) zF [] l' b rfl (by rw [b13]; unfold zF; omega) (zCh_c (fun u _ => hA 6 u (Or.inr (Or.inr rfl))) b8) none (Or.inl ⟨rfl, rfl⟩)
  have hB : ∀ j u, ¬ (j = 6 ∧ (u = c ∨ u ∈ l)) → ¬ (j = 5 ∧ u = q) → zf_get 8 j u g4 = zf_get 8 j u g3 := fun j u z1 z2 => kB.1 j u fun z => by
    rcases z with ⟨z, w⟩ | z
    · exact z1 ⟨z, w.elim Or.inl (fun w => Or.inr ((b12 u).mp w))⟩
    · exact z2 z
  have kAB : zKp (fun u j => (u = q ∧ (j = 1 ∨ j = 2 ∨ j = 3 ∨ j = 5)) ∨ (u = c ∧ j = 6) ∨ (u ∈ l ∧ (j = 4 ∨ j = 6))) h g4 := by
    refine (kA.w fun u j z => ?_).t (kB.w fun u j z => ?_)
    · rcases z with ⟨z, w⟩ | ⟨z, w⟩
      · exact Or.inl ⟨z, by omega⟩
      · exact Or.inr (Or.inr ⟨z, Or.inl w⟩)
    · rcases z with ⟨z, w | w⟩ | ⟨z, w⟩
      · exact Or.inr (Or.inl ⟨w, z⟩)
      · exact Or.inr (Or.inr ⟨(b12 u).mp w, Or.inr z⟩)
      · exact Or.inl ⟨w, by omega⟩
  have hput : f_Node_put q c h = some ((), g4) := by
    have rC : f_Node_putByCounts q c g3 = some ((), g4) := by
      unfold f_Node_putByCounts
      rw [ze_b ((zf_N_c (hA 5 q (Or.inr (Or.inl rfl)))).trans b7)]
      exact r4
    rw [ze_b2 rC] at r3
    unfold f_Node_put
    rw [ze_b b1]
    by_cases h1 : f = 1
    · rw [if_pos h1] at hx'
      rw [if_neg (fun z => z h1), ze_b b2, ze_b hy, hx']
      exact r3
    · rw [if_neg h1] at hx'
      rw [if_pos h1, ze_b b2, ze_b hy, hx']
      exact r3
  have hKc : ∀ u ∈ l, (if u = c then kc else K u) = K u := fun u hu => if_neg (fun z => hcl (by rw [← z]; exact hu))
  have hEc : ∀ u ∈ l, (if u = c then ec else E u) = E u := fun u hu => if_neg (fun z => hcl (by rw [← z]; exact hu))
  have hsum : ∀ (s1 s2 : List Nat), zSm K (s1 ++ s2) = k → (∀ u ∈ s1 ++ s2, u ∈ l) → zSm (fun u => if u = c then kc else K u) (s1 ++ c :: s2) = k + kc := by
    intro s1 s2 hs hm
    rw [zSm_i, zSm_c (K := K) fun u hu => hKc u (hm u hu), hs]
    show k + (if c = c then kc else K c) = _
    rw [if_pos rfl]
  have el : l ++ ([] : List Nat) = l := List.append_nil l
  refine ⟨g4, m1 ++ c :: m2, hput, ⟨kAB.2.1 q b0, ?_, ?_, ?_, ?_, ⟨a3, ?_, ?_⟩, ⟨b', f4, c4⟩, Or.inr ⟨l, c, rfl, ?_⟩, ?_, ?_, ?_, ?_, by omega, (fun u => if u = c then kc else K u), (fun u => if u = c then ec else E u), ?_, ?_, fun u hu => ?_, fun u u' hu hu' huu => ?_⟩, kAB.w fun u j z => ?_⟩
  · exact (zf_I_c ((hB 0 q (fun z => absurd z.1 (by decide)) (fun z => absurd z.1 (by decide))).trans (hA 0 q (Or.inl rfl)))).trans b1
  · exact (zf_J_c (hB 1 q (fun z => absurd z.1 (by decide)) (fun z => absurd z.1 (by decide)))).trans j3
  · exact (zf_N_c (kAB.1 4 q fun z => by
      rcases z with ⟨_, z⟩ | ⟨_, z⟩ | ⟨z, _⟩
      · omega
      · omega
      · exact hql z)).trans b3
  · exact (zf_N_c (kAB.1 6 q fun z => by
      rcases z with ⟨_, z⟩ | ⟨z, _⟩ | ⟨z, _⟩
      · omega
      · exact hqc z
      · exact hql z)).trans b4
  · exact (zf_N_c (hB 2 q (fun z => absurd z.1 (by decide)) (fun z => absurd z.1 (by decide)))).trans f3
  · exact zCh_c (fun u _ => hB 4 u (fun z => absurd z.1 (by decide)) (fun z => absurd z.1 (by decide))) c3
  · exact (zf_N_c (hB 3 q (fun z => absurd z.1 (by decide)) (fun z => absurd z.1 (by decide)))).trans t3
  · exact zNd_i (by rw [el]; exact b10) (by rw [el]; exact hcl)
  · exact zNd_i (by rw [← e4]; exact b11) (fun z => hcl ((b12 c).mp (by rw [e4]; exact z)))
  · intro u
    constructor
    · intro z
      rcases List.mem_append.mp z with z | z
      · exact List.mem_append.mpr (Or.inl ((b12 u).mp (by rw [e4]; exact List.mem_append.mpr (Or.inl z))))
      · rcases List.mem_cons.mp z with z | z
        · exact List.mem_append.mpr (Or.inr (by rw [z]; exact List.mem_cons_self ..))
        · exact List.mem_append.mpr (Or.inl ((b12 u).mp (by rw [e4]; exact List.mem_append.mpr (Or.inr z))))
    · intro z
      rcases List.mem_append.mp z with z | z
      · have z := (b12 u).mpr z
        rw [e4] at z
        rcases List.mem_append.mp z with z | z
        · exact List.mem_append.mpr (Or.inl z)
        · exact List.mem_append.mpr (Or.inr (List.mem_cons_of_mem _ z))
      · rw [List.mem_singleton.mp z]
        exact List.mem_append.mpr (Or.inr (List.mem_cons_self ..))
  · rw [List.length_append, List.length_append]
    rw [e4, List.length_append] at b13
    show m1.length + (m2.length + 1) = l.length + 1
    omega
  · exact hsum l [] (by rw [el]; exact b15) (fun u hu => by rw [el] at hu; exact hu)
  · exact hsum m1 m2 (by rw [← e4]; exact b16) (fun u hu => (b12 u).mp (by rw [e4]; exact hu))
  · rcases List.mem_append.mp hu with hu | hu
    · have z := b17 u hu
      obtain ⟨yu, hyu⟩ := z.2.2.2.2
      refine ⟨z.1, ?_, ?_, kAB.2.1 u z.2.2.2.1, yu, (zf_J_c (kAB.1 1 u fun w => ?_)).trans hyu⟩
      · show (if u = c then ec else E u) ≤ ec
        rw [hEc u hu]; omega
      · show zNo d g4 u (if u = c then ec else E u) (if u = c then kc else K u)
        rw [hEc u hu, hKc u hu]
        refine zNo_f z.2.2.1 fun w j w1 w2 w3 => kAB.1 j w fun P => ?_
        rcases P with ⟨P, _⟩ | ⟨P, _⟩ | ⟨P, P2⟩
        · omega
        · omega
        · rcases Nat.lt_or_ge u w with w4 | w4
          · have := b18 u w hu P w4
            omega
          · have := w3 (by omega)
            omega
      · rcases w with ⟨w, _⟩ | ⟨_, w⟩ | ⟨_, w⟩
        · omega
        · omega
        · omega
    · have hu := List.mem_singleton.mp hu
      subst hu
      refine ⟨by omega, ?_, ?_, kAB.2.1 u hc, y, (zf_J_c (kAB.1 1 u fun w => ?_)).trans hy⟩
      · show (if u = u then ec else E u) ≤ ec
        rw [if_pos rfl]
        exact Nat.le_refl _
      · show zNo d g4 u (if u = u then ec else E u) (if u = u then kc else K u)
        rw [if_pos rfl, if_pos rfl]
        refine zNo_f N fun w j w1 w2 w3 => kAB.1 j w fun P => ?_
        rcases P with ⟨P, _⟩ | ⟨P, P2⟩ | ⟨P, P2⟩
        · omega
        · have := w3 P
          omega
        · have := hle w P
          omega
      · rcases w with ⟨w, _⟩ | ⟨_, w⟩ | ⟨w, _⟩
        · omega
        · omega
        · exact hcl w
  · show (if u = c then ec else E u) ≤ u'
    rcases List.mem_append.mp hu with hu | hu
    · rw [hEc u hu]
      rcases List.mem_append.mp hu' with hu' | hu'
      · exact b18 u u' hu hu' huu
      · have := List.mem_singleton.mp hu'
        have := (b17 u hu).2.1
        omega
    · have hu := List.mem_singleton.mp hu
      rcases List.mem_append.mp hu' with hu' | hu'
      · have := hle u' hu'
        omega
      · have := List.mem_singleton.mp hu'
        omega
  · rcases z with ⟨z, _⟩ | ⟨z, _⟩ | ⟨z, _⟩
    · exact Or.inl z
    · exact Or.inr ⟨by omega, by omega⟩
    · exact Or.inr ⟨(b17 u z).1, by have := hle u z; omega⟩
end ZPU

/-! ===== nodes ===== -/
section ZND
variable {h g : zx_H} {q : Nat}
def zIsN (h : zx_H) (q : Nat) : Prop := ∃ fs, h[q]? = some (.inr (8, fs)) ∧ fs.length = 7
/-- fields of nodes as they were, but for those in P -/
def zKp (P : Nat → Nat → Prop) (h g : zx_H) : Prop := (∀ j u, ¬ P u j → zf_get 8 j u g = zf_get 8 j u h) ∧ (∀ u, zIsN h u → zIsN g u) ∧ g.length = h.length ∧ zx_sz g = zx_sz h ∧ ∀ p, (∀ j, ¬ P p j) → g[p]? = h[p]?
theorem zKp.r {P : Nat → Nat → Prop} : zKp P h h := ⟨fun _ _ _ => rfl, fun _ x => x, rfl, rfl, fun _ _ => rfl⟩
theorem zKp.t {P : Nat → Nat → Prop} {h g k : zx_H} (a : zKp P h g) (b : zKp P g k) : zKp P h k := ⟨fun j u x => (b.1 j u x).trans (a.1 j u x), fun u x => b.2.1 u (a.2.1 u x), b.2.2.1.trans a.2.2.1, b.2.2.2.1.trans a.2.2.2.1, fun p x => (b.2.2.2.2 p x).trans (a.2.2.2.2 p x)⟩
theorem zKp.w {P Q : Nat → Nat → Prop} (a : zKp P h g) (x : ∀ u j, P u j → Q u j) : zKp Q h g := ⟨fun j u y => a.1 j u fun z => y (x u j z), a.2.1, a.2.2.1, a.2.2.2.1, fun p y => a.2.2.2.2 p fun j z => y j (x p j z)⟩
theorem zNput {t k : Nat} (N : zIsN h t) (hk : k < 7) (v : Value) : ∃ g, zf_put 8 k t v h = some g ∧ zf_get 8 k t g = some v ∧ zKp (fun u j => u = t ∧ j = k) h g := by
  obtain ⟨fs, e, hl⟩ := N
  have r := zh_put (k := k) (v := v) e (by omega)
  refine ⟨_, r, ?_, fun j u x => ?_, fun u y => ?_, zh_set_l, zh_set_sz e rfl, fun p hp => zh_set_n (fun y => hp k ⟨y.symm, rfl⟩)⟩
  · rw [zh_get (zh_set_s e), List.getElem?_set, if_pos rfl, if_pos (by omega)]
  · by_cases hu : u = t
    · subst hu
      rw [zh_get (zh_set_s e), zh_get e, List.getElem?_set, if_neg (fun y => x ⟨rfl, y.symm⟩)]
    · unfold zf_get
      rw [zh_set_n (fun y => hu y.symm)]
  · by_cases hu : u = t
    · subst hu
      exact ⟨_, zh_set_s e, by rw [List.length_set]; exact hl⟩
    · obtain ⟨f2, e2, l2⟩ := y
      exact ⟨f2, by rw [zh_set_n (fun y => hu y.symm)]; exact e2, l2⟩
theorem zN_as : ∀ (v : Option Nat), zf_asN (some (zx_rf v)) = some v
  | none => rfl
  | some _ => rfl
theorem zf_N_of {ci k q : Nat} {v : Option Nat} (e : zf_get ci k q h = some (zx_rf v)) : zf_N ci k q h = some v := by
  unfold zf_N
  rw [e]
  exact zN_as v
theorem zf_N_c {k q : Nat} (e : zf_get 8 k q g = zf_get 8 k q h) : zf_N 8 k q g = zf_N 8 k q h := by unfold zf_N; rw [e]
theorem zf_I_c {k q : Nat} (e : zf_get 8 k q g = zf_get 8 k q h) : zf_I 8 k q g = zf_I 8 k q h := by unfold zf_I; rw [e]
theorem zf_J_c {k q : Nat} (e : zf_get 8 k q g = zf_get 8 k q h) : zf_J 8 k q g = zf_J 8 k q h := by unfold zf_J; rw [e]
/-- nodes in a row, by field o -/
def zCh (o : Nat) (h : zx_H) : List Nat → Option Nat → Prop
  | [], x => x = none
  | c :: l, x => x = some c ∧ ∃ y, zf_N 8 o c h = some y ∧ zCh o h l y
theorem zCh_c {o : Nat} : ∀ {l : List Nat} {x : Option Nat}, (∀ u ∈ l, zf_get 8 o u g = zf_get 8 o u h) → zCh o h l x → zCh o g l x
  | [], _, _, e => e
  | c :: l, _, hg, ⟨e, y, e1, e2⟩ => ⟨e, y, (zf_N_c (hg c (List.mem_cons_self ..))).trans e1, zCh_c (fun u hu => hg u (List.mem_cons_of_mem _ hu)) e2⟩
/-- c put behind t -/
theorem zCh_i {o t c : Nat} : ∀ {l1 l2 : List Nat} {x y : Option Nat}, zCh o h (l1 ++ t :: l2) x → zf_N 8 o t h = some y → (∀ u ∈ l1 ++ l2, zf_get 8 o u g = zf_get 8 o u h) → zf_N 8 o t g = some (some c) → zf_N 8 o c g = some y → zCh o g (l1 ++ t :: c :: l2) x
  | [], l2, x, y, ⟨e, y', e1, e2⟩, ht, hg, gt, gc => by
    have : y' = y := Option.some.inj (e1.symm.trans ht)
    subst this
    exact ⟨e, some c, gt, rfl, y', gc, zCh_c hg e2⟩
  | a :: l1, l2, x, y, ⟨e, y', e1, e2⟩, ht, hg, gt, gc => ⟨e, y', (zf_N_c (hg a (List.mem_cons_self ..))).trans e1, zCh_i e2 ht (fun u hu => hg u (List.mem_cons_of_mem _ hu)) gt gc⟩
def zSm (K : Nat → Nat) : List Nat → Nat
  | [] => 0
  | c :: l => K c + zSm K l
theorem zSm_i {K : Nat → Nat} {c : Nat} : ∀ (l1 l2 : List Nat), zSm K (l1 ++ c :: l2) = zSm K (l1 ++ l2) + K c
  | [], l2 => Nat.add_comm ..
  | a :: l1, l2 => by
    show K a + zSm K (l1 ++ c :: l2) = K a + zSm K (l1 ++ l2) + K c
    rw [zSm_i l1 l2]
    omega
theorem zSm_c {K K' : Nat → Nat} : ∀ {l : List Nat}, (∀ c ∈ l, K' c = K c) → zSm K' l = zSm K l
  | [], _ => rfl
  | c :: l, e => by
    show K' c + zSm K' l = K c + zSm K l
    rw [e c (List.mem_cons_self ..), zSm_c fun u hu => e u (List.mem_cons_of_mem _ hu)]
def zNd : List Nat → Prop
  | [] => True
  | a :: l => a ∉ l ∧ zNd l
theorem zNd_i {c : Nat} : ∀ {l1 l2 : List Nat}, zNd (l1 ++ l2) → c ∉ l1 ++ l2 → zNd (l1 ++ c :: l2)
  | [], _, n, x => ⟨x, n⟩
  | a :: l1, l2, n, x => by
    refine ⟨fun y => ?_, zNd_i n.2 fun y => x (List.mem_cons_of_mem _ y)⟩
    rcases List.mem_append.mp y with y | y
    · exact n.1 (List.mem_append.mpr (Or.inl y))
    · rcases List.mem_cons.mp y with y | y
      · exact x (by rw [← y]; exact List.mem_cons_self ..)
      · exact n.1 (List.mem_append.mpr (Or.inr y))
theorem zNd_m {t : Nat} : ∀ {l1 l2 : List Nat}, zNd (l1 ++ t :: l2) → t ∉ l1 ++ l2
  | [], _, n => n.1
  | a :: l1, l2, n => fun y => by
    rcases List.mem_cons.mp y with y | y
    · exact n.1 (by rw [← y]; exact List.mem_append.mpr (Or.inr (List.mem_cons_self ..)))
    · exact zNd_m n.2 y
/-- a tree of nodes: its root at q, all of it before e; k tests -/
def zNo : Nat → zx_H → Nat → Nat → Nat → Prop
  | 0, _, _, _, _ => False
  | d + 1, h, q, e, k => q < e ∧ ((zf_I 8 0 q h = some 0 ∧ k = 1) ∨ ∃ (f : Int32) (l l' : List Nat) (a b : Option Nat) (K E : Nat → Nat), zf_I 8 0 q h = some f ∧ (f = 1 ∨ f = 2) ∧ zf_N 8 2 q h = some a ∧ zf_N 8 5 q h = some b ∧ zCh 4 h l a ∧ zCh 6 h l' b ∧ l ≠ [] ∧ l' ≠ [] ∧ zSm K l = k ∧ zSm K l' = k ∧ l.length ≤ 160 ∧ l'.length ≤ 160 ∧ (∀ c ∈ l', c ∈ l) ∧ ∀ c ∈ l, q < c ∧ E c ≤ e ∧ zNo d h c (E c) (K c) ∧ ∃ y, zf_J 8 1 c h = some y)
theorem zNo_lt : ∀ {d : Nat} {h : zx_H} {q e k : Nat}, zNo d h q e k → q < e
  | 0, _, _, _, _, x => x.elim
  | _ + 1, _, _, _, _, x => x.1
theorem zNo_k : ∀ {d : Nat} {h : zx_H} {q e k : Nat}, zNo d h q e k → 1 ≤ k
  | 0, _, _, _, _, x => x.elim
  | d + 1, h, q, e, k, x => by
    rcases x.2 with ⟨_, x⟩ | ⟨f, l, l', a, b, K, E, _, _, _, _, _, _, x1, _, x2, _, _, _, _, x3⟩
    · omega
    · cases l with
      | nil => exact absurd rfl x1
      | cons c l =>
        have := zNo_k (x3 c (List.mem_cons_self ..)).2.2.1
        have x2 : K c + zSm K l = k := x2
        omega
theorem zNo_f : ∀ {d : Nat} {q e k : Nat}, zNo d h q e k → (∀ u j, q ≤ u → u < e → (u = q → j = 0 ∨ j = 2 ∨ j = 5) → zf_get 8 j u g = zf_get 8 j u h) → zNo d g q e k
  | 0, _, _, _, x, _ => x.elim
  | d + 1, q, e, k, ⟨hq, x⟩, hg => by
    refine ⟨hq, ?_⟩
    have q0 := hg q 0 (Nat.le_refl _) hq (fun _ => Or.inl rfl)
    rcases x with ⟨x, y⟩ | ⟨f, l, l', a, b, K, E, x0, x1, x2, x3, x4, x5, x6, x7, x8, x9, x10, x11, x12, x13⟩
    · exact Or.inl ⟨(zf_I_c q0).trans x, y⟩
    · have hin : ∀ c ∈ l, ∀ u j, c ≤ u → u < E c → zf_get 8 j u g = zf_get 8 j u h := fun c hc u j h1 h2 => hg u j (by have := (x13 c hc).1; omega) (by have := (x13 c hc).2.1; omega) (fun h3 => by have := (x13 c hc).1; omega)
      have hin2 : ∀ c ∈ l, ∀ j, zf_get 8 j c g = zf_get 8 j c h := fun c hc j => hin c hc c j (Nat.le_refl _) (zNo_lt (x13 c hc).2.2.1)
      refine Or.inr ⟨f, l, l', a, b, K, E, (zf_I_c q0).trans x0, x1, (zf_N_c (hg q 2 (Nat.le_refl _) hq (fun _ => Or.inr (Or.inl rfl)))).trans x2, (zf_N_c (hg q 5 (Nat.le_refl _) hq (fun _ => Or.inr (Or.inr rfl)))).trans x3, zCh_c (fun u hu => hin2 u hu 4) x4, zCh_c (fun u hu => hin2 u (x12 u hu) 6) x5, x6, x7, x8, x9, x10, x11, x12, fun c hc => ⟨(x13 c hc).1, (x13 c hc).2.1, ?_, ?_⟩⟩
      · exact zNo_f (x13 c hc).2.2.1 fun u j h1 h2 _ => hin c hc u j h1 h2
      · obtain ⟨y, hy⟩ := (x13 c hc).2.2.2
        exact ⟨y, (zf_J_c (hin2 c hc 1)).trans hy⟩
theorem zNo_e : ∀ {d : Nat} {q e e' k : Nat}, zNo d h q e k → e ≤ e' → zNo d h q e' k
  | 0, _, _, _, _, x, _ => x.elim
  | _ + 1, _, _, _, _, ⟨hq, x⟩, he => by
    refine ⟨by omega, ?_⟩
    rcases x with x | ⟨f, l, l', a, b, K, E, x0, x1, x2, x3, x4, x5, x6, x7, x8, x9, x10, x11, x12, x13⟩
    · exact Or.inl x
    · exact Or.inr ⟨f, l, l', a, b, K, E, x0, x1, x2, x3, x4, x5, x6, x7, x8, x9, x10, x11, x12, fun c hc => ⟨(x13 c hc).1, by have := (x13 c hc).2.1; omega, (x13 c hc).2.2⟩⟩
theorem zNo_d : ∀ {d : Nat} {q e k : Nat}, zNo d h q e k → zNo (d + 1) h q e k
  | 0, _, _, _, x => x.elim
  | d + 1, _, _, _, ⟨hq, x⟩ => by
    refine ⟨hq, ?_⟩
    rcases x with x | ⟨f, l, l', a, b, K, E, x0, x1, x2, x3, x4, x5, x6, x7, x8, x9, x10, x11, x12, x13⟩
    · exact Or.inl x
    · exact Or.inr ⟨f, l, l', a, b, K, E, x0, x1, x2, x3, x4, x5, x6, x7, x8, x9, x10, x11, x12, fun c hc => ⟨(x13 c hc).1, (x13 c hc).2.1, zNo_d (x13 c hc).2.2.1, (x13 c hc).2.2.2⟩⟩
/-- a node with its children so far: all before e -/
def zBd (d : Nat) (h : zx_H) (q e : Nat) (f : Int32) (x : Int64) (k : Nat) (l l' : List Nat) : Prop := zIsN h q ∧ zf_I 8 0 q h = some f ∧ zf_J 8 1 q h = some x ∧ zf_N 8 4 q h = some none ∧ zf_N 8 6 q h = some none ∧ (∃ a, zf_N 8 2 q h = some a ∧ zCh 4 h l a) ∧ (∃ b, zf_N 8 5 q h = some b ∧ zCh 6 h l' b) ∧ ((l = [] ∧ zf_N 8 3 q h = some none) ∨ ∃ l1 t, l = l1 ++ [t] ∧ zf_N 8 3 q h = some (some t)) ∧ zNd l ∧ zNd l' ∧ (∀ c, c ∈ l' ↔ c ∈ l) ∧ l'.length = l.length ∧ q < e ∧ ∃ (K E : Nat → Nat), zSm K l = k ∧ zSm K l' = k ∧ (∀ c ∈ l, q < c ∧ E c ≤ e ∧ zNo d h c (E c) (K c) ∧ zIsN h c ∧ ∃ y, zf_J 8 1 c h = some y) ∧ ∀ c c', c ∈ l → c' ∈ l → c < c' → E c ≤ c'
theorem zCh_last {o : Nat} : ∀ {l1 : List Nat} {t : Nat} {x : Option Nat}, zCh o h (l1 ++ [t]) x → zf_N 8 o t h = some none
  | [], _, _, ⟨_, y, e1, e2⟩ => by
    have e2 : y = none := e2
    rw [e1, e2]
  | _ :: _, _, _, ⟨_, _, _, e2⟩ => zCh_last e2
theorem zisFirst {p c t : Nat} {f : Int32} {x y : Int64} (hf : zf_I 8 0 p h = some f) (hx : zf_J 8 1 c h = some x) (hy : zf_J 8 1 t h = some y) : ∃ b : Bool, f_Node_isFirst p c t h = some (zb b, h) := by
  unfold f_Node_isFirst
  rw [ze_b hx, ze_b2 (zk_cnt x h), ze_b hy, ze_b2 (zk_cnt y h), ze_b hf]
  by_cases h1 : f = 1
  · rw [if_neg (fun z => z h1)]
    by_cases h2 : nI (fb_ct (zbt y) 64) ≤ nI (fb_ct (zbt x) 64)
    · rw [if_pos h2]; exact ⟨false, rfl⟩
    · rw [if_neg h2]; exact ⟨true, rfl⟩
  · rw [if_pos h1]
    by_cases h2 : nI (fb_ct (zbt x) 64) ≤ nI (fb_ct (zbt y) 64)
    · rw [if_pos h2]; exact ⟨false, rfl⟩
    · rw [if_neg h2]; exact ⟨true, rfl⟩
/-- put among the others by counts -/
theorem zputC {p c : Nat} {f : Int32} {x : Int64} (hc : zIsN h c) (hp : zIsN h p) (hpc : p ≠ c) (hf : zf_I 8 0 p h = some f) (hx : zf_J 8 1 c h = some x) {l' : List Nat} (hcl : c ∉ l') (hnd : zNd l') (hpl : p ∉ l') (hl : ∀ u ∈ l', zIsN h u ∧ ∃ y, zf_J 8 1 u h = some y) {b : Option Nat} (hb : zf_N 8 5 p h = some b) (hch : zCh 6 h l' b) : ∀ n (l1 l2 : List Nat) (y : Option Nat), l' = l1 ++ l2 → l2.length < n → zCh 6 h l2 y → ∀ z, ((l1 = [] ∧ z = none) ∨ ∃ l0 t, l1 = l0 ++ [t] ∧ z = some t ∧ zf_N 8 6 t h = some y) → ∃ g l1 l2 b', f_Node_putByCounts_7 n p c z y h = some ((), g) ∧ l' = l1 ++ l2 ∧ zf_N 8 5 p g = some b' ∧ zCh 6 g (l1 ++ c :: l2) b' ∧ zKp (fun u j => (j = 6 ∧ (u = c ∨ u ∈ l')) ∨ (j = 5 ∧ u = p)) h g := by
  have fin : ∀ (l1 l2 : List Nat) (y z : Option Nat), l' = l1 ++ l2 → ((l1 = [] ∧ z = none) ∨ ∃ l0 t, l1 = l0 ++ [t] ∧ z = some t ∧ zf_N 8 6 t h = some y) → ∃ g l1 l2 b', f_Node_putByCounts_30 p c z h = some ((), g) ∧ l' = l1 ++ l2 ∧ zf_N 8 5 p g = some b' ∧ zCh 6 g (l1 ++ c :: l2) b' ∧ zKp (fun u j => (j = 6 ∧ (u = c ∨ u ∈ l')) ∨ (j = 5 ∧ u = p)) h g := by
    intro l1 l2 y z e hz
    unfold f_Node_putByCounts_30
    rcases hz with ⟨e1, rfl⟩ | ⟨l0, t, e1, rfl, ht⟩
    · subst e1
      obtain ⟨g1, r1, v1, k1⟩ := zNput (k := 6) hc (by decide) (zx_rf b)
      obtain ⟨g2, r2, v2, k2⟩ := zNput (k := 5) (k1.2.1 p hp) (by decide) (.ref c)
      refine ⟨g2, [], l2, some c, ?_, e, zf_N_of v2, ⟨rfl, b, ?_, ?_⟩, (k1.w fun u j x => Or.inl ⟨x.2, Or.inl x.1⟩).t (k2.w fun u j x => Or.inr ⟨x.2, x.1⟩)⟩
      · show zf_b (zf_N 8 5 p h) _ = _
        rw [ze_b hb, ze_b r1, ze_b r2]
      · exact zf_N_of ((k2.1 6 c (fun x => absurd x.2 (by decide))).trans v1)
      · have e : l' = l2 := e
        rw [← e]
        refine zCh_c (fun u hu => (k2.1 6 u (fun x => absurd x.2 (by decide))).trans (k1.1 6 u fun x => hcl (by rw [← x.1]; exact hu))) hch
    · have htl : t ∈ l' := by rw [e, e1]; exact List.mem_append.mpr (Or.inl (List.mem_append.mpr (Or.inr (List.mem_cons_self ..))))
      have el : l' = l0 ++ t :: l2 := by rw [e, e1, List.append_assoc]; rfl
      obtain ⟨g1, r1, v1, k1⟩ := zNput (k := 6) hc (by decide) (zx_rf y)
      obtain ⟨g2, r2, v2, k2⟩ := zNput (k := 6) (k1.2.1 t (hl t htl).1) (by decide) (.ref c)
      have htc : t ≠ c := fun x => hcl (by rw [← x]; exact htl)
      refine ⟨g2, l0 ++ [t], l2, b, ?_, by rw [el, List.append_assoc]; rfl, ?_, ?_, (k1.w fun u j x => Or.inl ⟨x.2, Or.inl x.1⟩).t (k2.w fun u j x => Or.inl ⟨x.2, Or.inr (by rw [x.1]; exact htl)⟩)⟩
      · show zf_b (zf_N 8 6 t h) _ = _
        rw [ze_b ht, ze_b r1, ze_b r2]
      · exact (zf_N_c ((k2.1 5 p (fun x => absurd x.2 (by decide))).trans (k1.1 5 p (fun x => absurd x.2 (by decide))))).trans hb
      · rw [List.append_assoc]
        show zCh 6 g2 (l0 ++ t :: c :: l2) b
        rw [el] at hch hnd
        refine zCh_i hch ht (fun u hu => ?_) (zf_N_of v2) (zf_N_of ((k2.1 6 c (fun x => htc x.1.symm)).trans v1))
        have hut : u ≠ t := fun x => zNd_m hnd (by rw [← x]; exact hu)
        have huc : u ≠ c := fun x => hcl (by
          rw [el, ← x]
          rcases List.mem_append.mp hu with y | y
          · exact List.mem_append.mpr (Or.inl y)
          · exact List.mem_append.mpr (Or.inr (List.mem_cons_of_mem _ y)))
        exact (k2.1 6 u (fun x => hut x.1)).trans (k1.1 6 u (fun x => huc x.1))
  intro n
  induction n with
  | zero => intro l1 l2 y _ hn; exact absurd hn (Nat.not_lt_zero _)
  | succ n ih =>
    intro l1 l2 y e hn hy z hz
    unfold f_Node_putByCounts_7
    cases l2 with
    | nil =>
      have hy : y = none := hy
      subst hy
      exact fin l1 [] none z e hz
    | cons t l2 =>
      obtain ⟨ey, y2, e1, e2⟩ := hy
      subst ey
      have htl : t ∈ l' := by rw [e]; exact List.mem_append.mpr (Or.inr (List.mem_cons_self ..))
      obtain ⟨yt, hyt⟩ := (hl t htl).2
      obtain ⟨bb, hb2⟩ := zisFirst (p := p) hf hx hyt
      show ∃ g l1 l2 b', (zf_b (zf_is 8 p h) fun _ => _) = _ ∧ _
      have his : zf_is 8 p h = some () := by
        obtain ⟨fs, e9, _⟩ := hp
        exact zh_is e9
      rw [ze_b his, ze_b2 hb2]
      cases bb with
      | true =>
        rw [if_pos (show ¬ zb true = 0 by decide)]
        exact fin l1 (t :: l2) (some t) z e hz
      | false =>
        rw [if_neg (show ¬ ¬ zb false = 0 by decide), ze_b e1]
        exact ih (l1 ++ [t]) l2 y2 (by rw [e, List.append_assoc]; rfl) (by have hn : l2.length + 1 < n + 1 := hn; omega) e2 (some t) (Or.inr ⟨l1, t, rfl, rfl, e1⟩)
end ZND

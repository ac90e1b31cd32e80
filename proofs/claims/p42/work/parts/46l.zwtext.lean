/-! ===== wrong texts: lists of texts, numbers as texts ===== -/
section ZWA
variable {h g j : zx_H} {now : Nat} {ver : Nat → Nat → zT} {tx : List Nat} {pr : Nat × (Nat → Nat) × (Nat → Int32)} {gr : zT × Nat × Nat × (Nat → Int64) × (Nat → Nat → Bool)} {q pt a m k t p n : Nat} {w s u : List Nat} {T : zT}
/-- a text that stands, of either kind -/
def zSo (h : zx_H) (p : Nat) (u : List Nat) : Prop := zLit p u ∨ zStr h p u
theorem zSo.tex (s : zSo h p u) (hl : h.length ≤ 600000) : zTx h p u := by
  rcases s with s | s
  · exact s.tx hl
  · exact s.tx hl
theorem zStr.G0 (s : zStr h p u) (G : zG k 0 0 h g) : zStr g p u := by
  obtain ⟨b, x, y, f, e1, e2, r⟩ := s
  exact ⟨b, x, y, f, G.gt e1 (Or.inr (Nat.zero_le _)), G.gt e2 (Or.inr (Nat.zero_le _)), r⟩
theorem zSo.G (s : zSo h p u) (G : zG k 0 0 h g) : zSo g p u := by
  rcases s with s | s
  · exact Or.inl s
  · exact Or.inr (s.G0 G)
theorem zLit.kd (s : zLit p u) (hl : h.length ≤ 600000) {β : Type} (f : Nat → Option β) : zf_kd p h f = f 0 := by
  obtain ⟨c, e, rfl, hk, h2, h3⟩ := s
  obtain ⟨x1, x2⟩ := zx_x_s e hk
  have o1 : h[zx_lim + 1 + (600 + 2 * c)]? = none := zh_out hl (by show 600000 ≤ 1000000 + 1 + _; omega)
  unfold zf_kd zx_kl
  rw [o1]
  show (match (match zx_x (zx_lim + 1 + (600 + 2 * c)) with | some (.object _, .inr (ci, _)) => if ci = 999 then none else some ci | _ => none) with | some ci => f ci | none => none) = _
  rw [x1]
  rfl
/-- a text into a list of texts -/
theorem zh_stA {F : Nat → Option Nat} {c i : Nat} (e : h[q]? = some (.inl (6, 15, .inr (.inr (.inr (.inr F)))))) (s : zSo h c u) (hi : i < 15) (hl : h.length ≤ 600000) : ∃ g, zf_stA q (nI i) c h = some g ∧ g[q]? = some (.inl (6, 15, .inr (.inr (.inr (.inr (va_up F i (some c))))))) ∧ zU q 1 h g := by
  have hin : zx_in (nI i) 15 := vp_in_nI hi (by decide)
  refine ⟨h.set q (.inl (6, 15, .inr (.inr (.inr (.inr (va_up F i (some c))))))), ?_, zh_set_s e, zU_s e rfl (by omega)⟩
  unfold zf_stA
  rw [e]
  rcases s with s | s
  · obtain ⟨x, e2, rfl, hk, h2, h3⟩ := s
    obtain ⟨x1, x2⟩ := zx_x_s e2 hk
    have o1 : h[zx_lim + 1 + (600 + 2 * x)]? = none := zh_out hl (by show 600000 ≤ 1000000 + 1 + _; omega)
    rw [o1]
    show (match zx_x (zx_lim + 1 + (600 + 2 * x)) with | some (.object _, .inr (ci, _)) => if ci = 0 ∧ 0 ≠ 999 ∧ zx_in (nI i) 15 then some (h.set q (.inl (6, 15, .inr (.inr (.inr (.inr (va_up F (nI i).toNatClampNeg (some (zx_lim + 1 + (600 + 2 * x)))))))))) else none | _ => none) = _
    rw [x1]
    show (if 0 = 0 ∧ 0 ≠ 999 ∧ zx_in (nI i) 15 then _ else none) = _
    rw [if_pos ⟨rfl, by decide, hin⟩, nI_clamp (by omega)]
  · obtain ⟨b, x, y, f, e1, _⟩ := s
    rw [e1]
    show (if 0 = 0 ∧ 0 ≠ 999 ∧ zx_in (nI i) 15 then _ else none) = _
    rw [if_pos ⟨rfl, by decide, hin⟩, nI_clamp (by omega)]
def zsts {β : Type} (q : Nat) : List (Nat × Nat) → zx_H → (zx_H → Option β) → Option β
  | [], h, K => K h
  | (i, c) :: l, h, K => zf_b (zf_stA q (nI i) c h) fun g => zsts q l g K
def zfs (F : Nat → Option Nat) : List (Nat × Nat) → Nat → Option Nat
  | [] => F
  | (i, c) :: l => zfs (va_up F i (some c)) l
def zlits : List (Nat × Nat) → Prop
  | [] => True
  | x :: l => (x.1 < 15 ∧ ∃ u, zLit x.2 u) ∧ zlits l
theorem zsts_q {β : Type} {P : Option β → Prop} {K : zx_H → Option β} : ∀ (l : List (Nat × Nat)) (h : zx_H) (F : Nat → Option Nat), h[q]? = some (.inl (6, 15, .inr (.inr (.inr (.inr F))))) → h.length ≤ 600000 → zlits l → (∀ g, g[q]? = some (.inl (6, 15, .inr (.inr (.inr (.inr (zfs F l)))))) → zU q 1 h g → P (K g)) → P (zsts q l h K)
  | [], h, F, e, _, _, hP => hP h e zU_r
  | (i, c) :: l, h, F, e, hl, hz, hP => by
    obtain ⟨⟨hi, u, hu⟩, hz2⟩ := hz
    obtain ⟨g, e1, z1, U1⟩ := zh_stA (i := i) e (Or.inl hu : zSo h c u) hi hl
    show P (zf_b (zf_stA q (nI i) c h) fun g => zsts q l g K)
    rw [ze_b e1]
    exact zsts_q l g _ z1 (by rw [U1.1]; exact hl) hz2 fun g' z U => hP g' z (zU_t U1 U)
def zsti {β : Type} (q : Nat) : List (Nat × Nat) → zx_H → (zx_H → Option β) → Option β
  | [], h, K => K h
  | (i, x) :: l, h, K => zf_b (zf_stI q (nI i) (nI x) h) fun g => zsti q l g K
def zfi (f : Nat → Int32) : List (Nat × Nat) → Nat → Int32
  | [] => f
  | (i, x) :: l => zfi (upd f i (nI x)) l
theorem zsti_q {β : Type} {P : Option β → Prop} {K : zx_H → Option β} : ∀ (l : List (Nat × Nat)) (h : zx_H) (f : Nat → Int32), h[q]? = some (.inl (1, 15, .inl f)) → (∀ x ∈ l, x.1 < 15) → (∀ g, g[q]? = some (.inl (1, 15, .inl (zfi f l))) → zU q 1 h g → P (K g)) → P (zsti q l h K)
  | [], h, F, e, _, hP => hP h e zU_r
  | (i, x) :: l, h, f, e, hz, hP => by
    have e1 := zh_stI (j := i) (x := nI x) e (hz _ (List.mem_cons_self ..)) (by decide)
    show P (zf_b (zf_stI q (nI i) (nI x) h) fun g => zsti q l g K)
    have U1 : zU q 1 h (h.set q (.inl (1, 15, .inl (upd f i (nI x))))) := zU_s e rfl (by omega)
    rw [ze_b e1]
    exact zsti_q l _ _ (zh_set_s e) (fun y hy => hz y (List.mem_cons_of_mem _ hy)) fun g' z U => hP g' z (zU_t U1 U)
theorem zh_newR (hl : h.length < zx_lim) : zf_newr 6 (15 : Int32) h = some (h.length, h ++ [.inl (6, 15, .inr (.inr (.inr (.inr fun _ => none))))]) := by
  unfold zf_newr
  rw [if_pos ⟨by decide, by decide, hl⟩]
  rfl
/-- a builder's text, as an object, said -/
theorem zsb_say (s : zSB h q a m w) (W : zWd h now ver tx pr gr) (hw : w.length ≤ 160) (hc : ∀ c ∈ w, 1 ≤ c) (hm : m ≤ 18100) (hB : zM h ≤ 6900000) : ∃ g1 g2 r, f_StringBuilder_toString q h = some (r, g1) ∧ f_ColumnVaultLaw_says 1 r g1 = some ((), g2) ∧ zWd g2 now ver w pr gr ∧ zG (28 + m) 148 150 h g2 := by
  have hsc : ∀ c ∈ w, c < 128 := by
    obtain ⟨_, _, _, _, _, _, _, _, x⟩ := id s
    exact x
  have hwl := W.len
  obtain ⟨g1, e1, t1, G1, -, ⟨x, y, z1⟩, l1⟩ := zSB_toS2 s (by omega)
  have m1 := G1.m
  have hb : ∀ (b : Nat) (x' y' : Value), g1[h.length]? = some (.inr (0, [.ref b, .int 0, x', y'])) → b ≠ 148 ∧ b ≠ 149 := by
    intro b x' y' e
    rw [z1] at e
    have : h.length + 1 = b := by cases e; rfl
    exact ⟨by omega, by omega⟩
  have W1 := W.G G1 (Or.inr (by decide))
  obtain ⟨g2, e2, W2, G2⟩ := W1.says (p := h.length) (s := w) (fun g' G' => by
    have st : zStr g' h.length w := zStr.keep (q := 148) (a := 149) t1 (fun r hr h1 h2 => G'.2.2 r hr (by omega)) ⟨by omega, by omega⟩ hb
    have mm := G'.m
    obtain ⟨_, _, _, _, c1, _⟩ := id st
    exact zTx.cq (st.tx (zlen (h := g') (by omega))) (fun f => zh_kd c1)) hw (fun c hc' => ⟨hc c hc', by have := hsc c hc'; omega⟩)
  have m2 := G2.m
  refine ⟨g1, g2, h.length, e1, e2, W2, ⟨Nat.le_trans G1.l G2.l, by omega, fun p hp hx => ?_⟩⟩
  have := G1.l
  rw [G2.2.2 p (by omega) hx, G1.2.2 p hp (Or.inr (Nat.zero_le _))]
/-- "" + a number -/
theorem zwt_num (hn : n < 10 ^ 8) (hB : zM h ≤ 6800000) : ∃ g r ds, (∀ K : Nat → zx_H → Option ((Int32 ⊕ Nat) × zx_H), (zf_b2 (zf_new 1 h) fun q25 h26 => zf_b2 (f_StringBuilder_init q25 h26) fun _ h28 => zf_b (zf_is 1 q25 h28) fun _ => zf_b2 (f_StringBuilder_appendq3 q25 (zx_lim + 1 + 604) h28) fun v29 h30 => zf_b (zf_is 1 v29 h30) fun _ => zf_b2 (f_StringBuilder_appendq2 v29 (nI n) h30) fun v31 h32 => zf_b (zf_is 1 v31 h32) fun _ => zf_b2 (f_StringBuilder_toString v31 h32) fun v33 h34 => K v33 h34) = K r g) ∧ zStr g r ds ∧ (∀ c ∈ ds, 48 ≤ c ∧ c ≤ 57) ∧ ds ≠ [] ∧ zvf ds 0 = n ∧ ds.length ≤ 8 ∧ zG 250 0 0 h g := by
  obtain ⟨h2, h3, n1, n2, s3, G3, l3⟩ := zSB_new2 (h := h) (by omega)
  have m3 := G3.m
  obtain ⟨h4, a4, k4, e4, s4, st4, b4⟩ := zSB_str s3 (u := []) (p := zx_lim + 1 + 604) (fun g _ hg _ => zl_604.tx (zlen (h := g) (by omega))) (by decide) (by omega)
  have b4 : k4 ≤ 16 ∨ k4 ≤ 0 := b4
  obtain ⟨x1, x2, x3, x4, x5⟩ := id st4
  have hk4 : k4 = 16 := by omega
  subst hk4
  have G4 : zG (48 + 2 * 16 + 10) 0 0 h h4 := st4.fr G3 (Nat.le_refl _) (by omega)
  have m4 := G4.m
  have l4 := G4.l
  rw [List.append_nil] at s4
  obtain ⟨h5, a5, k5, ds, e5, s5, st5, b5, d1, d2, d3, d4, d5⟩ := zSB_int2 s4 (n := n) (neg := false) hn (fun y => absurd y (by decide)) (by decide) (by omega)
  have e5 : f_StringBuilder_appendq2 h.length (nI n) h4 = some (h.length, h5) := e5
  have b5 : k5 ≤ 16 ∨ k5 ≤ 2 * (0 + 9) := b5
  obtain ⟨y1, y2, y3, y4, y5⟩ := id st5
  have G5 : zG (48 + 2 * 16 + 10 + 2 * k5 + 10) 0 0 h h5 := st5.fr G4 (Nat.le_refl _) (by omega)
  have m5 := G5.m
  obtain ⟨g, e6, t6, G6, _⟩ := zSB_toS s5 (by omega)
  refine ⟨g, h5.length, ds, fun K => ?_, t6, d1, d2, d3, d4, (G5.t G6).w (by omega) (Nat.le_refl _) (Nat.le_refl _)⟩
  rw [ze_b2 n1, ze_b2 n2, ze_b s3.is, ze_b2 e4, ze_b s4.is, ze_b2 e5, ze_b s5.is, ze_b2 e6]
/-- "#" + a number + "=1" -/
theorem zwt_col (hn : n < 10) (hB : zM h ≤ 6800000) : ∃ g r, (∀ K : Nat → zx_H → Option ((Int32 ⊕ Nat) × zx_H), (zf_b2 (zf_new 1 h) fun q48 h49 => zf_b2 (f_StringBuilder_init q48 h49) fun _ h51 => zf_b (zf_is 1 q48 h51) fun _ => zf_b2 (f_StringBuilder_appendq3 q48 (zx_lim + 1 + 600) h51) fun v52 h53 => zf_b (zf_is 1 v52 h53) fun _ => zf_b2 (f_StringBuilder_appendq2 v52 (nI n) h53) fun v54 h55 => zf_b (zf_is 1 v54 h55) fun _ => zf_b2 (f_StringBuilder_appendq3 v54 (zx_lim + 1 + 678) h55) fun v56 h57 => zf_b (zf_is 1 v56 h57) fun _ => zf_b2 (f_StringBuilder_toString v56 h57) fun v58 h59 => K v58 h59) = K r g) ∧ zStr g r [35, 48 + n, 61, 49] ∧ zG 300 0 0 h g := by
  obtain ⟨h2, h3, n1, n2, s3, G3, l3⟩ := zSB_new2 (h := h) (by omega)
  have m3 := G3.m
  obtain ⟨h4, a4, k4, e4, s4, st4, b4⟩ := zSB_str s3 (u := [35]) (p := zx_lim + 1 + 600) (fun g _ hg _ => zl_600.tx (zlen (h := g) (by omega))) (by decide) (by omega)
  have b4 : k4 ≤ 16 ∨ k4 ≤ 2 := b4
  obtain ⟨x1, x2, x3, x4, x5⟩ := id st4
  have hk4 : k4 = 16 := by omega
  subst hk4
  have G4 : zG (48 + 2 * 16 + 10) 0 0 h h4 := st4.fr G3 (Nat.le_refl _) (by omega)
  have m4 := G4.m
  have l4 := G4.l
  have s4 : zSB h4 h.length a4 16 [35] := s4
  obtain ⟨h5, a5, k5, ds, e5, s5, st5, b5, d1, d2, d3, d4, d5⟩ := zSB_int2 s4 (n := n) (neg := false) (by omega) (fun y => absurd y (by decide)) (by decide) (by omega)
  have e5 : f_StringBuilder_appendq2 h.length (nI n) h4 = some (h.length, h5) := e5
  have b5 : k5 ≤ 16 ∨ k5 ≤ 2 * (1 + 9) := b5
  have eds : ds = [48 + n] := zd1 hn d1 d2 d3 d5
  subst eds
  have s5 : zSB h5 h.length a5 k5 [35, 48 + n] := s5
  obtain ⟨y1, y2, y3, y4, y5⟩ := id st5
  have G5 : zG (48 + 2 * 16 + 10 + 2 * k5 + 10) 0 0 h h5 := st5.fr G4 (Nat.le_refl _) (by omega)
  have m5 := G5.m
  have l5 := G5.l
  obtain ⟨h6, a6, k6, e6, s6, st6, b6⟩ := zSB_str s5 (u := [61, 49]) (p := zx_lim + 1 + 678) (fun g _ hg _ => zl_678.tx (zlen (h := g) (by omega))) (by show 2 + 2 ≤ _; omega) (by omega)
  have b6 : k6 ≤ k5 ∨ k6 ≤ 8 := b6
  have s6 : zSB h6 h.length a6 k6 [35, 48 + n, 61, 49] := s6
  obtain ⟨z1, z2, z3, z4, z5⟩ := id st6
  have G6 : zG (48 + 2 * 16 + 10 + 2 * k5 + 10 + 2 * k6 + 10) 0 0 h h6 := st6.fr G5 (Nat.le_refl _) (by omega)
  have m6 := G6.m
  obtain ⟨g, e7, t7, G7, _⟩ := zSB_toS s6 (by omega)
  refine ⟨g, h6.length, fun K => ?_, t7, (G6.t G7).w (by omega) (Nat.le_refl _) (Nat.le_refl _)⟩
  rw [ze_b2 n1, ze_b2 n2, ze_b s3.is, ze_b2 e4, ze_b s4.is, ze_b2 e5, ze_b s5.is, ze_b2 e6, ze_b s6.is, ze_b2 e7]
/-- a number too far -/
theorem ztk_far {ds : List Nat} (hd : ∀ c ∈ ds, 48 ≤ c ∧ c ≤ 57) (h0 : ds ≠ []) (hv : zvf ds 0 = n) (hn : 1000000 < n) (h8 : ds.length ≤ 8) : ztk ([35, 48, 32, 60, 32] ++ ds) = [(35, 0, 0), (60, 3, -1), (48, 5, -9000000000), (0, 5 + ds.length, -1)] := by
  have hlen : ([35, 48, 32, 60, 32] ++ ds).length = 5 + ds.length := List.length_append
  obtain ⟨c, w', rfl⟩ : ∃ c w', ds = c :: w' := by
    cases ds with
    | nil => exact absurd rfl h0
    | cons c w' => exact ⟨c, w', rfl⟩
  have hz : ∀ x ∈ c :: w', zdg x = true := fun x hx => decide_eq_true (hd x hx)
  have hc2 := hd c (List.mem_cons_self ..)
  unfold ztk
  rw [hlen]
  generalize hb : ztb ([35, 48, 32, 60, 32] ++ c :: w') = b
  have b0 : b 0 = 35 := by rw [← hb]; rfl
  have b1 : b 1 = 48 := by rw [← hb]; rfl
  have b2 : b 2 = 32 := by rw [← hb]; rfl
  have b3 : b 3 = 60 := by rw [← hb]; rfl
  have b4 : b 4 = 32 := by rw [← hb]; rfl
  have b5 : ∀ i, b (5 + i) = (c :: w').getD i 0 := fun i => by
    rw [← hb]
    exact zgdA2 [35, 48, 32, 60, 32] (c :: w') i
  have b5' : b 5 = c := b5 0
  have key : zln b 200 5 0 = (5 + (c :: w').length, lN (zdn (c :: w') 0)) := (zln_d (c :: w') 200 5 0 (fun i _ => b5 i) hz (by rw [b5, List.getD_eq_getElem?_getD, List.getElem?_eq_none (Nat.le_refl _)]; decide) (by omega) (by decide)).1
  have hsg : ¬ zsgn c = true := by
    intro x
    unfold zsgn at x
    simp at x
    omega
  have hlr : ¬ zlr c = true := fun x => by
    have x : 97 ≤ c ∧ c ≤ 122 := of_decide_eq_true x
    omega
  have t0 : zlt1 b 0 = ((35, 0, 0), 2) := by
    unfold zlt1
    rw [b0, b1, if_neg (by decide), if_pos rfl, if_pos (by decide)]
    rfl
  have t3 : zlt1 b 3 = ((60, 3, -1), 4) := by
    unfold zlt1
    rw [b3, if_pos (by decide)]
  have t5 : zlt1 b 5 = ((48, 5, -9000000000), 5 + (c :: w').length) := by
    unfold zlt1
    rw [b5', if_neg hsg, if_neg (show ¬ c = 35 by omega), if_neg hlr, if_pos (hz c (List.mem_cons_self ..)), key, zlv_far hv hn]
  generalize hL : 5 + (c :: w').length = L at t5
  have hL5 : 5 < L := by rw [← hL]; show 5 < 5 + (w'.length + 1); omega
  have x5 : zlx b L 156 L = [(0, L, -1)] := by
    rw [show 156 = 155 + 1 from rfl]
    unfold zlx
    rw [if_pos (Nat.le_refl _)]
  have x4 : zlx b L 157 5 = (48, 5, -9000000000) :: [(0, L, -1)] := by
    rw [show 157 = 156 + 1 from rfl]
    unfold zlx
    rw [if_neg (by omega), if_neg (by rw [b5']; omega), t5, x5]
  have x3 : zlx b L 158 4 = (48, 5, -9000000000) :: [(0, L, -1)] := by
    rw [show 158 = 157 + 1 from rfl]
    unfold zlx
    rw [if_neg (by omega), if_pos b4]
    exact x4
  have x2 : zlx b L 159 3 = (60, 3, -1) :: (48, 5, -9000000000) :: [(0, L, -1)] := by
    rw [show 159 = 158 + 1 from rfl]
    unfold zlx
    rw [if_neg (by omega), if_neg (by rw [b3]; decide), t3, x3]
  have x1 : zlx b L 160 2 = (60, 3, -1) :: (48, 5, -9000000000) :: [(0, L, -1)] := by
    rw [show 160 = 159 + 1 from rfl]
    unfold zlx
    rw [if_neg (by omega), if_pos b2]
    exact x2
  rw [show 161 = 160 + 1 from rfl]
  unfold zlx
  rw [if_neg (by omega), if_neg (by rw [b0]; decide), t0, x1]
def zwb (L n a b c : Nat) : Bool := zchk (zsh (zpW [(35, 0, 0), (60, 3, -1), (48, 5, -9000000000), (0, L, -1)] (zT0 n a b c))) 2 5
theorem zw_1b : (List.range 14).all (fun L => [1, 2, 3, 4].all fun n => [0, 1].all fun a => [0, 1].all fun b => [0, 1].all fun c => zwb L n a b c) = true := by decide +kernel
theorem zmem4 : ∀ n, n < 5 → 1 ≤ n → n ∈ [1, 2, 3, 4] := by decide
theorem zmem2 : ∀ n, n < 2 → n ∈ [0, 1] := by decide
theorem zw_1 {L : Nat} (hL : L < 14) : ∀ n, n < 5 → ∀ a, a < 2 → ∀ b, b < 2 → ∀ c, c < 2 → 1 ≤ n → zchk (zsh (zpW [(35, 0, 0), (60, 3, -1), (48, 5, -9000000000), (0, L, -1)] (zT0 n a b c))) 2 5 = true := fun n hn a ha b hb c hc h1 => List.all_eq_true.mp (List.all_eq_true.mp (List.all_eq_true.mp (List.all_eq_true.mp (List.all_eq_true.mp zw_1b L (List.mem_range.mpr hL)) n (zmem4 n hn h1)) a (zmem2 a ha)) b (zmem2 b hb)) c (zmem2 c hc)
end ZWA

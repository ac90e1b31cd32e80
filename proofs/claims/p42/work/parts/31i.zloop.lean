/-! ===== parts and filters, from their pieces ===== -/
section ZLO
variable {h g : zx_H} {L : List (Nat × Nat × Int64)} {T : zT} {q qs p : Nat} {ks : List Int64} {fk fp : Int32} {D : Nat}
/-- one after the other, each put into node n -/
def zlp (P : zx_H → Option (Option Nat × zx_H)) (s : Int32) (q n : Nat) : Nat → Int32 → Int32 → zx_H → Option (Option Nat × zx_H)
  | 0, _, _, _ => none
  | m + 1, p3, p4, h =>
    if (160 : Int32) ≤ p4 then
      some ((some n), h)
    else
      if p3 = 0 then
        some ((some n), h)
      else
        zf_b (zf_is 3 q h) fun _ =>
        zf_b2 (P h) fun v1 h2 =>
        zf_on v1 (
          some (none, h2)
        ) fun q3 =>
          zf_b (zf_is 8 n h2) fun _ =>
          zf_b2 (f_Node_put n q3 h2) fun _ h5 =>
          zf_b (zf_is 3 q h5) fun _ =>
          zf_b2 (f_FilterReader_takes q s h5) fun v6 h7 =>
          zlp P s q n m v6 (p4 + (1 : Int32)) h7
theorem zlp_part {M : Nat → Int32 → zx_H → Option (Option Nat × zx_H)} {o : Int32} {n : Nat} : ∀ m p3 p4 h, f_FilterReader_readPart_21 M m q o n p3 p4 h = zlp (fun h => f_FilterReader_readPiece M q o h) 38 q n m p3 p4 h := by
  intro m
  induction m with
  | zero => intro p3 p4 h; rfl
  | succ m ih =>
    intro p3 p4 h
    unfold f_FilterReader_readPart_21 zlp
    simp only [ih]
theorem zlp_filt {M : Nat → Int32 → zx_H → Option (Option Nat × zx_H)} {o : Int32} {n : Nat} : ∀ m p3 p4 h, f_FilterReader_readFilter_15 M m q o n p3 p4 h = zlp (fun h => f_FilterReader_readPart M q o h) 124 q n m p3 p4 h := by
  intro m
  induction m with
  | zero => intro p3 p4 h; rfl
  | succ m ih =>
    intro p3 p4 h
    unfold f_FilterReader_readFilter_15 zlp
    simp only [ih]
theorem zBd_f {d n e k : Nat} {f : Int32} {x : Int64} {l l' : List Nat} (B : zBd d h n e f x k l l') (hu : ∀ u, n ≤ u → u < e → g[u]? = h[u]?) : zBd d g n e f x k l l' := by
  obtain ⟨b0, b1, b2, b3, b4, ⟨a, b5, b6⟩, ⟨b, b7, b8⟩, b9, b10, b11, b12, b13, b14, K, E, b15, b16, b17, b18⟩ := B
  have hg : ∀ j u, n ≤ u → u < e → zf_get 8 j u g = zf_get 8 j u h := fun j u h1 h2 => by unfold zf_get; rw [hu u h1 h2]
  have hN : ∀ u, n ≤ u → u < e → zIsN h u → zIsN g u := fun u h1 h2 x => by
    obtain ⟨fs, e1, e2⟩ := x
    exact ⟨fs, (hu u h1 h2).trans e1, e2⟩
  have hl : ∀ c ∈ l, n ≤ c ∧ c < e := fun c hc => by
    have := b17 c hc
    have := zNo_lt this.2.2.1
    omega
  have nn := Nat.le_refl n
  refine ⟨hN n nn b14 b0, (zf_I_c (hg 0 n nn b14)).trans b1, (zf_J_c (hg 1 n nn b14)).trans b2, (zf_N_c (hg 4 n nn b14)).trans b3, (zf_N_c (hg 6 n nn b14)).trans b4, ⟨a, (zf_N_c (hg 2 n nn b14)).trans b5, zCh_c (fun u z => hg 4 u (hl u z).1 (hl u z).2) b6⟩, ⟨b, (zf_N_c (hg 5 n nn b14)).trans b7, zCh_c (fun u z => hg 6 u (hl u ((b12 u).mp z)).1 (hl u ((b12 u).mp z)).2) b8⟩, ?_, b10, b11, b12, b13, b14, K, E, b15, b16, fun c hc => ?_, b18⟩
  · rcases b9 with ⟨e1, e2⟩ | ⟨l1, t, e1, e2⟩
    · exact Or.inl ⟨e1, (zf_N_c (hg 3 n nn b14)).trans e2⟩
    · exact Or.inr ⟨l1, t, e1, (zf_N_c (hg 3 n nn b14)).trans e2⟩
  · obtain ⟨z1, z2, z3, z4, y, z5⟩ := b17 c hc
    exact ⟨z1, z2, zNo_f z3 fun u j h1 h2 _ => hg j u (by omega) (by omega), hN c (hl c hc).1 (hl c hc).2 z4, y, (zf_J_c (hg 1 c (hl c hc).1 (hl c hc).2)).trans z5⟩
theorem zBd.no {d n e k : Nat} {f : Int32} {x : Int64} {l l' : List Nat} (B : zBd d h n e f x k l l') (hf : f = 1 ∨ f = 2) (hl : l ≠ []) (h160 : l.length ≤ 160) : zNo (d + 1) h n e k := by
  obtain ⟨b0, b1, b2, b3, b4, ⟨a, b5, b6⟩, ⟨b, b7, b8⟩, b9, b10, b11, b12, b13, b14, K, E, b15, b16, b17, b18⟩ := B
  refine ⟨b14, Or.inr ⟨f, l, l', a, b, K, E, b1, hf, b5, b7, b6, b8, hl, fun z => ?_, b15, b16, h160, by omega, fun c hc => (b12 c).mp hc, fun c hc => ⟨(b17 c hc).1, (b17 c hc).2.1, (b17 c hc).2.2.1, (b17 c hc).2.2.2.2⟩⟩⟩
  rw [z] at b13
  exact hl (List.length_eq_zero_iff.mp b13.symm)
theorem zBd_new {d : Nat} {f : Int32} {x : Int64} : zBd d (h ++ [.inr (8, [.int f, .long x, .null, .null, .null, .null, .null])]) h.length (h.length + 1) f x 0 [] [] := by
  have ce : (h ++ [.inr (8, [.int f, .long x, .null, .null, .null, .null, .null])])[h.length]? = some (.inr (8, [.int f, .long x, .null, .null, .null, .null, .null])) := zG_end
  have nn : ∀ k, 2 ≤ k → k ≤ 6 → zf_N 8 k h.length (h ++ [.inr (8, [.int f, .long x, .null, .null, .null, .null, .null])]) = some none := fun k h1 h2 => zf_N_of (v := none) (by
    rw [zh_get ce]
    have hk : k = 2 ∨ k = 3 ∨ k = 4 ∨ k = 5 ∨ k = 6 := by omega
    rcases hk with rfl | rfl | rfl | rfl | rfl <;> rfl)
  exact ⟨⟨_, ce, rfl⟩, zh_I ce rfl, zh_J ce rfl, nn 4 (by decide) (by decide), nn 6 (by decide) (by decide), ⟨none, nn 2 (by decide) (by decide), rfl⟩, ⟨none, nn 5 (by decide) (by decide), rfl⟩, Or.inl ⟨rfl, nn 3 (by decide) (by decide)⟩, True.intro, True.intro, fun _ => Iff.rfl, rfl, Nat.lt_succ_self _, fun _ => 0, fun _ => 0, rfl, rfl, fun c hc => absurd hc List.not_mem_nil, fun c _ hc => absurd hc List.not_mem_nil⟩
theorem zrw_1 (w : Nat) (z : zR0) : (zrw w z).1 = w + z.1 := by
  obtain ⟨w', r⟩ := z
  rfl
theorem zloop {P : zx_H → Option (Option Nat × zx_H)} {F : Nat → zR0} (hP : zRdg D q qs T L fk fp P F) {s : Nat} (hs : s ≤ 255) (h0 : s ≠ 0) {f : Int32} (hf : f = 1 ∨ f = 2) {J : Bool → Bool → Bool} (hJ : ∀ S S', (if f = 1 then zB S T.nr &&& zB S' T.nr else zB S T.nr ||| zB S' T.nr) = zB (fun r => J (S r) (S' r)) T.nr) {n : Nat} (hn : q + 2 ≤ n) : ∀ m N h p ks S k l l', zRd h q qs T L p ks fk fp → zBd D h n h.length f (zB S T.nr) k l l' → l.length + N = 160 → N < m → (N = 0 → l ≠ []) → zM h + 20 * (zpl1 L F s J N p S k).1 ≤ 7000000 → zRo (D + 1) q qs T L fk fp n h (zlp P (nI s) q n m 1 (nI l.length) h) (zpl1 L F s J N p S k) := by
  intro m
  induction m with
  | zero => intro N h p ks S k l l' _ _ _ hm; exact absurd hm (Nat.not_lt_zero _)
  | succ m ih =>
    intro N h p ks S k l l' R B hl hm hne hB
    unfold zlp
    have done : ∀ {h : zx_H} {p : Nat} {ks : List Int64} {S : Nat → Bool} {k : Nat} {l l' : List Nat}, zRd h q qs T L p ks fk fp → zBd D h n h.length f (zB S T.nr) k l l' → l ≠ [] → l.length ≤ 160 → zRo (D + 1) q qs T L fk fp n h (some (some n, h)) (0, .inl (p, S, k)) := by
      intro h p ks S k l l' R B hne hl
      have B' := B
      obtain ⟨b0, b1, b2, b3, _⟩ := B'
      exact ⟨h, n, ks, rfl, Nat.le_refl _, R, B.no hf hne hl, b0, b3, b2, zFr.r⟩
    cases N with
    | zero =>
      rw [if_pos (show (160 : Int32) ≤ nI l.length by rw [show l.length = 160 by omega]; decide)]
      exact done R B (hne rfl) (by omega)
    | succ N =>
      rw [if_neg (show ¬ (160 : Int32) ≤ nI l.length from nI_ge (b := 160) (by omega) (by decide)), if_neg (show ¬ (1 : Int32) = 0 by decide), ze_b R.is]
      unfold zpl1 at hB ⊢
      have hz := hP h p ks R
      generalize hw : F p = z at hB hz ⊢
      obtain ⟨w, r⟩ := z
      cases r with
      | inr e =>
        rw [zrb_w2 rfl] at hB ⊢
        obtain ⟨g2, p', ks2, r2, R2, F2⟩ := hz hB
        refine ⟨g2, p', ks2, ?_, R2, F2.w (Nat.le_refl _) (by have := B.2.2.2.2.2.2.2.2.2.2.2.2.1; omega)⟩
        rw [ze_b2 r2]
        rfl
      | inl r =>
        obtain ⟨p', S', k'⟩ := r
        rw [zrb_w1 rfl] at hB ⊢
        have hnl : n < h.length := B.2.2.2.2.2.2.2.2.2.2.2.2.1
        rw [zrw_1] at hB
        obtain ⟨g2, c, ks2, r2, hc, R2, N2, I2, N4, J2, F2⟩ := hz (by show zM h + 20 * w ≤ _; omega)
        have B2 : zBd D g2 n h.length f (zB S T.nr) k l l' := zBd_f B fun u h1 h2 => F2.2.2 u h2 (by omega) (by omega)
        obtain ⟨g3, l3, r3, B3, K3⟩ := B2.put hc N2 I2 N4 J2 (by omega)
        rw [hJ S S', ← K3.2.2.1] at B3
        have l3e := K3.2.2.1
        have cK : ∀ u, u < n → g3[u]? = g2[u]? := fun u hu => K3.2.2.2.2 u fun j x => by omega
        have R3 : zRd g3 q qs T L p' ks2 fk fp := R2.Fr fun u hu => cK u (by omega)
        have M3 : zM g3 = zM g2 := by unfold zM; rw [K3.2.2.1, K3.2.2.2.1]
        have F3 : zFr (20 * w) q n h g3 := (F2.w (Nat.le_refl _) (by omega)).t (k' := 0) ⟨by omega, by omega, fun u hu _ _ => cK u hu⟩
        have I3 : zIsN g3 n := B3.1
        have ht := R3.takes hs h0
        have hlen : (l ++ [c]).length = l.length + 1 := List.length_append
        have hne2 : l ++ [c] ≠ [] := fun z => by rw [z] at hlen; exact absurd hlen (by show ¬ 0 = l.length + 1; omega)
        have start : (zf_b2 (P h) fun v1 h2 =>
            zf_on v1 (
              some (none, h2)
            ) fun q3 =>
              zf_b (zf_is 8 n h2) fun _ =>
              zf_b2 (f_Node_put n q3 h2) fun _ h5 =>
              zf_b (zf_is 3 q h5) fun _ =>
              zf_b2 (f_FilterReader_takes q (nI s) h5) fun v6 h7 =>
              zlp P (nI s) q n m v6 (nI l.length + (1 : Int32)) h7) = zf_b2 (f_FilterReader_takes q (nI s) g3) fun v6 h7 => zlp P (nI s) q n m v6 (nI (l.length + 1)) h7 := by
          rw [ze_b2 r2]
          show zf_b (zf_is 8 n g2) _ = _
          rw [ze_b B2.1.is, ze_b2 r3, ze_b R3.is, nI_1]
        refine zRo_t F3 (Nat.le_refl _) start ?_
        by_cases e : zfo L p' = s
        · obtain ⟨g4, r4, R4, U4⟩ := ht.1 e
          rw [if_pos e] at hB ⊢
          have M4 : zM g4 = zM g3 := by unfold zM; rw [U4.1, U4.2.1]
          have mF := F3.2.1
          refine zRo_wb U4 ?_
          rw [ze_b2 r4, ← hlen]
          refine ih N g4 (p' + 1) ks2 _ _ _ l3 R4 ?_ (by omega) (by omega) (fun _ => hne2) (by omega)
          rw [U4.1]
          exact zBd_f B3 fun u h1 h2 => U4.2.2 u (by omega)
        · rw [if_neg e]
          rw [ze_b2 (ht.2 e)]
          obtain ⟨m, rfl⟩ : ∃ j, m = j + 1 := ⟨m - 1, by omega⟩
          unfold zlp
          by_cases e6 : (160 : Int32) ≤ nI (l.length + 1)
          · rw [if_pos e6]
            exact done R3 B3 hne2 (by omega)
          · rw [if_neg e6, if_pos rfl]
            exact done R3 B3 hne2 (by omega)
/-- a part -/
theorem zpartok {M : Nat → Int32 → zx_H → Option (Option Nat × zx_H)} {F : Nat → Nat → zR0} {o : Nat} (ho : o ≤ 6) (hD : 1 ≤ D) (H : o < 6 → zRdg D q qs T L fk fp (M q (nI (o + 1))) (F (o + 1))) : zRdg (D + 1) q qs T L fk fp (f_FilterReader_readPart M q (nI o)) (zpart1 L T F o) := by
  intro h p ks R hB
  have h40 := R.S.r40
  unfold zpart1 at hB ⊢
  rw [zrw_1] at hB
  have hl := zlim (h := h) (by omega)
  have R1 := R.app (.inr (8, zx_def 8))
  have R2 := R.app (.inr (8, [.int 1, .long (zB (fun _ => true) T.nr), .null, .null, .null, .null, .null]))
  have F2 : zFr (20 * 1) q h.length h (h ++ [.inr (8, [.int 1, .long (zB (fun _ => true) T.nr), .null, .null, .null, .null, .null])]) := zFr_app.w zsz8 (Nat.le_refl _)
  have mF := F2.2.1
  have k1 := R.k1
  have ln : (h ++ [.inr (8, [.int 1, .long (zB (fun _ => true) T.nr), .null, .null, .null, .null, .null])] : zx_H).length = h.length + 1 := List.length_append
  refine zRo_t F2 (Nat.le_refl _) ?_ (zloop (zpiece ho hD H) (s := 38) (by decide) (by decide) (f := 1) (Or.inl rfl) (J := and) (fun S S' => by rw [if_pos rfl]; exact zB_and (by omega)) (n := h.length) (by omega) zF 160 _ p ks (fun _ => true) 0 [] [] R2 (by rw [ln]; exact zBd_new) rfl (by decide) (fun x => absurd x (by decide)) (by omega))
  unfold f_FilterReader_readPart
  rw [ze_b2 (zh_newO hl), ze_b (zh_A R1.c (k := 1) rfl), ze_b R1.S.ok, ze_b2 R1.S.allRows, ze_b2 (zNinit _ _), zlp_part]
  rfl
/-- a filter -/
theorem zfiltok {M : Nat → Int32 → zx_H → Option (Option Nat × zx_H)} {F : Nat → Nat → zR0} {o : Nat} (ho : o ≤ 6) (hD : 1 ≤ D) (H : o < 6 → zRdg D q qs T L fk fp (M q (nI (o + 1))) (F (o + 1))) : zRdg (D + 2) q qs T L fk fp (f_FilterReader_readFilterb M q (nI o)) (zpfilt L T F o) := by
  intro h p ks R hB
  have h40 := R.S.r40
  unfold zpfilt at hB ⊢
  rw [zrw_1] at hB
  have hl := zlim (h := h) (by omega)
  have R2 := R.app (.inr (8, [.int 2, .long 0, .null, .null, .null, .null, .null]))
  have F2 : zFr (20 * 1) q h.length h (h ++ [.inr (8, [.int 2, .long 0, .null, .null, .null, .null, .null])]) := zFr_app.w zsz8 (Nat.le_refl _)
  have mF := F2.2.1
  have k1 := R.k1
  have ln : (h ++ [.inr (8, [.int 2, .long 0, .null, .null, .null, .null, .null])] : zx_H).length = h.length + 1 := List.length_append
  have z0 : zB (fun _ => false) T.nr = 0 := (zB_zero (by omega)).mpr fun j hj => rfl
  refine zRo_t F2 (Nat.le_refl _) ?_ (zloop (zpartok ho hD H) (s := 124) (by decide) (by decide) (f := 2) (Or.inr rfl) (J := or) (fun S S' => by rw [if_neg (by decide)]; exact zB_or (by omega)) (n := h.length) (by omega) zF 160 _ p ks (fun _ => false) 0 [] [] R2 (by rw [ln, z0]; exact zBd_new) rfl (by decide) (fun x => absurd x (by decide)) (by omega))
  unfold f_FilterReader_readFilterb
  rw [ze_b2 (zh_newO hl), ze_b2 (zNinit _ _), zlp_filt]
  rfl
/-- filters in brackets in filters -/
theorem zFok : ∀ n o, o ≤ 6 → 7 ≤ n + o → zRdg (2 * n + 1) q qs T L fk fp (f_FilterReader_readFilter n q (nI o)) (zpF L T n o) := by
  intro n
  induction n with
  | zero => intro o h1 h2; omega
  | succ n ih =>
    intro o h1 h2
    exact zfiltok (D := 2 * n + 1) h1 (by omega) (fun h3 => ih (o + 1) (by omega) (by omega))
end ZLO

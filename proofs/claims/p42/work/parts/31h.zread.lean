/-! ===== pieces, parts, filters read ===== -/
section ZRP
variable {h g : zx_H} {L : List (Nat × Nat × Int64)} {T : zT} {q qs p : Nat} {ks : List Int64} {fk fp : Int32} {D : Nat}
/-- a reading: at each state of the reader, with room -/
def zRdg (D q qs : Nat) (T : zT) (L : List (Nat × Nat × Int64)) (fk fp : Int32) (P : zx_H → Option (Option Nat × zx_H)) (F : Nat → zR0) : Prop := ∀ (h : zx_H) (p : Nat) (ks : List Int64), zRd h q qs T L p ks fk fp → zM h + 20 * (F p).1 ≤ 7000000 → zRo D q qs T L fk fp h.length h (P h) (F p)
theorem zrw_0 : ∀ (z : zR0), zrw 0 z = z
  | (w, r) => by show (0 + w, r) = _; rw [Nat.zero_add]
theorem zrb_w1 : ∀ {z : zR0} {f : Nat → Nat → (Nat → Bool) → Nat → zR0} {p' : Nat} {S : Nat → Bool} {k w : Nat}, z = (w, .inl (p', S, k)) → zrb z f = f w p' S k
  | _, _, _, _, _, _, rfl => rfl
theorem zrb_w2 : ∀ {z : zR0} {f : Nat → Nat → (Nat → Bool) → Nat → zR0} {e : Nat × Int32} {w : Nat}, z = (w, .inr e) → zrb z f = (w, .inr e)
  | _, _, _, _, rfl => rfl
/-- in brackets -/
theorem zRd.brackets (R : zRd h q qs T L p ks fk fp) (hf : zfo L p = 40) {M : Nat → Int32 → zx_H → Option (Option Nat × zx_H)} {F : Nat → Nat → zR0} {o : Nat} (ho : o ≤ 6) (H : o < 6 → zRdg D q qs T L fk fp (M q (nI (o + 1))) (F (o + 1))) (hB : zM h + 20 * (zpb L F o p).1 ≤ 7000000) : zRo D q qs T L fk fp h.length h (f_FilterReader_readBrackets M q (nI o) h) (zpb L F o p) := by
  have hpl := R.lt (i := p) (by rw [hf]; decide)
  have h161 := R.K.2.2.2.2
  have A0 := zh_A R.c (k := 0) rfl
  have I4 := zh_I R.c (k := 4) rfl
  unfold zpb at hB ⊢
  by_cases e1 : 6 ≤ o
  · rw [if_pos e1]
    refine R.fails 2 (zpc L p) ?_
    unfold f_FilterReader_readBrackets
    rw [if_neg (show ¬ nI o < (6 : Int32) from nI_nlt (b := 6) e1 (by omega)), ze_b A0, ze_b I4, ze_b R.K.is, ze_b2 (R.K.place (by omega)), ze_b R.is]
    rfl
  · rw [if_neg e1] at hB ⊢
    obtain ⟨g1, r1, R1, U1⟩ := R.to (p + 1) (by omega)
    have M1 : zM g1 = zM h := by unfold zM; rw [U1.1, U1.2.1]
    have start : f_FilterReader_readBrackets M q (nI o) h = zf_b2 (M q (nI (o + 1)) g1) (fun v3 h4 =>
        zf_on v3 (
          some (none, h4)
        ) fun q5 =>
          zf_b (zf_is 3 q h4) fun _ =>
          zf_b2 (f_FilterReader_takes q (41 : Int32) h4) fun v6 h7 =>
          if ¬ v6 = 0 then
            some ((some q5), h7)
          else
            zf_b (zf_A 3 0 q h7) fun v8 =>
            zf_b (zf_I 3 4 q h7) fun v9 =>
            zf_b (zf_is 11 v8 h7) fun _ =>
            zf_b2 (f_Tokens_placeAt v8 v9 h7) fun v10 h11 =>
            zf_b (zf_is 3 q h11) fun _ =>
            zf_b2 (f_FilterReader_fail q (1 : Int32) v10 h11) fun v12 h13 =>
            some (v12, h13)) := by
      unfold f_FilterReader_readBrackets
      rw [if_pos (show nI o < (6 : Int32) from nI_lt (b := 6) (by omega) (by decide)), ze_b I4, nI_1, ze_b r1, ze_b R1.is, nI_1]
    have hz := H (by omega) g1 (p + 1) ks R1
    rw [start]
    generalize hw : F (o + 1) (p + 1) = z at hB hz
    obtain ⟨w, r⟩ := z
    cases r with
    | inl r =>
      obtain ⟨p', S, k⟩ := r
      rw [zrb_w1 rfl] at hB ⊢
      have hB1 : zM h + 20 * w ≤ 7000000 := by
        by_cases e2 : zfo L p' = 41
        · rw [if_pos e2] at hB; exact hB
        · rw [if_neg e2] at hB; exact hB
      obtain ⟨g2, n, ks2, r2, hn, R2, N2, I2, N4, J2, F2⟩ := hz (by show zM g1 + 20 * w ≤ _; omega)
      have ht := R2.takes (s := 41) (by decide) (by decide)
      have hl1 := U1.1
      have hk1 := R.k1
      by_cases e2 : zfo L p' = 41
      · obtain ⟨g3, r3, R3, U3⟩ := ht.1 e2
        have r3 : f_FilterReader_takes q (41 : Int32) g2 = some (1, g3) := r3
        rw [if_pos e2]
        have hs : ∀ u, n ≤ u → g3[u]? = g2[u]? := fun u hu => U3.2.2 u (by omega)
        have hg : ∀ j u, n ≤ u → zf_get 8 j u g3 = zf_get 8 j u g2 := fun j u hu => by unfold zf_get; rw [hs u hu]
        refine ⟨g3, n, ks2, ?_, by omega, R3, ?_, ?_, (zf_N_c (hg 4 n (Nat.le_refl _))).trans N4, (zf_J_c (hg 1 n (Nat.le_refl _))).trans J2, ?_⟩
        · rw [ze_b2 r2]
          show zf_b (zf_is 3 q g2) _ = _
          rw [ze_b R2.is, ze_b2 r3, if_pos (by decide)]
        · rw [U3.1]
          exact zNo_f N2 fun u j hu _ _ => hg j u hu
        · obtain ⟨fs, e3, l3⟩ := I2
          exact ⟨fs, (hs n (Nat.le_refl _)).trans e3, l3⟩
        · have F2' : zFr (20 * w) q h.length g1 g2 := F2.w (Nat.le_refl _) (by omega)
          exact ((zFr_U U1).t (F2'.t (zFr_U U3))).w (by omega) (Nat.le_refl _)
      · have r3 : f_FilterReader_takes q (41 : Int32) g2 = some (0, g2) := ht.2 e2
        rw [if_neg e2]
        have F2' : zFr (20 * w) q h.length g1 g2 := F2.w (Nat.le_refl _) (by omega)
        have hp20 := R2.p20
        have hfl := zRd.fails R2 (D := D) (b := h.length) 1 (zpc L p') (x := zf_b2 (M q (nI (o + 1)) g1) (fun v3 h4 =>
          zf_on v3 (
            some (none, h4)
          ) fun q5 =>
            zf_b (zf_is 3 q h4) fun _ =>
            zf_b2 (f_FilterReader_takes q (41 : Int32) h4) fun v6 h7 =>
            if ¬ v6 = 0 then
              some ((some q5), h7)
            else
              zf_b (zf_A 3 0 q h7) fun v8 =>
              zf_b (zf_I 3 4 q h7) fun v9 =>
              zf_b (zf_is 11 v8 h7) fun _ =>
              zf_b2 (f_Tokens_placeAt v8 v9 h7) fun v10 h11 =>
              zf_b (zf_is 3 q h11) fun _ =>
              zf_b2 (f_FilterReader_fail q (1 : Int32) v10 h11) fun v12 h13 =>
              some (v12, h13))) (by
          rw [ze_b2 r2]
          show zf_b (zf_is 3 q g2) _ = _
          rw [ze_b R2.is, ze_b2 r3, if_neg (by decide), ze_b (zh_A R2.c rfl), ze_b (zh_I R2.c rfl), ze_b R2.K.is, ze_b2 (R2.K.place (by omega)), ze_b R2.is]
          rfl)
        exact zRo_t (w1 := w) ((zFr_U (b := h.length) U1).t F2') (by omega) rfl hfl
    | inr e =>
      rw [zrb_w2 rfl] at hB ⊢
      obtain ⟨g2, p', ks2, r2, R2, F2⟩ := hz (by show zM g1 + 20 * w ≤ _; have hB : zM h + 20 * w ≤ 7000000 := hB; omega)
      have F2' : zFr (20 * w) q h.length g1 g2 := F2.w (Nat.le_refl _) (by rw [U1.1]; exact Nat.le_refl _)
      refine ⟨g2, p', ks2, ?_, R2, ((zFr_U U1).t F2').w (by omega) (Nat.le_refl _)⟩
      rw [ze_b2 r2]
      rfl
/-- the signs before a piece -/
theorem zbg_le : ∀ (n p : Nat), zbg L n p ≤ n
  | 0, _ => Nat.le_refl _
  | n + 1, p => by
    unfold zbg
    by_cases e : zfo L p = 33
    · rw [if_pos e]; have := zbg_le n (p + 1); omega
    · rw [if_neg e]; omega
theorem zturn {M : Nat → Int32 → zx_H → Option (Option Nat × zx_H)} {o : Int32} : ∀ n m j {h : zx_H} {p : Nat}, zRd h q qs T L p ks fk fp → j + m = 3 → m < n → ∃ g, f_FilterReader_readPiece_2 M n q o (nI j) h = f_FilterReader_readPiece_22 M q o (nI (j + zbg L m p)) g ∧ zRd g q qs T L (p + zbg L m p) ks fk fp ∧ zU q 2 h g := by
  intro n
  induction n with
  | zero => intro m j h p _ _ hn; exact absurd hn (Nat.not_lt_zero _)
  | succ n ih =>
    intro m j h p R hj hn
    unfold f_FilterReader_readPiece_2
    cases m with
    | zero =>
      have e : j = 3 := by omega
      refine ⟨h, ?_, R, zU_r⟩
      rw [if_pos (by rw [e]; decide)]
      rfl
    | succ m =>
      have ht := R.takes (s := 33) (by decide) (by decide)
      rw [if_neg (show ¬ (3 : Int32) ≤ nI j from nI_ge (b := 3) (by omega) (by decide)), ze_b R.is]
      unfold zbg
      by_cases e : zfo L p = 33
      · obtain ⟨g1, r1, R1, U1⟩ := ht.1 e
        have r1 : f_FilterReader_takes q (33 : Int32) h = some (1, g1) := r1
        obtain ⟨g, r2, R2, U2⟩ := ih m (j + 1) R1 (by omega) (by omega)
        rw [if_pos e]
        refine ⟨g, ?_, ?_, zU_t U1 U2⟩
        · rw [ze_b2 r1, if_neg (by decide), nI_1, r2, show j + 1 + zbg L m (p + 1) = j + (zbg L m (p + 1) + 1) by omega]
        · rw [show p + (zbg L m (p + 1) + 1) = p + 1 + zbg L m (p + 1) by omega]
          exact R2
      · have r1 : f_FilterReader_takes q (33 : Int32) h = some (0, h) := ht.2 e
        rw [if_neg e]
        refine ⟨h, ?_, R, zU_r⟩
        rw [ze_b2 r1, if_pos rfl]
        rfl
theorem zRo_wb {b : Nat} {x : Option (Option Nat × zx_H)} (u : zU q 2 h g) {z : zR0} (r : zRo D q qs T L fk fp b g x z) : zRo D q qs T L fk fp b h x z := by
  have := zRo_t (w1 := 0) (zFr_U (b := b) u) (Nat.zero_le _) (rfl : x = x) r
  rw [zrw_0] at this
  exact this
theorem zB_not {p : Nat → Bool} {n : Nat} (hn : n ≤ 64) : zB (fun _ => true) n &&& (zB p n ^^^ (-1 : Int64)) = zB (fun r => !p r) n := by
  rw [zB_andn hn]
  exact zB_c fun j _ => Bool.true_and _
/-- a piece -/
theorem zpiece {M : Nat → Int32 → zx_H → Option (Option Nat × zx_H)} {F : Nat → Nat → zR0} {o : Nat} (ho : o ≤ 6) (hD : 1 ≤ D) (H : o < 6 → zRdg D q qs T L fk fp (M q (nI (o + 1))) (F (o + 1))) : zRdg D q qs T L fk fp (f_FilterReader_readPiece M q (nI o)) (zpp L T F o) := by
  intro h p ks R hB
  unfold f_FilterReader_readPiece
  obtain ⟨g, r0, R0, U0⟩ := zturn (M := M) (o := nI o) zF 3 0 R rfl (by decide)
  have r0 : f_FilterReader_readPiece_2 M zF q (nI o) 0 h = f_FilterReader_readPiece_22 M q (nI o) (nI (zbg L 3 p)) g := by
    rw [show zbg L 3 p = 0 + zbg L 3 p by omega]
    exact r0
  rw [r0]
  have M0 : zM g = zM h := by unfold zM; rw [U0.1, U0.2.1]
  have hj := zbg_le (L := L) 3 p
  unfold zpp at hB ⊢
  generalize hjj : zbg L 3 p = j at hB hj R0 ⊢
  generalize hpp : p + j = p1 at hB R0 ⊢
  rw [← U0.1]
  refine zRo_wb U0 ?_
  have hp20 := R0.p20
  have hbf := (R0.Lb p1).1
  have A0 := zh_A R0.c (k := 0) rfl
  have I4 := zh_I R0.c (k := 4) rfl
  have h40 := R0.S.r40
  have nE : ∀ b : Nat, b ≤ 255 → zfo L p1 ≠ b → ¬ nI (zfo L p1) = nI b := fun b hb hn x => hn ((nI_eq (by omega) (by omega)).mp x)
  -- then the turn
  have fin : ∀ {x : Option (Option Nat × zx_H)} {z : zR0}, zRo D q qs T L fk fp g.length g x z → zRo D q qs T L fk fp g.length g (zf_b2 x fun v h4 => f_FilterReader_readPiece_119 M q (nI j) v h4) (zrb z (fun w p' S k => (w, .inl (p', zflip j S, k)))) := by
    intro x z hz
    obtain ⟨w, r⟩ := z
    cases r with
    | inr e =>
      obtain ⟨g2, p', ks2, r2, R2, F2⟩ := hz
      refine ⟨g2, p', ks2, ?_, R2, F2⟩
      rw [ze_b2 r2]
      rfl
    | inl r =>
      obtain ⟨p', S, k⟩ := r
      obtain ⟨g2, n, ks2, r2, hn, R2, N2, I2, N4, J2, F2⟩ := hz
      have hodd : (nI j - nI j / (2 : Int32) * (2 : Int32)) = nI (j % 2) := by
        rw [show (2 : Int32) = nI 2 from rfl, pk_rem (by omega) (by decide) (by decide)]
      by_cases e : j % 2 = 1
      · obtain ⟨g3, r3, v3, k3⟩ := zNput (k := 1) I2 (by decide) (.long (zB (fun _ => true) T.nr &&& (zB S T.nr ^^^ (-1 : Int64))))
        have hk1 := R.k1
        have hlU := U0.1
        have R3 : zRd g3 q qs T L p' ks2 fk fp := R2.Fr fun u hu => k3.2.2.2.2 u fun j x => by have := x.1; omega
        refine ⟨g3, n, ks2, ?_, hn, R3, ?_, k3.2.1 n I2, (zf_N_c (k3.1 4 n fun x => absurd x.2 (by decide))).trans N4, ?_, F2.t (k' := 0) ⟨by rw [k3.2.2.1]; exact Nat.le_refl _, ?_, fun u hu _ _ => k3.2.2.2.2 u fun j x => by have := x.1; omega⟩⟩
        · rw [ze_b2 r2]
          unfold f_FilterReader_readPiece_119
          show (if ¬ (nI j - nI j / (2 : Int32) * (2 : Int32)) = (1 : Int32) then _ else _) = _
          rw [hodd, e, if_neg (show ¬ ¬ nI 1 = (1 : Int32) from fun x => x rfl), ze_b (zh_A R2.c (k := 1) rfl), ze_b R2.S.ok, ze_b2 R2.S.allRows, ze_b I2.is]
          unfold f_Node_turn
          refine ze_b2 (a := ()) (g := g3) ?_
          rw [ze_b J2, ze_b r3]
        · rw [k3.2.2.1]
          exact zNo_f N2 fun u j hu _ hj => k3.1 j u fun x => by
            have := hj x.1
            have := x.2
            omega
        · show zf_J 8 1 n g3 = some (zB (fun r => if j % 2 = 1 then !S r else S r) T.nr)
          rw [zf_J_of v3, zB_not (by omega)]
          exact congrArg some (zB_c fun r _ => (if_pos e).symm)
        · unfold zM
          rw [k3.2.2.1, k3.2.2.2.1]
          omega
      · refine ⟨g2, n, ks2, ?_, hn, R2, N2, I2, N4, ?_, F2⟩
        · rw [ze_b2 r2]
          unfold f_FilterReader_readPiece_119
          show (if ¬ (nI j - nI j / (2 : Int32) * (2 : Int32)) = (1 : Int32) then _ else _) = _
          rw [hodd, if_pos (show ¬ nI (j % 2) = (1 : Int32) from fun x => e ((nI_eq (b := 1) (by omega) (by decide)).mp x))]
        · rw [J2]
          exact congrArg some (zB_c fun r _ => (if_neg e).symm)
  have hw : ∀ z : zR0, (zrb z (fun w p' S k => (w, .inl (p', zflip j S, k)))).1 = z.1 := by
    intro z
    obtain ⟨w, r⟩ := z
    cases r with
    | inr e => rfl
    | inl r => obtain ⟨p', S, k⟩ := r; rfl
  rw [hw] at hB
  unfold f_FilterReader_readPiece_22
  rw [ze_b A0, ze_b I4, ze_b R0.K.is, ze_b2 (R0.K.form (by omega))]
  unfold zpp0 at hB ⊢
  by_cases e1 : zfo L p1 = 33
  · rw [if_pos e1]
    rw [if_pos (show nI (zfo L p1) = (33 : Int32) by rw [e1]; rfl)]
    exact R0.fails 2 (zpc L p1) (by
      rw [ze_b A0, ze_b I4, ze_b R0.K.is, ze_b2 (R0.K.place (by omega)), ze_b R0.is]
      rfl)
  · rw [if_neg e1] at hB ⊢
    rw [if_neg (show ¬ nI (zfo L p1) = (33 : Int32) from nE 33 (by decide) e1)]
    by_cases e2 : zfo L p1 = 35
    · rw [if_pos e2] at hB ⊢
      rw [if_pos (show nI (zfo L p1) = (35 : Int32) by rw [e2]; rfl), ze_b R0.is]
      obtain ⟨d, rfl⟩ : ∃ d, D = d + 1 := ⟨D - 1, by omega⟩
      refine fin ?_
      have ht := R0.test e2 (by omega)
      clear fin H
      induction d with
      | zero => exact ht
      | succ d ih => exact zRo_d (ih (by omega))
    · rw [if_neg e2] at hB ⊢
      rw [if_neg (show ¬ nI (zfo L p1) = (35 : Int32) from nE 35 (by decide) e2)]
      by_cases e3 : zfo L p1 = 40
      · rw [if_pos e3] at hB ⊢
        rw [if_pos (show nI (zfo L p1) = (40 : Int32) by rw [e3]; rfl), ze_b R0.is]
        exact fin (R0.brackets e3 ho H (by omega))
      · rw [if_neg e3]
        rw [if_neg (show ¬ nI (zfo L p1) = (40 : Int32) from nE 40 (by decide) e3)]
        exact R0.fails 1 (zpc L p1) (by
          rw [ze_b A0, ze_b I4, ze_b R0.K.is, ze_b2 (R0.K.place (by omega)), ze_b R0.is]
          rfl)
end ZRP

/-! ===== isFilter: what follows the choice ===== -/
section ZFE
variable {h g j : zx_H} {now : Nat} {ver : Nat → Nat → zT} {tx : List Nat} {pr : Nat × (Nat → Nat) × (Nat → Int32)} {gr : zT × Nat × Nat × (Nat → Int64) × (Nat → Nat → Bool)} {q pt a m k t p how N b0 b1 : Nat} {w s u : List Nat} {ts : List (Nat × Int64)} {T : zT} {S A : Nat → Bool}
/-- what isFilter leaves -/
def zFq (t now : Nat) (ver : Nat → Nat → zT) (pr : Nat × (Nat → Nat) × (Nat → Int32)) (gr : zT × Nat × Nat × (Nat → Int64) × (Nat → Nat → Bool)) (h : zx_H) (k : Nat) (x : Option ((Int32 ⊕ Nat) × zx_H)) : Prop := ∃ g now' ver' tx', x = some (.inl 1, g) ∧ zR g ∧ zWd g now' ver' tx' pr gr ∧ zSp t 2 k h now ver g now' ver' ∧ (ver' now' t).nc = (ver now t).nc ∧ (ver' now' t).kd = (ver now t).kd ∧ (ver' now' t).nr = (ver now t).nr
theorem zFq_m {h' : zx_H} {k' : Nat} {x : Option ((Int32 ⊕ Nat) × zx_H)} (a : zFq t now ver pr gr h' k' x) (hm : zM h' + k' ≤ zM h + k) : zFq t now ver pr gr h k x := by
  obtain ⟨g, n', v', x', a1, a2, a3, ⟨b1, b2, b3, b4⟩, a5⟩ := a
  exact ⟨g, n', v', x', a1, a2, a3, ⟨b1, b2, by omega, b4⟩, a5⟩
theorem zf192 (hN : N ≤ 40) (n0 : b0 ≠ b1) (l0 : b0 ≤ 600000) (hh : how < 4) {p6 : Int32} {Q : Option ((Int32 ⊕ Nat) × zx_H) → Prop} : ∀ n i h, i ≤ N → N - i < n → zBa h b0 N S → zBa h b1 N (fun j => if j < i then zway how (A j) (S j) else A j) → (∀ m g, zBa g b1 N (fun j => zway how (A j) (S j)) → zU b1 1 h g → Q (f_ColumnVaultLaw_isFilter_192 (m + 1) 1 (nI t) q b0 b1 (nI how) p6 (nI N) g)) → Q (f_ColumnVaultLaw_isFilter_192 n 1 (nI t) q b0 b1 (nI how) p6 (nI i) h) := by
  intro n
  induction n with
  | zero => intro i _ _ hn; exact absurd hn (Nat.not_lt_zero _)
  | succ n ih =>
    intro i h hi hn z0 z1 hQ
    rcases Nat.lt_or_ge i N with hlt | hge
    · have e1 := z1.ld hlt (by omega)
      rw [if_neg (Nat.lt_irrefl i)] at e1
      have e0 := z0.ld hlt (by omega)
      have put : ∀ b : Bool, b = zway how (A i) (S i) → Q (zf_b (zf_stB b1 (nI i) (zb b) h) fun h3 => (f_ColumnVaultLaw_isFilter_192 n) 1 (nI t) q b0 b1 (nI how) p6 (nI i + (1 : Int32)) h3) := by
        intro b hb
        obtain ⟨g1, e2, z2, U2⟩ := z1.st hlt hN b
        rw [ze_b e2, nI_1]
        refine ih (i + 1) g1 hlt (by omega) (z0.U U2 (by omega)) (zBa_c z2 fun j hj => ?_) fun m g z U => hQ m g z (zU_t U2 U)
        by_cases c : j = i
        · rw [if_pos c, if_pos (by omega), c]; exact hb
        · rw [if_neg c]
          by_cases d : j < i
          · rw [if_pos d, if_pos (by omega)]
          · rw [if_neg d, if_neg (by omega)]
      rw [f_ColumnVaultLaw_isFilter_192, ze_b (z0.len l0), if_neg (nI_ge hlt (by omega))]
      obtain rfl | rfl | rfl | rfl : how = 0 ∨ how = 1 ∨ how = 2 ∨ how = 3 := by omega
      · rw [if_neg (by decide), ze_b e0]
        exact put (S i) rfl
      · rw [if_pos (by decide), if_neg (by decide), ze_b e1]
        by_cases c1 : A i = true
        · rw [if_neg (zb1 c1), ze_b e0]
          by_cases c2 : S i = true
          · rw [if_neg (zb1 c2)]
            exact put true (by show true = (A i && S i); rw [c1, c2]; rfl)
          · rw [if_pos (zbt0 c2)]
            exact put false (by show false = (A i && S i); rw [ts_nt c2, Bool.and_false])
        · rw [if_pos (zbt0 c1)]
          exact put false (by show false = (A i && S i); rw [ts_nt c1, Bool.false_and])
      · rw [if_pos (by decide), if_pos (by decide), if_neg (by decide), ze_b e1]
        by_cases c1 : A i = true
        · rw [if_pos (zb1 c1)]
          exact put true (by show true = (A i || S i); rw [c1, Bool.true_or])
        · rw [if_neg (fun x => x (zbt0 c1)), ze_b e0]
          by_cases c2 : S i = true
          · rw [if_neg (zb1 c2)]
            exact put true (by show true = (A i || S i); rw [c2, Bool.or_true])
          · rw [if_pos (zbt0 c2)]
            exact put false (by show false = (A i || S i); rw [ts_nt c1, ts_nt c2]; rfl)
      · rw [if_pos (by decide), if_pos (by decide), if_pos (by decide), ze_b e1]
        by_cases c1 : A i = true
        · rw [if_neg (zb1 c1), ze_b e0]
          by_cases c2 : S i = true
          · rw [if_pos (zb1 c2)]
            exact put false (by show false = (A i && !S i); rw [c1, c2]; rfl)
          · rw [if_neg (fun x => x (zbt0 c2))]
            exact put true (by show true = (A i && !S i); rw [c1, ts_nt c2]; rfl)
        · rw [if_pos (zbt0 c1)]
          exact put false (by show false = (A i && !S i); rw [ts_nt c1, Bool.false_and])
    · obtain rfl : i = N := Nat.le_antisymm hi hge
      exact hQ n h (zBa_c z1 fun j hj => if_pos hj) zU_r
theorem zct_opp {S' : Nat → Bool} (h : ∀ r, r < N → S' r = !S r) : fb_ct S' N = N - fb_ct S N := by
  have := fb_ct_not S N
  rw [fb_ct_cong (q := fun r => !S r) h]
  omega
/-- behind the loop -/
theorem zffE (r : zR h) (w : zWd h now ver s pr gr) (hT : ver now t = T) (ht : t < 3) (hNow : now < 90000) (sb : zSB h q a m s) (hq : 177 ≤ q) (ha : 177 ≤ a) (hs : s.length ≤ 155) (hc : ∀ c ∈ s, 1 ≤ c) (hm : m ≤ 18100) (z0 : zBa h b0 T.nr S) (z1 : zBa h b1 T.nr (fun j => zway how (T.ch j) (S j))) (hb0 : 177 ≤ b0) (hb1 : 177 ≤ b1) (hh : how < 4) (lx : zLx s ts) (F : zFi T 2 7 ts S k) (hk : k ≤ 64) (hB : zM h ≤ 6500000) (n : Nat) : zFq t now ver pr gr h 45000 (f_ColumnVaultLaw_isFilter_192 (n + 1) 1 (nI t) q b0 b1 (nI how) (nI now) (nI T.nr) h) := by
  obtain ⟨t1, t2⟩ := ztk_at lx (by omega)
  obtain ⟨wd, p', S', e0, ag, hw0⟩ := F.whole (by decide) t1 t2
  subst hT
  have h40 := (w.T ht).r40
  have hsc : ∀ c ∈ s, c < 128 := by
    obtain ⟨_, _, _, _, _, _, _, _, x⟩ := sb
    exact x
  obtain ⟨g3, e3, w3, G3⟩ := w.choose (by omega) ht hh e0 (by omega)
  have m3 := G3.m
  have l3 := G3.l
  have r3 := r.G G3 (Or.inl (by decide))
  have z03 := z0.G G3 (Or.inr (by omega))
  have z13 := z1.G G3 (Or.inr (by omega))
  have ba : b1 ≤ 600000 := by
    have := zlen (h := h) (by omega)
    have := zlt_of z1.choose_spec.1
    omega
  have bb : b0 ≤ 600000 := by
    have := zlen (h := h) (by omega)
    have := zlt_of z0.choose_spec.1
    omega
  have sb3 : zSB g3 q a m s := by
    obtain ⟨_, _, c1, c2, _⟩ := id sb
    exact sb.keep (G3.2.2 q (zlt_of c1) (Or.inr (by omega))) (G3.2.2 a (zlt_of c2) (Or.inr (by omega)))
  have ct1 : fb_ct (fun r => zway how ((ver now t).ch r) (S' r)) (ver now t).nr = fb_ct (fun r => zway how ((ver now t).ch r) (S r)) (ver now t).nr := fb_ct_cong fun r hr => by rw [ag r hr]
  rw [ct1] at e3
  obtain ⟨g4, e4, z4, G4, l4⟩ := w3.choice ht (by omega)
  rw [zvc_t] at z4
  have m4 := G4.m
  have r4 := r3.G G4 (Or.inr rfl)
  have w4 := w3.G G4 (Or.inr (by decide))
  have z04 := z03.G G4 (Or.inr (Nat.zero_le _))
  have z14 := z13.G G4 (Or.inr (Nat.zero_le _))
  have z4 : zBa g4 g3.length (ver now t).nr (fun j => zway how ((ver now t).ch j) (S j)) := zBa_c z4 fun r hr => by
    show zway how ((ver now t).ch r) (S' r) = _
    rw [ag r hr]
  have sb4 : zSB g4 q a m s := by
    obtain ⟨_, _, c1, c2, _⟩ := id sb3
    exact sb3.keep (G4.2.2 q (zlt_of c1) (Or.inr (Nat.zero_le _))) (G4.2.2 a (zlt_of c2) (Or.inr (Nat.zero_le _)))
  have sm := z4.same z14 h40 (by have := zlen (h := g3) (by omega); omega) ba
  obtain ⟨g5, rr, hK, t5, G5⟩ := zff_text sb4 hq hs hm (by omega)
  have m5 := G5.m
  have r5 := r4.G G5 (Or.inr rfl)
  have w5 := w4.G G5 (Or.inr (by decide))
  have hws : ([33, 40] ++ s ++ [41]).length = s.length + 3 := by
    rw [List.length_append, List.length_append]
    show 2 + s.length + 1 = _
    omega
  obtain ⟨g6, e6, w6, G6⟩ := w5.says (p := rr) (s := [33, 40] ++ s ++ [41]) (fun g' G' => by
    have st := t5 g' G'
    have mm := G'.m
    obtain ⟨_, _, _, _, c1, _⟩ := id st
    exact zTx.cq (st.tx (zlen (h := g') (by omega))) (fun f => zh_kd c1)) (by omega) (fun c hc' => by
    rcases List.mem_append.mp hc' with hc' | hc'
    · rcases List.mem_append.mp hc' with hc' | hc'
      · have : c = 33 ∨ c = 40 := by
          rcases List.mem_cons.mp hc' with x | x
          · exact Or.inl x
          · exact Or.inr (List.mem_singleton.mp x)
        omega
      · have := hc c hc'
        have := hsc c hc'
        omega
    · rw [List.mem_singleton.mp hc']; decide)
  have m6 := G6.m
  have r6 := r5.G G6 (Or.inl (by decide))
  have z06 := (z04.G G5 (Or.inr (Nat.zero_le _))).G G6 (Or.inr (by omega))
  have z16 := (z14.G G5 (Or.inr (Nat.zero_le _))).G G6 (Or.inr (by omega))
  -- what the second text means
  have lx2 : zLx ([33, 40] ++ s ++ [41]) ((33, -1) :: (40, -1) :: (ts ++ [(41, -1)])) := by
    rw [List.append_assoc]
    exact zLyx (s := [33, 40]) (ts := [(33, -1), (40, -1)]) (zLyy (s := [33]) (s' := [40]) (ts := [(33, -1)]) (ts' := [(40, -1)]) (zLy_sg (by decide)) (zLy_sg (by decide))) (zLx_app lx (zLx_sg (by decide)) (Or.inr ⟨41, [], rfl, by decide, by decide⟩))
  have F2 : zFi (ver now t) 3 9 ((33, -1) :: (40, -1) :: (ts ++ [(41, -1)])) (zflip 1 S) k := (((zFi.core F).piece (j := 1) (by decide)).part).filt
  obtain ⟨u1, u2⟩ := ztk_at lx2 (by omega)
  obtain ⟨wd2, p2, S2, f0, ag2, hw2⟩ := F2.whole (by decide) u1 u2
  have f0' : zpW (ztk ([33, 40] ++ s ++ [41])) (zvc ver now t (zCho (ver now t) fun r => zway how ((ver now t).ch r) (S' r)) (now + 1) t) = (wd2, .inl (p2, S2, k)) := by
    rw [zvc_t, zpW_cho]
    exact f0
  obtain ⟨g7, e7, w7, G7⟩ := w6.count ht f0' (by omega)
  rw [zvc_t] at e7
  have e7 : f_ColumnVault_count 1 (nI t) g6 = some (.inl (nI (fb_ct S2 (ver now t).nr)), g7) := e7
  have m7 := G7.m
  have r7 := r6.G G7 (Or.inl (by decide))
  have z07 := z06.G G7 (Or.inr (by omega))
  have z17 := z16.G G7 (Or.inr (by omega))
  have ct2 := zct_opp (N := (ver now t).nr) (S := S) (S' := S2) ag2
  obtain ⟨g8, e8, w8, U8⟩ := w7.turnChoice (by omega) ht
  rw [zvc_t] at e8
  have e8 : f_ColumnVault_turnChoice 1 (nI t) g7 = some (.inl (nI (fb_ct (fun r => !zway how ((ver now t).ch r) (S' r)) (ver now t).nr)), g8) := e8
  have m8 := zU_m U8
  have r8 := r7.U U8
  have z08 := z07.G (zG_U U8 (Nat.le_refl _) (Nat.le_refl _)) (Or.inr (by omega))
  have z18 := z17.G (zG_U U8 (Nat.le_refl _) (Nat.le_refl _)) (Or.inr (by omega))
  have ct3 : fb_ct (fun r => !zway how ((ver now t).ch r) (S' r)) (ver now t).nr = (ver now t).nr - fb_ct (fun r => zway how ((ver now t).ch r) (S r)) (ver now t).nr := zct_opp fun r hr => by
    show (!zway how ((ver now t).ch r) (S' r)) = !zway how ((ver now t).ch r) (S r)
    rw [ag r hr]
  have e9 := w8.size2 ht
  rw [zvc_t, zvc_t] at e9
  have e9 : f_ColumnVault_size 1 (nI t) 2 g8 = some (.inl (nI (fb_ct (fun r => !zway how ((ver now t).ch r) (S' r)) (ver now t).nr)), g8) := e9
  have le1 := fb_ct_le S (ver now t).nr
  have le2 := fb_ct_le (fun r => zway how ((ver now t).ch r) (S r)) (ver now t).nr
  refine ⟨g8, _, _, _, ?_, r8, w8, ⟨by omega, by omega, by omega, fun t' ht' => ?_⟩, ?_⟩
  · rw [f_ColumnVaultLaw_isFilter_192, ze_b (z0.len bb), if_pos (nI_le (Nat.le_refl _) (by omega)), ze_b w.is, ze_b3 e3, ze_b2 (z13.size h40 ba), if_neg (fun x => x rfl), ze_b3 e4, ze_b2 sm, if_neg (by decide), ze_b w4.is, ze_b2 w4.version, if_pos (by rw [nI_1]), hK, ze_b2 e6, ze_b w6.is, ze_b3 e7, ze_b (z07.len bb), ze_b2 (z07.size h40 bb), pk_sub le1, ct2, if_neg (fun x => x rfl), ze_b w7.is, ze_b3 e8, ze_b (z08.len bb), ze_b2 (z18.size h40 ba), pk_sub le2, ct3, if_neg (fun x => x rfl), ze_b w8.is, ze_b3 e9, ze_b (z08.len bb), ze_b2 (z18.size h40 ba), pk_sub le2, ct3, if_neg (fun x => x rfl)]
  · rw [zvc_o ht', zvc_o ht']
  · rw [zvc_t, zvc_t]
    exact ⟨rfl, rfl, rfl⟩
end ZFE

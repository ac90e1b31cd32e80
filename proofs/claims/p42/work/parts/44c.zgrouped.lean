/-! ===== isGrouped ===== -/
section ZGP
variable {h : zx_H} {now : Nat} {ver : Nat → Nat → zT} {tx : List Nat} {pr : Nat × (Nat → Nat) × (Nat → Int32)} {t c b m k : Nat} {T : zT} {G : Nat → Int64}
/-- rows in one of the first k groups -/
def zPk (T : zT) (b : Nat) (G : Nat → Int64) : Nat → Nat → Bool
  | 0, _ => false
  | k + 1, r => zPk T b G k r || zMb T b T.nr (G k) r
theorem zPk_all (gs : zGs T b T.nr m G) {r : Nat} (hr : r < T.nr) : zPk T b G m r = T.ch r := by
  have h1 : ∀ k, zPk T b G k r = true ↔ ∃ g, g < k ∧ zMb T b T.nr (G g) r = true := by
    intro k
    induction k with
    | zero => exact ⟨fun x => absurd x (by show ¬ false = true; decide), fun ⟨g, hg, _⟩ => absurd hg (Nat.not_lt_zero _)⟩
    | succ k ih =>
      show (zPk T b G k r || zMb T b T.nr (G k) r) = true ↔ _
      rw [Bool.or_eq_true, ih]
      constructor
      · rintro (⟨g, hg, e⟩ | e)
        · exact ⟨g, by omega, e⟩
        · exact ⟨k, by omega, e⟩
      · rintro ⟨g, hg, e⟩
        rcases Nat.lt_or_ge g k with x | x
        · exact Or.inl ⟨g, x, e⟩
        · rw [show k = g by omega]; exact Or.inr e
  by_cases hc : T.ch r = true
  · obtain ⟨g, hg, e, _⟩ := (gs.in1 hr).1 hc
    rw [hc]
    exact (h1 m).mpr ⟨g, hg, e⟩
  · rw [ts_nt hc]
    refine ts_nt fun x => ?_
    obtain ⟨g, hg, e⟩ := (h1 m).mp x
    rw [(gs.in1 hr).2 (ts_nt hc) g hg] at e
    cases e
/-- how many have a value -/
theorem zgs_kn (gs : zGs T b T.nr m G) (c : Nat) : fb_sm (fun g => fb_ct (zKn T c (zMb T b T.nr (G g))) T.nr) m = fb_ct (zKn T c T.ch) T.nr := by
  refine zpart (P := fun g r => zKn T c (zMb T b T.nr (G g)) r) (Q := zKn T c T.ch) fun r hr => ?_
  obtain ⟨h1, h2⟩ := gs.in1 hr
  by_cases hk : T.ky c r ≠ -9000000000
  · by_cases hc : T.ch r = true
    · rw [if_pos (zKn_2 hc hk)]
      obtain ⟨g, hg, e, hu⟩ := h1 hc
      exact fb_ct_uniq ⟨g, hg, zKn_2 e hk, fun g' hg' e' => hu g' hg' (zKn_1 e').1⟩
    · rw [if_neg (fun x => hc (zKn_1 x).1)]
      exact fb_ct_none fun g hg => ts_nt fun x => by
        have := (zKn_1 x).1
        rw [h2 (ts_nt hc) g hg] at this
        cases this
  · rw [if_neg (fun x => hk (zKn_1 x).2)]
    exact fb_ct_none fun g hg => ts_nt fun x => hk (zKn_1 x).2
theorem zMb_i {r : Nat} (hr : r < T.nr) {x : Int64} : zMb T b T.nr x r = (T.ch r && decide (T.ky b r = x)) := by
  unfold zMb
  rw [decide_eq_true hr, Bool.true_and]
/-- the rows of a group, place by place -/
theorem zgd148 (w : zWd h now ver tx pr (zgr T b m G)) (hT : ver now t = T) (wT : zWF T) (ht : t < 3) (hb : b < T.nc) (hk : k < m) (gs : zGs T b T.nr m G) {K : Nat → Nat → Int32 → Int32 → Int32 → Int32 → Int32 → Int32 → Int64 → Int64 → Int64 → Int32 → zx_H → Option ((Int32 ⊕ Nat) × zx_H)} {p4 p5 p6 p7 : Int32} {p8 p9 p10 : Int64} : ∀ n i x y, i ≤ T.nr → T.nr - i < n → zFst (fun j => zMb T b T.nr (G k) (T.od j)) i T.od x → zLst (fun j => zMb T b T.nr (G k) (T.od j)) i T.od y → f_ColumnVaultLaw_isGrouped_148 K n 1 0 (nI t) (nI b) p4 p5 p6 p7 p8 p9 p10 (nI k) (ztd (T.kd b) (G k)) (nI (fb_ct (fun j => zMb T b T.nr (G k) (T.od j)) i)) x y (nI i) h = (if p5 = 0 then f_ColumnVaultLaw_isGrouped_300 K 1 0 (nI t) (nI b) p4 p5 p6 (p7 + nI (fb_ct (zMb T b T.nr (G k)) T.nr)) p9 p10 (nI k) p8 (0 : Int64) h else zf_b (zf_is 12 1 h) fun _ => zf_b3 (f_ColumnVault_groupTotal 1 (nI k) p4 (1 : Int32) h) fun v13 h14 => f_ColumnVaultLaw_isGrouped_300 K 1 0 (nI t) (nI b) p4 p5 p6 (p7 + nI (fb_ct (zMb T b T.nr (G k)) T.nr)) p9 p10 (nI k) p8 v13 h14) := by
  subst hT
  have h40 := wT.r40
  -- the group's own key
  obtain ⟨r0, hr0, hc0, ek0⟩ := gs.2.1 k hk
  have kG : zokK ((ver now t).kd b) (G k) := by rw [← ek0]; exact wT.k hb hr0
  have hpos : 0 < fb_ct (zMb (ver now t) b (ver now t).nr (G k)) (ver now t).nr := fb_ct_pos.mpr ⟨r0, hr0, by rw [zMb_i hr0, hc0, decide_eq_true ek0]; rfl⟩
  have hle := fb_ct_le (zMb (ver now t) b (ver now t).nr (G k)) (ver now t).nr
  have hperm := zct_perm wT.p (zMb (ver now t) b (ver now t).nr (G k))
  intro n
  induction n with
  | zero => intro i _ _ _ hn; exact absurd hn (Nat.not_lt_zero _)
  | succ n ih =>
    intro i x y hi hn hx hy
    unfold f_ColumnVaultLaw_isGrouped_148
    rw [ze_b w.is, ze_b3 (w.size0 ht)]
    rcases Nat.lt_or_ge i (ver now t).nr with hlt | hge
    · have ho := wT.o hlt
      have e := zMb_i (b := b) ho (x := G k)
      have hs : fb_ct (fun j => zMb (ver now t) b (ver now t).nr (G k) ((ver now t).od j)) (i + 1) = fb_ct (fun j => zMb (ver now t) b (ver now t).nr (G k) ((ver now t).od j)) i + (if zMb (ver now t) b (ver now t).nr (G k) ((ver now t).od i) = true then 1 else 0) := rfl
      rw [if_neg (nI_ge hlt (by omega)), ze_b w.is, ze_b3 (w.rowAt ht hlt), ze_b w.is, ze_b3 (w.isChosen ht ho)]
      have nz : zMb (ver now t) b (ver now t).nr (G k) ((ver now t).od i) = false → fb_ct (fun j => zMb (ver now t) b (ver now t).nr (G k) ((ver now t).od j)) (i + 1) = fb_ct (fun j => zMb (ver now t) b (ver now t).nr (G k) ((ver now t).od j)) i := fun en => by
        rw [hs, if_neg (by rw [en]; decide), Nat.add_zero]
      by_cases hc : (ver now t).ch ((ver now t).od i) = true
      · rw [if_neg (zb1 hc), ze_b w.is, ze_b3 (w.get ht hb ho)]
        have hinj : zVl (ver now t) ((ver now t).od i) b = ztd ((ver now t).kd b) (G k) ↔ (ver now t).ky b ((ver now t).od i) = G k := ztd_inj (wT.k hb ho) kG
        by_cases he : (ver now t).ky b ((ver now t).od i) = G k
        · have en : zMb (ver now t) b (ver now t).nr (G k) ((ver now t).od i) = true := by rw [e, hc, decide_eq_true he]; rfl
          rw [if_pos (hinj.mpr he)]
          by_cases hx1 : x = -1
          · have h1 := ih (i + 1) _ _ hlt (by omega) (zFst_n hx en (fun j hj => by have := wT.o (show j < (ver now t).nr by omega); omega) hx1) (zLst_n en)
            rw [hs, if_pos en] at h1
            rw [if_neg (fun z => z hx1), nI_1, nI_1]
            exact h1
          · have h1 := ih (i + 1) _ _ hlt (by omega) (zFst_k hx hx1) (zLst_n en)
            rw [hs, if_pos en] at h1
            rw [if_pos hx1, nI_1, nI_1]
            exact h1
        · have en : zMb (ver now t) b (ver now t).nr (G k) ((ver now t).od i) = false := by rw [e, decide_eq_false he, Bool.and_false]
          have h1 := ih (i + 1) x y hlt (by omega) (zFst_f hx en) (zLst_f hy en)
          rw [nz en] at h1
          rw [if_neg (fun z => he (hinj.mp z)), nI_1]
          exact h1
      · have en : zMb (ver now t) b (ver now t).nr (G k) ((ver now t).od i) = false := by rw [e, ts_nt hc, Bool.false_and]
        have h1 := ih (i + 1) x y hlt (by omega) (zFst_f hx en) (zLst_f hy en)
        rw [nz en] at h1
        rw [if_pos (zbt0 hc), nI_1]
        exact h1
    · have ei : i = (ver now t).nr := Nat.le_antisymm hi hge
      subst ei
      obtain ⟨u, e2, hu⟩ := w.groupAt2 hk
      obtain ⟨v, e3, hv⟩ := w.groupAt3 hk
      have e1 := w.groupAt1 hk
      have ux : u = x := zFst_one hu hx
      have vy : v = y := zLst_one hv hy
      rw [hperm]
      rw [if_pos (nI_le (Nat.le_refl _) (by omega)), if_neg (nI_ne0 hpos (by omega)), ze_b w.is, ze_b3 e1, nI_l (by omega), if_neg (fun z => z rfl), ze_b w.is, ze_b3 e2, ux, if_neg (fun z => z rfl), ze_b w.is, ze_b3 e3, vy, if_pos rfl]
/-- totals of the group, and the least value -/
theorem zgd300 (r : zR h) (w : zWd h now ver tx pr (zgr T b m G)) (hT : ver now t = T) (wT : zWF T) (ht : t < 3) (hc : c < T.nc) (hk : k < m) {K : Nat → Nat → Int32 → Int32 → Int32 → Int32 → Int32 → Int32 → Int64 → Int64 → Int64 → Int32 → zx_H → Option ((Int32 ⊕ Nat) × zx_H)} {p3 p5 p6 p7 : Int32} {p11 p12 l : Int64} {a : Nat} (hl : zLeast T c (zPk T b G k) l) (hB : zM h ≤ 6600000) : ∃ g l', f_ColumnVaultLaw_isGrouped_300 K 1 0 (nI t) p3 (nI c) p5 p6 p7 (lN a) l (nI k) p11 p12 h = K 1 0 (nI t) p3 (nI c) p5 p6 p7 (p11 + p12) (lN (a + fb_ct (zKn T c (zMb T b T.nr (G k))) T.nr)) l' (nI (k + 1)) g ∧ zR g ∧ zWd g now ver tx pr (zgr T b m G) ∧ zLeast T c (zPk T b G (k + 1)) l' ∧ zM g ≤ zM h + 272 := by
  subst hT
  obtain ⟨-, S, F, -⟩ := w.grs
  have e0 := w.groupTotalE hk hc 0 (S.total0 F hc (zMb (ver now t) b (ver now t).nr (G k)))
  obtain ⟨g1, x, e1, hx, G1⟩ := zask_leastG w hk hc (by omega)
  have w1 := w.G G1 (Or.inr (by decide))
  have r1 := r.G G1 (Or.inr rfl)
  have m1 := G1.m
  unfold f_ColumnVaultLaw_isGrouped_300
  rw [ze_b w.is, ze_b3 e0, ze_b2 e1, lN_add, nI_1]
  by_cases hxe : x = -3000000002
  · rw [if_neg (fun z => z hxe)]
    rw [hxe] at hx
    exact ⟨g1, l, rfl, r1, w1, zLeast_o1 hl hx wT hc, by omega⟩
  · rw [if_pos hxe]
    by_cases hle : l = -3000000002
    · rw [if_pos hle]
      rw [hle] at hl
      exact ⟨g1, x, rfl, r1, w1, zLeast_o2 hl hx wT hc, by omega⟩
    · rw [if_neg hle]
      obtain ⟨ra, a1, a2, a3, a4⟩ := zLeast_r hx hxe
      obtain ⟨rb, b1, b2, b3, b4⟩ := zLeast_r hl hle
      obtain ⟨g2, eth, G2⟩ := zthan (h := g1) (wT.k hc a1) (wT.k hc b1) (zKn_1 a2).2 (zKn_1 b2).2 (by omega)
      have w2 := w1.G G2 (Or.inr (by decide))
      have m2 := G2.m
      have eth : f_ColumnVaultLaw_than (nI ((ver now t).kd c)) x l g1 = some (zcm ((ver now t).ky c ra) ((ver now t).ky c rb), g2) := by rw [a3, b3]; exact eth
      rw [ze_b w1.is, ze_b3 (w1.kind ht hc), ze_b2 eth]
      by_cases hlt : (ver now t).ky c ra < (ver now t).ky c rb
      · have ez : zcm ((ver now t).ky c ra) ((ver now t).ky c rb) = -1 := if_pos hlt
        rw [ez, if_neg (by decide)]
        refine ⟨g2, x, rfl, r1.G G2 (Or.inr rfl), w2, ?_, by omega⟩
        rw [a3]
        refine zLeast_c (fun r _ => Bool.or_comm _ _) (zLeast_lt a1 a2 a4 b4 ?_)
        rw [zl_t] at hlt; omega
      · have ez : (0 : Int32) ≤ zcm ((ver now t).ky c ra) ((ver now t).ky c rb) := by
          unfold zcm
          rw [if_neg hlt]
          by_cases e : (ver now t).ky c ra = (ver now t).ky c rb
          · rw [if_pos e]; decide
          · rw [if_neg e]; decide
        rw [if_pos ez]
        refine ⟨g2, l, rfl, r1.G G2 (Or.inr rfl), w2, ?_, by omega⟩
        rw [b3]
        refine zLeast_lt b1 b2 b4 a4 ?_
        rw [zl_t] at hlt; omega
end ZGP

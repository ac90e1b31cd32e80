/-! ===== the object's filter questions ===== -/
section ZFA
variable {h g : zx_H} {now : Nat} {ver : Nat → Nat → zT} {tx : List Nat} {pr : Nat × (Nat → Nat) × (Nat → Int32)} {gr : zT × Nat × Nat × (Nat → Int64) × (Nat → Nat → Bool)}
theorem zct_tt : ∀ n, fb_ct (fun _ => true) n = n
  | 0 => rfl
  | n + 1 => by rw [fb_ct_succ, zct_tt n, if_pos rfl]
def zek : zR0 → Int32
  | (_, .inl _) => 0
  | (_, .inr e) => nI e.1
def zep : zR0 → Int32
  | (_, .inl _) => -1
  | (_, .inr e) => e.2
theorem zRw_k {q n0 : Nat} {T : zT} {g1 g : zx_H} : ∀ {z : zR0}, zRw q n0 T g1 g z → (∃ x, f_FilterReader_readWhole q 148 g1 = some (x, g)) ∧ zf_I 3 5 q g = some (zek z) ∧ zf_I 3 6 q g = some (zep z)
  | (_, .inl (_, _, _)), ⟨n, a, b, c, _⟩ => ⟨⟨_, a⟩, b, c⟩
  | (_, .inr _), ⟨a, b, c⟩ => ⟨⟨_, a⟩, b, c⟩
theorem zWd.errorKind (w : zWd h now ver tx pr gr) {t : Nat} (ht : t < 3) (hB : zM h + 20 * (zpW (ztk tx) (ver now t)).1 ≤ 6900000) : ∃ g, f_ColumnVault_errorKind 1 (nI t) h = some (.inl (zek (zpW (ztk tx) (ver now t))), g) ∧ zWd g now ver tx pr gr ∧ zG (20 * (zpW (ztk tx) (ver now t)).1 + 100) 150 154 h g := by
  obtain ⟨g1, g, e1, e2, e3, e4, e5, w2, G⟩ := w.read ht hB
  obtain ⟨⟨x, a⟩, b, c⟩ := zRw_k e5
  refine ⟨g, ?_, w2, G⟩
  unfold f_ColumnVault_errorKind
  rw [ze_b w.is, ze_b3 e1, ze_b e4, ze_b e2, ze_b2 a, ze_b b]
theorem zWd.errorPlace (w : zWd h now ver tx pr gr) {t : Nat} (ht : t < 3) (hB : zM h + 20 * (zpW (ztk tx) (ver now t)).1 ≤ 6900000) : ∃ g, f_ColumnVault_errorPlace 1 (nI t) h = some (.inl (zep (zpW (ztk tx) (ver now t))), g) ∧ zWd g now ver tx pr gr ∧ zG (20 * (zpW (ztk tx) (ver now t)).1 + 100) 150 154 h g := by
  obtain ⟨g1, g, e1, e2, e3, e4, e5, w2, G⟩ := w.read ht hB
  obtain ⟨⟨x, a⟩, b, c⟩ := zRw_k e5
  refine ⟨g, ?_, w2, G⟩
  unfold f_ColumnVault_errorPlace
  rw [ze_b w.is, ze_b3 e1, ze_b e4, ze_b e2, ze_b2 a, ze_b c]
/-- the filter of the text, where it has no fault -/
theorem zWd.filterOf (w : zWd h now ver tx pr gr) {t : Nat} (ht : t < 3) {wd p' k : Nat} {S : Nat → Bool} (hz : zpW (ztk tx) (ver now t) = (wd, .inl (p', S, k))) (hB : zM h + 20 * wd ≤ 6900000) : ∃ n g, f_ColumnVault_filterOf 1 (nI t) h = some (.inl n, g) ∧ zNo 41 g n g.length k ∧ zf_J 8 1 n g = some (zB S (ver now t).nr) ∧ h.length ≤ n ∧ zWd g now ver tx pr gr ∧ zG (20 * wd + 100) 150 154 h g := by
  have hr := w.read ht (by rw [hz]; exact hB)
  rw [hz] at hr
  obtain ⟨g1, g, e1, e2, e3, e4, ⟨n, a, b, c, N, J, hn⟩, w2, G⟩ := hr
  refine ⟨n, g, ?_, N, J, hn, w2, G⟩
  unfold f_ColumnVault_filterOf
  rw [ze_b w.is, ze_b3 e1, ze_b e4, ze_b e2, ze_b2 a]
  rfl
theorem zWd.filterNo (w : zWd h now ver tx pr gr) {t : Nat} (ht : t < 3) {wd : Nat} {e : Nat × Int32} (hz : zpW (ztk tx) (ver now t) = (wd, .inr e)) (hB : zM h + 20 * wd ≤ 6900000) : ∃ g, f_ColumnVault_filterOf 1 (nI t) h = some (.inr 15, g) ∧ zWd g now ver tx pr gr ∧ zG (20 * wd + 120) 150 154 h g := by
  have hr := w.read ht (by rw [hz]; exact hB)
  rw [hz] at hr
  obtain ⟨g1, g, e1, e2, e3, e4, ⟨a, b, c⟩, w2, G⟩ := hr
  have mG : zM g ≤ zM h + (20 * wd + 100) := G.m
  refine ⟨g ++ [.inr (15, [])], ?_, w2.G (zG_exc (a := 177) (b := 177)) (Or.inl (Nat.le_refl _)), (G.t zG_exc).w (by show 20 * wd + 100 + 20 ≤ _; omega) (Nat.le_refl _) (Nat.le_refl _)⟩
  unfold f_ColumnVault_filterOf
  rw [ze_b w.is, ze_b3 e1, ze_b e4, ze_b e2, ze_b2 a]
  show (if g.length < zx_lim then _ else _) = _
  rw [if_pos (zlim (by omega))]
theorem zWd.count (w : zWd h now ver tx pr gr) {t : Nat} (ht : t < 3) {wd p' k : Nat} {S : Nat → Bool} (hz : zpW (ztk tx) (ver now t) = (wd, .inl (p', S, k))) (hB : zM h + 20 * wd ≤ 6900000) : ∃ g, f_ColumnVault_count 1 (nI t) h = some (.inl (nI (fb_ct S (ver now t).nr)), g) ∧ zWd g now ver tx pr gr ∧ zG (20 * wd + 100) 150 154 h g := by
  have h40 := (w.T ht).r40
  obtain ⟨n, g, e1, N, J, hn, w2, G⟩ := w.filterOf ht hz hB
  refine ⟨g, ?_, w2, G⟩
  unfold f_ColumnVault_count
  rw [ze_b w.is, ze_b3 e1, ze_b J, ze_b2 (zB_cnt (by omega) g)]
theorem zWd.countNo (w : zWd h now ver tx pr gr) {t : Nat} (ht : t < 3) {wd : Nat} {e : Nat × Int32} (hz : zpW (ztk tx) (ver now t) = (wd, .inr e)) (hB : zM h + 20 * wd ≤ 6900000) : ∃ g, f_ColumnVault_count 1 (nI t) h = some (.inr 15, g) ∧ zWd g now ver tx pr gr ∧ zG (20 * wd + 120) 150 154 h g := by
  obtain ⟨g, e1, w2, G⟩ := w.filterNo ht hz hB
  refine ⟨g, ?_, w2, G⟩
  unfold f_ColumnVault_count
  rw [ze_b w.is, ze_b3E e1]
theorem zWd.reads (w : zWd h now ver tx pr gr) {t : Nat} (ht : t < 3) (b : Int32) {wd p' k : Nat} {S : Nat → Bool} (hz : zpW (ztk tx) (ver now t) = (wd, .inl (p', S, k))) (hB : zM h + 20 * wd ≤ 6900000) : ∃ r g, f_ColumnVault_reads 1 (nI t) b h = some (.inl (nI r), g) ∧ (ver now t).nr ≤ r ∧ r ≤ k * (ver now t).nr ∧ zWd g now ver tx pr gr ∧ zG (20 * wd + 100) 150 154 h g := by
  have h40 := (w.T ht).r40
  obtain ⟨n, g, e1, N, J, hn, w2, G⟩ := w.filterOf ht hz hB
  obtain ⟨r, r1, r2, r3⟩ := zreads (h := g) (b := b) 20 41 0 (by decide) (by decide) n g.length k N (zB (fun _ => true) (ver now t).nr)
  rw [zcn_zB (by omega), zct_tt] at r2 r3
  have r1 : f_ColumnVault_readsOf 20 n (zB (fun _ => true) (ver now t).nr) b (0 : Int32) g = some (nI r, g) := r1
  refine ⟨r, g, ?_, r2, r3, w2, G⟩
  unfold f_ColumnVault_reads
  rw [ze_b w.is, ze_b3 e1, ze_b w2.is, ze_b3 (w2.sheetOf ht), ze_b (w2.T ht).ok, ze_b2 (w2.T ht).allRows, ze_b2 r1]
/-- the choice taken by the way how -/
def zway (how : Nat) (a b : Bool) : Bool := if how = 0 then b else if how = 1 then a && b else if how = 2 then a || b else a && !b
theorem zWd.choose (w : zWd h now ver tx pr gr) (hn : now < 100000) {t : Nat} (ht : t < 3) {how : Nat} (hh : how < 4) {wd p' k : Nat} {S : Nat → Bool} (hz : zpW (ztk tx) (ver now t) = (wd, .inl (p', S, k))) (hB : zM h + 20 * wd ≤ 6900000) : ∃ g, f_ColumnVault_choose 1 (nI t) (nI how) h = some (.inl (nI (fb_ct (fun r => zway how ((ver now t).ch r) (S r)) (ver now t).nr)), g) ∧ zWd g (now + 1) (zvc ver now t (zCho (ver now t) (fun r => zway how ((ver now t).ch r) (S r)))) tx pr gr ∧ zG (20 * wd + 100) 2 154 h g := by
  have h40 := (w.T ht).r40
  obtain ⟨n, g0, e0, N, J, hnn, w0, G0⟩ := w.filterOf ht hz hB
  obtain ⟨g1, e1, w1, U1⟩ := w0.nextOf hn ht
  obtain ⟨S1, F1⟩ := w1.N ht
  obtain ⟨g2, e2, S2, U2⟩ := S1.cho (fun r => zway how ((ver now t).ch r) (S r))
  have e4 : zf_J 10 5 (zq (now + 1) t) g2 = some (zB (fun r => zway how ((ver now t).ch r) (S r)) (ver now t).nr) := S2.J5
  have ec := zB_cnt (p := fun r => zway how ((ver now t).ch r) (S r)) (n := (ver now t).nr) (by omega) g2
  refine ⟨g2, ?_, w1.done ht S2 (F1.cho _) U2, ?_⟩
  · unfold f_ColumnVault_choose
    rw [ze_b w.is, ze_b3 (w.sheetOf ht), if_neg (nI_pos (by omega)), if_pos (show nI how ≤ (3 : Int32) from nI_le (b := 3) (by omega) (by decide)), ze_b w.is, ze_b3 e0, ze_b J, ze_b w0.is, ze_b3 e1]
    have hc : how = 0 ∨ how = 1 ∨ how = 2 ∨ how = 3 := by omega
    rcases hc with rfl | rfl | rfl | rfl
    · rw [if_neg (by decide)]
      have e2 : zf_put 10 5 (zq (now + 1) t) (.long (zB S (ver now t).nr)) g1 = some g2 := e2
      rw [ze_b e2, ze_b e4, ze_b2 ec]
    · have ex : zB (ver now t).ch (ver now t).nr &&& zB S (ver now t).nr = zB (fun r => zway 1 ((ver now t).ch r) (S r)) (ver now t).nr := zB_and (by omega)
      rw [if_pos (by decide), if_neg (by decide), ze_b S1.J5, ex, ze_b e2, ze_b e4, ze_b2 ec]
    · have ex : zB (ver now t).ch (ver now t).nr ||| zB S (ver now t).nr = zB (fun r => zway 2 ((ver now t).ch r) (S r)) (ver now t).nr := zB_or (by omega)
      rw [if_pos (by decide), if_pos (by decide), if_neg (by decide), ze_b S1.J5, ex, ze_b e2, ze_b e4, ze_b2 ec]
    · have ex : zB (ver now t).ch (ver now t).nr &&& (zB S (ver now t).nr ^^^ (-1 : Int64)) = zB (fun r => zway 3 ((ver now t).ch r) (S r)) (ver now t).nr := zB_andn (by omega)
      rw [if_pos (by decide), if_pos (by decide), if_pos (by decide), ze_b S1.J5, ex, ze_b e2, ze_b e4, ze_b2 ec]
  · have Gx := zG_U U1 (a := 2) (b := 154) (by decide) (by decide)
    have Gy := zG_U (zUq ht U2) (a := 2) (b := 154) (by decide) (by decide)
    exact ((G0.w (Nat.le_refl _) (show 2 ≤ 150 by decide) (Nat.le_refl _)).t (Gx.t Gy)).w (by omega) (Nat.le_refl _) (Nat.le_refl _)
theorem zWd.chooseNo (w : zWd h now ver tx pr gr) {t : Nat} (ht : t < 3) {how : Nat} (hh : how < 4) {wd : Nat} {e : Nat × Int32} (hz : zpW (ztk tx) (ver now t) = (wd, .inr e)) (hB : zM h + 20 * wd ≤ 6900000) : ∃ g, f_ColumnVault_choose 1 (nI t) (nI how) h = some (.inr 15, g) ∧ zWd g now ver tx pr gr ∧ zG (20 * wd + 120) 150 154 h g := by
  obtain ⟨g, e1, w2, G⟩ := w.filterNo ht hz hB
  refine ⟨g, ?_, w2, G⟩
  unfold f_ColumnVault_choose
  rw [ze_b w.is, ze_b3 (w.sheetOf ht), if_neg (nI_pos (by omega)), if_pos (show nI how ≤ (3 : Int32) from nI_le (b := 3) (by omega) (by decide)), ze_b w.is, ze_b3E e1]
end ZFA

/-! ===== the versions ===== -/
section ZHI
def zq (v t : Nat) : Nat := 4 + 4 * (v % 12 * 3 + t)
theorem zq_b {v t : Nat} (ht : t < 3) : 4 ≤ zq v t ∧ zq v t + 4 ≤ 148 := by
  unfold zq
  have : v % 12 < 12 := Nat.mod_lt _ (by decide)
  omega
theorem zq_ne' {v v' t t' : Nat} (ht : t < 3) (ht' : t' < 3) (h : v % 12 ≠ v' % 12 ∨ t ≠ t') : zq v t + 4 ≤ zq v' t' ∨ zq v' t' + 4 ≤ zq v t := by
  unfold zq
  omega
theorem zq_eq {v v' t : Nat} (h : v % 12 = v' % 12) : zq v t = zq v' t := by unfold zq; rw [h]
/-- the versions kept, now the newest -/
def zHist (h : zx_H) (now : Nat) (ver : Nat → Nat → zT) : Prop :=
  h[2]? = some (.inr (6, [.ref 3, .int (nI now)])) ∧ (∃ F, h[3]? = some (.inl (0, 36, .inr (.inr (.inr (.inr F))))) ∧ ∀ s, s < 36 → F s = some (4 + 4 * s)) ∧ (∀ v t, t < 3 → zSh h (zq v t)) ∧ (∀ v t, v ≤ now → now < v + 12 → t < 3 → TS h (zq v t) (ver v t) ∧ zWF (ver v t)) ∧ now ≤ 100000
variable {h : zx_H} {now : Nat} {ver : Nat → Nat → zT}
theorem zHist.c (H : zHist h now ver) : h[2]? = some (.inr (6, [.ref 3, .int (nI now)])) := H.1
theorem zHist.sh (H : zHist h now ver) {v t : Nat} (ht : t < 3) : zSh h (zq v t) := H.2.2.1 v t ht
theorem zHist.ts (H : zHist h now ver) {v t : Nat} (h1 : v ≤ now) (h2 : now < v + 12) (ht : t < 3) : TS h (zq v t) (ver v t) := (H.2.2.2.1 v t h1 h2 ht).1
theorem zHist.wf (H : zHist h now ver) {v t : Nat} (h1 : v ≤ now) (h2 : now < v + 12) (ht : t < 3) : zWF (ver v t) := (H.2.2.2.1 v t h1 h2 ht).2
theorem zHist.n (H : zHist h now ver) : now ≤ 100000 := H.2.2.2.2
theorem zh_ldS {q n j k : Nat} {F : Nat → Option Nat} (e : h[q]? = some (.inl (0, n, .inr (.inr (.inr (.inr F)))))) (hj : j < n) (hn : n < 2 ^ 31) (hk : F j = some k) : zf_ldA q (nI j) h = some k := by
  unfold zf_ldA; rw [e]
  have h1 : zx_in (nI j) n := vp_in_nI hj hn
  show (if _ then _ else _) = _
  rw [if_pos h1, nI_clamp (Nat.lt_trans hj hn), hk]
theorem zsheetIn (e : ∃ F, h[3]? = some (.inl (0, 36, .inr (.inr (.inr (.inr F))))) ∧ ∀ s, s < 36 → F s = some (4 + 4 * s)) {x : Value} (e2 : h[2]? = some (.inr (6, [.ref 3, x]))) {v t : Nat} (hv : v < 2 ^ 30) (ht : t < 3) : f_History_sheetIn 2 (nI v) (nI t) h = some (some (zq v t), h) := by
  obtain ⟨F, eF, hF⟩ := e
  have h12 : v % 12 < 12 := Nat.mod_lt _ (by decide)
  unfold f_History_sheetIn
  have e1 : ((nI v - nI v / (12 : Int32) * (12 : Int32)) * (3 : Int32)) + nI t = nI (v % 12 * 3 + t) := by
    rw [show (12 : Int32) = nI 12 from rfl, show (3 : Int32) = nI 3 from rfl, pk_rem (by omega) (by decide) (by decide), pk_mul, nI_add]
  rw [if_neg (nI_pos (by omega)), if_neg (nI_pos (by omega)), if_pos (show nI t < (3 : Int32) from nI_lt (b := 3) ht (by decide)), ze_b (zh_A e2 rfl), e1, ze_b (zh_ldS eF (by omega) (by decide) (hF _ (by omega)))]
  rfl
theorem zsheetNo {v : Int32} {t : Int32} (ht : t < 0 ∨ 3 ≤ t) (hv : ¬ v < 0) : f_History_sheetIn 2 v t h = some (none, h) := by
  unfold f_History_sheetIn
  rw [if_neg hv]
  by_cases h1 : t < 0
  · rw [if_pos h1]
  · rw [if_neg h1]
    rcases ht with h2 | h2
    · exact absurd h2 h1
    · rw [if_neg]
      rw [zi_e] at h2
      rw [zi_t]
      omega
/-- the next version made as v is -/
def zvx (ver : Nat → Nat → zT) (now v : Nat) : Nat → Nat → zT := fun v' t => if v' = now + 1 then ver v t else ver v' t
theorem zHist.next (H : zHist h now ver) (hn : now < 100000) {v : Nat} (h1 : v ≤ now) (h2 : now < v + 12) : ∃ g, f_History_makeNextFrom 2 (nI v) h = some ((), g) ∧ zHist g (now + 1) (zvx ver now v) ∧ zU 2 146 h g := by
  have key : ∀ n i g0, i ≤ 3 → 3 - i < n → g0[2]? = some (.inr (6, [.ref 3, .int (nI now)])) → (∃ F, g0[3]? = some (.inl (0, 36, .inr (.inr (.inr (.inr F))))) ∧ ∀ s, s < 36 → F s = some (4 + 4 * s)) → (∀ v t, t < 3 → zSh g0 (zq v t)) → (∀ t, t < 3 → TS g0 (zq v t) (ver v t)) → (∀ t, t < i → TS g0 (zq (now + 1) t) (ver v t)) → (∀ v' t T, t < 3 → v' % 12 ≠ (now + 1) % 12 → TS h (zq v' t) T → TS g0 (zq v' t) T) → ∃ g, f_History_makeNextFrom_2 n 2 (nI v) (nI i) g0 = some ((), g) ∧ zHist g (now + 1) (zvx ver now v) ∧ zU 2 146 g0 g := by
    intro n
    induction n with
    | zero => intro i _ _ hn; exact absurd hn (Nat.not_lt_zero _)
    | succ n ih =>
      intro i g0 hi hn e2 e3 a1 a2 a3 a4
      unfold f_History_makeNextFrom_2
      rcases Nat.lt_or_ge i 3 with hlt | hge
      · obtain ⟨g1, r1, S1, U1⟩ := (a2 i hlt).copy (a1 (now + 1) i hlt) (by
          rcases Nat.decEq ((now + 1) % 12) (v % 12) with e | e
          · rcases zq_ne' hlt hlt (Or.inl e) with x | x
            · exact Or.inl x
            · exact Or.inr (Or.inl x)
          · exact Or.inr (Or.inr (zq_eq e)))
        have hb := zq_b (v := now + 1) hlt
        have U0 : zU 2 146 g0 g1 := zU_w U1 (by omega) (by omega)
        have hS : ∀ v' t T, t < 3 → (v' % 12 ≠ (now + 1) % 12 ∨ t ≠ i) → TS g0 (zq v' t) T → TS g1 (zq v' t) T := fun v' t T ht hne S => S.U U1 (zq_ne' ht hlt hne)
        obtain ⟨g, r2, S2, U2⟩ := ih (i + 1) g1 hlt (by omega) (by rw [U1.2.2 2 (by omega)]; exact e2) (by rw [U1.2.2 3 (by omega)]; exact e3) (fun v' t ht => by
          rcases Classical.em (v' % 12 ≠ (now + 1) % 12 ∨ t ≠ i) with e | e
          · exact (a1 v' t ht).U U1 (zq_ne' ht hlt e)
          · have e4 : v' % 12 = (now + 1) % 12 := Classical.byContradiction fun x => e (Or.inl x)
            have e5 : t = i := Classical.byContradiction fun x => e (Or.inr x)
            rw [zq_eq e4, e5]; exact S1.sh) (fun t ht => by
          rcases Classical.em (v % 12 ≠ (now + 1) % 12 ∨ t ≠ i) with e | e
          · exact hS v t _ ht e (a2 t ht)
          · have e4 : v % 12 = (now + 1) % 12 := Classical.byContradiction fun x => e (Or.inl x)
            have e5 : t = i := Classical.byContradiction fun x => e (Or.inr x)
            rw [zq_eq e4, e5]; exact S1) (fun t ht => by
          rcases Nat.lt_or_ge t i with e | e
          · exact hS (now + 1) t _ (by omega) (Or.inr (by omega)) (a3 t e)
          · have : t = i := by omega
            rw [this]; exact S1) (fun v' t T ht hne S => hS v' t T ht (Or.inl hne) (a4 v' t T ht hne S))
        refine ⟨g, ?_, S2, zU_t U0 U2⟩
        rw [if_neg (show ¬ (3 : Int32) ≤ nI i from nI_ge (b := 3) hlt (by decide)), ze_b (zh_is e2), ze_b2 (zsheetIn e3 e2 (by omega) hlt), ze_b (zh_I e2 rfl), ze_b (zh_is e2), nI_1, ze_b2 (zsheetIn e3 e2 (by omega) hlt)]
        show zf_b (zf_is 10 (zq (now + 1) i) g0) _ = _
        rw [ze_b (by obtain ⟨⟨K, X, O, nc, nr, ch, Hs⟩, _⟩ := a1 (now + 1) i hlt; exact zh_is Hs.c), ze_b2 r1, nI_1]
        exact r2
      · have e : i = 3 := Nat.le_antisymm hi hge
        subst e
        have r1 := zh_put (k := 1) (v := .int (nI (now + 1))) e2 (by show _ < 2; decide)
        have hu : zU 2 1 g0 (g0.set 2 (.inr (6, [.ref 3, .int (nI (now + 1))]))) := zU_s e2 rfl (by omega)
        refine ⟨_, ?_, ⟨zh_set_s e2, ?_, fun v' t ht => ?_, fun v' t b1 b2 ht => ?_, by omega⟩, zU_w hu (by omega) (by omega)⟩
        · rw [if_pos (show (3 : Int32) ≤ nI 3 by decide), ze_b (zh_I e2 rfl), nI_1, ze_b r1]
          rfl
        · rw [zh_set_n (by decide)]; exact e3
        · exact (a1 v' t ht).U hu (by have := zq_b (v := v') ht; omega)
        · unfold zvx
          have hb := zq_b (v := v') ht
          by_cases e : v' = now + 1
          · rw [if_pos e, e]
            exact ⟨(a3 t ht).U hu (by have := zq_b (v := now + 1) ht; omega), H.wf h1 h2 ht⟩
          · rw [if_neg e]
            have e4 : v' % 12 ≠ (now + 1) % 12 := by omega
            exact ⟨(a4 v' t _ ht e4 (H.ts (by omega) (by omega) ht)).U hu (by omega), H.wf (by omega) (by omega) ht⟩
  unfold f_History_makeNextFrom
  exact key zF 0 h (by omega) (by unfold zF; omega) H.1 H.2.1 H.2.2.1 (fun t ht => H.ts h1 h2 ht) (fun t ht => absurd ht (Nat.not_lt_zero _)) (fun _ _ _ _ _ S => S)
/-- table t of version v as T -/
def zvs (ver : Nat → Nat → zT) (v t : Nat) (T : zT) : Nat → Nat → zT := fun v' t' => if v' = v ∧ t' = t then T else ver v' t'
theorem zHist.upd (H : zHist h now ver) {g : zx_H} {t : Nat} (ht : t < 3) {T : zT} (S : TS g (zq now t) T) (w : zWF T) (U : zU (zq now t) 4 h g) : zHist g now (zvs ver now t T) := by
  have hb := zq_b (v := now) ht
  refine ⟨by rw [U.2.2 2 (by omega)]; exact H.1, by rw [U.2.2 3 (by omega)]; exact H.2.1, fun v' t' ht' => ?_, fun v' t' b1 b2 ht' => ?_, H.n⟩
  · rcases Classical.em (v' % 12 ≠ now % 12 ∨ t' ≠ t) with e | e
    · exact (H.sh ht').U U (zq_ne' ht' ht e)
    · have e4 : v' % 12 = now % 12 := Classical.byContradiction fun x => e (Or.inl x)
      have e5 : t' = t := Classical.byContradiction fun x => e (Or.inr x)
      rw [zq_eq e4, e5]; exact S.sh
  · unfold zvs
    by_cases e : v' = now ∧ t' = t
    · rw [if_pos e, e.1, e.2]; exact ⟨S, w⟩
    · rw [if_neg e]
      refine ⟨(H.ts b1 b2 ht').U U (zq_ne' ht' ht ?_), H.wf b1 b2 ht'⟩
      omega
theorem zHist.G (H : zHist h now ver) {g : zx_H} {k a b : Nat} (x : zG k a b h g) (hd : 148 ≤ a ∨ b ≤ 2) : zHist g now ver := by
  obtain ⟨F, eF, hF⟩ := H.2.1
  refine ⟨x.gt H.1 (by omega), ⟨F, x.gt eF (by omega), hF⟩, fun v t ht => (H.sh ht).G x (by have := zq_b (v := v) ht; omega), fun v t b1 b2 ht => ⟨(H.ts b1 b2 ht).G x (by have := zq_b (v := v) ht; omega), H.wf b1 b2 ht⟩, H.n⟩
end ZHI
/-! ===== the whole object ===== -/
section ZWO
def zV (h : zx_H) : Prop := h[1]? = some (.inr (12, [.ref 2, .ref 148, .ref 150, .ref 154, .ref 157, .ref 164]))
/-- the text -/
def zTxt (h : zx_H) (tx : List Nat) : Prop := h[148]? = some (.inr (4, [.ref 149, .int (nI tx.length)])) ∧ (∃ f, h[149]? = some (.inl (1, 160, .inl f)) ∧ ∀ i, i < tx.length → f i = nI (tx.getD i 0)) ∧ tx.length ≤ 160 ∧ ∀ c ∈ tx, 1 ≤ c ∧ c ≤ 255
def zTok (h : zx_H) : Prop := (∃ k, h[150]? = some (.inr (11, [.ref 151, .ref 152, .ref 153, .int k]))) ∧ (∃ f, h[151]? = some (.inl (1, 161, .inl f))) ∧ (∃ f, h[152]? = some (.inl (1, 161, .inl f))) ∧ ∃ f, h[153]? = some (.inl (2, 161, .inr (.inl f)))
/-- the pairs: how many, left, right -/
def zPai (h : zx_H) (m : Nat) (l : Nat → Nat) (r : Nat → Int32) : Prop := h[154]? = some (.inr (9, [.ref 155, .ref 156, .int (nI m)])) ∧ (∃ f, h[155]? = some (.inl (1, 1600, .inl f)) ∧ ∀ i, i < m → f i = nI (l i)) ∧ (∃ f, h[156]? = some (.inl (1, 1600, .inl f)) ∧ ∀ i, i < m → f i = r i) ∧ m ≤ 1600
/-- groups at q: the table then, the column, how many, their keys, their rows -/
def zGrp (h : zx_H) (q : Nat) (T : zT) (c m : Nat) (G : Nat → Int64) (M : Nat → Nat → Bool) : Prop := h[q]? = some (.inr (5, [.ref (q + 1), .ref (q + 5), .ref (q + 6), .int (nI c), .int (nI m)])) ∧ TS h (q + 1) T ∧ zWF T ∧ (∃ f, h[q + 5]? = some (.inl (2, 40, .inr (.inl f))) ∧ ∀ i, i < m → f i = G i) ∧ (∃ f, h[q + 6]? = some (.inl (2, 40, .inr (.inl f))) ∧ ∀ i, i < m → f i = zB (M i) T.nr) ∧ m ≤ 40
/-- groups of any kind -/
def zGrA (h : zx_H) (q : Nat) : Prop := (∃ x y, h[q]? = some (.inr (5, [.ref (q + 1), .ref (q + 5), .ref (q + 6), .int x, .int y]))) ∧ zSh h (q + 1) ∧ (∃ f, h[q + 5]? = some (.inl (2, 40, .inr (.inl f)))) ∧ ∃ f, h[q + 6]? = some (.inl (2, 40, .inr (.inl f)))
def zChk (h : zx_H) : Prop := h[164]? = some (.inr (2, [.ref 165, .ref 169, .ref 176])) ∧ zSh h 165 ∧ zGrA h 169 ∧ ∃ f, h[176]? = some (.inl (2, 40, .inr (.inl f)))
/-- the object: the version now, the tables of the versions, the text, the pairs, the groups -/
def zWd (h : zx_H) (now : Nat) (ver : Nat → Nat → zT) (tx : List Nat) (pr : Nat × (Nat → Nat) × (Nat → Int32)) (gr : zT × Nat × Nat × (Nat → Int64) × (Nat → Nat → Bool)) : Prop := zV h ∧ zHist h now ver ∧ zTxt h tx ∧ zTok h ∧ zPai h pr.1 pr.2.1 pr.2.2 ∧ zGrp h 157 gr.1 gr.2.1 gr.2.2.1 gr.2.2.2.1 gr.2.2.2.2 ∧ zChk h
variable {h g : zx_H} {now : Nat} {ver : Nat → Nat → zT} {tx : List Nat} {pr : Nat × (Nat → Nat) × (Nat → Int32)} {gr : zT × Nat × Nat × (Nat → Int64) × (Nat → Nat → Bool)} {k a b : Nat}
theorem zWd.v (w : zWd h now ver tx pr gr) : zV h := w.1
theorem zWd.hi (w : zWd h now ver tx pr gr) : zHist h now ver := w.2.1
theorem zWd.txt (w : zWd h now ver tx pr gr) : zTxt h tx := w.2.2.1
theorem zWd.tk (w : zWd h now ver tx pr gr) : zTok h := w.2.2.2.1
theorem zWd.prs (w : zWd h now ver tx pr gr) : zPai h pr.1 pr.2.1 pr.2.2 := w.2.2.2.2.1
theorem zWd.grs (w : zWd h now ver tx pr gr) : zGrp h 157 gr.1 gr.2.1 gr.2.2.1 gr.2.2.2.1 gr.2.2.2.2 := w.2.2.2.2.2.1
theorem zWd.ck (w : zWd h now ver tx pr gr) : zChk h := w.2.2.2.2.2.2
theorem zV.G (H : zV h) (x : zG k a b h g) (hd : 2 ≤ a ∨ b ≤ 1) : zV g := x.gt H (by omega)
theorem zTxt.G (H : zTxt h tx) (x : zG k a b h g) (hd : 150 ≤ a ∨ b ≤ 148) : zTxt g tx := by
  obtain ⟨h1, ⟨f, h2, h3⟩, h4⟩ := H
  exact ⟨x.gt h1 (by omega), ⟨f, x.gt h2 (by omega), h3⟩, h4⟩
theorem zTok.G (H : zTok h) (x : zG k a b h g) (hd : 154 ≤ a ∨ b ≤ 150) : zTok g := by
  obtain ⟨⟨k, h1⟩, ⟨f, h2⟩, ⟨f3, h3⟩, f4, h4⟩ := H
  exact ⟨⟨k, x.gt h1 (by omega)⟩, ⟨f, x.gt h2 (by omega)⟩, ⟨f3, x.gt h3 (by omega)⟩, f4, x.gt h4 (by omega)⟩
theorem zPai.G {m : Nat} {l : Nat → Nat} {r : Nat → Int32} (H : zPai h m l r) (x : zG k a b h g) (hd : 157 ≤ a ∨ b ≤ 154) : zPai g m l r := by
  obtain ⟨h1, ⟨f, h2, h3⟩, ⟨f4, h4, h5⟩, h6⟩ := H
  exact ⟨x.gt h1 (by omega), ⟨f, x.gt h2 (by omega), h3⟩, ⟨f4, x.gt h4 (by omega), h5⟩, h6⟩
theorem zGrp.G {q : Nat} {T : zT} {c m : Nat} {G : Nat → Int64} {M : Nat → Nat → Bool} (H : zGrp h q T c m G M) (x : zG k a b h g) (hd : q + 7 ≤ a ∨ b ≤ q) : zGrp g q T c m G M := by
  obtain ⟨h1, h2, h3, ⟨f4, h4, h5⟩, ⟨f6, h6, h7⟩, h8⟩ := H
  exact ⟨x.gt h1 (by omega), h2.G x (by omega), h3, ⟨f4, x.gt h4 (by omega), h5⟩, ⟨f6, x.gt h6 (by omega), h7⟩, h8⟩
theorem zGrA.G {q : Nat} (H : zGrA h q) (x : zG k a b h g) (hd : q + 7 ≤ a ∨ b ≤ q) : zGrA g q := by
  obtain ⟨⟨x1, y1, h1⟩, h2, ⟨f4, h4⟩, f6, h6⟩ := H
  exact ⟨⟨x1, y1, x.gt h1 (by omega)⟩, h2.G x (by omega), ⟨f4, x.gt h4 (by omega)⟩, f6, x.gt h6 (by omega)⟩
theorem zGrp.A {q : Nat} {T : zT} {c m : Nat} {G : Nat → Int64} {M : Nat → Nat → Bool} (H : zGrp h q T c m G M) : zGrA h q := by
  obtain ⟨h1, h2, h3, ⟨f4, h4, h5⟩, ⟨f6, h6, h7⟩, h8⟩ := H
  exact ⟨⟨_, _, h1⟩, h2.sh, ⟨f4, h4⟩, f6, h6⟩
theorem zChk.G (H : zChk h) (x : zG k a b h g) (hd : 177 ≤ a ∨ b ≤ 164) : zChk g := by
  obtain ⟨h1, h2, h3, f4, h4⟩ := H
  exact ⟨x.gt h1 (by omega), h2.G x (by omega), h3.G x (by omega), f4, x.gt h4 (by omega)⟩
/-- nothing of the object changed -/
theorem zWd.G (w : zWd h now ver tx pr gr) (x : zG k a b h g) (hd : 177 ≤ a ∨ b ≤ 1) : zWd g now ver tx pr gr := ⟨w.v.G x (by omega), w.hi.G x (by omega), w.txt.G x (by omega), w.tk.G x (by omega), w.prs.G x (by omega), w.grs.G x (by omega), w.ck.G x (by omega)⟩
/-- the versions alone changed -/
theorem zWd.H (w : zWd h now ver tx pr gr) {now' : Nat} {ver' : Nat → Nat → zT} (hh : zHist g now' ver') (x : zG k 2 148 h g) : zWd g now' ver' tx pr gr := ⟨w.v.G x (by omega), hh, w.txt.G x (by omega), w.tk.G x (by omega), w.prs.G x (by omega), w.grs.G x (by omega), w.ck.G x (by omega)⟩
theorem zWd.len (w : zWd h now ver tx pr gr) : 177 ≤ h.length := by
  obtain ⟨_, _, _, f4, h4⟩ := w.ck
  have := zlt_of h4
  omega
theorem zWd.is (w : zWd h now ver tx pr gr) : zf_is 12 1 h = some () := zh_is w.v
theorem zWd.T (w : zWd h now ver tx pr gr) {t : Nat} (ht : t < 3) : TS h (zq now t) (ver now t) := w.hi.ts (Nat.le_refl _) (by omega) ht
theorem zWd.F (w : zWd h now ver tx pr gr) {t : Nat} (ht : t < 3) : zWF (ver now t) := w.hi.wf (Nat.le_refl _) (by omega) ht
theorem zWd.sheetOf (w : zWd h now ver tx pr gr) {t : Nat} (ht : t < 3) : f_ColumnVault_sheetOf 1 (nI t) h = some (.inl (zq now t), h) := by
  have hn := w.hi.n
  unfold f_ColumnVault_sheetOf
  rw [ze_b (zh_A w.v rfl), ze_b (zh_A w.v rfl), ze_b (zh_I w.hi.c rfl), ze_b (zh_is w.hi.c), ze_b2 (zsheetIn w.hi.2.1 w.hi.c (by omega) ht)]
  rfl
theorem zWd.sheetNo (w : zWd h now ver tx pr gr) {t : Int32} (ht : t < 0 ∨ 3 ≤ t) (hB : zM h ≤ 7200000) : f_ColumnVault_sheetOf 1 t h = some (.inr 13, h ++ [.inr (13, [])]) := by
  have hn := w.hi.n
  unfold f_ColumnVault_sheetOf
  rw [ze_b (zh_A w.v rfl), ze_b (zh_A w.v rfl), ze_b (zh_I w.hi.c rfl), ze_b (zh_is w.hi.c), ze_b2 (zsheetNo ht (nI_pos (by omega)))]
  show (if h.length < zx_lim then _ else _) = _
  rw [if_pos (zlim hB)]
theorem TS.reqCol {q : Nat} {T : zT} (S : TS h q T) {c : Nat} (hc : c < T.nc) : f_ColumnVault_requireColumn q (nI c) h = some (.inl (), h) := by
  unfold f_ColumnVault_requireColumn
  rw [ze_b S.ok, ze_b2 (S.hasColumn1 hc), if_pos (by decide)]
theorem TS.reqColNo {q : Nat} {T : zT} (S : TS h q T) {c : Int32} (hc : c < 0 ∨ nI T.nc ≤ c) (hB : zM h ≤ 7200000) : f_ColumnVault_requireColumn q c h = some (.inr 13, h ++ [.inr (13, [])]) := by
  unfold f_ColumnVault_requireColumn
  rw [ze_b S.ok, ze_b2 (S.hasColumn c), if_pos hc, if_neg (by decide), if_pos (zlim hB)]
theorem TS.reqRow {q : Nat} {T : zT} (S : TS h q T) {c : Nat} (hc : c < T.nr) : f_ColumnVault_requireRow q (nI c) h = some (.inl (), h) := by
  unfold f_ColumnVault_requireRow
  rw [ze_b S.ok, ze_b2 (S.hasRow1 hc), if_pos (by decide)]
theorem TS.reqPlace {q : Nat} {T : zT} (S : TS h q T) {c : Nat} (hc : c < T.nr) : f_ColumnVault_requirePlace q (nI c) h = some (.inl (), h) := by
  unfold f_ColumnVault_requirePlace
  rw [ze_b S.ok, ze_b2 (S.hasRow1 hc), if_pos (by decide)]
theorem TS.reqPlaceNo {q : Nat} {T : zT} (S : TS h q T) {c : Int32} (hc : c < 0 ∨ nI T.nr ≤ c) (hB : zM h ≤ 7200000) : f_ColumnVault_requirePlace q c h = some (.inr 13, h ++ [.inr (13, [])]) := by
  unfold f_ColumnVault_requirePlace
  rw [ze_b S.ok, ze_b2 (S.hasRow c), if_pos hc, if_neg (by decide), if_pos (zlim hB)]
theorem ze_b3 {α β : Type} {x : Option ((α ⊕ Nat) × zx_H)} {f : α → zx_H → Option ((β ⊕ Nat) × zx_H)} {a : α} {g : zx_H} (e : x = some (.inl a, g)) : zf_b3 x f = f a g := by subst e; rfl
theorem ze_b3E {α β : Type} {x : Option ((α ⊕ Nat) × zx_H)} {f : α → zx_H → Option ((β ⊕ Nat) × zx_H)} {E : Nat} {g : zx_H} (e : x = some (.inr E, g)) : zf_b3 x f = some (.inr E, g) := by subst e; rfl
theorem ze_b4 {α β : Type} {x : Option ((α ⊕ Nat) × zx_H)} {f : α → zx_H → Option β} {k : Nat → zx_H → Option β} {a : α} {g : zx_H} (e : x = some (.inl a, g)) : zf_b4 x f k = f a g := by subst e; rfl
theorem ze_b4E {α β : Type} {x : Option ((α ⊕ Nat) × zx_H)} {f : α → zx_H → Option β} {k : Nat → zx_H → Option β} {E : Nat} {g : zx_H} (e : x = some (.inr E, g)) : zf_b4 x f k = k E g := by subst e; rfl
theorem zWd.sheetWith (w : zWd h now ver tx pr gr) {t c : Nat} (ht : t < 3) (hc : c < (ver now t).nc) : f_ColumnVault_sheetWith 1 (nI t) (nI c) h = some (.inl (zq now t), h) := by
  unfold f_ColumnVault_sheetWith
  rw [ze_b w.is, ze_b3 (w.sheetOf ht), ze_b3 ((w.T ht).reqCol hc)]
theorem zWd.sheetWithNo (w : zWd h now ver tx pr gr) {t : Nat} (ht : t < 3) {c : Int32} (hc : c < 0 ∨ nI (ver now t).nc ≤ c) (hB : zM h ≤ 7200000) : f_ColumnVault_sheetWith 1 (nI t) c h = some (.inr 13, h ++ [.inr (13, [])]) := by
  unfold f_ColumnVault_sheetWith
  rw [ze_b w.is, ze_b3 (w.sheetOf ht), ze_b3E ((w.T ht).reqColNo hc hB)]
theorem zWd.nextOf (w : zWd h now ver tx pr gr) (hn : now < 100000) {t : Nat} (ht : t < 3) : ∃ g, f_ColumnVault_nextSheetOf 1 (nI t) h = some (.inl (zq (now + 1) t), g) ∧ zWd g (now + 1) (zvx ver now now) tx pr gr ∧ zU 2 146 h g := by
  obtain ⟨g, e, hh, U⟩ := w.hi.next hn (Nat.le_refl _) (by omega)
  have w' := w.H hh (zG_U U (by omega) (by omega))
  refine ⟨g, ?_, w', U⟩
  unfold f_ColumnVault_nextSheetOf
  rw [ze_b (zh_A w.v rfl), ze_b (zh_A w.v rfl), ze_b (zh_I w.hi.c rfl), ze_b (zh_is w.hi.c), ze_b2 e, ze_b w'.is, ze_b3 (w'.sheetOf ht)]
/-- what a change makes of the tables: those of version now + 1 -/
def zvc (ver : Nat → Nat → zT) (now t : Nat) (T : zT) : Nat → Nat → zT := zvs (zvx ver now now) (now + 1) t T
theorem zvc_t {T : zT} {t : Nat} : zvc ver now t T (now + 1) t = T := if_pos ⟨rfl, rfl⟩
theorem zvc_o {T : zT} {t t' : Nat} (h : t' ≠ t) : zvc ver now t T (now + 1) t' = ver now t' := by
  unfold zvc zvs zvx
  rw [if_neg (fun x => h x.2), if_pos rfl]
theorem zvc_v {T : zT} {t t' v : Nat} (h : v ≤ now) : zvc ver now t T v t' = ver v t' := by
  unfold zvc zvs zvx
  rw [if_neg (fun x => by omega), if_neg (by omega)]
theorem zvx_n : zvx ver now now (now + 1) = ver now := by
  funext t
  unfold zvx
  rw [if_pos rfl]
theorem zWd.done (w : zWd h (now + 1) (zvx ver now now) tx pr gr) {t : Nat} (ht : t < 3) {T : zT} (S : TS g (zq (now + 1) t) T) (f : zWF T) (U : zU (zq (now + 1) t) 4 h g) : zWd g (now + 1) (zvc ver now t T) tx pr gr := by
  have hb := zq_b (v := now + 1) ht
  exact w.H (w.hi.upd ht S f U) (zG_U U (by omega) (by omega))
end ZWO

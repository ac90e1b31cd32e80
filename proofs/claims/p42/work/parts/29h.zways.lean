/-! ===== a join in three ways ===== -/
section ZJW
variable {h g : zx_H} {A B : zT} {qa qb c d : Nat}
/-- the cells: the join at q, the left table, the right one -/
def zJw (h : zx_H) (q qa qb c d : Nat) (A B : zT) : Prop := h[q]? = some (.inr (7, [.ref qa, .int (nI c), .ref qb, .int (nI d)])) ∧ TS h qa A ∧ TS h qb B ∧ c < A.nc ∧ d < B.nc ∧ h.length ≤ 600000
/-- an array of rows -/
def zAr (h : zx_H) (a m : Nat) (o : Nat → Nat) : Prop := ∃ f, h[a]? = some (.inl (1, m, .inl f)) ∧ (∀ i, i < m → f i = nI (o i)) ∧ a ≤ 600000
theorem zAr.len {a m : Nat} {o : Nat → Nat} (z : zAr h a m o) : zf_len a h = some (nI m) := by
  obtain ⟨f, e, _, hl⟩ := z
  exact zh_len (by show a ≠ 1000000; omega) e rfl
theorem zAr.ld {a m : Nat} {o : Nat → Nat} (z : zAr h a m o) {i : Nat} (hi : i < m) (hm : m ≤ 40) : zf_ldI a (nI i) h = some (nI (o i)) := by
  obtain ⟨f, e, hf, hl⟩ := z
  rw [zh_ldI (by show a ≠ 1000000; omega) e hi (by omega), hf i hi]
/-- the right rows of a left one -/
def zjs (A B : zT) (c d a : Nat) : Int64 := if a < A.nr ∧ A.ch a = true ∧ A.ky c a ≠ -9000000000 then zB (fun b => B.ch b && decide (B.ky d b = A.ky c a)) B.nr else 0
theorem zRis.pos {p : Nat → Bool} {o : Nat → Nat} {m : Nat} (r : zRis B d p o m) {i : Nat} (hi : i < m) : zpl o (o i) m = i := by
  obtain ⟨a, b⟩ := zpl_o (o := o) (r := o i) ⟨i, hi, rfl⟩
  rcases Nat.lt_trichotomy (zpl o (o i) m) i with x | x | x
  · exact absurd b (r.en.1 _ _ x hi)
  · exact x
  · exact absurd b.symm (r.en.1 _ _ x a)
theorem zRis.le {p : Nat → Bool} {o : Nat → Nat} {m : Nat} (r : zRis B d p o m) {i j : Nat} (hij : i ≤ j) (hj : j < m) : (B.ky d (o i)).toInt ≤ (B.ky d (o j)).toInt := by
  rcases Nat.lt_or_ge i j with x | x
  · rcases r.1 i j x hj with y | y <;> omega
  · have : i = j := by omega
    rw [this]; omega
theorem zwkf {q a m : Nat} {o : Nat → Nat} (J : zJw h q qa qb c d A B) (z : zAr h a m o) (r : zRis B d B.ch o m) (hm : m ≤ 40) {k : Int64} (hk : k ≠ -9000000000) {p : Nat} (hp : p ≤ m) (h1 : ∀ i, i < p → (B.ky d (o i)).toInt < k.toInt) (h2 : ∀ i, p ≤ i → i < m → k.toInt ≤ (B.ky d (o i)).toInt) : f_JoinWays_rowsWithKeyFrom q a (nI p) k h = some (zB (fun b => B.ch b && decide (B.ky d b = k)) B.nr, h) := by
  obtain ⟨c0, SA, SB, hc, hd, hl⟩ := J
  have h40 := SB.r40
  have hin : ∀ b, b < B.nr → (B.ch b && decide (B.ky d b = k)) = true → zpl o b m < m ∧ o (zpl o b m) = b := by
    intro b hb e
    rw [Bool.and_eq_true, decide_eq_true_eq] at e
    refine zpl_o ((r.2 b).mpr ⟨hb, ?_⟩)
    unfold zKn
    rw [e.1, decide_eq_true (by rw [e.2]; exact hk)]; rfl
  have loop : ∀ n i, p ≤ i → i ≤ m → m - i < n → f_JoinWays_rowsWithKeyFrom_10 n q a k (zB (fun b => (B.ch b && decide (B.ky d b = k)) && decide (zpl o b m < i)) B.nr) (nI i) h = some (zB (fun b => B.ch b && decide (B.ky d b = k)) B.nr, h) := by
    intro n
    induction n with
    | zero => intro i _ _ hn; exact absurd hn (Nat.not_lt_zero _)
    | succ n ih =>
      intro i hpi hi hn
      unfold f_JoinWays_rowsWithKeyFrom_10
      rw [ze_b z.len]
      rcases Nat.lt_or_ge i m with hlt | hge
      · obtain ⟨o1, o2, o3⟩ := r.lt hlt
        rw [if_neg (nI_ge hlt (by omega)), ze_b (zh_A c0 rfl), ze_b (zh_I c0 rfl), ze_b (z.ld hlt hm), ze_b SB.ok, ze_b2 (SB.keyAt hd o1)]
        by_cases e : B.ky d (o i) = k
        · rw [if_neg (fun x => x e), ze_b (z.ld hlt hm), zB_put (by omega) o1, nI_1]
          have hs : zB (fun b => ((B.ch b && decide (B.ky d b = k)) && decide (zpl o b m < i)) || decide (b = o i)) B.nr = zB (fun b => (B.ch b && decide (B.ky d b = k)) && decide (zpl o b m < i + 1)) B.nr := zB_c fun b hb => by
            by_cases e2 : b = o i
            · rw [e2, r.pos hlt, decide_eq_true rfl, Bool.or_true, decide_eq_true (Nat.lt_succ_self i), o2, decide_eq_true e]; rfl
            · rw [decide_eq_false e2, Bool.or_false]
              cases hx : (B.ch b && decide (B.ky d b = k))
              · rfl
              · obtain ⟨y1, y2⟩ := hin b hb hx
                rw [Bool.true_and, Bool.true_and]
                refine decide_eq_decide.mpr ⟨fun x => by omega, fun x => ?_⟩
                rcases Nat.lt_or_ge (zpl o b m) i with z1 | z1
                · exact z1
                · have : zpl o b m = i := by omega
                  rw [this] at y2
                  exact absurd y2.symm e2
          rw [hs]
          exact ih (i + 1) (by omega) hlt (by omega)
        · rw [if_pos e]
          congr 2
          refine zB_c fun b hb => ?_
          cases hx : (B.ch b && decide (B.ky d b = k))
          · rfl
          · obtain ⟨y1, y2⟩ := hin b hb hx
            rw [Bool.true_and]
            refine decide_eq_true ?_
            rcases Nat.lt_or_ge (zpl o b m) i with z1 | z1
            · exact z1
            · have z2 := r.le z1 y1
              rw [y2] at z2
              rw [Bool.and_eq_true, decide_eq_true_eq] at hx
              rw [hx.2] at z2
              have z3 := h2 i hpi hlt
              exact absurd ((zl_i _ _).mpr (by omega)) e
      · have e : i = m := Nat.le_antisymm hi hge
        rw [e, if_pos (nI_le (Nat.le_refl _) (by omega))]
        congr 2
        refine zB_c fun b hb => ?_
        cases hx : (B.ch b && decide (B.ky d b = k))
        · rfl
        · rw [Bool.true_and]
          exact decide_eq_true (hin b hb hx).1
  unfold f_JoinWays_rowsWithKeyFrom
  rw [if_neg (show ¬ nI p < (0 : Int32) from nI_pos (by omega))]
  have h0 := loop zF p (Nat.le_refl _) hp (by unfold zF; omega)
  have e0 : zB (fun b => (B.ch b && decide (B.ky d b = k)) && decide (zpl o b m < p)) B.nr = 0 := (zB_zero (by omega)).mpr fun b hb => by
    cases hx : (B.ch b && decide (B.ky d b = k))
    · rfl
    · obtain ⟨y1, y2⟩ := hin b hb hx
      rw [Bool.true_and]
      refine decide_eq_false fun z1 => ?_
      have := h1 _ z1
      rw [y2] at this
      rw [Bool.and_eq_true, decide_eq_true_eq] at hx
      rw [hx.2] at this
      omega
  rw [e0] at h0
  exact h0
/-- the first place of a key -/
theorem zfpo {q a m : Nat} {o : Nat → Nat} (J : zJw h q qa qb c d A B) (z : zAr h a m o) (r : zRis B d B.ch o m) (hm : m ≤ 40) (k : Int64) : ∃ p, f_JoinWays_firstPlaceOf q a k h = some (nI p, h) ∧ p ≤ m ∧ (∀ i, i < p → (B.ky d (o i)).toInt < k.toInt) ∧ ∀ i, p ≤ i → i < m → k.toInt ≤ (B.ky d (o i)).toInt := by
  obtain ⟨c0, SA, SB, hc, hd, hl⟩ := J
  have loop : ∀ n i lo hi, lo ≤ hi → hi ≤ m → hi - lo ≤ 40 - i → i ≤ 40 → 40 - i < n → (∀ j, j < lo → (B.ky d (o j)).toInt < k.toInt) → (∀ j, hi ≤ j → j < m → k.toInt ≤ (B.ky d (o j)).toInt) → ∃ p, f_JoinWays_firstPlaceOf_10 n q a k (nI lo) (nI hi) (nI i) h = some (nI p, h) ∧ p ≤ m ∧ (∀ i, i < p → (B.ky d (o i)).toInt < k.toInt) ∧ ∀ i, p ≤ i → i < m → k.toInt ≤ (B.ky d (o i)).toInt := by
    intro n
    induction n with
    | zero => intro i _ _ _ _ _ _ hn; exact absurd hn (Nat.not_lt_zero _)
    | succ n ih =>
      intro i lo hi h1 h2 h3 h4 hn hlo hhi
      unfold f_JoinWays_firstPlaceOf_10
      by_cases e : hi ≤ lo
      · have : lo = hi := by omega
        subst this
        have : (if (40 : Int32) ≤ nI i then some (nI lo, h) else if nI lo ≤ nI lo then some (nI lo, h) else zf_b (zf_A 7 2 q h) fun v1 => zf_b (zf_I 7 3 q h) fun v2 => zf_b (zf_ldI a ((nI lo + nI lo) / (2 : Int32)) h) fun v3 => zf_b (zf_is 10 v1 h) fun _ => zf_b2 (f_Sheet_keyAt v1 v2 v3 h) fun v4 h5 => if k ≤ v4 then (f_JoinWays_firstPlaceOf_10 n) q a k (nI lo) ((nI lo + nI lo) / (2 : Int32)) (nI i + (1 : Int32)) h5 else (f_JoinWays_firstPlaceOf_10 n) q a k (((nI lo + nI lo) / (2 : Int32)) + (1 : Int32)) (nI lo) (nI i + (1 : Int32)) h5) = some (nI lo, h) := by
          by_cases e4 : (40 : Int32) ≤ nI i
          · rw [if_pos e4]
          · rw [if_neg e4, if_pos (nI_le (Nat.le_refl _) (by omega))]
        rw [this]
        exact ⟨lo, rfl, h2, hlo, hhi⟩
      · have hmid : (nI lo + nI hi) / (2 : Int32) = nI ((lo + hi) / 2) := by
          rw [nI_add, show (2 : Int32) = nI 2 from rfl, pk_div (by omega) (by decide) (by decide)]
        have hml : (lo + hi) / 2 < m := by omega
        obtain ⟨o1, o2, o3⟩ := r.lt hml
        rw [if_neg (show ¬ (40 : Int32) ≤ nI i from nI_ge (b := 40) (by omega) (by decide)), if_neg (nI_ge (by omega) (by omega)), ze_b (zh_A c0 rfl), ze_b (zh_I c0 rfl), hmid, ze_b (z.ld hml hm), ze_b SB.ok, ze_b2 (SB.keyAt hd o1), nI_1, nI_1]
        by_cases e2 : k ≤ B.ky d (o ((lo + hi) / 2))
        · rw [if_pos e2]
          rw [zl_e] at e2
          exact ih (i + 1) lo ((lo + hi) / 2) (by omega) (by omega) (by omega) (by omega) (by omega) hlo (fun j hj hj2 => by have := r.le hj hj2; omega)
        · rw [if_neg e2]
          rw [zl_e] at e2
          exact ih (i + 1) ((lo + hi) / 2 + 1) hi (by omega) (by omega) (by omega) (by omega) (by omega) (fun j hj => by have := r.le (show j ≤ (lo + hi) / 2 by omega) hml; omega) hhi
  unfold f_JoinWays_firstPlaceOf
  rw [ze_b z.len, show (0 : Int32) = nI 0 from rfl]
  exact loop zF 0 0 m (Nat.zero_le _) (Nat.le_refl _) (by omega) (by omega) (by unfold zF; omega) (fun j hj => absurd hj (Nat.not_lt_zero _)) (fun j hj hj2 => absurd hj2 (by omega))
theorem zh_newO {ci : Nat} {h : zx_H} (hl : h.length < zx_lim) : zf_new ci h = some (h.length, h ++ [.inr (ci, zx_def ci)]) := if_pos hl
theorem zG0 {k a b : Nat} {h g : zx_H} (G : zG k 0 0 h g) : zG k a b h g := ⟨G.1, G.2.1, fun p hp _ => G.2.2 p hp (Or.inr (Nat.zero_le _))⟩
theorem zJw.G {q k a b : Nat} (J : zJw h q qa qb c d A B) (G : zG k a b h g) (h1 : qa + 4 ≤ a) (h2 : qb + 4 ≤ a) (h3 : q < a) (hg : g.length ≤ 600000) : zJw g q qa qb c d A B := ⟨G.gt J.1 (Or.inl h3), J.2.1.G G (Or.inl h1), J.2.2.1.G G (Or.inl h2), J.2.2.2.1, J.2.2.2.2.1, hg⟩
theorem zAr.G {a m k x y : Nat} {o : Nat → Nat} (z : zAr h a m o) (G : zG k x y h g) (h1 : a < x ∨ y ≤ a) : zAr g a m o := by
  obtain ⟨f, e, hf⟩ := z
  exact ⟨f, G.gt e h1, hf⟩
/-- an array of 40 longs -/
def zL4 (h : zx_H) (a : Nat) (F : Nat → Int64) : Prop := ∃ f, h[a]? = some (.inl (2, 40, .inr (.inl f))) ∧ ∀ i, i < 40 → f i = F i
theorem zL4.st {a i : Nat} {F : Nat → Int64} (z : zL4 h a F) (hi : i < 40) (x : Int64) : ∃ g, zf_stJ a (nI i) x h = some g ∧ zL4 g a (fun j => if j = i then x else F j) ∧ zG 0 a (a + 1) h g ∧ g.length = h.length := by
  obtain ⟨f, e, hf⟩ := z
  refine ⟨_, zh_stJ e hi (by decide), ⟨_, zh_set_s e, fun j hj => ?_⟩, zG_set e rfl (Nat.le_refl _) (Nat.lt_succ_self _), List.length_set⟩
  show vp_updL f i x j = (if j = i then x else F j)
  by_cases e2 : j = i
  · rw [if_pos e2, e2, pk_uLs]
  · rw [if_neg e2, pk_uLn e2]; exact hf j hj
theorem zL4.ld {a i : Nat} {F : Nat → Int64} (z : zL4 h a F) (hi : i < 40) : zf_ldJ a (nI i) h = some (F i) := by
  obtain ⟨f, e, hf⟩ := z
  rw [zh_ldJ e hi (by decide), hf i hi]
theorem zL4.G {a k x y : Nat} {F : Nat → Int64} (z : zL4 h a F) (G : zG k x y h g) (h1 : a < x ∨ y ≤ a) : zL4 g a F := by
  obtain ⟨f, e, hf⟩ := z
  exact ⟨f, G.gt e h1, hf⟩
theorem zL4.new (hB : zM h ≤ 7100000) : ∃ g, zf_newa .long 2 (40 : Int32) h = some (h.length, g) ∧ zL4 g h.length (fun _ => 0) ∧ zG 52 0 0 h g ∧ g.length = h.length + 1 := by
  have hn : zf_newa .long 2 (nI 40) h = some (h.length, h ++ [.inl (2, 40, .inr (.inl fun _ => 0))]) := by
    have := zh_newJ (g := h) (r := []) (n := 40) (by show h.length + 0 < 600000; have := zM_l (h := h); omega) (by decide)
    rw [List.append_nil] at this
    exact this
  exact ⟨_, hn, ⟨fun _ => 0, zG_end, fun _ _ => rfl⟩, zG_app (c := .inl (2, 40, .inr (.inl fun _ => 0))), by rw [List.length_append]; rfl⟩
theorem zmerge {q la ra ml mr : Nat} {ol or : Nat → Nat} (hqa : qa + 4 ≤ 148) (hqb : qb + 4 ≤ 148) (hq : 177 ≤ q) (hla : 177 ≤ la) (hra : 177 ≤ ra) (hml : ml ≤ 40) (hmr : mr ≤ 40) (rl : zRis A c A.ch ol ml) (rr : zRis B d B.ch or mr) (J : zJw h q qa qb c d A B) (zl : zAr h la ml ol) (zr : zAr h ra mr or) (hql : q < h.length) (hB : zM h ≤ 7000000) : ∃ g, f_JoinWays_byMerging q la ra h = some (h.length, g) ∧ zL4 g h.length (zjs A B c d) ∧ zG 52 0 0 h g ∧ g.length = h.length + 1 := by
  have h40 := J.2.1.r40
  have hla2 : la < h.length := by obtain ⟨f, e, _⟩ := zl; exact zlt_of e
  have hra2 : ra < h.length := by obtain ⟨f, e, _⟩ := zr; exact zlt_of e
  obtain ⟨g0, e0, z0, G0, l0⟩ := zL4.new (h := h) (by omega)
  have m0 := G0.m
  have hx : ∀ {g1 : zx_H}, zG 0 h.length (h.length + 1) g0 g1 → g1.length = g0.length → zJw g1 q qa qb c d A B ∧ zAr g1 la ml ol ∧ zAr g1 ra mr or := by
    intro g1 G1 l1
    have lx := zlen (h := g0) (by omega)
    exact ⟨(J.G (zG0 (a := h.length) (b := h.length) G0) (by omega) (by omega) hql (by omega)).G G1 (by omega) (by omega) hql (by omega), (zl.G G0 (Or.inr (Nat.zero_le _))).G G1 (Or.inl hla2), (zr.G G0 (Or.inr (Nat.zero_le _))).G G1 (Or.inl hra2)⟩
  have loop : ∀ n i p F g1, i ≤ ml → ml - i < n → p ≤ mr → zG 0 h.length (h.length + 1) g0 g1 → g1.length = g0.length → zL4 g1 h.length F → (∀ j, j < i → F (ol j) = zjs A B c d (ol j)) → (∀ a, (∀ j, j < i → ol j ≠ a) → F a = 0) → (∀ j x, j < p → i ≤ x → x < ml → (B.ky d (or j)).toInt < (A.ky c (ol x)).toInt) → ∃ g2 F2, f_JoinWays_byMerging_11 n q la ra h.length (nI p) (nI i) g1 = some (h.length, g2) ∧ zG 0 h.length (h.length + 1) g0 g2 ∧ g2.length = g0.length ∧ zL4 g2 h.length F2 ∧ (∀ j, j < ml → F2 (ol j) = zjs A B c d (ol j)) ∧ ∀ a, (∀ j, j < ml → ol j ≠ a) → F2 a = 0 := by
    intro n
    induction n with
    | zero => intro i _ _ _ _ hn; exact absurd hn (Nat.not_lt_zero _)
    | succ n ih =>
      intro i p F g1 hi hn hp G1 l1 zF1 f1 f2 f3
      obtain ⟨J1, zl1, zr1⟩ := hx G1 l1
      unfold f_JoinWays_byMerging_11
      rw [ze_b zl1.len]
      rcases Nat.lt_or_ge i ml with hlt | hge
      · obtain ⟨o1, o2, o3⟩ := rl.lt hlt
        rw [if_neg (nI_ge hlt (by omega)), ze_b (zl1.ld hlt hml), ze_b (zh_A J1.1 rfl), ze_b (zh_I J1.1 rfl), ze_b J1.2.1.ok, ze_b2 (J1.2.1.keyAt J1.2.2.2.1 o1)]
        -- on to the place
        have in39 : ∀ k p, mr - p < k → p ≤ mr → (∀ j, j < p → (B.ky d (or j)).toInt < (A.ky c (ol i)).toInt) → ∃ g2 F2, f_JoinWays_byMerging_39 (f_JoinWays_byMerging_11 n) k q la ra h.length (nI p) (nI i) (nI (ol i)) (A.ky c (ol i)) g1 = some (h.length, g2) ∧ zG 0 h.length (h.length + 1) g0 g2 ∧ g2.length = g0.length ∧ zL4 g2 h.length F2 ∧ (∀ j, j < ml → F2 (ol j) = zjs A B c d (ol j)) ∧ ∀ a, (∀ j, j < ml → ol j ≠ a) → F2 a = 0 := by
          intro k
          induction k with
          | zero => intro p hk; exact absurd hk (Nat.not_lt_zero _)
          | succ k ihk =>
            intro p hk hp hlow
            -- the row's set is written
            have fin : (∀ j, p ≤ j → j < mr → (A.ky c (ol i)).toInt ≤ (B.ky d (or j)).toInt) → ∃ g2 F2, f_JoinWays_byMerging_73 (f_JoinWays_byMerging_11 n) q la ra h.length (nI p) (nI i) (nI (ol i)) (A.ky c (ol i)) g1 = some (h.length, g2) ∧ zG 0 h.length (h.length + 1) g0 g2 ∧ g2.length = g0.length ∧ zL4 g2 h.length F2 ∧ (∀ j, j < ml → F2 (ol j) = zjs A B c d (ol j)) ∧ ∀ a, (∀ j, j < ml → ol j ≠ a) → F2 a = 0 := by
              intro hup
              have ew := zwkf J1 zr1 rr hmr o3 hp hlow hup
              have hset : zB (fun b => B.ch b && decide (B.ky d b = A.ky c (ol i))) B.nr = zjs A B c d (ol i) := (if_pos ⟨o1, o2, o3⟩).symm
              rw [hset] at ew
              obtain ⟨g3, e3, z3, G3, l3⟩ := zF1.st (show ol i < 40 by omega) (zjs A B c d (ol i))
              obtain ⟨g2, F2, e4, r1, r2, r3, r4, r5⟩ := ih (i + 1) p _ g3 hlt (by omega) hp (G1.t G3) (by omega) z3 (fun j hj => by
                by_cases e : ol j = ol i
                · show (if ol j = ol i then _ else _) = _
                  rw [if_pos e, e]
                · show (if ol j = ol i then _ else _) = _
                  rw [if_neg e]
                  refine f1 j ?_
                  rcases Nat.lt_or_ge j i with y | y
                  · exact y
                  · have : j = i := by omega
                    rw [this] at e; exact absurd rfl e) (fun a ha => by
                show (if a = ol i then _ else F a) = 0
                rw [if_neg (fun y => ha i (Nat.lt_succ_self i) y.symm)]
                exact f2 a fun j hj => ha j (by omega)) (fun j x hj hxi hxm => by
                have h1 := hlow j hj
                have h2 := rl.le (show i ≤ x by omega) hxm
                omega)
              refine ⟨g2, F2, ?_, r1, r2, r3, r4, r5⟩
              unfold f_JoinWays_byMerging_73
              rw [ze_b (zh_A J1.1 rfl), ze_b J1.2.1.ok, ze_b2 (J1.2.1.hasRow1 o1), if_neg (by decide), ze_b (zh_is J1.1), ze_b2 ew, ze_b e3, nI_1]
              exact e4
            unfold f_JoinWays_byMerging_39
            rw [ze_b zr1.len]
            rcases Nat.lt_or_ge p mr with hpl | hpg
            · obtain ⟨y1, y2, y3⟩ := rr.lt hpl
              rw [if_neg (nI_ge hpl (by omega)), ze_b (zh_A J1.1 rfl), ze_b (zh_I J1.1 rfl), ze_b (zr1.ld hpl hmr), ze_b J1.2.2.1.ok, ze_b2 (J1.2.2.1.keyAt J1.2.2.2.2.1 y1)]
              by_cases e : A.ky c (ol i) ≤ B.ky d (or p)
              · rw [if_pos e]
                rw [zl_e] at e
                exact fin fun j hj hj2 => by have := rr.le hj hj2; omega
              · rw [if_neg e, nI_1]
                rw [zl_e] at e
                exact ihk (p + 1) (by omega) hpl (fun j hj => by
                  rcases Nat.lt_or_ge j p with y | y
                  · exact hlow j y
                  · have : j = p := by omega
                    rw [this]; omega)
            · rw [if_pos (nI_le hpg (by omega))]
              exact fin fun j hj hj2 => absurd hj2 (by omega)
        exact in39 zF p (by unfold zF; omega) hp (fun j hj => f3 j i hj (Nat.le_refl _) hlt)
      · have e : i = ml := Nat.le_antisymm hi hge
        subst e
        rw [if_pos (nI_le (Nat.le_refl _) (by omega))]
        exact ⟨g1, F, rfl, G1, l1, zF1, f1, f2⟩
  obtain ⟨g2, F2, e2, G2, l2, z2, f1, f2⟩ := loop zF 0 0 _ g0 (Nat.zero_le _) (by unfold zF; omega) (Nat.zero_le _) zG.refl rfl z0 (fun j hj => absurd hj (Nat.not_lt_zero _)) (fun _ _ => rfl) (fun j x hj => absurd hj (Nat.not_lt_zero _))
  refine ⟨g2, ?_, ?_, ⟨by omega, by have := G2.m; omega, fun p hp _ => by rw [G2.2.2 p (by omega) (Or.inl hp), G0.2.2 p hp (Or.inr (Nat.zero_le _))]⟩, by omega⟩
  · unfold f_JoinWays_byMerging
    rw [ze_b2 e0]
    exact e2
  · obtain ⟨f, ef, hf⟩ := z2
    refine ⟨f, ef, fun i hi => ?_⟩
    rw [hf i hi]
    rcases Classical.em (∃ j, j < ml ∧ ol j = i) with ⟨j, hj, rfl⟩ | hno
    · exact f1 j hj
    · rw [f2 i fun j hj y => hno ⟨j, hj, y⟩]
      unfold zjs
      rw [if_neg]
      rintro ⟨y1, y2, y3⟩
      refine hno ((rl.2 i).mpr ⟨y1, ?_⟩)
      unfold zKn
      rw [y2, decide_eq_true y3]; rfl
theorem zlook {q ra mr : Nat} {or : Nat → Nat} (hqa : qa + 4 ≤ 148) (hqb : qb + 4 ≤ 148) (hq : 177 ≤ q) (hra : 177 ≤ ra) (hmr : mr ≤ 40) (rr : zRis B d B.ch or mr) (J : zJw h q qa qb c d A B) (zr : zAr h ra mr or) (hql : q < h.length) (hB : zM h ≤ 7000000) : ∃ g, f_JoinWays_byLookingUp q ra h = some (h.length, g) ∧ zL4 g h.length (zjs A B c d) ∧ zG 52 0 0 h g ∧ g.length = h.length + 1 := by
  have h40 := J.2.1.r40
  have hra2 : ra < h.length := by obtain ⟨f, e, _⟩ := zr; exact zlt_of e
  obtain ⟨g0, e0, z0, G0, l0⟩ := zL4.new (h := h) (by omega)
  have m0 := G0.m
  have hx : ∀ {g1 : zx_H}, zG 0 h.length (h.length + 1) g0 g1 → g1.length = g0.length → zJw g1 q qa qb c d A B ∧ zAr g1 ra mr or := by
    intro g1 G1 l1
    have lx := zlen (h := g0) (by omega)
    exact ⟨(J.G (zG0 (a := h.length) (b := h.length) G0) (by omega) (by omega) hql (by omega)).G G1 (by omega) (by omega) hql (by omega), (zr.G G0 (Or.inr (Nat.zero_le _))).G G1 (Or.inl hra2)⟩
  have loop : ∀ n i F g1, i ≤ A.nr → A.nr - i < n → zG 0 h.length (h.length + 1) g0 g1 → g1.length = g0.length → zL4 g1 h.length F → (∀ j, j < i → F j = zjs A B c d j) → (∀ j, i ≤ j → F j = 0) → ∃ g2 F2, f_JoinWays_byLookingUp_7 n q ra h.length (nI i) g1 = some (h.length, g2) ∧ zG 0 h.length (h.length + 1) g0 g2 ∧ g2.length = g0.length ∧ zL4 g2 h.length F2 ∧ (∀ j, j < A.nr → F2 j = zjs A B c d j) ∧ ∀ j, A.nr ≤ j → F2 j = 0 := by
    intro n
    induction n with
    | zero => intro i _ _ _ hn; exact absurd hn (Nat.not_lt_zero _)
    | succ n ih =>
      intro i F g1 hi hn G1 l1 zF1 f1 f2
      obtain ⟨J1, zr1⟩ := hx G1 l1
      unfold f_JoinWays_byLookingUp_7
      rw [ze_b (zh_A J1.1 rfl), ze_b J1.2.1.I4]
      rcases Nat.lt_or_ge i A.nr with hlt | hge
      · have skip : zjs A B c d i = 0 → ∃ g2 F2, f_JoinWays_byLookingUp_7 n q ra h.length (nI (i + 1)) g1 = some (h.length, g2) ∧ zG 0 h.length (h.length + 1) g0 g2 ∧ g2.length = g0.length ∧ zL4 g2 h.length F2 ∧ (∀ j, j < A.nr → F2 j = zjs A B c d j) ∧ ∀ j, A.nr ≤ j → F2 j = 0 := fun hz => ih (i + 1) F g1 hlt (by omega) G1 l1 zF1 (fun j hj => by
          rcases Nat.lt_or_ge j i with y | y
          · exact f1 j y
          · have : j = i := by omega
            rw [this, hz]; exact f2 i (Nat.le_refl _)) (fun j hj => f2 j (by omega))
        rw [if_neg (nI_ge hlt (by omega)), ze_b (zh_A J1.1 rfl), ze_b (zh_I J1.1 rfl), ze_b J1.2.1.ok, ze_b2 (J1.2.1.keyAt J1.2.2.2.1 hlt)]
        by_cases hm : A.ky c i = -9000000000
        · rw [if_pos hm, nI_1]
          exact skip (if_neg fun y => y.2.2 hm)
        · rw [if_neg hm, ze_b (zh_A J1.1 rfl), ze_b J1.2.1.J5, ze_b2 (J1.2.1.holds hlt)]
          by_cases hch : A.ch i = true
          · obtain ⟨p, ep, p1, p2, p3⟩ := zfpo J1 zr1 rr hmr (A.ky c i)
            have ew := zwkf J1 zr1 rr hmr hm p1 p2 p3
            have hset : zB (fun b => B.ch b && decide (B.ky d b = A.ky c i)) B.nr = zjs A B c d i := (if_pos ⟨hlt, hch, hm⟩).symm
            rw [hset] at ew
            obtain ⟨g3, e3, z3, G3, l3⟩ := zF1.st (show i < 40 by omega) (zjs A B c d i)
            obtain ⟨g2, F2, e4, r1, r2, r3, r4, r5⟩ := ih (i + 1) _ g3 hlt (by omega) (G1.t G3) (by omega) z3 (fun j hj => by
              show (if j = i then _ else F j) = _
              by_cases e : j = i
              · rw [if_pos e, e]
              · rw [if_neg e]; exact f1 j (by omega)) (fun j hj => by
              show (if j = i then _ else F j) = _
              rw [if_neg (by omega)]; exact f2 j (by omega))
            refine ⟨g2, F2, ?_, r1, r2, r3, r4, r5⟩
            rw [hch, if_neg (show ¬ zb true = 0 by decide), ze_b (zh_is J1.1), ze_b2 ep, ze_b (zh_is J1.1), ze_b2 ew, ze_b e3, nI_1]
            exact e4
          · rw [ts_nt hch, if_pos (show zb false = 0 from rfl), nI_1]
            exact skip (if_neg fun y => hch y.2.1)
      · have e : i = A.nr := Nat.le_antisymm hi hge
        subst e
        rw [if_pos (nI_le (Nat.le_refl _) (by omega))]
        exact ⟨g1, F, rfl, G1, l1, zF1, f1, f2⟩
  obtain ⟨g2, F2, e2, G2, l2, z2, f1, f2⟩ := loop zF 0 _ g0 (Nat.zero_le _) (by unfold zF; omega) zG.refl rfl z0 (fun j hj => absurd hj (Nat.not_lt_zero _)) (fun _ _ => rfl)
  refine ⟨g2, ?_, ?_, ⟨by omega, by have := G2.m; omega, fun p hp _ => by rw [G2.2.2 p (by omega) (Or.inl hp), G0.2.2 p hp (Or.inr (Nat.zero_le _))]⟩, by omega⟩
  · unfold f_JoinWays_byLookingUp
    rw [ze_b2 e0]
    exact e2
  · obtain ⟨f, ef, hf⟩ := z2
    refine ⟨f, ef, fun i hi => ?_⟩
    rw [hf i hi]
    rcases Nat.lt_or_ge i A.nr with y | y
    · exact f1 i y
    · rw [f2 i y]
      unfold zjs
      rw [if_neg (fun z => by omega)]
theorem ztry {q : Nat} (hqa : qa + 4 ≤ 148) (hqb : qb + 4 ≤ 148) (hq : 177 ≤ q) (J : zJw h q qa qb c d A B) (hql : q < h.length) (hB : zM h ≤ 7000000) : ∃ g, f_JoinWays_byTrying q h = some (h.length, g) ∧ zL4 g h.length (zjs A B c d) ∧ zG 52 0 0 h g ∧ g.length = h.length + 1 := by
  have h40 := J.2.1.r40
  have h40' := J.2.2.1.r40
  obtain ⟨g0, e0, z0, G0, l0⟩ := zL4.new (h := h) (by omega)
  have m0 := G0.m
  have hx : ∀ {g1 : zx_H}, zG 0 h.length (h.length + 1) g0 g1 → g1.length = g0.length → zJw g1 q qa qb c d A B := by
    intro g1 G1 l1
    have lx := zlen (h := g0) (by omega)
    exact (J.G (zG0 (a := h.length) (b := h.length) G0) (by omega) (by omega) hql (by omega)).G G1 (by omega) (by omega) hql (by omega)
  -- one left row
  have row : ∀ (k : Nat → Nat → Int32 → zx_H → Option (Nat × zx_H)) (i : Nat) (F : Nat → Int64), i < A.nr → ∀ n j g1 G, j ≤ B.nr → B.nr - j < n → zG 0 h.length (h.length + 1) g0 g1 → g1.length = g0.length → zL4 g1 h.length G → (∀ x, x ≠ i → G x = F x) → G i = (if A.ch i = true ∧ A.ky c i ≠ -9000000000 then zB (fun b => decide (b < j) && (B.ch b && decide (B.ky d b = A.ky c i))) B.nr else 0) → ∃ g2 G2, f_JoinWays_byTrying_34 k n q h.length (nI i) (A.ky c i) (nI j) g1 = k q h.length (nI (i + 1)) g2 ∧ zG 0 h.length (h.length + 1) g0 g2 ∧ g2.length = g0.length ∧ zL4 g2 h.length G2 ∧ (∀ x, x ≠ i → G2 x = F x) ∧ G2 i = zjs A B c d i := by
    intro k i F hi n
    induction n with
    | zero => intro j _ _ _ hn; exact absurd hn (Nat.not_lt_zero _)
    | succ n ih =>
      intro j g1 G hj hn G1 l1 zG1 f1 f2
      have J1 := hx G1 l1
      obtain ⟨c0, SA, SB, hc, hd, hl⟩ := J1
      unfold f_JoinWays_byTrying_34
      rw [ze_b (zh_A c0 rfl), ze_b SB.I4]
      rcases Nat.lt_or_ge j B.nr with hlt | hge
      · have skip : (A.ch i = true ∧ A.ky c i ≠ -9000000000 → (B.ch j && decide (B.ky d j = A.ky c i)) = false) → ∃ g2 G2, f_JoinWays_byTrying_34 k n q h.length (nI i) (A.ky c i) (nI (j + 1)) g1 = k q h.length (nI (i + 1)) g2 ∧ zG 0 h.length (h.length + 1) g0 g2 ∧ g2.length = g0.length ∧ zL4 g2 h.length G2 ∧ (∀ x, x ≠ i → G2 x = F x) ∧ G2 i = zjs A B c d i := by
          intro hs
          refine ih (j + 1) g1 G hlt (by omega) G1 l1 zG1 f1 ?_
          rw [f2]
          by_cases e : A.ch i = true ∧ A.ky c i ≠ -9000000000
          · rw [if_pos e, if_pos e, ← zB_step (p := fun b => B.ch b && decide (B.ky d b = A.ky c i)) (by omega) hlt, if_neg (by rw [hs e]; decide)]
          · rw [if_neg e, if_neg e]
        rw [if_neg (nI_ge hlt (by omega))]
        by_cases hm : A.ky c i = -9000000000
        · rw [if_pos hm, nI_1]
          exact skip fun y => absurd hm y.2
        · rw [if_neg hm, ze_b (zh_A c0 rfl), ze_b (zh_I c0 rfl), ze_b SB.ok, ze_b2 (SB.keyAt hd hlt)]
          by_cases he : A.ky c i = B.ky d j
          · rw [if_neg (fun y => y he), ze_b (zh_A c0 rfl), ze_b SA.J5, ze_b2 (SA.holds hi)]
            by_cases hch : A.ch i = true
            · rw [hch, if_neg (show ¬ zb true = 0 by decide), ze_b (zh_A c0 rfl), ze_b SB.J5, ze_b2 (SB.holds hlt)]
              by_cases hcb : B.ch j = true
              · rw [hcb, if_neg (show ¬ zb true = 0 by decide), ze_b (zG1.ld (show i < 40 by omega))]
                have hv : G i ||| ((1 : Int64) <<< ((nI j).toInt64 &&& 63)) = zB (fun b => decide (b < j + 1) && (B.ch b && decide (B.ky d b = A.ky c i))) B.nr := by
                  rw [f2, if_pos ⟨hch, hm⟩, ← zB_step (p := fun b => B.ch b && decide (B.ky d b = A.ky c i)) (by omega) hlt, if_pos (by rw [hcb, decide_eq_true he.symm]; rfl)]
                obtain ⟨g3, e3, z3, G3, l3⟩ := zG1.st (show i < 40 by omega) (G i ||| ((1 : Int64) <<< ((nI j).toInt64 &&& 63)))
                obtain ⟨g2, G2, e4, r1, r2, r3, r4, r5⟩ := ih (j + 1) g3 _ hlt (by omega) (G1.t G3) (by omega) z3 (fun x hx2 => by
                  show (if x = i then _ else G x) = _
                  rw [if_neg hx2]; exact f1 x hx2) (by
                  show (if i = i then _ else G i) = _
                  rw [if_pos rfl, hv, if_pos ⟨hch, hm⟩])
                refine ⟨g2, G2, ?_, r1, r2, r3, r4, r5⟩
                rw [ze_b e3, nI_1]
                exact e4
              · rw [ts_nt hcb, if_pos (show zb false = 0 from rfl), nI_1]
                exact skip fun _ => by rw [ts_nt hcb, Bool.false_and]
            · rw [ts_nt hch, if_pos (show zb false = 0 from rfl), nI_1]
              exact skip fun y => absurd y.1 hch
          · rw [if_pos he, nI_1]
            exact skip fun _ => by rw [decide_eq_false (fun y => he y.symm), Bool.and_false]
      · have e : j = B.nr := Nat.le_antisymm hj hge
        subst e
        rw [if_pos (nI_le (Nat.le_refl _) (by omega)), nI_1]
        refine ⟨g1, G, rfl, G1, l1, zG1, f1, ?_⟩
        rw [f2, zB_full]
        unfold zjs
        by_cases e : A.ch i = true ∧ A.ky c i ≠ -9000000000
        · rw [if_pos e, if_pos ⟨hi, e⟩]
        · rw [if_neg e, if_neg (fun y => e y.2)]
  have loop : ∀ n i F g1, i ≤ A.nr → A.nr - i < n → zG 0 h.length (h.length + 1) g0 g1 → g1.length = g0.length → zL4 g1 h.length F → (∀ j, j < i → F j = zjs A B c d j) → (∀ j, i ≤ j → F j = 0) → ∃ g2 F2, f_JoinWays_byTrying_7 n q h.length (nI i) g1 = some (h.length, g2) ∧ zG 0 h.length (h.length + 1) g0 g2 ∧ g2.length = g0.length ∧ zL4 g2 h.length F2 ∧ (∀ j, j < A.nr → F2 j = zjs A B c d j) ∧ ∀ j, A.nr ≤ j → F2 j = 0 := by
    intro n
    induction n with
    | zero => intro i _ _ _ hn; exact absurd hn (Nat.not_lt_zero _)
    | succ n ih =>
      intro i F g1 hi hn G1 l1 zF1 f1 f2
      have J1 := hx G1 l1
      unfold f_JoinWays_byTrying_7
      rw [ze_b (zh_A J1.1 rfl), ze_b J1.2.1.I4]
      rcases Nat.lt_or_ge i A.nr with hlt | hge
      · rw [if_neg (nI_ge hlt (by omega)), ze_b (zh_A J1.1 rfl), ze_b (zh_I J1.1 rfl), ze_b J1.2.1.ok, ze_b2 (J1.2.1.keyAt J1.2.2.2.1 hlt)]
        obtain ⟨g3, G3, e3, r1, r2, r3, r4, r5⟩ := row (f_JoinWays_byTrying_7 n) i F hlt zF 0 g1 F (Nat.zero_le _) (by unfold zF; omega) G1 l1 zF1 (fun _ _ => rfl) (by
          rw [f2 i (Nat.le_refl _)]
          by_cases e : A.ch i = true ∧ A.ky c i ≠ -9000000000
          · rw [if_pos e, zB_start (by omega)]
          · rw [if_neg e])
        obtain ⟨g2, F2, e4, y1, y2, y3, y4, y5⟩ := ih (i + 1) G3 g3 hlt (by omega) r1 r2 r3 (fun j hj => by
          by_cases e : j = i
          · rw [e]; exact r5
          · rw [r4 j e]; exact f1 j (by omega)) (fun j hj => by
          rw [r4 j (by omega)]; exact f2 j (by omega))
        exact ⟨g2, F2, e3.trans e4, y1, y2, y3, y4, y5⟩
      · have e : i = A.nr := Nat.le_antisymm hi hge
        subst e
        rw [if_pos (nI_le (Nat.le_refl _) (by omega))]
        exact ⟨g1, F, rfl, G1, l1, zF1, f1, f2⟩
  obtain ⟨g2, F2, e2, G2, l2, z2, f1, f2⟩ := loop zF 0 _ g0 (Nat.zero_le _) (by unfold zF; omega) zG.refl rfl z0 (fun j hj => absurd hj (Nat.not_lt_zero _)) (fun _ _ => rfl)
  refine ⟨g2, ?_, ?_, ⟨by omega, by have := G2.m; omega, fun p hp _ => by rw [G2.2.2 p (by omega) (Or.inl hp), G0.2.2 p hp (Or.inr (Nat.zero_le _))]⟩, by omega⟩
  · unfold f_JoinWays_byTrying
    rw [ze_b2 e0]
    exact e2
  · obtain ⟨f, ef, hf⟩ := z2
    refine ⟨f, ef, fun i hi => ?_⟩
    rw [hf i hi]
    rcases Nat.lt_or_ge i A.nr with y | y
    · exact f1 i y
    · rw [f2 i y]
      unfold zjs
      rw [if_neg (fun z => by omega)]
theorem zor_self (x : Int64) : ((x ||| x) ||| x) &&& (((x &&& x) &&& x) ^^^ (-1 : Int64)) = 0 := zbt_ext fun i hi => by
  rw [zbt_and, zbt_or, zbt_or, zbt_xor, zbt_and, zbt_and, zbt_m1 i hi, zbt_0]
  cases zbt x i <;> rfl
theorem zcnt_0 (h : zx_H) : f_Long_bitCount 0 h = some (nI 0, h) := by
  have := zB_cnt (p := fun _ => false) (n := 0) (by decide) h
  exact this
theorem zways {q : Nat} (wa : zWF A) (wb : zWF B) (hqa : qa + 4 ≤ 148) (hqb : qb + 4 ≤ 148) (hq : 177 ≤ q) (J : zJw h q qa qb c d A B) (hql : q < h.length) (hB : zM h ≤ 6900000) : ∃ g, f_JoinWays_pairsNotToldByAll q h = some (0, g) ∧ zG 260 0 0 h g := by
  obtain ⟨c0, SA, SB, hc, hd, hl⟩ := J
  obtain ⟨g1, or, mr, fr, e1, G1, er, hfr, rr, hmr⟩ := SB.rising wb hd B.ch (by omega)
  have m1 := G1.m
  have SA1 := SA.G G1 (Or.inr (Nat.zero_le _))
  have SB1 := SB.G G1 (Or.inr (Nat.zero_le _))
  obtain ⟨g2, ol, ml, fl, e2, G2, el, hfl, rl, hml⟩ := SA1.rising wa hc A.ch (by omega)
  have m2 := G2.m
  have h1l : h.length < g1.length := zlt_of er
  have h2l : g1.length < g2.length := zlt_of el
  have hl2 := zlen (h := g2) (by omega)
  have c1 := G1.gt c0 (Or.inr (Nat.zero_le _))
  have c2 := G2.gt c1 (Or.inr (Nat.zero_le _))
  have J2 : zJw g2 q qa qb c d A B := ⟨c2, SA1.G G2 (Or.inr (Nat.zero_le _)), SB1.G G2 (Or.inr (Nat.zero_le _)), hc, hd, hl2⟩
  have zr2 : zAr g2 h.length mr or := ⟨fr, G2.gt er (Or.inr (Nat.zero_le _)), hfr, by omega⟩
  have zl2 : zAr g2 g1.length ml ol := ⟨fl, el, hfl, by omega⟩
  have hwl : 177 ≤ h.length := by omega
  obtain ⟨g3, e3, z3, G3, l3⟩ := zmerge hqa hqb hq (by omega) hwl hml hmr rl rr J2 zl2 zr2 (by omega) (by omega)
  have m3 := G3.m
  have J3 := J2.G (zG0 (a := g2.length) (b := g2.length) G3) (by omega) (by omega) (by omega) (zlen (by omega))
  have zr3 := zr2.G G3 (Or.inr (Nat.zero_le _))
  obtain ⟨g4, e4, z4, G4, l4⟩ := zlook hqa hqb hq hwl hmr rr J3 zr3 (by omega) (by omega)
  have m4 := G4.m
  have J4 := J3.G (zG0 (a := g3.length) (b := g3.length) G4) (by omega) (by omega) (by omega) (zlen (by omega))
  obtain ⟨g5, e5, z5, G5, l5⟩ := ztry hqa hqb hq J4 (by omega) (by omega)
  have z3' := (z3.G G4 (Or.inr (Nat.zero_le _))).G G5 (Or.inr (Nat.zero_le _))
  have z4' := z4.G G5 (Or.inr (Nat.zero_le _))
  have loop : ∀ n i, i ≤ 40 → 40 - i < n → f_JoinWays_pairsNotToldByAll_61 n g2.length g3.length g4.length 0 (nI i) g5 = some (0, g5) := by
    intro n
    induction n with
    | zero => intro i _ hn; exact absurd hn (Nat.not_lt_zero _)
    | succ n ih =>
      intro i hi hn
      unfold f_JoinWays_pairsNotToldByAll_61
      rcases Nat.lt_or_ge i 40 with hlt | hge
      · rw [if_neg (show ¬ (40 : Int32) ≤ nI i from nI_ge (b := 40) hlt (by decide)), ze_b (z3'.ld hlt), ze_b (z4'.ld hlt), ze_b (z5.ld hlt), ze_b (z3'.ld hlt), ze_b (z4'.ld hlt), ze_b (z5.ld hlt), zor_self, ze_b2 (zcnt_0 g5), nI_1]
        exact ih (i + 1) hlt (by omega)
      · have e : i = 40 := Nat.le_antisymm hi hge
        rw [e, if_pos (by decide)]
  refine ⟨g5, ?_, ((((G1.t G2).t G3).t G4).t G5).w (by omega) (Nat.le_refl _) (Nat.le_refl _)⟩
  unfold f_JoinWays_pairsNotToldByAll
  rw [ze_b (zh_A c0 rfl), ze_b (zh_I c0 rfl), ze_b (zh_A c0 rfl), ze_b SB.J5, ze_b SB.ok, ze_b2 e1, ze_b (zh_A c1 rfl), ze_b (zh_I c1 rfl), ze_b (zh_A c1 rfl), ze_b SA1.J5, ze_b SA1.ok, ze_b2 e2, ze_b (zh_is c2), ze_b2 e3, ze_b (zh_is J3.1), ze_b2 e4, ze_b (zh_is J4.1), ze_b2 e5]
  exact loop zF 0 (Nat.zero_le _) (by unfold zF; omega)
theorem zdef7 : zx_def 7 = [.null, .int 0, .null, .int 0] := by with_unfolding_all rfl
variable {now : Nat} {ver : Nat → Nat → zT} {tx : List Nat} {pr : Nat × (Nat → Nat) × (Nat → Int32)} {gr : zT × Nat × Nat × (Nat → Int64) × (Nat → Nat → Bool)}
theorem zWd.joinErrors (w : zWd h now ver tx pr gr) {t t' c d : Nat} (ht : t < 3) (ht' : t' < 3) (hc : c < (ver now t).nc) (hd : d < (ver now t').nc) (hk : (ver now t).kd c = (ver now t').kd d) (hm : zM h ≤ 6800000) : ∃ g, f_ColumnVault_joinErrors 1 (nI t) (nI c) (nI t') (nI d) h = some (.inl 0, g) ∧ zG 300 0 0 h g := by
  have S := w.T ht
  have S' := w.T ht'
  have hb := zq_b (v := now) ht
  have hb' := zq_b (v := now) ht'
  have hl := zlim (h := h) (by omega)
  have hwl := w.len
  generalize hg1 : h ++ [.inr (7, zx_def 7)] = g1
  have l1 : g1.length = h.length + 1 := by rw [← hg1, List.length_append]; rfl
  have G1 : zG 16 0 0 h g1 := by rw [← hg1]; exact zG_app (c := .inr (7, zx_def 7))
  have m1 := G1.m
  have i1 : g1[h.length]? = some (.inr (7, [.null, .int 0, .null, .int 0])) := by rw [← hg1, zdef7]; exact zG_end
  have t1 := zh_put (k := 0) (v := .ref (zq now t)) i1 (by show _ < 4; decide)
  generalize hg2 : g1.set h.length (.inr (7, [.ref (zq now t), .int 0, .null, .int 0])) = g2
  have t1 : zf_put 7 0 h.length (.ref (zq now t)) g1 = some g2 := t1.trans (congrArg some hg2)
  have i2 := zh_set_r i1 hg2
  have t2 := zh_put (k := 1) (v := .int (nI c)) i2 (by show _ < 4; decide)
  generalize hg3 : g2.set h.length (.inr (7, [.ref (zq now t), .int (nI c), .null, .int 0])) = g3
  have t2 : zf_put 7 1 h.length (.int (nI c)) g2 = some g3 := t2.trans (congrArg some hg3)
  have i3 := zh_set_r i2 hg3
  have t3 := zh_put (k := 2) (v := .ref (zq now t')) i3 (by show _ < 4; decide)
  generalize hg4 : g3.set h.length (.inr (7, [.ref (zq now t), .int (nI c), .ref (zq now t'), .int 0])) = g4
  have t3 : zf_put 7 2 h.length (.ref (zq now t')) g3 = some g4 := t3.trans (congrArg some hg4)
  have i4 := zh_set_r i3 hg4
  have t4 := zh_put (k := 3) (v := .int (nI d)) i4 (by show _ < 4; decide)
  generalize hg5 : g4.set h.length (.inr (7, [.ref (zq now t), .int (nI c), .ref (zq now t'), .int (nI d)])) = g5
  have t4 : zf_put 7 3 h.length (.int (nI d)) g4 = some g5 := t4.trans (congrArg some hg5)
  have i5 := zh_set_r i4 hg5
  have U2 : zU h.length 1 g1 g2 := by rw [← hg2]; exact zU_s i1 rfl (by omega)
  have U3 : zU h.length 1 g2 g3 := by rw [← hg3]; exact zU_s i2 rfl (by omega)
  have U4 : zU h.length 1 g3 g4 := by rw [← hg4]; exact zU_s i3 rfl (by omega)
  have U5 : zU h.length 1 g4 g5 := by rw [← hg5]; exact zU_s i4 rfl (by omega)
  have U : zU h.length 1 g1 g5 := zU_t U2 (zU_t U3 (zU_t U4 U5))
  have hM5 : zM g5 = zM g1 := by unfold zM; rw [U.1, U.2.1]
  have G5 : zG 16 0 0 h g5 := ⟨by rw [U.1]; omega, by omega, fun p hp _ => by rw [U.2.2 p (Or.inl hp), G1.2.2 p hp (Or.inr (Nat.zero_le _))]⟩
  have m5 := G5.m
  obtain ⟨g6, e6, G6⟩ := zways (w.F ht) (w.F ht') (qa := zq now t) (qb := zq now t') (by omega) (by omega) (show 177 ≤ h.length by omega) ⟨i5, S.G G5 (Or.inr (Nat.zero_le _)), S'.G G5 (Or.inr (Nat.zero_le _)), hc, hd, zlen (by omega)⟩ (by rw [U.1, l1]; omega) (by omega)
  have hsk := zsameKind (h := h) ((w.F ht).k1 hc) ((w.F ht').k1 hd) (by omega)
  rw [if_pos hk] at hsk
  refine ⟨g6, ?_, (G5.t G6).w (by omega) (Nat.le_refl _) (Nat.le_refl _)⟩
  have hin : f_JoinWays_init h.length (zq now t) (nI c) (zq now t') (nI d) g1 = some ((), g5) := by
    unfold f_JoinWays_init
    rw [ze_b t1, ze_b t2, ze_b t3, ze_b t4]
  unfold f_ColumnVault_joinErrors
  rw [ze_b w.is, ze_b3 (w.sheetWith ht hc), ze_b w.is, ze_b3 (w.sheetWith ht' hd), ze_b S.ok, ze_b2 (S.kindOf hc), ze_b S'.ok, ze_b2 (S'.kindOf hd), ze_b3 hsk, ze_b2 (zh_newO hl), hg1, ze_b2 hin, ze_b (zh_is i5), ze_b2 e6]
end ZJW

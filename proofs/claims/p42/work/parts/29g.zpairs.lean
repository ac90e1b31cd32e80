/-! ===== pairs ===== -/
section ZPA
variable {h g : zx_H}
theorem zgdM {α : Type} {d : α} : ∀ (l : List α) (c : α) (i : Nat), i < l.length → (l ++ [c]).getD i d = l.getD i d
  | [], _, _, h => absurd h (Nat.not_lt_zero _)
  | _ :: _, _, 0, _ => rfl
  | _ :: l, c, i + 1, h => zgdM l c i (Nat.lt_of_succ_lt_succ h)
theorem zgdN {α : Type} {d : α} : ∀ (l : List α) (c : α), (l ++ [c]).getD l.length d = c
  | [], _ => rfl
  | _ :: l, c => zgdN l c
theorem zgdT {α : Type} {d : α} : ∀ (l : List α) (i : Nat), l.length ≤ i → l.getD i d = d
  | [], _, _ => rfl
  | _ :: _, 0, h => absurd h (Nat.not_succ_le_zero _)
  | _ :: l, i + 1, h => zgdT l i (Nat.le_of_succ_le_succ h)
/-- the pairs' cells: the list L -/
def zPc (h : zx_H) (L : List (Nat × Int32)) : Prop := zPai h L.length (fun i => (L.getD i (0, 0)).1) (fun i => (L.getD i (0, 0)).2)
theorem zPput (L : List (Nat × Int32)) (P : zPc h L) (hl : L.length < 1600) (a : Nat) (b : Int32) : ∃ g, f_Pairs_put 154 (nI a) b h = some ((), g) ∧ zPc g (L ++ [(a, b)]) ∧ zU 154 3 h g := by
  obtain ⟨c0, ⟨f, c1, h1⟩, ⟨f', c2, h2⟩, h3⟩ := P
  have t1 := zh_stI (x := nI a) c1 hl (by decide)
  generalize hg1 : h.set 155 (.inl (1, 1600, .inl (upd f L.length (nI a)))) = g1 at t1
  have d0 := zh_set_k hg1 (by omega) c0
  have d1 := zh_set_r c1 hg1
  have d2 := zh_set_k hg1 (by omega) c2
  have u1 : zU 154 3 h g1 := by rw [← hg1]; exact zU_s c1 rfl (by omega)
  have t2 := zh_stI (x := b) d2 hl (by decide)
  generalize hg2 : g1.set 156 (.inl (1, 1600, .inl (upd f' L.length b))) = g2 at t2
  have e0 := zh_set_k hg2 (by omega) d0
  have u2 : zU 154 3 g1 g2 := by rw [← hg2]; exact zU_s d2 rfl (by omega)
  have t3 := zh_put (k := 2) (v := .int (nI (L.length + 1))) e0 (by show _ < 3; decide)
  generalize hg3 : g2.set 154 (.inr (9, [.ref 155, .ref 156, .int (nI (L.length + 1))])) = g3
  have t3 : zf_put 9 2 154 (.int (nI (L.length + 1))) g2 = some g3 := t3.trans (congrArg some hg3)
  have u3 : zU 154 3 g2 g3 := by rw [← hg3]; exact zU_s e0 rfl (by omega)
  have hlen : (L ++ [(a, b)]).length = L.length + 1 := List.length_append
  have hget : ∀ i, i < L.length → (L ++ [(a, b)]).getD i (0, 0) = L.getD i (0, 0) := fun i hi => zgdM L _ i hi
  have hlast : (L ++ [(a, b)]).getD L.length (0, 0) = (a, b) := zgdN L _
  refine ⟨g3, ?_, ⟨by rw [hlen, ← hg3]; exact zh_set_s e0, ⟨_, by rw [← hg3, zh_set_n (by omega), ← hg2, zh_set_n (by omega)]; exact d1, fun i hi => ?_⟩, ⟨_, by rw [← hg3, zh_set_n (by omega), ← hg2]; exact zh_set_s d2, fun i hi => ?_⟩, by rw [hlen]; omega⟩, zU_t u1 (zU_t u2 u3)⟩
  · unfold f_Pairs_put
    rw [ze_b (zh_I c0 rfl), if_neg (show ¬ (1600 : Int32) ≤ nI L.length from nI_ge (b := 1600) hl (by decide)), ze_b (zh_A c0 rfl), ze_b (zh_I c0 rfl), ze_b t1, ze_b (zh_A d0 rfl), ze_b (zh_I d0 rfl), ze_b t2, ze_b (zh_I e0 rfl), nI_1, ze_b t3]
  · rw [hlen] at hi
    by_cases e : i = L.length
    · show _ = nI ((L ++ [(a, b)]).getD i (0, 0)).1
      rw [e, pk_us, hlast]
    · show _ = nI ((L ++ [(a, b)]).getD i (0, 0)).1
      rw [pk_un e, hget i (by omega)]; exact h1 i (by omega)
  · rw [hlen] at hi
    by_cases e : i = L.length
    · show _ = ((L ++ [(a, b)]).getD i (0, 0)).2
      rw [e, pk_us, hlast]
    · show _ = ((L ++ [(a, b)]).getD i (0, 0)).2
      rw [pk_un e, hget i (by omega)]; exact h2 i (by omega)
/-- the pairs of left row a with the right rows below n that have p -/
def zjb (p : Nat → Bool) (how a : Nat) : Nat → List (Nat × Int32)
  | 0 => []
  | n + 1 => zjb p how a n ++ (if p n = true ∧ how < 2 then [(a, nI n)] else [])
/-- and if there is none: alone -/
def zjr (p : Nat → Bool) (how a n : Nat) : List (Nat × Int32) := zjb p how a n ++ (if (∀ b, b < n → p b = false) ∧ 0 < how then [(a, -1)] else [])
theorem zjb_len (p : Nat → Bool) (how a : Nat) : ∀ n, (zjb p how a n).length ≤ n
  | 0 => Nat.le_refl _
  | n + 1 => by
    have := zjb_len p how a n
    show (zjb p how a n ++ _).length ≤ n + 1
    rw [List.length_append]
    by_cases e : p n = true ∧ how < 2
    · rw [if_pos e]; show _ + 1 ≤ _; omega
    · rw [if_neg e]; show _ + 0 ≤ _; omega
theorem zjb_nil {p : Nat → Bool} {how a : Nat} : ∀ {n : Nat}, (∀ b, b < n → p b = false) → zjb p how a n = []
  | 0, _ => rfl
  | n + 1, h => by
    show zjb p how a n ++ _ = []
    rw [zjb_nil (n := n) (fun b hb => h b (by omega)), if_neg (fun x => by rw [h n (by omega)] at x; exact absurd x.1 (by decide))]
    rfl
theorem zjb_anti {p : Nat → Bool} {a how : Nat} (h : 2 ≤ how) : ∀ {n : Nat}, zjb p how a n = []
  | 0 => rfl
  | n + 1 => by
    show zjb p how a n ++ _ = []
    rw [zjb_anti h (n := n), if_neg (fun x => by omega)]
    rfl
theorem zjr_len (p : Nat → Bool) (how a n : Nat) : (zjr p how a n).length ≤ n + 1 := by
  have := zjb_len p how a n
  unfold zjr
  rw [List.length_append]
  split
  · show _ + 1 ≤ _; omega
  · show _ + 0 ≤ _; omega
theorem zjb_same {p p' : Nat → Bool} {how a : Nat} : ∀ {n : Nat}, (∀ b, b < n → p b = p' b) → zjb p how a n = zjb p' how a n
  | 0, _ => rfl
  | n + 1, h => by
    show zjb p how a n ++ _ = zjb p' how a n ++ _
    rw [zjb_same (n := n) (fun b hb => h b (by omega)), h n (by omega)]
theorem zjb_up {p : Nat → Bool} {how a n : Nat} : ∀ d, zjb (fun b => decide (b < n) && p b) how a (n + d) = zjb p how a n
  | 0 => zjb_same fun b hb => by
    have hb : b < n := hb
    show (decide (b < n) && p b) = p b
    rw [decide_eq_true hb, Bool.true_and]
  | d + 1 => by
    show zjb _ how a (n + d) ++ _ = _
    rw [zjb_up d, if_neg (fun x => by
      have x1 : (decide (n + d < n) && p (n + d)) = true := x.1
      rw [decide_eq_false (by omega), Bool.false_and] at x1
      exact absurd x1 (by decide)), List.append_nil]
theorem zPrange {p : Nat → Bool} {n : Nat} (hn : n ≤ 40) {how a : Nat} (hh : how ≤ 2) : ∀ k i L h, i ≤ 40 → 40 - i < k → zPc h (L ++ zjb (fun b => decide (b < n) && p b) how a i) → L.length + 40 < 1600 → ∃ g, f_Pairs_putRow_20 k 154 (nI a) (zB p n) (nI how) (nI i) h = some ((), g) ∧ zPc g (L ++ zjb p how a n) ∧ zU 154 3 h g := by
  intro k
  induction k with
  | zero => intro i _ _ _ hk; exact absurd hk (Nat.not_lt_zero _)
  | succ k ih =>
    intro i L h hi hk P hl
    have e40 : zjb (fun b => decide (b < n) && p b) how a 40 = zjb p how a n := by
      have := zjb_up (p := p) (how := how) (a := a) (n := n) (40 - n)
      rw [show n + (40 - n) = 40 by omega] at this
      exact this
    unfold f_Pairs_putRow_20
    rcases Nat.lt_or_ge i 40 with hlt | hge
    · rw [if_neg (show ¬ (40 : Int32) ≤ nI i from nI_ge (b := 40) hlt (by decide))]
      by_cases h2 : how = 2
      · rw [if_pos (by rw [h2]; rfl)]
        refine ⟨h, rfl, ?_, zU_r⟩
        rw [zjb_anti (by omega)] at P
        rw [zjb_anti (by omega)]
        exact P
      · rw [if_neg (by rw [show (2 : Int32) = nI 2 from rfl, nI_eq (by omega) (by decide)]; exact h2), ze_b2 (zB_holds hn (by omega) h)]
        by_cases e : (decide (i < n) && p i) = true
        · obtain ⟨g1, e1, P1, U1⟩ := zPput _ P (by have := zjb_len (fun b => decide (b < n) && p b) how a i; rw [List.length_append]; omega) a (nI i)
          have hz : L ++ zjb (fun b => decide (b < n) && p b) how a i ++ [(a, nI i)] = L ++ zjb (fun b => decide (b < n) && p b) how a (i + 1) := by
            rw [List.append_assoc]
            refine congrArg (fun z => L ++ z) ?_
            show _ = zjb (fun b => decide (b < n) && p b) how a i ++ (if (decide (i < n) && p i) = true ∧ how < 2 then [(a, nI i)] else [])
            rw [if_pos ⟨e, by omega⟩]
          rw [hz] at P1
          obtain ⟨g, e2, P2, U2⟩ := ih (i + 1) L g1 hlt (by omega) P1 hl
          refine ⟨g, ?_, P2, zU_t U1 U2⟩
          rw [e, if_neg (show ¬ zb true = 0 by decide), ze_b (zh_is P.1), ze_b2 e1, nI_1]
          exact e2
        · have hz : zjb (fun b => decide (b < n) && p b) how a (i + 1) = zjb (fun b => decide (b < n) && p b) how a i := by
            show zjb (fun b => decide (b < n) && p b) how a i ++ _ = _
            rw [if_neg (fun x => e x.1), List.append_nil]
          rw [ts_nt e, if_pos (show zb false = 0 from rfl), nI_1]
          exact ih (i + 1) L h hlt (by omega) (by rw [hz]; exact P) hl
    · have e : i = 40 := Nat.le_antisymm hi hge
      subst e
      rw [if_pos (by decide)]
      exact ⟨h, rfl, by rw [← e40]; exact P, zU_r⟩
theorem zPrangeRow {p : Nat → Bool} {n : Nat} (hn : n ≤ 40) {how a : Nat} (hh : how ≤ 2) (L : List (Nat × Int32)) (P : zPc h L) (hl : L.length + 41 < 1600) : ∃ g, f_Pairs_putRow 154 (nI a) (zB p n) (nI how) h = some ((), g) ∧ zPc g (L ++ zjr p how a n) ∧ zU 154 3 h g := by
  unfold f_Pairs_putRow zjr
  have nil0 : zjb (fun b => decide (b < n) && p b) how a 0 = [] := rfl
  by_cases hz : zB p n = 0
  · have hall := (zB_zero (by omega)).mp hz
    rw [if_neg (fun x => x hz), zjb_nil hall, List.nil_append]
    by_cases h0 : how = 0
    · rw [if_pos (by rw [h0]; rfl), if_neg (fun x => by omega)]
      obtain ⟨g, e, P2, U⟩ := zPrange (p := p) hn (how := how) (a := a) hh zF 0 L h (Nat.zero_le _) (by unfold zF; omega) (by rw [nil0, List.append_nil]; exact P) (by omega)
      rw [zjb_nil hall] at P2
      exact ⟨g, e, P2, U⟩
    · obtain ⟨g1, e1, P1, U1⟩ := zPput L P (by omega) a (-1)
      obtain ⟨g, e, P2, U⟩ := zPrange (p := p) hn (how := how) (a := a) hh zF 0 (L ++ [(a, -1)]) g1 (Nat.zero_le _) (by unfold zF; omega) (by rw [nil0, List.append_nil]; exact P1) (by rw [List.length_append]; show L.length + 1 + 40 < 1600; omega)
      rw [zjb_nil hall, List.append_nil] at P2
      rw [if_neg (nI_ne0 (by omega) (by omega)), if_pos ⟨hall, by omega⟩, ze_b (zh_is P.1), ze_b2 e1]
      exact ⟨g, e, P2, zU_t U1 U⟩
  · have hex : ¬ ∀ b, b < n → p b = false := fun x => hz ((zB_zero (by omega)).mpr x)
    rw [if_pos hz, if_neg (fun x => hex x.1), List.append_nil]
    exact zPrange hn hh zF 0 L h (Nat.zero_le _) (by unfold zF; omega) (by rw [nil0, List.append_nil]; exact P) (by omega)
/-- may left row a and right row b be a pair? -/
def zjp (A B : zT) (c d a : Nat) : Nat → Bool := fun b => decide (A.ky c a ≠ -9000000000) && (B.ch b && decide (B.ky d b = A.ky c a))
def zja (A B : zT) (c d how : Nat) : Nat → List (Nat × Int32)
  | 0 => []
  | i + 1 => zja A B c d how i ++ (if A.ch i = true then zjr (zjp A B c d i) how i B.nr else [])
theorem zja_len (A B : zT) (c d how : Nat) : ∀ i, (zja A B c d how i).length ≤ i * (B.nr + 1)
  | 0 => Nat.zero_le _
  | i + 1 => by
    have h1 := zja_len A B c d how i
    have h2 := zjr_len (zjp A B c d i) how i B.nr
    show (zja A B c d how i ++ _).length ≤ _
    rw [List.length_append, Nat.succ_mul]
    split
    · omega
    · show _ + 0 ≤ _; omega
theorem zPmake {A B : zT} {qa qb : Nat} (SA : TS h qa A) (SB : TS h qb B) {c d how : Nat} (hc : c < A.nc) (hd : d < B.nc) (hh : how ≤ 2) (P : ∃ m l r, zPai h m l r) (ha : qa + 4 ≤ 148) (hb : qb + 4 ≤ 148) (hA : A.nr ≤ 35) (hB : B.nr ≤ 35) : ∃ g, f_Pairs_make 154 qa (nI c) qb (nI d) (nI how) h = some ((), g) ∧ zPc g (zja A B c d how A.nr) ∧ zU 154 3 h g := by
  obtain ⟨m, l, r, c0, ⟨f, c1, h1⟩, ⟨f', c2, h2⟩, h3⟩ := P
  have t0 := zh_put (k := 2) (v := .int (nI 0)) c0 (by show _ < 3; decide)
  generalize hg0 : h.set 154 (.inr (9, [.ref 155, .ref 156, .int (nI 0)])) = g0
  have t0 : zf_put 9 2 154 (.int (nI 0)) h = some g0 := t0.trans (congrArg some hg0)
  have u0 : zU 154 3 h g0 := by rw [← hg0]; exact zU_s c0 rfl (by omega)
  have P0 : zPc g0 [] := ⟨by rw [← hg0]; exact zh_set_s c0, ⟨f, by rw [← hg0, zh_set_n (by omega)]; exact c1, fun i hi => absurd hi (Nat.not_lt_zero _)⟩, ⟨f', by rw [← hg0, zh_set_n (by omega)]; exact c2, fun i hi => absurd hi (Nat.not_lt_zero _)⟩, Nat.zero_le _⟩
  have loop : ∀ k i g0, i ≤ A.nr → A.nr - i < k → TS g0 qa A → TS g0 qb B → zPc g0 (zja A B c d how i) → ∃ g, f_Pairs_make_8 k 154 qa (nI c) qb (nI d) (nI how) (nI i) g0 = some ((), g) ∧ zPc g (zja A B c d how A.nr) ∧ zU 154 3 g0 g := by
    intro k
    induction k with
    | zero => intro i _ _ hk; exact absurd hk (Nat.not_lt_zero _)
    | succ k ih =>
      intro i g0 hi hk SA SB P
      unfold f_Pairs_make_8
      rw [ze_b SA.I4]
      rcases Nat.lt_or_ge i A.nr with hlt | hge
      · rw [if_neg (nI_ge hlt (by omega)), ze_b SA.J5, ze_b2 (SA.holds hlt)]
        by_cases hch : A.ch i = true
        · have hlen : (zja A B c d how i).length + 41 < 1600 := by
            have h1 := zja_len A B c d how i
            have h2 : i * (B.nr + 1) ≤ 34 * 36 := Nat.mul_le_mul (by omega) (by omega)
            omega
          have hstep : zja A B c d how (i + 1) = zja A B c d how i ++ zjr (zjp A B c d i) how i B.nr := by
            show zja A B c d how i ++ (if A.ch i = true then _ else _) = _
            rw [if_pos hch]
          obtain ⟨g1, e1, P1, U1⟩ := zPrangeRow (p := zjp A B c d i) (n := B.nr) (by omega) (how := how) (a := i) hh _ P hlen
          obtain ⟨g, e2, P2, U2⟩ := ih (i + 1) g1 hlt (by omega) (SA.U U1 (by omega)) (SB.U U1 (by omega)) (by rw [hstep]; exact P1)
          refine ⟨g, ?_, P2, zU_t U1 U2⟩
          rw [hch, if_neg (show ¬ zb true = 0 by decide), ze_b SA.ok, ze_b2 (SA.keyAt hc hlt)]
          by_cases hm : A.ky c i = -9000000000
          · have ez : zB (zjp A B c d i) B.nr = 0 := (zB_zero (by omega)).mpr fun b _ => by
              unfold zjp
              rw [decide_eq_false (fun x => x hm), Bool.false_and]
            rw [ez] at e1
            rw [if_neg (fun x => x hm), ze_b (zh_is P.1), ze_b2 e1, nI_1]
            exact e2
          · have ez : zB (zjp A B c d i) B.nr = zB (fun b => B.ch b && decide (B.ky d b = A.ky c i)) B.nr := zB_c fun b _ => by
              unfold zjp
              rw [decide_eq_true hm, Bool.true_and]
            rw [ez] at e1
            rw [if_pos hm, ze_b SB.J5, ze_b SB.ok, ze_b2 (SB.rwi hd _), zB_and (by omega), ze_b (zh_is P.1), ze_b2 e1, nI_1]
            exact e2
        · have hstep : zja A B c d how (i + 1) = zja A B c d how i := by
            show zja A B c d how i ++ (if A.ch i = true then _ else _) = _
            rw [if_neg hch, List.append_nil]
          rw [ts_nt hch, if_pos (show zb false = 0 from rfl), nI_1]
          exact ih (i + 1) g0 hlt (by omega) SA SB (by rw [hstep]; exact P)
      · have e : i = A.nr := Nat.le_antisymm hi hge
        subst e
        rw [if_pos (nI_le (Nat.le_refl _) (by omega))]
        exact ⟨g0, rfl, P, zU_r⟩
  obtain ⟨g, e, P2, U⟩ := loop zF 0 g0 (Nat.zero_le _) (by unfold zF; omega) (SA.U u0 (by omega)) (SB.U u0 (by omega)) P0
  refine ⟨g, ?_, P2, zU_t u0 U⟩
  unfold f_Pairs_make
  rw [show (0 : Int32) = nI 0 from rfl, ze_b t0]
  exact e
variable {now : Nat} {ver : Nat → Nat → zT} {tx : List Nat} {pr : Nat × (Nat → Nat) × (Nat → Int32)} {gr : zT × Nat × Nat × (Nat → Int64) × (Nat → Nat → Bool)}
theorem zsameKind {a b : Nat} (ha : a ≤ 1) (hb : b ≤ 1) (hB : zM h ≤ 7200000) : f_ColumnVault_requireSameKind (nI a) (nI b) h = if a = b then some (.inl (), h) else some (.inr 14, h ++ [.inr (14, [])]) := by
  unfold f_ColumnVault_requireSameKind
  by_cases e : a = b
  · rw [if_pos e]
    first
      | rw [if_pos (by rw [e])]
      | rw [if_neg (fun x => x (by rw [e]))]
  · rw [if_neg e]
    first
      | rw [if_neg (by rw [nI_eq (by omega) (by omega)]; exact e), if_pos (zlim hB)]
      | rw [if_pos (by rw [nI_eq (by omega) (by omega)]; exact e), if_pos (zlim hB)]
/-- the list of pairs as the object's -/
def zpl3 (L : List (Nat × Int32)) : Nat × (Nat → Nat) × (Nat → Int32) := (L.length, fun i => (L.getD i (0, 0)).1, fun i => (L.getD i (0, 0)).2)
theorem zWd.join (w : zWd h now ver tx pr gr) {t t' c d how : Nat} (ht : t < 3) (ht' : t' < 3) (hc : c < (ver now t).nc) (hd : d < (ver now t').nc) (hk : (ver now t).kd c = (ver now t').kd d) (hh : how ≤ 2) (hA : (ver now t).nr ≤ 35) (hB : (ver now t').nr ≤ 35) (hm : zM h ≤ 7200000) : ∃ g, f_ColumnVault_join 1 (nI t) (nI c) (nI t') (nI d) (nI how) h = some (.inl (nI (zja (ver now t) (ver now t') c d how (ver now t).nr).length), g) ∧ zWd g now ver tx (zpl3 (zja (ver now t) (ver now t') c d how (ver now t).nr)) gr ∧ zG 0 154 157 h g := by
  have S := w.T ht
  have S' := w.T ht'
  have hb := zq_b (v := now) ht
  have hb' := zq_b (v := now) ht'
  obtain ⟨g, e, P, U⟩ := zPmake S S' hc hd hh ⟨_, _, _, w.prs⟩ (by omega) (by omega) hA hB
  have G : zG 0 154 157 h g := zG_U U (Nat.le_refl _) (Nat.le_refl _)
  refine ⟨g, ?_, ⟨w.v.G G (by omega), w.hi.G G (by omega), w.txt.G G (by omega), w.tk.G G (by omega), P, w.grs.G G (by omega), w.ck.G G (by omega)⟩, G⟩
  have hsk := zsameKind (h := h) ((w.F ht).k1 hc) ((w.F ht').k1 hd) hm
  rw [if_pos hk] at hsk
  have a3 := zh_A w.v (k := 3) rfl
  have a3' : zf_A 12 3 1 g = some 154 := zh_A (w.v.G G (by omega)) rfl
  unfold f_ColumnVault_join
  rw [ze_b w.is, ze_b3 (w.sheetWith ht hc), ze_b w.is, ze_b3 (w.sheetWith ht' hd), ze_b S.ok, ze_b2 (S.kindOf hc), ze_b S'.ok, ze_b2 (S'.kindOf hd), ze_b3 hsk, if_neg (nI_pos (by omega)), if_pos (show nI how ≤ (2 : Int32) from nI_le (b := 2) hh (by decide)), ze_b a3, ze_b (zh_is w.prs.1), ze_b2 e, ze_b a3', ze_b (zh_I P.1 rfl)]
theorem zWd.joinNo (w : zWd h now ver tx pr gr) {t t' c d : Nat} (ht : t < 3) (ht' : t' < 3) (hc : c < (ver now t).nc) (hd : d < (ver now t').nc) (hk : (ver now t).kd c ≠ (ver now t').kd d) (how : Int32) (hm : zM h ≤ 7200000) : f_ColumnVault_join 1 (nI t) (nI c) (nI t') (nI d) how h = some (.inr 14, h ++ [.inr (14, [])]) := by
  have S := w.T ht
  have S' := w.T ht'
  have hsk := zsameKind (h := h) ((w.F ht).k1 hc) ((w.F ht').k1 hd) hm
  rw [if_neg hk] at hsk
  unfold f_ColumnVault_join
  rw [ze_b w.is, ze_b3 (w.sheetWith ht hc), ze_b w.is, ze_b3 (w.sheetWith ht' hd), ze_b S.ok, ze_b2 (S.kindOf hc), ze_b S'.ok, ze_b2 (S'.kindOf hd), ze_b3E hsk]
theorem zWd.pairAt {L : List (Nat × Int32)} (w : zWd h now ver tx (zpl3 L) gr) {i : Nat} (hi : i < L.length) : f_ColumnVault_pairAt 1 (nI i) 0 h = some (.inl (nI (L.getD i (0, 0)).1), h) ∧ f_ColumnVault_pairAt 1 (nI i) 1 h = some (.inl (L.getD i (0, 0)).2, h) := by
  obtain ⟨c0, ⟨f, c1, h1⟩, ⟨f', c2, h2⟩, h3⟩ := w.prs
  have h3 : L.length ≤ 1600 := h3
  have h1 : ∀ i, i < L.length → f i = nI (L.getD i (0, 0)).1 := h1
  have h2 : ∀ i, i < L.length → f' i = (L.getD i (0, 0)).2 := h2
  have c0 : h[154]? = some (.inr (9, [.ref 155, .ref 156, .int (nI L.length)])) := c0
  have a3 := zh_A w.v (k := 3) rfl
  constructor
  · unfold f_ColumnVault_pairAt f_Pairs_rowOf
    rw [if_neg (nI_pos (by omega)), ze_b a3, ze_b (zh_I c0 rfl), if_pos (nI_lt hi (by omega)), ze_b a3, ze_b (zh_is c0)]
    refine ze_b2 (a := nI (L.getD i (0, 0)).1) (g := h) ?_
    rw [if_neg (nI_pos (by omega)), ze_b (zh_I c0 rfl), if_pos (nI_lt hi (by omega)), if_pos rfl, ze_b (zh_A c0 rfl), ze_b (zh_ldI (zq_ne (by decide)) c1 (by omega) (by decide)), h1 i hi]
  · unfold f_ColumnVault_pairAt f_Pairs_rowOf
    rw [if_neg (nI_pos (by omega)), ze_b a3, ze_b (zh_I c0 rfl), if_pos (nI_lt hi (by omega)), ze_b a3, ze_b (zh_is c0)]
    refine ze_b2 (a := (L.getD i (0, 0)).2) (g := h) ?_
    rw [if_neg (nI_pos (by omega)), ze_b (zh_I c0 rfl), if_pos (nI_lt hi (by omega)), if_neg (by decide), ze_b (zh_A c0 rfl), ze_b (zh_ldI (zq_ne (by decide)) c2 (by omega) (by decide)), h2 i hi]
theorem zWd.pairNo (w : zWd h now ver tx pr gr) {i : Nat} (hi : pr.1 ≤ i) (hi2 : i < 2 ^ 30) (b : Int32) (hB : zM h ≤ 7200000) : f_ColumnVault_pairAt 1 (nI i) b h = some (.inr 13, h ++ [.inr (13, [])]) := by
  obtain ⟨c0, _, _, h3⟩ := w.prs
  have a3 := zh_A w.v (k := 3) rfl
  unfold f_ColumnVault_pairAt
  rw [if_neg (nI_pos (by omega)), ze_b a3, ze_b (zh_I c0 rfl), if_neg (nI_nlt hi (by omega)), if_pos (zlim hB)]
end ZPA

/-! ===== the rows of a drawn test ===== -/
section ZTS
variable {h g : zx_H} {now : Nat} {ver : Nat → Nat → zT} {tx : List Nat} {pr : Nat × (Nat → Nat) × (Nat → Int32)} {gr : zT × Nat × Nat × (Nat → Int64) × (Nat → Nat → Bool)} {t c op q p6 : Nat} {T : zT} {ks : List Int64} {S : Nat → Bool}
def zaop (op : Nat) : Nat := if op = 0 then 60 else if op = 1 then 62 else if op = 2 then 61 else if op = 3 then 116 else if op = 4 then 105 else 109
/-- as many values as the test takes -/
def zln1 (op : Nat) (ks : List Int64) : Prop := (op < 3 ∧ ks.length = 1) ∨ (op = 3 ∧ ks.length = 2) ∨ (op = 4 ∧ 1 ≤ ks.length ∧ ks.length ≤ 6) ∨ (op = 5 ∧ ks.length = 0)
def zoks (kd : Nat) (ks : List Int64) : Prop := ∀ k ∈ ks, zokK kd k ∧ k ≠ -9000000000
theorem zl1 (h : ks.length = 1) : ∃ k, ks = [k] := by
  cases ks with
  | nil => cases h
  | cons k s => cases s with
    | nil => exact ⟨k, rfl⟩
    | cons _ _ => exact absurd h (by rw [List.length_cons, List.length_cons]; omega)
theorem zl2 (h : ks.length = 2) : ∃ k k', ks = [k, k'] := by
  cases ks with
  | nil => cases h
  | cons k s =>
    obtain ⟨k', e⟩ := zl1 (ks := s) (by rw [List.length_cons] at h; omega)
    exact ⟨k, k', by rw [e]⟩
theorem zoks_g {kd i : Nat} (hk : zoks kd ks) (hi : i < ks.length) : zokK kd (ks.getD i 0) ∧ ks.getD i 0 ≠ -9000000000 := hk _ (by rw [List.getD_eq_getElem?_getD, List.getElem?_eq_getElem hi]; exact List.getElem_mem hi)
/-- a missing value -/
theorem zrt_miss (w : zWF T) (hc : c < T.nc) {r : Nat} (hr : r < T.nr) (hl : zln1 op ks) (hk : zoks (T.kd c) ks) (hm : T.ky c r = -9000000000) : zrt T c (zaop op) ks r = decide (op = 5) := by
  rcases hl with ⟨h1, h2⟩ | ⟨h1, h2⟩ | ⟨h1, h2, h3⟩ | ⟨h1, h2⟩
  · obtain ⟨k, rfl⟩ := zl1 h2
    obtain ⟨k1, k2⟩ := hk k (List.mem_singleton.mpr rfl)
    have kg := zokK_ge k1 k2
    have : op = 0 ∨ op = 1 ∨ op = 2 := by omega
    rcases this with rfl | rfl | rfl
    · rw [show zaop 0 = 60 from rfl, zrt_lt w hc hr kg]
      exact decide_eq_decide.mpr ⟨fun x => absurd hm x.1, fun x => by omega⟩
    · rw [show zaop 1 = 62 from rfl, zrt_gt w hc hr kg]
      exact decide_eq_decide.mpr ⟨fun x => absurd hm x.1, fun x => by omega⟩
    · rw [show zaop 2 = 61 from rfl, zrt_eq]
      exact decide_eq_decide.mpr ⟨fun x => absurd (x.symm.trans hm) k2, fun x => by omega⟩
  · obtain ⟨k, k', rfl⟩ := zl2 h2
    obtain ⟨k1, k2⟩ := hk k (List.mem_cons_self ..)
    have kg := zokK_ge k1 k2
    subst h1
    rw [show zaop 3 = 116 from rfl, zrt_to]
    refine decide_eq_decide.mpr ⟨fun x => ?_, fun x => by omega⟩
    have := x.1
    rw [hm, zl_e, zl_m] at this
    omega
  · subst h1
    rw [show zaop 4 = 105 from rfl, zrt_in]
    refine (ts_nt fun x => ?_).trans (decide_eq_false (by decide)).symm
    obtain ⟨i, hi, e⟩ := (zan_mem _).mp x
    exact (zoks_g hk hi).2 (e.symm.trans hm)
  · subst h1
    obtain rfl := List.length_eq_zero_iff.mp h2
    rw [show zaop 5 = 109 from rfl, zrt_mi]
    exact decide_eq_decide.mpr ⟨fun _ => rfl, fun _ => hm⟩
/-- truth values known up to k -/
def zBp (h : zx_H) (p n k : Nat) (S : Nat → Bool) : Prop := ∃ f, h[p]? = some (.inl (5, n, .inl f)) ∧ ∀ j, j < k → f j = zb (S j)
theorem zBp.G {p n k x a b : Nat} (z : zBp h p n k S) (G : zG x a b h g) (h1 : p < a ∨ b ≤ p) : zBp g p n k S := by
  obtain ⟨f, e, hf⟩ := z
  exact ⟨f, G.gt e h1, hf⟩
theorem zBp.st {p n k : Nat} (z : zBp h p n k S) (hk : k < n) (hn : n ≤ 40) {b : Bool} (hb : b = S k) : ∃ g, zf_stB p (nI k) (zb b) h = some g ∧ zBp g p n (k + 1) S ∧ zU p 1 h g := by
  obtain ⟨f, e, hf⟩ := z
  refine ⟨_, zh_stBo e hk (by omega), ⟨_, zh_set_s e, fun j hj => ?_⟩, zU_s e rfl (by omega)⟩
  by_cases c : j = k
  · rw [c, pk_us, hb]
  · rw [pk_un c]; exact hf j (by omega)
theorem zBp.a {p n : Nat} (z : zBp h p n n S) : zBa h p n S := z
/-- values told of keys -/
def zKa (h : zx_H) (p kd n : Nat) (ks : List Int64) : Prop := ∃ f, h[p]? = some (.inl (2, n, .inr (.inl f))) ∧ ∀ i, i < ks.length → f i = ztd kd (ks.getD i 0)
theorem zKa.G {p kd n x a b : Nat} (z : zKa h p kd n ks) (G : zG x a b h g) (h1 : p < a ∨ b ≤ p) : zKa g p kd n ks := by
  obtain ⟨f, e, hf⟩ := z
  exact ⟨f, G.gt e h1, hf⟩
theorem zKa.ld {p kd n i : Nat} (z : zKa h p kd n ks) (hi : i < ks.length) (hn : i < n) (h10 : n ≤ 10) : zf_ldJ p (nI i) h = some (ztd kd (ks.getD i 0)) := by
  obtain ⟨f, e, hf⟩ := z
  rw [zh_ldJ e hn (by omega), hf i hi]
abbrev zK281 : Type := Nat → Int32 → Int32 → Int32 → Int32 → Int32 → Nat → Nat → Int32 → zx_H → Option ((Nat ⊕ Nat) × zx_H)
theorem zt450n {K : zK281} {p1 p2 p3 p5 : Int32} {v : Int64} {k : Int32} (hop : op ≠ 4) (h6 : op < 6) : f_ColumnVaultLaw_test_450 K zF 1 p1 p2 p3 (nI op) p5 p6 q k v (0 : Int32) h = K 1 p1 p2 p3 (nI op) p5 p6 q (k + (1 : Int32)) h := by
  rw [show zF = 4999 + 1 from rfl, f_ColumnVaultLaw_test_450, if_pos (show ¬ nI op = (4 : Int32) from fun x => hop ((nI_eq (b := 4) (by omega) (by decide)).mp x)), ite_self]
theorem zb_or1 (x : Bool) : zb x ||| (1 : Int32) = zb true := by cases x <;> decide
theorem zb_or0 (x : Bool) : zb x ||| (0 : Int32) = zb x := by cases x <;> decide
/-- is it one of the values? -/
theorem zt450 (wT : zWF T) (hc : c < T.nc) {k : Nat} (hk : k < T.nr) (hks : zoks (T.kd c) ks) (hl : ks.length ≤ 6) (hS : S k = zan T c ks ks.length k) (hne : p6 ≠ q) {K : zK281} {p1 : Int32} : ∀ n i h, i ≤ ks.length → ks.length - i < n → zKa h p6 (T.kd c) ks.length ks → zBp h q T.nr k S → (∃ f, h[q]? = some (.inl (5, T.nr, .inl f)) ∧ f k = zb (zan T c ks i k)) → ∃ g, f_ColumnVaultLaw_test_450 K n 1 p1 (nI c) (nI (T.kd c)) (4 : Int32) (nI ks.length) p6 q (nI k) (zVl T k c) (nI i) h = K 1 p1 (nI c) (nI (T.kd c)) (4 : Int32) (nI ks.length) p6 q (nI (k + 1)) g ∧ zBp g q T.nr (k + 1) S ∧ zU q 1 h g := by
  have h40 := wT.r40
  intro n
  induction n with
  | zero => intro i _ _ hn; exact absurd hn (Nat.not_lt_zero _)
  | succ n ih =>
    intro i h hi hn zk zp zf
    unfold f_ColumnVaultLaw_test_450
    rcases Nat.lt_or_ge i ks.length with hlt | hge
    · obtain ⟨f, e, hf⟩ := zf
      have ld : zf_ldB q (nI k) h = some (zb (zan T c ks i k)) := by rw [zh_ldBo e hk (by omega), hf]
      obtain ⟨ok1, ok2⟩ := zoks_g hks hlt
      have hinj : zVl T k c = ztd (T.kd c) (ks.getD i 0) ↔ T.ky c k = ks.getD i 0 := ztd_inj (wT.k hc hk) ok1
      have step : ∀ b : Bool, b = zan T c ks (i + 1) k → ∃ g, (zf_b (zf_stB q (nI k) (zb b) h) fun h4 => (f_ColumnVaultLaw_test_450 K n) 1 p1 (nI c) (nI (T.kd c)) (4 : Int32) (nI ks.length) p6 q (nI k) (zVl T k c) (nI i + (1 : Int32)) h4) = K 1 p1 (nI c) (nI (T.kd c)) (4 : Int32) (nI ks.length) p6 q (nI (k + 1)) g ∧ zBp g q T.nr (k + 1) S ∧ zU q 1 h g := by
        intro b hb
        have st := zh_stBo (b := b) e hk (by omega)
        have U1 : zU q 1 h (h.set q (.inl (5, T.nr, .inl (upd f k (zb b))))) := zU_s e rfl (by omega)
        have G1 := zG_U U1 (a := q) (b := q + 1) (Nat.le_refl _) (Nat.le_refl _)
        have zp2 : zBp (h.set q (.inl (5, T.nr, .inl (upd f k (zb b))))) q T.nr k S := by
          obtain ⟨f2, e2, hf2⟩ := zp
          rw [e] at e2
          cases e2
          exact ⟨_, zh_set_s e, fun j hj => by rw [pk_un (by omega)]; exact hf2 j hj⟩
        obtain ⟨g, e3, z3, U3⟩ := ih (i + 1) _ hlt (by omega) (zk.G G1 (by omega)) zp2 ⟨_, zh_set_s e, by rw [pk_us, hb]⟩
        refine ⟨g, ?_, z3, zU_t U1 U3⟩
        rw [ze_b st, nI_1]
        exact e3
      have hz : zan T c ks (i + 1) k = (zan T c ks i k || decide (ks.getD i 0 ≤ T.ky c k ∧ T.ky c k ≤ ks.getD i 0)) := rfl
      rw [if_neg (nI_ge hlt (by omega)), if_neg (fun x => x rfl), ze_b ld, ze_b (zk.ld hlt hlt (by omega))]
      by_cases he : T.ky c k = ks.getD i 0
      · rw [if_neg (fun x => x (hinj.mpr he)), zb_or1]
        refine step true ?_
        rw [hz, he, decide_eq_true ⟨by rw [zl_e]; omega, by rw [zl_e]; omega⟩, Bool.or_true]
      · rw [if_pos (fun x => he (hinj.mp x)), zb_or0]
        refine step _ ?_
        rw [hz, decide_eq_false, Bool.or_false]
        rintro ⟨x1, x2⟩
        rw [zl_e] at x1 x2
        exact he ((zl_i _ _).mpr (by omega))
    · have ei : i = ks.length := Nat.le_antisymm hi hge
      obtain ⟨f, e, hf⟩ := zf
      rw [if_pos (nI_le hge (by omega)), nI_1]
      refine ⟨h, rfl, ?_, zU_r⟩
      obtain ⟨f2, e2, hf2⟩ := zp
      rw [e] at e2
      cases e2
      refine ⟨f, e, fun j hj => ?_⟩
      by_cases x : j = k
      · rw [x, hf, hS, ei]
      · exact hf2 j (by omega)
/-- for which rows it holds -/
theorem zt281 (hT : ver now t = T) (wT : zWF T) (ht : t < 3) (hc : c < T.nc) (h6 : op < 6) (hl : zln1 op ks) (hks : zoks (T.kd c) ks) (hq : 177 ≤ q) (hq2 : q ≤ 600000) (hne : p6 ≠ q) (hS : ∀ r, r < T.nr → S r = zrt T c (zaop op) ks r) : ∀ n k h, k ≤ T.nr → T.nr - k < n → zWd h now ver tx pr gr → zBp h q T.nr k S → zKa h p6 (T.kd c) ks.length ks → zM h + 400 * (T.nr - k) ≤ 6500000 → ∃ g, f_ColumnVaultLaw_test_281 n 1 (nI t) (nI c) (nI (T.kd c)) (nI op) (nI ks.length) p6 q (nI k) h = some (.inl q, g) ∧ zBa g q T.nr S ∧ zG (400 * (T.nr - k)) q (q + 1) h g := by
  subst hT
  have h40 := wT.r40
  have hl6 : ks.length ≤ 6 := by rcases hl with x | x | x | x <;> omega
  intro n
  induction n with
  | zero => intro i _ _ hn; exact absurd hn (Nat.not_lt_zero _)
  | succ n ih =>
    intro k h hk hn w zp zk hB
    unfold f_ColumnVaultLaw_test_281
    rw [ze_b (zh_len (by show q ≠ 1000000; omega) zp.choose_spec.1 rfl)]
    rcases Nat.lt_or_ge k (ver now t).nr with hlt | hge
    · have hk1 := wT.k hc hlt
      have hmi : zVl (ver now t) k c = -9000000000 ↔ (ver now t).ky c k = -9000000000 := ztd_mi hk1
      have hSk := hS k hlt
      -- the next row
      have next : ∀ g2, zG 400 q (q + 1) h g2 → zBp g2 q (ver now t).nr (k + 1) S → ∃ g, f_ColumnVaultLaw_test_281 n 1 (nI t) (nI c) (nI ((ver now t).kd c)) (nI op) (nI ks.length) p6 q (nI (k + 1)) g2 = some (.inl q, g) ∧ zBa g q (ver now t).nr S ∧ zG (400 * ((ver now t).nr - k)) q (q + 1) h g := by
        intro g2 G2 z2
        have m2 := G2.m
        obtain ⟨g, e3, z3, G3⟩ := ih (k + 1) g2 hlt (by omega) (w.G G2 (Or.inl hq)) z2 (zk.G G2 (by omega)) (by omega)
        exact ⟨g, e3, z3, (G2.t G3).w (by omega) (Nat.le_refl _) (Nat.le_refl _)⟩
      -- a truth value put, no list
      have put : ∀ (g1 : zx_H) (b : Bool), zG 400 0 0 h g1 → b = S k → op ≠ 4 → ∃ g, (zf_b (zf_stB q (nI k) (zb b) g1) fun h8 => f_ColumnVaultLaw_test_450 (f_ColumnVaultLaw_test_281 n) zF 1 (nI t) (nI c) (nI ((ver now t).kd c)) (nI op) (nI ks.length) p6 q (nI k) (zVl (ver now t) k c) (0 : Int32) h8) = some (.inl q, g) ∧ zBa g q (ver now t).nr S ∧ zG (400 * ((ver now t).nr - k)) q (q + 1) h g := by
        intro g1 b G1 hb h4
        have z1 := zp.G G1 (Or.inr (Nat.zero_le _))
        obtain ⟨g2, e2, z2, U2⟩ := z1.st hlt h40 hb
        obtain ⟨g, e3, a1, a2⟩ := next g2 (((zG0 G1).t (zG_U U2 (a := q) (b := q + 1) (Nat.le_refl _) (Nat.le_refl _))).w (by omega) (Nat.le_refl _) (Nat.le_refl _)) z2
        refine ⟨g, ?_, a1, a2⟩
        rw [ze_b e2, zt450n h4 h6, nI_1]
        exact e3
      have put1 : ∀ b : Bool, b = S k → ∃ g, (zf_b (zf_stB q (nI k) (zb b) h) fun h8 => f_ColumnVaultLaw_test_281 n 1 (nI t) (nI c) (nI ((ver now t).kd c)) (nI op) (nI ks.length) p6 q (nI k + (1 : Int32)) h8) = some (.inl q, g) ∧ zBa g q (ver now t).nr S ∧ zG (400 * ((ver now t).nr - k)) q (q + 1) h g := by
        intro b hb
        obtain ⟨g2, e2, z2, U2⟩ := zp.st hlt h40 hb
        obtain ⟨g, e3, a1, a2⟩ := next g2 ((zG_U U2 (a := q) (b := q + 1) (Nat.le_refl _) (Nat.le_refl _)).w (by omega) (Nat.le_refl _) (Nat.le_refl _)) z2
        refine ⟨g, ?_, a1, a2⟩
        rw [ze_b e2, nI_1]
        exact e3
      have o5 : nI op = (5 : Int32) ↔ op = 5 := nI_eq (b := 5) (by omega) (by decide)
      have o0 : nI op = (0 : Int32) ↔ op = 0 := nI_eq (b := 0) (by omega) (by decide)
      have o1 : nI op = (1 : Int32) ↔ op = 1 := nI_eq (b := 1) (by omega) (by decide)
      have o2 : nI op = (2 : Int32) ↔ op = 2 := nI_eq (b := 2) (by omega) (by decide)
      have o3 : nI op = (3 : Int32) ↔ op = 3 := nI_eq (b := 3) (by omega) (by decide)
      rw [if_neg (nI_ge hlt (by omega)), ze_b w.is, ze_b3 (w.get ht hc hlt)]
      by_cases hm : (ver now t).ky c k = -9000000000
      · have es : S k = decide (op = 5) := hSk.trans (zrt_miss wT hc hlt hl hks hm)
        rw [if_pos (hmi.mpr hm)]
        unfold f_ColumnVaultLaw_test_315
        rw [if_neg (fun x => x (hmi.mpr hm))]
        by_cases h5 : op = 5
        · rw [if_neg (fun x => x (o5.mpr h5))]
          exact put1 true (by rw [es, decide_eq_true h5])
        · rw [if_pos (fun x => h5 (o5.mp x))]
          exact put1 false (by rw [es, decide_eq_false h5])
      · rw [if_neg (fun x => hm (hmi.mp x))]
        rcases hl with ⟨h1, h2⟩ | ⟨h1, h2⟩ | ⟨h1, h2, h3⟩ | ⟨h1, h2⟩
        · obtain ⟨k0, rfl⟩ := zl1 h2
          obtain ⟨ok0, ne0⟩ := hks k0 (List.mem_singleton.mpr rfl)
          have kg := zokK_ge ok0 ne0
          have l0 := zk.ld (i := 0) (by show (0 : Nat) < 1; decide) (by show (0 : Nat) < 1; decide) (by show (1 : Nat) ≤ 10; decide)
          rw [nI_0] at l0
          obtain ⟨g1, eth, G1⟩ := zthan (h := h) hk1 ok0 hm ne0 (by omega)
          have eth : f_ColumnVaultLaw_than (nI ((ver now t).kd c)) (zVl (ver now t) k c) (ztd ((ver now t).kd c) ([k0].getD 0 0)) h = some (zcm ((ver now t).ky c k) k0, g1) := eth
          have G1' : zG 400 0 0 h g1 := G1.w (by omega) (Nat.le_refl _) (Nat.le_refl _)
          rw [if_pos (fun x => by have := o5.mp x; omega), ze_b l0, ze_b2 eth]
          have : op = 0 ∨ op = 1 ∨ op = 2 := by omega
          rcases this with rfl | rfl | rfl
          · have es : S k = decide ((ver now t).ky c k ≠ -9000000000 ∧ (ver now t).ky c k < k0) := hSk.trans (zrt_lt wT hc hlt kg)
            rw [if_neg (fun x => x rfl)]
            by_cases hx : (ver now t).ky c k < k0
            · rw [if_neg (fun x => by rw [zcm_ge, zl_e] at x; rw [zl_t] at hx; omega)]
              exact put g1 true G1' (by rw [es, decide_eq_true ⟨hm, hx⟩]) (by decide)
            · rw [if_pos ((zcm_ge _ _).mpr (by rw [zl_e]; rw [zl_t] at hx; omega))]
              exact put g1 false G1' (by rw [es, decide_eq_false (fun x => hx x.2)]) (by decide)
          · have es : S k = decide ((ver now t).ky c k ≠ -9000000000 ∧ k0 < (ver now t).ky c k) := hSk.trans (zrt_gt wT hc hlt kg)
            rw [if_pos (by decide), if_neg (fun x => x rfl)]
            by_cases hx : k0 < (ver now t).ky c k
            · rw [if_neg (fun x => by rw [zcm_le, zl_e] at x; rw [zl_t] at hx; omega)]
              exact put g1 true G1' (by rw [es, decide_eq_true ⟨hm, hx⟩]) (by decide)
            · rw [if_pos ((zcm_le _ _).mpr (by rw [zl_e]; rw [zl_t] at hx; omega))]
              exact put g1 false G1' (by rw [es, decide_eq_false (fun x => hx x.2)]) (by decide)
          · have es : S k = decide ((ver now t).ky c k = k0) := hSk.trans zrt_eq
            have hz : zcm ((ver now t).ky c k) k0 = 0 ↔ (ver now t).ky c k = k0 := by
              unfold zcm
              constructor
              · intro x
                by_cases y : (ver now t).ky c k < k0
                · rw [if_pos y] at x; exact absurd x (by decide)
                · rw [if_neg y] at x
                  by_cases z : (ver now t).ky c k = k0
                  · exact z
                  · rw [if_neg z] at x; exact absurd x (by decide)
              · intro x
                rw [if_neg (by rw [x, zl_t]; omega), if_pos x]
            rw [if_pos (by decide), if_pos (by decide), if_neg (fun x => x rfl)]
            by_cases hx : (ver now t).ky c k = k0
            · rw [if_neg (fun x => x (hz.mpr hx))]
              exact put g1 true G1' (by rw [es, decide_eq_true hx]) (by decide)
            · rw [if_pos (fun x => hx (hz.mp x))]
              exact put g1 false G1' (by rw [es, decide_eq_false hx]) (by decide)
        · obtain ⟨k0, k1, rfl⟩ := zl2 h2
          subst h1
          obtain ⟨ok0, ne0⟩ := hks k0 (List.mem_cons_self ..)
          obtain ⟨ok1, ne1⟩ := hks k1 (List.mem_cons_of_mem _ (List.mem_singleton.mpr rfl))
          have l0 := zk.ld (i := 0) (by show (0 : Nat) < 2; decide) (by show (0 : Nat) < 2; decide) (by show (2 : Nat) ≤ 10; decide)
          rw [nI_0] at l0
          obtain ⟨g1, eth, G1⟩ := zthan (h := h) hk1 ok0 hm ne0 (by omega)
          have m1 := G1.m
          have eth : f_ColumnVaultLaw_than (nI ((ver now t).kd c)) (zVl (ver now t) k c) (ztd ((ver now t).kd c) ([k0, k1].getD 0 0)) h = some (zcm ((ver now t).ky c k) k0, g1) := eth
          have G1' : zG 400 0 0 h g1 := G1.w (by omega) (Nat.le_refl _) (Nat.le_refl _)
          have l1 := (zk.G G1 (Or.inr (Nat.zero_le _))).ld (i := 1) (by show (1 : Nat) < 2; decide) (by show (1 : Nat) < 2; decide) (by show (2 : Nat) ≤ 10; decide)
          have l1 : zf_ldJ p6 (1 : Int32) g1 = _ := l1
          obtain ⟨g2, eth2, G2⟩ := zthan (h := g1) hk1 ok1 hm ne1 (by omega)
          have eth2 : f_ColumnVaultLaw_than (nI ((ver now t).kd c)) (zVl (ver now t) k c) (ztd ((ver now t).kd c) ([k0, k1].getD 1 0)) g1 = some (zcm ((ver now t).ky c k) k1, g2) := eth2
          have G2' : zG 400 0 0 h g2 := (G1.t G2).w (by omega) (Nat.le_refl _) (Nat.le_refl _)
          have es : S k = decide (k0 ≤ (ver now t).ky c k ∧ (ver now t).ky c k ≤ k1) := hSk.trans zrt_to
          rw [if_pos (by decide), ze_b l0, ze_b2 eth, if_pos (by decide), if_pos (by decide), if_pos (by decide), if_neg (fun x => x rfl)]
          by_cases hx : (ver now t).ky c k < k0
          · rw [if_pos ((zcm_lt _ _).mpr hx)]
            exact put g1 false G1' (by rw [es, decide_eq_false (fun x => by have := x.1; rw [zl_e] at this; rw [zl_t] at hx; omega)]) (by decide)
          · rw [if_neg (fun x => hx ((zcm_lt _ _).mp x)), ze_b l1, ze_b2 eth2]
            by_cases hy : k1 < (ver now t).ky c k
            · rw [if_pos ((zcm_gt _ _).mpr hy)]
              exact put g2 false G2' (by rw [es, decide_eq_false (fun x => by have := x.2; rw [zl_e] at this; rw [zl_t] at hy; omega)]) (by decide)
            · rw [if_neg (fun x => hy ((zcm_gt _ _).mp x))]
              refine put g2 true G2' ?_ (by decide)
              rw [es]
              exact (decide_eq_true ⟨by rw [zl_e]; rw [zl_t] at hx; omega, by rw [zl_e]; rw [zl_t] at hy; omega⟩).symm
        · subst h1
          have l0 := zk.ld (i := 0) (by omega) (by omega) (by omega)
          rw [nI_0] at l0
          obtain ⟨ok0, ne0⟩ := zoks_g hks (show 0 < ks.length by omega)
          obtain ⟨g1, eth, G1⟩ := zthan (h := h) hk1 ok0 hm ne0 (by omega)
          have eth : f_ColumnVaultLaw_than (nI ((ver now t).kd c)) (zVl (ver now t) k c) (ztd ((ver now t).kd c) (ks.getD 0 0)) h = _ := eth
          have z1 := zp.G G1 (Or.inr (Nat.zero_le _))
          obtain ⟨f, ef, hf⟩ := z1
          have st := zh_stBo (b := false) ef hlt (by omega)
          have U2 : zU q 1 g1 (g1.set q (.inl (5, (ver now t).nr, .inl (upd f k (zb false))))) := zU_s ef rfl (by omega)
          have G2 := zG_U U2 (a := q) (b := q + 1) (Nat.le_refl _) (Nat.le_refl _)
          have zp2 : zBp (g1.set q (.inl (5, (ver now t).nr, .inl (upd f k (zb false))))) q (ver now t).nr k S := ⟨_, zh_set_s ef, fun j hj => by rw [pk_un (by omega)]; exact hf j hj⟩
          obtain ⟨g3, e3, z3, U3⟩ := zt450 (K := f_ColumnVaultLaw_test_281 n) (p1 := nI t) (T := ver now t) (S := S) wT hc hlt hks hl6 (hSk.trans zrt_in) hne zF 0 _ (Nat.zero_le _) (by unfold zF; omega) ((zk.G G1 (Or.inr (Nat.zero_le _))).G G2 (by omega)) zp2 ⟨_, zh_set_s ef, by rw [pk_us]; rfl⟩
          rw [nI_0] at e3
          have G3 := zG_U U3 (a := q) (b := q + 1) (Nat.le_refl _) (Nat.le_refl _)
          obtain ⟨g, e4, a1, a2⟩ := next g3 ((((zG0 G1).t G2).t G3).w (by omega) (Nat.le_refl _) (Nat.le_refl _)) z3
          refine ⟨g, ?_, a1, a2⟩
          have st : zf_stB q (nI k) (0 : Int32) g1 = _ := st
          rw [if_pos (by decide), ze_b l0, ze_b2 eth, if_pos (by decide), if_pos (by decide), if_pos (by decide), if_pos (by decide), ze_b st]
          exact e3.trans e4
        · have es : S k = false := by
            rw [hSk, h1]
            obtain rfl := List.length_eq_zero_iff.mp h2
            rw [show zaop 5 = 109 from rfl, zrt_mi]
            exact decide_eq_false hm
          rw [if_neg (fun x => x (o5.mpr h1))]
          unfold f_ColumnVaultLaw_test_315
          rw [if_pos (fun x => hm (hmi.mp x))]
          exact put1 false es.symm
    · rw [if_pos (nI_le hge (by omega))]
      have e : k = (ver now t).nr := Nat.le_antisymm hk hge
      rw [e] at zp
      exact ⟨h, rfl, zp, zG.refl.w (by omega) (Nat.le_refl _) (Nat.le_refl _)⟩
end ZTS

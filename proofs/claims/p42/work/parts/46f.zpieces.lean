/-! ===== pieces and filters: truth values ===== -/
section ZPC
variable {h g : zx_H} {N b0 b1 b2 q7 : Nat} {A B C : Nat → Bool}
theorem zBa_c {p n : Nat} {S S' : Nat → Bool} (z : zBa h p n S) (e : ∀ r, r < n → S r = S' r) : zBa h p n S' := by
  obtain ⟨f, e1, hf⟩ := z
  exact ⟨f, e1, fun i hi => by rw [hf i hi, e i hi]⟩
theorem znewZ {n : Nat} (hn : n ≤ 40) (hB : zM h ≤ 7000000) : ∃ g, zf_newa .boolean 5 (nI n) h = some (h.length, g) ∧ zBa g h.length n (fun _ => false) ∧ zG 52 0 0 h g ∧ g.length = h.length + 1 := by
  refine ⟨_, zh_newZ (h := h) (n := n) (by omega) (zlim (by omega)), ⟨_, zG_end, fun i _ => rfl⟩, (zG_app (c := .inl (5, n, .inl fun _ => 0))).w (by show 12 + n ≤ 52; omega) (Nat.le_refl _) (Nat.le_refl _), List.length_append⟩
theorem zBa.st {n i : Nat} (z : zBa h b0 n A) (hi : i < n) (hn : n ≤ 40) (b : Bool) : ∃ g, zf_stB b0 (nI i) (zb b) h = some g ∧ zBa g b0 n (fun j => if j = i then b else A j) ∧ zU b0 1 h g := by
  obtain ⟨f, e, hf⟩ := z
  refine ⟨_, zh_stBo e hi (by omega), ⟨_, zh_set_s e, fun j hj => ?_⟩, zU_s e rfl (by omega)⟩
  show upd f i (zb b) j = zb (if j = i then b else A j)
  by_cases c : j = i
  · rw [if_pos c, c, pk_us]
  · rw [if_neg c, pk_un c]; exact hf j hj
theorem zBa.U {p n : Nat} {x y : Nat} (z : zBa h p n A) (u : zU x y h g) (hd : p < x ∨ x + y ≤ p) : zBa g p n A := by
  obtain ⟨f, e, hf⟩ := z
  exact ⟨f, (u.2.2 p hd).trans e, hf⟩
theorem zb_or (x y : Bool) : zb x ||| zb y = zb (x || y) := by cases x <;> cases y <;> decide
abbrev zKp1 : Type := Nat → Nat → Int32 → Nat → Int32 → Nat → zx_H → Option ((Nat ⊕ Nat) × zx_H)
abbrev zK24 : Type := Nat → Nat → Int32 → Nat → Int32 → Nat → Nat → Int32 → Int32 → zx_H → Option ((Nat ⊕ Nat) × zx_H)
theorem z171 {M : zKp1} {K : zK24} {p0 p1 p3 p5 : Nat} {p2 p4 p7 p8 : Int32} (hN : N ≤ 40) (hne : b0 ≠ b1) (l0 : b0 ≤ 600000) : ∀ n i h, i ≤ N → N - i < n → zBa h b0 N (fun j => if j < i then A j || B j else A j) → zBa h b1 N B → ∃ g, f_ColumnVaultLaw_filter_171 M K n p0 p1 p2 p3 p4 p5 b0 p7 p8 b1 (nI i) h = K p0 p1 p2 p3 p4 p5 b0 p7 (p8 + (1 : Int32)) g ∧ zBa g b0 N (fun j => A j || B j) ∧ zU b0 1 h g := by
  intro n
  induction n with
  | zero => intro i _ _ hn; exact absurd hn (Nat.not_lt_zero _)
  | succ n ih =>
    intro i h hi hn z0 z1
    unfold f_ColumnVaultLaw_filter_171
    rw [ze_b (z0.len l0)]
    rcases Nat.lt_or_ge i N with hlt | hge
    · have e0 := z0.ld hlt (by omega)
      rw [if_neg (Nat.lt_irrefl i)] at e0
      obtain ⟨g1, e2, z2, U2⟩ := z0.st hlt hN (A i || B i)
      obtain ⟨g, e3, z3, U3⟩ := ih (i + 1) g1 hlt (by omega) (zBa_c z2 fun j hj => by
        by_cases c : j = i
        · rw [if_pos c, if_pos (by omega), c]
        · rw [if_neg c]
          by_cases d : j < i
          · rw [if_pos d, if_pos (by omega)]
          · rw [if_neg d, if_neg (by omega)]) (z1.U U2 (by omega))
      refine ⟨g, ?_, z3, zU_t U2 U3⟩
      rw [if_neg (nI_ge hlt (by omega)), ze_b e0, ze_b (z1.ld hlt (by omega)), zb_or, ze_b e2, nI_1]
      exact e3
    · rw [if_pos (nI_le hge (by omega))]
      exact ⟨h, rfl, zBa_c z0 fun j hj => if_pos (by omega), zU_r⟩
theorem z124 {M : zKp1} {K : zK24} {p0 p1 p3 p5 : Nat} {p2 p4 p7 p8 : Int32} (hN : N ≤ 40) (n0 : q7 ≠ b0) (n1 : q7 ≠ b1) (n2 : q7 ≠ b2) (l0 : b0 ≤ 600000) : ∀ n i h, i ≤ N → N - i < n → zBa h b0 N A → zBa h b1 N B → zBa h b2 N C → zBp h q7 N i (fun j => B j && C j) → ∃ g, f_ColumnVaultLaw_filter_124 M K n p0 p1 p2 p3 p4 p5 b0 p7 p8 b1 b2 q7 (nI i) h = f_ColumnVaultLaw_filter_171 M K zF p0 p1 p2 p3 p4 p5 b0 p7 p8 q7 (0 : Int32) g ∧ zBa g q7 N (fun j => B j && C j) ∧ zU q7 1 h g := by
  intro n
  induction n with
  | zero => intro i _ _ hn; exact absurd hn (Nat.not_lt_zero _)
  | succ n ih =>
    intro i h hi hn z0 z1 z2 zp
    unfold f_ColumnVaultLaw_filter_124
    rw [ze_b (z0.len l0)]
    rcases Nat.lt_or_ge i N with hlt | hge
    · have put : ∀ b : Bool, b = (B i && C i) → ∃ g, (zf_b (zf_stB q7 (nI i) (zb b) h) fun h3 => (f_ColumnVaultLaw_filter_124 M K n) p0 p1 p2 p3 p4 p5 b0 p7 p8 b1 b2 q7 (nI i + (1 : Int32)) h3) = f_ColumnVaultLaw_filter_171 M K zF p0 p1 p2 p3 p4 p5 b0 p7 p8 q7 (0 : Int32) g ∧ zBa g q7 N (fun j => B j && C j) ∧ zU q7 1 h g := by
        intro b hb
        obtain ⟨g1, e2, zq, U2⟩ := zp.st hlt hN hb
        obtain ⟨g, e3, z3, U3⟩ := ih (i + 1) g1 hlt (by omega) (z0.U U2 (by omega)) (z1.U U2 (by omega)) (z2.U U2 (by omega)) zq
        refine ⟨g, ?_, z3, zU_t U2 U3⟩
        rw [ze_b e2, nI_1]
        exact e3
      rw [if_neg (nI_ge hlt (by omega)), ze_b (z1.ld hlt (by omega))]
      by_cases c1 : B i = true
      · rw [if_neg (zb1 c1), ze_b (z2.ld hlt (by omega))]
        by_cases c2 : C i = true
        · rw [if_neg (zb1 c2)]
          exact put true (by rw [c1, c2]; rfl)
        · rw [if_pos (zbt0 c2)]
          exact put false (by rw [ts_nt c2, Bool.and_false])
      · rw [if_pos (zbt0 c1)]
        exact put false (by rw [ts_nt c1, Bool.false_and])
    · rw [if_pos (nI_le hge (by omega))]
      rw [show i = N by omega] at zp
      exact ⟨h, rfl, zp, zU_r⟩
theorem z64 {M : zKp1} (hN : N ≤ 40) (n1 : q7 ≠ b1) (l1 : b1 ≤ 600000) : ∀ n i h, i ≤ N → N - i < n → zBa h b1 N B → zBp h q7 N i (fun j => !B j) → ∃ g, f_ColumnVaultLaw_piece_64 M n b1 q7 (nI i) h = some (.inl q7, g) ∧ zBa g q7 N (fun j => !B j) ∧ zU q7 1 h g := by
  intro n
  induction n with
  | zero => intro i _ _ hn; exact absurd hn (Nat.not_lt_zero _)
  | succ n ih =>
    intro i h hi hn z1 zp
    unfold f_ColumnVaultLaw_piece_64
    rw [ze_b (z1.len l1)]
    rcases Nat.lt_or_ge i N with hlt | hge
    · have put : ∀ b : Bool, b = (!B i) → ∃ g, (zf_b (zf_stB q7 (nI i) (zb b) h) fun h3 => (f_ColumnVaultLaw_piece_64 M n) b1 q7 (nI i + (1 : Int32)) h3) = some (.inl q7, g) ∧ zBa g q7 N (fun j => !B j) ∧ zU q7 1 h g := by
        intro b hb
        obtain ⟨g1, e2, zq, U2⟩ := zp.st hlt hN hb
        obtain ⟨g, e3, z3, U3⟩ := ih (i + 1) g1 hlt (by omega) (z1.U U2 (by omega)) zq
        refine ⟨g, ?_, z3, zU_t U2 U3⟩
        rw [ze_b e2, nI_1]
        exact e3
      rw [if_neg (nI_ge hlt (by omega)), ze_b (z1.ld hlt (by omega))]
      by_cases c1 : B i = true
      · rw [if_pos (zb1 c1)]
        exact put false (by rw [c1]; rfl)
      · rw [if_neg (fun x => x (zbt0 c1))]
        exact put true (by rw [ts_nt c1]; rfl)
    · rw [if_pos (nI_le hge (by omega))]
      rw [show i = N by omega] at zp
      exact ⟨h, rfl, zp, zU_r⟩
theorem zBa.p0 {n : Nat} (z : zBa h q7 n A) (S : Nat → Bool) : zBp h q7 n 0 S := by
  obtain ⟨f, e, _⟩ := z
  exact ⟨f, e, fun j hj => absurd hj (Nat.not_lt_zero _)⟩
end ZPC

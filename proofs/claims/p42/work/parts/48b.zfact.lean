section ZST
variable {s : State} {args : Array Value}
def zz_SF (A : Nat → Prop) (s : State) (own : String) (k : Nat) (tx : String) (n : Nat) (byt : List Int32) (q v : Nat) : Prop := vk_R own k tx q s ∧ va_O "java/lang/String" q A s s.heap ∧ va_OF "java/lang/String" "coder" "B" (.int 0) q A s s.heap ∧ va_OF "java/lang/String" "value" "[B" (.ref v) q A s s.heap ∧ va_T .byte v n (fun j => .int (byt.getD j 0)) A s s.heap
theorem zz_str {A : Nat → Prop} {own tx : String} {k n : Nat} {byt : List Int32} (hn : n < 2 ^ 31) (hw : (Cond.stringRef own k tx).before args s = true) (hex : (Cond.exactly (.string own k) "java/lang/String").before args s = true) (hco : (Cond.eq (.field (.string own k) "java/lang/String" "coder" "B") (.int 0)).before args s = true)
    (har : (Cond.arrayOf (.field (.string own k) "java/lang/String" "value" "[B") .byte).before args s = true) (hle : (Cond.eq (.length (.field (.string own k) "java/lang/String" "value" "[B")) (.int (Int32.ofNat n))).before args s = true)
    (hel : ∀ j : Nat, j < n → (Cond.eq (.elem (.field (.string own k) "java/lang/String" "value" "[B") (.int (Int32.ofNat j))) (.int (byt.getD j 0))).before args s = true) (hA : ∀ a : Nat, a < s.heap.size → ¬ A a) : ∃ q v, zz_SF A s own k tx n byt q v := by
  obtain ⟨a, c, cA, kA, q1, -⟩ := Cond.exactly_spec (args := args) (first := s) (o := none) (s := s) (idx := []) hex
  obtain ⟨t, ht, hT⟩ := va_Tof (f := fun j => .int (byt.getD j 0)) (A := A) hn har (va_eqt hle) (fun j hj => va_eqt (hel j hj)) hA
  exact ⟨a, t, vk_R.of hw q1, va_Oof hex q1 hA, vk_OFof q1 (va_eqt hco) hA, vk_OFof q1 ht hA, hT⟩
/-- the cells that stood before, by place -/
def zz_e (tf t8 t9 : Nat) (q v : Nat → Nat) (j : Nat) : Nat := if j = 5 then tf else if j = 800 then t8 else if j = 801 then t9 else if j % 2 = 0 then q ((j - 600) / 2) else v ((j - 600) / 2)
def zz_a (B b : Nat) (e : Nat → Nat) (k : Nat) : Nat := if k < zx_lim then B + k else if k = zx_lim then b else e (k - zx_lim - 1)
theorem zz_a1 {B b : Nat} {e : Nat → Nat} (k : Nat) (h : k < zx_lim) : zz_a B b e k = B + k := if_pos h
theorem zz_a2 {B b : Nat} {e : Nat → Nat} : zz_a B b e zx_lim = b := by unfold zz_a; rw [if_neg (Nat.lt_irrefl _), if_pos rfl]
theorem zz_a3 {B b : Nat} {e : Nat → Nat} (j : Nat) : zz_a B b e (zx_lim + 1 + j) = e j := by
  unfold zz_a
  rw [if_neg (by omega), if_neg (by omega), show zx_lim + 1 + j - zx_lim - 1 = j by omega]
theorem zz_xS {B : Nat} {a : Nat → Nat} {H : Heap} {k j q v : Nat} (hq : a k = q) (hv : a (zx_lim + 1 + j) = v) (hO : va_O "java/lang/String" q (fun x => B ≤ x) s H) (hC : va_OF "java/lang/String" "coder" "B" (.int 0) q (fun x => B ≤ x) s H) (hV : va_OF "java/lang/String" "value" "[B" (.ref v) q (fun x => B ≤ x) s H) : zx_xe B a s H k (.object "java/lang/String", .inr (0, [.ref (zx_lim + 1 + j), .int 0, .retAddr 0, .retAddr 0])) := by
  subst hq
  refine ⟨hO, Or.inr ⟨_, rfl, rfl, ?_⟩⟩
  intro i x hi hx
  match i, hi with
  | 0, hi =>
    cases hi
    refine ⟨by decide, ?_⟩
    show va_OF "java/lang/String" "value" "[B" (.ref (a (zx_lim + 1 + j))) (a k) _ s H
    rw [hv]; exact hV
  | 1, hi => cases hi; exact ⟨by decide, hC⟩
  | 2, hi => cases hi; exact absurd rfl (hx 0)
  | 3, hi => cases hi; exact absurd rfl (hx 0)
  | i + 4, hi => cases hi
end ZST
theorem zz_lt {B q : Nat} (h : ¬ (fun x => B ≤ x) q) : q < B := Nat.not_le.mp h
theorem zz_ltO {E : String} {B q : Nat} {s : State} {H : Heap} (h : va_O E q (fun x => B ≤ x) s H) : q < B := Nat.not_le.mp h.choose_spec.2.2.2

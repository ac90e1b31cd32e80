/-! ===== events: what a method's function asks of the heap, and the evaluator's row for each ===== -/
def zF : Nat := 5000
def zf_b {α β : Type} (x : Option α) (f : α → Option β) : Option β := x.bind f
def zf_b2 {α β : Type} (x : Option (α × zx_H)) (f : α → zx_H → Option β) : Option β := x.bind fun r => f r.1 r.2
def zf_b3 {α β : Type} (x : Option ((α ⊕ Nat) × zx_H)) (f : α → zx_H → Option ((β ⊕ Nat) × zx_H)) : Option ((β ⊕ Nat) × zx_H) := x.bind fun r => match r.1 with
  | .inl v => f v r.2
  | .inr E => some (.inr E, r.2)
def zf_b4 {α β : Type} (x : Option ((α ⊕ Nat) × zx_H)) (f : α → zx_H → Option β) (g : Nat → zx_H → Option β) : Option β := x.bind fun r => match r.1 with
  | .inl v => f v r.2
  | .inr E => g E r.2
def zf_on {β : Type} (e : Option Nat) (A : Option β) (f : Nat → Option β) : Option β := match e with
  | none => A
  | some q => f q
theorem zf_be {α β : Type} {x : Option α} {f : α → Option β} {r : β} (h : zf_b x f = some r) : ∃ a, x = some a ∧ f a = some r := Option.bind_eq_some_iff.mp h
theorem zf_b2e {α β : Type} {x : Option (α × zx_H)} {f : α → zx_H → Option β} {r : β} (h : zf_b2 x f = some r) : ∃ a g, x = some (a, g) ∧ f a g = some r := by
  obtain ⟨⟨a, g⟩, h1, h2⟩ := Option.bind_eq_some_iff.mp h
  exact ⟨a, g, h1, h2⟩
theorem zf_b3e {α β : Type} {x : Option ((α ⊕ Nat) × zx_H)} {f : α → zx_H → Option ((β ⊕ Nat) × zx_H)} {r : (β ⊕ Nat) × zx_H} (h : zf_b3 x f = some r) : (∃ a g, x = some (.inl a, g) ∧ f a g = some r) ∨ ∃ E g, x = some (.inr E, g) ∧ some (.inr E, g) = some r := by
  obtain ⟨⟨a | E, g⟩, h1, h2⟩ := Option.bind_eq_some_iff.mp h
  · exact Or.inl ⟨a, g, h1, h2⟩
  · exact Or.inr ⟨E, g, h1, h2⟩
theorem zf_b4e {α β : Type} {x : Option ((α ⊕ Nat) × zx_H)} {f : α → zx_H → Option β} {k : Nat → zx_H → Option β} {r : β} (h : zf_b4 x f k = some r) : (∃ a g, x = some (.inl a, g) ∧ f a g = some r) ∨ ∃ E g, x = some (.inr E, g) ∧ k E g = some r := by
  obtain ⟨⟨a | E, g⟩, h1, h2⟩ := Option.bind_eq_some_iff.mp h
  · exact Or.inl ⟨a, g, h1, h2⟩
  · exact Or.inr ⟨E, g, h1, h2⟩
theorem zf_elim {β : Type} {e : Option Nat} {A : Option β} {f : Nat → Option β} {r : β} (h : zf_on e A f = some r) : (e = none ∧ A = some r) ∨ ∃ q, e = some q ∧ f q = some r := by
  cases e with
  | none => exact Or.inl ⟨rfl, h⟩
  | some q => exact Or.inr ⟨q, rfl, h⟩
theorem zf_ite {β : Type} {c : Prop} [Decidable c] {A B : Option β} {r : β} (h : (if c then A else B) = some r) : (c ∧ A = some r) ∨ (¬ c ∧ B = some r) := by
  by_cases hc : c
  · rw [if_pos hc] at h; exact Or.inl ⟨hc, h⟩
  · rw [if_neg hc] at h; exact Or.inr ⟨hc, h⟩
/-! reading and writing -/
def zf_get (ci k q : Nat) (h : zx_H) : Option Value := match h[q]? with
  | some (.inr (cj, fs)) => if cj = ci then fs[k]? else none
  | _ => none
def zf_asI : Option Value → Option Int32
  | some (.int v) => some v
  | _ => none
def zf_asJ : Option Value → Option Int64
  | some (.long v) => some v
  | _ => none
def zf_asF : Option Value → Option UInt32
  | some (.float v) => some v
  | _ => none
def zf_asD : Option Value → Option UInt64
  | some (.double v) => some v
  | _ => none
def zf_asA : Option Value → Option Nat
  | some (.ref v) => some v
  | _ => none
def zf_asN : Option Value → Option (Option Nat)
  | some (.ref v) => some (some v)
  | some .null => some none
  | _ => none
theorem zf_asIe {x : Option Value} {v : Int32} (h : zf_asI x = some v) : x = some (.int v) := by
  unfold zf_asI at h; split at h
  · cases h; rfl
  · cases h
theorem zf_asJe {x : Option Value} {v : Int64} (h : zf_asJ x = some v) : x = some (.long v) := by
  unfold zf_asJ at h; split at h
  · cases h; rfl
  · cases h
theorem zf_asFe {x : Option Value} {v : UInt32} (h : zf_asF x = some v) : x = some (.float v) := by
  unfold zf_asF at h; split at h
  · cases h; rfl
  · cases h
theorem zf_asDe {x : Option Value} {v : UInt64} (h : zf_asD x = some v) : x = some (.double v) := by
  unfold zf_asD at h; split at h
  · cases h; rfl
  · cases h
theorem zf_asAe {x : Option Value} {v : Nat} (h : zf_asA x = some v) : x = some (.ref v) := by
  unfold zf_asA at h; split at h
  · cases h; rfl
  · cases h
theorem zf_asNe {x : Option Value} {v : Option Nat} (h : zf_asN x = some v) : x = some (zx_rf v) := by
  unfold zf_asN at h; split at h
  · cases h; rfl
  · cases h; rfl
  · cases h
def zf_I (ci k q : Nat) (h : zx_H) : Option Int32 := zf_asI (zf_get ci k q h)
def zf_J (ci k q : Nat) (h : zx_H) : Option Int64 := zf_asJ (zf_get ci k q h)
def zf_A (ci k q : Nat) (h : zx_H) : Option Nat := zf_asA (zf_get ci k q h)
def zf_N (ci k q : Nat) (h : zx_H) : Option (Option Nat) := zf_asN (zf_get ci k q h)
theorem zf_Ie {ci k q : Nat} {h : zx_H} {v : Int32} (e : zf_I ci k q h = some v) : zf_get ci k q h = some (.int v) := zf_asIe e
theorem zf_Je {ci k q : Nat} {h : zx_H} {v : Int64} (e : zf_J ci k q h = some v) : zf_get ci k q h = some (.long v) := zf_asJe e
theorem zf_Ae {ci k q : Nat} {h : zx_H} {v : Nat} (e : zf_A ci k q h = some v) : zf_get ci k q h = some (.ref v) := zf_asAe e
theorem zf_Ne {ci k q : Nat} {h : zx_H} {v : Option Nat} (e : zf_N ci k q h = some v) : zf_get ci k q h = some (zx_rf v) := zf_asNe e
/-- of a text, that may have stood before -/
def zfx_get (ci k q : Nat) (h : zx_H) : Option Value := match h[q]? with
  | some (.inr (cj, fs)) => if cj = ci then fs[k]? else none
  | some (.inl _) => none
  | none => match zx_x q with
    | some (.object _, .inr (cj, fs)) => if cj = ci then (match fs[k]? with
      | some (.retAddr _) => none
      | r => r) else none
    | _ => none
def zfx_I (ci k q : Nat) (h : zx_H) : Option Int32 := zf_asI (zfx_get ci k q h)
def zfx_A (ci k q : Nat) (h : zx_H) : Option Nat := zf_asA (zfx_get ci k q h)
theorem zfx_Ie {ci k q : Nat} {h : zx_H} {v : Int32} (e : zfx_I ci k q h = some v) : zfx_get ci k q h = some (.int v) := zf_asIe e
theorem zfx_Ae {ci k q : Nat} {h : zx_H} {v : Nat} (e : zfx_A ci k q h = some v) : zfx_get ci k q h = some (.ref v) := zf_asAe e
def zf_put (ci k q : Nat) (v : Value) (h : zx_H) : Option zx_H := match h[q]? with
  | some (.inr (cj, fs)) => if cj = ci ∧ k < fs.length then some (h.set q (.inr (ci, fs.set k v))) else none
  | _ => none
def zf_is (ci q : Nat) (h : zx_H) : Option Unit := match zx_kl h q with
  | some cj => if cj = ci then some () else none
  | none => none
theorem zf_ise {ci q : Nat} {h : zx_H} {u : Unit} (e : zf_is ci q h = some u) : zx_kl h q = some ci := by
  unfold zf_is at e
  split at e
  · next cj hq =>
    split at e
    · next hc => rw [hq, hc]
    · cases e
  · cases e
def zf_new (ci : Nat) (h : zx_H) : Option (Nat × zx_H) := if h.length < zx_lim then some (h.length, h ++ [.inr (ci, zx_def ci)]) else none
def zf_newa (ty : FieldType) (t : Nat) (n : Int32) (h : zx_H) : Option (Nat × zx_H) := match zx_arr ty n.toNatClampNeg with
  | some a0 => if ¬ n < 0 ∧ n.toNatClampNeg * componentBytes ty ≤ 536870912 ∧ h.length < zx_lim then some (h.length, h ++ [.inl (t, a0)]) else none
  | none => none
def zf_newr (t : Nat) (n : Int32) (h : zx_H) : Option (Nat × zx_H) := if ¬ n < 0 ∧ n.toNatClampNeg * 4 ≤ 536870912 ∧ h.length < zx_lim then some (h.length, h ++ [.inl (t, n.toNatClampNeg, .inr (.inr (.inr (.inr (fun _ => none)))))]) else none
def zf_len (q : Nat) (h : zx_H) : Option Int32 := if q = zx_lim then none else match h[q]? with
  | some (.inl (t, n, _)) => if (zt_at[t]?).isSome then some (Int32.ofNat n) else none
  | some (.inr _) => none
  | none => match zx_x q with
    | some (_, .inl (_, n, _)) => some (Int32.ofNat n)
    | _ => none
def zf_sld (sc : (Nat × (Nat → Int32)) × Bool) (i : Int32) : Option Int32 := if zx_in i sc.1.1 then some (sc.1.2 i.toNatClampNeg) else none
def zf_ldI (q : Nat) (i : Int32) (h : zx_H) : Option Int32 := if q = zx_lim then none else match h[q]? with
  | some (.inl (t, n, .inl f)) => if zt_at[t]? = some .int ∧ zx_in i n then some (f i.toNatClampNeg) else none
  | _ => none
def zf_ldJ (q : Nat) (i : Int32) (h : zx_H) : Option Int64 := match h[q]? with
  | some (.inl (t, n, .inr (.inl f))) => if zt_at[t]? = some .long ∧ zx_in i n then some (f i.toNatClampNeg) else none
  | _ => none
def zf_ldB (q : Nat) (i : Int32) (h : zx_H) : Option Int32 := match h[q]? with
  | some (.inl (t, n, .inl f)) => if (zt_at[t]? = some .boolean ∨ zt_at[t]? = some .byte) ∧ zx_in i n then some (f i.toNatClampNeg) else none
  | some _ => none
  | none => match zx_x q with
    | some (.byte, .inl (_, n, .inl f)) => if zx_in i n then some (f i.toNatClampNeg) else none
    | _ => none
def zf_ldA (q : Nat) (i : Int32) (h : zx_H) : Option Nat := match h[q]? with
  | some (.inl (t, n, .inr (.inr (.inr (.inr f))))) => match zt_at[t]? with
    | some (.object _) => if zx_in i n then f i.toNatClampNeg else none
    | some (.array _) => if zx_in i n then f i.toNatClampNeg else none
    | _ => none
  | _ => none
def zf_stI (q : Nat) (i x : Int32) (h : zx_H) : Option zx_H := match h[q]? with
  | some (.inl (t, n, .inl f)) => if zt_at[t]? = some .int ∧ zx_in i n then some (h.set q (.inl (t, n, .inl (upd f i.toNatClampNeg x)))) else none
  | _ => none
def zf_stJ (q : Nat) (i : Int32) (x : Int64) (h : zx_H) : Option zx_H := match h[q]? with
  | some (.inl (t, n, .inr (.inl f))) => if zt_at[t]? = some .long ∧ zx_in i n then some (h.set q (.inl (t, n, .inr (.inl (vp_updL f i.toNatClampNeg x))))) else none
  | _ => none
def zf_stB (q : Nat) (i x : Int32) (h : zx_H) : Option zx_H := match h[q]? with
  | some (.inl (t, n, .inl f)) => if zt_at[t]? = some .boolean ∧ zx_in i n then some (h.set q (.inl (t, n, .inl (upd f i.toNatClampNeg (vp_nar .boolean x))))) else
      if zt_at[t]? = some .byte ∧ zx_in i n then some (h.set q (.inl (t, n, .inl (upd f i.toNatClampNeg (vp_nar .byte x))))) else none
  | _ => none
def zf_stA (q : Nat) (i : Int32) (k : Nat) (h : zx_H) : Option zx_H := match h[q]? with
  | some (.inl (t, n, .inr (.inr (.inr (.inr f))))) => match zt_at[t]?, zt_atc[t]?, h[k]? with
    | some (.object _), some cj, some (.inr (ci, _)) => if ci = cj ∧ cj ≠ 999 ∧ zx_in i n then some (h.set q (.inl (t, n, .inr (.inr (.inr (.inr (va_up f i.toNatClampNeg (some k)))))))) else none
    | some (.object _), some cj, none => match zx_x k with
      | some (.object _, .inr (ci, _)) => if ci = cj ∧ cj ≠ 999 ∧ zx_in i n then some (h.set q (.inl (t, n, .inr (.inr (.inr (.inr (va_up f i.toNatClampNeg (some k)))))))) else none
      | _ => none
    | _, _, _ => none
  | _ => none
def zf_cpy (q0 : Nat) (sp : Int32) (q1 : Nat) (dp len : Int32) (h : zx_H) : Option zx_H := match h[q0]?, h[q1]? with
  | some (.inl (t0, n0, .inl f)), some (.inl (t1, n1, .inl g)) => if t0 = t1 ∧ (zt_at[t0]? = some .int ∨ (zt_at[t0]? = some .byte ∧ zx_fb f sp.toNatClampNeg len.toNatClampNeg = true)) ∧ ¬ sp < 0 ∧ ¬ dp < 0 ∧ ¬ len < 0 ∧ sp.toNatClampNeg + len.toNatClampNeg ≤ n0 ∧ dp.toNatClampNeg + len.toNatClampNeg ≤ n1 then some (h.set q1 (.inl (t1, n1, .inl (va_cpy f g sp.toNatClampNeg dp.toNatClampNeg len.toNatClampNeg)))) else none
  | some (.inl (t0, n0, .inr (.inl f))), some (.inl (t1, n1, .inr (.inl g))) => if t0 = t1 ∧ zt_at[t0]? = some .long ∧ ¬ sp < 0 ∧ ¬ dp < 0 ∧ ¬ len < 0 ∧ sp.toNatClampNeg + len.toNatClampNeg ≤ n0 ∧ dp.toNatClampNeg + len.toNatClampNeg ≤ n1 then some (h.set q1 (.inl (t1, n1, .inr (.inl (va_cpy f g sp.toNatClampNeg dp.toNatClampNeg len.toNatClampNeg))))) else none
  | none, some (.inl (t1, n1, .inl g)) => match zx_x q0 with
    | some (.byte, .inl (_, n0, .inl f)) => if zt_at[t1]? = some .byte ∧ zx_fb f sp.toNatClampNeg len.toNatClampNeg = true ∧ ¬ sp < 0 ∧ ¬ dp < 0 ∧ ¬ len < 0 ∧ sp.toNatClampNeg + len.toNatClampNeg ≤ n0 ∧ dp.toNatClampNeg + len.toNatClampNeg ≤ n1 then some (h.set q1 (.inl (t1, n1, .inl (va_cpy f g sp.toNatClampNeg dp.toNatClampNeg len.toNatClampNeg)))) else none
    | _ => none
  | _, _ => none
def zf_clone (q : Nat) (h : zx_H) : Option (Nat × zx_H) := match h[q]? with
  | some (.inl (t, n, .inl f)) => if t = 3 ∧ zx_fb f 0 n = true ∧ h.length < zx_lim then some (h.length, h ++ [.inl (t, n, .inl f)]) else none
  | _ => none
def zf_multi (ty : FieldType) (t t2 : Nat) (n m : Int32) (h : zx_H) : Option (Nat × zx_H) := match zx_arr ty m.toNatClampNeg with
  | some a0 => if ¬ n < 0 ∧ ¬ m < 0 ∧ n.toNatClampNeg * 4 ≤ 536870912 ∧ m.toNatClampNeg * componentBytes ty ≤ 536870912 ∧ h.length + n.toNatClampNeg < zx_lim then
      some (h.length, h ++ .inl (t, n.toNatClampNeg, .inr (.inr (.inr (.inr (fun j => if j < n.toNatClampNeg then some (h.length + 1 + j) else none))))) :: List.replicate n.toNatClampNeg (.inl (t2, a0))) else none
  | none => none
/-- by the receiver's class -/
def zf_kd {β : Type} (q : Nat) (h : zx_H) (f : Nat → Option β) : Option β := match zx_kl h q with
  | some ci => f ci
  | none => none
theorem zf_kde {β : Type} {q : Nat} {h : zx_H} {f : Nat → Option β} {r : β} (e : zf_kd q h f = some r) : ∃ ci, zx_kl h q = some ci ∧ f ci = some r := by
  unfold zf_kd at e
  split at e
  · next ci hk => exact ⟨ci, hk, e⟩
  · cases e
/-! answers -/
def zf_oV (_ : Unit) : zx_O := .inl none
def zf_oI (v : Int32) : zx_O := .inl (some (.int v))
def zf_oJ (v : Int64) : zx_O := .inl (some (.long v))
def zf_oF (v : UInt32) : zx_O := .inl (some (.float v))
def zf_oD (v : UInt64) : zx_O := .inl (some (.double v))
def zf_oA (v : Nat) : zx_O := .inl (some (.ref v))
def zf_oN (v : Option Nat) : zx_O := .inl (some (zx_rf v))
def zf_oVx : Unit ⊕ Nat → zx_O
  | .inl _ => .inl none
  | .inr E => .inr E
def zf_oIx : Int32 ⊕ Nat → zx_O
  | .inl v => .inl (some (.int v))
  | .inr E => .inr E
def zf_oJx : Int64 ⊕ Nat → zx_O
  | .inl v => .inl (some (.long v))
  | .inr E => .inr E
def zf_oFx : UInt32 ⊕ Nat → zx_O
  | .inl v => .inl (some (.float v))
  | .inr E => .inr E
def zf_oDx : UInt64 ⊕ Nat → zx_O
  | .inl v => .inl (some (.double v))
  | .inr E => .inr E
def zf_oAx : Nat ⊕ Nat → zx_O
  | .inl v => .inl (some (.ref v))
  | .inr E => .inr E
def zf_oNx : Option Nat ⊕ Nat → zx_O
  | .inl v => .inl (some (zx_rf v))
  | .inr E => .inr E
theorem zf_fme (nf : Bool) : ∃ y : Option Nat, (zt_stv nf)[1]? = some (zx_rf y) := by
  cases nf
  · exact ⟨some _, rfl⟩
  · exact ⟨none, rfl⟩

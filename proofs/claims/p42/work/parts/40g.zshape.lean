/-! ===== faults don't look at the rows ===== -/
section ZSH
variable {L : List (Nat × Nat × Int64)} {T T0 : zT}
/-- a reading without its rows -/
def zsh : zR0 → Nat × ((Nat × Nat) ⊕ (Nat × Int32))
  | (w, .inl (p, _, k)) => (w, .inl (p, k))
  | (w, .inr e) => (w, .inr e)
theorem zsh_b {f f' : Nat → Nat → (Nat → Bool) → Nat → zR0} : ∀ {x x' : zR0}, zsh x = zsh x' → (∀ w p S S' k, zsh (f w p S k) = zsh (f' w p S' k)) → zsh (zrb x f) = zsh (zrb x' f')
  | (w, .inl (p, S, k)), (w', .inl (p', S', k')), e, h => by
    have e : (w, (Sum.inl (p, k) : (Nat × Nat) ⊕ (Nat × Int32))) = (w', .inl (p', k')) := e
    cases e
    exact h w p S S' k
  | (w, .inl (p, S, k)), (w', .inr e'), e, _ => by
    have e : (w, (Sum.inl (p, k) : (Nat × Nat) ⊕ (Nat × Int32))) = (w', .inr e') := e
    cases e
  | (w, .inr e1), (w', .inl (p', S', k')), e, _ => by
    have e : (w, (Sum.inr e1 : (Nat × Nat) ⊕ (Nat × Int32))) = (w', .inl (p', k')) := e
    cases e
  | (w, .inr e1), (w', .inr e2), e, _ => e
theorem zsh_w {w : Nat} : ∀ {x x' : zR0}, zsh x = zsh x' → zsh (zrw w x) = zsh (zrw w x')
  | (w1, .inl (p, S, k)), (w', .inl (p', S', k')), e => by
    have e : (w1, (Sum.inl (p, k) : (Nat × Nat) ⊕ (Nat × Int32))) = (w', .inl (p', k')) := e
    cases e
    rfl
  | (w1, .inl (p, S, k)), (w', .inr e'), e => by
    have e : (w1, (Sum.inl (p, k) : (Nat × Nat) ⊕ (Nat × Int32))) = (w', .inr e') := e
    cases e
  | (w1, .inr e1), (w', .inl (p', S', k')), e => by
    have e : (w1, (Sum.inr e1 : (Nat × Nat) ⊕ (Nat × Int32))) = (w', .inl (p', k')) := e
    cases e
  | (w1, .inr e1), (w', .inr e2), e => by
    have e : (w1, (Sum.inr e1 : (Nat × Nat) ⊕ (Nat × Int32))) = (w', .inr e2) := e
    cases e
    rfl
theorem zsh_tv {S S' : List Int64 → Nat → Bool} : ∀ x, zsh (zptv S x) = zsh (zptv S' x)
  | .inl (_, _) => rfl
  | .inr _ => rfl
theorem zsh_t (hn : T.nc = T0.nc) (hk : ∀ c, c < T.nc → T.kd c = T0.kd c) (p : Nat) : zsh (zpt L T p) = zsh (zpt L T0 p) := by
  unfold zpt
  by_cases e1 : zvu L p = -1
  · rw [if_pos e1, if_pos e1]
  · rw [if_neg e1, if_neg e1, ← hn]
    by_cases e2 : T.nc ≤ (zvu L p).toInt.toNat
    · rw [if_pos e2, if_pos e2]
    · rw [if_neg e2, if_neg e2]
      by_cases e3 : zask L (p + 1) = 0
      · rw [if_pos e3, if_pos e3]
      · rw [if_neg e3, if_neg e3, hk _ (Nat.lt_of_not_le e2)]
        exact zsh_tv _
theorem zsh_pb {R R' : Nat → Nat → zR0} (hR : ∀ o p, zsh (R o p) = zsh (R' o p)) (o p : Nat) : zsh (zpb L R o p) = zsh (zpb L R' o p) := by
  unfold zpb
  by_cases e1 : 6 ≤ o
  · rw [if_pos e1, if_pos e1]
  · rw [if_neg e1, if_neg e1]
    refine zsh_b (hR _ _) fun w p' S S' k => ?_
    by_cases e2 : zfo L p' = 41
    · rw [if_pos e2, if_pos e2]; rfl
    · rw [if_neg e2, if_neg e2]
theorem zsh_p0 (hn : T.nc = T0.nc) (hk : ∀ c, c < T.nc → T.kd c = T0.kd c) {R R' : Nat → Nat → zR0} (hR : ∀ o p, zsh (R o p) = zsh (R' o p)) (o p : Nat) : zsh (zpp L T R o p) = zsh (zpp L T0 R' o p) := by
  unfold zpp
  refine zsh_b ?_ fun w p' S S' k => rfl
  unfold zpp0
  generalize p + zbg L 3 p = p1
  by_cases e1 : zfo L p1 = 33
  · rw [if_pos e1, if_pos e1]
  · rw [if_neg e1, if_neg e1]
    by_cases e2 : zfo L p1 = 35
    · rw [if_pos e2, if_pos e2]
      exact zsh_t hn hk p1
    · rw [if_neg e2, if_neg e2]
      by_cases e3 : zfo L p1 = 40
      · rw [if_pos e3, if_pos e3]
        exact zsh_pb hR o p1
      · rw [if_neg e3, if_neg e3]
theorem zsh_l {P P' : Nat → zR0} (hP : ∀ p, zsh (P p) = zsh (P' p)) {s : Nat} {J : Bool → Bool → Bool} : ∀ n p S S' k, zsh (zpl1 L P s J n p S k) = zsh (zpl1 L P' s J n p S' k)
  | 0, _, _, _, _ => rfl
  | n + 1, p, S, S', k => by
    show zsh (zrb (P p) _) = zsh (zrb (P' p) _)
    refine zsh_b (hP p) fun w' p' S1 S2 k' => zsh_w ?_
    by_cases e : zfo L p' = s
    · rw [if_pos e, if_pos e]
      exact zsh_l hP n (p' + 1) _ _ (k + k')
    · rw [if_neg e, if_neg e]
      rfl
theorem zsh_F (hn : T.nc = T0.nc) (hk : ∀ c, c < T.nc → T.kd c = T0.kd c) : ∀ n o p, zsh (zpF L T n o p) = zsh (zpF L T0 n o p)
  | 0, _, _ => rfl
  | n + 1, o, p => zsh_w (zsh_l (fun p => zsh_w (zsh_l (fun p => zsh_p0 hn hk (zsh_F hn hk n) o p) 160 p _ _ 0)) 160 p _ _ 0)
theorem zsh_W (hn : T.nc = T0.nc) (hk : ∀ c, c < T.nc → T.kd c = T0.kd c) : zsh (zpW L T) = zsh (zpW L T0) := by
  unfold zpW
  refine zsh_b (zsh_F hn hk 20 0 0) fun w p S S' k => ?_
  by_cases e : zfo L p = 0
  · rw [if_pos e, if_pos e]; rfl
  · rw [if_neg e, if_neg e]
end ZSH
/-! tables without rows, by their kinds -/
def zT0 (n k1 k2 k3 : Nat) : zT := zMk n 0 (fun c => [0, k1, k2, k3].getD c 0) (fun _ _ => 0) (fun _ => 0) (fun _ => false)
/-- the text has fault e for a table like T -/
theorem zfault {L : List (Nat × Nat × Int64)} {T : zT} {w : Nat} {e : Nat × Int32} {n k1 k2 k3 : Nat} (hn : T.nc = n) (h0 : T.kd 0 = 0) (h1 : 1 < n → T.kd 1 = k1) (h2 : 2 < n → T.kd 2 = k2) (h3 : 3 < n → T.kd 3 = k3) (h4 : n ≤ 4) (hz : zsh (zpW L (zT0 n k1 k2 k3)) = (w, .inr e)) : zpW L T = (w, .inr e) := by
  have hs := zsh_W (L := L) (T := T) (T0 := zT0 n k1 k2 k3) hn (fun c hc => by
    rw [hn] at hc
    have : c = 0 ∨ c = 1 ∨ c = 2 ∨ c = 3 := by omega
    rcases this with rfl | rfl | rfl | rfl
    · exact h0
    · exact h1 hc
    · exact h2 hc
    · exact h3 hc)
  rw [hz] at hs
  generalize zpW L T = x at hs
  obtain ⟨w', r⟩ := x
  cases r with
  | inl r =>
    obtain ⟨p, S, k⟩ := r
    have hs : (w', (Sum.inl (p, k) : (Nat × Nat) ⊕ (Nat × Int32))) = (w, .inr e) := hs
    cases hs
  | inr e' =>
    have hs : (w', (Sum.inr e' : (Nat × Nat) ⊕ (Nat × Int32))) = (w, .inr e) := hs
    cases hs
    rfl

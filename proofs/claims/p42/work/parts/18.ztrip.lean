/-! ===== runs without the fuel: some number of steps; more steps and more depth do no harm ===== -/
theorem zx_run_more {sc : (Nat × (Nat → Int32)) × Bool} : ∀ (n d mi : Nat) (f : zx_F) (h : zx_H) (r : zx_O × zx_H), zx_run sc n d mi f h = some r → ∀ k j, zx_run sc (n + k) (d + j) mi f h = some r := by
  intro n
  induction n with
  | zero => intro d mi f h r h1; cases h1
  | succ n ih =>
    intro d mi f h r h1 k j
    rw [show n + 1 + k = (n + k) + 1 by omega]
    unfold zx_run at h1 ⊢
    split at h1
    · cases h1
    · next y cc nL ret hh oc np hc hs hsel hi hq =>
      try rw [hq]
      try dsimp only
      split at h1
      · cases h1
      · next ins len hd =>
        try rw [hd]
        try dsimp only
        split at h1
        · next hp =>
          try rw [hp]
          exact ih _ _ _ _ _ h1 k j
        · next hp =>
          try rw [hp]
          try dsimp only
          split at h1
          · next hh9 =>
            try rw [hh9]
            exact ih _ _ _ _ _ h1 k j
          · next hh9 =>
            try rw [hh9]
            try dsimp only
            split at h1
            · next hh8 =>
              try rw [hh8]
              exact ih _ _ _ _ _ h1 k j
            next hh8 =>
            try rw [hh8]
            try dsimp only
            split at h1
            · next hv => (try rw [hv]); exact h1
            · next hv =>
              try rw [hv]
              try dsimp only
              split at h1
              · next hcall =>
                try rw [hcall]
                try dsimp only
                split at h1
                · cases h1
                · next d' =>
                  rw [show d' + 1 + j = (d' + j) + 1 by omega]
                  try dsimp only
                  split at h1
                  · cases h1
                  · next hcr =>
                    rw [ih _ _ _ _ _ hcr k j]
                    try dsimp only
                    have h2 := ih _ _ _ _ _ h1 k j
                    rw [show d' + 1 + j = (d' + j) + 1 by omega] at h2
                    exact h2
                  · next hcr =>
                    rw [ih _ _ _ _ _ hcr k j]
                    try dsimp only
                    split at h1
                    · cases h1
                    · next hhd => (try rw [hhd]); exact h1
                    · next hhd =>
                      try rw [hhd]
                      try dsimp only
                      split at h1
                      · cases h1
                      · next hca =>
                        try rw [hca]
                        try dsimp only
                        have h2 := ih _ _ _ _ _ h1 k j
                        rw [show d' + 1 + j = (d' + j) + 1 by omega] at h2
                        exact h2
              · next hcall =>
                try rw [hcall]
                exact h1
/-- from f, with the heap h, at depth d, method mi comes to the end o with the heap h' -/
def zx_T (sc : (Nat × (Nat → Int32)) × Bool) (d mi : Nat) (f : zx_F) (h : zx_H) (o : zx_O) (h' : zx_H) : Prop := ∃ n, zx_run sc n d mi f h = some (o, h')
section ZXT2
variable {sc : (Nat × (Nat → Int32)) × Bool} {d mi pc : Nat} {lv : List (Nat × Value)} {st : List Value} {h h' : zx_H} {o : zx_O} {y : MethodName} {cc : ByteArray} {nL : Nat} {ret : Option FieldType} {hh : List (Nat × Nat × Nat × Nat)} {oc np hc hs hsel hi : Nat} {ins : Instr} {len : Nat} {f : zx_F}
theorem zx_T_deeper (k : zx_T sc d mi f h o h') (j : Nat) : zx_T sc (d + j) mi f h o h' := by
  obtain ⟨n, hn⟩ := k
  exact ⟨n, zx_run_more n d mi f h _ hn 0 j⟩
theorem zx_T_p (hq : zt_m[mi]? = some (y, cc, nL, ret, hh, oc, np, hc, hs, hsel, hi)) (hd : decode cc pc = .ok (ins, len)) (hp : zx_p nL pc lv st ins len = some f) (k : zx_T sc d mi f h o h') : zx_T sc d mi (pc, lv, st) h o h' := by
  obtain ⟨n, hn⟩ := k
  refine ⟨n + 1, ?_⟩
  unfold zx_run
  simp only [hq, hd, hp]
  exact hn
theorem zx_T_h {h1 : zx_H} (hq : zt_m[mi]? = some (y, cc, nL, ret, hh, oc, np, hc, hs, hsel, hi)) (hd : decode cc pc = .ok (ins, len)) (hp : zx_p nL pc lv st ins len = none) (hh1 : zx_h oc (hs == 2) sc pc lv st h ins len = some (f, h1)) (k : zx_T sc d mi f h1 o h') : zx_T sc d mi (pc, lv, st) h o h' := by
  obtain ⟨n, hn⟩ := k
  refine ⟨n + 1, ?_⟩
  unfold zx_run
  simp only [hq, hd, hp, hh1]
  exact hn
theorem zx_T_h2 {h1 : zx_H} (hq : zt_m[mi]? = some (y, cc, nL, ret, hh, oc, np, hc, hs, hsel, hi)) (hd : decode cc pc = .ok (ins, len)) (hp : zx_p nL pc lv st ins len = none) (hh1 : zx_h oc (hs == 2) sc pc lv st h ins len = none) (hh2 : zx_h2 oc sc pc lv st h ins len = some (f, h1)) (k : zx_T sc d mi f h1 o h') : zx_T sc d mi (pc, lv, st) h o h' := by
  obtain ⟨n, hn⟩ := k
  refine ⟨n + 1, ?_⟩
  unfold zx_run
  simp only [hq, hd, hp, hh1, hh2]
  exact hn
theorem zx_T_r {v : Option Value} (hq : zt_m[mi]? = some (y, cc, nL, ret, hh, oc, np, hc, hs, hsel, hi)) (hd : decode cc pc = .ok (ins, len)) (hp : zx_p nL pc lv st ins len = none) (hh1 : zx_h oc (hs == 2) sc pc lv st h ins len = none) (hh2 : zx_h2 oc sc pc lv st h ins len = none) (hr : zx_rt ret st ins len = some v) : zx_T sc d mi (pc, lv, st) h (.inl v) h := by
  refine ⟨1, ?_⟩
  unfold zx_run
  simp only [hq, hd, hp, hh1, hh2, hr]
theorem zx_T_c {h1 : zx_H} {mj : Nat} {as rest : List Value} {v : Option Value} (hq : zt_m[mi]? = some (y, cc, nL, ret, hh, oc, np, hc, hs, hsel, hi)) (hd : decode cc pc = .ok (ins, len)) (hp : zx_p nL pc lv st ins len = none) (hh1 : zx_h oc (hs == 2) sc pc lv st h ins len = none) (hh2 : zx_h2 oc sc pc lv st h ins len = none) (hr : zx_rt ret st ins len = none) (hcl : zx_c oc st h ins len = some (mj, as, rest))
    (kc : zx_T sc d mj (0, lv_args 0 as, []) h (.inl v) h1) (k : zx_T sc (d + 1) mi (pc + len, lv, v.toList ++ rest) h1 o h') : zx_T sc (d + 1) mi (pc, lv, st) h o h' := by
  obtain ⟨n1, h1n⟩ := kc
  obtain ⟨n2, h2n⟩ := k
  refine ⟨n1 + n2 + 1, ?_⟩
  have e1 := zx_run_more _ _ _ _ _ _ h1n n2 0
  have e2 := zx_run_more _ _ _ _ _ _ h2n n1 0
  rw [Nat.add_zero] at e1 e2
  rw [show n2 + n1 = n1 + n2 by omega] at e2
  unfold zx_run
  simp only [hq, hd, hp, hh1, hh2, hr, hcl, e1]
  exact e2
/-- a call that throws, not caught here -/
theorem zx_T_cx {h1 : zx_H} {mj E : Nat} {as rest : List Value} (hq : zt_m[mi]? = some (y, cc, nL, ret, hh, oc, np, hc, hs, hsel, hi)) (hd : decode cc pc = .ok (ins, len)) (hp : zx_p nL pc lv st ins len = none) (hh1 : zx_h oc (hs == 2) sc pc lv st h ins len = none) (hh2 : zx_h2 oc sc pc lv st h ins len = none) (hr : zx_rt ret st ins len = none) (hcl : zx_c oc st h ins len = some (mj, as, rest))
    (kc : zx_T sc d mj (0, lv_args 0 as, []) h (.inr E) h1) (hhd : zx_hd oc pc E hh = some none) : zx_T sc (d + 1) mi (pc, lv, st) h (.inr E) h1 := by
  obtain ⟨n1, h1n⟩ := kc
  refine ⟨n1 + 1, ?_⟩
  unfold zx_run
  simp only [hq, hd, hp, hh1, hh2, hr, hcl, h1n, hhd]
/-- .. caught here -/
theorem zx_T_ca {h1 : zx_H} {mj E hp9 : Nat} {as rest : List Value} (hq : zt_m[mi]? = some (y, cc, nL, ret, hh, oc, np, hc, hs, hsel, hi)) (hd : decode cc pc = .ok (ins, len)) (hp : zx_p nL pc lv st ins len = none) (hh1 : zx_h oc (hs == 2) sc pc lv st h ins len = none) (hh2 : zx_h2 oc sc pc lv st h ins len = none) (hr : zx_rt ret st ins len = none) (hcl : zx_c oc st h ins len = some (mj, as, rest))
    (kc : zx_T sc d mj (0, lv_args 0 as, []) h (.inr E) h1) (hhd : zx_hd oc pc E hh = some (some hp9)) (hca : zx_ca cc nL hp9 lv = some f) (k : zx_T sc (d + 1) mi f h1 o h') : zx_T sc (d + 1) mi (pc, lv, st) h o h' := by
  obtain ⟨n1, h1n⟩ := kc
  obtain ⟨n2, h2n⟩ := k
  refine ⟨n1 + n2 + 1, ?_⟩
  have e1 := zx_run_more _ _ _ _ _ _ h1n n2 0
  have e2 := zx_run_more _ _ _ _ _ _ h2n n1 0
  rw [Nat.add_zero] at e1 e2
  rw [show n2 + n1 = n1 + n2 by omega] at e2
  unfold zx_run
  simp only [hq, hd, hp, hh1, hh2, hr, hcl, e1, hhd, hca]
  exact e2
theorem zx_T_t {ci : Nat} (hq : zt_m[mi]? = some (y, cc, nL, ret, [], oc, np, hc, hs, hsel, hi)) (hd : decode cc pc = .ok (ins, len)) (hp : zx_p nL pc lv st ins len = none) (hh1 : zx_h oc (hs == 2) sc pc lv st h ins len = none) (hh2 : zx_h2 oc sc pc lv st h ins len = none) (hr : zx_rt ret st ins len = none) (hcl : zx_c oc st h ins len = none) (hth : zx_th oc cc pc st ins len = some ci) (hlim : h.length < zx_lim) : zx_T sc d mi (pc, lv, st) h (.inr ci) (h ++ [.inr (ci, [])]) := by
  refine ⟨1, ?_⟩
  unfold zx_run
  simp only [hq, hd, hp, hh1, hh2, hr, hcl, hth, hlim, and_self, if_true]
end ZXT2

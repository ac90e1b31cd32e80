/-! ===== fewer locals, in another order: a run that comes to an end does so too with more ===== -/
def zx_nd : List Nat → Bool
  | [] => true
  | i :: r => r.all (fun j => !(Nat.beq i j)) && zx_nd r
theorem zx_nd_ok : ∀ {l : List Nat}, zx_nd l = true → l.Nodup
  | [], _ => List.nodup_nil
  | i :: r, h => by
    simp only [zx_nd, Bool.and_eq_true, List.all_eq_true, Bool.not_eq_true'] at h
    refine List.nodup_cons.mpr ⟨fun hm => ?_, zx_nd_ok h.2⟩
    have h1 := h.1 i hm
    rw [Nat.beq_refl] at h1
    cases h1
def zx_le (l m : List (Nat × Value)) : Prop := (l.map (·.1)).Nodup ∧ (m.map (·.1)).Nodup ∧ ∀ e ∈ l, e ∈ m
theorem zx_mem_lk {i : Nat} {v : Value} : ∀ {l : List (Nat × Value)}, (l.map (·.1)).Nodup → (i, v) ∈ l → zx_lk i l = some v
  | [], _, h => by cases h
  | (j, w) :: r, hn, h => by
    simp only [List.map_cons, List.nodup_cons, List.mem_map, not_exists, not_and] at hn
    unfold zx_lk
    rcases List.mem_cons.mp h with h1 | h1
    · cases h1; rw [if_pos rfl]
    · have hne : ¬ j = i := fun h2 => hn.1 (i, v) h1 h2.symm
      rw [if_neg hne]
      exact zx_mem_lk hn.2 h1
theorem zx_le_lk {l m : List (Nat × Value)} (h : zx_le l m) {i : Nat} {v : Value} (hv : zx_lk i l = some v) : zx_lk i m = some v := zx_mem_lk h.2.1 (h.2.2 _ (zx_lk_mem hv))
theorem zx_nd_flt {l : List (Nat × Value)} (p : Nat × Value → Bool) (h : (l.map (·.1)).Nodup) : ((l.filter p).map (·.1)).Nodup := by
  induction l with
  | nil => exact List.nodup_nil
  | cons e r ih =>
    simp only [List.map_cons, List.nodup_cons] at h
    rw [List.filter_cons]
    split
    · rw [List.map_cons]
      refine List.nodup_cons.mpr ⟨fun hm => h.1 ?_, ih h.2⟩
      obtain ⟨q, hq, hqe⟩ := List.mem_map.mp hm
      exact List.mem_map.mpr ⟨q, (List.mem_filter.mp hq).1, hqe⟩
    · exact ih h.2
theorem zx_le_cons {l m : List (Nat × Value)} (h : zx_le l m) (i : Nat) (v : Value) (p : Nat × Value → Bool) (hp : ∀ w, p (i, w) = false) : zx_le ((i, v) :: l.filter p) ((i, v) :: m.filter p) := by
  have key : ∀ r : List (Nat × Value), (r.map (·.1)).Nodup → (((i, v) :: r.filter p).map (·.1)).Nodup := fun r hr => by
    rw [List.map_cons]
    refine List.nodup_cons.mpr ⟨fun hm => ?_, zx_nd_flt p hr⟩
    obtain ⟨⟨j, w⟩, hq, hqe⟩ := List.mem_map.mp hm
    have h1 := (List.mem_filter.mp hq).2
    dsimp only at hqe
    rw [hqe, hp w] at h1
    cases h1
  refine ⟨key l h.1, key m h.2.1, fun e he => ?_⟩
  rcases List.mem_cons.mp he with rfl | he
  · exact List.mem_cons_self
  · have h1 := List.mem_filter.mp he
    exact List.mem_cons_of_mem _ (List.mem_filter.mpr ⟨h.2.2 e h1.1, h1.2⟩)
theorem zx_le_s1 {l m : List (Nat × Value)} (h : zx_le l m) (i : Nat) (v : Value) : zx_le (zx_s1 i v l) (zx_s1 i v m) := zx_le_cons h i v _ (fun w => by simp)
theorem zx_le_s2 {l m : List (Nat × Value)} (h : zx_le l m) (i : Nat) (v : Value) : zx_le (zx_s2 i v l) (zx_s2 i v m) := zx_le_cons h i v _ (fun w => by simp)
theorem zx_le_tl {l m : List (Nat × Value)} (h : zx_le l m) (i : Nat) (v : Value) : zx_le (zx_s1 i v l).tail (zx_s1 i v m).tail := by
  have h1 := zx_le_s1 h i v
  obtain ⟨a, b, c⟩ := h1
  unfold zx_s1 at a b c ⊢
  simp only [List.map_cons, List.nodup_cons, List.tail_cons] at a b ⊢
  refine ⟨a.2, b.2, fun e he => ?_⟩
  rcases List.mem_cons.mp (c e (List.mem_cons_of_mem _ he)) with h2 | h2
  · exact absurd (List.mem_map.mpr ⟨e, he, by rw [h2]⟩) a.1
  · exact h2
def zx_leF (f g : zx_F) : Prop := f.1 = g.1 ∧ zx_le f.2.1 g.2.1 ∧ f.2.2 = g.2.2
theorem zx_ld_le {ty i n pc : Nat} {l m : List (Nat × Value)} {st : List Value} {f : zx_F} (hl : zx_le l m) (h : zx_ld ty i n pc l st = some f) : ∃ g, zx_ld ty i n pc m st = some g ∧ zx_leF f g := by
  unfold zx_ld at h ⊢
  cases hk : zx_lk i l with
  | none => rw [hk] at h; cases h
  | some v =>
    rw [hk] at h
    rw [zx_le_lk hl hk]
    cases v <;> dsimp only at h ⊢ <;> first
      | (cases h; done)
      | (split at h
         · next hc => cases h; exact ⟨_, if_pos hc, rfl, hl, rfl⟩
         · cases h)
theorem zx_sv_le {ty nL i n pc : Nat} {l m : List (Nat × Value)} {st : List Value} {f : zx_F} (hl : zx_le l m) (h : zx_sv ty nL i n pc l st = some f) : ∃ g, zx_sv ty nL i n pc m st = some g ∧ zx_leF f g := by
  unfold zx_sv at h ⊢
  cases st with
  | nil => cases h
  | cons v r =>
    cases v <;> dsimp only at h ⊢ <;> first
      | (cases h; done)
      | (split at h
         · next hc => cases h; exact ⟨_, if_pos hc, rfl, zx_le_s1 hl _ _, rfl⟩
         · cases h)
      | (split at h
         · next hc => cases h; exact ⟨_, if_pos hc, rfl, zx_le_s2 hl _ _, rfl⟩
         · cases h)
theorem zx_br_le {b : Bool} {pc : Nat} {off : Int} {l m : List (Nat × Value)} {st : List Value} {f : zx_F} (hl : zx_le l m) (h : zx_br b pc off l st = some f) : ∃ g, zx_br b pc off m st = some g ∧ zx_leF f g := by
  unfold zx_br at h ⊢
  split at h
  · next t ht =>
    split at h <;> (next hc => (cases h; simp only [hc, if_true, if_false]; exact ⟨_, rfl, rfl, hl, rfl⟩))
  · cases h
theorem zx_jm_le {pc : Nat} {off : Int} {l m : List (Nat × Value)} {st : List Value} {f : zx_F} (hl : zx_le l m) (h : ((zx_j pc off).map fun t => ((t, l, st) : zx_F)) = some f) : ∃ g, ((zx_j pc off).map fun t => ((t, m, st) : zx_F)) = some g ∧ zx_leF f g := by
  simp only [Option.map_eq_some_iff] at h
  obtain ⟨t, ht, rfl⟩ := h
  exact ⟨(t, m, st), by rw [ht]; rfl, rfl, hl, rfl⟩
set_option maxHeartbeats 4000000 in
theorem zx_p_le {nL pc n : Nat} {l m : List (Nat × Value)} {st : List Value} {ins : Instr} {f : zx_F} (hl : zx_le l m) (h : zx_p nL pc l st ins n = some f) : ∃ g, zx_p nL pc m st ins n = some g ∧ zx_leF f g := by
  unfold zx_p at h
  split at h
  all_goals (first | exact zx_ld_le hl h | exact zx_sv_le hl h | exact zx_jm_le hl h | skip)
  all_goals (repeat' (split at h))
  all_goals (first
    | (cases h; done)
    | exact zx_br_le hl h
    | exact zx_jm_le hl h
    | (cases h; exact ⟨_, rfl, rfl, hl, rfl⟩)
    | (cases h; refine ⟨_, ?_, rfl, hl, rfl⟩; simp only [zx_p]; simp [*]; done)
    | (rename_i hc; cases h; exact ⟨_, if_pos hc, rfl, hl, rfl⟩)
    | (rename_i hc; cases h; exact ⟨_, if_neg hc, rfl, hl, rfl⟩)
    | (rename_i hk9 hc; cases h; have hk8 := zx_le_lk hl hk9; refine ⟨(pc + 3, zx_s1 _ _ m, st), ?_, rfl, zx_le_s1 hl _ _, rfl⟩; simp only [zx_p, hk8]; exact if_pos hc)
    | (rename_i hc; obtain ⟨g, hg, hf⟩ := zx_jm_le hl h; exact ⟨g, (if_pos hc).trans hg, hf⟩)
    | (obtain ⟨g, hg, hf⟩ := zx_jm_le hl h; refine ⟨g, ?_, hf⟩; simp only [zx_p]; simp [*]; done)
    | skip)
theorem zn_h_p {oc pc n : Nat} {ini : Bool} {sc : (Nat × (Nat → Int32)) × Bool} {lv : List (Nat × Value)} {st : List Value} {h : zx_H} {ins : Instr} {r : zx_F × zx_H} (hz : zx_h oc ini sc pc lv st h ins n = some r) (nL pc' : Nat) (lv' : List (Nat × Value)) (st' : List Value) : zx_p nL pc' lv' st' ins n = none := by
  unfold zx_h at hz
  split at hz <;> first | rfl | cases hz
theorem zn_h2_p {oc pc n : Nat} {sc : (Nat × (Nat → Int32)) × Bool} {lv : List (Nat × Value)} {st : List Value} {h : zx_H} {ins : Instr} {r : zx_F × zx_H} (hz : zx_h2 oc sc pc lv st h ins n = some r) (nL pc' : Nat) (lv' : List (Nat × Value)) (st' : List Value) : zx_p nL pc' lv' st' ins n = none := by
  unfold zx_h2 at hz
  split at hz <;> first | rfl | cases hz
theorem zn_rt_p {n : Nat} {ret : Option FieldType} {st : List Value} {ins : Instr} {v : Option Value} (hz : zx_rt ret st ins n = some v) (nL pc' : Nat) (lv' : List (Nat × Value)) (st' : List Value) : zx_p nL pc' lv' st' ins n = none := by
  unfold zx_rt at hz
  split at hz <;> first | rfl | cases hz
theorem zn_c_p {n oc : Nat} {st : List Value} {h : zx_H} {ins : Instr} {r : Nat × List Value × List Value} (hz : zx_c oc st h ins n = some r) (nL pc' : Nat) (lv' : List (Nat × Value)) (st' : List Value) : zx_p nL pc' lv' st' ins n = none := by
  unfold zx_c at hz
  split at hz <;> first | rfl | cases hz
theorem zn_th_p {n oc pc : Nat} {cc : ByteArray} {st : List Value} {ins : Instr} {r : Nat} (hz : zx_th oc cc pc st ins n = some r) (nL pc' : Nat) (lv' : List (Nat × Value)) (st' : List Value) : zx_p nL pc' lv' st' ins n = none := by
  unfold zx_th at hz
  split at hz <;> first | rfl | cases hz
theorem zx_br_lv {b : Bool} {pc : Nat} {off : Int} {l : List (Nat × Value)} {st : List Value} {f : zx_F} (h : zx_br b pc off l st = some f) : f.2.1 = l ∧ ∀ m, zx_br b pc off m st = some (f.1, m, f.2.2) := by
  unfold zx_br at h
  split at h
  · next t ht =>
    split at h <;> (next hc => (cases h; exact ⟨rfl, fun m => by unfold zx_br; rw [ht]; simp [hc]⟩))
  · cases h
set_option maxHeartbeats 4000000 in
theorem zx_h_lv {oc pc n : Nat} {ini : Bool} {sc : (Nat × (Nat → Int32)) × Bool} {l : List (Nat × Value)} {st : List Value} {h : zx_H} {ins : Instr} {f : zx_F} {h' : zx_H} (hz : zx_h oc ini sc pc l st h ins n = some (f, h')) : f.2.1 = l ∧ ∀ m, zx_h oc ini sc pc m st h ins n = some ((f.1, m, f.2.2), h') := by
  unfold zx_h at hz
  split at hz
  all_goals (repeat' (split at hz))
  all_goals (try (simp only [Option.map_eq_some_iff, Prod.mk.injEq] at hz))
  all_goals (first
    | (cases hz; done)
    | (obtain ⟨v, hv, rfl, rfl⟩ := hz; refine ⟨rfl, fun m => ?_⟩; simp only [zx_h, hv, Option.map_some]; done)
    | (obtain ⟨v, hv, rfl, rfl⟩ := hz; refine ⟨rfl, fun m => ?_⟩; simp [zx_h, *]; done)
    | (obtain ⟨v, hv, rfl, rfl⟩ := hz; obtain ⟨b1, b2⟩ := zx_br_lv hv; refine ⟨b1, fun m => ?_⟩; simp only [zx_h]; simp [*, b2 m]; done)
    | (cases hz; refine ⟨rfl, fun m => ?_⟩; simp only [zx_h]; simp [*]; done)
    | (cases hz; refine ⟨rfl, fun m => ?_⟩; simp only [zx_h, *, zx_in, vp_in, and_self, and_true, true_and, if_true, if_false, not_false_eq_true, not_true_eq_false, eq_self, or_true, true_or]; done)
    | (rename_i hc; cases hz; refine ⟨rfl, fun m => ?_⟩; revert hc; simp only [zx_h, *]; intro hc; exact if_pos hc)
    | (rename_i hc; cases hz; refine ⟨rfl, fun m => ?_⟩; revert hc; simp only [zx_h, *, if_false]; intro hc; exact if_pos hc)
    | (obtain ⟨v, hv, rfl, rfl⟩ := hz; obtain ⟨b1, b2⟩ := zx_br_lv hv; refine ⟨b1, fun m => ?_⟩; simp only [zx_h, *, Option.map_some]; done)
    | (rename_i e1 e2; obtain ⟨v, hv, rfl, rfl⟩ := hz; obtain ⟨b1, b2⟩ := zx_br_lv hv; refine ⟨b1, fun m => ?_⟩; simp only [zx_h, e1, e2, b2 m, Option.map_some]; done)
    | skip)
set_option maxHeartbeats 4000000 in
theorem zx_h2_lv {oc pc n : Nat} {sc : (Nat × (Nat → Int32)) × Bool} {l : List (Nat × Value)} {st : List Value} {h : zx_H} {ins : Instr} {f : zx_F} {h' : zx_H} (hz : zx_h2 oc sc pc l st h ins n = some (f, h')) : f.2.1 = l ∧ ∀ m, zx_h2 oc sc pc m st h ins n = some ((f.1, m, f.2.2), h') := by
  have hz0 := hz
  unfold zx_h2 at hz
  split at hz
  all_goals (repeat' (split at hz))
  all_goals (try (simp only [Option.map_eq_some_iff, Prod.mk.injEq] at hz))
  all_goals (first
    | (cases hz; done)
    | (obtain ⟨v, hv, rfl, rfl⟩ := hz; refine ⟨rfl, fun m => ?_⟩; simp only [zx_h2, hv, Option.map_some]; done)
    | (obtain ⟨v, hv, rfl, rfl⟩ := hz; refine ⟨rfl, fun m => ?_⟩; simp [zx_h2, *]; done)
    | (obtain ⟨v, hv, rfl, rfl⟩ := hz; obtain ⟨b1, b2⟩ := zx_br_lv hv; refine ⟨b1, fun m => ?_⟩; simp only [zx_h2]; simp [*, b2 m]; done)
    | (cases hz; refine ⟨rfl, fun m => ?_⟩; simp only [zx_h2]; simp [*]; done)
    | (cases hz; refine ⟨rfl, fun m => ?_⟩; simp only [zx_h2, *, zx_in, vp_in, and_self, and_true, true_and, if_true, if_false, not_false_eq_true, not_true_eq_false, eq_self, or_true, true_or]; done)
    | (rename_i hc; cases hz; refine ⟨rfl, fun m => ?_⟩; revert hc; simp only [zx_h2, *]; intro hc; exact if_pos hc)
    | (rename_i hc; cases hz; refine ⟨rfl, fun m => ?_⟩; revert hc; simp only [zx_h2, *, if_false]; intro hc; exact if_pos hc)
    | (obtain ⟨v, hv, rfl, rfl⟩ := hz; obtain ⟨b1, b2⟩ := zx_br_lv hv; refine ⟨b1, fun m => ?_⟩; simp only [zx_h2, *, Option.map_some]; done)
    | (rename_i e1 e2; obtain ⟨v, hv, rfl, rfl⟩ := hz; obtain ⟨b1, b2⟩ := zx_br_lv hv; refine ⟨b1, fun m => ?_⟩; simp only [zx_h2, e1, e2, b2 m, Option.map_some]; done)
    | (exact zx_h2_iv hz0)
    | skip)
theorem zx_ca_le {cc : ByteArray} {nL hp : Nat} {l m : List (Nat × Value)} {f : zx_F} (hl : zx_le l m) (h : zx_ca cc nL hp l = some f) : ∃ g, zx_ca cc nL hp m = some g ∧ zx_leF f g := by
  unfold zx_ca at h ⊢
  split at h
  · next k hd =>
    split at h
    · next hc => cases h; exact ⟨_, if_pos hc, rfl, zx_le_tl hl _ .null, rfl⟩
    · cases h
  · next k hd =>
    split at h
    · next hc => cases h; exact ⟨_, if_pos hc, rfl, zx_le_tl hl _ .null, rfl⟩
    · cases h
  · cases h
set_option maxHeartbeats 1000000 in
theorem zx_run_le {sc : (Nat × (Nat → Int32)) × Bool} : ∀ (n d mi pc : Nat) (l m : List (Nat × Value)) (st : List Value) (h : zx_H) (r : zx_O × zx_H), zx_le l m → zx_run sc n d mi (pc, l, st) h = some r → zx_run sc n d mi (pc, m, st) h = some r := by
  intro n
  induction n with
  | zero => intro d mi pc l m st h r _ h1; cases h1
  | succ n ih =>
    intro d mi pc l m st h r hl h1
    have hF : ∀ {d mi : Nat} {f g : zx_F} {h : zx_H} {r : zx_O × zx_H}, zx_leF f g → zx_run sc n d mi f h = some r → zx_run sc n d mi g h = some r := by
      intro d mi f g h r hfg hr
      obtain ⟨a, b, c⟩ := f
      obtain ⟨a', b', c'⟩ := g
      obtain ⟨e1, e2, e3⟩ := hfg
      dsimp only at e1 e2 e3
      subst e1 e3
      exact ih _ _ _ _ _ _ _ _ e2 hr
    unfold zx_run at h1 ⊢
    split at h1
    · cases h1
    · next y cc nL ret hh oc np hc hs hsel hi hq =>
      try rw [hq]
      try dsimp only at h1 ⊢
      split at h1
      · cases h1
      · next ins len hd =>
        try rw [hd]
        try dsimp only at h1 ⊢
        split at h1
        · next hp =>
          obtain ⟨g, hg, hfg⟩ := zx_p_le hl hp
          try rw [hg]
          exact hF hfg h1
        · next hp =>
          split at h1
          · next f1 h2 hh9 =>
            obtain ⟨e1, e2⟩ := zx_h_lv hh9
            try rw [zn_h_p hh9]
            try dsimp only
            try rw [e2 m]
            obtain ⟨a, b, c⟩ := f1
            try dsimp only at e1 e2 h1 ⊢
            subst e1
            exact ih _ _ _ _ _ _ _ _ hl h1
          · next hh9 =>
            have n1 : zx_h oc (hs == 2) sc pc m st h ins len = none := by
              cases hm : zx_h oc (hs == 2) sc pc m st h ins len with
              | none => rfl
              | some q =>
                obtain ⟨f9, h9⟩ := q
                have := (zx_h_lv hm).2 l
                rw [hh9] at this
                cases this
            split at h1
            · next f1 h2 hh8 =>
              obtain ⟨e1, e2⟩ := zx_h2_lv hh8
              try rw [zn_h2_p hh8]
              try dsimp only
              try rw [n1]
              try dsimp only
              try rw [e2 m]
              obtain ⟨a, b, c⟩ := f1
              try dsimp only at e1 e2 h1 ⊢
              subst e1
              exact ih _ _ _ _ _ _ _ _ hl h1
            · next hh8 =>
              have n2 : zx_h2 oc sc pc m st h ins len = none := by
                cases hm : zx_h2 oc sc pc m st h ins len with
                | none => rfl
                | some q =>
                  obtain ⟨f9, h9⟩ := q
                  have := (zx_h2_lv hm).2 l
                  rw [hh8] at this
                  cases this
              split at h1
              · next hv =>
                try rw [zn_rt_p hv]
                try dsimp only
                try rw [n1]
                try dsimp only
                try rw [n2]
                try dsimp only
                try rw [hv]
                exact h1
              · next hv =>
                split at h1
                · next hcall =>
                  try rw [zn_c_p hcall]
                  try dsimp only
                  try rw [n1]
                  try dsimp only
                  try rw [n2]
                  try dsimp only
                  try rw [hv]
                  try dsimp only
                  try rw [hcall]
                  try dsimp only
                  split at h1
                  · cases h1
                  · next d' =>
                    split at h1
                    · cases h1
                    · next hcr =>
                      try rw [hcr]
                      exact ih _ _ _ _ _ _ _ _ hl h1
                    · next hcr =>
                      try rw [hcr]
                      try dsimp only
                      split at h1
                      · cases h1
                      · next hhd => (try rw [hhd]); exact h1
                      · next hhd =>
                        try rw [hhd]
                        try dsimp only
                        split at h1
                        · cases h1
                        · next hca =>
                          obtain ⟨g, hg, hfg⟩ := zx_ca_le hl hca
                          try rw [hg]
                          exact hF hfg h1
                · next hcall =>
                  split at h1
                  · next hth =>
                    try rw [zn_th_p hth]
                    try dsimp only
                    try rw [n1]
                    try dsimp only
                    try rw [n2]
                    try dsimp only
                    try rw [hv]
                    try dsimp only
                    try rw [hcall]
                    try dsimp only
                    try rw [hth]
                    exact h1
                  · cases h1

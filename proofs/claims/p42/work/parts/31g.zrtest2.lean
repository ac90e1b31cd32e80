/-! ===== a test read, its node ===== -/
section ZRU
variable {h g : zx_H} {L : List (Nat × Nat × Int64)} {T : zT} {q qs p : Nat} {ks : List Int64} {fk fp : Int32}
theorem zpv1_len {kd : Nat} {ks' : List Int64} (e : zpv1 L kd ks p = .inl ks') : ks'.length = ks.length + 1 := by
  unfold zpv1 at e
  by_cases h1 : zfo L p ≠ 97 ∧ zfo L p ≠ 48
  · rw [if_pos h1] at e; cases e
  · rw [if_neg h1] at e
    by_cases h2 : zvu L p = -9000000000 ∨ 6 ≤ ks.length
    · rw [if_pos h2] at e; cases e
    · rw [if_neg h2] at e
      by_cases h3 : (zfo L p = 97 ∧ kd ≠ 1) ∨ (zfo L p ≠ 97 ∧ kd = 1)
      · rw [if_pos h3] at e; cases e
      · rw [if_neg h3] at e
        cases e
        exact List.length_append
theorem zpvs_len {a kd need : Nat} (hn : need ≤ 2) : ∀ {n : Nat} {ks : List Int64} {p : Nat} {r : List Int64 × Nat}, n + ks.length = 7 → zpvs L a kd need n ks p = .inl r → need ≤ r.1.length
  | 0, ks, p, r, hl, e => by
    have e : (Sum.inl (ks, p) : (List Int64 × Nat) ⊕ (Nat × Int32)) = .inl r := e
    cases e
    show need ≤ ks.length
    omega
  | n + 1, ks, p, r, hl, e => by
    unfold zpvs at e
    by_cases h1 : ks.length < need ∨ (a = 105 ∧ (zfo L p = 48 ∨ zfo L p = 97))
    · rw [if_pos h1] at e
      cases hz : zpv1 L kd ks p with
      | inl ks' =>
        rw [hz] at e
        have e : zpvs L a kd need n ks' (p + 1) = .inl r := e
        exact zpvs_len hn (by rw [zpv1_len hz]; omega) e
      | inr x =>
        rw [hz] at e
        cases e
    · rw [if_neg h1] at e
      cases e
      show need ≤ ks.length
      omega
theorem zRd.many0 (R : zRd h q qs T L p ks fk fp) : ∃ g, zf_put 3 3 q (.int (0 : Int32)) h = some g ∧ zRd g q qs T L p [] fk fp ∧ zU q 2 h g := by
  have r := zh_put (k := 3) (v := .int (0 : Int32)) R.c (by show _ < 7; decide)
  have u : zU q 2 h (h.set q (.inr (3, [.ref 150, .ref qs, .ref (q + 1), .int (0 : Int32), .int (nI p), .int fk, .int fp]))) := zU_s R.c rfl (by omega)
  obtain ⟨f, k1, k2⟩ := R.2.1
  exact ⟨_, r, R.U2 u (zh_set_s R.c) ⟨f, by rw [zh_set_n (by omega)]; exact k1, fun i hi => absurd hi (Nat.not_lt_zero _)⟩ R.p20 (by decide), u⟩
theorem zask_b (R : zRd h q qs T L p ks fk fp) (i : Nat) : zask L i ≤ 255 := by
  have hb := (R.Lb i).1
  unfold zask
  by_cases e1 : zfo L i = 60 ∨ zfo L i = 62 ∨ zfo L i = 61
  · rw [if_pos e1]; exact hb
  · rw [if_neg e1]
    by_cases e2 : zfo L i = 97
    · rw [if_pos e2]
      by_cases e3 : zvu L i = 29807
      · rw [if_pos e3]; decide
      · rw [if_neg e3]
        by_cases e4 : zvu L i = 26990
        · rw [if_pos e4]; decide
        · rw [if_neg e4]
          by_cases e5 : zvu L i = 30796717039906407
          · rw [if_pos e5]; decide
          · rw [if_neg e5]; decide
    · rw [if_neg e2]; decide
theorem zRd.lt (R : zRd h q qs T L p ks fk fp) {i : Nat} (h0 : zfo L i ≠ 0) : i < L.length := by
  rcases Nat.lt_or_ge i L.length with h1 | h1
  · exact h1
  · unfold zfo at h0
    rw [zgdT L i h1] at h0
    exact absurd rfl h0
theorem zRd.readVals (R : zRd h q qs T L p ks fk fp) {a kd : Nat} (ha : a ≤ 255) (hkd : kd ≤ 1) : zVo h q qs T L fk fp (f_FilterReader_readValues q (nI a) (nI kd) h) (zpvs L a kd (zneed a) 7 [] p) := by
  obtain ⟨g, r, R2, U⟩ := R.many0
  have nE : ∀ b : Nat, b ≤ 255 → a ≠ b → ¬ nI a = nI b := fun b hb hn x => hn ((nI_eq (by omega) (by omega)).mp x)
  have hv := R2.vals (a := a) (kd := kd) (need := zneed a) ha hkd (by
    unfold zneed
    by_cases e1 : a = 109
    · rw [if_pos e1]; decide
    · rw [if_neg e1]
      by_cases e2 : a = 116
      · rw [if_pos e2]
        exact Nat.le_refl _
      · rw [if_neg e2]; decide) zF 7 rfl (by decide)
  refine zVo_U U ?_ hv
  unfold f_FilterReader_readValues zneed
  rw [ze_b r]
  by_cases e1 : a = 109
  · rw [if_neg (show ¬ ¬ nI a = (109 : Int32) from fun x => x (by rw [e1]; rfl)), if_pos e1]
    rfl
  · rw [if_pos (show ¬ nI a = (109 : Int32) from nE 109 (by decide) e1), if_neg e1]
    by_cases e2 : a = 116
    · rw [if_neg (show ¬ ¬ nI a = (116 : Int32) from fun x => x (by rw [e2]; rfl)), if_pos e2]
      rfl
    · rw [if_pos (show ¬ nI a = (116 : Int32) from nE 116 (by decide) e2), if_neg e2]
      rfl
theorem zn_m1 {c : Nat} (hc : c < 1000) : ¬ nI c = (-1 : Int32) := by
  intro x
  have := congrArg Int32.toInt x
  rw [nI_toInt (by omega), show ((-1 : Int32)).toInt = -1 by decide] at this
  omega
theorem zRd.test (R : zRd h q qs T L p ks fk fp) (hf : zfo L p = 35) (hB : zM h ≤ 7000000) : zRo 1 q qs T L fk fp h.length h (f_FilterReader_readTest q h) (zpt L T p) := by
  have hpl := R.lt (i := p) (by rw [hf]; decide)
  have h161 := R.K.2.2.2.2
  have hlb := (R.Lb p).2
  have A0 := zh_A R.c (k := 0) rfl
  have I4 := zh_I R.c (k := 4) rfl
  have h4 := R.S.c4
  unfold zpt
  by_cases e1 : zvu L p = -1
  · rw [if_pos e1]
    refine R.fails 1 (zpc L p + 1) ?_
    unfold f_FilterReader_readTest
    rw [ze_b A0, ze_b I4, ze_b R.K.is, ze_b2 (R.K.value (by omega)), if_neg (show ¬ ¬ (zvu L p).toInt32 = -1 from fun x => x (by rw [e1]; rfl)), ze_b A0, ze_b I4, ze_b R.K.is, ze_b2 (R.K.place (by omega)), ze_b R.is]
    rfl
  · rw [if_neg e1]
    obtain ⟨c, hc, ec⟩ := (hlb.resolve_left e1) hf
    have ecn : (zvu L p).toInt.toNat = c := by
      rw [ec, zN_t (by omega)]
      rfl
    rw [ecn]
    have start : f_FilterReader_readTest q h = zf_b2 (f_Sheet_hasColumn qs (nI c) h) (fun v6 h7 =>
        if ¬ v6 = 0 then
          zf_b (zf_I 3 4 q h7) fun v8 =>
          zf_b (zf_is 3 q h7) fun _ =>
          zf_b2 (f_FilterReader_askedBy q (v8 + (1 : Int32)) h7) fun v9 h10 =>
          if ¬ v9 = (-1 : Int32) then
            zf_b (zf_I 3 4 q h10) fun v11 =>
            zf_b (zf_put 3 4 q (.int (v11 + (2 : Int32))) h10) fun h12 =>
            zf_b (zf_A 3 1 q h12) fun v13 =>
            zf_b (zf_is 10 v13 h12) fun _ =>
            zf_b2 (f_Sheet_kindOf v13 (nI c) h12) fun v14 h15 =>
            zf_b (zf_is 3 q h15) fun _ =>
            zf_b2 (f_FilterReader_readValues q v9 v14 h15) fun v16 h17 =>
            if v16 = 0 then
              some (none, h17)
            else
              zf_b2 (zf_new 8 h17) fun q18 h19 =>
              zf_b (zf_is 3 q h19) fun _ =>
              zf_b2 (f_FilterReader_rowsOfTest q (nI c) v9 h19) fun v20 h21 =>
              zf_b2 (f_Node_init q18 (0 : Int32) v20 h21) fun _ h23 =>
              some ((some q18), h23)
          else
            zf_b (zf_A 3 0 q h10) fun v24 =>
            zf_b (zf_I 3 4 q h10) fun v25 =>
            zf_b (zf_is 11 v24 h10) fun _ =>
            zf_b2 (f_Tokens_placeAt v24 (v25 + (1 : Int32)) h10) fun v26 h27 =>
            zf_b (zf_is 3 q h27) fun _ =>
            zf_b2 (f_FilterReader_fail q (1 : Int32) v26 h27) fun v28 h29 =>
            some (v28, h29)
        else
          zf_b (zf_A 3 0 q h7) fun v30 =>
          zf_b (zf_I 3 4 q h7) fun v31 =>
          zf_b (zf_is 11 v30 h7) fun _ =>
          zf_b2 (f_Tokens_placeAt v30 v31 h7) fun v32 h33 =>
          zf_b (zf_is 3 q h33) fun _ =>
          zf_b2 (f_FilterReader_fail q (2 : Int32) v32 h33) fun v34 h35 =>
          some (v34, h35)) := by
      unfold f_FilterReader_readTest
      rw [ze_b A0, ze_b I4, ze_b R.K.is, ze_b2 (R.K.value (by omega)), ec, lN_i, if_pos (zn_m1 (by omega)), ze_b (zh_A R.c (k := 1) rfl), ze_b R.S.ok]
    by_cases e2 : T.nc ≤ c
    · rw [if_pos e2]
      refine R.fails 2 (zpc L p) ?_
      rw [start, ze_b2 (R.S.hasColumn _), if_pos (Or.inr (nI_le e2 (by omega))), if_neg (by decide), ze_b A0, ze_b I4, ze_b R.K.is, ze_b2 (R.K.place (by omega)), ze_b R.is]
      rfl
    · have hcn : c < T.nc := Nat.lt_of_not_le e2
      rw [if_neg e2]
      have hb9 := zask_b R (p + 1)
      have ea := R.asked (p + 1) (by omega)
      have hcol : f_Sheet_hasColumn qs (nI c) h = some (1, h) := R.S.hasColumn1 hcn
      by_cases e3 : zask L (p + 1) = 0
      · rw [if_pos e3]
        rw [if_pos e3] at ea
        refine R.fails 1 (zpc L (p + 1)) ?_
        rw [start, ze_b2 hcol, if_pos (by decide), ze_b I4, ze_b R.is, nI_1, ze_b2 ea, if_neg (by decide), ze_b A0, ze_b I4, ze_b R.K.is, nI_1, ze_b2 (R.K.place (by omega)), ze_b R.is]
        rfl
      · rw [if_neg e3]
        rw [if_neg e3] at ea
        obtain ⟨g1, r1, R1, U1⟩ := R.to (p + 2) (by omega)
        have hv := R1.readVals (a := zask L (p + 1)) (kd := T.kd c) hb9 (R.F.k1 hcn)
        have stop : f_FilterReader_readTest q h = zf_b2 (f_FilterReader_readValues q (nI (zask L (p + 1))) (nI (T.kd c)) g1) (fun v16 h17 =>
            if v16 = 0 then
              some (none, h17)
            else
              zf_b2 (zf_new 8 h17) fun q18 h19 =>
              zf_b (zf_is 3 q h19) fun _ =>
              zf_b2 (f_FilterReader_rowsOfTest q (nI c) (nI (zask L (p + 1))) h19) fun v20 h21 =>
              zf_b2 (f_Node_init q18 (0 : Int32) v20 h21) fun _ h23 =>
              some ((some q18), h23)) := by
          rw [start, ze_b2 hcol, if_pos (by decide), ze_b I4, ze_b R.is, nI_1, ze_b2 ea, if_pos (zn_m1 (by omega)), ze_b I4, show (2 : Int32) = nI 2 from rfl, nI_add, ze_b r1, ze_b (zh_A R1.c (k := 1) rfl), ze_b R1.S.ok, ze_b2 (R1.S.kindOf hcn), ze_b R1.is]
        cases hz : zpvs L (zask L (p + 1)) (T.kd c) (zneed (zask L (p + 1))) 7 [] (p + 2) with
        | inl r =>
          rw [hz] at hv
          obtain ⟨ks', p'⟩ := r
          obtain ⟨g2, r2, R2, U2⟩ := hv
          have hlen := zpvs_len (by
            unfold zneed
            by_cases e1 : zask L (p + 1) = 109
            · rw [if_pos e1]; decide
            · rw [if_neg e1]
              by_cases e2 : zask L (p + 1) = 116
              · rw [if_pos e2]
                exact Nat.le_refl _
              · rw [if_neg e2]; decide) (show 7 + ([] : List Int64).length = 7 from rfl) hz
          have M2 : zM g2 = zM h := by unfold zM; rw [U2.1, U2.2.1, U1.1, U1.2.1]
          have l2 : g2.length = h.length := U2.1.trans U1.1
          have R3 := R2.app (.inr (8, zx_def 8))
          have R4 := R2.app (.inr (8, [.int 0, .long (zB (zrt T c (zask L (p + 1)) ks') T.nr), .null, .null, .null, .null, .null]))
          have er := R3.rows hcn hb9 hlen
          have ce : (g2 ++ [.inr (8, [.int 0, .long (zB (zrt T c (zask L (p + 1)) ks') T.nr), .null, .null, .null, .null, .null])])[g2.length]? = some (.inr (8, [.int 0, .long (zB (zrt T c (zask L (p + 1)) ks') T.nr), .null, .null, .null, .null, .null])) := zG_end
          refine ⟨_, g2.length, ks', ?_, by omega, R4, ⟨by rw [List.length_append]; exact Nat.lt_succ_self _, Or.inl ⟨zh_I ce rfl, rfl⟩⟩, ⟨_, ce, rfl⟩, ?_, zh_J ce rfl, ?_⟩
          · rw [stop, ze_b2 r2, if_neg (by decide), ze_b2 (zh_newO (zlim (by omega))), ze_b R3.is, ze_b2 er, ze_b2 (zNinit _ _)]
          · exact zf_N_of (v := none) (by rw [zh_get ce]; rfl)
          · refine ((zFr_U (b := h.length) U1).t ((zFr_U U2).t (zFr_app.w zsz8 (by omega)))).w (by omega) (Nat.le_refl _)
        | inr e =>
          rw [hz] at hv
          obtain ⟨g2, p', ks', r2, R2, U2⟩ := hv
          refine ⟨g2, p', ks', ?_, R2, ((zFr_U (b := h.length) U1).t (zFr_U U2)).w (by omega) (Nat.le_refl _)⟩
          rw [stop, ze_b2 r2, if_pos rfl]
end ZRU

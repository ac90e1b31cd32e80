/-! ===== a run over names is, for every script, one of its outcomes filled in ===== -/
theorem zy_fn_eq {α : Type} (n : Nat) (k : Nat → α) : zy_fn n k = k n := by cases n <;> rfl
theorem zs_ofNatL (y : Int64) : Int64.ofNat y.toUInt64.toNat = y := by
  apply Int64.toBitVec.inj
  simp [Int64.ofNat]
theorem zy_fv_eq {α : Type} (v : Value) (k : Value → α) : zy_fv v k = k v := by
  cases v <;> simp only [zy_fv, zy_fn_eq, zs_ofNat, zs_ofNatL]
theorem zy_fs_eq {α : Type} (st : List Value) (k : List Value → α) : zy_fs st k = k st := by
  cases st <;> simp only [zy_fs, zy_fv_eq]
theorem zy_fm_eq {α : Type} (st : List Value) (k : List Value → α) : zy_fm st k = k st := by
  cases st <;> rfl
theorem zy_fl_eq {α : Type} : ∀ (lv : List (Nat × Value)) (k : List (Nat × Value) → α), zy_fl lv k = k lv
  | [], k => rfl
  | (i, v) :: r, k => by simp only [zy_fl, zy_fv_eq, zy_fn_eq, zy_fl_eq r]
theorem zy_F_eq {α : Type} (b : Bool) (f : zx_F) (k : zx_F → α) : zy_F b f k = k f := by
  obtain ⟨pc, lv, st⟩ := f
  cases b <;> simp only [zy_F, zy_fn_eq, zy_fs_eq, zy_fl_eq, if_true, if_false, Bool.false_eq_true]
theorem zy_pc_eq {nL pc n : Nat} {lv : List (Nat × Value)} {st : List Value} {ins : Instr} : ((zy_pc ins n).bind fun g => g nL pc lv st) = zx_p nL pc lv st ins n := by
  cases ins <;> rcases n with _ | _ | _ | _ | _ | _ | n <;> rfl
theorem zy_hc_eq {oc pc n : Nat} {ini : Bool} {sc : (Nat × (Nat → Int32)) × Bool} {lv : List (Nat × Value)} {st : List Value} {h : zx_H} {ins : Instr} : ((zy_hc ins n).bind fun g => g oc ini sc pc lv st h) = zx_h oc ini sc pc lv st h ins n := by
  cases ins <;> rcases n with _ | _ | _ | _ | _ | _ | n <;> first | rfl | (simp only [zy_hc, zx_h, Option.bind_some, zy_nth_eq, zy_set_eq, zy_pool_eq, zy_lng_eq, zy_getf_eq, zy_putf_eq, zy_ob_eq]; try rfl)
theorem zy_h2c_eq {oc pc n : Nat} {sc : (Nat × (Nat → Int32)) × Bool} {lv : List (Nat × Value)} {st : List Value} {h : zx_H} {ins : Instr} : ((zy_h2c ins n).bind fun g => g oc sc pc lv st h) = zx_h2 oc sc pc lv st h ins n := by
  cases ins <;> rcases n with _ | _ | _ | _ | _ | _ | n <;> first | rfl | (simp only [zy_h2c, zx_h2, Option.bind_some, zy_nth_eq, zy_set_eq, zy_pool_eq, zy_lng_eq, zy_getf_eq, zy_putf_eq, zy_ob_eq]; try rfl)
theorem zy_rc_eq {n : Nat} {ret : Option FieldType} {st : List Value} {ins : Instr} : ((zy_rc ins n).bind fun g => g ret st) = zx_rt ret st ins n := by
  cases ins <;> rcases n with _ | _ | _ | _ | _ | _ | n <;> rfl
theorem zy_cc_eq {oc n : Nat} {st : List Value} {h : zx_H} {ins : Instr} : ((zy_cc ins n).bind fun g => g oc st h) = zx_c oc st h ins n := by
  cases ins <;> rcases n with _ | _ | _ | _ | _ | _ | n <;> first | rfl | (simp only [zy_cc, zx_c, Option.bind_some, zy_nth_eq, zy_set_eq, zy_pool_eq, zy_lng_eq, zy_getf_eq, zy_putf_eq, zy_ob_eq, zy_kl_eq]; try rfl)
section ZYRN
variable {sc : (Nat × (Nat → Int32)) × Bool} {n d mi pc : Nat} {lv : List (Nat × Value)} {st : List Value} {h h1 : zx_H} {y : MethodName} {cc : ByteArray} {nL : Nat} {ret : Option FieldType} {hh : List (Nat × Nat × Nat × Nat)} {oc np hc hs hsel hi : Nat} {ins : Instr} {len : Nat} {f : zx_F}
theorem zr_p (hq : zt_m[mi]? = some (y, cc, nL, ret, hh, oc, np, hc, hs, hsel, hi)) (hd : decode cc pc = .ok (ins, len)) (hp : zx_p nL pc lv st ins len = some f) : zx_run sc (n + 1) d mi (pc, lv, st) h = zx_run sc n d mi f h := by
  conv => lhs; unfold zx_run
  simp only [hq, hd, hp]
theorem zr_h (hq : zt_m[mi]? = some (y, cc, nL, ret, hh, oc, np, hc, hs, hsel, hi)) (hd : decode cc pc = .ok (ins, len)) (hp : zx_p nL pc lv st ins len = none) (hh1 : zx_h oc (hs == 2) sc pc lv st h ins len = some (f, h1)) : zx_run sc (n + 1) d mi (pc, lv, st) h = zx_run sc n d mi f h1 := by
  conv => lhs; unfold zx_run
  simp only [hq, hd, hp, hh1]
theorem zr_h2 (hq : zt_m[mi]? = some (y, cc, nL, ret, hh, oc, np, hc, hs, hsel, hi)) (hd : decode cc pc = .ok (ins, len)) (hp : zx_p nL pc lv st ins len = none) (hh1 : zx_h oc (hs == 2) sc pc lv st h ins len = none) (hh2 : zx_h2 oc sc pc lv st h ins len = some (f, h1)) : zx_run sc (n + 1) d mi (pc, lv, st) h = zx_run sc n d mi f h1 := by
  conv => lhs; unfold zx_run
  simp only [hq, hd, hp, hh1, hh2]
theorem zr_r {v : Option Value} (hq : zt_m[mi]? = some (y, cc, nL, ret, hh, oc, np, hc, hs, hsel, hi)) (hd : decode cc pc = .ok (ins, len)) (hp : zx_p nL pc lv st ins len = none) (hh1 : zx_h oc (hs == 2) sc pc lv st h ins len = none) (hh2 : zx_h2 oc sc pc lv st h ins len = none) (hr : zx_rt ret st ins len = some v) : zx_run sc (n + 1) d mi (pc, lv, st) h = some (.inl v, h) := by
  unfold zx_run
  simp only [hq, hd, hp, hh1, hh2, hr]
theorem zr_c {mj : Nat} {as rest : List Value} {v : Option Value} (hq : zt_m[mi]? = some (y, cc, nL, ret, hh, oc, np, hc, hs, hsel, hi)) (hd : decode cc pc = .ok (ins, len)) (hp : zx_p nL pc lv st ins len = none) (hh1 : zx_h oc (hs == 2) sc pc lv st h ins len = none) (hh2 : zx_h2 oc sc pc lv st h ins len = none) (hr : zx_rt ret st ins len = none) (hcl : zx_c oc st h ins len = some (mj, as, rest))
    (kc : zx_run sc n d mj (0, lv_args 0 as, []) h = some (.inl v, h1)) : zx_run sc (n + 1) (d + 1) mi (pc, lv, st) h = zx_run sc n (d + 1) mi (pc + len, lv, v.toList ++ rest) h1 := by
  conv => lhs; unfold zx_run
  simp only [hq, hd, hp, hh1, hh2, hr, hcl, kc]
theorem zr_cx {mj E : Nat} {as rest : List Value} (hq : zt_m[mi]? = some (y, cc, nL, ret, hh, oc, np, hc, hs, hsel, hi)) (hd : decode cc pc = .ok (ins, len)) (hp : zx_p nL pc lv st ins len = none) (hh1 : zx_h oc (hs == 2) sc pc lv st h ins len = none) (hh2 : zx_h2 oc sc pc lv st h ins len = none) (hr : zx_rt ret st ins len = none) (hcl : zx_c oc st h ins len = some (mj, as, rest))
    (kc : zx_run sc n d mj (0, lv_args 0 as, []) h = some (.inr E, h1)) (hhd : zx_hd oc pc E hh = some none) : zx_run sc (n + 1) (d + 1) mi (pc, lv, st) h = some (.inr E, h1) := by
  conv => lhs; unfold zx_run
  simp only [hq, hd, hp, hh1, hh2, hr, hcl, kc, hhd]
theorem zr_ca {mj E hp9 : Nat} {as rest : List Value} (hq : zt_m[mi]? = some (y, cc, nL, ret, hh, oc, np, hc, hs, hsel, hi)) (hd : decode cc pc = .ok (ins, len)) (hp : zx_p nL pc lv st ins len = none) (hh1 : zx_h oc (hs == 2) sc pc lv st h ins len = none) (hh2 : zx_h2 oc sc pc lv st h ins len = none) (hr : zx_rt ret st ins len = none) (hcl : zx_c oc st h ins len = some (mj, as, rest))
    (kc : zx_run sc n d mj (0, lv_args 0 as, []) h = some (.inr E, h1)) (hhd : zx_hd oc pc E hh = some (some hp9)) (hca : zx_ca cc nL hp9 lv = some f) : zx_run sc (n + 1) (d + 1) mi (pc, lv, st) h = zx_run sc n (d + 1) mi f h1 := by
  conv => lhs; unfold zx_run
  simp only [hq, hd, hp, hh1, hh2, hr, hcl, kc, hhd, hca]
theorem zr_t {ci : Nat} (hq : zt_m[mi]? = some (y, cc, nL, ret, hh, oc, np, hc, hs, hsel, hi)) (hd : decode cc pc = .ok (ins, len)) (hp : zx_p nL pc lv st ins len = none) (hh1 : zx_h oc (hs == 2) sc pc lv st h ins len = none) (hh2 : zx_h2 oc sc pc lv st h ins len = none) (hr : zx_rt ret st ins len = none) (hcl : zx_c oc st h ins len = none) (hth : zx_th oc cc pc st ins len = some ci) (hlim : hh = [] ∧ h.length < zx_lim) : zx_run sc (n + 1) d mi (pc, lv, st) h = some (.inr ci, h ++ [.inr (ci, [])]) := by
  unfold zx_run
  simp only [hq, hd, hp, hh1, hh2, hr, hcl, hth]
  rw [if_pos hlim]
end ZYRN
theorem zy_all_mem {α β : Type} {g : α → Except Nat (List β)} : ∀ {l : List α} {L : List β}, zy_all g l = .ok L → ∀ x ∈ l, ∃ l1, g x = .ok l1 ∧ ∀ z ∈ l1, z ∈ L
  | [], L, _, x, hx => nomatch hx
  | a :: r, L, h, x, hx => by
    unfold zy_all at h
    split at h
    · next l1 h1 =>
      split at h
      · next l2 h2 =>
        cases h
        rcases List.mem_cons.mp hx with rfl | hx
        · exact ⟨l1, h1, fun z hz => List.mem_append_left _ hz⟩
        · obtain ⟨l3, h3, h4⟩ := zy_all_mem h2 x hx
          exact ⟨l3, h3, fun z hz => List.mem_append_right _ (h4 z hz)⟩
      · cases h
    · cases h
def zy_Out (len : Nat) (s : Nat → Int32) (nf : Bool) (n d mi : Nat) (f : zx_F) (h : zx_H) (L : List zy_R) : Prop := ∃ r ∈ L, zs_B len s r.1 ∧ zx_run ((len, s), nf) n d mi (zs_f len s f) (zs_h len s h) = some (zs_o len s r.2.1, zs_h len s r.2.2)
theorem zy_Out_sub {len : Nat} {s : Nat → Int32} {nf : Bool} {n d mi : Nat} {f : zx_F} {h : zx_H} {L L' : List zy_R} (hL : ∀ r ∈ L, r ∈ L') (h1 : zy_Out len s nf n d mi f h L) : zy_Out len s nf n d mi f h L' := by
  obtain ⟨r, hr, h2⟩ := h1
  exact ⟨r, hL r hr, h2⟩
set_option maxHeartbeats 4000000 in
theorem zy_snd {len : Nat} {s : Nat → Int32} (hlen : len ≤ 7) (nf nf' sb : Bool) (hnf : nf = nf' ∨ sb = true) : ∀ (n d mi : Nat) (bx : zy_B) (f : zx_F) (h : zx_H) (L : List zy_R), zy_run nf sb n d mi bx f h = .ok L → zs_B len s bx → zy_Out len s nf' n d mi f h L := by
  intro n
  induction n with
  | zero => intro d mi bx f h L h1; cases h1
  | succ n ih =>
    intro d mi bx f h L h1 hB
    obtain ⟨pc, lv, st⟩ := f
    unfold zy_run zy_k1 zy_k2 zy_k3 zy_k4 zy_k5 zy_k6 zy_k7 zy_k8 zy_k9 at h1
    simp only [zy_fm_eq, zy_F_eq, zy_pc_eq, zy_hc_eq, zy_h2c_eq, zy_rc_eq, zy_cc_eq, zy_nth_eq, zy_hd_eq] at h1
    split at h1
    · cases h1
    next y cc nL ret hh oc np hc hs hsel hi hq =>
    split at h1
    · cases h1
    next ins ln hz =>
    have hd : decode cc pc = .ok (ins, ln) := zd_ok hq hz
    -- the stack with what is known
    have hst : ∃ st0, (if zy_cs ins = true then zy_nm bx st else st) = st0 ∧ zs_st len s st0 = zs_st len s st := by
      refine ⟨_, rfl, ?_⟩
      split
      · exact zs_nm hB st
      · rfl
    obtain ⟨st0, he0, hst⟩ := hst
    rw [he0] at h1
    have hf : zs_f len s (pc, lv, st) = (pc, zs_lv len s lv, zs_st len s st0) := by rw [hst]; rfl
    unfold zy_Out
    rw [hf]
    split at h1
    · next st' hop =>
      obtain ⟨r, hr, hrB, hrun⟩ := ih _ _ _ _ _ _ h1 hB
      refine ⟨r, hr, hrB, ?_⟩
      rw [hst]
      rcases zs_op hB hlen hop nL pc oc (hs == 2) nf' (zs_lv len s lv) (zs_h len s h) with h9 | ⟨h8, h9⟩
      · rw [zr_p hq hd h9]; exact hrun
      · rw [zr_h hq hd h8 h9]; exact hrun
    split at h1
    · next c b m hsp =>
      split at h1
      · cases h1
      next hc64 =>
      have hfe : (pc, zs_lv len s lv, zs_st len s st0) = zs_f len s (pc, lv, st) := hf.symm
      have half : ∀ (B' : zy_B) (l : List zy_R), (bif zy_bad c B' then Except.ok [] else zy_run nf sb n d mi B' (pc, lv, st) h) = .ok l → zs_B len s B' → ∃ r ∈ l, zs_B len s r.1 ∧ zx_run ((len, s), nf') (n + 1) d mi (pc, zs_lv len s lv, zs_st len s st0) (zs_h len s h) = some (zs_o len s r.2.1, zs_h len s r.2.2) := by
        intro B' l hl hB'
        cases hbd : zy_bad c B' with
        | true => exact (zs_bad hB' (by omega) hbd).elim
        | false =>
          rw [hbd] at hl
          obtain ⟨r, hr, hrB, hrun⟩ := ih _ _ _ _ _ _ hl hB'
          exact ⟨r, hr, hrB, by rw [hfe]; exact zx_run_more n d mi _ _ _ hrun 1 0⟩
      split at h1
      · next l1 hl1 =>
        split at h1
        · next l2 hl2 =>
          cases h1
          rcases zs_split hB (c := c) (by omega) b m with hB1 | hB2
          · obtain ⟨r, hr, h9⟩ := half _ _ hl1 hB1
            exact ⟨r, List.mem_append_left _ hr, h9⟩
          · obtain ⟨r, hr, h9⟩ := half _ _ hl2 hB2
            exact ⟨r, List.mem_append_right _ hr, h9⟩
        · cases h1
      · cases h1
    split at h1
    · next f' hp =>
      split at h1
      · next hk =>
        obtain ⟨r, hr, hrB, hrun⟩ := ih _ _ _ _ _ _ h1 hB
        refine ⟨r, hr, hrB, ?_⟩
        have h9 := zs_p (len := len) (s := s) hp hk
        have h8 : zx_p nL pc (zs_lv len s lv) (zs_st len s st0) ins ln = some (zs_f len s f') := by
          cases hcp : (zy_cp ins).bind fun g => g bx st0 with
          | none => rw [hcp] at h9; exact h9
          | some st' => rw [hcp] at h9; exact zs_cp hB hcp h9
        rw [zr_p hq hd h8]; exact hrun
      · cases h1
    split at h1
    · next f' h' hh1 =>
      split at h1
      · next hk =>
        obtain ⟨r, hr, hrB, hrun⟩ := ih _ _ _ _ _ _ h1 hB
        refine ⟨r, hr, hrB, ?_⟩
        rw [zr_h hq hd (zn_h_p hh1 _ _ _ _) (zs_hh hh1 hk)]; exact hrun
      · cases h1
    next hnh =>
    split at h1
    · next f' h' hh2 =>
      split at h1
      · next hk =>
        simp only [Bool.and_eq_true, decide_eq_true_eq] at hk
        obtain ⟨r, hr, hrB, hrun⟩ := ih _ _ _ _ _ _ h1 hB
        refine ⟨r, hr, hrB, ?_⟩
        rw [zr_h2 hq hd (zn_h2_p hh2 _ _ _ _) (zn_h2_h (nf' := nf') hh2 hnh hk.1 hk.2) (zs_hh2 hnf hh2 hk.1 hk.2)]; exact hrun
      · cases h1
    split at h1
    · next v hv =>
      split at h1
      · next hu =>
        cases h1
        refine ⟨_, List.mem_singleton.mpr rfl, hB, ?_⟩
        obtain ⟨e1, e2, e3⟩ := zn_rt hv nL pc oc (hs == 2) ((len, s), nf') (zs_lv len s lv) (zs_st len s st0) (zs_h len s h)
        rw [zr_r hq hd e1 e2 e3 (zs_rt hv hu)]
        rfl
      · cases h1
    split at h1
    · next mj as rest hcl =>
      split at h1
      · cases h1
      next d' =>
      split at h1
      · cases h1
      next l1 hl1 =>
      obtain ⟨r, hr, hrB, hrun⟩ := ih _ _ _ _ _ _ hl1 hB
      obtain ⟨e1, e2, e3, e4⟩ := zn_c hcl nL pc (hs == 2) ((len, s), nf') (zs_lv len s lv) (zs_st len s st0) (zs_h len s h) ret
      have hcl' := zs_c (len := len) (s := s) hcl
      have hargs : zs_f len s (0, lv_args 0 as, []) = (0, lv_args 0 (zs_st len s as), []) := by
        rw [zs_args]; rfl
      rw [hargs] at hrun
      obtain ⟨l2, hl2, hsub⟩ := zy_all_mem h1 r hr
      unfold zy_kr at hl2
      simp only [zy_F_eq, zy_hd_eq] at hl2
      obtain ⟨bx', o1, h'⟩ := r
      rcases o1 with v | E
      · dsimp only at hl2
        obtain ⟨r2, hr2, hrB2, hrun2⟩ := ih _ _ _ _ _ _ hl2 hrB
        refine ⟨r2, hsub _ hr2, hrB2, ?_⟩
        rw [zr_c hq hd e1 e2 e3 e4 hcl' hrun]
        have hv : zs_f len s (pc + ln, lv, v.toList ++ rest) = (pc + ln, zs_lv len s lv, (v.map (zs_v len s)).toList ++ zs_st len s rest) := by
          cases v <;> simp [zs_f]
        rw [hv] at hrun2
        exact hrun2
      · dsimp only at hl2
        split at hl2
        · cases hl2
        · next hhd =>
          cases hl2
          refine ⟨_, hsub _ (List.mem_singleton.mpr rfl), hrB, ?_⟩
          rw [zr_cx hq hd e1 e2 e3 e4 hcl' hrun hhd]
          rfl
        · next hp9 hhd =>
          split at hl2
          · cases hl2
          · next f' hca0 =>
            have hca := zy_ca_ok hq hca0
            obtain ⟨r2, hr2, hrB2, hrun2⟩ := ih _ _ _ _ _ _ hl2 hrB
            refine ⟨r2, hsub _ hr2, hrB2, ?_⟩
            rw [zr_ca hq hd e1 e2 e3 e4 hcl' hrun hhd (zs_ca hca)]
            exact hrun2
    split at h1
    · next ci hth0 =>
      have hth := zy_tc_ok hq hth0
      split at h1
      · next hlim =>
        cases h1
        refine ⟨_, List.mem_singleton.mpr rfl, hB, ?_⟩
        obtain ⟨e1, e2, e3, e4, e5⟩ := zn_th hth nL pc (hs == 2) ((len, s), nf') (zs_lv len s lv) (zs_st len s st0) (zs_h len s h) ret
        rw [zr_t hq hd e1 e2 e3 e4 e5 (zs_th hth) ⟨hlim.1, by rw [zs_hlen]; exact hlim.2⟩]
        simp only [zs_o, zs_hpush]
        rfl
      · cases h1
    · cases h1

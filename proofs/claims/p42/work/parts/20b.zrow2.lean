/-! ===== a field of fewer bits ===== -/
section ZVN
variable {sc : (Nat × (Nat → Int32)) × Bool} {d mi pc : Nat} {lv : List (Nat × Value)} {st : List Value} {h h1 h' : zx_H} {o : zx_O} {y : MethodName} {cc : ByteArray} {nL : Nat} {ret : Option FieldType} {hh : List (Nat × Nat × Nat × Nat)} {oc np hc hs hsel hi : Nat} {t : zd_T}
theorem zf_nfits {v : Int32} (hn : narrow .byte (.int v) = .int v) : fits .byte (.int v) = true := by
  have h1 : v.toInt8.toInt32 = v := by
    simp only [narrow, Value.int.injEq] at hn
    exact hn
  have h2 := v.toInt8.toInt_lt
  have h3 := v.toInt8.le_toInt
  rw [← h1]
  simp only [fits, Bool.and_eq_true, decide_eq_true_eq, Int32.le_iff_toInt_le, Int8.toInt_toInt32, show (-128 : Int32).toInt = -128 from by decide, show (127 : Int32).toInt = 127 from by decide]
  omega
theorem zv_pfn {i kd ci k w q : Nat} {v : Int32} (hq : zt_m[mi]? = some (y, cc, nL, ret, hh, oc, np, hc, hs, hsel, hi)) (zo : zd_of mi = some t) (hd : zd_at t pc = some (.putfield i, 3)) (hp : zx_pool oc i = some (kd, ci, k, w)) (hn : narrow .byte (.int v) = .int v) (hb : (decide (zx_ftype ci k = .byte) && ((Nat.ble kd 1 && !zx_fin ci k) || (Nat.beq kd 0 && (hs == 2) && zx_fin ci k && Nat.beq oc ci && zx_own ci k))) = true) (hv : zf_put ci k q (.int v) h = some h1) (k9 : zx_T sc d mi (pc + 3, lv, st) h1 o h') : zx_T sc d mi (pc, lv, .int v :: .ref q :: st) h o h' := by
  rw [Bool.and_eq_true, decide_eq_true_eq] at hb
  exact zv_pf hq zo hd hp (by rw [hb.1]; exact hn) (by rw [hb.1, zf_nfits hn, hb.2]; rfl) hv k9
theorem zv_clone {y8 w8 y9 w9 q r j : Nat} (hq : zt_m[mi]? = some (y, cc, nL, ret, hh, oc, np, hc, hs, hsel, hi)) (zo : zd_of mi = some t) (hd : zd_at t pc = some (.invokevirtual 310, 3)) (hd2 : zd_at t (pc + 3) = some (.checkcast j, 3)) (hp : zx_pool oc 310 = some (23, 3, y9, w9)) (hp2 : zx_pool oc j = some (18, 3, y8, w8)) (hsm : Nat.ble ((st.map fun v => v.category).sum) 8 = true) (hv : zf_clone q h = some (r, h1)) (k9 : zx_T sc d mi (pc + 3 + 3, lv, .ref r :: st) h1 o h') : zx_T sc d mi (pc, lv, .ref q :: st) h o h' := by
  unfold zf_clone at hv
  split at hv
  · next t' n f hh2 =>
    split at hv
    · next hcc =>
      obtain ⟨rfl, c1, c2⟩ := hcc
      cases hv
      have e1 : (h ++ [.inl (3, n, .inl f)])[h.length]? = some (.inl (3, n, .inl f)) := by rw [List.getElem?_append_right (Nat.le_refl _), Nat.sub_self]; rfl
      have e2 : zx_h2 oc sc (pc + 3) lv (.ref h.length :: st) (h ++ [.inl (3, n, .inl f)]) (.checkcast j) 3 = some ((pc + 3 + 3, lv, .ref h.length :: st), h ++ [.inl (3, n, .inl f)]) := by
        simp only [zx_h2, hp2]
        rw [e1]
        exact if_pos rfl
      have k8 : zx_T sc d mi (pc + 3, lv, .ref h.length :: st) (h ++ [.inl (3, n, .inl f)]) o h' := zx_T_h2 hq (zv_d hq zo hd2) rfl rfl e2 k9
      have e3 : zx_h2 oc sc pc lv (.ref q :: st) h (.invokevirtual 310) 3 = some ((pc + 3, lv, .ref h.length :: st), h ++ [.inl (3, n, .inl f)]) := by
        simp only [zx_h2, hp, hh2, if_true]
        rw [if_pos ⟨trivial, c1, Nat.le_of_ble_eq_true hsm, c2⟩]
      exact zx_T_h2 hq (zv_d hq zo hd) rfl rfl e3 k8
    · cases hv
  · cases hv
end ZVN

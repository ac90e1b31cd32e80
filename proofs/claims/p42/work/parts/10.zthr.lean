/-! ===== throws: the words of each constructor that is called for one (written by wip/zx/gen_tables.py) ===== -/
def zt_exw : List (Nat × Nat × Nat) := [(12, 157, 13), (12, 61, 14), (12, 74, 15)]
set_option maxRecDepth 100000 in
theorem zt_ex0 : ∀ w ∈ vx_atS "ColumnVault" 157 "java/lang/IndexOutOfBoundsException" ["java/lang/RuntimeException", "java/lang/Exception"], (w ∈ lw_tbl ∧ (goodWord w = true ∨ zx_nwk w = true)) ∧ vx_ot w = true := by decide +kernel
set_option maxRecDepth 100000 in
theorem zt_ex1 : ∀ w ∈ vx_atS "ColumnVault" 61 "java/lang/IllegalArgumentException" ["java/lang/RuntimeException", "java/lang/Exception"], (w ∈ lw_tbl ∧ (goodWord w = true ∨ zx_nwk w = true)) ∧ vx_ot w = true := by decide +kernel
set_option maxRecDepth 100000 in
theorem zt_ex2 : ∀ w ∈ vx_atS "ColumnVault" 74 "java/lang/IllegalStateException" ["java/lang/RuntimeException", "java/lang/Exception"], (w ∈ lw_tbl ∧ (goodWord w = true ∨ zx_nwk w = true)) ∧ vx_ot w = true := by decide +kernel
theorem zt_exw_ok {oc ic ci : Nat} {own : String} {r : vw_C} (ho : zt_on[oc]? = some own) (hr : zt_cl[ci]? = some r) (h : (oc, ic, ci) ∈ zt_exw) : (∀ w ∈ vx_atS own ic r.1 ["java/lang/RuntimeException", "java/lang/Exception"], (w ∈ lw_tbl ∧ (goodWord w = true ∨ zx_nwk w = true)) ∧ vx_ot w = true) ∧ Bundle.fit r.1 = true ∧ vx_ot (.initialized r.1) = true ∧ (∀ ik, vx_ot (.classLink own ik r.1) = true) := by
  simp only [zt_exw, List.mem_cons, Prod.mk.injEq, List.not_mem_nil, or_false] at h
  rcases h with ⟨rfl, rfl, rfl⟩ | ⟨rfl, rfl, rfl⟩ | ⟨rfl, rfl, rfl⟩
  · cases ho; cases hr; exact ⟨zt_ex0, by decide +kernel, rfl, fun _ => rfl⟩
  · cases ho; cases hr; exact ⟨zt_ex1, by decide +kernel, rfl, fun _ => rfl⟩
  · cases ho; cases hr; exact ⟨zt_ex2, by decide +kernel, rfl, fun _ => rfl⟩
set_option maxRecDepth 100000 in
theorem zt_exn0 : ∀ w ∈ zn_at "ColumnVault" 314 "java/util/NoSuchElementException" ["java/lang/RuntimeException", "java/lang/Exception"], (w ∈ lw_tbl ∧ (goodWord w = true ∨ zx_nwk w = true)) ∧ vx_ot w = true := by decide +kernel
theorem zt_exn_ok {oc ic ci : Nat} {own : String} {r : vw_C} (ho : zt_on[oc]? = some own) (hr : zt_cl[ci]? = some r) (h : (oc, ic, ci) ∈ zt_exn) : (∀ w ∈ zn_at own ic r.1 ["java/lang/RuntimeException", "java/lang/Exception"], (w ∈ lw_tbl ∧ (goodWord w = true ∨ zx_nwk w = true)) ∧ vx_ot w = true) ∧ Bundle.fit r.1 = true ∧ vx_ot (.initialized r.1) = true ∧ (∀ ik, vx_ot (.classLink own ik r.1) = true) := by
  simp only [zt_exn, List.mem_cons, Prod.mk.injEq, List.not_mem_nil, or_false] at h
  obtain ⟨rfl, rfl, rfl⟩ := h
  · cases ho; cases hr; exact ⟨zt_exn0, by decide +kernel, rfl, fun _ => rfl⟩

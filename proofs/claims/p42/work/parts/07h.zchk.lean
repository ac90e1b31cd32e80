set_option maxRecDepth 100000 in
theorem zt_e22_5 : zt_eOK "jdk/internal/util/ArraysSupport" (58, 4, 228, 0, 6219) := ⟨_, rfl, (zt_in (j := 6) (k := 219) rfl rfl)⟩
set_option maxRecDepth 100000 in
theorem zt_e22_4 : zt_eOK "jdk/internal/util/ArraysSupport" (54, 6, 231, 0, 6202) := ⟨_, rfl, (zt_in (j := 6) (k := 202) rfl rfl)⟩
set_option maxRecDepth 100000 in
theorem zt_e22_3 : zt_eOK "jdk/internal/util/ArraysSupport" (49, 4, 229, 0, 6194) := ⟨_, rfl, (zt_in (j := 6) (k := 194) rfl rfl)⟩
set_option maxRecDepth 100000 in
theorem zt_e22_2 : zt_eOK "jdk/internal/util/ArraysSupport" (40, 4, 227, 0, 6185) := ⟨_, rfl, (zt_in (j := 6) (k := 185) rfl rfl)⟩
set_option maxRecDepth 100000 in
theorem zt_e22_1 : zt_eOK "jdk/internal/util/ArraysSupport" (30, 6, 219, 0, 6131) := ⟨_, rfl, (zt_in (j := 6) (k := 131) rfl rfl)⟩
set_option maxRecDepth 100000 in
theorem zt_e22_0 : zt_eOK "jdk/internal/util/ArraysSupport" (11, 4, 230, 0, 6220) := ⟨_, rfl, (zt_in (j := 6) (k := 220) rfl rfl)⟩
theorem zt_pl22_ok : ∀ e ∈ zt_pl22, zt_eOK "jdk/internal/util/ArraysSupport" e := List.forall_mem_cons.mpr ⟨zt_e22_0, List.forall_mem_cons.mpr ⟨zt_e22_1, List.forall_mem_cons.mpr ⟨zt_e22_2, List.forall_mem_cons.mpr ⟨zt_e22_3, List.forall_mem_cons.mpr ⟨zt_e22_4, List.forall_mem_cons.mpr ⟨zt_e22_5, List.forall_mem_cons.mpr ⟨zt_e22_6, List.forall_mem_cons.mpr ⟨zt_e22_7, List.forall_mem_cons.mpr ⟨zt_e22_8, fun _ h => absurd h List.not_mem_nil⟩⟩⟩⟩⟩⟩⟩⟩⟩
set_option maxRecDepth 100000 in
theorem zt_lc22_ok : ∀ e ∈ zt_lc22, Cond.constantLong "jdk/internal/util/ArraysSupport" e.1 e.2.1 ∈ zt_good := fun _ h => absurd h List.not_mem_nil
set_option maxRecDepth 100000 in
theorem zt_e23_12 : zt_eOK "java/util/Arrays" (343, 4, 165, 0, 5136) := ⟨_, rfl, (zt_in (j := 5) (k := 136) rfl rfl)⟩
set_option maxRecDepth 100000 in
theorem zt_e23_11 : zt_eOK "java/util/Arrays" (339, 4, 164, 0, 5133) := ⟨_, rfl, (zt_in (j := 5) (k := 133) rfl rfl)⟩
set_option maxRecDepth 100000 in
theorem zt_e23_10 : zt_eOK "java/util/Arrays" (337, 13, 0, 0, 5176) := ⟨" > ", zt_ch_in (j := 5) (List.mem_of_getElem? (i := 176) rfl), fun h => absurd h (by decide)⟩
set_option maxRecDepth 100000 in
theorem zt_e23_9 : zt_eOK "java/util/Arrays" (311, 18, 3, 0, 5045) := ⟨"[B", _, (zt_in (j := 5) (k := 45) rfl rfl), rfl, by decide +kernel⟩
set_option maxRecDepth 100000 in
theorem zt_e23_8 : zt_eOK "java/util/Arrays" (310, 23, 3, 0, 5039) := ⟨rfl, (zt_in (j := 5) (k := 39) rfl rfl), (zt_in (j := 5) (k := 40) rfl rfl), (zt_in (j := 5) (k := 41) rfl rfl), (zt_in (j := 5) (k := 42) rfl rfl), (zt_in (j := 5) (k := 43) rfl rfl), (zt_inN (j := 5) (k := 44) rfl rfl)⟩
set_option maxRecDepth 100000 in
theorem zt_e23_7 : zt_eOK "java/util/Arrays" (304, 16, 0, 1, 5046) := Or.inr (Or.inl ⟨rfl, (zt_in (j := 5) (k := 46) rfl rfl), (zt_in (j := 5) (k := 47) rfl rfl), (zt_in (j := 1) (k := 17) rfl rfl), (zt_in (j := 5) (k := 48) rfl rfl)⟩)
set_option maxRecDepth 100000 in
theorem zt_e23_6 : zt_eOK "java/util/Arrays" (150, 17, 0, 0, 5049) := (zt_in (j := 5) (k := 49) rfl rfl)
set_option maxRecDepth 100000 in
theorem zt_e23_5 : zt_eOK "java/util/Arrays" (61, 6, 157, 0, 5215) := ⟨_, rfl, (zt_in (j := 5) (k := 215) rfl rfl)⟩
set_option maxRecDepth 100000 in
theorem zt_e23_4 : zt_eOK "java/util/Arrays" (54, 6, 166, 0, 5142) := ⟨_, rfl, (zt_in (j := 5) (k := 142) rfl rfl)⟩
set_option maxRecDepth 100000 in
theorem zt_e23_3 : zt_eOK "java/util/Arrays" (50, 6, 175, 0, 5177) := ⟨_, rfl, (zt_in (j := 5) (k := 177) rfl rfl)⟩
set_option maxRecDepth 100000 in
theorem zt_e23_2 : zt_eOK "java/util/Arrays" (47, 8, 131, 0, 5141) := ⟨_, rfl, (zt_in (j := 5) (k := 141) rfl rfl)⟩
set_option maxRecDepth 100000 in
theorem zt_e23_1 : zt_eOK "java/util/Arrays" (45, 2, 1, 999, 5140) := ⟨"java/lang/StringBuilder", (zt_in (j := 5) (k := 140) rfl rfl), Or.inr rfl, Or.inl rfl⟩
set_option maxRecDepth 100000 in
theorem zt_e23_0 : zt_eOK "java/util/Arrays" (43, 2, 14, 999, 5139) := ⟨"java/lang/IllegalArgumentException", (zt_in (j := 5) (k := 139) rfl rfl), Or.inr rfl, Or.inl rfl⟩
theorem zt_pl23_ok : ∀ e ∈ zt_pl23, zt_eOK "java/util/Arrays" e := List.forall_mem_cons.mpr ⟨zt_e23_0, List.forall_mem_cons.mpr ⟨zt_e23_1, List.forall_mem_cons.mpr ⟨zt_e23_2, List.forall_mem_cons.mpr ⟨zt_e23_3, List.forall_mem_cons.mpr ⟨zt_e23_4, List.forall_mem_cons.mpr ⟨zt_e23_5, List.forall_mem_cons.mpr ⟨zt_e23_6, List.forall_mem_cons.mpr ⟨zt_e23_7, List.forall_mem_cons.mpr ⟨zt_e23_8, List.forall_mem_cons.mpr ⟨zt_e23_9, List.forall_mem_cons.mpr ⟨zt_e23_10, List.forall_mem_cons.mpr ⟨zt_e23_11, List.forall_mem_cons.mpr ⟨zt_e23_12, fun _ h => absurd h List.not_mem_nil⟩⟩⟩⟩⟩⟩⟩⟩⟩⟩⟩⟩⟩
set_option maxRecDepth 100000 in
theorem zt_lc23_ok : ∀ e ∈ zt_lc23, Cond.constantLong "java/util/Arrays" e.1 e.2.1 ∈ zt_good := fun _ h => absurd h List.not_mem_nil
set_option maxRecDepth 100000 in
theorem zt_e24_9 : zt_eOK "java/lang/StringLatin1" (240, 4, 147, 0, 5065) := ⟨_, rfl, (zt_in (j := 5) (k := 65) rfl rfl)⟩
set_option maxRecDepth 100000 in
theorem zt_e24_8 : zt_eOK "java/lang/StringLatin1" (65, 4, 186, 0, 7001) := ⟨_, rfl, (zt_in (j := 7) (k := 1) rfl rfl)⟩
set_option maxRecDepth 100000 in
theorem zt_e24_7 : zt_eOK "java/lang/StringLatin1" (59, 4, 241, 0, 6238) := ⟨_, rfl, (zt_in (j := 6) (k := 238) rfl rfl)⟩
set_option maxRecDepth 100000 in
theorem zt_e24_6 : zt_eOK "java/lang/StringLatin1" (58, 4, 149, 0, 6237) := ⟨_, rfl, (zt_in (j := 6) (k := 237) rfl rfl)⟩
set_option maxRecDepth 100000 in
theorem zt_e24_5 : zt_eOK "java/lang/StringLatin1" (54, 4, 240, 0, 6234) := ⟨_, rfl, (zt_in (j := 6) (k := 234) rfl rfl)⟩
set_option maxRecDepth 100000 in
theorem zt_e24_4 : zt_eOK "java/lang/StringLatin1" (50, 4, 236, 0, 6221) := ⟨_, rfl, (zt_in (j := 6) (k := 221) rfl rfl)⟩
set_option maxRecDepth 100000 in
theorem zt_e24_3 : zt_eOK "java/lang/StringLatin1" (44, 4, 217, 0, 6117) := ⟨_, rfl, (zt_in (j := 6) (k := 117) rfl rfl)⟩
set_option maxRecDepth 100000 in
theorem zt_e24_2 : zt_eOK "java/lang/StringLatin1" (38, 16, 0, 1, 6116) := Or.inr (Or.inl ⟨rfl, (zt_in (j := 6) (k := 116) rfl rfl), (zt_in (j := 5) (k := 47) rfl rfl), (zt_in (j := 1) (k := 17) rfl rfl), (zt_in (j := 5) (k := 48) rfl rfl)⟩)
set_option maxRecDepth 100000 in
theorem zt_e24_1 : zt_eOK "java/lang/StringLatin1" (34, 4, 216, 0, 6113) := ⟨_, rfl, (zt_in (j := 6) (k := 113) rfl rfl)⟩
set_option maxRecDepth 100000 in
theorem zt_e24_0 : zt_eOK "java/lang/StringLatin1" (9, 4, 155, 0, 6019) := ⟨_, rfl, (zt_in (j := 6) (k := 19) rfl rfl)⟩
theorem zt_pl24_ok : ∀ e ∈ zt_pl24, zt_eOK "java/lang/StringLatin1" e := List.forall_mem_cons.mpr ⟨zt_e24_0, List.forall_mem_cons.mpr ⟨zt_e24_1, List.forall_mem_cons.mpr ⟨zt_e24_2, List.forall_mem_cons.mpr ⟨zt_e24_3, List.forall_mem_cons.mpr ⟨zt_e24_4, List.forall_mem_cons.mpr ⟨zt_e24_5, List.forall_mem_cons.mpr ⟨zt_e24_6, List.forall_mem_cons.mpr ⟨zt_e24_7, List.forall_mem_cons.mpr ⟨zt_e24_8, List.forall_mem_cons.mpr ⟨zt_e24_9, fun _ h => absurd h List.not_mem_nil⟩⟩⟩⟩⟩⟩⟩⟩⟩⟩
set_option maxRecDepth 100000 in
theorem zt_lc24_ok : ∀ e ∈ zt_lc24, Cond.constantLong "java/lang/StringLatin1" e.1 e.2.1 ∈ zt_good := fun _ h => absurd h List.not_mem_nil
theorem zt_pl25_ok : ∀ e ∈ zt_pl25, zt_eOK "jdk/internal/util/Preconditions" e := fun _ h => absurd h List.not_mem_nil
set_option maxRecDepth 100000 in
theorem zt_lc25_ok : ∀ e ∈ zt_lc25, Cond.constantLong "jdk/internal/util/Preconditions" e.1 e.2.1 ∈ zt_good := fun _ h => absurd h List.not_mem_nil
set_option maxRecDepth 100000 in
theorem zt_e26_1 : zt_eOK "java/lang/Integer" (87, 14, 3, 0, 5157) := ⟨_, rfl, (zt_in (j := 5) (k := 157) rfl rfl)⟩
set_option maxRecDepth 100000 in
theorem zt_e26_0 : zt_eOK "java/lang/Integer" (83, 14, 2, 0, 5155) := ⟨_, rfl, (zt_in (j := 5) (k := 155) rfl rfl)⟩
theorem zt_pl26_ok : ∀ e ∈ zt_pl26, zt_eOK "java/lang/Integer" e := List.forall_mem_cons.mpr ⟨zt_e26_0, List.forall_mem_cons.mpr ⟨zt_e26_1, fun _ h => absurd h List.not_mem_nil⟩⟩
set_option maxRecDepth 100000 in
theorem zt_lc26_ok : ∀ e ∈ zt_lc26, Cond.constantLong "java/lang/Integer" e.1 e.2.1 ∈ zt_good := fun _ h => absurd h List.not_mem_nil
set_option maxRecDepth 100000 in
theorem zt_e27_10 : zt_eOK "jdk/internal/misc/Unsafe" (796, 4, 235, 0, 6216) := ⟨_, rfl, (zt_in (j := 6) (k := 216) rfl rfl)⟩
set_option maxRecDepth 100000 in
theorem zt_e27_9 : zt_eOK "jdk/internal/misc/Unsafe" (792, 4, 233, 0, 6209) := ⟨_, rfl, (zt_in (j := 6) (k := 209) rfl rfl)⟩
set_option maxRecDepth 100000 in
theorem zt_e27_8 : zt_eOK "jdk/internal/misc/Unsafe" (791, 4, 221, 0, 6149) := ⟨_, rfl, (zt_in (j := 6) (k := 149) rfl rfl)⟩
set_option maxRecDepth 100000 in
theorem zt_e27_7 : zt_eOK "jdk/internal/misc/Unsafe" (788, 4, 224, 0, 6167) := ⟨_, rfl, (zt_in (j := 6) (k := 167) rfl rfl)⟩
set_option maxRecDepth 100000 in
theorem zt_e27_6 : zt_eOK "jdk/internal/misc/Unsafe" (784, 4, 222, 0, 6153) := ⟨_, rfl, (zt_in (j := 6) (k := 153) rfl rfl)⟩
set_option maxRecDepth 100000 in
theorem zt_e27_5 : zt_eOK "jdk/internal/misc/Unsafe" (781, 4, 226, 0, 6179) := ⟨_, rfl, (zt_in (j := 6) (k := 179) rfl rfl)⟩
set_option maxRecDepth 100000 in
theorem zt_e27_4 : zt_eOK "jdk/internal/misc/Unsafe" (723, 4, 234, 0, 6213) := ⟨_, rfl, (zt_in (j := 6) (k := 213) rfl rfl)⟩
set_option maxRecDepth 100000 in
theorem zt_e27_3 : zt_eOK "jdk/internal/misc/Unsafe" (719, 4, 232, 0, 6206) := ⟨_, rfl, (zt_in (j := 6) (k := 206) rfl rfl)⟩
set_option maxRecDepth 100000 in
theorem zt_e27_2 : zt_eOK "jdk/internal/misc/Unsafe" (709, 4, 225, 0, 6176) := ⟨_, rfl, (zt_in (j := 6) (k := 176) rfl rfl)⟩
set_option maxRecDepth 100000 in
theorem zt_e27_1 : zt_eOK "jdk/internal/misc/Unsafe" (704, 4, 223, 0, 6164) := ⟨_, rfl, (zt_in (j := 6) (k := 164) rfl rfl)⟩
set_option maxRecDepth 100000 in
theorem zt_e27_0 : zt_eOK "jdk/internal/misc/Unsafe" (698, 4, 220, 0, 6146) := ⟨_, rfl, (zt_in (j := 6) (k := 146) rfl rfl)⟩
theorem zt_pl27_ok : ∀ e ∈ zt_pl27, zt_eOK "jdk/internal/misc/Unsafe" e := List.forall_mem_cons.mpr ⟨zt_e27_0, List.forall_mem_cons.mpr ⟨zt_e27_1, List.forall_mem_cons.mpr ⟨zt_e27_2, List.forall_mem_cons.mpr ⟨zt_e27_3, List.forall_mem_cons.mpr ⟨zt_e27_4, List.forall_mem_cons.mpr ⟨zt_e27_5, List.forall_mem_cons.mpr ⟨zt_e27_6, List.forall_mem_cons.mpr ⟨zt_e27_7, List.forall_mem_cons.mpr ⟨zt_e27_8, List.forall_mem_cons.mpr ⟨zt_e27_9, List.forall_mem_cons.mpr ⟨zt_e27_10, fun _ h => absurd h List.not_mem_nil⟩⟩⟩⟩⟩⟩⟩⟩⟩⟩⟩
set_option maxRecDepth 100000 in
theorem zt_lc27_ok : ∀ e ∈ zt_lc27, Cond.constantLong "jdk/internal/misc/Unsafe" e.1 e.2.1 ∈ zt_good := List.forall_mem_cons.mpr ⟨(zt_in (j := 6) (k := 135) rfl rfl), List.forall_mem_cons.mpr ⟨(zt_in (j := 6) (k := 140) rfl rfl), List.forall_mem_cons.mpr ⟨(zt_in (j := 6) (k := 145) rfl rfl), List.forall_mem_cons.mpr ⟨(zt_in (j := 6) (k := 152) rfl rfl), List.forall_mem_cons.mpr ⟨(zt_in (j := 6) (k := 162) rfl rfl), List.forall_mem_cons.mpr ⟨(zt_in (j := 6) (k := 163) rfl rfl), List.forall_mem_cons.mpr ⟨(zt_in (j := 6) (k := 170) rfl rfl), List.forall_mem_cons.mpr ⟨(zt_in (j := 6) (k := 175) rfl rfl), List.forall_mem_cons.mpr ⟨(zt_in (j := 6) (k := 182) rfl rfl), fun _ h => absurd h List.not_mem_nil⟩⟩⟩⟩⟩⟩⟩⟩⟩
/-- what a call that is found by the receiver stands on -/
def zt_vOK (e : Nat × Nat × Nat × Bool) : Prop := ∃ (x y : MethodName) (cc : ByteArray) (nL : Nat) (ret : Option FieldType) (oc np hsel : Nat) (r : vw_C), zt_vn[e.1]? = some x ∧ zt_m[e.2.2.1]? = some (y, cc, nL, ret, [], oc, np, 0, 0, hsel, 0) ∧ 0 < e.2.2.1 ∧ zt_cl[e.2.1]? = some r ∧ Cond.selects r.1 x y ∈ zt_good ∧ (x.cls ≠ "java/lang/invoke/MethodHandle" ∧ x.cls ≠ "java/lang/invoke/VarHandle") ∧ (parseMethodDescriptor x.desc).map (fun d => d.parameters.length) = some np ∧
  (if e.2.2.2 = true then Cond.declares x ∈ lw_tbl ∧ Cond.interfaceMethod x.cls x.cls x.name x.desc ∈ lw_tbl ∧ Cond.publicMethod y ∈ lw_tbl ∧ Cond.unhidden r.1 x.name x.desc ∈ lw_tbl ∧ Cond.castable r.1 x.cls ∈ lw_tbl
   else Cond.sameMethod x.cls x.cls x.name x.desc ∈ zt_good ∧ (Cond.declares x ∈ zt_nw ∨ (Cond.instanceMethod x ∈ zt_good ∧ ∃ (b : ByteArray) (m : Nat) (r : Option FieldType), Cond.code x b m r ∈ zt_good)))
set_option maxRecDepth 100000 in
theorem zt_v0 : zt_vOK (0, 1, 143, false) := ⟨_, _, _, _, _, _, 0, _, _, rfl, rfl, by decide, rfl, (zt_in (j := 5) (k := 53) rfl rfl), by decide +kernel, by decide +kernel, ⟨(zt_in (j := 5) (k := 52) rfl rfl), Or.inr ⟨(zt_in (j := 5) (k := 51) rfl rfl), _, _, _, (zt_in (j := 5) (k := 54) rfl rfl)⟩⟩⟩
set_option maxRecDepth 100000 in
theorem zt_v1 : zt_vOK (1, 1, 160, false) := ⟨_, _, _, _, _, _, 0, _, _, rfl, rfl, by decide, rfl, (zt_in (j := 5) (k := 119) rfl rfl), by decide +kernel, by decide +kernel, ⟨(zt_in (j := 5) (k := 118) rfl rfl), Or.inr ⟨(zt_in (j := 5) (k := 117) rfl rfl), _, _, _, (zt_in (j := 5) (k := 120) rfl rfl)⟩⟩⟩
set_option maxRecDepth 100000 in
theorem zt_v2 : zt_vOK (2, 1, 161, false) := ⟨_, _, _, _, _, _, 0, _, _, rfl, rfl, by decide, rfl, (zt_in (j := 5) (k := 124) rfl rfl), by decide +kernel, by decide +kernel, ⟨(zt_in (j := 5) (k := 123) rfl rfl), Or.inr ⟨(zt_in (j := 5) (k := 122) rfl rfl), _, _, _, (zt_in (j := 5) (k := 128) rfl rfl)⟩⟩⟩
set_option maxRecDepth 100000 in
theorem zt_v3 : zt_vOK (3, 1, 259, false) := ⟨_, _, _, _, _, _, 1, _, _, rfl, rfl, by decide, rfl, (zt_in (j := 8) (k := 191) rfl rfl), by decide +kernel, by decide +kernel, ⟨(zt_in (j := 8) (k := 185) rfl rfl), Or.inr ⟨(zt_in (j := 5) (k := 182) rfl rfl), _, _, _, (zt_in (j := 5) (k := 183) rfl rfl)⟩⟩⟩
set_option maxRecDepth 100000 in
theorem zt_v4 : zt_vOK (4, 0, 179, true) := ⟨_, _, _, _, _, _, 0, _, _, rfl, rfl, by decide, rfl, (zt_in (j := 7) (k := 159) rfl rfl), by decide +kernel, by decide +kernel, ⟨(zt_ch_in (j := 7) (List.mem_of_getElem? (i := 157) rfl)), (zt_ch_in (j := 7) (List.mem_of_getElem? (i := 156) rfl)), (zt_ch_in (j := 7) (List.mem_of_getElem? (i := 161) rfl)), (zt_ch_in (j := 7) (List.mem_of_getElem? (i := 160) rfl)), (zt_ch_in (j := 7) (List.mem_of_getElem? (i := 158) rfl))⟩⟩
set_option maxRecDepth 100000 in
theorem zt_v5 : zt_vOK (4, 1, 161, true) := ⟨_, _, _, _, _, _, 0, _, _, rfl, rfl, by decide, rfl, (zt_in (j := 7) (k := 163) rfl rfl), by decide +kernel, by decide +kernel, ⟨(zt_ch_in (j := 7) (List.mem_of_getElem? (i := 157) rfl)), (zt_ch_in (j := 7) (List.mem_of_getElem? (i := 156) rfl)), (zt_ch_in (j := 7) (List.mem_of_getElem? (i := 165) rfl)), (zt_ch_in (j := 7) (List.mem_of_getElem? (i := 164) rfl)), (zt_ch_in (j := 7) (List.mem_of_getElem? (i := 162) rfl))⟩⟩
set_option maxRecDepth 100000 in
theorem zt_v6 : zt_vOK (5, 0, 189, true) := ⟨_, _, _, _, _, _, 1, _, _, rfl, rfl, by decide, rfl, (zt_in (j := 7) (k := 170) rfl rfl), by decide +kernel, by decide +kernel, ⟨(zt_ch_in (j := 7) (List.mem_of_getElem? (i := 169) rfl)), (zt_ch_in (j := 7) (List.mem_of_getElem? (i := 168) rfl)), (zt_ch_in (j := 7) (List.mem_of_getElem? (i := 172) rfl)), (zt_ch_in (j := 7) (List.mem_of_getElem? (i := 171) rfl)), (zt_ch_in (j := 7) (List.mem_of_getElem? (i := 158) rfl))⟩⟩
set_option maxRecDepth 100000 in
theorem zt_v7 : zt_vOK (5, 1, 271, true) := ⟨_, _, _, _, _, _, 1, _, _, rfl, rfl, by decide, rfl, (zt_in (j := 7) (k := 173) rfl rfl), by decide +kernel, by decide +kernel, ⟨(zt_ch_in (j := 7) (List.mem_of_getElem? (i := 169) rfl)), (zt_ch_in (j := 7) (List.mem_of_getElem? (i := 168) rfl)), (zt_ch_in (j := 7) (List.mem_of_getElem? (i := 176) rfl)), (zt_ch_in (j := 7) (List.mem_of_getElem? (i := 174) rfl)), (zt_ch_in (j := 7) (List.mem_of_getElem? (i := 162) rfl))⟩⟩
set_option maxRecDepth 100000 in
theorem zt_v8 : zt_vOK (6, 0, 281, false) := ⟨_, _, _, _, _, _, 0, _, _, rfl, rfl, by decide, rfl, (zt_in (j := 8) (k := 39) rfl rfl), by decide +kernel, by decide +kernel, ⟨(zt_in (j := 7) (k := 219) rfl rfl), Or.inl (zt_inN (j := 7) (k := 216) rfl rfl)⟩⟩
set_option maxRecDepth 100000 in
theorem zt_v9 : zt_vOK (6, 1, 157, false) := ⟨_, _, _, _, _, _, 0, _, _, rfl, rfl, by decide, rfl, (zt_in (j := 8) (k := 42) rfl rfl), by decide +kernel, by decide +kernel, ⟨(zt_in (j := 7) (k := 219) rfl rfl), Or.inl (zt_inN (j := 7) (k := 216) rfl rfl)⟩⟩
set_option maxRecDepth 100000 in
theorem zt_vt_ok : ∀ e ∈ zt_vt, zt_vOK e := List.forall_mem_cons.mpr ⟨zt_v0, List.forall_mem_cons.mpr ⟨zt_v1, List.forall_mem_cons.mpr ⟨zt_v2, List.forall_mem_cons.mpr ⟨zt_v3, List.forall_mem_cons.mpr ⟨zt_v4, List.forall_mem_cons.mpr ⟨zt_v5, List.forall_mem_cons.mpr ⟨zt_v6, List.forall_mem_cons.mpr ⟨zt_v7, List.forall_mem_cons.mpr ⟨zt_v8, List.forall_mem_cons.mpr ⟨zt_v9, fun _ h => absurd h List.not_mem_nil⟩⟩⟩⟩⟩⟩⟩⟩⟩⟩
set_option maxRecDepth 100000 in
theorem zt_acopy : Cond.native arraycopyName ∈ zt_good ∧ Cond.static arraycopyName ∈ zt_good ∧ Cond.initialized "java/lang/System" ∈ zt_good := ⟨(zt_in (j := 2) (k := 156) rfl rfl), (zt_in (j := 2) (k := 155) rfl rfl), (zt_in (j := 1) (k := 15) rfl rfl)⟩
theorem zt_pl_ok {oc : Nat} {own : String} {l : List (Nat × Nat × Nat × Nat × Nat)} (ho : zt_on[oc]? = some own) (h : zt_pl[oc]? = some l) : ∀ e ∈ l, zt_eOK own e := by
  match oc, ho, h with
  | 0, ho, h => cases ho; cases h; exact zt_pl0_ok
  | 1, ho, h => cases ho; cases h; exact zt_pl1_ok
  | 2, ho, h => cases ho; cases h; exact zt_pl2_ok
  | 3, ho, h => cases ho; cases h; exact zt_pl3_ok
  | 4, ho, h => cases ho; cases h; exact zt_pl4_ok
  | 5, ho, h => cases ho; cases h; exact zt_pl5_ok
  | 6, ho, h => cases ho; cases h; exact zt_pl6_ok
  | 7, ho, h => cases ho; cases h; exact zt_pl7_ok
  | 8, ho, h => cases ho; cases h; exact zt_pl8_ok
  | 9, ho, h => cases ho; cases h; exact zt_pl9_ok
  | 10, ho, h => cases ho; cases h; exact zt_pl10_ok
  | 11, ho, h => cases ho; cases h; exact zt_pl11_ok
  | 12, ho, h => cases ho; cases h; exact zt_pl12_ok
  | 13, ho, h => cases ho; cases h; exact zt_pl13_ok
  | 14, ho, h => cases ho; cases h; exact zt_pl14_ok
  | 15, ho, h => cases ho; cases h; exact zt_pl15_ok
  | 16, ho, h => cases ho; cases h; exact zt_pl16_ok
  | 17, ho, h => cases ho; cases h; exact zt_pl17_ok
  | 18, ho, h => cases ho; cases h; exact zt_pl18_ok
  | 19, ho, h => cases ho; cases h; exact zt_pl19_ok
  | 20, ho, h => cases ho; cases h; exact zt_pl20_ok
  | 21, ho, h => cases ho; cases h; exact zt_pl21_ok
  | 22, ho, h => cases ho; cases h; exact zt_pl22_ok
  | 23, ho, h => cases ho; cases h; exact zt_pl23_ok
  | 24, ho, h => cases ho; cases h; exact zt_pl24_ok
  | 25, ho, h => cases ho; cases h; exact zt_pl25_ok
  | 26, ho, h => cases ho; cases h; exact zt_pl26_ok
  | 27, ho, h => cases ho; cases h; exact zt_pl27_ok
  | k + 28, ho, h => exact absurd ho (by simp [zt_on])
theorem zt_lc_ok {oc : Nat} {own : String} {l : List (Nat × Int64 × Nat)} (ho : zt_on[oc]? = some own) (h : zt_lc[oc]? = some l) : ∀ e ∈ l, Cond.constantLong own e.1 e.2.1 ∈ zt_good := by
  match oc, ho, h with
  | 0, ho, h => cases ho; cases h; exact zt_lc0_ok
  | 1, ho, h => cases ho; cases h; exact zt_lc1_ok
  | 2, ho, h => cases ho; cases h; exact zt_lc2_ok
  | 3, ho, h => cases ho; cases h; exact zt_lc3_ok
  | 4, ho, h => cases ho; cases h; exact zt_lc4_ok
  | 5, ho, h => cases ho; cases h; exact zt_lc5_ok
  | 6, ho, h => cases ho; cases h; exact zt_lc6_ok
  | 7, ho, h => cases ho; cases h; exact zt_lc7_ok
  | 8, ho, h => cases ho; cases h; exact zt_lc8_ok
  | 9, ho, h => cases ho; cases h; exact zt_lc9_ok
  | 10, ho, h => cases ho; cases h; exact zt_lc10_ok
  | 11, ho, h => cases ho; cases h; exact zt_lc11_ok
  | 12, ho, h => cases ho; cases h; exact zt_lc12_ok
  | 13, ho, h => cases ho; cases h; exact zt_lc13_ok
  | 14, ho, h => cases ho; cases h; exact zt_lc14_ok
  | 15, ho, h => cases ho; cases h; exact zt_lc15_ok
  | 16, ho, h => cases ho; cases h; exact zt_lc16_ok
  | 17, ho, h => cases ho; cases h; exact zt_lc17_ok
  | 18, ho, h => cases ho; cases h; exact zt_lc18_ok
  | 19, ho, h => cases ho; cases h; exact zt_lc19_ok
  | 20, ho, h => cases ho; cases h; exact zt_lc20_ok
  | 21, ho, h => cases ho; cases h; exact zt_lc21_ok
  | 22, ho, h => cases ho; cases h; exact zt_lc22_ok
  | 23, ho, h => cases ho; cases h; exact zt_lc23_ok
  | 24, ho, h => cases ho; cases h; exact zt_lc24_ok
  | 25, ho, h => cases ho; cases h; exact zt_lc25_ok
  | 26, ho, h => cases ho; cases h; exact zt_lc26_ok
  | 27, ho, h => cases ho; cases h; exact zt_lc27_ok
  | k + 28, ho, h => exact absurd ho (by simp [zt_on])
set_option maxRecDepth 100000 in
theorem zt_ic0_ok : ∀ e ∈ zt_ic0, Cond.constant "java/lang/String" e.1 e.2.1 ∈ zt_good := fun _ h => absurd h List.not_mem_nil
set_option maxRecDepth 100000 in
theorem zt_ic1_ok : ∀ e ∈ zt_ic1, Cond.constant "java/lang/StringBuilder" e.1 e.2.1 ∈ zt_good := fun _ h => absurd h List.not_mem_nil
set_option maxRecDepth 100000 in
theorem zt_ic2_ok : ∀ e ∈ zt_ic2, Cond.constant "ColumnVault$Checks" e.1 e.2.1 ∈ zt_good := fun _ h => absurd h List.not_mem_nil
set_option maxRecDepth 100000 in
theorem zt_ic3_ok : ∀ e ∈ zt_ic3, Cond.constant "ColumnVault$FilterReader" e.1 e.2.1 ∈ zt_good := fun _ h => absurd h List.not_mem_nil
set_option maxRecDepth 100000 in
theorem zt_ic4_ok : ∀ e ∈ zt_ic4, Cond.constant "ColumnVault$FilterText" e.1 e.2.1 ∈ zt_good := fun _ h => absurd h List.not_mem_nil
set_option maxRecDepth 100000 in
theorem zt_ic5_ok : ∀ e ∈ zt_ic5, Cond.constant "ColumnVault$Groups" e.1 e.2.1 ∈ zt_good := fun _ h => absurd h List.not_mem_nil
set_option maxRecDepth 100000 in
theorem zt_ic6_ok : ∀ e ∈ zt_ic6, Cond.constant "ColumnVault$History" e.1 e.2.1 ∈ zt_good := fun _ h => absurd h List.not_mem_nil
set_option maxRecDepth 100000 in
theorem zt_ic7_ok : ∀ e ∈ zt_ic7, Cond.constant "ColumnVault$JoinWays" e.1 e.2.1 ∈ zt_good := fun _ h => absurd h List.not_mem_nil
set_option maxRecDepth 100000 in
theorem zt_ic8_ok : ∀ e ∈ zt_ic8, Cond.constant "ColumnVault$Node" e.1 e.2.1 ∈ zt_good := fun _ h => absurd h List.not_mem_nil
set_option maxRecDepth 100000 in
theorem zt_ic9_ok : ∀ e ∈ zt_ic9, Cond.constant "ColumnVault$Pairs" e.1 e.2.1 ∈ zt_good := fun _ h => absurd h List.not_mem_nil
set_option maxRecDepth 100000 in
theorem zt_ic10_ok : ∀ e ∈ zt_ic10, Cond.constant "ColumnVault$Sheet" e.1 e.2.1 ∈ zt_good := fun _ h => absurd h List.not_mem_nil
set_option maxRecDepth 100000 in
theorem zt_ic11_ok : ∀ e ∈ zt_ic11, Cond.constant "ColumnVault$Tokens" e.1 e.2.1 ∈ zt_good := fun _ h => absurd h List.not_mem_nil
set_option maxRecDepth 100000 in
theorem zt_ic12_ok : ∀ e ∈ zt_ic12, Cond.constant "ColumnVault" e.1 e.2.1 ∈ zt_good := fun _ h => absurd h List.not_mem_nil
set_option maxRecDepth 100000 in
theorem zt_ic13_ok : ∀ e ∈ zt_ic13, Cond.constant "java/lang/IndexOutOfBoundsException" e.1 e.2.1 ∈ zt_good := fun _ h => absurd h List.not_mem_nil
set_option maxRecDepth 100000 in
theorem zt_ic14_ok : ∀ e ∈ zt_ic14, Cond.constant "java/lang/IllegalArgumentException" e.1 e.2.1 ∈ zt_good := fun _ h => absurd h List.not_mem_nil
set_option maxRecDepth 100000 in
theorem zt_ic15_ok : ∀ e ∈ zt_ic15, Cond.constant "java/lang/IllegalStateException" e.1 e.2.1 ∈ zt_good := fun _ h => absurd h List.not_mem_nil
set_option maxRecDepth 100000 in
theorem zt_ic16_ok : ∀ e ∈ zt_ic16, Cond.constant "java/util/NoSuchElementException" e.1 e.2.1 ∈ zt_good := fun _ h => absurd h List.not_mem_nil
set_option maxRecDepth 100000 in
theorem zt_ic17_ok : ∀ e ∈ zt_ic17, Cond.constant "ColumnVaultLaw" e.1 e.2.1 ∈ zt_good := List.forall_mem_cons.mpr ⟨(zt_in (j := 2) (k := 106) rfl rfl), List.forall_mem_cons.mpr ⟨(zt_in (j := 2) (k := 107) rfl rfl), List.forall_mem_cons.mpr ⟨(zt_in (j := 2) (k := 108) rfl rfl), List.forall_mem_cons.mpr ⟨(zt_in (j := 2) (k := 112) rfl rfl), List.forall_mem_cons.mpr ⟨(zt_in (j := 6) (k := 23) rfl rfl), List.forall_mem_cons.mpr ⟨(zt_in (j := 6) (k := 24) rfl rfl), List.forall_mem_cons.mpr ⟨(zt_in (j := 8) (k := 51) rfl rfl), fun _ h => absurd h List.not_mem_nil⟩⟩⟩⟩⟩⟩⟩
set_option maxRecDepth 100000 in
theorem zt_ic18_ok : ∀ e ∈ zt_ic18, Cond.constant "java/lang/Long" e.1 e.2.1 ∈ zt_good := fun _ h => absurd h List.not_mem_nil
set_option maxRecDepth 100000 in
theorem zt_ic19_ok : ∀ e ∈ zt_ic19, Cond.constant "java/lang/Math" e.1 e.2.1 ∈ zt_good := fun _ h => absurd h List.not_mem_nil
set_option maxRecDepth 100000 in
theorem zt_ic20_ok : ∀ e ∈ zt_ic20, Cond.constant "java/lang/AbstractStringBuilder" e.1 e.2.1 ∈ zt_good := List.forall_mem_cons.mpr ⟨(zt_in (j := 5) (k := 35) rfl rfl), List.forall_mem_cons.mpr ⟨(zt_in (j := 7) (k := 88) rfl rfl), fun _ h => absurd h List.not_mem_nil⟩⟩
set_option maxRecDepth 100000 in
theorem zt_ic21_ok : ∀ e ∈ zt_ic21, Cond.constant "java/lang/StringUTF16" e.1 e.2.1 ∈ zt_good := List.forall_mem_cons.mpr ⟨(zt_in (j := 4) (k := 238) rfl rfl), fun _ h => absurd h List.not_mem_nil⟩
set_option maxRecDepth 100000 in
theorem zt_ic22_ok : ∀ e ∈ zt_ic22, Cond.constant "jdk/internal/util/ArraysSupport" e.1 e.2.1 ∈ zt_good := List.forall_mem_cons.mpr ⟨(zt_in (j := 5) (k := 31) rfl rfl), fun _ h => absurd h List.not_mem_nil⟩
set_option maxRecDepth 100000 in
theorem zt_ic23_ok : ∀ e ∈ zt_ic23, Cond.constant "java/util/Arrays" e.1 e.2.1 ∈ zt_good := fun _ h => absurd h List.not_mem_nil
set_option maxRecDepth 100000 in
theorem zt_ic24_ok : ∀ e ∈ zt_ic24, Cond.constant "java/lang/StringLatin1" e.1 e.2.1 ∈ zt_good := fun _ h => absurd h List.not_mem_nil
set_option maxRecDepth 100000 in
theorem zt_ic25_ok : ∀ e ∈ zt_ic25, Cond.constant "jdk/internal/util/Preconditions" e.1 e.2.1 ∈ zt_good := fun _ h => absurd h List.not_mem_nil
set_option maxRecDepth 100000 in
theorem zt_ic26_ok : ∀ e ∈ zt_ic26, Cond.constant "java/lang/Integer" e.1 e.2.1 ∈ zt_good := List.forall_mem_cons.mpr ⟨(zt_in (j := 6) (k := 191) rfl rfl), fun _ h => absurd h List.not_mem_nil⟩
set_option maxRecDepth 100000 in
theorem zt_ic27_ok : ∀ e ∈ zt_ic27, Cond.constant "jdk/internal/misc/Unsafe" e.1 e.2.1 ∈ zt_good := List.forall_mem_cons.mpr ⟨(zt_in (j := 6) (k := 212) rfl rfl), fun _ h => absurd h List.not_mem_nil⟩
theorem zt_ic_ok {oc : Nat} {own : String} {l : List (Nat × Int32 × Nat)} (ho : zt_on[oc]? = some own) (h : zt_ic[oc]? = some l) : ∀ e ∈ l, Cond.constant own e.1 e.2.1 ∈ zt_good := by
  match oc, ho, h with
  | 0, ho, h => cases ho; cases h; exact zt_ic0_ok
  | 1, ho, h => cases ho; cases h; exact zt_ic1_ok
  | 2, ho, h => cases ho; cases h; exact zt_ic2_ok
  | 3, ho, h => cases ho; cases h; exact zt_ic3_ok
  | 4, ho, h => cases ho; cases h; exact zt_ic4_ok
  | 5, ho, h => cases ho; cases h; exact zt_ic5_ok
  | 6, ho, h => cases ho; cases h; exact zt_ic6_ok
  | 7, ho, h => cases ho; cases h; exact zt_ic7_ok
  | 8, ho, h => cases ho; cases h; exact zt_ic8_ok
  | 9, ho, h => cases ho; cases h; exact zt_ic9_ok
  | 10, ho, h => cases ho; cases h; exact zt_ic10_ok
  | 11, ho, h => cases ho; cases h; exact zt_ic11_ok
  | 12, ho, h => cases ho; cases h; exact zt_ic12_ok
  | 13, ho, h => cases ho; cases h; exact zt_ic13_ok
  | 14, ho, h => cases ho; cases h; exact zt_ic14_ok
  | 15, ho, h => cases ho; cases h; exact zt_ic15_ok
  | 16, ho, h => cases ho; cases h; exact zt_ic16_ok
  | 17, ho, h => cases ho; cases h; exact zt_ic17_ok
  | 18, ho, h => cases ho; cases h; exact zt_ic18_ok
  | 19, ho, h => cases ho; cases h; exact zt_ic19_ok
  | 20, ho, h => cases ho; cases h; exact zt_ic20_ok
  | 21, ho, h => cases ho; cases h; exact zt_ic21_ok
  | 22, ho, h => cases ho; cases h; exact zt_ic22_ok
  | 23, ho, h => cases ho; cases h; exact zt_ic23_ok
  | 24, ho, h => cases ho; cases h; exact zt_ic24_ok
  | 25, ho, h => cases ho; cases h; exact zt_ic25_ok
  | 26, ho, h => cases ho; cases h; exact zt_ic26_ok
  | 27, ho, h => cases ho; cases h; exact zt_ic27_ok
  | k + 28, ho, h => exact absurd ho (by simp [zt_on])
theorem zt_at_ok : ∀ (t : Nat) (ty : FieldType), zt_at[t]? = some ty → ((((∀ C, ty ≠ .object C) ∧ (∀ t, ty ≠ .array t)) ∧ Cond.arrayClass ty ∈ zt_good) ∨ (∃ C, ty = .object C ∧ Cond.arrayOver ty ∈ lw_tbl) ∨ ∃ t, ty = .array t ∧ Cond.arrayOver ty ∈ lw_tbl) := by
  intro t ty h
  match t, h with
  | 0, h => cases h; exact Or.inr (Or.inl ⟨_, rfl, zt_ch_in (j := 1) (List.mem_of_getElem? (i := 49) rfl)⟩)
  | 1, h => cases h; exact Or.inl ⟨⟨fun C h => FieldType.noConfusion h, fun C h => FieldType.noConfusion h⟩, (zt_in (j := 1) (k := 86) rfl rfl)⟩
  | 2, h => cases h; exact Or.inl ⟨⟨fun C h => FieldType.noConfusion h, fun C h => FieldType.noConfusion h⟩, (zt_in (j := 1) (k := 87) rfl rfl)⟩
  | 3, h => cases h; exact Or.inl ⟨⟨fun C h => FieldType.noConfusion h, fun C h => FieldType.noConfusion h⟩, (zt_in (j := 2) (k := 54) rfl rfl)⟩
  | 4, h => cases h; exact Or.inr (Or.inr ⟨_, rfl, zt_ch_in (j := 6) (List.mem_of_getElem? (i := 55) rfl)⟩)
  | 5, h => cases h; exact Or.inl ⟨⟨fun C h => FieldType.noConfusion h, fun C h => FieldType.noConfusion h⟩, (zt_in (j := 6) (k := 65) rfl rfl)⟩
  | 6, h => cases h; exact Or.inr (Or.inl ⟨_, rfl, zt_ch_in (j := 8) (List.mem_of_getElem? (i := 53) rfl)⟩)
  | k + 7, h => exact absurd h (by simp [zt_at])
theorem zt_aok_lt {t : Nat} (h : zt_aok[t]? = some true) : t < zt_at.length := by
  have h1 := (List.getElem?_eq_some_iff.mp h).1
  have h2 : zt_aok.length = zt_at.length := rfl
  omega
theorem zt_atc_ok : ∀ (t ci : Nat) (C : String), zt_at[t]? = some (.object C) → zt_atc[t]? = some ci → ci ≠ 999 → (zt_cl[ci]?).map (·.1) = some C := by
  intro t ci C h h2 h3
  match t, h, h2 with
  | 0, h, h2 => cases h; cases h2; exact rfl
  | 1, h, h2 => cases h
  | 2, h, h2 => cases h
  | 3, h, h2 => cases h
  | 4, h, h2 => cases h
  | 5, h, h2 => cases h
  | 6, h, h2 => cases h; cases h2; exact rfl
  | k + 7, h, h2 => exact absurd h (by simp [zt_at])

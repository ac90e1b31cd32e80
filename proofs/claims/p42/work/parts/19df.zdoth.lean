set_option maxRecDepth 100000 in
theorem zd_gm283_0 : zd_gmc 283 0 = true := by decide +kernel
set_option maxRecDepth 100000 in
theorem zd_gm283_1 : zd_gmc 283 1 = true := by decide +kernel
set_option maxRecDepth 100000 in
theorem zd_gm283_2 : zd_gmc 283 2 = true := by decide +kernel
set_option maxRecDepth 100000 in
theorem zd_gm283_3 : zd_gmc 283 3 = true := by decide +kernel
set_option maxRecDepth 100000 in
theorem zd_gm283_4 : zd_gmc 283 4 = true := by decide +kernel
set_option maxRecDepth 100000 in
theorem zd_gm283_5 : zd_gmc 283 5 = true := by decide +kernel
set_option maxRecDepth 100000 in
theorem zd_gm283_6 : zd_gmc 283 6 = true := by decide +kernel
set_option maxRecDepth 100000 in
theorem zd_gm283_7 : zd_gmc 283 7 = true := by decide +kernel
set_option maxRecDepth 100000 in
theorem zd_gm283_8 : zd_gmc 283 8 = true := by decide +kernel
set_option maxRecDepth 100000 in
theorem zd_gm283_9 : zd_gmc 283 9 = true := by decide +kernel
set_option maxRecDepth 100000 in
theorem zd_gm283_10 : zd_gmc 283 10 = true := by decide +kernel
set_option maxRecDepth 100000 in
theorem zd_gm283_11 : zd_gmc 283 11 = true := by decide +kernel
set_option maxRecDepth 100000 in
theorem zd_gm283_12 : zd_gmc 283 12 = true := by decide +kernel
set_option maxRecDepth 100000 in
theorem zd_gm283_13 : zd_gmc 283 13 = true := by decide +kernel
set_option maxRecDepth 100000 in
theorem zd_gm283_14 : zd_gmc 283 14 = true := by decide +kernel
set_option maxRecDepth 100000 in
theorem zd_gm283_15 : zd_gmc 283 15 = true := by decide +kernel
set_option maxRecDepth 100000 in
theorem zd_gm283_16 : zd_gmc 283 16 = true := by decide +kernel
set_option maxRecDepth 100000 in
theorem zd_gm283_17 : zd_gmc 283 17 = true := by decide +kernel
set_option maxRecDepth 100000 in
theorem zd_gm283_18 : zd_gmc 283 18 = true := by decide +kernel
theorem zd_g29 : ∀ k, k < 1 → zd_g (283 + k) = true := by
  intro k hk
  obtain rfl : k = 0 := by omega
  refine zd_gm_of (n := 19) (by decide +kernel) fun c hc => ?_
  match c, hc with
  | 0, _ => exact zd_gm283_0
  | 1, _ => exact zd_gm283_1
  | 2, _ => exact zd_gm283_2
  | 3, _ => exact zd_gm283_3
  | 4, _ => exact zd_gm283_4
  | 5, _ => exact zd_gm283_5
  | 6, _ => exact zd_gm283_6
  | 7, _ => exact zd_gm283_7
  | 8, _ => exact zd_gm283_8
  | 9, _ => exact zd_gm283_9
  | 10, _ => exact zd_gm283_10
  | 11, _ => exact zd_gm283_11
  | 12, _ => exact zd_gm283_12
  | 13, _ => exact zd_gm283_13
  | 14, _ => exact zd_gm283_14
  | 15, _ => exact zd_gm283_15
  | 16, _ => exact zd_gm283_16
  | 17, _ => exact zd_gm283_17
  | 18, _ => exact zd_gm283_18
  | c + 19, hc => exact absurd hc (by omega)

set_option maxRecDepth 100000 in
theorem zd_gm196_0 : zd_gmc 196 0 = true := by decide +kernel
set_option maxRecDepth 100000 in
theorem zd_gm196_1 : zd_gmc 196 1 = true := by decide +kernel
set_option maxRecDepth 100000 in
theorem zd_gm196_2 : zd_gmc 196 2 = true := by decide +kernel
set_option maxRecDepth 100000 in
theorem zd_gm196_3 : zd_gmc 196 3 = true := by decide +kernel
set_option maxRecDepth 100000 in
theorem zd_gm196_4 : zd_gmc 196 4 = true := by decide +kernel
set_option maxRecDepth 100000 in
theorem zd_gm196_5 : zd_gmc 196 5 = true := by decide +kernel
set_option maxRecDepth 100000 in
theorem zd_gm196_6 : zd_gmc 196 6 = true := by decide +kernel
set_option maxRecDepth 100000 in
theorem zd_gm196_7 : zd_gmc 196 7 = true := by decide +kernel
set_option maxRecDepth 100000 in
theorem zd_gm196_8 : zd_gmc 196 8 = true := by decide +kernel
set_option maxRecDepth 100000 in
theorem zd_gm196_9 : zd_gmc 196 9 = true := by decide +kernel
set_option maxRecDepth 100000 in
theorem zd_gm196_10 : zd_gmc 196 10 = true := by decide +kernel
set_option maxRecDepth 100000 in
theorem zd_gm196_11 : zd_gmc 196 11 = true := by decide +kernel
theorem zd_g17 : ∀ k, k < 1 → zd_g (196 + k) = true := by
  intro k hk
  obtain rfl : k = 0 := by omega
  refine zd_gm_of (n := 12) (by decide +kernel) fun c hc => ?_
  match c, hc with
  | 0, _ => exact zd_gm196_0
  | 1, _ => exact zd_gm196_1
  | 2, _ => exact zd_gm196_2
  | 3, _ => exact zd_gm196_3
  | 4, _ => exact zd_gm196_4
  | 5, _ => exact zd_gm196_5
  | 6, _ => exact zd_gm196_6
  | 7, _ => exact zd_gm196_7
  | 8, _ => exact zd_gm196_8
  | 9, _ => exact zd_gm196_9
  | 10, _ => exact zd_gm196_10
  | 11, _ => exact zd_gm196_11
  | c + 12, hc => exact absurd hc (by omega)
set_option maxRecDepth 100000 in
theorem zd_g18 : ∀ k, k < 6 → zd_g (197 + k) = true := by decide +kernel
set_option maxRecDepth 100000 in
theorem zd_gm203_0 : zd_gmc 203 0 = true := by decide +kernel
set_option maxRecDepth 100000 in
theorem zd_gm203_1 : zd_gmc 203 1 = true := by decide +kernel
set_option maxRecDepth 100000 in
theorem zd_gm203_2 : zd_gmc 203 2 = true := by decide +kernel
set_option maxRecDepth 100000 in
theorem zd_gm203_3 : zd_gmc 203 3 = true := by decide +kernel
set_option maxRecDepth 100000 in
theorem zd_gm203_4 : zd_gmc 203 4 = true := by decide +kernel
set_option maxRecDepth 100000 in
theorem zd_gm203_5 : zd_gmc 203 5 = true := by decide +kernel
set_option maxRecDepth 100000 in
theorem zd_gm203_6 : zd_gmc 203 6 = true := by decide +kernel
set_option maxRecDepth 100000 in
theorem zd_gm203_7 : zd_gmc 203 7 = true := by decide +kernel
set_option maxRecDepth 100000 in
theorem zd_gm203_8 : zd_gmc 203 8 = true := by decide +kernel
set_option maxRecDepth 100000 in
theorem zd_gm203_9 : zd_gmc 203 9 = true := by decide +kernel
set_option maxRecDepth 100000 in
theorem zd_gm203_10 : zd_gmc 203 10 = true := by decide +kernel
theorem zd_g19 : ∀ k, k < 1 → zd_g (203 + k) = true := by
  intro k hk
  obtain rfl : k = 0 := by omega
  refine zd_gm_of (n := 11) (by decide +kernel) fun c hc => ?_
  match c, hc with
  | 0, _ => exact zd_gm203_0
  | 1, _ => exact zd_gm203_1
  | 2, _ => exact zd_gm203_2
  | 3, _ => exact zd_gm203_3
  | 4, _ => exact zd_gm203_4
  | 5, _ => exact zd_gm203_5
  | 6, _ => exact zd_gm203_6
  | 7, _ => exact zd_gm203_7
  | 8, _ => exact zd_gm203_8
  | 9, _ => exact zd_gm203_9
  | 10, _ => exact zd_gm203_10
  | c + 11, hc => exact absurd hc (by omega)
set_option maxRecDepth 100000 in
theorem zd_g20 : ∀ k, k < 10 → zd_g (204 + k) = true := by decide +kernel

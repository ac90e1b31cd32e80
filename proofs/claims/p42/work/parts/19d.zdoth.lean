set_option maxRecDepth 100000 in
theorem zd_g0 : ∀ k, k < 15 → zd_g (1 + k) = true := by decide +kernel
set_option maxRecDepth 100000 in
theorem zd_g1 : ∀ k, k < 6 → zd_g (16 + k) = true := by decide +kernel
set_option maxRecDepth 100000 in
theorem zd_g2 : ∀ k, k < 11 → zd_g (22 + k) = true := by decide +kernel
set_option maxRecDepth 100000 in
theorem zd_g3 : ∀ k, k < 18 → zd_g (33 + k) = true := by decide +kernel
set_option maxRecDepth 100000 in
theorem zd_g4 : ∀ k, k < 11 → zd_g (51 + k) = true := by decide +kernel
set_option maxRecDepth 100000 in
theorem zd_g5 : ∀ k, k < 13 → zd_g (62 + k) = true := by decide +kernel
set_option maxRecDepth 100000 in
theorem zd_g6 : ∀ k, k < 7 → zd_g (75 + k) = true := by decide +kernel
set_option maxRecDepth 100000 in
theorem zd_g7 : ∀ k, k < 13 → zd_g (82 + k) = true := by decide +kernel
set_option maxRecDepth 100000 in
theorem zd_g8 : ∀ k, k < 12 → zd_g (95 + k) = true := by decide +kernel
set_option maxRecDepth 100000 in
theorem zd_g9 : ∀ k, k < 10 → zd_g (107 + k) = true := by decide +kernel
set_option maxRecDepth 100000 in
theorem zd_g10 : ∀ k, k < 11 → zd_g (117 + k) = true := by decide +kernel
set_option maxRecDepth 100000 in
theorem zd_g11 : ∀ k, k < 18 → zd_g (128 + k) = true := by decide +kernel
set_option maxRecDepth 100000 in
theorem zd_g12 : ∀ k, k < 28 → zd_g (146 + k) = true := by decide +kernel

set_option maxRecDepth 100000 in
theorem zd_g0 : ∀ k, k < 16 → zd_g (1 + k) = true := by decide +kernel
set_option maxRecDepth 100000 in
theorem zd_g1 : ∀ k, k < 12 → zd_g (17 + k) = true := by decide +kernel
set_option maxRecDepth 100000 in
theorem zd_g2 : ∀ k, k < 13 → zd_g (29 + k) = true := by decide +kernel
set_option maxRecDepth 100000 in
theorem zd_g3 : ∀ k, k < 16 → zd_g (42 + k) = true := by decide +kernel
set_option maxRecDepth 100000 in
theorem zd_g4 : ∀ k, k < 16 → zd_g (58 + k) = true := by decide +kernel
set_option maxRecDepth 100000 in
theorem zd_g5 : ∀ k, k < 11 → zd_g (74 + k) = true := by decide +kernel
set_option maxRecDepth 100000 in
theorem zd_g6 : ∀ k, k < 13 → zd_g (85 + k) = true := by decide +kernel
set_option maxRecDepth 100000 in
theorem zd_g7 : ∀ k, k < 7 → zd_g (98 + k) = true := by decide +kernel
set_option maxRecDepth 100000 in
theorem zd_g8 : ∀ k, k < 16 → zd_g (105 + k) = true := by decide +kernel
set_option maxRecDepth 100000 in
theorem zd_g9 : ∀ k, k < 20 → zd_g (121 + k) = true := by decide +kernel
set_option maxRecDepth 100000 in
theorem zd_g10 : ∀ k, k < 12 → zd_g (141 + k) = true := by decide +kernel
set_option maxRecDepth 100000 in
theorem zd_g11 : ∀ k, k < 10 → zd_g (153 + k) = true := by decide +kernel
set_option maxRecDepth 100000 in
theorem zd_g12 : ∀ k, k < 12 → zd_g (163 + k) = true := by decide +kernel
set_option maxRecDepth 100000 in
theorem zd_g13 : ∀ k, k < 14 → zd_g (175 + k) = true := by decide +kernel
set_option maxRecDepth 100000 in
theorem zd_g14 : ∀ k, k < 10 → zd_g (189 + k) = true := by decide +kernel
set_option maxRecDepth 100000 in
theorem zd_g15 : ∀ k, k < 9 → zd_g (199 + k) = true := by decide +kernel
set_option maxRecDepth 100000 in
theorem zd_g16 : ∀ k, k < 13 → zd_g (208 + k) = true := by decide +kernel

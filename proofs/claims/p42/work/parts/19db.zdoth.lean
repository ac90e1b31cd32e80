set_option maxRecDepth 100000 in
theorem zd_g10 : ∀ k, k < 11 → zd_g (96 + k) = true := by decide +kernel
set_option maxRecDepth 100000 in
theorem zd_g11 : ∀ k, k < 9 → zd_g (107 + k) = true := by decide +kernel
set_option maxRecDepth 100000 in
theorem zd_g12 : ∀ k, k < 9 → zd_g (116 + k) = true := by decide +kernel
set_option maxRecDepth 100000 in
theorem zd_g13 : ∀ k, k < 8 → zd_g (125 + k) = true := by decide +kernel
set_option maxRecDepth 100000 in
theorem zd_g14 : ∀ k, k < 26 → zd_g (133 + k) = true := by decide +kernel
set_option maxRecDepth 100000 in
theorem zd_g15 : ∀ k, k < 11 → zd_g (159 + k) = true := by decide +kernel
set_option maxRecDepth 100000 in
theorem zd_g16 : ∀ k, k < 26 → zd_g (170 + k) = true := by decide +kernel

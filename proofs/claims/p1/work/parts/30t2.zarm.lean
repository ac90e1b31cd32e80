set_option maxRecDepth 100000 in
theorem zb_20_100 : zy_arm false true [(9, 0, 0), (7, 20, 20), (20, 1, 255), (21, 0, 0), (22, 0, 0), (23, 0, 255), (24, 0, 255), (25, 0, 255), (26, 0, 255), (27, 0, 255)] = true := by decide +kernel
set_option maxRecDepth 100000 in
theorem zb_20_101 : zy_arm false true [(9, 0, 0), (7, 20, 20), (20, 1, 255), (21, 0, 0), (22, 1, 255), (23, 0, 255), (24, 0, 255), (25, 0, 255), (26, 0, 255), (27, 0, 255)] = true := by decide +kernel

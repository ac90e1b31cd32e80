set_option maxRecDepth 100000 in
theorem zb_35_0 : zy_arm false true [(9, 0, 0), (7, 35, 35), (1, (-2147483648), (-1))] = true := by decide +kernel
set_option maxRecDepth 100000 in
theorem zb_35_1 : zy_arm false true [(9, 0, 0), (7, 35, 35), (1, 0, 0)] = true := by decide +kernel

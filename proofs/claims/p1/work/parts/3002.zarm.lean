set_option maxRecDepth 100000 in
theorem zb_35_2 : zy_arm false true [(9, 0, 0), (7, 35, 35), (1, 1, 1)] = true := by decide +kernel
set_option maxRecDepth 100000 in
theorem zb_35_3 : zy_arm false true [(9, 0, 0), (7, 35, 35), (1, 2, 2)] = true := by decide +kernel
set_option maxRecDepth 100000 in
theorem zb_35_4 : zy_arm false true [(9, 0, 0), (7, 35, 35), (1, 3, 2147483647)] = true := by decide +kernel

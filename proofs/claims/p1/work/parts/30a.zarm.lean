set_option maxRecDepth 100000 in
theorem zb_short : zy_arm false true [(9, -7, -1)] = true := by decide +kernel
set_option maxRecDepth 100000 in
theorem zb_0 : zy_arm false true [(9, 0, 0), (7, 0, 3)] = true := by decide +kernel
set_option maxRecDepth 100000 in
theorem zb_4 : zy_arm false true [(9, 0, 0), (7, 4, 7)] = true := by decide +kernel
set_option maxRecDepth 100000 in
theorem zb_8 : zy_arm false true [(9, 0, 0), (7, 8, 11)] = true := by decide +kernel
set_option maxRecDepth 100000 in
theorem zb_12 : zy_arm false true [(9, 0, 0), (7, 12, 15)] = true := by decide +kernel

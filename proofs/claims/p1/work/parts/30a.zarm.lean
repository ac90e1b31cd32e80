set_option maxRecDepth 100000 in
theorem zb_short : zy_arm false true [(9, (-7), (-1))] = true := by decide +kernel
set_option maxRecDepth 100000 in
theorem zb_0 : zy_arm false true [(9, 0, 0), (7, 0, 0)] = true := by decide +kernel
set_option maxRecDepth 100000 in
theorem zb_1 : zy_arm false true [(9, 0, 0), (7, 1, 1)] = true := by decide +kernel
set_option maxRecDepth 100000 in
theorem zb_2 : zy_arm false true [(9, 0, 0), (7, 2, 2)] = true := by decide +kernel
set_option maxRecDepth 100000 in
theorem zb_3 : zy_arm false true [(9, 0, 0), (7, 3, 3)] = true := by decide +kernel
set_option maxRecDepth 100000 in
theorem zb_4 : zy_arm false true [(9, 0, 0), (7, 4, 4)] = true := by decide +kernel
set_option maxRecDepth 100000 in
theorem zb_5 : zy_arm false true [(9, 0, 0), (7, 5, 5)] = true := by decide +kernel
set_option maxRecDepth 100000 in
theorem zb_6 : zy_arm false true [(9, 0, 0), (7, 6, 6)] = true := by decide +kernel

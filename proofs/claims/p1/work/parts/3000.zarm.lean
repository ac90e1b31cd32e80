set_option maxRecDepth 100000 in
theorem zb_22t_3 : zy_arm true false [(9, 0, 0), (7, 22, 22), (1, 2, 2)] = true := by decide +kernel
set_option maxRecDepth 100000 in
theorem zb_22t_2 : zy_arm true false [(9, 0, 0), (7, 22, 22), (1, 1, 1)] = true := by decide +kernel
set_option maxRecDepth 100000 in
theorem zb_22t_1 : zy_arm true false [(9, 0, 0), (7, 22, 22), (1, 0, 0)] = true := by decide +kernel
set_option maxRecDepth 100000 in
theorem zb_22_0 : zy_arm false true [(9, 0, 0), (7, 22, 22), (1, (-2147483648), (-1))] = true := by decide +kernel
set_option maxRecDepth 100000 in
theorem zb_22_4 : zy_arm false true [(9, 0, 0), (7, 22, 22), (1, 3, 2147483647)] = true := by decide +kernel

set_option maxRecDepth 100000 in
theorem zb_22f_3 : zy_arm false false [(9, 0, 0), (7, 22, 22), (1, 2, 2)] = true := by decide +kernel
set_option maxRecDepth 100000 in
theorem zb_22f_2 : zy_arm false false [(9, 0, 0), (7, 22, 22), (1, 1, 1)] = true := by decide +kernel
set_option maxRecDepth 100000 in
theorem zb_22f_1 : zy_arm false false [(9, 0, 0), (7, 22, 22), (1, 0, 0)] = true := by decide +kernel

set_option maxRecDepth 100000 in
theorem zb_16 : zy_arm false true [(9, 0, 0), (7, 16, 19)] = true := by decide +kernel
set_option maxRecDepth 100000 in
theorem zb_21 : zy_arm false true [(9, 0, 0), (7, 21, 21)] = true := by decide +kernel
set_option maxRecDepth 100000 in
theorem zb_23 : zy_arm false true [(9, 0, 0), (7, 23, 26)] = true := by decide +kernel
set_option maxRecDepth 100000 in
theorem zb_27 : zy_arm false true [(9, 0, 0), (7, 27, 30)] = true := by decide +kernel
set_option maxRecDepth 100000 in
theorem zb_31 : zy_arm false true [(9, 0, 0), (7, 31, 34)] = true := by decide +kernel

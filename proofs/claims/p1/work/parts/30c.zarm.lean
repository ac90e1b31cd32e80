set_option maxRecDepth 100000 in
theorem zb_15 : zy_arm false true [(9, 0, 0), (7, 15, 15)] = true := by decide +kernel
set_option maxRecDepth 100000 in
theorem zb_16 : zy_arm false true [(9, 0, 0), (7, 16, 16)] = true := by decide +kernel
set_option maxRecDepth 100000 in
theorem zb_17 : zy_arm false true [(9, 0, 0), (7, 17, 17)] = true := by decide +kernel
set_option maxRecDepth 100000 in
theorem zb_18 : zy_arm false true [(9, 0, 0), (7, 18, 18)] = true := by decide +kernel
set_option maxRecDepth 100000 in
theorem zb_19 : zy_arm false true [(9, 0, 0), (7, 19, 19)] = true := by decide +kernel
set_option maxRecDepth 100000 in
theorem zb_21 : zy_arm false true [(9, 0, 0), (7, 21, 21)] = true := by decide +kernel
set_option maxRecDepth 100000 in
theorem zb_23 : zy_arm false true [(9, 0, 0), (7, 23, 23)] = true := by decide +kernel
set_option maxRecDepth 100000 in
theorem zb_24 : zy_arm false true [(9, 0, 0), (7, 24, 24)] = true := by decide +kernel

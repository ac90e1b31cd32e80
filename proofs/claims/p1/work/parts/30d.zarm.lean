set_option maxRecDepth 100000 in
theorem zb_25 : zy_arm false true [(9, 0, 0), (7, 25, 25)] = true := by decide +kernel
set_option maxRecDepth 100000 in
theorem zb_26 : zy_arm false true [(9, 0, 0), (7, 26, 26)] = true := by decide +kernel
set_option maxRecDepth 100000 in
theorem zb_27 : zy_arm false true [(9, 0, 0), (7, 27, 27)] = true := by decide +kernel
set_option maxRecDepth 100000 in
theorem zb_28 : zy_arm false true [(9, 0, 0), (7, 28, 28)] = true := by decide +kernel
set_option maxRecDepth 100000 in
theorem zb_29 : zy_arm false true [(9, 0, 0), (7, 29, 29)] = true := by decide +kernel
set_option maxRecDepth 100000 in
theorem zb_30 : zy_arm false true [(9, 0, 0), (7, 30, 30)] = true := by decide +kernel
set_option maxRecDepth 100000 in
theorem zb_31 : zy_arm false true [(9, 0, 0), (7, 31, 31)] = true := by decide +kernel
set_option maxRecDepth 100000 in
theorem zb_32 : zy_arm false true [(9, 0, 0), (7, 32, 32)] = true := by decide +kernel

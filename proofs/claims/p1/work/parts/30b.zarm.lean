set_option maxRecDepth 100000 in
theorem zb_7 : zy_arm false true [(9, 0, 0), (7, 7, 7)] = true := by decide +kernel
set_option maxRecDepth 100000 in
theorem zb_8 : zy_arm false true [(9, 0, 0), (7, 8, 8)] = true := by decide +kernel
set_option maxRecDepth 100000 in
theorem zb_9 : zy_arm false true [(9, 0, 0), (7, 9, 9)] = true := by decide +kernel
set_option maxRecDepth 100000 in
theorem zb_10 : zy_arm false true [(9, 0, 0), (7, 10, 10)] = true := by decide +kernel
set_option maxRecDepth 100000 in
theorem zb_11 : zy_arm false true [(9, 0, 0), (7, 11, 11)] = true := by decide +kernel
set_option maxRecDepth 100000 in
theorem zb_12 : zy_arm false true [(9, 0, 0), (7, 12, 12)] = true := by decide +kernel
set_option maxRecDepth 100000 in
theorem zb_13 : zy_arm false true [(9, 0, 0), (7, 13, 13)] = true := by decide +kernel
set_option maxRecDepth 100000 in
theorem zb_14 : zy_arm false true [(9, 0, 0), (7, 14, 14)] = true := by decide +kernel

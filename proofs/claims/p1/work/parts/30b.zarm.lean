set_option maxRecDepth 100000 in
theorem zb_9 : zy_arm false true [(9, 0, 0), (7, 9, 9)] = true := by decide +kernel
set_option maxRecDepth 100000 in
theorem zb_10 : zy_arm false true [(9, 0, 0), (7, 10, 10)] = true := by decide +kernel
set_option maxRecDepth 100000 in
theorem zb_11 : zy_arm false true [(9, 0, 0), (7, 11, 11)] = true := by decide +kernel
set_option maxRecDepth 100000 in
theorem zb_12 : zy_arm false true [(9, 0, 0), (7, 12, 12)] = true := by decide +kernel
set_option maxRecDepth 100000 in
theorem zb_13 : zy_arm false true [(9, 0, 0), (7, 13, 13)] = true := by decide +kernel
set_option maxRecDepth 100000 in
theorem zb_14 : zy_arm false true [(9, 0, 0), (7, 14, 14)] = true := by decide +kernel
set_option maxRecDepth 100000 in
theorem zb_15 : zy_arm false true [(9, 0, 0), (7, 15, 15)] = true := by decide +kernel
set_option maxRecDepth 100000 in
theorem zb_16 : zy_arm false true [(9, 0, 0), (7, 16, 16)] = true := by decide +kernel
set_option maxRecDepth 100000 in
theorem zb_17 : zy_arm false true [(9, 0, 0), (7, 17, 17)] = true := by decide +kernel
set_option maxRecDepth 100000 in
theorem zb_18 : zy_arm false true [(9, 0, 0), (7, 18, 18)] = true := by decide +kernel
set_option maxRecDepth 100000 in
theorem zb_19 : zy_arm false true [(9, 0, 0), (7, 19, 19)] = true := by decide +kernel

set_option maxRecDepth 100000 in
theorem zb_33 : zy_arm false true [(9, 0, 0), (7, 33, 33)] = true := by decide +kernel
set_option maxRecDepth 100000 in
theorem zb_34 : zy_arm false true [(9, 0, 0), (7, 34, 34)] = true := by decide +kernel
set_option maxRecDepth 100000 in
theorem zb_36 : zy_arm false true [(9, 0, 0), (7, 36, 36)] = true := by decide +kernel
set_option maxRecDepth 100000 in
theorem zb_37 : zy_arm false true [(9, 0, 0), (7, 37, 37)] = true := by decide +kernel
set_option maxRecDepth 100000 in
theorem zb_38 : zy_arm false true [(9, 0, 0), (7, 38, 38)] = true := by decide +kernel
set_option maxRecDepth 100000 in
theorem zb_39 : zy_arm false true [(9, 0, 0), (7, 39, 63)] = true := by decide +kernel

set_option maxRecDepth 100000 in
theorem zb_35 : zy_arm false true [(9, 0, 0), (7, 35, 38)] = true := by decide +kernel
set_option maxRecDepth 100000 in
theorem zb_39 : zy_arm false true [(9, 0, 0), (7, 39, 63)] = true := by decide +kernel
set_option maxRecDepth 100000 in
theorem zb_22f : zy_arm false false [(9, 0, 0), (7, 22, 22)] = true := by decide +kernel
set_option maxRecDepth 100000 in
theorem zb_22t : zy_arm true false [(9, 0, 0), (7, 22, 22)] = true := by decide +kernel

set_option maxRecDepth 100000 in
theorem zb_22f : zy_arm false false [(9, 0, 0), (7, 22, 22)] = true := by decide +kernel
set_option maxRecDepth 100000 in
theorem zb_22t : zy_arm true false [(9, 0, 0), (7, 22, 22)] = true := by decide +kernel

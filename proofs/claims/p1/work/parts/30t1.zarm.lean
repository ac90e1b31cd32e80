set_option maxRecDepth 100000 in
theorem zb_20_01000 : zy_arm false true [(9, 0, 0), (7, 20, 20), (20, 0, 0), (21, 1, 255), (22, 0, 0), (23, 0, 0), (24, 0, 0), (25, 0, 255), (26, 0, 255), (27, 0, 255)] = true := by decide +kernel
set_option maxRecDepth 100000 in
theorem zb_20_01001 : zy_arm false true [(9, 0, 0), (7, 20, 20), (20, 0, 0), (21, 1, 255), (22, 0, 0), (23, 0, 0), (24, 1, 255), (25, 0, 255), (26, 0, 255), (27, 0, 255)] = true := by decide +kernel
set_option maxRecDepth 100000 in
theorem zb_20_01010 : zy_arm false true [(9, 0, 0), (7, 20, 20), (20, 0, 0), (21, 1, 255), (22, 0, 0), (23, 1, 255), (24, 0, 0), (25, 0, 255), (26, 0, 255), (27, 0, 255)] = true := by decide +kernel
set_option maxRecDepth 100000 in
theorem zb_20_01011 : zy_arm false true [(9, 0, 0), (7, 20, 20), (20, 0, 0), (21, 1, 255), (22, 0, 0), (23, 1, 255), (24, 1, 255), (25, 0, 255), (26, 0, 255), (27, 0, 255)] = true := by decide +kernel
set_option maxRecDepth 100000 in
theorem zb_20_01100 : zy_arm false true [(9, 0, 0), (7, 20, 20), (20, 0, 0), (21, 1, 255), (22, 1, 255), (23, 0, 0), (24, 0, 0), (25, 0, 255), (26, 0, 255), (27, 0, 255)] = true := by decide +kernel
set_option maxRecDepth 100000 in
theorem zb_20_01101 : zy_arm false true [(9, 0, 0), (7, 20, 20), (20, 0, 0), (21, 1, 255), (22, 1, 255), (23, 0, 0), (24, 1, 255), (25, 0, 255), (26, 0, 255), (27, 0, 255)] = true := by decide +kernel
set_option maxRecDepth 100000 in
theorem zb_20_01110 : zy_arm false true [(9, 0, 0), (7, 20, 20), (20, 0, 0), (21, 1, 255), (22, 1, 255), (23, 1, 255), (24, 0, 0), (25, 0, 255), (26, 0, 255), (27, 0, 255)] = true := by decide +kernel
set_option maxRecDepth 100000 in
theorem zb_20_01111 : zy_arm false true [(9, 0, 0), (7, 20, 20), (20, 0, 0), (21, 1, 255), (22, 1, 255), (23, 1, 255), (24, 1, 255), (25, 0, 255), (26, 0, 255), (27, 0, 255)] = true := by decide +kernel

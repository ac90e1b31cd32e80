theorem zb_short : zy_arm false true [(9, -7, -1)] = true := sorry
theorem zb_0 : zy_arm false true [(9, 0, 0), (7, 0, 3)] = true := sorry
theorem zb_4 : zy_arm false true [(9, 0, 0), (7, 4, 7)] = true := sorry
theorem zb_8 : zy_arm false true [(9, 0, 0), (7, 8, 11)] = true := sorry
theorem zb_12 : zy_arm false true [(9, 0, 0), (7, 12, 15)] = true := sorry
theorem zb_16 : zy_arm false true [(9, 0, 0), (7, 16, 19)] = true := sorry
theorem zb_21 : zy_arm false true [(9, 0, 0), (7, 21, 21)] = true := sorry
theorem zb_23 : zy_arm false true [(9, 0, 0), (7, 23, 26)] = true := sorry
theorem zb_27 : zy_arm false true [(9, 0, 0), (7, 27, 30)] = true := sorry
theorem zb_31 : zy_arm false true [(9, 0, 0), (7, 31, 34)] = true := sorry
theorem zb_35 : zy_arm false true [(9, 0, 0), (7, 35, 38)] = true := sorry
theorem zb_39 : zy_arm false true [(9, 0, 0), (7, 39, 63)] = true := sorry
theorem zb_22f : zy_arm false false [(9, 0, 0), (7, 22, 22)] = true := sorry
theorem zb_22t : zy_arm true false [(9, 0, 0), (7, 22, 22)] = true := sorry
theorem zb_20_000 : zy_arm false true [(9, 0, 0), (7, 20, 20), (20, 0, 0), (21, 0, 0), (22, 0, 0), (23, 0, 255), (24, 0, 255), (25, 0, 255), (26, 0, 255), (27, 0, 255)] = true := sorry
theorem zb_20_001 : zy_arm false true [(9, 0, 0), (7, 20, 20), (20, 0, 0), (21, 0, 0), (22, 1, 255), (23, 0, 255), (24, 0, 255), (25, 0, 255), (26, 0, 255), (27, 0, 255)] = true := sorry
theorem zb_20_010 : zy_arm false true [(9, 0, 0), (7, 20, 20), (20, 0, 0), (21, 1, 255), (22, 0, 0), (23, 0, 255), (24, 0, 255), (25, 0, 255), (26, 0, 255), (27, 0, 255)] = true := sorry
theorem zb_20_011 : zy_arm false true [(9, 0, 0), (7, 20, 20), (20, 0, 0), (21, 1, 255), (22, 1, 255), (23, 0, 255), (24, 0, 255), (25, 0, 255), (26, 0, 255), (27, 0, 255)] = true := sorry
theorem zb_20_100 : zy_arm false true [(9, 0, 0), (7, 20, 20), (20, 1, 255), (21, 0, 0), (22, 0, 0), (23, 0, 255), (24, 0, 255), (25, 0, 255), (26, 0, 255), (27, 0, 255)] = true := sorry
theorem zb_20_101 : zy_arm false true [(9, 0, 0), (7, 20, 20), (20, 1, 255), (21, 0, 0), (22, 1, 255), (23, 0, 255), (24, 0, 255), (25, 0, 255), (26, 0, 255), (27, 0, 255)] = true := sorry
theorem zb_20_110 : zy_arm false true [(9, 0, 0), (7, 20, 20), (20, 1, 255), (21, 1, 255), (22, 0, 0), (23, 0, 255), (24, 0, 255), (25, 0, 255), (26, 0, 255), (27, 0, 255)] = true := sorry
theorem zb_20_111 : zy_arm false true [(9, 0, 0), (7, 20, 20), (20, 1, 255), (21, 1, 255), (22, 1, 255), (23, 0, 255), (24, 0, 255), (25, 0, 255), (26, 0, 255), (27, 0, 255)] = true := sorry

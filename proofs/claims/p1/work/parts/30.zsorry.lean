theorem zb_short : zy_arm false true [(9, -7, -1)] = true := sorry
theorem zb_dflt : zy_arm false true [(9, 0, 0), (7, 39, 63)] = true := sorry
theorem zb_0 : zy_arm false true [(9, 0, 0), (7, 0, 0)] = true := sorry
theorem zb_1 : zy_arm false true [(9, 0, 0), (7, 1, 1)] = true := sorry
theorem zb_2 : zy_arm false true [(9, 0, 0), (7, 2, 2)] = true := sorry
theorem zb_3 : zy_arm false true [(9, 0, 0), (7, 3, 3)] = true := sorry
theorem zb_4 : zy_arm false true [(9, 0, 0), (7, 4, 4)] = true := sorry
theorem zb_5 : zy_arm false true [(9, 0, 0), (7, 5, 5)] = true := sorry
theorem zb_6 : zy_arm false true [(9, 0, 0), (7, 6, 6)] = true := sorry
theorem zb_7 : zy_arm false true [(9, 0, 0), (7, 7, 7)] = true := sorry
theorem zb_8 : zy_arm false true [(9, 0, 0), (7, 8, 8)] = true := sorry
theorem zb_9 : zy_arm false true [(9, 0, 0), (7, 9, 9)] = true := sorry
theorem zb_10 : zy_arm false true [(9, 0, 0), (7, 10, 10)] = true := sorry
theorem zb_11 : zy_arm false true [(9, 0, 0), (7, 11, 11)] = true := sorry
theorem zb_12 : zy_arm false true [(9, 0, 0), (7, 12, 12)] = true := sorry
theorem zb_13 : zy_arm false true [(9, 0, 0), (7, 13, 13)] = true := sorry
theorem zb_14 : zy_arm false true [(9, 0, 0), (7, 14, 14)] = true := sorry
theorem zb_15 : zy_arm false true [(9, 0, 0), (7, 15, 15)] = true := sorry
theorem zb_16 : zy_arm false true [(9, 0, 0), (7, 16, 16)] = true := sorry
theorem zb_17 : zy_arm false true [(9, 0, 0), (7, 17, 17)] = true := sorry
theorem zb_18 : zy_arm false true [(9, 0, 0), (7, 18, 18)] = true := sorry
theorem zb_19 : zy_arm false true [(9, 0, 0), (7, 19, 19)] = true := sorry
theorem zb_21 : zy_arm false true [(9, 0, 0), (7, 21, 21)] = true := sorry
theorem zb_23 : zy_arm false true [(9, 0, 0), (7, 23, 23)] = true := sorry
theorem zb_24 : zy_arm false true [(9, 0, 0), (7, 24, 24)] = true := sorry
theorem zb_25 : zy_arm false true [(9, 0, 0), (7, 25, 25)] = true := sorry
theorem zb_26 : zy_arm false true [(9, 0, 0), (7, 26, 26)] = true := sorry
theorem zb_27 : zy_arm false true [(9, 0, 0), (7, 27, 27)] = true := sorry
theorem zb_28 : zy_arm false true [(9, 0, 0), (7, 28, 28)] = true := sorry
theorem zb_29 : zy_arm false true [(9, 0, 0), (7, 29, 29)] = true := sorry
theorem zb_30 : zy_arm false true [(9, 0, 0), (7, 30, 30)] = true := sorry
theorem zb_31 : zy_arm false true [(9, 0, 0), (7, 31, 31)] = true := sorry
theorem zb_32 : zy_arm false true [(9, 0, 0), (7, 32, 32)] = true := sorry
theorem zb_33 : zy_arm false true [(9, 0, 0), (7, 33, 33)] = true := sorry
theorem zb_34 : zy_arm false true [(9, 0, 0), (7, 34, 34)] = true := sorry
theorem zb_35 : zy_arm false true [(9, 0, 0), (7, 35, 35)] = true := sorry
theorem zb_36 : zy_arm false true [(9, 0, 0), (7, 36, 36)] = true := sorry
theorem zb_37 : zy_arm false true [(9, 0, 0), (7, 37, 37)] = true := sorry
theorem zb_38 : zy_arm false true [(9, 0, 0), (7, 38, 38)] = true := sorry
theorem zb_22f : zy_arm false false [(9, 0, 0), (7, 22, 22)] = true := sorry
theorem zb_22t : zy_arm true false [(9, 0, 0), (7, 22, 22)] = true := sorry
theorem zb_20_00000 : zy_arm false true [(9, 0, 0), (7, 20, 20), (20, 0, 0), (21, 0, 0), (22, 0, 0), (23, 0, 0), (24, 0, 0), (25, 0, 255), (26, 0, 255), (27, 0, 255)] = true := sorry
theorem zb_20_00001 : zy_arm false true [(9, 0, 0), (7, 20, 20), (20, 0, 0), (21, 0, 0), (22, 0, 0), (23, 0, 0), (24, 1, 255), (25, 0, 255), (26, 0, 255), (27, 0, 255)] = true := sorry
theorem zb_20_00010 : zy_arm false true [(9, 0, 0), (7, 20, 20), (20, 0, 0), (21, 0, 0), (22, 0, 0), (23, 1, 255), (24, 0, 0), (25, 0, 255), (26, 0, 255), (27, 0, 255)] = true := sorry
theorem zb_20_00011 : zy_arm false true [(9, 0, 0), (7, 20, 20), (20, 0, 0), (21, 0, 0), (22, 0, 0), (23, 1, 255), (24, 1, 255), (25, 0, 255), (26, 0, 255), (27, 0, 255)] = true := sorry
theorem zb_20_00100 : zy_arm false true [(9, 0, 0), (7, 20, 20), (20, 0, 0), (21, 0, 0), (22, 1, 255), (23, 0, 0), (24, 0, 0), (25, 0, 255), (26, 0, 255), (27, 0, 255)] = true := sorry
theorem zb_20_00101 : zy_arm false true [(9, 0, 0), (7, 20, 20), (20, 0, 0), (21, 0, 0), (22, 1, 255), (23, 0, 0), (24, 1, 255), (25, 0, 255), (26, 0, 255), (27, 0, 255)] = true := sorry
theorem zb_20_00110 : zy_arm false true [(9, 0, 0), (7, 20, 20), (20, 0, 0), (21, 0, 0), (22, 1, 255), (23, 1, 255), (24, 0, 0), (25, 0, 255), (26, 0, 255), (27, 0, 255)] = true := sorry
theorem zb_20_00111 : zy_arm false true [(9, 0, 0), (7, 20, 20), (20, 0, 0), (21, 0, 0), (22, 1, 255), (23, 1, 255), (24, 1, 255), (25, 0, 255), (26, 0, 255), (27, 0, 255)] = true := sorry
theorem zb_20_01000 : zy_arm false true [(9, 0, 0), (7, 20, 20), (20, 0, 0), (21, 1, 255), (22, 0, 0), (23, 0, 0), (24, 0, 0), (25, 0, 255), (26, 0, 255), (27, 0, 255)] = true := sorry
theorem zb_20_01001 : zy_arm false true [(9, 0, 0), (7, 20, 20), (20, 0, 0), (21, 1, 255), (22, 0, 0), (23, 0, 0), (24, 1, 255), (25, 0, 255), (26, 0, 255), (27, 0, 255)] = true := sorry
theorem zb_20_01010 : zy_arm false true [(9, 0, 0), (7, 20, 20), (20, 0, 0), (21, 1, 255), (22, 0, 0), (23, 1, 255), (24, 0, 0), (25, 0, 255), (26, 0, 255), (27, 0, 255)] = true := sorry
theorem zb_20_01011 : zy_arm false true [(9, 0, 0), (7, 20, 20), (20, 0, 0), (21, 1, 255), (22, 0, 0), (23, 1, 255), (24, 1, 255), (25, 0, 255), (26, 0, 255), (27, 0, 255)] = true := sorry
theorem zb_20_01100 : zy_arm false true [(9, 0, 0), (7, 20, 20), (20, 0, 0), (21, 1, 255), (22, 1, 255), (23, 0, 0), (24, 0, 0), (25, 0, 255), (26, 0, 255), (27, 0, 255)] = true := sorry
theorem zb_20_01101 : zy_arm false true [(9, 0, 0), (7, 20, 20), (20, 0, 0), (21, 1, 255), (22, 1, 255), (23, 0, 0), (24, 1, 255), (25, 0, 255), (26, 0, 255), (27, 0, 255)] = true := sorry
theorem zb_20_01110 : zy_arm false true [(9, 0, 0), (7, 20, 20), (20, 0, 0), (21, 1, 255), (22, 1, 255), (23, 1, 255), (24, 0, 0), (25, 0, 255), (26, 0, 255), (27, 0, 255)] = true := sorry
theorem zb_20_01111 : zy_arm false true [(9, 0, 0), (7, 20, 20), (20, 0, 0), (21, 1, 255), (22, 1, 255), (23, 1, 255), (24, 1, 255), (25, 0, 255), (26, 0, 255), (27, 0, 255)] = true := sorry
theorem zb_20_10000 : zy_arm false true [(9, 0, 0), (7, 20, 20), (20, 1, 255), (21, 0, 0), (22, 0, 0), (23, 0, 0), (24, 0, 0), (25, 0, 255), (26, 0, 255), (27, 0, 255)] = true := sorry
theorem zb_20_10001 : zy_arm false true [(9, 0, 0), (7, 20, 20), (20, 1, 255), (21, 0, 0), (22, 0, 0), (23, 0, 0), (24, 1, 255), (25, 0, 255), (26, 0, 255), (27, 0, 255)] = true := sorry
theorem zb_20_10010 : zy_arm false true [(9, 0, 0), (7, 20, 20), (20, 1, 255), (21, 0, 0), (22, 0, 0), (23, 1, 255), (24, 0, 0), (25, 0, 255), (26, 0, 255), (27, 0, 255)] = true := sorry
theorem zb_20_10011 : zy_arm false true [(9, 0, 0), (7, 20, 20), (20, 1, 255), (21, 0, 0), (22, 0, 0), (23, 1, 255), (24, 1, 255), (25, 0, 255), (26, 0, 255), (27, 0, 255)] = true := sorry
theorem zb_20_10100 : zy_arm false true [(9, 0, 0), (7, 20, 20), (20, 1, 255), (21, 0, 0), (22, 1, 255), (23, 0, 0), (24, 0, 0), (25, 0, 255), (26, 0, 255), (27, 0, 255)] = true := sorry
theorem zb_20_10101 : zy_arm false true [(9, 0, 0), (7, 20, 20), (20, 1, 255), (21, 0, 0), (22, 1, 255), (23, 0, 0), (24, 1, 255), (25, 0, 255), (26, 0, 255), (27, 0, 255)] = true := sorry
theorem zb_20_10110 : zy_arm false true [(9, 0, 0), (7, 20, 20), (20, 1, 255), (21, 0, 0), (22, 1, 255), (23, 1, 255), (24, 0, 0), (25, 0, 255), (26, 0, 255), (27, 0, 255)] = true := sorry
theorem zb_20_10111 : zy_arm false true [(9, 0, 0), (7, 20, 20), (20, 1, 255), (21, 0, 0), (22, 1, 255), (23, 1, 255), (24, 1, 255), (25, 0, 255), (26, 0, 255), (27, 0, 255)] = true := sorry
theorem zb_20_11000 : zy_arm false true [(9, 0, 0), (7, 20, 20), (20, 1, 255), (21, 1, 255), (22, 0, 0), (23, 0, 0), (24, 0, 0), (25, 0, 255), (26, 0, 255), (27, 0, 255)] = true := sorry
theorem zb_20_11001 : zy_arm false true [(9, 0, 0), (7, 20, 20), (20, 1, 255), (21, 1, 255), (22, 0, 0), (23, 0, 0), (24, 1, 255), (25, 0, 255), (26, 0, 255), (27, 0, 255)] = true := sorry
theorem zb_20_11010 : zy_arm false true [(9, 0, 0), (7, 20, 20), (20, 1, 255), (21, 1, 255), (22, 0, 0), (23, 1, 255), (24, 0, 0), (25, 0, 255), (26, 0, 255), (27, 0, 255)] = true := sorry
theorem zb_20_11011 : zy_arm false true [(9, 0, 0), (7, 20, 20), (20, 1, 255), (21, 1, 255), (22, 0, 0), (23, 1, 255), (24, 1, 255), (25, 0, 255), (26, 0, 255), (27, 0, 255)] = true := sorry
theorem zb_20_11100 : zy_arm false true [(9, 0, 0), (7, 20, 20), (20, 1, 255), (21, 1, 255), (22, 1, 255), (23, 0, 0), (24, 0, 0), (25, 0, 255), (26, 0, 255), (27, 0, 255)] = true := sorry
theorem zb_20_11101 : zy_arm false true [(9, 0, 0), (7, 20, 20), (20, 1, 255), (21, 1, 255), (22, 1, 255), (23, 0, 0), (24, 1, 255), (25, 0, 255), (26, 0, 255), (27, 0, 255)] = true := sorry
theorem zb_20_11110 : zy_arm false true [(9, 0, 0), (7, 20, 20), (20, 1, 255), (21, 1, 255), (22, 1, 255), (23, 1, 255), (24, 0, 0), (25, 0, 255), (26, 0, 255), (27, 0, 255)] = true := sorry
theorem zb_20_11111 : zy_arm false true [(9, 0, 0), (7, 20, 20), (20, 1, 255), (21, 1, 255), (22, 1, 255), (23, 1, 255), (24, 1, 255), (25, 0, 255), (26, 0, 255), (27, 0, 255)] = true := sorry

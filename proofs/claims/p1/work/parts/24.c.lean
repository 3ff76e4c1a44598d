set_option maxRecDepth 100000 in
theorem zt_wy3_ok : xw_in zt_wy3 [(1, 4), (1, 48)] = true := by decide +kernel
set_option maxRecDepth 100000 in
theorem zt_wy4_ok : xw_in zt_wy4 [(1, 5), (1, 143)] = true := by decide +kernel
set_option maxRecDepth 100000 in
theorem zt_wy5_ok : xw_in zt_wy5 [(1, 6), (1, 152)] = true := by decide +kernel
set_option maxRecDepth 100000 in
theorem zt_wy6_ok : xw_in zt_wy6 [(1, 7), (1, 186)] = true := by decide +kernel
set_option maxRecDepth 100000 in
theorem zt_wy7_ok : xw_in zt_wy7 [(1, 8), (2, 72)] = true := by decide +kernel
set_option maxRecDepth 100000 in
theorem zt_wy8_ok : xw_in zt_wy8 [(1, 13), (2, 147)] = true := by decide +kernel
set_option maxRecDepth 100000 in
theorem zt_wy9_ok : xw_in zt_wy9 [(1, 14), (2, 220)] = true := by decide +kernel
set_option maxRecDepth 100000 in
theorem zt_wy10_ok : xw_in zt_wy10 [(1, 15), (3, 13)] = true := by decide +kernel
set_option maxRecDepth 100000 in
theorem zt_wy11_ok : xw_in zt_wy11 [(1, 16), (3, 36)] = true := by decide +kernel
set_option maxRecDepth 100000 in
theorem zt_wy12_ok : xw_in zt_wy12 [(1, 2), (3, 106), (3, 107)] = true := by decide +kernel
set_option maxRecDepth 100000 in
theorem zt_wy13_ok : xw_in zt_wy13 [(1, 3), (3, 110), (3, 111)] = true := by decide +kernel
set_option maxRecDepth 100000 in
theorem zt_wy14_ok : xw_in zt_wy14 [(1, 4), (3, 114), (3, 115)] = true := by decide +kernel
set_option maxRecDepth 100000 in
theorem zt_wy15_ok : xw_in zt_wy15 [(1, 3), (3, 118), (3, 119)] = true := by decide +kernel
set_option maxRecDepth 100000 in
theorem zt_wy16_ok : xw_in zt_wy16 [(1, 5), (3, 122), (3, 123)] = true := by decide +kernel
set_option maxRecDepth 100000 in
theorem zt_wy17_ok : xw_in zt_wy17 [(1, 8), (3, 127), (3, 128)] = true := by decide +kernel
set_option maxRecDepth 100000 in
theorem zt_wy18_ok : xw_in zt_wy18 [(1, 8), (3, 131), (3, 132)] = true := by decide +kernel
set_option maxRecDepth 100000 in
theorem zt_wy19_ok : xw_in zt_wy19 [(1, 1), (4, 31), (0, 25)] = true := by decide +kernel
set_option maxRecDepth 100000 in
theorem zt_wy20_ok : xw_in zt_wy20 [(1, 3), (4, 34), (4, 35)] = true := by decide +kernel
set_option maxRecDepth 100000 in
theorem zt_wy21_ok : xw_in zt_wy21 [(1, 4), (4, 38), (4, 39)] = true := by decide +kernel
set_option maxRecDepth 100000 in
theorem zt_wy22_ok : xw_in zt_wy22 [(1, 5), (4, 46), (4, 47)] = true := by decide +kernel
set_option maxRecDepth 100000 in
theorem zt_wy23_ok : xw_in zt_wy23 [(1, 3), (4, 58), (4, 59)] = true := by decide +kernel
set_option maxRecDepth 100000 in
theorem zt_wy24_ok : xw_in zt_wy24 [(1, 3), (4, 62), (4, 63)] = true := by decide +kernel
set_option maxRecDepth 100000 in
theorem zt_wy25_ok : xw_in zt_wy25 [(1, 3), (4, 66), (4, 67)] = true := by decide +kernel
set_option maxRecDepth 100000 in
theorem zt_wy26_ok : xw_in zt_wy26 [(1, 4), (4, 70), (4, 71)] = true := by decide +kernel
set_option maxRecDepth 100000 in
theorem zt_wy27_ok : xw_in zt_wy27 [(1, 14), (4, 104), (4, 105)] = true := by decide +kernel
set_option maxRecDepth 100000 in
theorem zt_wy28_ok : xw_in zt_wy28 [(1, 15), (4, 108), (4, 109)] = true := by decide +kernel
set_option maxRecDepth 100000 in
theorem zt_wy29_ok : xw_in zt_wy29 [(1, 19), (7, 34)] = true := by decide +kernel
set_option maxRecDepth 100000 in
theorem zt_wy30_ok : xw_in zt_wy30 [(1, 19), (7, 39), (0, 53)] = true := by decide +kernel
set_option maxRecDepth 100000 in
theorem zt_wy31_ok : xw_in zt_wy31 [(1, 19), (7, 43), (0, 54)] = true := by decide +kernel
set_option maxRecDepth 100000 in
theorem zt_wy32_ok : xw_in zt_wy32 [(1, 19), (7, 46)] = true := by decide +kernel
set_option maxRecDepth 100000 in
theorem zt_wy33_ok : xw_in zt_wy33 [(1, 19), (7, 50), (0, 55)] = true := by decide +kernel
set_option maxRecDepth 100000 in
theorem zt_wy34_ok : xw_in zt_wy34 [(1, 19), (7, 54), (0, 56)] = true := by decide +kernel
set_option maxRecDepth 100000 in
theorem zt_wy35_ok : xw_in zt_wy35 [(1, 19), (7, 58), (0, 57)] = true := by decide +kernel
set_option maxRecDepth 100000 in
theorem zt_wy36_ok : xw_in zt_wy36 [(1, 19), (7, 62), (0, 58)] = true := by decide +kernel
set_option maxRecDepth 100000 in
theorem zt_wy37_ok : xw_in zt_wy37 [(1, 19), (7, 66), (0, 59)] = true := by decide +kernel
set_option maxRecDepth 100000 in
theorem zt_wy38_ok : xw_in zt_wy38 [(1, 19), (7, 70), (0, 60)] = true := by decide +kernel
set_option maxRecDepth 100000 in
theorem zt_wy39_ok : xw_in zt_wy39 [(1, 19), (7, 74), (0, 61)] = true := by decide +kernel
set_option maxRecDepth 100000 in
theorem zt_wy40_ok : xw_in zt_wy40 [(1, 1), (4, 152), (4, 153)] = true := by decide +kernel
set_option maxRecDepth 100000 in
theorem zt_wy41_ok : xw_in zt_wy41 [(1, 1), (4, 157), (0, 26)] = true := by decide +kernel
set_option maxRecDepth 100000 in
theorem zt_wy42_ok : xw_in zt_wy42 [(1, 19), (8, 136), (8, 137)] = true := by decide +kernel
set_option maxRecDepth 100000 in
theorem zt_wy43_ok : xw_in zt_wy43 [(1, 1), (4, 160), (4, 161)] = true := by decide +kernel
set_option maxRecDepth 100000 in
theorem zt_wy44_ok : xw_in zt_wy44 [(1, 19), (8, 140), (8, 141)] = true := by decide +kernel
set_option maxRecDepth 100000 in
theorem zt_wy45_ok : xw_in zt_wy45 [(1, 19), (8, 145), (0, 66)] = true := by decide +kernel
set_option maxRecDepth 100000 in
theorem zt_wy46_ok : xw_in zt_wy46 [(1, 1), (4, 164), (4, 165)] = true := by decide +kernel
set_option maxRecDepth 100000 in
theorem zt_wy47_ok : xw_in zt_wy47 [(1, 19), (9, 30), (9, 31)] = true := by decide +kernel
set_option maxRecDepth 100000 in
theorem zt_wy48_ok : xw_in zt_wy48 [(1, 1), (4, 168), (4, 169)] = true := by decide +kernel
set_option maxRecDepth 100000 in
theorem zt_wy49_ok : xw_in zt_wy49 [(1, 5), (3, 204), (3, 205)] = true := by decide +kernel
set_option maxRecDepth 100000 in
theorem zt_wy50_ok : xw_in zt_wy50 [(1, 19), (9, 34), (9, 35)] = true := by decide +kernel
set_option maxRecDepth 100000 in
theorem zt_wy51_ok : xw_in zt_wy51 [(1, 19), (8, 208)] = true := by decide +kernel
set_option maxRecDepth 100000 in
theorem zt_wy52_ok : xw_in zt_wy52 [(1, 1), (4, 173), (4, 174)] = true := by decide +kernel
set_option maxRecDepth 100000 in
theorem zt_wy53_ok : xw_in zt_wy53 [(1, 5), (4, 177), (4, 178)] = true := by decide +kernel
set_option maxRecDepth 100000 in
theorem zt_wy54_ok : xw_in zt_wy54 [(1, 19), (9, 53), (9, 54)] = true := by decide +kernel
set_option maxRecDepth 100000 in
theorem zt_wy55_ok : xw_in zt_wy55 [(1, 19), (9, 58), (0, 97)] = true := by decide +kernel
set_option maxRecDepth 100000 in
theorem zt_wy56_ok : xw_in zt_wy56 [(1, 1), (4, 181), (4, 182)] = true := by decide +kernel
set_option maxRecDepth 100000 in
theorem zt_wy57_ok : xw_in zt_wy57 [(1, 5), (4, 185), (4, 186)] = true := by decide +kernel
set_option maxRecDepth 100000 in
theorem zt_wy58_ok : xw_in zt_wy58 [(1, 19), (9, 61), (9, 62)] = true := by decide +kernel
set_option maxRecDepth 100000 in
theorem zt_wy59_ok : xw_in zt_wy59 [(1, 19), (9, 66), (0, 98)] = true := by decide +kernel
set_option maxRecDepth 100000 in
theorem zt_wy60_ok : xw_in zt_wy60 [(1, 1), (4, 211), (4, 212)] = true := by decide +kernel
set_option maxRecDepth 100000 in
theorem zt_wy61_ok : xw_in zt_wy61 [(1, 19), (9, 77), (9, 78)] = true := by decide +kernel
set_option maxRecDepth 100000 in
theorem zt_wy62_ok : xw_in zt_wy62 [(1, 1), (4, 220), (4, 221)] = true := by decide +kernel
set_option maxRecDepth 100000 in
theorem zt_wy63_ok : xw_in zt_wy63 [(1, 19), (9, 93), (9, 94)] = true := by decide +kernel
set_option maxRecDepth 100000 in
theorem zt_wy64_ok : xw_in zt_wy64 [(1, 19), (8, 185)] = true := by decide +kernel
set_option maxRecDepth 100000 in
theorem zt_wy65_ok : xw_in zt_wy65 [(1, 5), (4, 224), (4, 225)] = true := by decide +kernel
set_option maxRecDepth 100000 in
theorem zt_wy66_ok : xw_in zt_wy66 [(1, 3), (4, 235), (4, 236)] = true := by decide +kernel
set_option maxRecDepth 100000 in
theorem zt_wy67_ok : xw_in zt_wy67 [(1, 19), (9, 43), (0, 95)] = true := by decide +kernel
set_option maxRecDepth 100000 in
theorem zt_wy68_ok : xw_in zt_wy68 [(1, 1), (5, 13), (5, 14)] = true := by decide +kernel
set_option maxRecDepth 100000 in
theorem zt_wy69_ok : xw_in zt_wy69 [(1, 19), (9, 98), (9, 99)] = true := by decide +kernel
set_option maxRecDepth 100000 in
theorem zt_wy70_ok : xw_in zt_wy70 [(1, 1), (5, 17)] = true := by decide +kernel
set_option maxRecDepth 100000 in
theorem zt_wy71_ok : xw_in zt_wy71 [(1, 1), (5, 20)] = true := by decide +kernel
set_option maxRecDepth 100000 in
theorem zt_wy72_ok : xw_in zt_wy72 [(1, 5), (3, 196), (3, 197)] = true := by decide +kernel
set_option maxRecDepth 100000 in
theorem zt_wy73_ok : xw_in zt_wy73 [(1, 15), (5, 24), (5, 25)] = true := by decide +kernel
set_option maxRecDepth 100000 in
theorem zt_wy74_ok : xw_in zt_wy74 [(1, 15), (5, 29), (0, 29)] = true := by decide +kernel
set_option maxRecDepth 100000 in
theorem zt_wy75_ok : xw_in zt_wy75 [(1, 19), (9, 103), (0, 104)] = true := by decide +kernel
set_option maxRecDepth 100000 in
theorem zt_wy76_ok : xw_in zt_wy76 [(1, 19), (9, 107), (0, 105)] = true := by decide +kernel
set_option maxRecDepth 100000 in
theorem zt_wy77_ok : xw_in zt_wy77 [(1, 19), (9, 111), (0, 106)] = true := by decide +kernel
set_option maxRecDepth 100000 in
theorem zt_wy78_ok : xw_in zt_wy78 [(1, 1), (5, 36), (5, 37)] = true := by decide +kernel
set_option maxRecDepth 100000 in
theorem zt_wy79_ok : xw_in zt_wy79 [(1, 19), (9, 114), (9, 115)] = true := by decide +kernel
set_option maxRecDepth 100000 in
theorem zt_wy80_ok : xw_in zt_wy80 [(1, 1), (5, 44), (5, 45)] = true := by decide +kernel
set_option maxRecDepth 100000 in
theorem zt_wy81_ok : xw_in zt_wy81 [(1, 19), (9, 118), (9, 119)] = true := by decide +kernel
set_option maxRecDepth 100000 in
theorem zt_wy82_ok : xw_in zt_wy82 [(1, 1), (5, 52), (5, 53)] = true := by decide +kernel
set_option maxRecDepth 100000 in
theorem zt_wy83_ok : xw_in zt_wy83 [(1, 19), (9, 122), (9, 123)] = true := by decide +kernel
set_option maxRecDepth 100000 in
theorem zt_wy84_ok : xw_in zt_wy84 [(1, 15), (5, 56), (5, 57)] = true := by decide +kernel
set_option maxRecDepth 100000 in
theorem zt_wy85_ok : xw_in zt_wy85 [(1, 1), (5, 60), (5, 61)] = true := by decide +kernel
set_option maxRecDepth 100000 in
theorem zt_wy86_ok : xw_in zt_wy86 [(1, 19), (9, 126), (9, 127)] = true := by decide +kernel
set_option maxRecDepth 100000 in
theorem zt_wy87_ok : xw_in zt_wy87 [(1, 5), (5, 64), (5, 65)] = true := by decide +kernel
set_option maxRecDepth 100000 in
theorem zt_wy88_ok : xw_in zt_wy88 [(1, 5), (5, 110), (0, 35)] = true := by decide +kernel
set_option maxRecDepth 100000 in
theorem zt_wy89_ok : xw_in zt_wy89 [(1, 19), (9, 131), (0, 107)] = true := by decide +kernel
set_option maxRecDepth 100000 in
theorem zt_wy90_ok : xw_in zt_wy90 [(1, 1), (5, 117), (5, 118)] = true := by decide +kernel
set_option maxRecDepth 100000 in
theorem zt_wy91_ok : xw_in zt_wy91 [(1, 19), (9, 163), (9, 164)] = true := by decide +kernel
set_option maxRecDepth 100000 in
theorem zt_wy92_ok : xw_in zt_wy92 [(1, 1), (5, 121), (5, 122)] = true := by decide +kernel
set_option maxRecDepth 100000 in
theorem zt_wy93_ok : xw_in zt_wy93 [(1, 19), (9, 167), (9, 168)] = true := by decide +kernel
set_option maxRecDepth 100000 in
theorem zt_wy94_ok : xw_in zt_wy94 [(1, 1), (5, 129), (5, 130)] = true := by decide +kernel
set_option maxRecDepth 100000 in
theorem zt_wy95_ok : xw_in zt_wy95 [(1, 19), (9, 179), (9, 180)] = true := by decide +kernel
set_option maxRecDepth 100000 in
theorem zt_wy96_ok : xw_in zt_wy96 [(1, 1), (5, 142), (5, 143)] = true := by decide +kernel
set_option maxRecDepth 100000 in
theorem zt_wy97_ok : xw_in zt_wy97 [(1, 19), (9, 183), (9, 184)] = true := by decide +kernel
set_option maxRecDepth 100000 in
theorem zt_wy98_ok : xw_in zt_wy98 [(1, 1), (5, 192), (5, 193)] = true := by decide +kernel
set_option maxRecDepth 100000 in
theorem zt_wy99_ok : xw_in zt_wy99 [(1, 1), (5, 196)] = true := by decide +kernel
set_option maxRecDepth 100000 in
theorem zt_wy100_ok : xw_in zt_wy100 [(1, 19), (9, 203), (9, 204)] = true := by decide +kernel
set_option maxRecDepth 100000 in
theorem zt_wy101_ok : xw_in zt_wy101 [(1, 1), (5, 213), (5, 214)] = true := by decide +kernel
set_option maxRecDepth 100000 in
theorem zt_wy102_ok : xw_in zt_wy102 [(1, 19), (9, 207), (9, 208)] = true := by decide +kernel
set_option maxRecDepth 100000 in
theorem zt_wy103_ok : xw_in zt_wy103 [(1, 16), (5, 217), (5, 218)] = true := by decide +kernel
set_option maxRecDepth 100000 in
theorem zt_wy104_ok : xw_in zt_wy104 [(1, 5), (5, 221), (5, 222)] = true := by decide +kernel
set_option maxRecDepth 100000 in
theorem zt_wy105_ok : xw_in zt_wy105 [(1, 5), (5, 208), (0, 45)] = true := by decide +kernel
set_option maxRecDepth 100000 in
theorem zt_wy106_ok : xw_in zt_wy106 [(1, 19), (9, 212), (0, 120)] = true := by decide +kernel
set_option maxRecDepth 100000 in
theorem zt_wy107_ok : xw_in zt_wy107 [(1, 19), (9, 192), (0, 117)] = true := by decide +kernel
set_option maxRecDepth 100000 in
theorem zt_wy108_ok : xw_in zt_wy108 [(1, 19), (9, 196), (0, 118)] = true := by decide +kernel
set_option maxRecDepth 100000 in
theorem zt_wy109_ok : xw_in zt_wy109 [(1, 1), (5, 225), (5, 226)] = true := by decide +kernel
set_option maxRecDepth 100000 in
theorem zt_wy110_ok : xw_in zt_wy110 [(1, 19), (9, 215), (9, 216)] = true := by decide +kernel
set_option maxRecDepth 100000 in
theorem zt_wy111_ok : xw_in zt_wy111 [(1, 16), (5, 229), (5, 230)] = true := by decide +kernel
set_option maxRecDepth 100000 in
theorem zt_wy112_ok : xw_in zt_wy112 [(1, 1), (5, 234), (5, 235)] = true := by decide +kernel
set_option maxRecDepth 100000 in
theorem zt_wy113_ok : xw_in zt_wy113 [(1, 16), (5, 238), (5, 239)] = true := by decide +kernel
set_option maxRecDepth 100000 in
theorem zt_wy114_ok : xw_in zt_wy114 [(1, 16), (6, 3), (0, 46)] = true := by decide +kernel
set_option maxRecDepth 100000 in
theorem zt_wy115_ok : xw_in zt_wy115 [(1, 16), (6, 7), (0, 47)] = true := by decide +kernel
set_option maxRecDepth 100000 in
theorem zt_wy116_ok : xw_in zt_wy116 [(1, 16), (6, 11), (0, 48)] = true := by decide +kernel
set_option maxRecDepth 100000 in
theorem zt_wy117_ok : xw_in zt_wy117 [(1, 19), (9, 219), (9, 220)] = true := by decide +kernel
set_option maxRecDepth 100000 in
theorem zt_wy118_ok : xw_in zt_wy118 [(1, 19), (9, 224), (0, 121)] = true := by decide +kernel
set_option maxRecDepth 100000 in
theorem zt_wy119_ok : xw_in zt_wy119 [(1, 19), (9, 228), (0, 122)] = true := by decide +kernel
set_option maxRecDepth 100000 in
theorem zt_wy120_ok : xw_in zt_wy120 [(1, 19), (9, 50)] = true := by decide +kernel
set_option maxRecDepth 100000 in
theorem zt_wy121_ok : xw_in zt_wy121 [(1, 19), (9, 232), (0, 123)] = true := by decide +kernel
set_option maxRecDepth 100000 in
theorem zt_wy122_ok : xw_in zt_wy122 [(1, 19), (9, 236), (0, 124)] = true := by decide +kernel
set_option maxRecDepth 100000 in
theorem zt_wy123_ok : xw_in zt_wy123 [(1, 1), (6, 14), (6, 15)] = true := by decide +kernel
set_option maxRecDepth 100000 in
theorem zt_wy124_ok : xw_in zt_wy124 [(1, 19), (9, 239), (10, 0)] = true := by decide +kernel
set_option maxRecDepth 100000 in
theorem zt_wy125_ok : xw_in zt_wy125 [(1, 1), (6, 18), (6, 19)] = true := by decide +kernel

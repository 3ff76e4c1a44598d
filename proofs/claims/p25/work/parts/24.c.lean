set_option maxRecDepth 100000 in
theorem zt_wk98_ok : xw_in zt_wk98 [] = true := by decide +kernel
set_option maxRecDepth 100000 in
theorem zt_wkL_ok : xw_in zt_wkL [(1, 25), (7, 31), (6, 177), (1, 27), (7, 33), (4, 151), (8, 131), (4, 159), (8, 135), (4, 163), (9, 25), (4, 167), (9, 29), (9, 33), (4, 172), (9, 48), (4, 180), (9, 56), (4, 210), (9, 72), (4, 219), (9, 88), (5, 12), (9, 93), (5, 35), (9, 109), (5, 43), (9, 113), (5, 51), (9, 117), (5, 59), (9, 121), (5, 116), (9, 158), (5, 120), (9, 162), (5, 128), (9, 174), (5, 141), (9, 178), (5, 191), (9, 198), (5, 212), (9, 202), (5, 224), (9, 210), (5, 233), (9, 214), (6, 13), (9, 234), (6, 17), (9, 238), (6, 30), (10, 3), (6, 42), (10, 11), (6, 47), (10, 15), (6, 59), (10, 23), (6, 67), (10, 27), (6, 75), (10, 35), (6, 83), (10, 39), (6, 87), (10, 43), (6, 120), (10, 55), (6, 128), (10, 59), (6, 140), (10, 67), (6, 149), (10, 75), (6, 153), (10, 79), (6, 157), (10, 83)] = true := by decide +kernel
set_option maxRecDepth 100000 in
theorem zt_wy0_ok : xw_in zt_wy0 [(1, 1), (1, 28)] = true := by decide +kernel
set_option maxRecDepth 100000 in
theorem zt_wy1_ok : xw_in zt_wy1 [(1, 2), (1, 36)] = true := by decide +kernel
set_option maxRecDepth 100000 in
theorem zt_wy2_ok : xw_in zt_wy2 [(1, 3), (1, 42)] = true := by decide +kernel
set_option maxRecDepth 100000 in
theorem zt_wy3_ok : xw_in zt_wy3 [(1, 4), (1, 48)] = true := by decide +kernel
set_option maxRecDepth 100000 in
theorem zt_wy4_ok : xw_in zt_wy4 [(1, 5), (1, 143)] = true := by decide +kernel
set_option maxRecDepth 100000 in
theorem zt_wy5_ok : xw_in zt_wy5 [(1, 6), (1, 152)] = true := by decide +kernel
set_option maxRecDepth 100000 in
theorem zt_wy6_ok : xw_in zt_wy6 [(1, 7), (1, 186)] = true := by decide +kernel
set_option maxRecDepth 100000 in
theorem zt_wy7_ok : xw_in zt_wy7 [(1, 8), (2, 72)] = true := by decide +kernel
set_option maxRecDepth 100000 in
theorem zt_wy8_ok : xw_in zt_wy8 [(1, 13), (2, 147)] = true := by decide +kernel
set_option maxRecDepth 100000 in
theorem zt_wy9_ok : xw_in zt_wy9 [(1, 14), (2, 220)] = true := by decide +kernel
set_option maxRecDepth 100000 in
theorem zt_wy10_ok : xw_in zt_wy10 [(1, 15), (3, 13)] = true := by decide +kernel
set_option maxRecDepth 100000 in
theorem zt_wy11_ok : xw_in zt_wy11 [(1, 16), (3, 36)] = true := by decide +kernel
set_option maxRecDepth 100000 in
theorem zt_wy12_ok : xw_in zt_wy12 [(1, 2), (3, 106), (3, 107)] = true := by decide +kernel
set_option maxRecDepth 100000 in
theorem zt_wy13_ok : xw_in zt_wy13 [(1, 3), (3, 110), (3, 111)] = true := by decide +kernel
set_option maxRecDepth 100000 in
theorem zt_wy14_ok : xw_in zt_wy14 [(1, 4), (3, 114), (3, 115)] = true := by decide +kernel
set_option maxRecDepth 100000 in
theorem zt_wy15_ok : xw_in zt_wy15 [(1, 3), (3, 118), (3, 119)] = true := by decide +kernel
set_option maxRecDepth 100000 in
theorem zt_wy16_ok : xw_in zt_wy16 [(1, 5), (3, 122), (3, 123)] = true := by decide +kernel
set_option maxRecDepth 100000 in
theorem zt_wy17_ok : xw_in zt_wy17 [(1, 8), (3, 127), (3, 128)] = true := by decide +kernel
set_option maxRecDepth 100000 in
theorem zt_wy18_ok : xw_in zt_wy18 [(1, 8), (3, 131), (3, 132)] = true := by decide +kernel
set_option maxRecDepth 100000 in
theorem zt_wy19_ok : xw_in zt_wy19 [(1, 1), (4, 31), (0, 25)] = true := by decide +kernel
set_option maxRecDepth 100000 in
theorem zt_wy20_ok : xw_in zt_wy20 [(1, 3), (4, 34), (4, 35)] = true := by decide +kernel
set_option maxRecDepth 100000 in
theorem zt_wy21_ok : xw_in zt_wy21 [(1, 4), (4, 38), (4, 39)] = true := by decide +kernel
set_option maxRecDepth 100000 in
theorem zt_wy22_ok : xw_in zt_wy22 [(1, 5), (4, 46), (4, 47)] = true := by decide +kernel
set_option maxRecDepth 100000 in
theorem zt_wy23_ok : xw_in zt_wy23 [(1, 3), (4, 58), (4, 59)] = true := by decide +kernel
set_option maxRecDepth 100000 in
theorem zt_wy24_ok : xw_in zt_wy24 [(1, 3), (4, 62), (4, 63)] = true := by decide +kernel
set_option maxRecDepth 100000 in
theorem zt_wy25_ok : xw_in zt_wy25 [(1, 3), (4, 66), (4, 67)] = true := by decide +kernel
set_option maxRecDepth 100000 in
theorem zt_wy26_ok : xw_in zt_wy26 [(1, 4), (4, 70), (4, 71)] = true := by decide +kernel
set_option maxRecDepth 100000 in
theorem zt_wy27_ok : xw_in zt_wy27 [(1, 14), (4, 104), (4, 105)] = true := by decide +kernel
set_option maxRecDepth 100000 in
theorem zt_wy28_ok : xw_in zt_wy28 [(1, 15), (4, 108), (4, 109)] = true := by decide +kernel
set_option maxRecDepth 100000 in
theorem zt_wy29_ok : xw_in zt_wy29 [(1, 19), (7, 34)] = true := by decide +kernel
set_option maxRecDepth 100000 in
theorem zt_wy30_ok : xw_in zt_wy30 [(1, 19), (7, 39), (0, 53)] = true := by decide +kernel
set_option maxRecDepth 100000 in
theorem zt_wy31_ok : xw_in zt_wy31 [(1, 19), (7, 43), (0, 54)] = true := by decide +kernel
set_option maxRecDepth 100000 in
theorem zt_wy32_ok : xw_in zt_wy32 [(1, 19), (7, 46)] = true := by decide +kernel
set_option maxRecDepth 100000 in
theorem zt_wy33_ok : xw_in zt_wy33 [(1, 19), (7, 50), (0, 55)] = true := by decide +kernel
set_option maxRecDepth 100000 in
theorem zt_wy34_ok : xw_in zt_wy34 [(1, 19), (7, 54), (0, 56)] = true := by decide +kernel
set_option maxRecDepth 100000 in
theorem zt_wy35_ok : xw_in zt_wy35 [(1, 19), (7, 58), (0, 57)] = true := by decide +kernel
set_option maxRecDepth 100000 in
theorem zt_wy36_ok : xw_in zt_wy36 [(1, 19), (7, 62), (0, 58)] = true := by decide +kernel
set_option maxRecDepth 100000 in
theorem zt_wy37_ok : xw_in zt_wy37 [(1, 19), (7, 66), (0, 59)] = true := by decide +kernel
set_option maxRecDepth 100000 in
theorem zt_wy38_ok : xw_in zt_wy38 [(1, 19), (7, 70), (0, 60)] = true := by decide +kernel
set_option maxRecDepth 100000 in
theorem zt_wy39_ok : xw_in zt_wy39 [(1, 19), (7, 74), (0, 61)] = true := by decide +kernel
set_option maxRecDepth 100000 in
theorem zt_wy40_ok : xw_in zt_wy40 [(1, 1), (4, 152), (4, 153)] = true := by decide +kernel
set_option maxRecDepth 100000 in
theorem zt_wy41_ok : xw_in zt_wy41 [(1, 1), (4, 157), (0, 26)] = true := by decide +kernel
set_option maxRecDepth 100000 in
theorem zt_wy42_ok : xw_in zt_wy42 [(1, 1), (4, 160), (4, 161)] = true := by decide +kernel
set_option maxRecDepth 100000 in
theorem zt_wy43_ok : xw_in zt_wy43 [(1, 1), (4, 164), (4, 165)] = true := by decide +kernel
set_option maxRecDepth 100000 in
theorem zt_wy44_ok : xw_in zt_wy44 [(1, 1), (4, 168), (4, 169)] = true := by decide +kernel
set_option maxRecDepth 100000 in
theorem zt_wy45_ok : xw_in zt_wy45 [(1, 1), (6, 178), (6, 179)] = true := by decide +kernel
set_option maxRecDepth 100000 in
theorem zt_wy46_ok : xw_in zt_wy46 [(1, 1), (4, 173), (4, 174)] = true := by decide +kernel
set_option maxRecDepth 100000 in
theorem zt_wy47_ok : xw_in zt_wy47 [(1, 1), (4, 181), (4, 182)] = true := by decide +kernel
set_option maxRecDepth 100000 in
theorem zt_wy48_ok : xw_in zt_wy48 [(1, 1), (4, 211), (4, 212)] = true := by decide +kernel
set_option maxRecDepth 100000 in
theorem zt_wy49_ok : xw_in zt_wy49 [(1, 1), (4, 220), (4, 221)] = true := by decide +kernel
set_option maxRecDepth 100000 in
theorem zt_wy50_ok : xw_in zt_wy50 [(1, 1), (5, 13), (5, 14)] = true := by decide +kernel
set_option maxRecDepth 100000 in
theorem zt_wy51_ok : xw_in zt_wy51 [(1, 1), (5, 17)] = true := by decide +kernel
set_option maxRecDepth 100000 in
theorem zt_wy52_ok : xw_in zt_wy52 [(1, 1), (5, 20)] = true := by decide +kernel
set_option maxRecDepth 100000 in
theorem zt_wy53_ok : xw_in zt_wy53 [(1, 1), (5, 196)] = true := by decide +kernel
set_option maxRecDepth 100000 in
theorem zt_wy54_ok : xw_in zt_wy54 [(1, 1), (5, 36), (5, 37)] = true := by decide +kernel
set_option maxRecDepth 100000 in
theorem zt_wy55_ok : xw_in zt_wy55 [(1, 1), (5, 44), (5, 45)] = true := by decide +kernel
set_option maxRecDepth 100000 in
theorem zt_wy56_ok : xw_in zt_wy56 [(1, 1), (5, 52), (5, 53)] = true := by decide +kernel
set_option maxRecDepth 100000 in
theorem zt_wy57_ok : xw_in zt_wy57 [(1, 1), (5, 60), (5, 61)] = true := by decide +kernel
set_option maxRecDepth 100000 in
theorem zt_wy58_ok : xw_in zt_wy58 [(1, 1), (5, 117), (5, 118)] = true := by decide +kernel
set_option maxRecDepth 100000 in
theorem zt_wy59_ok : xw_in zt_wy59 [(1, 1), (5, 121), (5, 122)] = true := by decide +kernel
set_option maxRecDepth 100000 in
theorem zt_wy60_ok : xw_in zt_wy60 [(1, 1), (5, 129), (5, 130)] = true := by decide +kernel
set_option maxRecDepth 100000 in
theorem zt_wy61_ok : xw_in zt_wy61 [(1, 1), (5, 142), (5, 143)] = true := by decide +kernel
set_option maxRecDepth 100000 in
theorem zt_wy62_ok : xw_in zt_wy62 [(1, 1), (5, 192), (5, 193)] = true := by decide +kernel
set_option maxRecDepth 100000 in
theorem zt_wy63_ok : xw_in zt_wy63 [(1, 1), (5, 213), (5, 214)] = true := by decide +kernel
set_option maxRecDepth 100000 in
theorem zt_wy64_ok : xw_in zt_wy64 [(1, 1), (5, 225), (5, 226)] = true := by decide +kernel
set_option maxRecDepth 100000 in
theorem zt_wy65_ok : xw_in zt_wy65 [(1, 1), (5, 234), (5, 235)] = true := by decide +kernel
set_option maxRecDepth 100000 in
theorem zt_wy66_ok : xw_in zt_wy66 [(1, 1), (6, 14), (6, 15)] = true := by decide +kernel
set_option maxRecDepth 100000 in
theorem zt_wy67_ok : xw_in zt_wy67 [(1, 1), (6, 18), (6, 19)] = true := by decide +kernel
set_option maxRecDepth 100000 in
theorem zt_wy68_ok : xw_in zt_wy68 [(1, 1), (6, 31), (6, 32)] = true := by decide +kernel
set_option maxRecDepth 100000 in
theorem zt_wy69_ok : xw_in zt_wy69 [(1, 1), (6, 43), (6, 44)] = true := by decide +kernel
set_option maxRecDepth 100000 in
theorem zt_wy70_ok : xw_in zt_wy70 [(1, 1), (6, 48), (6, 49)] = true := by decide +kernel
set_option maxRecDepth 100000 in
theorem zt_wy71_ok : xw_in zt_wy71 [(1, 1), (6, 60), (6, 61)] = true := by decide +kernel
set_option maxRecDepth 100000 in
theorem zt_wy72_ok : xw_in zt_wy72 [(1, 1), (6, 68), (6, 69)] = true := by decide +kernel
set_option maxRecDepth 100000 in
theorem zt_wy73_ok : xw_in zt_wy73 [(1, 1), (6, 76), (6, 77)] = true := by decide +kernel
set_option maxRecDepth 100000 in
theorem zt_wy74_ok : xw_in zt_wy74 [(1, 1), (6, 84), (6, 85)] = true := by decide +kernel
set_option maxRecDepth 100000 in
theorem zt_wy75_ok : xw_in zt_wy75 [(1, 1), (6, 88), (6, 89)] = true := by decide +kernel
set_option maxRecDepth 100000 in
theorem zt_wy76_ok : xw_in zt_wy76 [(1, 1), (6, 121), (6, 122)] = true := by decide +kernel
set_option maxRecDepth 100000 in
theorem zt_wy77_ok : xw_in zt_wy77 [(1, 1), (6, 129), (6, 130)] = true := by decide +kernel
set_option maxRecDepth 100000 in
theorem zt_wy78_ok : xw_in zt_wy78 [(1, 1), (6, 141), (6, 142)] = true := by decide +kernel
set_option maxRecDepth 100000 in
theorem zt_wy79_ok : xw_in zt_wy79 [(1, 1), (6, 150), (6, 151)] = true := by decide +kernel
set_option maxRecDepth 100000 in
theorem zt_wy80_ok : xw_in zt_wy80 [(1, 1), (6, 154), (6, 155)] = true := by decide +kernel
set_option maxRecDepth 100000 in
theorem zt_wy81_ok : xw_in zt_wy81 [(1, 1), (6, 158), (6, 159)] = true := by decide +kernel
set_option maxRecDepth 100000 in
theorem zt_wy82_ok : xw_in zt_wy82 [(1, 19), (8, 132), (8, 133)] = true := by decide +kernel
set_option maxRecDepth 100000 in
theorem zt_wy83_ok : xw_in zt_wy83 [(1, 19), (8, 181)] = true := by decide +kernel
set_option maxRecDepth 100000 in
theorem zt_wy84_ok : xw_in zt_wy84 [(1, 19), (9, 46)] = true := by decide +kernel
set_option maxRecDepth 100000 in
theorem zt_wy85_ok : xw_in zt_wy85 [(1, 19), (8, 170), (0, 73)] = true := by decide +kernel
set_option maxRecDepth 100000 in
theorem zt_wy86_ok : xw_in zt_wy86 [(1, 19), (8, 149), (0, 68)] = true := by decide +kernel
set_option maxRecDepth 100000 in
theorem zt_wy87_ok : xw_in zt_wy87 [(1, 19), (8, 145), (0, 67)] = true := by decide +kernel
set_option maxRecDepth 100000 in
theorem zt_wy88_ok : xw_in zt_wy88 [(1, 19), (8, 157), (0, 70)] = true := by decide +kernel
set_option maxRecDepth 100000 in
theorem zt_wy89_ok : xw_in zt_wy89 [(1, 19), (8, 141), (0, 66)] = true := by decide +kernel
set_option maxRecDepth 100000 in
theorem zt_wy90_ok : xw_in zt_wy90 [(1, 19), (8, 162), (0, 71)] = true := by decide +kernel
set_option maxRecDepth 100000 in
theorem zt_wy91_ok : xw_in zt_wy91 [(1, 19), (8, 153), (0, 69)] = true := by decide +kernel
set_option maxRecDepth 100000 in
theorem zt_wy92_ok : xw_in zt_wy92 [(1, 19), (8, 228), (0, 86)] = true := by decide +kernel
set_option maxRecDepth 100000 in
theorem zt_wy93_ok : xw_in zt_wy93 [(1, 19), (8, 216), (0, 83)] = true := by decide +kernel
set_option maxRecDepth 100000 in
theorem zt_wy94_ok : xw_in zt_wy94 [(1, 19), (8, 178), (0, 75)] = true := by decide +kernel
set_option maxRecDepth 100000 in
theorem zt_wy95_ok : xw_in zt_wy95 [(1, 19), (8, 204)] = true := by decide +kernel
set_option maxRecDepth 100000 in
theorem zt_wy96_ok : xw_in zt_wy96 [(1, 19), (8, 189), (0, 77)] = true := by decide +kernel

set_option maxRecDepth 100000 in
theorem zt_wc0_ok : xw_in zt_wc0 [(1, 223), (1, 225), (1, 227), (1, 229), (1, 231), (1, 233), (1, 235), (1, 237), (1, 184), (1, 7)] = true := by decide +kernel
set_option maxRecDepth 100000 in
theorem zt_wc1_ok : xw_in zt_wc1 [(1, 174), (1, 176), (1, 178), (1, 180), (1, 150), (1, 6)] = true := by decide +kernel
set_option maxRecDepth 100000 in
theorem zt_wc2_ok : xw_in zt_wc2 [(2, 158), (2, 160), (2, 162), (2, 164), (2, 166), (2, 168), (2, 170), (2, 172), (2, 145), (1, 13)] = true := by decide +kernel
set_option maxRecDepth 100000 in
theorem zt_wc3_ok : xw_in zt_wc3 [(1, 64), (1, 66), (1, 68), (1, 70), (1, 72), (1, 74), (1, 76), (1, 46), (1, 4)] = true := by decide +kernel
set_option maxRecDepth 100000 in
theorem zt_wc4_ok : xw_in zt_wc4 [(2, 44), (2, 46), (2, 48), (2, 50), (2, 52), (2, 54), (2, 56), (2, 58), (2, 60), (2, 62), (2, 64), (2, 66), (1, 141), (1, 5)] = true := by decide +kernel
set_option maxRecDepth 100000 in
theorem zt_wc5_ok : xw_in zt_wc5 [(1, 113), (1, 115), (1, 117), (1, 119), (1, 121), (1, 123), (1, 125), (1, 127), (1, 129), (1, 131), (1, 133), (1, 135), (1, 137), (1, 40), (1, 3)] = true := by decide +kernel
set_option maxRecDepth 100000 in
theorem zt_wc6_ok : xw_in zt_wc6 [(2, 190), (2, 192), (2, 194), (2, 196), (2, 198), (2, 200), (2, 202), (2, 204), (2, 206), (2, 208), (2, 210), (1, 34), (1, 2)] = true := by decide +kernel
set_option maxRecDepth 100000 in
theorem zt_wc7_ok : xw_in zt_wc7 [(2, 233), (2, 235), (2, 237), (2, 239), (3, 1), (3, 3), (3, 5), (3, 7), (2, 218), (1, 14)] = true := by decide +kernel
set_option maxRecDepth 100000 in
theorem zt_wc8_ok : xw_in zt_wc8 [(2, 128), (2, 130), (2, 132), (2, 134), (2, 136), (2, 138), (2, 140), (2, 70), (1, 8)] = true := by decide +kernel
set_option maxRecDepth 100000 in
theorem zt_wc9_ok : xw_in zt_wc9 [(3, 64), (3, 66), (3, 68), (3, 70), (3, 72), (3, 74), (3, 76), (3, 78), (3, 80), (3, 82), (3, 84), (3, 86), (3, 88), (3, 90), (3, 92), (3, 94), (3, 96), (3, 98), (3, 100), (3, 102), (3, 34), (1, 16)] = true := by decide +kernel
set_option maxRecDepth 100000 in
theorem zt_wc10_ok : xw_in zt_wc10 [(3, 22), (3, 24), (3, 26), (3, 28), (3, 30), (3, 11), (1, 15)] = true := by decide +kernel
set_option maxRecDepth 100000 in
theorem zt_wc11_ok : xw_in zt_wc11 [(4, 124), (4, 126), (4, 128), (4, 130), (4, 132), (4, 134), (4, 136), (4, 138), (4, 140), (4, 142), (4, 144), (4, 146), (4, 148), (1, 26), (1, 1)] = true := by decide +kernel
set_option maxRecDepth 100000 in
theorem zt_wc12_ok : xw_in zt_wc12 [(7, 188), (7, 190), (7, 192), (7, 194), (7, 196), (7, 198), (7, 200), (7, 202), (7, 204), (7, 206), (7, 208), (7, 210), (7, 212), (7, 214), (7, 216), (7, 218), (7, 220), (7, 222), (7, 224), (7, 226), (7, 228), (7, 230), (7, 232), (7, 234), (7, 236), (7, 238), (8, 0), (8, 2), (8, 4), (8, 6), (8, 8), (8, 10), (8, 12), (8, 14), (8, 16), (8, 18), (8, 20), (8, 22), (8, 24), (8, 26), (8, 28), (8, 30), (8, 32), (8, 34), (8, 36), (8, 38), (8, 40), (8, 42), (8, 44), (8, 46), (8, 48), (8, 50), (8, 52), (8, 54), (8, 56), (8, 58), (8, 60), (8, 62), (8, 64), (8, 66), (8, 68), (8, 70), (8, 72), (8, 74), (8, 76), (8, 78), (8, 80), (8, 82), (8, 84), (8, 86), (8, 88), (8, 90), (8, 92), (8, 94), (8, 96), (8, 98), (8, 100), (8, 102), (8, 104), (8, 106), (8, 108), (8, 110), (8, 112), (8, 114), (8, 116), (8, 118), (8, 120), (8, 122), (8, 124), (8, 126), (8, 128), (7, 32), (1, 19)] = true := by decide +kernel
set_option maxRecDepth 100000 in
theorem zt_wk0_ok : xw_in zt_wk0 [(1, 221), (1, 188)] = true := by decide +kernel
set_option maxRecDepth 100000 in
theorem zt_wk1_ok : xw_in zt_wk1 [(1, 154)] = true := by decide +kernel
set_option maxRecDepth 100000 in
theorem zt_wk2_ok : xw_in zt_wk2 [(2, 152), (2, 155), (2, 150), (2, 151), (2, 149)] = true := by decide +kernel
set_option maxRecDepth 100000 in
theorem zt_wk3_ok : xw_in zt_wk3 [(1, 51), (1, 52), (1, 53), (1, 56), (1, 58), (1, 59), (1, 62), (4, 73), (4, 77), (4, 81), (1, 50), (4, 41)] = true := by decide +kernel
set_option maxRecDepth 100000 in
theorem zt_wk4_ok : xw_in zt_wk4 [(2, 2), (2, 10), (2, 22), (2, 24), (2, 28), (2, 0), (2, 5), (2, 17), (2, 29), (2, 33), (2, 36), (2, 41), (1, 190), (1, 158), (1, 162), (1, 167), (1, 172), (1, 209), (1, 195), (1, 218), (1, 89), (1, 95), (1, 146), (1, 148), (1, 146), (1, 148), (3, 125), (4, 229), (1, 145), (5, 108), (4, 227), (4, 228), (5, 206)] = true := by decide +kernel
set_option maxRecDepth 100000 in
theorem zt_wk5_ok : xw_in zt_wk5 [(1, 99), (1, 100), (1, 102), (1, 107), (1, 110), (1, 111), (1, 112), (1, 91), (1, 94), (1, 97), (1, 81), (1, 84), (1, 87), (2, 26), (2, 20), (2, 16), (1, 202), (1, 45), (4, 82), (6, 29), (1, 44), (3, 113), (3, 117), (4, 37), (4, 44), (4, 69), (4, 65), (4, 61), (6, 26)] = true := by decide +kernel
set_option maxRecDepth 100000 in
theorem zt_wk6_ok : xw_in zt_wk6 [(2, 177), (2, 179), (2, 175), (1, 108), (2, 176), (2, 181), (2, 182), (2, 183), (2, 186), (2, 188), (2, 120), (1, 98), (2, 34), (1, 39), (1, 140), (2, 69), (2, 144), (1, 38), (1, 142), (2, 71), (2, 146), (3, 109), (3, 121), (3, 126), (3, 130)] = true := by decide +kernel
set_option maxRecDepth 100000 in
theorem zt_wk7_ok : xw_in zt_wk7 [(2, 223), (2, 224), (2, 225), (2, 226), (2, 227), (2, 228), (2, 231), (2, 229), (2, 222)] = true := by decide +kernel
set_option maxRecDepth 100000 in
theorem zt_wk8_ok : xw_in zt_wk8 [(2, 117), (2, 116), (2, 118), (2, 119), (2, 121), (2, 123), (2, 127), (2, 74), (2, 76)] = true := by decide +kernel

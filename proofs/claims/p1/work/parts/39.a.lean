set_option maxRecDepth 100000 in
theorem zt_b0_ : zt_go (zt_bx [.inr (64, 0), xd_top, xd_top, xd_top, xd_top, xd_top]) = true := by decide +kernel
set_option maxRecDepth 100000 in
theorem zt_b1__0c0 : zt_go (zt_bx [.inr (64, 1), .inr ((-2147483648), (-1)), xd_top, xd_top, xd_top, xd_top]) = true := by decide +kernel
set_option maxRecDepth 100000 in
theorem zt_b1__0c2 : zt_go (zt_bx [.inr (64, 1), .inr (1, 2147483647), xd_top, xd_top, xd_top, xd_top]) = true := by decide +kernel
set_option maxRecDepth 100000 in
theorem zt_b2__0c0 : zt_go (zt_bx [.inr (64, 2), .inr ((-2147483648), (-1)), xd_top, xd_top, xd_top, xd_top]) = true := by decide +kernel
set_option maxRecDepth 100000 in
theorem zt_b2__0c1 : zt_go (zt_bx [.inr (64, 2), .inl 0, xd_top, xd_top, xd_top, xd_top]) = true := by decide +kernel
set_option maxRecDepth 100000 in
theorem zt_b2__0c2 : zt_go (zt_bx [.inr (64, 2), .inl 1, xd_top, xd_top, xd_top, xd_top]) = true := by decide +kernel
set_option maxRecDepth 100000 in
theorem zt_b2__0c3 : zt_go (zt_bx [.inr (64, 2), .inr (2, 2147483647), xd_top, xd_top, xd_top, xd_top]) = true := by decide +kernel
set_option maxRecDepth 100000 in
theorem zt_b3_ : zt_go (zt_bx [.inr (64, 3), xd_top, xd_top, xd_top, xd_top, xd_top]) = true := by decide +kernel
set_option maxRecDepth 100000 in
theorem zt_b5__0c0 : zt_go (zt_bx [.inr (64, 5), .inr ((-2147483648), (-1)), xd_top, xd_top, xd_top, xd_top]) = true := by decide +kernel
set_option maxRecDepth 100000 in
theorem zt_b5__0c1 : zt_go (zt_bx [.inr (64, 5), .inr (0, 2147483647), xd_top, xd_top, xd_top, xd_top]) = true := by decide +kernel
set_option maxRecDepth 100000 in
theorem zt_b6__0c0 : zt_go (zt_bx [.inr (64, 6), .inr ((-2147483648), (-1)), xd_top, xd_top, xd_top, xd_top]) = true := by decide +kernel
set_option maxRecDepth 100000 in
theorem zt_b6__0c1 : zt_go (zt_bx [.inr (64, 6), .inr (0, 2147483647), xd_top, xd_top, xd_top, xd_top]) = true := by decide +kernel
set_option maxRecDepth 100000 in
theorem zt_b7__0c0 : zt_go (zt_bx [.inr (64, 7), .inr ((-2147483648), (-1)), xd_top, xd_top, xd_top, xd_top]) = true := by decide +kernel
set_option maxRecDepth 100000 in
theorem zt_b7__0c1 : zt_go (zt_bx [.inr (64, 7), .inr (0, 2147483647), xd_top, xd_top, xd_top, xd_top]) = true := by decide +kernel
set_option maxRecDepth 100000 in
theorem zt_b8__0c0 : zt_go (zt_bx [.inr (64, 8), .inr ((-2147483648), (-1)), xd_top, xd_top, xd_top, xd_top]) = true := by decide +kernel
set_option maxRecDepth 100000 in
theorem zt_b8__0c1_1c0 : zt_go (zt_bx [.inr (64, 8), .inl 0, .inr ((-2147483648), (-1)), xd_top, xd_top, xd_top]) = true := by decide +kernel
set_option maxRecDepth 100000 in
theorem zt_b8__0c1_1c1 : zt_go (zt_bx [.inr (64, 8), .inl 0, .inr (0, 2147483647), xd_top, xd_top, xd_top]) = true := by decide +kernel
set_option maxRecDepth 100000 in
theorem zt_b8__0c2_1c0 : zt_go (zt_bx [.inr (64, 8), .inl 1, .inr ((-2147483648), (-1)), xd_top, xd_top, xd_top]) = true := by decide +kernel
set_option maxRecDepth 100000 in
theorem zt_b8__0c2_1c1 : zt_go (zt_bx [.inr (64, 8), .inl 1, .inr (0, 2147483647), xd_top, xd_top, xd_top]) = true := by decide +kernel
set_option maxRecDepth 100000 in
theorem zt_b8__0c3_1c0 : zt_go (zt_bx [.inr (64, 8), .inl 2, .inr ((-2147483648), (-1)), xd_top, xd_top, xd_top]) = true := by decide +kernel
set_option maxRecDepth 100000 in
theorem zt_b8__0c3_1c31 : zt_go (zt_bx [.inr (64, 8), .inl 2, .inr (30, 2147483647), xd_top, xd_top, xd_top]) = true := by decide +kernel
set_option maxRecDepth 100000 in
theorem zt_b8__0c4_1c0 : zt_go (zt_bx [.inr (64, 8), .inl 3, .inr ((-2147483648), (-1)), xd_top, xd_top, xd_top]) = true := by decide +kernel
set_option maxRecDepth 100000 in
theorem zt_b8__0c4_1c1 : zt_go (zt_bx [.inr (64, 8), .inl 3, .inr (0, 2147483647), xd_top, xd_top, xd_top]) = true := by decide +kernel
set_option maxRecDepth 100000 in
theorem zt_b8__0c5 : zt_go (zt_bx [.inr (64, 8), .inr (4, 2147483647), xd_top, xd_top, xd_top, xd_top]) = true := by decide +kernel
set_option maxRecDepth 100000 in
theorem zt_b9__0c0 : zt_go (zt_bx [.inr (64, 9), .inr ((-2147483648), (-1)), xd_top, xd_top, xd_top, xd_top]) = true := by decide +kernel
set_option maxRecDepth 100000 in
theorem zt_b9__0c1_1c0 : zt_go (zt_bx [.inr (64, 9), .inr (0, 29), .inr ((-2147483648), (-1)), xd_top, xd_top, xd_top]) = true := by decide +kernel
set_option maxRecDepth 100000 in
theorem zt_b9__0c1_1c1_2c0 : zt_go (zt_bx [.inr (64, 9), .inr (0, 29), .inr (0, 3), .inr ((-2147483648), (-1)), xd_top, xd_top]) = true := by decide +kernel
set_option maxRecDepth 100000 in
theorem zt_b9__0c1_1c1_2c1 : zt_go (zt_bx [.inr (64, 9), .inr (0, 29), .inr (0, 3), .inr (0, 9), xd_top, xd_top]) = true := by decide +kernel
set_option maxRecDepth 100000 in
theorem zt_b9__0c1_1c1_2c2 : zt_go (zt_bx [.inr (64, 9), .inr (0, 29), .inr (0, 3), .inr (10, 2147483647), xd_top, xd_top]) = true := by decide +kernel
set_option maxRecDepth 100000 in
theorem zt_b9__0c1_1c2 : zt_go (zt_bx [.inr (64, 9), .inr (0, 29), .inr (4, 2147483647), xd_top, xd_top, xd_top]) = true := by decide +kernel
set_option maxRecDepth 100000 in
theorem zt_b9__0c2 : zt_go (zt_bx [.inr (64, 9), .inr (30, 2147483647), xd_top, xd_top, xd_top, xd_top]) = true := by decide +kernel
set_option maxRecDepth 100000 in
theorem zt_b10_ : zt_go (zt_bx [.inr (64, 10), xd_top, xd_top, xd_top, xd_top, xd_top]) = true := by decide +kernel
set_option maxRecDepth 100000 in
theorem zt_b11__0c0 : zt_go (zt_bx [.inr (64, 11), .inr ((-2147483648), (-1)), xd_top, xd_top, xd_top, xd_top]) = true := by decide +kernel
set_option maxRecDepth 100000 in
theorem zt_b11__0c1 : zt_go (zt_bx [.inr (64, 11), .inr (0, 2147483647), xd_top, xd_top, xd_top, xd_top]) = true := by decide +kernel
set_option maxRecDepth 100000 in
theorem zt_b12__0c0 : zt_go (zt_bx [.inr (64, 12), .inr ((-2147483648), (-1)), xd_top, xd_top, xd_top, xd_top]) = true := by decide +kernel
set_option maxRecDepth 100000 in
theorem zt_b12__0c1 : zt_go (zt_bx [.inr (64, 12), .inl 0, xd_top, xd_top, xd_top, xd_top]) = true := by decide +kernel
set_option maxRecDepth 100000 in
theorem zt_b12__0c2 : zt_go (zt_bx [.inr (64, 12), .inl 1, xd_top, xd_top, xd_top, xd_top]) = true := by decide +kernel
set_option maxRecDepth 100000 in
theorem zt_b12__0c3 : zt_go (zt_bx [.inr (64, 12), .inl 2, xd_top, xd_top, xd_top, xd_top]) = true := by decide +kernel
set_option maxRecDepth 100000 in
theorem zt_b12__0c4 : zt_go (zt_bx [.inr (64, 12), .inr (3, 2147483647), xd_top, xd_top, xd_top, xd_top]) = true := by decide +kernel
set_option maxRecDepth 100000 in
theorem zt_b13__0c0 : zt_go (zt_bx [.inr (64, 13), .inr ((-2147483648), (-1)), xd_top, xd_top, xd_top, xd_top]) = true := by decide +kernel
set_option maxRecDepth 100000 in
theorem zt_b13__0c202 : zt_go (zt_bx [.inr (64, 13), .inr (201, 2147483647), xd_top, xd_top, xd_top, xd_top]) = true := by decide +kernel
set_option maxRecDepth 100000 in
theorem zt_b14__0c0 : zt_go (zt_bx [.inr (64, 14), .inr ((-2147483648), (-1)), xd_top, xd_top, xd_top, xd_top]) = true := by decide +kernel
set_option maxRecDepth 100000 in
theorem zt_b14__0c31 : zt_go (zt_bx [.inr (64, 14), .inr (30, 2147483647), xd_top, xd_top, xd_top, xd_top]) = true := by decide +kernel
set_option maxRecDepth 100000 in
theorem zt_b15__0c0 : zt_go (zt_bx [.inr (64, 15), .inr ((-2147483648), (-1)), xd_top, xd_top, xd_top, xd_top]) = true := by decide +kernel
set_option maxRecDepth 100000 in
theorem zt_b15__0c1 : zt_go (zt_bx [.inr (64, 15), .inr (0, 2147483647), xd_top, xd_top, xd_top, xd_top]) = true := by decide +kernel
set_option maxRecDepth 100000 in
theorem zt_b16__0c0 : zt_go (zt_bx [.inr (64, 16), .inr ((-2147483648), (-1)), xd_top, xd_top, xd_top, xd_top]) = true := by decide +kernel
set_option maxRecDepth 100000 in
theorem zt_b16__0c1 : zt_go (zt_bx [.inr (64, 16), .inr (0, 2147483647), xd_top, xd_top, xd_top, xd_top]) = true := by decide +kernel
set_option maxRecDepth 100000 in
theorem zt_b17__0c0 : zt_go (zt_bx [.inr (64, 17), .inr ((-2147483648), 0), xd_top, xd_top, xd_top, xd_top]) = true := by decide +kernel
set_option maxRecDepth 100000 in
theorem zt_b17__0c1_1c0 : zt_go (zt_bx [.inr (64, 17), .inr (1, 2), .inr ((-2147483648), (-1)), xd_top, xd_top, xd_top]) = true := by decide +kernel
set_option maxRecDepth 100000 in
theorem zt_b17__0c1_1c1_2c0 : zt_go (zt_bx [.inr (64, 17), .inr (1, 2), .inr (0, 3), .inr ((-2147483648), (-1)), xd_top, xd_top]) = true := by decide +kernel
set_option maxRecDepth 100000 in
theorem zt_b17__0c1_1c1_2c1_3c0 : zt_go (zt_bx [.inr (64, 17), .inr (1, 2), .inr (0, 3), .inr (0, 9), .inr ((-2147483648), 0), xd_top]) = true := by decide +kernel
set_option maxRecDepth 100000 in
theorem zt_b17__0c1_1c1_2c1_3c1_4c0 : zt_go (zt_bx [.inr (64, 17), .inr (1, 2), .inr (0, 3), .inr (0, 9), .inr (1, 40), .inr ((-2147483648), (-1))]) = true := by decide +kernel
set_option maxRecDepth 100000 in
theorem zt_b17__0c1_1c1_2c1_3c1_4c1 : zt_go (zt_bx [.inr (64, 17), .inr (1, 2), .inr (0, 3), .inr (0, 9), .inr (1, 40), .inr (0, 2)]) = true := by decide +kernel
set_option maxRecDepth 100000 in
theorem zt_b17__0c1_1c1_2c1_3c1_4c2 : zt_go (zt_bx [.inr (64, 17), .inr (1, 2), .inr (0, 3), .inr (0, 9), .inr (1, 40), .inr (3, 2147483647)]) = true := by decide +kernel
set_option maxRecDepth 100000 in
theorem zt_b17__0c1_1c1_2c1_3c2 : zt_go (zt_bx [.inr (64, 17), .inr (1, 2), .inr (0, 3), .inr (0, 9), .inr (41, 2147483647), xd_top]) = true := by decide +kernel
set_option maxRecDepth 100000 in
theorem zt_b17__0c1_1c1_2c2 : zt_go (zt_bx [.inr (64, 17), .inr (1, 2), .inr (0, 3), .inr (10, 2147483647), xd_top, xd_top]) = true := by decide +kernel
set_option maxRecDepth 100000 in
theorem zt_b17__0c1_1c2 : zt_go (zt_bx [.inr (64, 17), .inr (1, 2), .inr (4, 2147483647), xd_top, xd_top, xd_top]) = true := by decide +kernel
set_option maxRecDepth 100000 in
theorem zt_b17__0c2 : zt_go (zt_bx [.inr (64, 17), .inr (3, 2147483647), xd_top, xd_top, xd_top, xd_top]) = true := by decide +kernel
set_option maxRecDepth 100000 in
theorem zt_b18__0c0 : zt_go (zt_bx [.inr (64, 18), .inr ((-2147483648), 0), xd_top, xd_top, xd_top, xd_top]) = true := by decide +kernel
set_option maxRecDepth 100000 in
theorem zt_b18__0c1_1c0 : zt_go (zt_bx [.inr (64, 18), .inr (1, 200), .inr ((-2147483648), (-1)), xd_top, xd_top, xd_top]) = true := by decide +kernel
set_option maxRecDepth 100000 in
theorem zt_b18__0c1_1c1 : zt_go (zt_bx [.inr (64, 18), .inr (1, 200), .inr (0, 1), xd_top, xd_top, xd_top]) = true := by decide +kernel
set_option maxRecDepth 100000 in
theorem zt_b18__0c1_1c2 : zt_go (zt_bx [.inr (64, 18), .inr (1, 200), .inr (2, 2147483647), xd_top, xd_top, xd_top]) = true := by decide +kernel
set_option maxRecDepth 100000 in
theorem zt_b18__0c2 : zt_go (zt_bx [.inr (64, 18), .inr (201, 2147483647), xd_top, xd_top, xd_top, xd_top]) = true := by decide +kernel
set_option maxRecDepth 100000 in
theorem zt_b19__0c0 : zt_go (zt_bx [.inr (64, 19), .inr ((-2147483648), (-1)), xd_top, xd_top, xd_top, xd_top]) = true := by decide +kernel
set_option maxRecDepth 100000 in
theorem zt_b19__0c1_1c0 : zt_go (zt_bx [.inr (64, 19), .inl 0, .inr ((-2147483648), 0), xd_top, xd_top, xd_top]) = true := by decide +kernel
set_option maxRecDepth 100000 in
theorem zt_b19__0c1_1c2 : zt_go (zt_bx [.inr (64, 19), .inl 0, .inr (201, 2147483647), xd_top, xd_top, xd_top]) = true := by decide +kernel
set_option maxRecDepth 100000 in
theorem zt_b19__0c2_1c0 : zt_go (zt_bx [.inr (64, 19), .inl 1, .inr ((-2147483648), 0), xd_top, xd_top, xd_top]) = true := by decide +kernel
set_option maxRecDepth 100000 in
theorem zt_b19__0c2_1c2 : zt_go (zt_bx [.inr (64, 19), .inl 1, .inr (201, 2147483647), xd_top, xd_top, xd_top]) = true := by decide +kernel
set_option maxRecDepth 100000 in
theorem zt_b19__0c3_1c0 : zt_go (zt_bx [.inr (64, 19), .inl 2, .inr ((-2147483648), 0), xd_top, xd_top, xd_top]) = true := by decide +kernel
set_option maxRecDepth 100000 in
theorem zt_b19__0c3_1c2 : zt_go (zt_bx [.inr (64, 19), .inl 2, .inr (201, 2147483647), xd_top, xd_top, xd_top]) = true := by decide +kernel
set_option maxRecDepth 100000 in
theorem zt_b19__0c4 : zt_go (zt_bx [.inr (64, 19), .inr (3, 2147483647), xd_top, xd_top, xd_top, xd_top]) = true := by decide +kernel
set_option maxRecDepth 100000 in
theorem zt_b20__0c0 : zt_go (zt_bx [.inr (64, 20), .inr ((-2147483648), 0), xd_top, xd_top, xd_top, xd_top]) = true := by decide +kernel
set_option maxRecDepth 100000 in
theorem zt_b20__0c2 : zt_go (zt_bx [.inr (64, 20), .inr (201, 2147483647), xd_top, xd_top, xd_top, xd_top]) = true := by decide +kernel
set_option maxRecDepth 100000 in
theorem zt_b24_ : zt_go (zt_bx [.inr (64, 24), xd_top, xd_top, xd_top, xd_top, xd_top]) = true := by decide +kernel
set_option maxRecDepth 100000 in
theorem zt_b25__0c0 : zt_go (zt_bx [.inr (64, 25), .inr ((-2147483648), (-1)), xd_top, xd_top, xd_top, xd_top]) = true := by decide +kernel
set_option maxRecDepth 100000 in
theorem zt_b25__0c1 : zt_go (zt_bx [.inr (64, 25), .inr (0, 2147483647), xd_top, xd_top, xd_top, xd_top]) = true := by decide +kernel
set_option maxRecDepth 100000 in
theorem zt_b26__0c0 : zt_go (zt_bx [.inr (64, 26), .inr ((-2147483648), (-1)), xd_top, xd_top, xd_top, xd_top]) = true := by decide +kernel
set_option maxRecDepth 100000 in
theorem zt_b26__0c1 : zt_go (zt_bx [.inr (64, 26), .inr (0, 3), xd_top, xd_top, xd_top, xd_top]) = true := by decide +kernel
set_option maxRecDepth 100000 in
theorem zt_b26__0c2 : zt_go (zt_bx [.inr (64, 26), .inr (4, 2147483647), xd_top, xd_top, xd_top, xd_top]) = true := by decide +kernel
set_option maxRecDepth 100000 in
theorem zt_b27__0c0 : zt_go (zt_bx [.inr (64, 27), .inr ((-2147483648), (-1)), xd_top, xd_top, xd_top, xd_top]) = true := by decide +kernel
set_option maxRecDepth 100000 in
theorem zt_b27__0c1 : zt_go (zt_bx [.inr (64, 27), .inr (0, 2147483647), xd_top, xd_top, xd_top, xd_top]) = true := by decide +kernel
set_option maxRecDepth 100000 in
theorem zt_b28__3c0_0c0 : zt_go (zt_bx [.inr (64, 28), .inr ((-2147483648), 0), xd_top, xd_top, .inr ((-2147483648), (-1)), xd_top]) = true := by decide +kernel
set_option maxRecDepth 100000 in
theorem zt_b28__3c0_0c1_1c0 : zt_go (zt_bx [.inr (64, 28), .inr (1, 200), .inr ((-2147483648), (-1)), xd_top, .inr ((-2147483648), (-1)), xd_top]) = true := by decide +kernel
set_option maxRecDepth 100000 in
theorem zt_b28__3c0_0c1_1c1 : zt_go (zt_bx [.inr (64, 28), .inr (1, 200), .inr (0, 2147483647), xd_top, .inr ((-2147483648), (-1)), xd_top]) = true := by decide +kernel
set_option maxRecDepth 100000 in
theorem zt_b28__3c0_0c2 : zt_go (zt_bx [.inr (64, 28), .inr (201, 2147483647), xd_top, xd_top, .inr ((-2147483648), (-1)), xd_top]) = true := by decide +kernel
set_option maxRecDepth 100000 in
theorem zt_b28__3c1_0c0 : zt_go (zt_bx [.inr (64, 28), .inr ((-2147483648), 0), xd_top, xd_top, .inl 0, xd_top]) = true := by decide +kernel
set_option maxRecDepth 100000 in
theorem zt_b28__3c1_0c1_1c0 : zt_go (zt_bx [.inr (64, 28), .inr (1, 200), .inr ((-2147483648), (-1)), xd_top, .inl 0, xd_top]) = true := by decide +kernel
set_option maxRecDepth 100000 in
theorem zt_b28__3c1_0c1_1c1 : zt_go (zt_bx [.inr (64, 28), .inr (1, 200), .inr (0, 2147483647), xd_top, .inl 0, xd_top]) = true := by decide +kernel
set_option maxRecDepth 100000 in
theorem zt_b28__3c1_0c2 : zt_go (zt_bx [.inr (64, 28), .inr (201, 2147483647), xd_top, xd_top, .inl 0, xd_top]) = true := by decide +kernel
set_option maxRecDepth 100000 in
theorem zt_b28__3c2_0c0 : zt_go (zt_bx [.inr (64, 28), .inr ((-2147483648), 0), xd_top, xd_top, .inr (1, 2147483647), xd_top]) = true := by decide +kernel
set_option maxRecDepth 100000 in
theorem zt_b28__3c2_0c1_1c0 : zt_go (zt_bx [.inr (64, 28), .inr (1, 200), .inr ((-2147483648), (-1)), xd_top, .inr (1, 2147483647), xd_top]) = true := by decide +kernel
set_option maxRecDepth 100000 in
theorem zt_b28__3c2_0c1_1c1 : zt_go (zt_bx [.inr (64, 28), .inr (1, 200), .inr (0, 2147483647), xd_top, .inr (1, 2147483647), xd_top]) = true := by decide +kernel
set_option maxRecDepth 100000 in
theorem zt_b28__3c2_0c2 : zt_go (zt_bx [.inr (64, 28), .inr (201, 2147483647), xd_top, xd_top, .inr (1, 2147483647), xd_top]) = true := by decide +kernel
set_option maxRecDepth 100000 in
theorem zt_b29__0c0 : zt_go (zt_bx [.inr (64, 29), .inr ((-2147483648), (-1)), xd_top, xd_top, xd_top, xd_top]) = true := by decide +kernel
set_option maxRecDepth 100000 in
theorem zt_b29__0c1 : zt_go (zt_bx [.inr (64, 29), .inr (0, 2147483647), xd_top, xd_top, xd_top, xd_top]) = true := by decide +kernel
set_option maxRecDepth 100000 in
theorem zt_b30__0c0 : zt_go (zt_bx [.inr (64, 30), .inr ((-2147483648), (-2)), xd_top, xd_top, xd_top, xd_top]) = true := by decide +kernel
set_option maxRecDepth 100000 in
theorem zt_b30__0c1 : zt_go (zt_bx [.inr (64, 30), .inl (-1), xd_top, xd_top, xd_top, xd_top]) = true := by decide +kernel
set_option maxRecDepth 100000 in
theorem zt_b30__0c2 : zt_go (zt_bx [.inr (64, 30), .inl 0, xd_top, xd_top, xd_top, xd_top]) = true := by decide +kernel
set_option maxRecDepth 100000 in
theorem zt_b30__0c3 : zt_go (zt_bx [.inr (64, 30), .inr (1, 2147483647), xd_top, xd_top, xd_top, xd_top]) = true := by decide +kernel
set_option maxRecDepth 100000 in
theorem zt_b31__0c0 : zt_go (zt_bx [.inr (64, 31), .inr ((-2147483648), (-1)), xd_top, xd_top, xd_top, xd_top]) = true := by decide +kernel
set_option maxRecDepth 100000 in
theorem zt_b31__0c1 : zt_go (zt_bx [.inr (64, 31), .inr (0, 2147483647), xd_top, xd_top, xd_top, xd_top]) = true := by decide +kernel
set_option maxRecDepth 100000 in
theorem zt_b32__0c0 : zt_go (zt_bx [.inr (64, 32), .inr ((-2147483648), (-1)), xd_top, xd_top, xd_top, xd_top]) = true := by decide +kernel
set_option maxRecDepth 100000 in
theorem zt_b32__0c1_1c0 : zt_go (zt_bx [.inr (64, 32), .inr (0, 2147483647), .inr ((-2147483648), 0), xd_top, xd_top, xd_top]) = true := by decide +kernel
set_option maxRecDepth 100000 in
theorem zt_b32__0c1_1c1_2c0 : zt_go (zt_bx [.inr (64, 32), .inr (0, 2147483647), .inr (1, 200), .inr ((-2147483648), (-1)), xd_top, xd_top]) = true := by decide +kernel
set_option maxRecDepth 100000 in
theorem zt_b32__0c1_1c1_2c1 : zt_go (zt_bx [.inr (64, 32), .inr (0, 2147483647), .inr (1, 200), .inr (0, 2147483647), xd_top, xd_top]) = true := by decide +kernel
set_option maxRecDepth 100000 in
theorem zt_b32__0c1_1c2 : zt_go (zt_bx [.inr (64, 32), .inr (0, 2147483647), .inr (201, 2147483647), xd_top, xd_top, xd_top]) = true := by decide +kernel
set_option maxRecDepth 100000 in
theorem zt_b33__0c0 : zt_go (zt_bx [.inr (64, 33), .inr ((-2147483648), (-1)), xd_top, xd_top, xd_top, xd_top]) = true := by decide +kernel
set_option maxRecDepth 100000 in
theorem zt_b33__0c1_2c0 : zt_go (zt_bx [.inr (64, 33), .inl 0, xd_top, .inr ((-2147483648), (-1)), xd_top, xd_top]) = true := by decide +kernel
set_option maxRecDepth 100000 in
theorem zt_b33__0c1_2c1_1c0 : zt_go (zt_bx [.inr (64, 33), .inl 0, .inr ((-2147483648), (-1)), .inr (0, 200), xd_top, xd_top]) = true := by decide +kernel
set_option maxRecDepth 100000 in
theorem zt_b33__0c1_2c1_1c2 : zt_go (zt_bx [.inr (64, 33), .inl 0, .inr (1, 2147483647), .inr (0, 200), xd_top, xd_top]) = true := by decide +kernel
set_option maxRecDepth 100000 in
theorem zt_b33__0c1_2c2 : zt_go (zt_bx [.inr (64, 33), .inl 0, xd_top, .inr (201, 2147483647), xd_top, xd_top]) = true := by decide +kernel
set_option maxRecDepth 100000 in
theorem zt_b33__0c2_2c0 : zt_go (zt_bx [.inr (64, 33), .inl 1, xd_top, .inr ((-2147483648), (-1)), xd_top, xd_top]) = true := by decide +kernel
set_option maxRecDepth 100000 in
theorem zt_b33__0c2_2c1_1c0 : zt_go (zt_bx [.inr (64, 33), .inl 1, .inr ((-2147483648), (-1)), .inr (0, 200), xd_top, xd_top]) = true := by decide +kernel
set_option maxRecDepth 100000 in
theorem zt_b33__0c2_2c1_1c2 : zt_go (zt_bx [.inr (64, 33), .inl 1, .inr (1, 2147483647), .inr (0, 200), xd_top, xd_top]) = true := by decide +kernel
set_option maxRecDepth 100000 in
theorem zt_b33__0c2_2c2 : zt_go (zt_bx [.inr (64, 33), .inl 1, xd_top, .inr (201, 2147483647), xd_top, xd_top]) = true := by decide +kernel
set_option maxRecDepth 100000 in
theorem zt_b33__0c3_2c0 : zt_go (zt_bx [.inr (64, 33), .inl 2, xd_top, .inr ((-2147483648), (-1)), xd_top, xd_top]) = true := by decide +kernel
set_option maxRecDepth 100000 in
theorem zt_b33__0c3_2c1_1c0 : zt_go (zt_bx [.inr (64, 33), .inl 2, .inr ((-2147483648), (-1)), .inr (0, 200), xd_top, xd_top]) = true := by decide +kernel
set_option maxRecDepth 100000 in
theorem zt_b33__0c3_2c1_1c1 : zt_go (zt_bx [.inr (64, 33), .inl 2, .inr (0, 2147483647), .inr (0, 200), xd_top, xd_top]) = true := by decide +kernel
set_option maxRecDepth 100000 in
theorem zt_b33__0c3_2c2 : zt_go (zt_bx [.inr (64, 33), .inl 2, xd_top, .inr (201, 2147483647), xd_top, xd_top]) = true := by decide +kernel
set_option maxRecDepth 100000 in
theorem zt_b33__0c4_2c0 : zt_go (zt_bx [.inr (64, 33), .inl 3, xd_top, .inr ((-2147483648), (-1)), xd_top, xd_top]) = true := by decide +kernel
set_option maxRecDepth 100000 in
theorem zt_b33__0c4_2c1_1c0 : zt_go (zt_bx [.inr (64, 33), .inl 3, .inr ((-2147483648), (-1)), .inr (0, 200), xd_top, xd_top]) = true := by decide +kernel
set_option maxRecDepth 100000 in
theorem zt_b33__0c4_2c1_1c2 : zt_go (zt_bx [.inr (64, 33), .inl 3, .inr (1, 2147483647), .inr (0, 200), xd_top, xd_top]) = true := by decide +kernel
set_option maxRecDepth 100000 in
theorem zt_b33__0c4_2c2 : zt_go (zt_bx [.inr (64, 33), .inl 3, xd_top, .inr (201, 2147483647), xd_top, xd_top]) = true := by decide +kernel
set_option maxRecDepth 100000 in
theorem zt_b33__0c5_2c0 : zt_go (zt_bx [.inr (64, 33), .inl 4, xd_top, .inr ((-2147483648), (-1)), xd_top, xd_top]) = true := by decide +kernel
set_option maxRecDepth 100000 in
theorem zt_b33__0c5_2c1_1c0 : zt_go (zt_bx [.inr (64, 33), .inl 4, .inr ((-2147483648), (-1)), .inr (0, 200), xd_top, xd_top]) = true := by decide +kernel
set_option maxRecDepth 100000 in
theorem zt_b33__0c5_2c1_1c2 : zt_go (zt_bx [.inr (64, 33), .inl 4, .inr (1, 2147483647), .inr (0, 200), xd_top, xd_top]) = true := by decide +kernel
set_option maxRecDepth 100000 in
theorem zt_b33__0c5_2c2 : zt_go (zt_bx [.inr (64, 33), .inl 4, xd_top, .inr (201, 2147483647), xd_top, xd_top]) = true := by decide +kernel
set_option maxRecDepth 100000 in
theorem zt_b33__0c6 : zt_go (zt_bx [.inr (64, 33), .inr (5, 2147483647), xd_top, xd_top, xd_top, xd_top]) = true := by decide +kernel
set_option maxRecDepth 100000 in
theorem zt_b34_ : zt_go (zt_bx [.inr (64, 34), xd_top, xd_top, xd_top, xd_top, xd_top]) = true := by decide +kernel
set_option maxRecDepth 100000 in
theorem zt_b36_ : zt_go (zt_bx [.inr (64, 36), xd_top, xd_top, xd_top, xd_top, xd_top]) = true := by decide +kernel
set_option maxRecDepth 100000 in
theorem zt_b37__0c0 : zt_go (zt_bx [.inr (64, 37), .inr ((-2147483648), (-1)), xd_top, xd_top, xd_top, xd_top]) = true := by decide +kernel
set_option maxRecDepth 100000 in
theorem zt_b37__0c17 : zt_go (zt_bx [.inr (64, 37), .inr (16, 2147483647), xd_top, xd_top, xd_top, xd_top]) = true := by decide +kernel
set_option maxRecDepth 100000 in
theorem zt_b38_ : zt_go (zt_bx [.inr (64, 38), xd_top, xd_top, xd_top, xd_top, xd_top]) = true := by decide +kernel
set_option maxRecDepth 100000 in
theorem zt_b39_ : zt_go (zt_bx [.inr (64, 39), xd_top, xd_top, xd_top, xd_top, xd_top]) = true := by decide +kernel
set_option maxRecDepth 100000 in
theorem zt_b40_ : zt_go (zt_bx [.inr (64, 40), xd_top, xd_top, xd_top, xd_top, xd_top]) = true := by decide +kernel
set_option maxRecDepth 100000 in
theorem zt_b41_ : zt_go (zt_bx [.inr (64, 41), xd_top, xd_top, xd_top, xd_top, xd_top]) = true := by decide +kernel
set_option maxRecDepth 100000 in
theorem zt_b42_ : zt_go (zt_bx [.inr (64, 42), xd_top, xd_top, xd_top, xd_top, xd_top]) = true := by decide +kernel
set_option maxRecDepth 100000 in
theorem zt_b43_ : zt_go (zt_bx [.inr (64, 43), xd_top, xd_top, xd_top, xd_top, xd_top]) = true := by decide +kernel
set_option maxRecDepth 100000 in
theorem zt_b44_ : zt_go (zt_bx [.inr (64, 44), xd_top, xd_top, xd_top, xd_top, xd_top]) = true := by decide +kernel
set_option maxRecDepth 100000 in
theorem zt_b45_ : zt_go (zt_bx [.inr (64, 45), xd_top, xd_top, xd_top, xd_top, xd_top]) = true := by decide +kernel
set_option maxRecDepth 100000 in
theorem zt_b46_ : zt_go (zt_bx [.inr (64, 46), xd_top, xd_top, xd_top, xd_top, xd_top]) = true := by decide +kernel
set_option maxRecDepth 100000 in
theorem zt_b47_ : zt_go (zt_bx [.inr (64, 47), xd_top, xd_top, xd_top, xd_top, xd_top]) = true := by decide +kernel
set_option maxRecDepth 100000 in
theorem zt_b48_ : zt_go (zt_bx [.inr (64, 48), xd_top, xd_top, xd_top, xd_top, xd_top]) = true := by decide +kernel
set_option maxRecDepth 100000 in
theorem zt_b49_ : zt_go (zt_bx [.inr (64, 49), xd_top, xd_top, xd_top, xd_top, xd_top]) = true := by decide +kernel
set_option maxRecDepth 100000 in
theorem zt_b50_ : zt_go (zt_bx [.inr (64, 50), xd_top, xd_top, xd_top, xd_top, xd_top]) = true := by decide +kernel
set_option maxRecDepth 100000 in
theorem zt_b51_ : zt_go (zt_bx [.inr (64, 51), xd_top, xd_top, xd_top, xd_top, xd_top]) = true := by decide +kernel
set_option maxRecDepth 100000 in
theorem zt_b52_ : zt_go (zt_bx [.inr (64, 52), xd_top, xd_top, xd_top, xd_top, xd_top]) = true := by decide +kernel
set_option maxRecDepth 100000 in
theorem zt_b53_ : zt_go (zt_bx [.inr (64, 53), xd_top, xd_top, xd_top, xd_top, xd_top]) = true := by decide +kernel
set_option maxRecDepth 100000 in
theorem zt_b54_ : zt_go (zt_bx [.inr (64, 54), xd_top, xd_top, xd_top, xd_top, xd_top]) = true := by decide +kernel
set_option maxRecDepth 100000 in
theorem zt_b55_ : zt_go (zt_bx [.inr (64, 55), xd_top, xd_top, xd_top, xd_top, xd_top]) = true := by decide +kernel
set_option maxRecDepth 100000 in
theorem zt_b56_ : zt_go (zt_bx [.inr (64, 56), xd_top, xd_top, xd_top, xd_top, xd_top]) = true := by decide +kernel
set_option maxRecDepth 100000 in
theorem zt_b57_ : zt_go (zt_bx [.inr (64, 57), xd_top, xd_top, xd_top, xd_top, xd_top]) = true := by decide +kernel
set_option maxRecDepth 100000 in
theorem zt_b58_ : zt_go (zt_bx [.inr (64, 58), xd_top, xd_top, xd_top, xd_top, xd_top]) = true := by decide +kernel
set_option maxRecDepth 100000 in
theorem zt_b59_ : zt_go (zt_bx [.inr (64, 59), xd_top, xd_top, xd_top, xd_top, xd_top]) = true := by decide +kernel
set_option maxRecDepth 100000 in
theorem zt_b60_ : zt_go (zt_bx [.inr (64, 60), xd_top, xd_top, xd_top, xd_top, xd_top]) = true := by decide +kernel
set_option maxRecDepth 100000 in
theorem zt_b61_ : zt_go (zt_bx [.inr (64, 61), xd_top, xd_top, xd_top, xd_top, xd_top]) = true := by decide +kernel
set_option maxRecDepth 100000 in
theorem zt_b62_ : zt_go (zt_bx [.inr (64, 62), xd_top, xd_top, xd_top, xd_top, xd_top]) = true := by decide +kernel
set_option maxRecDepth 100000 in
theorem zt_b63_ : zt_go (zt_bx [.inr (64, 63), xd_top, xd_top, xd_top, xd_top, xd_top]) = true := by decide +kernel
set_option maxRecDepth 100000 in
theorem zt_len : (List.range 6).all (fun k => zt_go (zt_bx (List.replicate k xd_top))) = true := by decide +kernel
set_option maxRecDepth 100000 in
theorem zt_b37_e_0 : (List.range 16).all (fun k => zt_go (zt_bx [.inr (64, 37), .inl (Int.ofNat (k + 0)), xd_top, xd_top, xd_top, xd_top])) = true := by decide +kernel
set_option maxRecDepth 100000 in
theorem zt_b35_ : zt_go (zt_bx [.inr (64, 35), xd_top, xd_top, xd_top, xd_top, xd_top]) = true := by decide +kernel
set_option maxRecDepth 100000 in
theorem zt_b23__0c0 : zt_go (zt_bx [.inr (64, 23), .inr ((-2147483648), (-1)), xd_top, xd_top, xd_top, xd_top]) = true := by decide +kernel
set_option maxRecDepth 100000 in
theorem zt_b23__0c1 : zt_go (zt_bx [.inr (64, 23), .inl 0, xd_top, xd_top, xd_top, xd_top]) = true := by decide +kernel
set_option maxRecDepth 100000 in
theorem zt_b23__0c2 : zt_go (zt_bx [.inr (64, 23), .inl 1, xd_top, xd_top, xd_top, xd_top]) = true := by decide +kernel
set_option maxRecDepth 100000 in
theorem zt_b23__0c3 : zt_go (zt_bx [.inr (64, 23), .inr (2, 2147483647), xd_top, xd_top, xd_top, xd_top]) = true := by decide +kernel
set_option maxRecDepth 100000 in
theorem zt_b8__0c3e_0 : (List.range 30).all (fun k => zt_go (zt_bx [.inr (64, 8), .inl 2, .inl (Int.ofNat (k + 0)), xd_top, xd_top, xd_top])) = true := by decide +kernel
set_option maxRecDepth 100000 in
theorem zt_b14_e_0 : (List.range 30).all (fun k => zt_go (zt_bx [.inr (64, 14), .inl (Int.ofNat (k + 0)), xd_top, xd_top, xd_top, xd_top])) = true := by decide +kernel
set_option maxRecDepth 100000 in
theorem zt_b21_ : zt_go (zt_bx [.inr (64, 21), xd_top, xd_top, xd_top, xd_top, xd_top]) = true := by decide +kernel
set_option maxRecDepth 100000 in
theorem zt_b22__0c0 : zt_go (zt_bx [.inr (64, 22), .inr ((-2147483648), (-1)), xd_top, xd_top, xd_top, xd_top]) = true := by decide +kernel
set_option maxRecDepth 100000 in
theorem zt_b22_e_11 : (List.range 1).all (fun k => zt_go (zt_bx [.inr (64, 22), .inl (Int.ofNat (k + 11)), xd_top, xd_top, xd_top, xd_top])) = true := by decide +kernel
set_option maxRecDepth 100000 in
theorem zt_b22__0c13 : zt_go (zt_bx [.inr (64, 22), .inr (12, 2147483647), xd_top, xd_top, xd_top, xd_top]) = true := by decide +kernel
set_option maxRecDepth 100000 in
theorem zt_b1__0c1 : zt_go (zt_bx [.inr (64, 1), .inl 0, xd_top, xd_top, xd_top, xd_top]) = true := by decide +kernel
set_option maxRecDepth 100000 in
theorem zt_b13_e_198 : (List.range 3).all (fun k => zt_go (zt_bx [.inr (64, 13), .inl (Int.ofNat (k + 198)), xd_top, xd_top, xd_top, xd_top])) = true := by decide +kernel
set_option maxRecDepth 100000 in
theorem zt_b19__0c1_1c1 : zt_go (zt_bx [.inr (64, 19), .inl 0, .inr (1, 200), xd_top, xd_top, xd_top]) = true := by decide +kernel
set_option maxRecDepth 100000 in
theorem zt_b19__0c2_1c1 : zt_go (zt_bx [.inr (64, 19), .inl 1, .inr (1, 200), xd_top, xd_top, xd_top]) = true := by decide +kernel
set_option maxRecDepth 100000 in
theorem zt_b19__0c3_1c1 : zt_go (zt_bx [.inr (64, 19), .inl 2, .inr (1, 200), xd_top, xd_top, xd_top]) = true := by decide +kernel

set_option maxRecDepth 100000 in
theorem zt_b23_0 : zt_go (3, ([.inr (64, 23), .inr ((-2147483648), (-1)), .inr ((-2147483648), 2147483647), .inr ((-2147483648), 2147483647), .inr ((-2147483648), 2147483647), .inr ((-2147483648), 2147483647)] : List xd_V).map Sum.inl) = true := by decide +kernel
set_option maxRecDepth 100000 in
theorem zt_b23_1 : zt_go (3, ([.inr (64, 23), .inl 0, .inr ((-2147483648), 2147483647), .inr ((-2147483648), 2147483647), .inr ((-2147483648), 2147483647), .inr ((-2147483648), 2147483647)] : List xd_V).map Sum.inl) = true := by decide +kernel
set_option maxRecDepth 100000 in
theorem zt_b23_2 : zt_go (3, ([.inr (64, 23), .inl 1, .inr ((-2147483648), 2147483647), .inr ((-2147483648), 2147483647), .inr ((-2147483648), 2147483647), .inr ((-2147483648), 2147483647)] : List xd_V).map Sum.inl) = true := by decide +kernel
set_option maxRecDepth 100000 in
theorem zt_b23_3 : zt_go (3, ([.inr (64, 23), .inr (2, 2147483647), .inr ((-2147483648), 2147483647), .inr ((-2147483648), 2147483647), .inr ((-2147483648), 2147483647), .inr ((-2147483648), 2147483647)] : List xd_V).map Sum.inl) = true := by decide +kernel

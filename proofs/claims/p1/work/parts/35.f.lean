set_option maxRecDepth 100000 in
theorem zt_b22_10 : zt_go (3, ([.inr (64, 22), .inl 9, .inr ((-2147483648), 2147483647), .inr ((-2147483648), 2147483647), .inr ((-2147483648), 2147483647), .inr ((-2147483648), 2147483647)] : List xd_V).map Sum.inl) = true := by decide +kernel
set_option maxRecDepth 100000 in
theorem zt_b22_11 : zt_go (3, ([.inr (64, 22), .inl 10, .inr ((-2147483648), 2147483647), .inr ((-2147483648), 2147483647), .inr ((-2147483648), 2147483647), .inr ((-2147483648), 2147483647)] : List xd_V).map Sum.inl) = true := by decide +kernel
set_option maxRecDepth 100000 in
theorem zt_b22_12 : zt_go (3, ([.inr (64, 22), .inl 11, .inr ((-2147483648), 2147483647), .inr ((-2147483648), 2147483647), .inr ((-2147483648), 2147483647), .inr ((-2147483648), 2147483647)] : List xd_V).map Sum.inl) = true := by decide +kernel
set_option maxRecDepth 100000 in
theorem zt_b22_13 : zt_go (3, ([.inr (64, 22), .inr (12, 2147483647), .inr ((-2147483648), 2147483647), .inr ((-2147483648), 2147483647), .inr ((-2147483648), 2147483647), .inr ((-2147483648), 2147483647)] : List xd_V).map Sum.inl) = true := by decide +kernel

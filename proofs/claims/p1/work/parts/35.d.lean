set_option maxRecDepth 100000 in
theorem zt_b22_2 : zt_go (3, ([.inr (64, 22), .inl 1, .inr ((-2147483648), 2147483647), .inr ((-2147483648), 2147483647), .inr ((-2147483648), 2147483647), .inr ((-2147483648), 2147483647)] : List xd_V).map Sum.inl) = true := by decide +kernel
set_option maxRecDepth 100000 in
theorem zt_b22_3 : zt_go (3, ([.inr (64, 22), .inl 2, .inr ((-2147483648), 2147483647), .inr ((-2147483648), 2147483647), .inr ((-2147483648), 2147483647), .inr ((-2147483648), 2147483647)] : List xd_V).map Sum.inl) = true := by decide +kernel
set_option maxRecDepth 100000 in
theorem zt_b22_4 : zt_go (3, ([.inr (64, 22), .inl 3, .inr ((-2147483648), 2147483647), .inr ((-2147483648), 2147483647), .inr ((-2147483648), 2147483647), .inr ((-2147483648), 2147483647)] : List xd_V).map Sum.inl) = true := by decide +kernel
set_option maxRecDepth 100000 in
theorem zt_b22_5 : zt_go (3, ([.inr (64, 22), .inl 4, .inr ((-2147483648), 2147483647), .inr ((-2147483648), 2147483647), .inr ((-2147483648), 2147483647), .inr ((-2147483648), 2147483647)] : List xd_V).map Sum.inl) = true := by decide +kernel

set_option maxRecDepth 100000 in
theorem zt_b22_6 : zt_go (3, ([.inr (64, 22), .inl 5, .inr ((-2147483648), 2147483647), .inr ((-2147483648), 2147483647), .inr ((-2147483648), 2147483647), .inr ((-2147483648), 2147483647)] : List xd_V).map Sum.inl) = true := by decide +kernel
set_option maxRecDepth 100000 in
theorem zt_b22_7 : zt_go (3, ([.inr (64, 22), .inl 6, .inr ((-2147483648), 2147483647), .inr ((-2147483648), 2147483647), .inr ((-2147483648), 2147483647), .inr ((-2147483648), 2147483647)] : List xd_V).map Sum.inl) = true := by decide +kernel
set_option maxRecDepth 100000 in
theorem zt_b22_8 : zt_go (3, ([.inr (64, 22), .inl 7, .inr ((-2147483648), 2147483647), .inr ((-2147483648), 2147483647), .inr ((-2147483648), 2147483647), .inr ((-2147483648), 2147483647)] : List xd_V).map Sum.inl) = true := by decide +kernel
set_option maxRecDepth 100000 in
theorem zt_b22_9 : zt_go (3, ([.inr (64, 22), .inl 8, .inr ((-2147483648), 2147483647), .inr ((-2147483648), 2147483647), .inr ((-2147483648), 2147483647), .inr ((-2147483648), 2147483647)] : List xd_V).map Sum.inl) = true := by decide +kernel

set_option maxRecDepth 100000 in
theorem zt_b33__0c1_2c1_1c1 : zt_go (zt_bx [.inr (64, 33), .inl 0, .inl 0, .inr (0, 200), xd_top, xd_top]) = true := by decide +kernel
set_option maxRecDepth 100000 in
theorem zt_b33__0c2_2c1_1c1 : zt_go (zt_bx [.inr (64, 33), .inl 1, .inl 0, .inr (0, 200), xd_top, xd_top]) = true := by decide +kernel
set_option maxRecDepth 100000 in
theorem zt_b33__0c4_2c1_1c1 : zt_go (zt_bx [.inr (64, 33), .inl 3, .inl 0, .inr (0, 200), xd_top, xd_top]) = true := by decide +kernel
set_option maxRecDepth 100000 in
theorem zt_b33__0c5_2c1_1c1 : zt_go (zt_bx [.inr (64, 33), .inl 4, .inl 0, .inr (0, 200), xd_top, xd_top]) = true := by decide +kernel
set_option maxRecDepth 100000 in
theorem zt_b13_e_190 : (List.range 8).all (fun k => zt_go (zt_bx [.inr (64, 13), .inl (Int.ofNat (k + 190)), xd_top, xd_top, xd_top, xd_top])) = true := by decide +kernel
set_option maxRecDepth 100000 in
theorem zt_b13_e_152 : (List.range 10).all (fun k => zt_go (zt_bx [.inr (64, 13), .inl (Int.ofNat (k + 152)), xd_top, xd_top, xd_top, xd_top])) = true := by decide +kernel

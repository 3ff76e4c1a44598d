set_option maxRecDepth 100000 in
theorem zt_b13_e_57 : (List.range 24).all (fun k => zt_go (zt_bx [.inr (64, 13), .inl (Int.ofNat (k + 57)), xd_top, xd_top, xd_top, xd_top])) = true := by decide +kernel
set_option maxRecDepth 100000 in
theorem zt_b22_e_0 : (List.range 11).all (fun k => zt_go (zt_bx [.inr (64, 22), .inl (Int.ofNat (k + 0)), xd_top, xd_top, xd_top, xd_top])) = true := by decide +kernel
set_option maxRecDepth 100000 in
theorem zt_b13_e_0 : (List.range 57).all (fun k => zt_go (zt_bx [.inr (64, 13), .inl (Int.ofNat (k + 0)), xd_top, xd_top, xd_top, xd_top])) = true := by decide +kernel

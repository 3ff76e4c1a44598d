set_option maxRecDepth 100000 in
theorem zt_b13_e_115 : (List.range 14).all (fun k => zt_go (zt_bx [.inr (64, 13), .inl (Int.ofNat (k + 115)), xd_top, xd_top, xd_top, xd_top])) = true := by decide +kernel
set_option maxRecDepth 100000 in
theorem zt_b13_e_99 : (List.range 16).all (fun k => zt_go (zt_bx [.inr (64, 13), .inl (Int.ofNat (k + 99)), xd_top, xd_top, xd_top, xd_top])) = true := by decide +kernel

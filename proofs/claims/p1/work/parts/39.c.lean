set_option maxRecDepth 100000 in
theorem zt_b13_e_172 : (List.range 9).all (fun k => zt_go (zt_bx [.inr (64, 13), .inl (Int.ofNat (k + 172)), xd_top, xd_top, xd_top, xd_top])) = true := by decide +kernel
set_option maxRecDepth 100000 in
theorem zt_b13_e_141 : (List.range 11).all (fun k => zt_go (zt_bx [.inr (64, 13), .inl (Int.ofNat (k + 141)), xd_top, xd_top, xd_top, xd_top])) = true := by decide +kernel
set_option maxRecDepth 100000 in
theorem zt_b13_e_129 : (List.range 12).all (fun k => zt_go (zt_bx [.inr (64, 13), .inl (Int.ofNat (k + 129)), xd_top, xd_top, xd_top, xd_top])) = true := by decide +kernel

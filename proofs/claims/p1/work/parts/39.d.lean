set_option maxRecDepth 100000 in
theorem zt_b13_e_81 : (List.range 18).all (fun k => zt_go (zt_bx [.inr (64, 13), .inl (Int.ofNat (k + 81)), xd_top, xd_top, xd_top, xd_top])) = true := by decide +kernel
set_option maxRecDepth 100000 in
theorem zt_b13_e_181 : (List.range 9).all (fun k => zt_go (zt_bx [.inr (64, 13), .inl (Int.ofNat (k + 181)), xd_top, xd_top, xd_top, xd_top])) = true := by decide +kernel
set_option maxRecDepth 100000 in
theorem zt_b13_e_162 : (List.range 10).all (fun k => zt_go (zt_bx [.inr (64, 13), .inl (Int.ofNat (k + 162)), xd_top, xd_top, xd_top, xd_top])) = true := by decide +kernel

set_option maxRecDepth 100000 in
theorem zt_len : ([[], [xd_top], [xd_top, xd_top], [xd_top, xd_top, xd_top], [xd_top, xd_top, xd_top, xd_top], [xd_top, xd_top, xd_top, xd_top, xd_top]] : List (List xd_V)).all (fun v => zt_go (zt_bx v)) = true := by decide +kernel

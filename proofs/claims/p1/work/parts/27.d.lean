set_option maxRecDepth 100000 in
theorem zt_dlaw_ok : zt_law.2.2.2.all (xw_dOk zt_zlaw.2.1) = true := by decide +kernel

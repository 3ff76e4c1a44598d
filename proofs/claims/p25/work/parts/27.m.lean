set_option maxRecDepth 100000 in
theorem zt_dlaw_6 : ((zt_law.2.2.2.drop 240).take 40).all (xw_dOk zt_zlaw.2.1) = true := by decide +kernel
set_option maxRecDepth 100000 in
theorem zt_dlaw_7 : ((zt_law.2.2.2.drop 280).take 40).all (xw_dOk zt_zlaw.2.1) = true := by decide +kernel
set_option maxRecDepth 100000 in
theorem zt_dlaw_8 : ((zt_law.2.2.2.drop 320).take 40).all (xw_dOk zt_zlaw.2.1) = true := by decide +kernel
set_option maxRecDepth 100000 in
theorem zt_dlaw_9 : ((zt_law.2.2.2.drop 360).take 40).all (xw_dOk zt_zlaw.2.1) = true := by decide +kernel
set_option maxRecDepth 100000 in
theorem zt_dlaw_10 : ((zt_law.2.2.2.drop 400).take 40).all (xw_dOk zt_zlaw.2.1) = true := by decide +kernel
set_option maxRecDepth 100000 in
theorem zt_dlaw_11 : ((zt_law.2.2.2.drop 440).take 40).all (xw_dOk zt_zlaw.2.1) = true := by decide +kernel

set_option maxRecDepth 100000 in
theorem zt_dlaw_18 : ((zt_law.2.2.2.drop 720).take 40).all (xw_dOk zt_zlaw.2.1) = true := by decide +kernel
set_option maxRecDepth 100000 in
theorem zt_dlaw_19 : ((zt_law.2.2.2.drop 760).take 40).all (xw_dOk zt_zlaw.2.1) = true := by decide +kernel
set_option maxRecDepth 100000 in
theorem zt_dlaw_20 : ((zt_law.2.2.2.drop 800).take 40).all (xw_dOk zt_zlaw.2.1) = true := by decide +kernel
set_option maxRecDepth 100000 in
theorem zt_dlaw_21 : ((zt_law.2.2.2.drop 840).take 40).all (xw_dOk zt_zlaw.2.1) = true := by decide +kernel
set_option maxRecDepth 100000 in
theorem zt_dlaw_22 : ((zt_law.2.2.2.drop 880).take 40).all (xw_dOk zt_zlaw.2.1) = true := by decide +kernel

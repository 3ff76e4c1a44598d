set_option maxRecDepth 100000 in
theorem zt_dlaw_12 : ((zt_law.2.2.2.drop 480).take 40).all (xw_dOk zt_zlaw.2.1) = true := by decide +kernel
set_option maxRecDepth 100000 in
theorem zt_dlaw_13 : ((zt_law.2.2.2.drop 520).take 40).all (xw_dOk zt_zlaw.2.1) = true := by decide +kernel
set_option maxRecDepth 100000 in
theorem zt_dlaw_14 : ((zt_law.2.2.2.drop 560).take 40).all (xw_dOk zt_zlaw.2.1) = true := by decide +kernel
set_option maxRecDepth 100000 in
theorem zt_dlaw_15 : ((zt_law.2.2.2.drop 600).take 40).all (xw_dOk zt_zlaw.2.1) = true := by decide +kernel
set_option maxRecDepth 100000 in
theorem zt_dlaw_16 : ((zt_law.2.2.2.drop 640).take 40).all (xw_dOk zt_zlaw.2.1) = true := by decide +kernel
set_option maxRecDepth 100000 in
theorem zt_dlaw_17 : ((zt_law.2.2.2.drop 680).take 40).all (xw_dOk zt_zlaw.2.1) = true := by decide +kernel

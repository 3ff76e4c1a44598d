set_option maxRecDepth 100000 in
theorem zt_dlaw_0 : ((zt_law.2.2.2.drop 0).take 40).all (xw_dOk zt_zlaw.2.1) = true := by decide +kernel
set_option maxRecDepth 100000 in
theorem zt_dlaw_1 : ((zt_law.2.2.2.drop 40).take 40).all (xw_dOk zt_zlaw.2.1) = true := by decide +kernel
set_option maxRecDepth 100000 in
theorem zt_dlaw_2 : ((zt_law.2.2.2.drop 80).take 40).all (xw_dOk zt_zlaw.2.1) = true := by decide +kernel
set_option maxRecDepth 100000 in
theorem zt_dlaw_3 : ((zt_law.2.2.2.drop 120).take 40).all (xw_dOk zt_zlaw.2.1) = true := by decide +kernel
set_option maxRecDepth 100000 in
theorem zt_dlaw_4 : ((zt_law.2.2.2.drop 160).take 40).all (xw_dOk zt_zlaw.2.1) = true := by decide +kernel
set_option maxRecDepth 100000 in
theorem zt_dlaw_5 : ((zt_law.2.2.2.drop 200).take 40).all (xw_dOk zt_zlaw.2.1) = true := by decide +kernel

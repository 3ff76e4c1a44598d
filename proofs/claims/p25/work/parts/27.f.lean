set_option maxRecDepth 100000 in
theorem zt_d26_0 : ((zt_m26.2.2.2.drop 0).take 40).all (xw_dOk zt_z26.2.1) = true := by decide +kernel
set_option maxRecDepth 100000 in
theorem zt_d26_1 : ((zt_m26.2.2.2.drop 40).take 40).all (xw_dOk zt_z26.2.1) = true := by decide +kernel
set_option maxRecDepth 100000 in
theorem zt_d26_2 : ((zt_m26.2.2.2.drop 80).take 40).all (xw_dOk zt_z26.2.1) = true := by decide +kernel
set_option maxRecDepth 100000 in
theorem zt_d26_3 : ((zt_m26.2.2.2.drop 120).take 40).all (xw_dOk zt_z26.2.1) = true := by decide +kernel
set_option maxRecDepth 100000 in
theorem zt_d26_4 : ((zt_m26.2.2.2.drop 160).take 40).all (xw_dOk zt_z26.2.1) = true := by decide +kernel

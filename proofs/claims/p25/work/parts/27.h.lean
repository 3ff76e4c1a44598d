set_option maxRecDepth 100000 in
theorem zt_d29_6 : ((zt_m29.2.2.2.drop 240).take 40).all (xw_dOk zt_z29.2.1) = true := by decide +kernel
set_option maxRecDepth 100000 in
theorem zt_d29_7 : ((zt_m29.2.2.2.drop 280).take 40).all (xw_dOk zt_z29.2.1) = true := by decide +kernel
set_option maxRecDepth 100000 in
theorem zt_d29_8 : ((zt_m29.2.2.2.drop 320).take 40).all (xw_dOk zt_z29.2.1) = true := by decide +kernel
set_option maxRecDepth 100000 in
theorem zt_d29_9 : ((zt_m29.2.2.2.drop 360).take 40).all (xw_dOk zt_z29.2.1) = true := by decide +kernel
set_option maxRecDepth 100000 in
theorem zt_d29_10 : ((zt_m29.2.2.2.drop 400).take 40).all (xw_dOk zt_z29.2.1) = true := by decide +kernel
set_option maxRecDepth 100000 in
theorem zt_d29_11 : ((zt_m29.2.2.2.drop 440).take 40).all (xw_dOk zt_z29.2.1) = true := by decide +kernel

set_option maxRecDepth 100000 in
theorem zt_d29_18 : ((zt_m29.2.2.2.drop 720).take 40).all (xw_dOk zt_z29.2.1) = true := by decide +kernel
set_option maxRecDepth 100000 in
theorem zt_d29_19 : ((zt_m29.2.2.2.drop 760).take 40).all (xw_dOk zt_z29.2.1) = true := by decide +kernel
set_option maxRecDepth 100000 in
theorem zt_d29_20 : ((zt_m29.2.2.2.drop 800).take 40).all (xw_dOk zt_z29.2.1) = true := by decide +kernel

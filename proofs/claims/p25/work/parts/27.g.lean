set_option maxRecDepth 100000 in
theorem zt_d29_0 : ((zt_m29.2.2.2.drop 0).take 40).all (xw_dOk zt_z29.2.1) = true := by decide +kernel
set_option maxRecDepth 100000 in
theorem zt_d29_1 : ((zt_m29.2.2.2.drop 40).take 40).all (xw_dOk zt_z29.2.1) = true := by decide +kernel
set_option maxRecDepth 100000 in
theorem zt_d29_2 : ((zt_m29.2.2.2.drop 80).take 40).all (xw_dOk zt_z29.2.1) = true := by decide +kernel
set_option maxRecDepth 100000 in
theorem zt_d29_3 : ((zt_m29.2.2.2.drop 120).take 40).all (xw_dOk zt_z29.2.1) = true := by decide +kernel
set_option maxRecDepth 100000 in
theorem zt_d29_4 : ((zt_m29.2.2.2.drop 160).take 40).all (xw_dOk zt_z29.2.1) = true := by decide +kernel
set_option maxRecDepth 100000 in
theorem zt_d29_5 : ((zt_m29.2.2.2.drop 200).take 40).all (xw_dOk zt_z29.2.1) = true := by decide +kernel

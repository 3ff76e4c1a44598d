set_option maxRecDepth 100000 in
theorem zt_d29_12 : ((zt_m29.2.2.2.drop 480).take 40).all (xw_dOk zt_z29.2.1) = true := by decide +kernel
set_option maxRecDepth 100000 in
theorem zt_d29_13 : ((zt_m29.2.2.2.drop 520).take 40).all (xw_dOk zt_z29.2.1) = true := by decide +kernel
set_option maxRecDepth 100000 in
theorem zt_d29_14 : ((zt_m29.2.2.2.drop 560).take 40).all (xw_dOk zt_z29.2.1) = true := by decide +kernel
set_option maxRecDepth 100000 in
theorem zt_d29_15 : ((zt_m29.2.2.2.drop 600).take 40).all (xw_dOk zt_z29.2.1) = true := by decide +kernel
set_option maxRecDepth 100000 in
theorem zt_d29_16 : ((zt_m29.2.2.2.drop 640).take 40).all (xw_dOk zt_z29.2.1) = true := by decide +kernel
set_option maxRecDepth 100000 in
theorem zt_d29_17 : ((zt_m29.2.2.2.drop 680).take 40).all (xw_dOk zt_z29.2.1) = true := by decide +kernel

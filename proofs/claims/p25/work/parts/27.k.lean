set_option maxRecDepth 100000 in
theorem zt_d140_0 : ((zt_m140.2.2.2.drop 0).take 40).all (xw_dOk zt_z140.2.1) = true := by decide +kernel
set_option maxRecDepth 100000 in
theorem zt_d140_1 : ((zt_m140.2.2.2.drop 40).take 40).all (xw_dOk zt_z140.2.1) = true := by decide +kernel
set_option maxRecDepth 100000 in
theorem zt_d140_2 : ((zt_m140.2.2.2.drop 80).take 40).all (xw_dOk zt_z140.2.1) = true := by decide +kernel
set_option maxRecDepth 100000 in
theorem zt_d140_3 : ((zt_m140.2.2.2.drop 120).take 40).all (xw_dOk zt_z140.2.1) = true := by decide +kernel
set_option maxRecDepth 100000 in
theorem zt_d140_4 : ((zt_m140.2.2.2.drop 160).take 40).all (xw_dOk zt_z140.2.1) = true := by decide +kernel

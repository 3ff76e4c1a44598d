set_option maxRecDepth 100000 in
theorem zt_d162_ok : zt_m162.2.2.2.all (xw_dOk zt_z162.2.1) = true := by decide +kernel
set_option maxRecDepth 100000 in
theorem zt_d291_ok : zt_m291.2.2.2.all (xw_dOk zt_z291.2.1) = true := by decide +kernel
set_option maxRecDepth 100000 in
theorem zt_d116_ok : zt_m116.2.2.2.all (xw_dOk zt_z116.2.1) = true := by decide +kernel
set_option maxRecDepth 100000 in
theorem zt_d280_ok : zt_m280.2.2.2.all (xw_dOk zt_z280.2.1) = true := by decide +kernel
set_option maxRecDepth 100000 in
theorem zt_d104_ok : zt_m104.2.2.2.all (xw_dOk zt_z104.2.1) = true := by decide +kernel
set_option maxRecDepth 100000 in
theorem zt_d18_ok : zt_m18.2.2.2.all (xw_dOk zt_z18.2.1) = true := by decide +kernel
set_option maxRecDepth 100000 in
theorem zt_d202_ok : zt_m202.2.2.2.all (xw_dOk zt_z202.2.1) = true := by decide +kernel
set_option maxRecDepth 100000 in
theorem zt_d31_ok : zt_m31.2.2.2.all (xw_dOk zt_z31.2.1) = true := by decide +kernel
set_option maxRecDepth 100000 in
theorem zt_d267_ok : zt_m267.2.2.2.all (xw_dOk zt_z267.2.1) = true := by decide +kernel
set_option maxRecDepth 100000 in
theorem zt_d102_ok : zt_m102.2.2.2.all (xw_dOk zt_z102.2.1) = true := by decide +kernel
set_option maxRecDepth 100000 in
theorem zt_d216_ok : zt_m216.2.2.2.all (xw_dOk zt_z216.2.1) = true := by decide +kernel
set_option maxRecDepth 100000 in
theorem zt_d288_ok : zt_m288.2.2.2.all (xw_dOk zt_z288.2.1) = true := by decide +kernel
set_option maxRecDepth 100000 in
theorem zt_d137_ok : zt_m137.2.2.2.all (xw_dOk zt_z137.2.1) = true := by decide +kernel
set_option maxRecDepth 100000 in
theorem zt_d139_ok : zt_m139.2.2.2.all (xw_dOk zt_z139.2.1) = true := by decide +kernel
set_option maxRecDepth 100000 in
theorem zt_d117_ok : zt_m117.2.2.2.all (xw_dOk zt_z117.2.1) = true := by decide +kernel

set_option maxRecDepth 100000 in
theorem zt_d122_ok : zt_m122.2.2.2.all (xw_dOk zt_z122.2.1) = true := by decide +kernel
set_option maxRecDepth 100000 in
theorem zt_d89_ok : zt_m89.2.2.2.all (xw_dOk zt_z89.2.1) = true := by decide +kernel
set_option maxRecDepth 100000 in
theorem zt_d147_ok : zt_m147.2.2.2.all (xw_dOk zt_z147.2.1) = true := by decide +kernel
set_option maxRecDepth 100000 in
theorem zt_d90_ok : zt_m90.2.2.2.all (xw_dOk zt_z90.2.1) = true := by decide +kernel
set_option maxRecDepth 100000 in
theorem zt_d184_ok : zt_m184.2.2.2.all (xw_dOk zt_z184.2.1) = true := by decide +kernel

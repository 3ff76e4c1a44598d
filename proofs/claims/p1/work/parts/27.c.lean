set_option maxRecDepth 100000 in
theorem zt_d147_ok : zt_m147.2.2.2.all (xw_dOk zt_z147.2.1) = true := by decide +kernel
set_option maxRecDepth 100000 in
theorem zt_d26_ok : zt_m26.2.2.2.all (xw_dOk zt_z26.2.1) = true := by decide +kernel
set_option maxRecDepth 100000 in
theorem zt_d89_ok : zt_m89.2.2.2.all (xw_dOk zt_z89.2.1) = true := by decide +kernel
set_option maxRecDepth 100000 in
theorem zt_d29_ok : zt_m29.2.2.2.all (xw_dOk zt_z29.2.1) = true := by decide +kernel

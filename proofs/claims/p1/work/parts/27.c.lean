set_option maxRecDepth 100000 in
theorem zt_d63_ok : zt_m63.2.2.2.all (xw_dOk zt_z63.2.1) = true := by decide +kernel
set_option maxRecDepth 100000 in
theorem zt_d147_ok : zt_m147.2.2.2.all (xw_dOk zt_z147.2.1) = true := by decide +kernel

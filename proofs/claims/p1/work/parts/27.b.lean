set_option maxRecDepth 100000 in
theorem zt_d42_ok : zt_m42.2.2.2.all (xw_dOk zt_z42.2.1) = true := by decide +kernel
set_option maxRecDepth 100000 in
theorem zt_d126_ok : zt_m126.2.2.2.all (xw_dOk zt_z126.2.1) = true := by decide +kernel
set_option maxRecDepth 100000 in
theorem zt_d95_ok : zt_m95.2.2.2.all (xw_dOk zt_z95.2.1) = true := by decide +kernel
set_option maxRecDepth 100000 in
theorem zt_d0_ok : zt_m0.2.2.2.all (xw_dOk zt_z0.2.1) = true := by decide +kernel
set_option maxRecDepth 100000 in
theorem zt_d107_ok : zt_m107.2.2.2.all (xw_dOk zt_z107.2.1) = true := by decide +kernel
set_option maxRecDepth 100000 in
theorem zt_d162_ok : zt_m162.2.2.2.all (xw_dOk zt_z162.2.1) = true := by decide +kernel
set_option maxRecDepth 100000 in
theorem zt_d159_ok : zt_m159.2.2.2.all (xw_dOk zt_z159.2.1) = true := by decide +kernel
set_option maxRecDepth 100000 in
theorem zt_d138_ok : zt_m138.2.2.2.all (xw_dOk zt_z138.2.1) = true := by decide +kernel
set_option maxRecDepth 100000 in
theorem zt_d151_ok : zt_m151.2.2.2.all (xw_dOk zt_z151.2.1) = true := by decide +kernel
set_option maxRecDepth 100000 in
theorem zt_d161_ok : zt_m161.2.2.2.all (xw_dOk zt_z161.2.1) = true := by decide +kernel
set_option maxRecDepth 100000 in
theorem zt_d22_ok : zt_m22.2.2.2.all (xw_dOk zt_z22.2.1) = true := by decide +kernel
set_option maxRecDepth 100000 in
theorem zt_d23_ok : zt_m23.2.2.2.all (xw_dOk zt_z23.2.1) = true := by decide +kernel
set_option maxRecDepth 100000 in
theorem zt_d58_ok : zt_m58.2.2.2.all (xw_dOk zt_z58.2.1) = true := by decide +kernel
set_option maxRecDepth 100000 in
theorem zt_d135_ok : zt_m135.2.2.2.all (xw_dOk zt_z135.2.1) = true := by decide +kernel
set_option maxRecDepth 100000 in
theorem zt_d30_ok : zt_m30.2.2.2.all (xw_dOk zt_z30.2.1) = true := by decide +kernel
set_option maxRecDepth 100000 in
theorem zt_d163_ok : zt_m163.2.2.2.all (xw_dOk zt_z163.2.1) = true := by decide +kernel
set_option maxRecDepth 100000 in
theorem zt_d100_ok : zt_m100.2.2.2.all (xw_dOk zt_z100.2.1) = true := by decide +kernel
set_option maxRecDepth 100000 in
theorem zt_d174_ok : zt_m174.2.2.2.all (xw_dOk zt_z174.2.1) = true := by decide +kernel
set_option maxRecDepth 100000 in
theorem zt_d18_ok : zt_m18.2.2.2.all (xw_dOk zt_z18.2.1) = true := by decide +kernel
set_option maxRecDepth 100000 in
theorem zt_d31_ok : zt_m31.2.2.2.all (xw_dOk zt_z31.2.1) = true := by decide +kernel
set_option maxRecDepth 100000 in
theorem zt_d45_ok : zt_m45.2.2.2.all (xw_dOk zt_z45.2.1) = true := by decide +kernel

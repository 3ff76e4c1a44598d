set_option maxRecDepth 100000 in
theorem zt_d172_ok : zt_m172.2.2.2.all (xw_dOk zt_z172.2.1) = true := by decide +kernel
set_option maxRecDepth 100000 in
theorem zt_d86_ok : zt_m86.2.2.2.all (xw_dOk zt_z86.2.1) = true := by decide +kernel
set_option maxRecDepth 100000 in
theorem zt_d0_ok : zt_m0.2.2.2.all (xw_dOk zt_z0.2.1) = true := by decide +kernel
set_option maxRecDepth 100000 in
theorem zt_d126_ok : zt_m126.2.2.2.all (xw_dOk zt_z126.2.1) = true := by decide +kernel
set_option maxRecDepth 100000 in
theorem zt_d258_ok : zt_m258.2.2.2.all (xw_dOk zt_z258.2.1) = true := by decide +kernel
set_option maxRecDepth 100000 in
theorem zt_d81_ok : zt_m81.2.2.2.all (xw_dOk zt_z81.2.1) = true := by decide +kernel
set_option maxRecDepth 100000 in
theorem zt_d160_ok : zt_m160.2.2.2.all (xw_dOk zt_z160.2.1) = true := by decide +kernel
set_option maxRecDepth 100000 in
theorem zt_d298_ok : zt_m298.2.2.2.all (xw_dOk zt_z298.2.1) = true := by decide +kernel
set_option maxRecDepth 100000 in
theorem zt_d198_ok : zt_m198.2.2.2.all (xw_dOk zt_z198.2.1) = true := by decide +kernel
set_option maxRecDepth 100000 in
theorem zt_d209_ok : zt_m209.2.2.2.all (xw_dOk zt_z209.2.1) = true := by decide +kernel
set_option maxRecDepth 100000 in
theorem zt_d105_ok : zt_m105.2.2.2.all (xw_dOk zt_z105.2.1) = true := by decide +kernel
set_option maxRecDepth 100000 in
theorem zt_d192_ok : zt_m192.2.2.2.all (xw_dOk zt_z192.2.1) = true := by decide +kernel
set_option maxRecDepth 100000 in
theorem zt_d268_ok : zt_m268.2.2.2.all (xw_dOk zt_z268.2.1) = true := by decide +kernel
set_option maxRecDepth 100000 in
theorem zt_d177_ok : zt_m177.2.2.2.all (xw_dOk zt_z177.2.1) = true := by decide +kernel
set_option maxRecDepth 100000 in
theorem zt_d189_ok : zt_m189.2.2.2.all (xw_dOk zt_z189.2.1) = true := by decide +kernel
set_option maxRecDepth 100000 in
theorem zt_d187_ok : zt_m187.2.2.2.all (xw_dOk zt_z187.2.1) = true := by decide +kernel
set_option maxRecDepth 100000 in
theorem zt_d193_ok : zt_m193.2.2.2.all (xw_dOk zt_z193.2.1) = true := by decide +kernel
set_option maxRecDepth 100000 in
theorem zt_d22_ok : zt_m22.2.2.2.all (xw_dOk zt_z22.2.1) = true := by decide +kernel
set_option maxRecDepth 100000 in
theorem zt_d145_ok : zt_m145.2.2.2.all (xw_dOk zt_z145.2.1) = true := by decide +kernel
set_option maxRecDepth 100000 in
theorem zt_d23_ok : zt_m23.2.2.2.all (xw_dOk zt_z23.2.1) = true := by decide +kernel
set_option maxRecDepth 100000 in
theorem zt_d286_ok : zt_m286.2.2.2.all (xw_dOk zt_z286.2.1) = true := by decide +kernel
set_option maxRecDepth 100000 in
theorem zt_d176_ok : zt_m176.2.2.2.all (xw_dOk zt_z176.2.1) = true := by decide +kernel
set_option maxRecDepth 100000 in
theorem zt_d30_ok : zt_m30.2.2.2.all (xw_dOk zt_z30.2.1) = true := by decide +kernel
set_option maxRecDepth 100000 in
theorem zt_d195_ok : zt_m195.2.2.2.all (xw_dOk zt_z195.2.1) = true := by decide +kernel
set_option maxRecDepth 100000 in
theorem zt_d143_ok : zt_m143.2.2.2.all (xw_dOk zt_z143.2.1) = true := by decide +kernel

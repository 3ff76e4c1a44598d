set_option maxRecDepth 100000 in
theorem zt_d250_ok : zt_m250.2.2.2.all (xw_dOk zt_z250.2.1) = true := by decide +kernel
set_option maxRecDepth 100000 in
theorem zt_d178_ok : zt_m178.2.2.2.all (xw_dOk zt_z178.2.1) = true := by decide +kernel
set_option maxRecDepth 100000 in
theorem zt_d38_ok : zt_m38.2.2.2.all (xw_dOk zt_z38.2.1) = true := by decide +kernel
set_option maxRecDepth 100000 in
theorem zt_d120_ok : zt_m120.2.2.2.all (xw_dOk zt_z120.2.1) = true := by decide +kernel
set_option maxRecDepth 100000 in
theorem zt_d155_ok : zt_m155.2.2.2.all (xw_dOk zt_z155.2.1) = true := by decide +kernel
set_option maxRecDepth 100000 in
theorem zt_d100_ok : zt_m100.2.2.2.all (xw_dOk zt_z100.2.1) = true := by decide +kernel
set_option maxRecDepth 100000 in
theorem zt_d121_ok : zt_m121.2.2.2.all (xw_dOk zt_z121.2.1) = true := by decide +kernel
set_option maxRecDepth 100000 in
theorem zt_d292_ok : zt_m292.2.2.2.all (xw_dOk zt_z292.2.1) = true := by decide +kernel
set_option maxRecDepth 100000 in
theorem zt_d163_ok : zt_m163.2.2.2.all (xw_dOk zt_z163.2.1) = true := by decide +kernel
set_option maxRecDepth 100000 in
theorem zt_d223_ok : zt_m223.2.2.2.all (xw_dOk zt_z223.2.1) = true := by decide +kernel
set_option maxRecDepth 100000 in
theorem zt_d281_ok : zt_m281.2.2.2.all (xw_dOk zt_z281.2.1) = true := by decide +kernel
set_option maxRecDepth 100000 in
theorem zt_d290_ok : zt_m290.2.2.2.all (xw_dOk zt_z290.2.1) = true := by decide +kernel
set_option maxRecDepth 100000 in
theorem zt_d12_ok : zt_m12.2.2.2.all (xw_dOk zt_z12.2.1) = true := by decide +kernel
set_option maxRecDepth 100000 in
theorem zt_d4_ok : zt_m4.2.2.2.all (xw_dOk zt_z4.2.1) = true := by decide +kernel
set_option maxRecDepth 100000 in
theorem zt_d7_ok : zt_m7.2.2.2.all (xw_dOk zt_z7.2.1) = true := by decide +kernel
set_option maxRecDepth 100000 in
theorem zt_d306_ok : zt_m306.2.2.2.all (xw_dOk zt_z306.2.1) = true := by decide +kernel
set_option maxRecDepth 100000 in
theorem zt_d208_ok : zt_m208.2.2.2.all (xw_dOk zt_z208.2.1) = true := by decide +kernel
set_option maxRecDepth 100000 in
theorem zt_d221_ok : zt_m221.2.2.2.all (xw_dOk zt_z221.2.1) = true := by decide +kernel
set_option maxRecDepth 100000 in
theorem zt_d242_ok : zt_m242.2.2.2.all (xw_dOk zt_z242.2.1) = true := by decide +kernel
set_option maxRecDepth 100000 in
theorem zt_d246_ok : zt_m246.2.2.2.all (xw_dOk zt_z246.2.1) = true := by decide +kernel
set_option maxRecDepth 100000 in
theorem zt_d103_ok : zt_m103.2.2.2.all (xw_dOk zt_z103.2.1) = true := by decide +kernel
set_option maxRecDepth 100000 in
theorem zt_d255_ok : zt_m255.2.2.2.all (xw_dOk zt_z255.2.1) = true := by decide +kernel
set_option maxRecDepth 100000 in
theorem zt_d294_ok : zt_m294.2.2.2.all (xw_dOk zt_z294.2.1) = true := by decide +kernel
set_option maxRecDepth 100000 in
theorem zt_d101_ok : zt_m101.2.2.2.all (xw_dOk zt_z101.2.1) = true := by decide +kernel
set_option maxRecDepth 100000 in
theorem zt_d166_ok : zt_m166.2.2.2.all (xw_dOk zt_z166.2.1) = true := by decide +kernel
set_option maxRecDepth 100000 in
theorem zt_d199_ok : zt_m199.2.2.2.all (xw_dOk zt_z199.2.1) = true := by decide +kernel
set_option maxRecDepth 100000 in
theorem zt_d61_ok : zt_m61.2.2.2.all (xw_dOk zt_z61.2.1) = true := by decide +kernel
set_option maxRecDepth 100000 in
theorem zt_d11_ok : zt_m11.2.2.2.all (xw_dOk zt_z11.2.1) = true := by decide +kernel
set_option maxRecDepth 100000 in
theorem zt_d161_ok : zt_m161.2.2.2.all (xw_dOk zt_z161.2.1) = true := by decide +kernel
set_option maxRecDepth 100000 in
theorem zt_d214_ok : zt_m214.2.2.2.all (xw_dOk zt_z214.2.1) = true := by decide +kernel
set_option maxRecDepth 100000 in
theorem zt_d282_ok : zt_m282.2.2.2.all (xw_dOk zt_z282.2.1) = true := by decide +kernel
set_option maxRecDepth 100000 in
theorem zt_d284_ok : zt_m284.2.2.2.all (xw_dOk zt_z284.2.1) = true := by decide +kernel
set_option maxRecDepth 100000 in
theorem zt_d34_ok : zt_m34.2.2.2.all (xw_dOk zt_z34.2.1) = true := by decide +kernel
set_option maxRecDepth 100000 in
theorem zt_d183_ok : zt_m183.2.2.2.all (xw_dOk zt_z183.2.1) = true := by decide +kernel
set_option maxRecDepth 100000 in
theorem zt_d188_ok : zt_m188.2.2.2.all (xw_dOk zt_z188.2.1) = true := by decide +kernel
set_option maxRecDepth 100000 in
theorem zt_d243_ok : zt_m243.2.2.2.all (xw_dOk zt_z243.2.1) = true := by decide +kernel
set_option maxRecDepth 100000 in
theorem zt_d304_ok : zt_m304.2.2.2.all (xw_dOk zt_z304.2.1) = true := by decide +kernel
set_option maxRecDepth 100000 in
theorem zt_d33_ok : zt_m33.2.2.2.all (xw_dOk zt_z33.2.1) = true := by decide +kernel
set_option maxRecDepth 100000 in
theorem zt_d185_ok : zt_m185.2.2.2.all (xw_dOk zt_z185.2.1) = true := by decide +kernel
set_option maxRecDepth 100000 in
theorem zt_d311_ok : zt_m311.2.2.2.all (xw_dOk zt_z311.2.1) = true := by decide +kernel
set_option maxRecDepth 100000 in
theorem zt_d287_ok : zt_m287.2.2.2.all (xw_dOk zt_z287.2.1) = true := by decide +kernel
set_option maxRecDepth 100000 in
theorem zt_d82_ok : zt_m82.2.2.2.all (xw_dOk zt_z82.2.1) = true := by decide +kernel
set_option maxRecDepth 100000 in
theorem zt_d285_ok : zt_m285.2.2.2.all (xw_dOk zt_z285.2.1) = true := by decide +kernel
set_option maxRecDepth 100000 in
theorem zt_d158_ok : zt_m158.2.2.2.all (xw_dOk zt_z158.2.1) = true := by decide +kernel

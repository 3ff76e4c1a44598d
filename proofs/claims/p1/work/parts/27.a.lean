set_option maxRecDepth 100000 in
theorem zt_d176_ok : zt_m176.2.2.2.all (xw_dOk zt_z176.2.1) = true := by decide +kernel
set_option maxRecDepth 100000 in
theorem zt_d5_ok : zt_m5.2.2.2.all (xw_dOk zt_z5.2.1) = true := by decide +kernel
set_option maxRecDepth 100000 in
theorem zt_d112_ok : zt_m112.2.2.2.all (xw_dOk zt_z112.2.1) = true := by decide +kernel
set_option maxRecDepth 100000 in
theorem zt_d129_ok : zt_m129.2.2.2.all (xw_dOk zt_z129.2.1) = true := by decide +kernel
set_option maxRecDepth 100000 in
theorem zt_d28_ok : zt_m28.2.2.2.all (xw_dOk zt_z28.2.1) = true := by decide +kernel
set_option maxRecDepth 100000 in
theorem zt_d141_ok : zt_m141.2.2.2.all (xw_dOk zt_z141.2.1) = true := by decide +kernel
set_option maxRecDepth 100000 in
theorem zt_d175_ok : zt_m175.2.2.2.all (xw_dOk zt_z175.2.1) = true := by decide +kernel
set_option maxRecDepth 100000 in
theorem zt_d48_ok : zt_m48.2.2.2.all (xw_dOk zt_z48.2.1) = true := by decide +kernel
set_option maxRecDepth 100000 in
theorem zt_d36_ok : zt_m36.2.2.2.all (xw_dOk zt_z36.2.1) = true := by decide +kernel
set_option maxRecDepth 100000 in
theorem zt_d6_ok : zt_m6.2.2.2.all (xw_dOk zt_z6.2.1) = true := by decide +kernel
set_option maxRecDepth 100000 in
theorem zt_d117_ok : zt_m117.2.2.2.all (xw_dOk zt_z117.2.1) = true := by decide +kernel
set_option maxRecDepth 100000 in
theorem zt_d17_ok : zt_m17.2.2.2.all (xw_dOk zt_z17.2.1) = true := by decide +kernel
set_option maxRecDepth 100000 in
theorem zt_d27_ok : zt_m27.2.2.2.all (xw_dOk zt_z27.2.1) = true := by decide +kernel
set_option maxRecDepth 100000 in
theorem zt_d73_ok : zt_m73.2.2.2.all (xw_dOk zt_z73.2.1) = true := by decide +kernel
set_option maxRecDepth 100000 in
theorem zt_d84_ok : zt_m84.2.2.2.all (xw_dOk zt_z84.2.1) = true := by decide +kernel
set_option maxRecDepth 100000 in
theorem zt_d168_ok : zt_m168.2.2.2.all (xw_dOk zt_z168.2.1) = true := by decide +kernel
set_option maxRecDepth 100000 in
theorem zt_d70_ok : zt_m70.2.2.2.all (xw_dOk zt_z70.2.1) = true := by decide +kernel
set_option maxRecDepth 100000 in
theorem zt_d71_ok : zt_m71.2.2.2.all (xw_dOk zt_z71.2.1) = true := by decide +kernel
set_option maxRecDepth 100000 in
theorem zt_d109_ok : zt_m109.2.2.2.all (xw_dOk zt_z109.2.1) = true := by decide +kernel
set_option maxRecDepth 100000 in
theorem zt_d167_ok : zt_m167.2.2.2.all (xw_dOk zt_z167.2.1) = true := by decide +kernel
set_option maxRecDepth 100000 in
theorem zt_d53_ok : zt_m53.2.2.2.all (xw_dOk zt_z53.2.1) = true := by decide +kernel
set_option maxRecDepth 100000 in
theorem zt_d57_ok : zt_m57.2.2.2.all (xw_dOk zt_z57.2.1) = true := by decide +kernel
set_option maxRecDepth 100000 in
theorem zt_d59_ok : zt_m59.2.2.2.all (xw_dOk zt_z59.2.1) = true := by decide +kernel
set_option maxRecDepth 100000 in
theorem zt_d64_ok : zt_m64.2.2.2.all (xw_dOk zt_z64.2.1) = true := by decide +kernel
set_option maxRecDepth 100000 in
theorem zt_d66_ok : zt_m66.2.2.2.all (xw_dOk zt_z66.2.1) = true := by decide +kernel
set_option maxRecDepth 100000 in
theorem zt_d67_ok : zt_m67.2.2.2.all (xw_dOk zt_z67.2.1) = true := by decide +kernel
set_option maxRecDepth 100000 in
theorem zt_d99_ok : zt_m99.2.2.2.all (xw_dOk zt_z99.2.1) = true := by decide +kernel
set_option maxRecDepth 100000 in
theorem zt_d124_ok : zt_m124.2.2.2.all (xw_dOk zt_z124.2.1) = true := by decide +kernel
set_option maxRecDepth 100000 in
theorem zt_d50_ok : zt_m50.2.2.2.all (xw_dOk zt_z50.2.1) = true := by decide +kernel
set_option maxRecDepth 100000 in
theorem zt_d120_ok : zt_m120.2.2.2.all (xw_dOk zt_z120.2.1) = true := by decide +kernel
set_option maxRecDepth 100000 in
theorem zt_d134_ok : zt_m134.2.2.2.all (xw_dOk zt_z134.2.1) = true := by decide +kernel
set_option maxRecDepth 100000 in
theorem zt_d137_ok : zt_m137.2.2.2.all (xw_dOk zt_z137.2.1) = true := by decide +kernel
set_option maxRecDepth 100000 in
theorem zt_d146_ok : zt_m146.2.2.2.all (xw_dOk zt_z146.2.1) = true := by decide +kernel
set_option maxRecDepth 100000 in
theorem zt_d155_ok : zt_m155.2.2.2.all (xw_dOk zt_z155.2.1) = true := by decide +kernel
set_option maxRecDepth 100000 in
theorem zt_d158_ok : zt_m158.2.2.2.all (xw_dOk zt_z158.2.1) = true := by decide +kernel
set_option maxRecDepth 100000 in
theorem zt_d24_ok : zt_m24.2.2.2.all (xw_dOk zt_z24.2.1) = true := by decide +kernel
set_option maxRecDepth 100000 in
theorem zt_d55_ok : zt_m55.2.2.2.all (xw_dOk zt_z55.2.1) = true := by decide +kernel
set_option maxRecDepth 100000 in
theorem zt_d46_ok : zt_m46.2.2.2.all (xw_dOk zt_z46.2.1) = true := by decide +kernel
set_option maxRecDepth 100000 in
theorem zt_d90_ok : zt_m90.2.2.2.all (xw_dOk zt_z90.2.1) = true := by decide +kernel
set_option maxRecDepth 100000 in
theorem zt_d91_ok : zt_m91.2.2.2.all (xw_dOk zt_z91.2.1) = true := by decide +kernel
set_option maxRecDepth 100000 in
theorem zt_d116_ok : zt_m116.2.2.2.all (xw_dOk zt_z116.2.1) = true := by decide +kernel
set_option maxRecDepth 100000 in
theorem zt_d101_ok : zt_m101.2.2.2.all (xw_dOk zt_z101.2.1) = true := by decide +kernel
set_option maxRecDepth 100000 in
theorem zt_d108_ok : zt_m108.2.2.2.all (xw_dOk zt_z108.2.1) = true := by decide +kernel
set_option maxRecDepth 100000 in
theorem zt_d125_ok : zt_m125.2.2.2.all (xw_dOk zt_z125.2.1) = true := by decide +kernel
set_option maxRecDepth 100000 in
theorem zt_d144_ok : zt_m144.2.2.2.all (xw_dOk zt_z144.2.1) = true := by decide +kernel
set_option maxRecDepth 100000 in
theorem zt_d145_ok : zt_m145.2.2.2.all (xw_dOk zt_z145.2.1) = true := by decide +kernel
set_option maxRecDepth 100000 in
theorem zt_d32_ok : zt_m32.2.2.2.all (xw_dOk zt_z32.2.1) = true := by decide +kernel
set_option maxRecDepth 100000 in
theorem zt_d47_ok : zt_m47.2.2.2.all (xw_dOk zt_z47.2.1) = true := by decide +kernel
set_option maxRecDepth 100000 in
theorem zt_d123_ok : zt_m123.2.2.2.all (xw_dOk zt_z123.2.1) = true := by decide +kernel
set_option maxRecDepth 100000 in
theorem zt_d160_ok : zt_m160.2.2.2.all (xw_dOk zt_z160.2.1) = true := by decide +kernel
set_option maxRecDepth 100000 in
theorem zt_d8_ok : zt_m8.2.2.2.all (xw_dOk zt_z8.2.1) = true := by decide +kernel
set_option maxRecDepth 100000 in
theorem zt_dh_ok : zt_mh.2.2.2.all (xw_dOk zt_zh.2.1) = true := by decide +kernel
set_option maxRecDepth 100000 in
theorem zt_d103_ok : zt_m103.2.2.2.all (xw_dOk zt_z103.2.1) = true := by decide +kernel
set_option maxRecDepth 100000 in
theorem zt_d132_ok : zt_m132.2.2.2.all (xw_dOk zt_z132.2.1) = true := by decide +kernel
set_option maxRecDepth 100000 in
theorem zt_d133_ok : zt_m133.2.2.2.all (xw_dOk zt_z133.2.1) = true := by decide +kernel
set_option maxRecDepth 100000 in
theorem zt_d51_ok : zt_m51.2.2.2.all (xw_dOk zt_z51.2.1) = true := by decide +kernel
set_option maxRecDepth 100000 in
theorem zt_d60_ok : zt_m60.2.2.2.all (xw_dOk zt_z60.2.1) = true := by decide +kernel
set_option maxRecDepth 100000 in
theorem zt_d92_ok : zt_m92.2.2.2.all (xw_dOk zt_z92.2.1) = true := by decide +kernel
set_option maxRecDepth 100000 in
theorem zt_d10_ok : zt_m10.2.2.2.all (xw_dOk zt_z10.2.1) = true := by decide +kernel
set_option maxRecDepth 100000 in
theorem zt_d153_ok : zt_m153.2.2.2.all (xw_dOk zt_z153.2.1) = true := by decide +kernel
set_option maxRecDepth 100000 in
theorem zt_d166_ok : zt_m166.2.2.2.all (xw_dOk zt_z166.2.1) = true := by decide +kernel
set_option maxRecDepth 100000 in
theorem zt_d37_ok : zt_m37.2.2.2.all (xw_dOk zt_z37.2.1) = true := by decide +kernel
set_option maxRecDepth 100000 in
theorem zt_d49_ok : zt_m49.2.2.2.all (xw_dOk zt_z49.2.1) = true := by decide +kernel
set_option maxRecDepth 100000 in
theorem zt_d61_ok : zt_m61.2.2.2.all (xw_dOk zt_z61.2.1) = true := by decide +kernel
set_option maxRecDepth 100000 in
theorem zt_d93_ok : zt_m93.2.2.2.all (xw_dOk zt_z93.2.1) = true := by decide +kernel
set_option maxRecDepth 100000 in
theorem zt_d94_ok : zt_m94.2.2.2.all (xw_dOk zt_z94.2.1) = true := by decide +kernel
set_option maxRecDepth 100000 in
theorem zt_d102_ok : zt_m102.2.2.2.all (xw_dOk zt_z102.2.1) = true := by decide +kernel
set_option maxRecDepth 100000 in
theorem zt_d105_ok : zt_m105.2.2.2.all (xw_dOk zt_z105.2.1) = true := by decide +kernel
set_option maxRecDepth 100000 in
theorem zt_d164_ok : zt_m164.2.2.2.all (xw_dOk zt_z164.2.1) = true := by decide +kernel
set_option maxRecDepth 100000 in
theorem zt_d173_ok : zt_m173.2.2.2.all (xw_dOk zt_z173.2.1) = true := by decide +kernel
set_option maxRecDepth 100000 in
theorem zt_d35_ok : zt_m35.2.2.2.all (xw_dOk zt_z35.2.1) = true := by decide +kernel
set_option maxRecDepth 100000 in
theorem zt_d115_ok : zt_m115.2.2.2.all (xw_dOk zt_z115.2.1) = true := by decide +kernel
set_option maxRecDepth 100000 in
theorem zt_d122_ok : zt_m122.2.2.2.all (xw_dOk zt_z122.2.1) = true := by decide +kernel
set_option maxRecDepth 100000 in
theorem zt_d83_ok : zt_m83.2.2.2.all (xw_dOk zt_z83.2.1) = true := by decide +kernel
set_option maxRecDepth 100000 in
theorem zt_d143_ok : zt_m143.2.2.2.all (xw_dOk zt_z143.2.1) = true := by decide +kernel
set_option maxRecDepth 100000 in
theorem zt_d139_ok : zt_m139.2.2.2.all (xw_dOk zt_z139.2.1) = true := by decide +kernel
set_option maxRecDepth 100000 in
theorem zt_d3_ok : zt_m3.2.2.2.all (xw_dOk zt_z3.2.1) = true := by decide +kernel
set_option maxRecDepth 100000 in
theorem zt_d14_ok : zt_m14.2.2.2.all (xw_dOk zt_z14.2.1) = true := by decide +kernel
set_option maxRecDepth 100000 in
theorem zt_d40_ok : zt_m40.2.2.2.all (xw_dOk zt_z40.2.1) = true := by decide +kernel
set_option maxRecDepth 100000 in
theorem zt_d65_ok : zt_m65.2.2.2.all (xw_dOk zt_z65.2.1) = true := by decide +kernel
set_option maxRecDepth 100000 in
theorem zt_d82_ok : zt_m82.2.2.2.all (xw_dOk zt_z82.2.1) = true := by decide +kernel
set_option maxRecDepth 100000 in
theorem zt_d104_ok : zt_m104.2.2.2.all (xw_dOk zt_z104.2.1) = true := by decide +kernel
set_option maxRecDepth 100000 in
theorem zt_d111_ok : zt_m111.2.2.2.all (xw_dOk zt_z111.2.1) = true := by decide +kernel
set_option maxRecDepth 100000 in
theorem zt_d128_ok : zt_m128.2.2.2.all (xw_dOk zt_z128.2.1) = true := by decide +kernel
set_option maxRecDepth 100000 in
theorem zt_d148_ok : zt_m148.2.2.2.all (xw_dOk zt_z148.2.1) = true := by decide +kernel
set_option maxRecDepth 100000 in
theorem zt_d169_ok : zt_m169.2.2.2.all (xw_dOk zt_z169.2.1) = true := by decide +kernel
set_option maxRecDepth 100000 in
theorem zt_d165_ok : zt_m165.2.2.2.all (xw_dOk zt_z165.2.1) = true := by decide +kernel
set_option maxRecDepth 100000 in
theorem zt_d172_ok : zt_m172.2.2.2.all (xw_dOk zt_z172.2.1) = true := by decide +kernel
set_option maxRecDepth 100000 in
theorem zt_d41_ok : zt_m41.2.2.2.all (xw_dOk zt_z41.2.1) = true := by decide +kernel
set_option maxRecDepth 100000 in
theorem zt_d98_ok : zt_m98.2.2.2.all (xw_dOk zt_z98.2.1) = true := by decide +kernel
set_option maxRecDepth 100000 in
theorem zt_d81_ok : zt_m81.2.2.2.all (xw_dOk zt_z81.2.1) = true := by decide +kernel
set_option maxRecDepth 100000 in
theorem zt_d85_ok : zt_m85.2.2.2.all (xw_dOk zt_z85.2.1) = true := by decide +kernel
set_option maxRecDepth 100000 in
theorem zt_d13_ok : zt_m13.2.2.2.all (xw_dOk zt_z13.2.1) = true := by decide +kernel
set_option maxRecDepth 100000 in
theorem zt_d142_ok : zt_m142.2.2.2.all (xw_dOk zt_z142.2.1) = true := by decide +kernel
set_option maxRecDepth 100000 in
theorem zt_d154_ok : zt_m154.2.2.2.all (xw_dOk zt_z154.2.1) = true := by decide +kernel
set_option maxRecDepth 100000 in
theorem zt_d52_ok : zt_m52.2.2.2.all (xw_dOk zt_z52.2.1) = true := by decide +kernel
set_option maxRecDepth 100000 in
theorem zt_d72_ok : zt_m72.2.2.2.all (xw_dOk zt_z72.2.1) = true := by decide +kernel
set_option maxRecDepth 100000 in
theorem zt_d121_ok : zt_m121.2.2.2.all (xw_dOk zt_z121.2.1) = true := by decide +kernel
set_option maxRecDepth 100000 in
theorem zt_d130_ok : zt_m130.2.2.2.all (xw_dOk zt_z130.2.1) = true := by decide +kernel
set_option maxRecDepth 100000 in
theorem zt_d9_ok : zt_m9.2.2.2.all (xw_dOk zt_z9.2.1) = true := by decide +kernel
set_option maxRecDepth 100000 in
theorem zt_d1_ok : zt_m1.2.2.2.all (xw_dOk zt_z1.2.1) = true := by decide +kernel
set_option maxRecDepth 100000 in
theorem zt_d19_ok : zt_m19.2.2.2.all (xw_dOk zt_z19.2.1) = true := by decide +kernel
set_option maxRecDepth 100000 in
theorem zt_d20_ok : zt_m20.2.2.2.all (xw_dOk zt_z20.2.1) = true := by decide +kernel
set_option maxRecDepth 100000 in
theorem zt_d2_ok : zt_m2.2.2.2.all (xw_dOk zt_z2.2.1) = true := by decide +kernel
set_option maxRecDepth 100000 in
theorem zt_d39_ok : zt_m39.2.2.2.all (xw_dOk zt_z39.2.1) = true := by decide +kernel
set_option maxRecDepth 100000 in
theorem zt_d131_ok : zt_m131.2.2.2.all (xw_dOk zt_z131.2.1) = true := by decide +kernel
set_option maxRecDepth 100000 in
theorem zt_d54_ok : zt_m54.2.2.2.all (xw_dOk zt_z54.2.1) = true := by decide +kernel
set_option maxRecDepth 100000 in
theorem zt_d68_ok : zt_m68.2.2.2.all (xw_dOk zt_z68.2.1) = true := by decide +kernel
set_option maxRecDepth 100000 in
theorem zt_d110_ok : zt_m110.2.2.2.all (xw_dOk zt_z110.2.1) = true := by decide +kernel
set_option maxRecDepth 100000 in
theorem zt_d140_ok : zt_m140.2.2.2.all (xw_dOk zt_z140.2.1) = true := by decide +kernel
set_option maxRecDepth 100000 in
theorem zt_d43_ok : zt_m43.2.2.2.all (xw_dOk zt_z43.2.1) = true := by decide +kernel
set_option maxRecDepth 100000 in
theorem zt_d79_ok : zt_m79.2.2.2.all (xw_dOk zt_z79.2.1) = true := by decide +kernel
set_option maxRecDepth 100000 in
theorem zt_d80_ok : zt_m80.2.2.2.all (xw_dOk zt_z80.2.1) = true := by decide +kernel
set_option maxRecDepth 100000 in
theorem zt_d16_ok : zt_m16.2.2.2.all (xw_dOk zt_z16.2.1) = true := by decide +kernel
set_option maxRecDepth 100000 in
theorem zt_d56_ok : zt_m56.2.2.2.all (xw_dOk zt_z56.2.1) = true := by decide +kernel
set_option maxRecDepth 100000 in
theorem zt_d150_ok : zt_m150.2.2.2.all (xw_dOk zt_z150.2.1) = true := by decide +kernel
set_option maxRecDepth 100000 in
theorem zt_d74_ok : zt_m74.2.2.2.all (xw_dOk zt_z74.2.1) = true := by decide +kernel
set_option maxRecDepth 100000 in
theorem zt_d77_ok : zt_m77.2.2.2.all (xw_dOk zt_z77.2.1) = true := by decide +kernel
set_option maxRecDepth 100000 in
theorem zt_d78_ok : zt_m78.2.2.2.all (xw_dOk zt_z78.2.1) = true := by decide +kernel
set_option maxRecDepth 100000 in
theorem zt_d170_ok : zt_m170.2.2.2.all (xw_dOk zt_z170.2.1) = true := by decide +kernel
set_option maxRecDepth 100000 in
theorem zt_d69_ok : zt_m69.2.2.2.all (xw_dOk zt_z69.2.1) = true := by decide +kernel
set_option maxRecDepth 100000 in
theorem zt_d21_ok : zt_m21.2.2.2.all (xw_dOk zt_z21.2.1) = true := by decide +kernel
set_option maxRecDepth 100000 in
theorem zt_d118_ok : zt_m118.2.2.2.all (xw_dOk zt_z118.2.1) = true := by decide +kernel
set_option maxRecDepth 100000 in
theorem zt_d136_ok : zt_m136.2.2.2.all (xw_dOk zt_z136.2.1) = true := by decide +kernel
set_option maxRecDepth 100000 in
theorem zt_d25_ok : zt_m25.2.2.2.all (xw_dOk zt_z25.2.1) = true := by decide +kernel
set_option maxRecDepth 100000 in
theorem zt_d62_ok : zt_m62.2.2.2.all (xw_dOk zt_z62.2.1) = true := by decide +kernel
set_option maxRecDepth 100000 in
theorem zt_d75_ok : zt_m75.2.2.2.all (xw_dOk zt_z75.2.1) = true := by decide +kernel
set_option maxRecDepth 100000 in
theorem zt_d171_ok : zt_m171.2.2.2.all (xw_dOk zt_z171.2.1) = true := by decide +kernel
set_option maxRecDepth 100000 in
theorem zt_d86_ok : zt_m86.2.2.2.all (xw_dOk zt_z86.2.1) = true := by decide +kernel
set_option maxRecDepth 100000 in
theorem zt_d157_ok : zt_m157.2.2.2.all (xw_dOk zt_z157.2.1) = true := by decide +kernel
set_option maxRecDepth 100000 in
theorem zt_d15_ok : zt_m15.2.2.2.all (xw_dOk zt_z15.2.1) = true := by decide +kernel
set_option maxRecDepth 100000 in
theorem zt_d44_ok : zt_m44.2.2.2.all (xw_dOk zt_z44.2.1) = true := by decide +kernel
set_option maxRecDepth 100000 in
theorem zt_d114_ok : zt_m114.2.2.2.all (xw_dOk zt_z114.2.1) = true := by decide +kernel
set_option maxRecDepth 100000 in
theorem zt_d38_ok : zt_m38.2.2.2.all (xw_dOk zt_z38.2.1) = true := by decide +kernel
set_option maxRecDepth 100000 in
theorem zt_d106_ok : zt_m106.2.2.2.all (xw_dOk zt_z106.2.1) = true := by decide +kernel
set_option maxRecDepth 100000 in
theorem zt_d12_ok : zt_m12.2.2.2.all (xw_dOk zt_z12.2.1) = true := by decide +kernel
set_option maxRecDepth 100000 in
theorem zt_d4_ok : zt_m4.2.2.2.all (xw_dOk zt_z4.2.1) = true := by decide +kernel
set_option maxRecDepth 100000 in
theorem zt_d7_ok : zt_m7.2.2.2.all (xw_dOk zt_z7.2.1) = true := by decide +kernel
set_option maxRecDepth 100000 in
theorem zt_d88_ok : zt_m88.2.2.2.all (xw_dOk zt_z88.2.1) = true := by decide +kernel
set_option maxRecDepth 100000 in
theorem zt_d127_ok : zt_m127.2.2.2.all (xw_dOk zt_z127.2.1) = true := by decide +kernel
set_option maxRecDepth 100000 in
theorem zt_d113_ok : zt_m113.2.2.2.all (xw_dOk zt_z113.2.1) = true := by decide +kernel
set_option maxRecDepth 100000 in
theorem zt_d119_ok : zt_m119.2.2.2.all (xw_dOk zt_z119.2.1) = true := by decide +kernel
set_option maxRecDepth 100000 in
theorem zt_d96_ok : zt_m96.2.2.2.all (xw_dOk zt_z96.2.1) = true := by decide +kernel
set_option maxRecDepth 100000 in
theorem zt_d11_ok : zt_m11.2.2.2.all (xw_dOk zt_z11.2.1) = true := by decide +kernel
set_option maxRecDepth 100000 in
theorem zt_d34_ok : zt_m34.2.2.2.all (xw_dOk zt_z34.2.1) = true := by decide +kernel
set_option maxRecDepth 100000 in
theorem zt_d87_ok : zt_m87.2.2.2.all (xw_dOk zt_z87.2.1) = true := by decide +kernel
set_option maxRecDepth 100000 in
theorem zt_d97_ok : zt_m97.2.2.2.all (xw_dOk zt_z97.2.1) = true := by decide +kernel
set_option maxRecDepth 100000 in
theorem zt_d152_ok : zt_m152.2.2.2.all (xw_dOk zt_z152.2.1) = true := by decide +kernel
set_option maxRecDepth 100000 in
theorem zt_d33_ok : zt_m33.2.2.2.all (xw_dOk zt_z33.2.1) = true := by decide +kernel
set_option maxRecDepth 100000 in
theorem zt_d76_ok : zt_m76.2.2.2.all (xw_dOk zt_z76.2.1) = true := by decide +kernel
set_option maxRecDepth 100000 in
theorem zt_d149_ok : zt_m149.2.2.2.all (xw_dOk zt_z149.2.1) = true := by decide +kernel
set_option maxRecDepth 100000 in
theorem zt_d156_ok : zt_m156.2.2.2.all (xw_dOk zt_z156.2.1) = true := by decide +kernel

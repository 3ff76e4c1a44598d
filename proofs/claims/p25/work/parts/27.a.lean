set_option maxRecDepth 100000 in
theorem zt_d5_ok : zt_m5.2.2.2.all (xw_dOk zt_z5.2.1) = true := by decide +kernel
set_option maxRecDepth 100000 in
theorem zt_d28_ok : zt_m28.2.2.2.all (xw_dOk zt_z28.2.1) = true := by decide +kernel
set_option maxRecDepth 100000 in
theorem zt_d65_ok : zt_m65.2.2.2.all (xw_dOk zt_z65.2.1) = true := by decide +kernel
set_option maxRecDepth 100000 in
theorem zt_d68_ok : zt_m68.2.2.2.all (xw_dOk zt_z68.2.1) = true := by decide +kernel
set_option maxRecDepth 100000 in
theorem zt_d142_ok : zt_m142.2.2.2.all (xw_dOk zt_z142.2.1) = true := by decide +kernel
set_option maxRecDepth 100000 in
theorem zt_d44_ok : zt_m44.2.2.2.all (xw_dOk zt_z44.2.1) = true := by decide +kernel
set_option maxRecDepth 100000 in
theorem zt_d73_ok : zt_m73.2.2.2.all (xw_dOk zt_z73.2.1) = true := by decide +kernel
set_option maxRecDepth 100000 in
theorem zt_d248_ok : zt_m248.2.2.2.all (xw_dOk zt_z248.2.1) = true := by decide +kernel
set_option maxRecDepth 100000 in
theorem zt_d36_ok : zt_m36.2.2.2.all (xw_dOk zt_z36.2.1) = true := by decide +kernel
set_option maxRecDepth 100000 in
theorem zt_d6_ok : zt_m6.2.2.2.all (xw_dOk zt_z6.2.1) = true := by decide +kernel
set_option maxRecDepth 100000 in
theorem zt_d170_ok : zt_m170.2.2.2.all (xw_dOk zt_z170.2.1) = true := by decide +kernel
set_option maxRecDepth 100000 in
theorem zt_d17_ok : zt_m17.2.2.2.all (xw_dOk zt_z17.2.1) = true := by decide +kernel
set_option maxRecDepth 100000 in
theorem zt_d249_ok : zt_m249.2.2.2.all (xw_dOk zt_z249.2.1) = true := by decide +kernel
set_option maxRecDepth 100000 in
theorem zt_d27_ok : zt_m27.2.2.2.all (xw_dOk zt_z27.2.1) = true := by decide +kernel
set_option maxRecDepth 100000 in
theorem zt_d307_ok : zt_m307.2.2.2.all (xw_dOk zt_z307.2.1) = true := by decide +kernel
set_option maxRecDepth 100000 in
theorem zt_d309_ok : zt_m309.2.2.2.all (xw_dOk zt_z309.2.1) = true := by decide +kernel
set_option maxRecDepth 100000 in
theorem zt_d310_ok : zt_m310.2.2.2.all (xw_dOk zt_z310.2.1) = true := by decide +kernel
set_option maxRecDepth 100000 in
theorem zt_d229_ok : zt_m229.2.2.2.all (xw_dOk zt_z229.2.1) = true := by decide +kernel
set_option maxRecDepth 100000 in
theorem zt_d253_ok : zt_m253.2.2.2.all (xw_dOk zt_z253.2.1) = true := by decide +kernel
set_option maxRecDepth 100000 in
theorem zt_d182_ok : zt_m182.2.2.2.all (xw_dOk zt_z182.2.1) = true := by decide +kernel
set_option maxRecDepth 100000 in
theorem zt_d226_ok : zt_m226.2.2.2.all (xw_dOk zt_z226.2.1) = true := by decide +kernel
set_option maxRecDepth 100000 in
theorem zt_d51_ok : zt_m51.2.2.2.all (xw_dOk zt_z51.2.1) = true := by decide +kernel
set_option maxRecDepth 100000 in
theorem zt_d52_ok : zt_m52.2.2.2.all (xw_dOk zt_z52.2.1) = true := by decide +kernel
set_option maxRecDepth 100000 in
theorem zt_d85_ok : zt_m85.2.2.2.all (xw_dOk zt_z85.2.1) = true := by decide +kernel
set_option maxRecDepth 100000 in
theorem zt_d123_ok : zt_m123.2.2.2.all (xw_dOk zt_z123.2.1) = true := by decide +kernel
set_option maxRecDepth 100000 in
theorem zt_d125_ok : zt_m125.2.2.2.all (xw_dOk zt_z125.2.1) = true := by decide +kernel
set_option maxRecDepth 100000 in
theorem zt_d128_ok : zt_m128.2.2.2.all (xw_dOk zt_z128.2.1) = true := by decide +kernel
set_option maxRecDepth 100000 in
theorem zt_d210_ok : zt_m210.2.2.2.all (xw_dOk zt_z210.2.1) = true := by decide +kernel
set_option maxRecDepth 100000 in
theorem zt_d211_ok : zt_m211.2.2.2.all (xw_dOk zt_z211.2.1) = true := by decide +kernel
set_option maxRecDepth 100000 in
theorem zt_d244_ok : zt_m244.2.2.2.all (xw_dOk zt_z244.2.1) = true := by decide +kernel
set_option maxRecDepth 100000 in
theorem zt_d257_ok : zt_m257.2.2.2.all (xw_dOk zt_z257.2.1) = true := by decide +kernel
set_option maxRecDepth 100000 in
theorem zt_d271_ok : zt_m271.2.2.2.all (xw_dOk zt_z271.2.1) = true := by decide +kernel
set_option maxRecDepth 100000 in
theorem zt_d308_ok : zt_m308.2.2.2.all (xw_dOk zt_z308.2.1) = true := by decide +kernel
set_option maxRecDepth 100000 in
theorem zt_d53_ok : zt_m53.2.2.2.all (xw_dOk zt_z53.2.1) = true := by decide +kernel
set_option maxRecDepth 100000 in
theorem zt_d64_ok : zt_m64.2.2.2.all (xw_dOk zt_z64.2.1) = true := by decide +kernel
set_option maxRecDepth 100000 in
theorem zt_d83_ok : zt_m83.2.2.2.all (xw_dOk zt_z83.2.1) = true := by decide +kernel
set_option maxRecDepth 100000 in
theorem zt_d108_ok : zt_m108.2.2.2.all (xw_dOk zt_z108.2.1) = true := by decide +kernel
set_option maxRecDepth 100000 in
theorem zt_d171_ok : zt_m171.2.2.2.all (xw_dOk zt_z171.2.1) = true := by decide +kernel
set_option maxRecDepth 100000 in
theorem zt_d111_ok : zt_m111.2.2.2.all (xw_dOk zt_z111.2.1) = true := by decide +kernel
set_option maxRecDepth 100000 in
theorem zt_d124_ok : zt_m124.2.2.2.all (xw_dOk zt_z124.2.1) = true := by decide +kernel
set_option maxRecDepth 100000 in
theorem zt_d24_ok : zt_m24.2.2.2.all (xw_dOk zt_z24.2.1) = true := by decide +kernel
set_option maxRecDepth 100000 in
theorem zt_d278_ok : zt_m278.2.2.2.all (xw_dOk zt_z278.2.1) = true := by decide +kernel
set_option maxRecDepth 100000 in
theorem zt_d70_ok : zt_m70.2.2.2.all (xw_dOk zt_z70.2.1) = true := by decide +kernel
set_option maxRecDepth 100000 in
theorem zt_d71_ok : zt_m71.2.2.2.all (xw_dOk zt_z71.2.1) = true := by decide +kernel
set_option maxRecDepth 100000 in
theorem zt_d75_ok : zt_m75.2.2.2.all (xw_dOk zt_z75.2.1) = true := by decide +kernel
set_option maxRecDepth 100000 in
theorem zt_d78_ok : zt_m78.2.2.2.all (xw_dOk zt_z78.2.1) = true := by decide +kernel
set_option maxRecDepth 100000 in
theorem zt_d79_ok : zt_m79.2.2.2.all (xw_dOk zt_z79.2.1) = true := by decide +kernel
set_option maxRecDepth 100000 in
theorem zt_d84_ok : zt_m84.2.2.2.all (xw_dOk zt_z84.2.1) = true := by decide +kernel
set_option maxRecDepth 100000 in
theorem zt_d92_ok : zt_m92.2.2.2.all (xw_dOk zt_z92.2.1) = true := by decide +kernel
set_option maxRecDepth 100000 in
theorem zt_d93_ok : zt_m93.2.2.2.all (xw_dOk zt_z93.2.1) = true := by decide +kernel
set_option maxRecDepth 100000 in
theorem zt_d114_ok : zt_m114.2.2.2.all (xw_dOk zt_z114.2.1) = true := by decide +kernel
set_option maxRecDepth 100000 in
theorem zt_d217_ok : zt_m217.2.2.2.all (xw_dOk zt_z217.2.1) = true := by decide +kernel
set_option maxRecDepth 100000 in
theorem zt_d225_ok : zt_m225.2.2.2.all (xw_dOk zt_z225.2.1) = true := by decide +kernel
set_option maxRecDepth 100000 in
theorem zt_d254_ok : zt_m254.2.2.2.all (xw_dOk zt_z254.2.1) = true := by decide +kernel
set_option maxRecDepth 100000 in
theorem zt_d43_ok : zt_m43.2.2.2.all (xw_dOk zt_z43.2.1) = true := by decide +kernel
set_option maxRecDepth 100000 in
theorem zt_d58_ok : zt_m58.2.2.2.all (xw_dOk zt_z58.2.1) = true := by decide +kernel
set_option maxRecDepth 100000 in
theorem zt_d154_ok : zt_m154.2.2.2.all (xw_dOk zt_z154.2.1) = true := by decide +kernel
set_option maxRecDepth 100000 in
theorem zt_d115_ok : zt_m115.2.2.2.all (xw_dOk zt_z115.2.1) = true := by decide +kernel
set_option maxRecDepth 100000 in
theorem zt_d200_ok : zt_m200.2.2.2.all (xw_dOk zt_z200.2.1) = true := by decide +kernel
set_option maxRecDepth 100000 in
theorem zt_d215_ok : zt_m215.2.2.2.all (xw_dOk zt_z215.2.1) = true := by decide +kernel
set_option maxRecDepth 100000 in
theorem zt_d275_ok : zt_m275.2.2.2.all (xw_dOk zt_z275.2.1) = true := by decide +kernel
set_option maxRecDepth 100000 in
theorem zt_d296_ok : zt_m296.2.2.2.all (xw_dOk zt_z296.2.1) = true := by decide +kernel
set_option maxRecDepth 100000 in
theorem zt_d107_ok : zt_m107.2.2.2.all (xw_dOk zt_z107.2.1) = true := by decide +kernel
set_option maxRecDepth 100000 in
theorem zt_d113_ok : zt_m113.2.2.2.all (xw_dOk zt_z113.2.1) = true := by decide +kernel
set_option maxRecDepth 100000 in
theorem zt_d159_ok : zt_m159.2.2.2.all (xw_dOk zt_z159.2.1) = true := by decide +kernel
set_option maxRecDepth 100000 in
theorem zt_d181_ok : zt_m181.2.2.2.all (xw_dOk zt_z181.2.1) = true := by decide +kernel
set_option maxRecDepth 100000 in
theorem zt_d204_ok : zt_m204.2.2.2.all (xw_dOk zt_z204.2.1) = true := by decide +kernel
set_option maxRecDepth 100000 in
theorem zt_d259_ok : zt_m259.2.2.2.all (xw_dOk zt_z259.2.1) = true := by decide +kernel
set_option maxRecDepth 100000 in
theorem zt_d32_ok : zt_m32.2.2.2.all (xw_dOk zt_z32.2.1) = true := by decide +kernel
set_option maxRecDepth 100000 in
theorem zt_d63_ok : zt_m63.2.2.2.all (xw_dOk zt_z63.2.1) = true := by decide +kernel
set_option maxRecDepth 100000 in
theorem zt_d67_ok : zt_m67.2.2.2.all (xw_dOk zt_z67.2.1) = true := by decide +kernel
set_option maxRecDepth 100000 in
theorem zt_d74_ok : zt_m74.2.2.2.all (xw_dOk zt_z74.2.1) = true := by decide +kernel
set_option maxRecDepth 100000 in
theorem zt_d138_ok : zt_m138.2.2.2.all (xw_dOk zt_z138.2.1) = true := by decide +kernel
set_option maxRecDepth 100000 in
theorem zt_d197_ok : zt_m197.2.2.2.all (xw_dOk zt_z197.2.1) = true := by decide +kernel
set_option maxRecDepth 100000 in
theorem zt_d252_ok : zt_m252.2.2.2.all (xw_dOk zt_z252.2.1) = true := by decide +kernel
set_option maxRecDepth 100000 in
theorem zt_d66_ok : zt_m66.2.2.2.all (xw_dOk zt_z66.2.1) = true := by decide +kernel
set_option maxRecDepth 100000 in
theorem zt_d80_ok : zt_m80.2.2.2.all (xw_dOk zt_z80.2.1) = true := by decide +kernel
set_option maxRecDepth 100000 in
theorem zt_d8_ok : zt_m8.2.2.2.all (xw_dOk zt_z8.2.1) = true := by decide +kernel
set_option maxRecDepth 100000 in
theorem zt_dh_ok : zt_mh.2.2.2.all (xw_dOk zt_zh.2.1) = true := by decide +kernel
set_option maxRecDepth 100000 in
theorem zt_d156_ok : zt_m156.2.2.2.all (xw_dOk zt_z156.2.1) = true := by decide +kernel
set_option maxRecDepth 100000 in
theorem zt_d174_ok : zt_m174.2.2.2.all (xw_dOk zt_z174.2.1) = true := by decide +kernel
set_option maxRecDepth 100000 in
theorem zt_d279_ok : zt_m279.2.2.2.all (xw_dOk zt_z279.2.1) = true := by decide +kernel
set_option maxRecDepth 100000 in
theorem zt_d299_ok : zt_m299.2.2.2.all (xw_dOk zt_z299.2.1) = true := by decide +kernel
set_option maxRecDepth 100000 in
theorem zt_d48_ok : zt_m48.2.2.2.all (xw_dOk zt_z48.2.1) = true := by decide +kernel
set_option maxRecDepth 100000 in
theorem zt_d59_ok : zt_m59.2.2.2.all (xw_dOk zt_z59.2.1) = true := by decide +kernel
set_option maxRecDepth 100000 in
theorem zt_d69_ok : zt_m69.2.2.2.all (xw_dOk zt_z69.2.1) = true := by decide +kernel
set_option maxRecDepth 100000 in
theorem zt_d95_ok : zt_m95.2.2.2.all (xw_dOk zt_z95.2.1) = true := by decide +kernel
set_option maxRecDepth 100000 in
theorem zt_d98_ok : zt_m98.2.2.2.all (xw_dOk zt_z98.2.1) = true := by decide +kernel
set_option maxRecDepth 100000 in
theorem zt_d10_ok : zt_m10.2.2.2.all (xw_dOk zt_z10.2.1) = true := by decide +kernel
set_option maxRecDepth 100000 in
theorem zt_d136_ok : zt_m136.2.2.2.all (xw_dOk zt_z136.2.1) = true := by decide +kernel
set_option maxRecDepth 100000 in
theorem zt_d146_ok : zt_m146.2.2.2.all (xw_dOk zt_z146.2.1) = true := by decide +kernel
set_option maxRecDepth 100000 in
theorem zt_d157_ok : zt_m157.2.2.2.all (xw_dOk zt_z157.2.1) = true := by decide +kernel
set_option maxRecDepth 100000 in
theorem zt_d212_ok : zt_m212.2.2.2.all (xw_dOk zt_z212.2.1) = true := by decide +kernel
set_option maxRecDepth 100000 in
theorem zt_d234_ok : zt_m234.2.2.2.all (xw_dOk zt_z234.2.1) = true := by decide +kernel
set_option maxRecDepth 100000 in
theorem zt_d235_ok : zt_m235.2.2.2.all (xw_dOk zt_z235.2.1) = true := by decide +kernel
set_option maxRecDepth 100000 in
theorem zt_d37_ok : zt_m37.2.2.2.all (xw_dOk zt_z37.2.1) = true := by decide +kernel
set_option maxRecDepth 100000 in
theorem zt_d60_ok : zt_m60.2.2.2.all (xw_dOk zt_z60.2.1) = true := by decide +kernel
set_option maxRecDepth 100000 in
theorem zt_d131_ok : zt_m131.2.2.2.all (xw_dOk zt_z131.2.1) = true := by decide +kernel
set_option maxRecDepth 100000 in
theorem zt_d164_ok : zt_m164.2.2.2.all (xw_dOk zt_z164.2.1) = true := by decide +kernel
set_option maxRecDepth 100000 in
theorem zt_d232_ok : zt_m232.2.2.2.all (xw_dOk zt_z232.2.1) = true := by decide +kernel
set_option maxRecDepth 100000 in
theorem zt_d233_ok : zt_m233.2.2.2.all (xw_dOk zt_z233.2.1) = true := by decide +kernel
set_option maxRecDepth 100000 in
theorem zt_d238_ok : zt_m238.2.2.2.all (xw_dOk zt_z238.2.1) = true := by decide +kernel
set_option maxRecDepth 100000 in
theorem zt_d35_ok : zt_m35.2.2.2.all (xw_dOk zt_z35.2.1) = true := by decide +kernel
set_option maxRecDepth 100000 in
theorem zt_d87_ok : zt_m87.2.2.2.all (xw_dOk zt_z87.2.1) = true := by decide +kernel
set_option maxRecDepth 100000 in
theorem zt_d88_ok : zt_m88.2.2.2.all (xw_dOk zt_z88.2.1) = true := by decide +kernel
set_option maxRecDepth 100000 in
theorem zt_d152_ok : zt_m152.2.2.2.all (xw_dOk zt_z152.2.1) = true := by decide +kernel
set_option maxRecDepth 100000 in
theorem zt_d167_ok : zt_m167.2.2.2.all (xw_dOk zt_z167.2.1) = true := by decide +kernel
set_option maxRecDepth 100000 in
theorem zt_d297_ok : zt_m297.2.2.2.all (xw_dOk zt_z297.2.1) = true := by decide +kernel
set_option maxRecDepth 100000 in
theorem zt_d134_ok : zt_m134.2.2.2.all (xw_dOk zt_z134.2.1) = true := by decide +kernel
set_option maxRecDepth 100000 in
theorem zt_d175_ok : zt_m175.2.2.2.all (xw_dOk zt_z175.2.1) = true := by decide +kernel
set_option maxRecDepth 100000 in
theorem zt_d180_ok : zt_m180.2.2.2.all (xw_dOk zt_z180.2.1) = true := by decide +kernel
set_option maxRecDepth 100000 in
theorem zt_d205_ok : zt_m205.2.2.2.all (xw_dOk zt_z205.2.1) = true := by decide +kernel
set_option maxRecDepth 100000 in
theorem zt_d245_ok : zt_m245.2.2.2.all (xw_dOk zt_z245.2.1) = true := by decide +kernel
set_option maxRecDepth 100000 in
theorem zt_d261_ok : zt_m261.2.2.2.all (xw_dOk zt_z261.2.1) = true := by decide +kernel
set_option maxRecDepth 100000 in
theorem zt_d263_ok : zt_m263.2.2.2.all (xw_dOk zt_z263.2.1) = true := by decide +kernel
set_option maxRecDepth 100000 in
theorem zt_d119_ok : zt_m119.2.2.2.all (xw_dOk zt_z119.2.1) = true := by decide +kernel
set_option maxRecDepth 100000 in
theorem zt_d207_ok : zt_m207.2.2.2.all (xw_dOk zt_z207.2.1) = true := by decide +kernel
set_option maxRecDepth 100000 in
theorem zt_d3_ok : zt_m3.2.2.2.all (xw_dOk zt_z3.2.1) = true := by decide +kernel
set_option maxRecDepth 100000 in
theorem zt_d72_ok : zt_m72.2.2.2.all (xw_dOk zt_z72.2.1) = true := by decide +kernel
set_option maxRecDepth 100000 in
theorem zt_d14_ok : zt_m14.2.2.2.all (xw_dOk zt_z14.2.1) = true := by decide +kernel
set_option maxRecDepth 100000 in
theorem zt_d218_ok : zt_m218.2.2.2.all (xw_dOk zt_z218.2.1) = true := by decide +kernel
set_option maxRecDepth 100000 in
theorem zt_d227_ok : zt_m227.2.2.2.all (xw_dOk zt_z227.2.1) = true := by decide +kernel
set_option maxRecDepth 100000 in
theorem zt_d228_ok : zt_m228.2.2.2.all (xw_dOk zt_z228.2.1) = true := by decide +kernel
set_option maxRecDepth 100000 in
theorem zt_d251_ok : zt_m251.2.2.2.all (xw_dOk zt_z251.2.1) = true := by decide +kernel
set_option maxRecDepth 100000 in
theorem zt_d283_ok : zt_m283.2.2.2.all (xw_dOk zt_z283.2.1) = true := by decide +kernel
set_option maxRecDepth 100000 in
theorem zt_d40_ok : zt_m40.2.2.2.all (xw_dOk zt_z40.2.1) = true := by decide +kernel
set_option maxRecDepth 100000 in
theorem zt_d56_ok : zt_m56.2.2.2.all (xw_dOk zt_z56.2.1) = true := by decide +kernel
set_option maxRecDepth 100000 in
theorem zt_d201_ok : zt_m201.2.2.2.all (xw_dOk zt_z201.2.1) = true := by decide +kernel
set_option maxRecDepth 100000 in
theorem zt_d236_ok : zt_m236.2.2.2.all (xw_dOk zt_z236.2.1) = true := by decide +kernel
set_option maxRecDepth 100000 in
theorem zt_d239_ok : zt_m239.2.2.2.all (xw_dOk zt_z239.2.1) = true := by decide +kernel
set_option maxRecDepth 100000 in
theorem zt_d240_ok : zt_m240.2.2.2.all (xw_dOk zt_z240.2.1) = true := by decide +kernel
set_option maxRecDepth 100000 in
theorem zt_d256_ok : zt_m256.2.2.2.all (xw_dOk zt_z256.2.1) = true := by decide +kernel
set_option maxRecDepth 100000 in
theorem zt_d276_ok : zt_m276.2.2.2.all (xw_dOk zt_z276.2.1) = true := by decide +kernel
set_option maxRecDepth 100000 in
theorem zt_d300_ok : zt_m300.2.2.2.all (xw_dOk zt_z300.2.1) = true := by decide +kernel
set_option maxRecDepth 100000 in
theorem zt_d301_ok : zt_m301.2.2.2.all (xw_dOk zt_z301.2.1) = true := by decide +kernel
set_option maxRecDepth 100000 in
theorem zt_d76_ok : zt_m76.2.2.2.all (xw_dOk zt_z76.2.1) = true := by decide +kernel
set_option maxRecDepth 100000 in
theorem zt_d133_ok : zt_m133.2.2.2.all (xw_dOk zt_z133.2.1) = true := by decide +kernel
set_option maxRecDepth 100000 in
theorem zt_d194_ok : zt_m194.2.2.2.all (xw_dOk zt_z194.2.1) = true := by decide +kernel
set_option maxRecDepth 100000 in
theorem zt_d237_ok : zt_m237.2.2.2.all (xw_dOk zt_z237.2.1) = true := by decide +kernel
set_option maxRecDepth 100000 in
theorem zt_d247_ok : zt_m247.2.2.2.all (xw_dOk zt_z247.2.1) = true := by decide +kernel
set_option maxRecDepth 100000 in
theorem zt_d94_ok : zt_m94.2.2.2.all (xw_dOk zt_z94.2.1) = true := by decide +kernel
set_option maxRecDepth 100000 in
theorem zt_d231_ok : zt_m231.2.2.2.all (xw_dOk zt_z231.2.1) = true := by decide +kernel
set_option maxRecDepth 100000 in
theorem zt_d41_ok : zt_m41.2.2.2.all (xw_dOk zt_z41.2.1) = true := by decide +kernel
set_option maxRecDepth 100000 in
theorem zt_d62_ok : zt_m62.2.2.2.all (xw_dOk zt_z62.2.1) = true := by decide +kernel
set_option maxRecDepth 100000 in
theorem zt_d151_ok : zt_m151.2.2.2.all (xw_dOk zt_z151.2.1) = true := by decide +kernel
set_option maxRecDepth 100000 in
theorem zt_d57_ok : zt_m57.2.2.2.all (xw_dOk zt_z57.2.1) = true := by decide +kernel
set_option maxRecDepth 100000 in
theorem zt_d97_ok : zt_m97.2.2.2.all (xw_dOk zt_z97.2.1) = true := by decide +kernel
set_option maxRecDepth 100000 in
theorem zt_d13_ok : zt_m13.2.2.2.all (xw_dOk zt_z13.2.1) = true := by decide +kernel
set_option maxRecDepth 100000 in
theorem zt_d186_ok : zt_m186.2.2.2.all (xw_dOk zt_z186.2.1) = true := by decide +kernel
set_option maxRecDepth 100000 in
theorem zt_d213_ok : zt_m213.2.2.2.all (xw_dOk zt_z213.2.1) = true := by decide +kernel
set_option maxRecDepth 100000 in
theorem zt_d224_ok : zt_m224.2.2.2.all (xw_dOk zt_z224.2.1) = true := by decide +kernel
set_option maxRecDepth 100000 in
theorem zt_d273_ok : zt_m273.2.2.2.all (xw_dOk zt_z273.2.1) = true := by decide +kernel
set_option maxRecDepth 100000 in
theorem zt_d46_ok : zt_m46.2.2.2.all (xw_dOk zt_z46.2.1) = true := by decide +kernel
set_option maxRecDepth 100000 in
theorem zt_d91_ok : zt_m91.2.2.2.all (xw_dOk zt_z91.2.1) = true := by decide +kernel
set_option maxRecDepth 100000 in
theorem zt_d130_ok : zt_m130.2.2.2.all (xw_dOk zt_z130.2.1) = true := by decide +kernel
set_option maxRecDepth 100000 in
theorem zt_d168_ok : zt_m168.2.2.2.all (xw_dOk zt_z168.2.1) = true := by decide +kernel
set_option maxRecDepth 100000 in
theorem zt_d230_ok : zt_m230.2.2.2.all (xw_dOk zt_z230.2.1) = true := by decide +kernel
set_option maxRecDepth 100000 in
theorem zt_d9_ok : zt_m9.2.2.2.all (xw_dOk zt_z9.2.1) = true := by decide +kernel
set_option maxRecDepth 100000 in
theorem zt_d1_ok : zt_m1.2.2.2.all (xw_dOk zt_z1.2.1) = true := by decide +kernel
set_option maxRecDepth 100000 in
theorem zt_d206_ok : zt_m206.2.2.2.all (xw_dOk zt_z206.2.1) = true := by decide +kernel
set_option maxRecDepth 100000 in
theorem zt_d109_ok : zt_m109.2.2.2.all (xw_dOk zt_z109.2.1) = true := by decide +kernel
set_option maxRecDepth 100000 in
theorem zt_d19_ok : zt_m19.2.2.2.all (xw_dOk zt_z19.2.1) = true := by decide +kernel
set_option maxRecDepth 100000 in
theorem zt_d203_ok : zt_m203.2.2.2.all (xw_dOk zt_z203.2.1) = true := by decide +kernel
set_option maxRecDepth 100000 in
theorem zt_d20_ok : zt_m20.2.2.2.all (xw_dOk zt_z20.2.1) = true := by decide +kernel
set_option maxRecDepth 100000 in
theorem zt_d222_ok : zt_m222.2.2.2.all (xw_dOk zt_z222.2.1) = true := by decide +kernel
set_option maxRecDepth 100000 in
theorem zt_d2_ok : zt_m2.2.2.2.all (xw_dOk zt_z2.2.1) = true := by decide +kernel
set_option maxRecDepth 100000 in
theorem zt_d39_ok : zt_m39.2.2.2.all (xw_dOk zt_z39.2.1) = true := by decide +kernel
set_option maxRecDepth 100000 in
theorem zt_d144_ok : zt_m144.2.2.2.all (xw_dOk zt_z144.2.1) = true := by decide +kernel
set_option maxRecDepth 100000 in
theorem zt_d173_ok : zt_m173.2.2.2.all (xw_dOk zt_z173.2.1) = true := by decide +kernel
set_option maxRecDepth 100000 in
theorem zt_d196_ok : zt_m196.2.2.2.all (xw_dOk zt_z196.2.1) = true := by decide +kernel
set_option maxRecDepth 100000 in
theorem zt_d260_ok : zt_m260.2.2.2.all (xw_dOk zt_z260.2.1) = true := by decide +kernel
set_option maxRecDepth 100000 in
theorem zt_d50_ok : zt_m50.2.2.2.all (xw_dOk zt_z50.2.1) = true := by decide +kernel
set_option maxRecDepth 100000 in
theorem zt_d135_ok : zt_m135.2.2.2.all (xw_dOk zt_z135.2.1) = true := by decide +kernel
set_option maxRecDepth 100000 in
theorem zt_d165_ok : zt_m165.2.2.2.all (xw_dOk zt_z165.2.1) = true := by decide +kernel
set_option maxRecDepth 100000 in
theorem zt_d179_ok : zt_m179.2.2.2.all (xw_dOk zt_z179.2.1) = true := by decide +kernel
set_option maxRecDepth 100000 in
theorem zt_d219_ok : zt_m219.2.2.2.all (xw_dOk zt_z219.2.1) = true := by decide +kernel
set_option maxRecDepth 100000 in
theorem zt_d150_ok : zt_m150.2.2.2.all (xw_dOk zt_z150.2.1) = true := by decide +kernel
set_option maxRecDepth 100000 in
theorem zt_d270_ok : zt_m270.2.2.2.all (xw_dOk zt_z270.2.1) = true := by decide +kernel
set_option maxRecDepth 100000 in
theorem zt_d42_ok : zt_m42.2.2.2.all (xw_dOk zt_z42.2.1) = true := by decide +kernel
set_option maxRecDepth 100000 in
theorem zt_d55_ok : zt_m55.2.2.2.all (xw_dOk zt_z55.2.1) = true := by decide +kernel
set_option maxRecDepth 100000 in
theorem zt_d16_ok : zt_m16.2.2.2.all (xw_dOk zt_z16.2.1) = true := by decide +kernel
set_option maxRecDepth 100000 in
theorem zt_d47_ok : zt_m47.2.2.2.all (xw_dOk zt_z47.2.1) = true := by decide +kernel
set_option maxRecDepth 100000 in
theorem zt_d293_ok : zt_m293.2.2.2.all (xw_dOk zt_z293.2.1) = true := by decide +kernel
set_option maxRecDepth 100000 in
theorem zt_d305_ok : zt_m305.2.2.2.all (xw_dOk zt_z305.2.1) = true := by decide +kernel
set_option maxRecDepth 100000 in
theorem zt_d77_ok : zt_m77.2.2.2.all (xw_dOk zt_z77.2.1) = true := by decide +kernel
set_option maxRecDepth 100000 in
theorem zt_d127_ok : zt_m127.2.2.2.all (xw_dOk zt_z127.2.1) = true := by decide +kernel
set_option maxRecDepth 100000 in
theorem zt_d149_ok : zt_m149.2.2.2.all (xw_dOk zt_z149.2.1) = true := by decide +kernel
set_option maxRecDepth 100000 in
theorem zt_d264_ok : zt_m264.2.2.2.all (xw_dOk zt_z264.2.1) = true := by decide +kernel
set_option maxRecDepth 100000 in
theorem zt_d54_ok : zt_m54.2.2.2.all (xw_dOk zt_z54.2.1) = true := by decide +kernel
set_option maxRecDepth 100000 in
theorem zt_d266_ok : zt_m266.2.2.2.all (xw_dOk zt_z266.2.1) = true := by decide +kernel
set_option maxRecDepth 100000 in
theorem zt_d141_ok : zt_m141.2.2.2.all (xw_dOk zt_z141.2.1) = true := by decide +kernel
set_option maxRecDepth 100000 in
theorem zt_d148_ok : zt_m148.2.2.2.all (xw_dOk zt_z148.2.1) = true := by decide +kernel
set_option maxRecDepth 100000 in
theorem zt_d262_ok : zt_m262.2.2.2.all (xw_dOk zt_z262.2.1) = true := by decide +kernel
set_option maxRecDepth 100000 in
theorem zt_d303_ok : zt_m303.2.2.2.all (xw_dOk zt_z303.2.1) = true := by decide +kernel
set_option maxRecDepth 100000 in
theorem zt_d21_ok : zt_m21.2.2.2.all (xw_dOk zt_z21.2.1) = true := by decide +kernel
set_option maxRecDepth 100000 in
theorem zt_d289_ok : zt_m289.2.2.2.all (xw_dOk zt_z289.2.1) = true := by decide +kernel
set_option maxRecDepth 100000 in
theorem zt_d302_ok : zt_m302.2.2.2.all (xw_dOk zt_z302.2.1) = true := by decide +kernel
set_option maxRecDepth 100000 in
theorem zt_d96_ok : zt_m96.2.2.2.all (xw_dOk zt_z96.2.1) = true := by decide +kernel
set_option maxRecDepth 100000 in
theorem zt_d118_ok : zt_m118.2.2.2.all (xw_dOk zt_z118.2.1) = true := by decide +kernel
set_option maxRecDepth 100000 in
theorem zt_d169_ok : zt_m169.2.2.2.all (xw_dOk zt_z169.2.1) = true := by decide +kernel
set_option maxRecDepth 100000 in
theorem zt_d190_ok : zt_m190.2.2.2.all (xw_dOk zt_z190.2.1) = true := by decide +kernel
set_option maxRecDepth 100000 in
theorem zt_d220_ok : zt_m220.2.2.2.all (xw_dOk zt_z220.2.1) = true := by decide +kernel
set_option maxRecDepth 100000 in
theorem zt_d241_ok : zt_m241.2.2.2.all (xw_dOk zt_z241.2.1) = true := by decide +kernel
set_option maxRecDepth 100000 in
theorem zt_d25_ok : zt_m25.2.2.2.all (xw_dOk zt_z25.2.1) = true := by decide +kernel
set_option maxRecDepth 100000 in
theorem zt_d49_ok : zt_m49.2.2.2.all (xw_dOk zt_z49.2.1) = true := by decide +kernel
set_option maxRecDepth 100000 in
theorem zt_d112_ok : zt_m112.2.2.2.all (xw_dOk zt_z112.2.1) = true := by decide +kernel
set_option maxRecDepth 100000 in
theorem zt_d153_ok : zt_m153.2.2.2.all (xw_dOk zt_z153.2.1) = true := by decide +kernel
set_option maxRecDepth 100000 in
theorem zt_d265_ok : zt_m265.2.2.2.all (xw_dOk zt_z265.2.1) = true := by decide +kernel
set_option maxRecDepth 100000 in
theorem zt_d274_ok : zt_m274.2.2.2.all (xw_dOk zt_z274.2.1) = true := by decide +kernel
set_option maxRecDepth 100000 in
theorem zt_d45_ok : zt_m45.2.2.2.all (xw_dOk zt_z45.2.1) = true := by decide +kernel
set_option maxRecDepth 100000 in
theorem zt_d110_ok : zt_m110.2.2.2.all (xw_dOk zt_z110.2.1) = true := by decide +kernel
set_option maxRecDepth 100000 in
theorem zt_d191_ok : zt_m191.2.2.2.all (xw_dOk zt_z191.2.1) = true := by decide +kernel
set_option maxRecDepth 100000 in
theorem zt_d106_ok : zt_m106.2.2.2.all (xw_dOk zt_z106.2.1) = true := by decide +kernel
set_option maxRecDepth 100000 in
theorem zt_d132_ok : zt_m132.2.2.2.all (xw_dOk zt_z132.2.1) = true := by decide +kernel
set_option maxRecDepth 100000 in
theorem zt_d15_ok : zt_m15.2.2.2.all (xw_dOk zt_z15.2.1) = true := by decide +kernel
set_option maxRecDepth 100000 in
theorem zt_d269_ok : zt_m269.2.2.2.all (xw_dOk zt_z269.2.1) = true := by decide +kernel
set_option maxRecDepth 100000 in
theorem zt_d277_ok : zt_m277.2.2.2.all (xw_dOk zt_z277.2.1) = true := by decide +kernel
set_option maxRecDepth 100000 in
theorem zt_d272_ok : zt_m272.2.2.2.all (xw_dOk zt_z272.2.1) = true := by decide +kernel
set_option maxRecDepth 100000 in
theorem zt_d295_ok : zt_m295.2.2.2.all (xw_dOk zt_z295.2.1) = true := by decide +kernel
set_option maxRecDepth 100000 in
theorem zt_d99_ok : zt_m99.2.2.2.all (xw_dOk zt_z99.2.1) = true := by decide +kernel
set_option maxRecDepth 100000 in
theorem zt_d129_ok : zt_m129.2.2.2.all (xw_dOk zt_z129.2.1) = true := by decide +kernel

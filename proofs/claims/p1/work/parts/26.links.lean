set_option maxRecDepth 100000 in
theorem zt_k0_ok : xw_kOk zt_nest zt_cl zt_ct zt_at zt_sct zt_strs zt_ys zt_kds "EggGarden$Child" zt_K0 = true := by decide +kernel
set_option maxRecDepth 100000 in
theorem zt_k1_ok : xw_kOk zt_nest zt_cl zt_ct zt_at zt_sct zt_strs zt_ys zt_kds "EggGarden$Egg" zt_K1 = true := by decide +kernel
set_option maxRecDepth 100000 in
theorem zt_k2_ok : xw_kOk zt_nest zt_cl zt_ct zt_at zt_sct zt_strs zt_ys zt_kds "EggGarden$Formula" zt_K2 = true := by decide +kernel
set_option maxRecDepth 100000 in
theorem zt_k3_ok : xw_kOk zt_nest zt_cl zt_ct zt_at zt_sct zt_strs zt_ys zt_kds "EggGarden$Laws" zt_K3 = true := by decide +kernel
set_option maxRecDepth 100000 in
theorem zt_k4_ok : xw_kOk zt_nest zt_cl zt_ct zt_at zt_sct zt_strs zt_ys zt_kds "EggGarden$Morning" zt_K4 = true := by decide +kernel
set_option maxRecDepth 100000 in
theorem zt_k5_ok : xw_kOk zt_nest zt_cl zt_ct zt_at zt_sct zt_strs zt_ys zt_kds "EggGarden$Plan" zt_K5 = true := by decide +kernel
set_option maxRecDepth 100000 in
theorem zt_k6_ok : xw_kOk zt_nest zt_cl zt_ct zt_at zt_sct zt_strs zt_ys zt_kds "EggGarden$Reader" zt_K6 = true := by decide +kernel
set_option maxRecDepth 100000 in
theorem zt_k7_ok : xw_kOk zt_nest zt_cl zt_ct zt_at zt_sct zt_strs zt_ys zt_kds "EggGarden$Seen" zt_K7 = true := by decide +kernel
set_option maxRecDepth 100000 in
theorem zt_k8_ok : xw_kOk zt_nest zt_cl zt_ct zt_at zt_sct zt_strs zt_ys zt_kds "EggGarden$Tokens" zt_K8 = true := by decide +kernel
set_option maxRecDepth 100000 in
theorem zt_k9_ok : xw_kOk zt_nest zt_cl zt_ct zt_at zt_sct zt_strs zt_ys zt_kds "EggGarden$Trials" zt_K9 = true := by decide +kernel
set_option maxRecDepth 100000 in
theorem zt_k10_ok : xw_kOk zt_nest zt_cl zt_ct zt_at zt_sct zt_strs zt_ys zt_kds "EggGarden$Undoing" zt_K10 = true := by decide +kernel
set_option maxRecDepth 100000 in
theorem zt_k11_ok : xw_kOk zt_nest zt_cl zt_ct zt_at zt_sct zt_strs zt_ys zt_kds "EggGarden" zt_K11 = true := by decide +kernel
set_option maxRecDepth 100000 in
theorem zt_k12_ok : xw_kOk zt_nest zt_cl zt_ct zt_at zt_sct zt_strs zt_ys zt_kds "EggGardenModel" zt_K12 = true := by decide +kernel
set_option maxRecDepth 100000 in
theorem zt_kL_ok : xw_kOk zt_nest zt_cl zt_ct zt_at zt_sct zt_strs zt_ys zt_kds "EggGardenLaw" zt_KL = true := by decide +kernel
theorem zt_o0_ok : xw_oOk zt_cl zt_m0 zt_z0 = true := by decide +kernel
theorem zt_o1_ok : xw_oOk zt_cl zt_m1 zt_z1 = true := by decide +kernel
theorem zt_o2_ok : xw_oOk zt_cl zt_m2 zt_z2 = true := by decide +kernel
theorem zt_o3_ok : xw_oOk zt_cl zt_m3 zt_z3 = true := by decide +kernel
theorem zt_o4_ok : xw_oOk zt_cl zt_m4 zt_z4 = true := by decide +kernel
theorem zt_o5_ok : xw_oOk zt_cl zt_m5 zt_z5 = true := by decide +kernel
theorem zt_o6_ok : xw_oOk zt_cl zt_m6 zt_z6 = true := by decide +kernel
theorem zt_o7_ok : xw_oOk zt_cl zt_m7 zt_z7 = true := by decide +kernel
theorem zt_o8_ok : xw_oOk zt_cl zt_m8 zt_z8 = true := by decide +kernel
theorem zt_o9_ok : xw_oOk zt_cl zt_m9 zt_z9 = true := by decide +kernel
theorem zt_o10_ok : xw_oOk zt_cl zt_m10 zt_z10 = true := by decide +kernel
theorem zt_o11_ok : xw_oOk zt_cl zt_m11 zt_z11 = true := by decide +kernel
theorem zt_o12_ok : xw_oOk zt_cl zt_m12 zt_z12 = true := by decide +kernel
theorem zt_o13_ok : xw_oOk zt_cl zt_m13 zt_z13 = true := by decide +kernel
theorem zt_o14_ok : xw_oOk zt_cl zt_m14 zt_z14 = true := by decide +kernel
theorem zt_o15_ok : xw_oOk zt_cl zt_m15 zt_z15 = true := by decide +kernel
theorem zt_o16_ok : xw_oOk zt_cl zt_m16 zt_z16 = true := by decide +kernel
theorem zt_o17_ok : xw_oOk zt_cl zt_m17 zt_z17 = true := by decide +kernel
theorem zt_o18_ok : xw_oOk zt_cl zt_m18 zt_z18 = true := by decide +kernel
theorem zt_o19_ok : xw_oOk zt_cl zt_m19 zt_z19 = true := by decide +kernel
theorem zt_o20_ok : xw_oOk zt_cl zt_m20 zt_z20 = true := by decide +kernel
theorem zt_o21_ok : xw_oOk zt_cl zt_m21 zt_z21 = true := by decide +kernel
theorem zt_o22_ok : xw_oOk zt_cl zt_m22 zt_z22 = true := by decide +kernel
theorem zt_o23_ok : xw_oOk zt_cl zt_m23 zt_z23 = true := by decide +kernel
theorem zt_o24_ok : xw_oOk zt_cl zt_m24 zt_z24 = true := by decide +kernel
theorem zt_o25_ok : xw_oOk zt_cl zt_m25 zt_z25 = true := by decide +kernel
theorem zt_o26_ok : xw_oOk zt_cl zt_m26 zt_z26 = true := by decide +kernel
theorem zt_o27_ok : xw_oOk zt_cl zt_m27 zt_z27 = true := by decide +kernel
theorem zt_o28_ok : xw_oOk zt_cl zt_m28 zt_z28 = true := by decide +kernel
theorem zt_o29_ok : xw_oOk zt_cl zt_m29 zt_z29 = true := by decide +kernel
theorem zt_o30_ok : xw_oOk zt_cl zt_m30 zt_z30 = true := by decide +kernel
theorem zt_o31_ok : xw_oOk zt_cl zt_m31 zt_z31 = true := by decide +kernel
theorem zt_o32_ok : xw_oOk zt_cl zt_m32 zt_z32 = true := by decide +kernel
theorem zt_o33_ok : xw_oOk zt_cl zt_m33 zt_z33 = true := by decide +kernel
theorem zt_o34_ok : xw_oOk zt_cl zt_m34 zt_z34 = true := by decide +kernel
theorem zt_o35_ok : xw_oOk zt_cl zt_m35 zt_z35 = true := by decide +kernel
theorem zt_o36_ok : xw_oOk zt_cl zt_m36 zt_z36 = true := by decide +kernel
theorem zt_o37_ok : xw_oOk zt_cl zt_m37 zt_z37 = true := by decide +kernel
theorem zt_o38_ok : xw_oOk zt_cl zt_m38 zt_z38 = true := by decide +kernel
theorem zt_o39_ok : xw_oOk zt_cl zt_m39 zt_z39 = true := by decide +kernel
theorem zt_o40_ok : xw_oOk zt_cl zt_m40 zt_z40 = true := by decide +kernel
theorem zt_o41_ok : xw_oOk zt_cl zt_m41 zt_z41 = true := by decide +kernel
theorem zt_o42_ok : xw_oOk zt_cl zt_m42 zt_z42 = true := by decide +kernel
theorem zt_o43_ok : xw_oOk zt_cl zt_m43 zt_z43 = true := by decide +kernel
theorem zt_o44_ok : xw_oOk zt_cl zt_m44 zt_z44 = true := by decide +kernel
theorem zt_o45_ok : xw_oOk zt_cl zt_m45 zt_z45 = true := by decide +kernel
theorem zt_o46_ok : xw_oOk zt_cl zt_m46 zt_z46 = true := by decide +kernel
theorem zt_o47_ok : xw_oOk zt_cl zt_m47 zt_z47 = true := by decide +kernel
theorem zt_o48_ok : xw_oOk zt_cl zt_m48 zt_z48 = true := by decide +kernel
theorem zt_o49_ok : xw_oOk zt_cl zt_m49 zt_z49 = true := by decide +kernel
theorem zt_o50_ok : xw_oOk zt_cl zt_m50 zt_z50 = true := by decide +kernel
theorem zt_o51_ok : xw_oOk zt_cl zt_m51 zt_z51 = true := by decide +kernel
theorem zt_o52_ok : xw_oOk zt_cl zt_m52 zt_z52 = true := by decide +kernel
theorem zt_o53_ok : xw_oOk zt_cl zt_m53 zt_z53 = true := by decide +kernel
theorem zt_o54_ok : xw_oOk zt_cl zt_m54 zt_z54 = true := by decide +kernel
theorem zt_o55_ok : xw_oOk zt_cl zt_m55 zt_z55 = true := by decide +kernel
theorem zt_o56_ok : xw_oOk zt_cl zt_m56 zt_z56 = true := by decide +kernel
theorem zt_o57_ok : xw_oOk zt_cl zt_m57 zt_z57 = true := by decide +kernel
theorem zt_o58_ok : xw_oOk zt_cl zt_m58 zt_z58 = true := by decide +kernel
theorem zt_o59_ok : xw_oOk zt_cl zt_m59 zt_z59 = true := by decide +kernel
theorem zt_o60_ok : xw_oOk zt_cl zt_m60 zt_z60 = true := by decide +kernel
theorem zt_o61_ok : xw_oOk zt_cl zt_m61 zt_z61 = true := by decide +kernel
theorem zt_o62_ok : xw_oOk zt_cl zt_m62 zt_z62 = true := by decide +kernel
theorem zt_o63_ok : xw_oOk zt_cl zt_m63 zt_z63 = true := by decide +kernel
theorem zt_o64_ok : xw_oOk zt_cl zt_m64 zt_z64 = true := by decide +kernel
theorem zt_o65_ok : xw_oOk zt_cl zt_m65 zt_z65 = true := by decide +kernel
theorem zt_o66_ok : xw_oOk zt_cl zt_m66 zt_z66 = true := by decide +kernel
theorem zt_o67_ok : xw_oOk zt_cl zt_m67 zt_z67 = true := by decide +kernel
theorem zt_o68_ok : xw_oOk zt_cl zt_m68 zt_z68 = true := by decide +kernel
theorem zt_o69_ok : xw_oOk zt_cl zt_m69 zt_z69 = true := by decide +kernel
theorem zt_o70_ok : xw_oOk zt_cl zt_m70 zt_z70 = true := by decide +kernel
theorem zt_o71_ok : xw_oOk zt_cl zt_m71 zt_z71 = true := by decide +kernel
theorem zt_o72_ok : xw_oOk zt_cl zt_m72 zt_z72 = true := by decide +kernel
theorem zt_o73_ok : xw_oOk zt_cl zt_m73 zt_z73 = true := by decide +kernel
theorem zt_o74_ok : xw_oOk zt_cl zt_m74 zt_z74 = true := by decide +kernel
theorem zt_o75_ok : xw_oOk zt_cl zt_m75 zt_z75 = true := by decide +kernel
theorem zt_o76_ok : xw_oOk zt_cl zt_m76 zt_z76 = true := by decide +kernel
theorem zt_o77_ok : xw_oOk zt_cl zt_m77 zt_z77 = true := by decide +kernel
theorem zt_o78_ok : xw_oOk zt_cl zt_m78 zt_z78 = true := by decide +kernel
theorem zt_o79_ok : xw_oOk zt_cl zt_m79 zt_z79 = true := by decide +kernel
theorem zt_o80_ok : xw_oOk zt_cl zt_m80 zt_z80 = true := by decide +kernel
theorem zt_o81_ok : xw_oOk zt_cl zt_m81 zt_z81 = true := by decide +kernel
theorem zt_o82_ok : xw_oOk zt_cl zt_m82 zt_z82 = true := by decide +kernel
theorem zt_o83_ok : xw_oOk zt_cl zt_m83 zt_z83 = true := by decide +kernel
theorem zt_o84_ok : xw_oOk zt_cl zt_m84 zt_z84 = true := by decide +kernel
theorem zt_o85_ok : xw_oOk zt_cl zt_m85 zt_z85 = true := by decide +kernel
theorem zt_o86_ok : xw_oOk zt_cl zt_m86 zt_z86 = true := by decide +kernel
theorem zt_o87_ok : xw_oOk zt_cl zt_m87 zt_z87 = true := by decide +kernel
theorem zt_o88_ok : xw_oOk zt_cl zt_m88 zt_z88 = true := by decide +kernel
theorem zt_o89_ok : xw_oOk zt_cl zt_m89 zt_z89 = true := by decide +kernel
theorem zt_o90_ok : xw_oOk zt_cl zt_m90 zt_z90 = true := by decide +kernel
theorem zt_o91_ok : xw_oOk zt_cl zt_m91 zt_z91 = true := by decide +kernel
theorem zt_o92_ok : xw_oOk zt_cl zt_m92 zt_z92 = true := by decide +kernel
theorem zt_o93_ok : xw_oOk zt_cl zt_m93 zt_z93 = true := by decide +kernel
theorem zt_o94_ok : xw_oOk zt_cl zt_m94 zt_z94 = true := by decide +kernel
theorem zt_o95_ok : xw_oOk zt_cl zt_m95 zt_z95 = true := by decide +kernel
theorem zt_o96_ok : xw_oOk zt_cl zt_m96 zt_z96 = true := by decide +kernel
theorem zt_o97_ok : xw_oOk zt_cl zt_m97 zt_z97 = true := by decide +kernel
theorem zt_o98_ok : xw_oOk zt_cl zt_m98 zt_z98 = true := by decide +kernel
theorem zt_o99_ok : xw_oOk zt_cl zt_m99 zt_z99 = true := by decide +kernel
theorem zt_o100_ok : xw_oOk zt_cl zt_m100 zt_z100 = true := by decide +kernel
theorem zt_o101_ok : xw_oOk zt_cl zt_m101 zt_z101 = true := by decide +kernel
theorem zt_o102_ok : xw_oOk zt_cl zt_m102 zt_z102 = true := by decide +kernel
theorem zt_o103_ok : xw_oOk zt_cl zt_m103 zt_z103 = true := by decide +kernel
theorem zt_o104_ok : xw_oOk zt_cl zt_m104 zt_z104 = true := by decide +kernel
theorem zt_o105_ok : xw_oOk zt_cl zt_m105 zt_z105 = true := by decide +kernel
theorem zt_o106_ok : xw_oOk zt_cl zt_m106 zt_z106 = true := by decide +kernel
theorem zt_o107_ok : xw_oOk zt_cl zt_m107 zt_z107 = true := by decide +kernel
theorem zt_o108_ok : xw_oOk zt_cl zt_m108 zt_z108 = true := by decide +kernel
theorem zt_o109_ok : xw_oOk zt_cl zt_m109 zt_z109 = true := by decide +kernel
theorem zt_o110_ok : xw_oOk zt_cl zt_m110 zt_z110 = true := by decide +kernel
theorem zt_o111_ok : xw_oOk zt_cl zt_m111 zt_z111 = true := by decide +kernel
theorem zt_o112_ok : xw_oOk zt_cl zt_m112 zt_z112 = true := by decide +kernel
theorem zt_o113_ok : xw_oOk zt_cl zt_m113 zt_z113 = true := by decide +kernel
theorem zt_o114_ok : xw_oOk zt_cl zt_m114 zt_z114 = true := by decide +kernel
theorem zt_o115_ok : xw_oOk zt_cl zt_m115 zt_z115 = true := by decide +kernel
theorem zt_o116_ok : xw_oOk zt_cl zt_m116 zt_z116 = true := by decide +kernel
theorem zt_o117_ok : xw_oOk zt_cl zt_m117 zt_z117 = true := by decide +kernel
theorem zt_o118_ok : xw_oOk zt_cl zt_m118 zt_z118 = true := by decide +kernel
theorem zt_o119_ok : xw_oOk zt_cl zt_m119 zt_z119 = true := by decide +kernel
theorem zt_o120_ok : xw_oOk zt_cl zt_m120 zt_z120 = true := by decide +kernel
theorem zt_o121_ok : xw_oOk zt_cl zt_m121 zt_z121 = true := by decide +kernel
theorem zt_o122_ok : xw_oOk zt_cl zt_m122 zt_z122 = true := by decide +kernel
theorem zt_o123_ok : xw_oOk zt_cl zt_m123 zt_z123 = true := by decide +kernel
theorem zt_o124_ok : xw_oOk zt_cl zt_m124 zt_z124 = true := by decide +kernel
theorem zt_o125_ok : xw_oOk zt_cl zt_m125 zt_z125 = true := by decide +kernel
theorem zt_o126_ok : xw_oOk zt_cl zt_m126 zt_z126 = true := by decide +kernel
theorem zt_o127_ok : xw_oOk zt_cl zt_m127 zt_z127 = true := by decide +kernel
theorem zt_o128_ok : xw_oOk zt_cl zt_m128 zt_z128 = true := by decide +kernel
theorem zt_o129_ok : xw_oOk zt_cl zt_m129 zt_z129 = true := by decide +kernel
theorem zt_o130_ok : xw_oOk zt_cl zt_m130 zt_z130 = true := by decide +kernel
theorem zt_o131_ok : xw_oOk zt_cl zt_m131 zt_z131 = true := by decide +kernel
theorem zt_o132_ok : xw_oOk zt_cl zt_m132 zt_z132 = true := by decide +kernel
theorem zt_o133_ok : xw_oOk zt_cl zt_m133 zt_z133 = true := by decide +kernel
theorem zt_o134_ok : xw_oOk zt_cl zt_m134 zt_z134 = true := by decide +kernel
theorem zt_o135_ok : xw_oOk zt_cl zt_m135 zt_z135 = true := by decide +kernel
theorem zt_o136_ok : xw_oOk zt_cl zt_m136 zt_z136 = true := by decide +kernel
theorem zt_o137_ok : xw_oOk zt_cl zt_m137 zt_z137 = true := by decide +kernel
theorem zt_o138_ok : xw_oOk zt_cl zt_m138 zt_z138 = true := by decide +kernel
theorem zt_o139_ok : xw_oOk zt_cl zt_m139 zt_z139 = true := by decide +kernel
theorem zt_o140_ok : xw_oOk zt_cl zt_m140 zt_z140 = true := by decide +kernel
theorem zt_o141_ok : xw_oOk zt_cl zt_m141 zt_z141 = true := by decide +kernel
theorem zt_o142_ok : xw_oOk zt_cl zt_m142 zt_z142 = true := by decide +kernel
theorem zt_o143_ok : xw_oOk zt_cl zt_m143 zt_z143 = true := by decide +kernel
theorem zt_o144_ok : xw_oOk zt_cl zt_m144 zt_z144 = true := by decide +kernel
theorem zt_o145_ok : xw_oOk zt_cl zt_m145 zt_z145 = true := by decide +kernel
theorem zt_o146_ok : xw_oOk zt_cl zt_m146 zt_z146 = true := by decide +kernel
theorem zt_o147_ok : xw_oOk zt_cl zt_m147 zt_z147 = true := by decide +kernel
theorem zt_o148_ok : xw_oOk zt_cl zt_m148 zt_z148 = true := by decide +kernel
theorem zt_o149_ok : xw_oOk zt_cl zt_m149 zt_z149 = true := by decide +kernel
theorem zt_o150_ok : xw_oOk zt_cl zt_m150 zt_z150 = true := by decide +kernel
theorem zt_o151_ok : xw_oOk zt_cl zt_m151 zt_z151 = true := by decide +kernel
theorem zt_o152_ok : xw_oOk zt_cl zt_m152 zt_z152 = true := by decide +kernel
theorem zt_o153_ok : xw_oOk zt_cl zt_m153 zt_z153 = true := by decide +kernel
theorem zt_o154_ok : xw_oOk zt_cl zt_m154 zt_z154 = true := by decide +kernel
theorem zt_o155_ok : xw_oOk zt_cl zt_m155 zt_z155 = true := by decide +kernel
theorem zt_o156_ok : xw_oOk zt_cl zt_m156 zt_z156 = true := by decide +kernel
theorem zt_o157_ok : xw_oOk zt_cl zt_m157 zt_z157 = true := by decide +kernel
theorem zt_o158_ok : xw_oOk zt_cl zt_m158 zt_z158 = true := by decide +kernel
theorem zt_o159_ok : xw_oOk zt_cl zt_m159 zt_z159 = true := by decide +kernel
theorem zt_o160_ok : xw_oOk zt_cl zt_m160 zt_z160 = true := by decide +kernel
theorem zt_o161_ok : xw_oOk zt_cl zt_m161 zt_z161 = true := by decide +kernel
theorem zt_o162_ok : xw_oOk zt_cl zt_m162 zt_z162 = true := by decide +kernel
theorem zt_o163_ok : xw_oOk zt_cl zt_m163 zt_z163 = true := by decide +kernel
theorem zt_o164_ok : xw_oOk zt_cl zt_m164 zt_z164 = true := by decide +kernel
theorem zt_o165_ok : xw_oOk zt_cl zt_m165 zt_z165 = true := by decide +kernel
theorem zt_o166_ok : xw_oOk zt_cl zt_m166 zt_z166 = true := by decide +kernel
theorem zt_o167_ok : xw_oOk zt_cl zt_m167 zt_z167 = true := by decide +kernel
theorem zt_o168_ok : xw_oOk zt_cl zt_m168 zt_z168 = true := by decide +kernel
theorem zt_o169_ok : xw_oOk zt_cl zt_m169 zt_z169 = true := by decide +kernel
theorem zt_o170_ok : xw_oOk zt_cl zt_m170 zt_z170 = true := by decide +kernel
theorem zt_o171_ok : xw_oOk zt_cl zt_m171 zt_z171 = true := by decide +kernel
theorem zt_o172_ok : xw_oOk zt_cl zt_m172 zt_z172 = true := by decide +kernel
theorem zt_o173_ok : xw_oOk zt_cl zt_m173 zt_z173 = true := by decide +kernel
theorem zt_o174_ok : xw_oOk zt_cl zt_m174 zt_z174 = true := by decide +kernel
theorem zt_o175_ok : xw_oOk zt_cl zt_m175 zt_z175 = true := by decide +kernel
theorem zt_o176_ok : xw_oOk zt_cl zt_m176 zt_z176 = true := by decide +kernel

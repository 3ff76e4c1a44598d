set_option maxRecDepth 100000 in
theorem zm_0 (n : Nat) : (zt_T n).2.2.1[0]? = some zt_m0 := rfl
set_option maxRecDepth 100000 in
theorem zdp_0 (n : Nat) : (zt_T n).2.2.2[0]? = some 7 := rfl
set_option maxRecDepth 100000 in
theorem zm_1 (n : Nat) : (zt_T n).2.2.1[1]? = some zt_m1 := rfl
set_option maxRecDepth 100000 in
theorem zdp_1 (n : Nat) : (zt_T n).2.2.2[1]? = some 2 := rfl
set_option maxRecDepth 100000 in
theorem zm_2 (n : Nat) : (zt_T n).2.2.1[2]? = some zt_m2 := rfl
set_option maxRecDepth 100000 in
theorem zdp_2 (n : Nat) : (zt_T n).2.2.2[2]? = some 1 := rfl
set_option maxRecDepth 100000 in
theorem zm_3 (n : Nat) : (zt_T n).2.2.1[3]? = some zt_m3 := rfl
set_option maxRecDepth 100000 in
theorem zdp_3 (n : Nat) : (zt_T n).2.2.2[3]? = some 0 := rfl
set_option maxRecDepth 100000 in
theorem zm_4 (n : Nat) : (zt_T n).2.2.1[4]? = some zt_m4 := rfl
set_option maxRecDepth 100000 in
theorem zdp_4 (n : Nat) : (zt_T n).2.2.2[4]? = some 1 := rfl
set_option maxRecDepth 100000 in
theorem zm_5 (n : Nat) : (zt_T n).2.2.1[5]? = some zt_m5 := rfl
set_option maxRecDepth 100000 in
theorem zdp_5 (n : Nat) : (zt_T n).2.2.2[5]? = some 0 := rfl
set_option maxRecDepth 100000 in
theorem zm_6 (n : Nat) : (zt_T n).2.2.1[6]? = some zt_m6 := rfl
set_option maxRecDepth 100000 in
theorem zdp_6 (n : Nat) : (zt_T n).2.2.2[6]? = some 0 := rfl
set_option maxRecDepth 100000 in
theorem zm_7 (n : Nat) : (zt_T n).2.2.1[7]? = some zt_m7 := rfl
set_option maxRecDepth 100000 in
theorem zdp_7 (n : Nat) : (zt_T n).2.2.2[7]? = some 0 := rfl
set_option maxRecDepth 100000 in
theorem zm_8 (n : Nat) : (zt_T n).2.2.1[8]? = some zt_m8 := rfl
set_option maxRecDepth 100000 in
theorem zdp_8 (n : Nat) : (zt_T n).2.2.2[8]? = some 0 := rfl
set_option maxRecDepth 100000 in
theorem zm_9 (n : Nat) : (zt_T n).2.2.1[9]? = some zt_m9 := rfl
set_option maxRecDepth 100000 in
theorem zdp_9 (n : Nat) : (zt_T n).2.2.2[9]? = some 0 := rfl
set_option maxRecDepth 100000 in
theorem zm_10 (n : Nat) : (zt_T n).2.2.1[10]? = some zt_m10 := rfl
set_option maxRecDepth 100000 in
theorem zdp_10 (n : Nat) : (zt_T n).2.2.2[10]? = some 0 := rfl
set_option maxRecDepth 100000 in
theorem zm_11 (n : Nat) : (zt_T n).2.2.1[11]? = some zt_m11 := rfl
set_option maxRecDepth 100000 in
theorem zdp_11 (n : Nat) : (zt_T n).2.2.2[11]? = some 2 := rfl
set_option maxRecDepth 100000 in
theorem zm_12 (n : Nat) : (zt_T n).2.2.1[12]? = some zt_m12 := rfl
set_option maxRecDepth 100000 in
theorem zdp_12 (n : Nat) : (zt_T n).2.2.2[12]? = some 6 := rfl
set_option maxRecDepth 100000 in
theorem zm_13 (n : Nat) : (zt_T n).2.2.1[13]? = some zt_m13 := rfl
set_option maxRecDepth 100000 in
theorem zdp_13 (n : Nat) : (zt_T n).2.2.2[13]? = some 1 := rfl
set_option maxRecDepth 100000 in
theorem zm_14 (n : Nat) : (zt_T n).2.2.1[14]? = some zt_m14 := rfl
set_option maxRecDepth 100000 in
theorem zdp_14 (n : Nat) : (zt_T n).2.2.2[14]? = some 0 := rfl
set_option maxRecDepth 100000 in
theorem zm_15 (n : Nat) : (zt_T n).2.2.1[15]? = some zt_m15 := rfl
set_option maxRecDepth 100000 in
theorem zdp_15 (n : Nat) : (zt_T n).2.2.2[15]? = some 0 := rfl
set_option maxRecDepth 100000 in
theorem zm_16 (n : Nat) : (zt_T n).2.2.1[16]? = some zt_m16 := rfl
set_option maxRecDepth 100000 in
theorem zdp_16 (n : Nat) : (zt_T n).2.2.2[16]? = some 0 := rfl
set_option maxRecDepth 100000 in
theorem zm_17 (n : Nat) : (zt_T n).2.2.1[17]? = some zt_m17 := rfl
set_option maxRecDepth 100000 in
theorem zdp_17 (n : Nat) : (zt_T n).2.2.2[17]? = some 0 := rfl
set_option maxRecDepth 100000 in
theorem zm_18 (n : Nat) : (zt_T n).2.2.1[18]? = some zt_m18 := rfl
set_option maxRecDepth 100000 in
theorem zdp_18 (n : Nat) : (zt_T n).2.2.2[18]? = some 1 := rfl
set_option maxRecDepth 100000 in
theorem zm_19 (n : Nat) : (zt_T n).2.2.1[19]? = some zt_m19 := rfl
set_option maxRecDepth 100000 in
theorem zdp_19 (n : Nat) : (zt_T n).2.2.2[19]? = some 4 := rfl
set_option maxRecDepth 100000 in
theorem zm_20 (n : Nat) : (zt_T n).2.2.1[20]? = some zt_m20 := rfl
set_option maxRecDepth 100000 in
theorem zdp_20 (n : Nat) : (zt_T n).2.2.2[20]? = some 1 := rfl
set_option maxRecDepth 100000 in
theorem zm_21 (n : Nat) : (zt_T n).2.2.1[21]? = some zt_m21 := rfl
set_option maxRecDepth 100000 in
theorem zdp_21 (n : Nat) : (zt_T n).2.2.2[21]? = some 0 := rfl
set_option maxRecDepth 100000 in
theorem zm_22 (n : Nat) : (zt_T n).2.2.1[22]? = some zt_m22 := rfl
set_option maxRecDepth 100000 in
theorem zdp_22 (n : Nat) : (zt_T n).2.2.2[22]? = some 1 := rfl
set_option maxRecDepth 100000 in
theorem zm_23 (n : Nat) : (zt_T n).2.2.1[23]? = some zt_m23 := rfl
set_option maxRecDepth 100000 in
theorem zdp_23 (n : Nat) : (zt_T n).2.2.2[23]? = some 3 := rfl
set_option maxRecDepth 100000 in
theorem zm_24 (n : Nat) : (zt_T n).2.2.1[24]? = some zt_m24 := rfl
set_option maxRecDepth 100000 in
theorem zdp_24 (n : Nat) : (zt_T n).2.2.2[24]? = some 2 := rfl
set_option maxRecDepth 100000 in
theorem zm_25 (n : Nat) : (zt_T n).2.2.1[25]? = some zt_m25 := rfl
set_option maxRecDepth 100000 in
theorem zdp_25 (n : Nat) : (zt_T n).2.2.2[25]? = some 0 := rfl
set_option maxRecDepth 100000 in
theorem zm_26 (n : Nat) : (zt_T n).2.2.1[26]? = some zt_m26 := rfl
set_option maxRecDepth 100000 in
theorem zdp_26 (n : Nat) : (zt_T n).2.2.2[26]? = some 1 := rfl
set_option maxRecDepth 100000 in
theorem zm_27 (n : Nat) : (zt_T n).2.2.1[27]? = some zt_m27 := rfl
set_option maxRecDepth 100000 in
theorem zdp_27 (n : Nat) : (zt_T n).2.2.2[27]? = some 0 := rfl
set_option maxRecDepth 100000 in
theorem zm_28 (n : Nat) : (zt_T n).2.2.1[28]? = some zt_m28 := rfl
set_option maxRecDepth 100000 in
theorem zdp_28 (n : Nat) : (zt_T n).2.2.2[28]? = some 0 := rfl
set_option maxRecDepth 100000 in
theorem zm_29 (n : Nat) : (zt_T n).2.2.1[29]? = some zt_m29 := rfl
set_option maxRecDepth 100000 in
theorem zdp_29 (n : Nat) : (zt_T n).2.2.2[29]? = some 7 := rfl
set_option maxRecDepth 100000 in
theorem zm_30 (n : Nat) : (zt_T n).2.2.1[30]? = some zt_m30 := rfl
set_option maxRecDepth 100000 in
theorem zdp_30 (n : Nat) : (zt_T n).2.2.2[30]? = some 0 := rfl
set_option maxRecDepth 100000 in
theorem zm_31 (n : Nat) : (zt_T n).2.2.1[31]? = some zt_m31 := rfl
set_option maxRecDepth 100000 in
theorem zdp_31 (n : Nat) : (zt_T n).2.2.2[31]? = some 6 := rfl
set_option maxRecDepth 100000 in
theorem zm_32 (n : Nat) : (zt_T n).2.2.1[32]? = some zt_m32 := rfl
set_option maxRecDepth 100000 in
theorem zdp_32 (n : Nat) : (zt_T n).2.2.2[32]? = some 0 := rfl
set_option maxRecDepth 100000 in
theorem zm_33 (n : Nat) : (zt_T n).2.2.1[33]? = some zt_m33 := rfl
set_option maxRecDepth 100000 in
theorem zdp_33 (n : Nat) : (zt_T n).2.2.2[33]? = some 5 := rfl
set_option maxRecDepth 100000 in
theorem zm_34 (n : Nat) : (zt_T n).2.2.1[34]? = some zt_m34 := rfl
set_option maxRecDepth 100000 in
theorem zdp_34 (n : Nat) : (zt_T n).2.2.2[34]? = some 0 := rfl
set_option maxRecDepth 100000 in
theorem zm_35 (n : Nat) : (zt_T n).2.2.1[35]? = some zt_m35 := rfl
set_option maxRecDepth 100000 in
theorem zdp_35 (n : Nat) : (zt_T n).2.2.2[35]? = some 0 := rfl
set_option maxRecDepth 100000 in
theorem zm_36 (n : Nat) : (zt_T n).2.2.1[36]? = some zt_m36 := rfl
set_option maxRecDepth 100000 in
theorem zdp_36 (n : Nat) : (zt_T n).2.2.2[36]? = some 0 := rfl
set_option maxRecDepth 100000 in
theorem zm_37 (n : Nat) : (zt_T n).2.2.1[37]? = some zt_m37 := rfl
set_option maxRecDepth 100000 in
theorem zdp_37 (n : Nat) : (zt_T n).2.2.2[37]? = some 4 := rfl
set_option maxRecDepth 100000 in
theorem zm_38 (n : Nat) : (zt_T n).2.2.1[38]? = some zt_m38 := rfl
set_option maxRecDepth 100000 in
theorem zdp_38 (n : Nat) : (zt_T n).2.2.2[38]? = some 0 := rfl
set_option maxRecDepth 100000 in
theorem zm_39 (n : Nat) : (zt_T n).2.2.1[39]? = some zt_m39 := rfl
set_option maxRecDepth 100000 in
theorem zdp_39 (n : Nat) : (zt_T n).2.2.2[39]? = some 3 := rfl
set_option maxRecDepth 100000 in
theorem zm_40 (n : Nat) : (zt_T n).2.2.1[40]? = some zt_m40 := rfl
set_option maxRecDepth 100000 in
theorem zdp_40 (n : Nat) : (zt_T n).2.2.2[40]? = some 1 := rfl
set_option maxRecDepth 100000 in
theorem zm_41 (n : Nat) : (zt_T n).2.2.1[41]? = some zt_m41 := rfl
set_option maxRecDepth 100000 in
theorem zdp_41 (n : Nat) : (zt_T n).2.2.2[41]? = some 0 := rfl
set_option maxRecDepth 100000 in
theorem zm_42 (n : Nat) : (zt_T n).2.2.1[42]? = some zt_m42 := rfl
set_option maxRecDepth 100000 in
theorem zdp_42 (n : Nat) : (zt_T n).2.2.2[42]? = some 7 := rfl
set_option maxRecDepth 100000 in
theorem zm_43 (n : Nat) : (zt_T n).2.2.1[43]? = some zt_m43 := rfl
set_option maxRecDepth 100000 in
theorem zdp_43 (n : Nat) : (zt_T n).2.2.2[43]? = some 0 := rfl
set_option maxRecDepth 100000 in
theorem zm_44 (n : Nat) : (zt_T n).2.2.1[44]? = some zt_m44 := rfl
set_option maxRecDepth 100000 in
theorem zdp_44 (n : Nat) : (zt_T n).2.2.2[44]? = some 1 := rfl
set_option maxRecDepth 100000 in
theorem zm_45 (n : Nat) : (zt_T n).2.2.1[45]? = some zt_m45 := rfl
set_option maxRecDepth 100000 in
theorem zdp_45 (n : Nat) : (zt_T n).2.2.2[45]? = some 1 := rfl
set_option maxRecDepth 100000 in
theorem zm_46 (n : Nat) : (zt_T n).2.2.1[46]? = some zt_m46 := rfl
set_option maxRecDepth 100000 in
theorem zdp_46 (n : Nat) : (zt_T n).2.2.2[46]? = some 1 := rfl
set_option maxRecDepth 100000 in
theorem zm_47 (n : Nat) : (zt_T n).2.2.1[47]? = some zt_m47 := rfl
set_option maxRecDepth 100000 in
theorem zdp_47 (n : Nat) : (zt_T n).2.2.2[47]? = some 5 := rfl
set_option maxRecDepth 100000 in
theorem zm_48 (n : Nat) : (zt_T n).2.2.1[48]? = some zt_m48 := rfl
set_option maxRecDepth 100000 in
theorem zdp_48 (n : Nat) : (zt_T n).2.2.2[48]? = some 4 := rfl
set_option maxRecDepth 100000 in
theorem zm_49 (n : Nat) : (zt_T n).2.2.1[49]? = some zt_m49 := rfl
set_option maxRecDepth 100000 in
theorem zdp_49 (n : Nat) : (zt_T n).2.2.2[49]? = some 4 := rfl
set_option maxRecDepth 100000 in
theorem zm_50 (n : Nat) : (zt_T n).2.2.1[50]? = some zt_m50 := rfl
set_option maxRecDepth 100000 in
theorem zdp_50 (n : Nat) : (zt_T n).2.2.2[50]? = some 3 := rfl
set_option maxRecDepth 100000 in
theorem zm_51 (n : Nat) : (zt_T n).2.2.1[51]? = some zt_m51 := rfl
set_option maxRecDepth 100000 in
theorem zdp_51 (n : Nat) : (zt_T n).2.2.2[51]? = some 0 := rfl
set_option maxRecDepth 100000 in
theorem zm_52 (n : Nat) : (zt_T n).2.2.1[52]? = some zt_m52 := rfl
set_option maxRecDepth 100000 in
theorem zdp_52 (n : Nat) : (zt_T n).2.2.2[52]? = some 0 := rfl
set_option maxRecDepth 100000 in
theorem zm_53 (n : Nat) : (zt_T n).2.2.1[53]? = some zt_m53 := rfl
set_option maxRecDepth 100000 in
theorem zdp_53 (n : Nat) : (zt_T n).2.2.2[53]? = some 0 := rfl
set_option maxRecDepth 100000 in
theorem zm_54 (n : Nat) : (zt_T n).2.2.1[54]? = some zt_m54 := rfl
set_option maxRecDepth 100000 in
theorem zdp_54 (n : Nat) : (zt_T n).2.2.2[54]? = some 3 := rfl
set_option maxRecDepth 100000 in
theorem zm_55 (n : Nat) : (zt_T n).2.2.1[55]? = some zt_m55 := rfl
set_option maxRecDepth 100000 in
theorem zdp_55 (n : Nat) : (zt_T n).2.2.2[55]? = some 3 := rfl
set_option maxRecDepth 100000 in
theorem zm_56 (n : Nat) : (zt_T n).2.2.1[56]? = some zt_m56 := rfl
set_option maxRecDepth 100000 in
theorem zdp_56 (n : Nat) : (zt_T n).2.2.2[56]? = some 3 := rfl
set_option maxRecDepth 100000 in
theorem zm_57 (n : Nat) : (zt_T n).2.2.1[57]? = some zt_m57 := rfl
set_option maxRecDepth 100000 in
theorem zdp_57 (n : Nat) : (zt_T n).2.2.2[57]? = some 5 := rfl
set_option maxRecDepth 100000 in
theorem zm_58 (n : Nat) : (zt_T n).2.2.1[58]? = some zt_m58 := rfl
set_option maxRecDepth 100000 in
theorem zdp_58 (n : Nat) : (zt_T n).2.2.2[58]? = some 1 := rfl
set_option maxRecDepth 100000 in
theorem zm_59 (n : Nat) : (zt_T n).2.2.1[59]? = some zt_m59 := rfl
set_option maxRecDepth 100000 in
theorem zdp_59 (n : Nat) : (zt_T n).2.2.2[59]? = some 2 := rfl
set_option maxRecDepth 100000 in
theorem zm_60 (n : Nat) : (zt_T n).2.2.1[60]? = some zt_m60 := rfl
set_option maxRecDepth 100000 in
theorem zdp_60 (n : Nat) : (zt_T n).2.2.2[60]? = some 3 := rfl
set_option maxRecDepth 100000 in
theorem zm_61 (n : Nat) : (zt_T n).2.2.1[61]? = some zt_m61 := rfl
set_option maxRecDepth 100000 in
theorem zdp_61 (n : Nat) : (zt_T n).2.2.2[61]? = some 7 := rfl
set_option maxRecDepth 100000 in
theorem zm_62 (n : Nat) : (zt_T n).2.2.1[62]? = some zt_m62 := rfl
set_option maxRecDepth 100000 in
theorem zdp_62 (n : Nat) : (zt_T n).2.2.2[62]? = some 6 := rfl
set_option maxRecDepth 100000 in
theorem zm_63 (n : Nat) : (zt_T n).2.2.1[63]? = some zt_m63 := rfl
set_option maxRecDepth 100000 in
theorem zdp_63 (n : Nat) : (zt_T n).2.2.2[63]? = some 6 := rfl
set_option maxRecDepth 100000 in
theorem zm_64 (n : Nat) : (zt_T n).2.2.1[64]? = some zt_m64 := rfl
set_option maxRecDepth 100000 in
theorem zdp_64 (n : Nat) : (zt_T n).2.2.2[64]? = some 7 := rfl
set_option maxRecDepth 100000 in
theorem zm_65 (n : Nat) : (zt_T n).2.2.1[65]? = some zt_m65 := rfl
set_option maxRecDepth 100000 in
theorem zdp_65 (n : Nat) : (zt_T n).2.2.2[65]? = some 3 := rfl
set_option maxRecDepth 100000 in
theorem zm_66 (n : Nat) : (zt_T n).2.2.1[66]? = some zt_m66 := rfl
set_option maxRecDepth 100000 in
theorem zdp_66 (n : Nat) : (zt_T n).2.2.2[66]? = some 3 := rfl
set_option maxRecDepth 100000 in
theorem zm_67 (n : Nat) : (zt_T n).2.2.1[67]? = some zt_m67 := rfl
set_option maxRecDepth 100000 in
theorem zdp_67 (n : Nat) : (zt_T n).2.2.2[67]? = some 2 := rfl
set_option maxRecDepth 100000 in
theorem zm_68 (n : Nat) : (zt_T n).2.2.1[68]? = some zt_m68 := rfl
set_option maxRecDepth 100000 in
theorem zdp_68 (n : Nat) : (zt_T n).2.2.2[68]? = some 4 := rfl
set_option maxRecDepth 100000 in
theorem zm_69 (n : Nat) : (zt_T n).2.2.1[69]? = some zt_m69 := rfl
set_option maxRecDepth 100000 in
theorem zdp_69 (n : Nat) : (zt_T n).2.2.2[69]? = some 4 := rfl
set_option maxRecDepth 100000 in
theorem zm_70 (n : Nat) : (zt_T n).2.2.1[70]? = some zt_m70 := rfl
set_option maxRecDepth 100000 in
theorem zdp_70 (n : Nat) : (zt_T n).2.2.2[70]? = some 6 := rfl
set_option maxRecDepth 100000 in
theorem zm_71 (n : Nat) : (zt_T n).2.2.1[71]? = some zt_m71 := rfl
set_option maxRecDepth 100000 in
theorem zdp_71 (n : Nat) : (zt_T n).2.2.2[71]? = some 5 := rfl
set_option maxRecDepth 100000 in
theorem zm_72 (n : Nat) : (zt_T n).2.2.1[72]? = some zt_m72 := rfl
set_option maxRecDepth 100000 in
theorem zdp_72 (n : Nat) : (zt_T n).2.2.2[72]? = some 1 := rfl
set_option maxRecDepth 100000 in
theorem zm_73 (n : Nat) : (zt_T n).2.2.1[73]? = some zt_m73 := rfl
set_option maxRecDepth 100000 in
theorem zdp_73 (n : Nat) : (zt_T n).2.2.2[73]? = some 1 := rfl
set_option maxRecDepth 100000 in
theorem zm_74 (n : Nat) : (zt_T n).2.2.1[74]? = some zt_m74 := rfl
set_option maxRecDepth 100000 in
theorem zdp_74 (n : Nat) : (zt_T n).2.2.2[74]? = some 0 := rfl
set_option maxRecDepth 100000 in
theorem zm_75 (n : Nat) : (zt_T n).2.2.1[75]? = some zt_m75 := rfl
set_option maxRecDepth 100000 in
theorem zdp_75 (n : Nat) : (zt_T n).2.2.2[75]? = some 7 := rfl
set_option maxRecDepth 100000 in
theorem zm_76 (n : Nat) : (zt_T n).2.2.1[76]? = some zt_m76 := rfl
set_option maxRecDepth 100000 in
theorem zdp_76 (n : Nat) : (zt_T n).2.2.2[76]? = some 6 := rfl
set_option maxRecDepth 100000 in
theorem zm_77 (n : Nat) : (zt_T n).2.2.1[77]? = some zt_m77 := rfl
set_option maxRecDepth 100000 in
theorem zdp_77 (n : Nat) : (zt_T n).2.2.2[77]? = some 6 := rfl
set_option maxRecDepth 100000 in
theorem zm_78 (n : Nat) : (zt_T n).2.2.1[78]? = some zt_m78 := rfl
set_option maxRecDepth 100000 in
theorem zdp_78 (n : Nat) : (zt_T n).2.2.2[78]? = some 2 := rfl
set_option maxRecDepth 100000 in
theorem zm_79 (n : Nat) : (zt_T n).2.2.1[79]? = some zt_m79 := rfl
set_option maxRecDepth 100000 in
theorem zdp_79 (n : Nat) : (zt_T n).2.2.2[79]? = some 2 := rfl
set_option maxRecDepth 100000 in
theorem zm_80 (n : Nat) : (zt_T n).2.2.1[80]? = some zt_m80 := rfl
set_option maxRecDepth 100000 in
theorem zdp_80 (n : Nat) : (zt_T n).2.2.2[80]? = some 2 := rfl
set_option maxRecDepth 100000 in
theorem zm_81 (n : Nat) : (zt_T n).2.2.1[81]? = some zt_m81 := rfl
set_option maxRecDepth 100000 in
theorem zdp_81 (n : Nat) : (zt_T n).2.2.2[81]? = some 2 := rfl
set_option maxRecDepth 100000 in
theorem zm_82 (n : Nat) : (zt_T n).2.2.1[82]? = some zt_m82 := rfl
set_option maxRecDepth 100000 in
theorem zdp_82 (n : Nat) : (zt_T n).2.2.2[82]? = some 0 := rfl
set_option maxRecDepth 100000 in
theorem zm_83 (n : Nat) : (zt_T n).2.2.1[83]? = some zt_m83 := rfl
set_option maxRecDepth 100000 in
theorem zdp_83 (n : Nat) : (zt_T n).2.2.2[83]? = some 0 := rfl
set_option maxRecDepth 100000 in
theorem zm_84 (n : Nat) : (zt_T n).2.2.1[84]? = some zt_m84 := rfl
set_option maxRecDepth 100000 in
theorem zdp_84 (n : Nat) : (zt_T n).2.2.2[84]? = some 0 := rfl
set_option maxRecDepth 100000 in
theorem zm_85 (n : Nat) : (zt_T n).2.2.1[85]? = some zt_m85 := rfl
set_option maxRecDepth 100000 in
theorem zdp_85 (n : Nat) : (zt_T n).2.2.2[85]? = some 0 := rfl
set_option maxRecDepth 100000 in
theorem zm_86 (n : Nat) : (zt_T n).2.2.1[86]? = some zt_m86 := rfl
set_option maxRecDepth 100000 in
theorem zdp_86 (n : Nat) : (zt_T n).2.2.2[86]? = some 0 := rfl
set_option maxRecDepth 100000 in
theorem zm_87 (n : Nat) : (zt_T n).2.2.1[87]? = some zt_m87 := rfl
set_option maxRecDepth 100000 in
theorem zdp_87 (n : Nat) : (zt_T n).2.2.2[87]? = some 0 := rfl
set_option maxRecDepth 100000 in
theorem zm_88 (n : Nat) : (zt_T n).2.2.1[88]? = some zt_m88 := rfl
set_option maxRecDepth 100000 in
theorem zdp_88 (n : Nat) : (zt_T n).2.2.2[88]? = some 0 := rfl
set_option maxRecDepth 100000 in
theorem zm_89 (n : Nat) : (zt_T n).2.2.1[89]? = some zt_m89 := rfl
set_option maxRecDepth 100000 in
theorem zdp_89 (n : Nat) : (zt_T n).2.2.2[89]? = some 1 := rfl
set_option maxRecDepth 100000 in
theorem zm_90 (n : Nat) : (zt_T n).2.2.1[90]? = some zt_m90 := rfl
set_option maxRecDepth 100000 in
theorem zdp_90 (n : Nat) : (zt_T n).2.2.2[90]? = some 0 := rfl
set_option maxRecDepth 100000 in
theorem zm_91 (n : Nat) : (zt_T n).2.2.1[91]? = some zt_m91 := rfl
set_option maxRecDepth 100000 in
theorem zdp_91 (n : Nat) : (zt_T n).2.2.2[91]? = some 0 := rfl
set_option maxRecDepth 100000 in
theorem zm_92 (n : Nat) : (zt_T n).2.2.1[92]? = some zt_m92 := rfl
set_option maxRecDepth 100000 in
theorem zdp_92 (n : Nat) : (zt_T n).2.2.2[92]? = some 0 := rfl
set_option maxRecDepth 100000 in
theorem zm_93 (n : Nat) : (zt_T n).2.2.1[93]? = some zt_m93 := rfl
set_option maxRecDepth 100000 in
theorem zdp_93 (n : Nat) : (zt_T n).2.2.2[93]? = some 0 := rfl
set_option maxRecDepth 100000 in
theorem zm_94 (n : Nat) : (zt_T n).2.2.1[94]? = some zt_m94 := rfl
set_option maxRecDepth 100000 in
theorem zdp_94 (n : Nat) : (zt_T n).2.2.2[94]? = some 2 := rfl
set_option maxRecDepth 100000 in
theorem zm_95 (n : Nat) : (zt_T n).2.2.1[95]? = some zt_m95 := rfl
set_option maxRecDepth 100000 in
theorem zdp_95 (n : Nat) : (zt_T n).2.2.2[95]? = some 0 := rfl
set_option maxRecDepth 100000 in
theorem zm_96 (n : Nat) : (zt_T n).2.2.1[96]? = some zt_m96 := rfl
set_option maxRecDepth 100000 in
theorem zdp_96 (n : Nat) : (zt_T n).2.2.2[96]? = some 3 := rfl
set_option maxRecDepth 100000 in
theorem zm_97 (n : Nat) : (zt_T n).2.2.1[97]? = some zt_m97 := rfl
set_option maxRecDepth 100000 in
theorem zdp_97 (n : Nat) : (zt_T n).2.2.2[97]? = some 2 := rfl
set_option maxRecDepth 100000 in
theorem zm_98 (n : Nat) : (zt_T n).2.2.1[98]? = some zt_m98 := rfl
set_option maxRecDepth 100000 in
theorem zdp_98 (n : Nat) : (zt_T n).2.2.2[98]? = some 2 := rfl
set_option maxRecDepth 100000 in
theorem zm_99 (n : Nat) : (zt_T n).2.2.1[99]? = some zt_m99 := rfl
set_option maxRecDepth 100000 in
theorem zdp_99 (n : Nat) : (zt_T n).2.2.2[99]? = some 3 := rfl
set_option maxRecDepth 100000 in
theorem zm_100 (n : Nat) : (zt_T n).2.2.1[100]? = some zt_m100 := rfl
set_option maxRecDepth 100000 in
theorem zdp_100 (n : Nat) : (zt_T n).2.2.2[100]? = some 4 := rfl
set_option maxRecDepth 100000 in
theorem zm_101 (n : Nat) : (zt_T n).2.2.1[101]? = some zt_m101 := rfl
set_option maxRecDepth 100000 in
theorem zdp_101 (n : Nat) : (zt_T n).2.2.2[101]? = some 4 := rfl
set_option maxRecDepth 100000 in
theorem zm_102 (n : Nat) : (zt_T n).2.2.1[102]? = some zt_m102 := rfl
set_option maxRecDepth 100000 in
theorem zdp_102 (n : Nat) : (zt_T n).2.2.2[102]? = some 4 := rfl
set_option maxRecDepth 100000 in
theorem zm_103 (n : Nat) : (zt_T n).2.2.1[103]? = some zt_m103 := rfl
set_option maxRecDepth 100000 in
theorem zdp_103 (n : Nat) : (zt_T n).2.2.2[103]? = some 4 := rfl
set_option maxRecDepth 100000 in
theorem zm_104 (n : Nat) : (zt_T n).2.2.1[104]? = some zt_m104 := rfl
set_option maxRecDepth 100000 in
theorem zdp_104 (n : Nat) : (zt_T n).2.2.2[104]? = some 3 := rfl
set_option maxRecDepth 100000 in
theorem zm_105 (n : Nat) : (zt_T n).2.2.1[105]? = some zt_m105 := rfl
set_option maxRecDepth 100000 in
theorem zdp_105 (n : Nat) : (zt_T n).2.2.2[105]? = some 5 := rfl
set_option maxRecDepth 100000 in
theorem zm_106 (n : Nat) : (zt_T n).2.2.1[106]? = some zt_m106 := rfl
set_option maxRecDepth 100000 in
theorem zdp_106 (n : Nat) : (zt_T n).2.2.2[106]? = some 7 := rfl
set_option maxRecDepth 100000 in
theorem zm_107 (n : Nat) : (zt_T n).2.2.1[107]? = some zt_m107 := rfl
set_option maxRecDepth 100000 in
theorem zdp_107 (n : Nat) : (zt_T n).2.2.2[107]? = some 0 := rfl
set_option maxRecDepth 100000 in
theorem zm_108 (n : Nat) : (zt_T n).2.2.1[108]? = some zt_m108 := rfl
set_option maxRecDepth 100000 in
theorem zdp_108 (n : Nat) : (zt_T n).2.2.2[108]? = some 1 := rfl
set_option maxRecDepth 100000 in
theorem zm_109 (n : Nat) : (zt_T n).2.2.1[109]? = some zt_m109 := rfl
set_option maxRecDepth 100000 in
theorem zdp_109 (n : Nat) : (zt_T n).2.2.2[109]? = some 0 := rfl
set_option maxRecDepth 100000 in
theorem zm_110 (n : Nat) : (zt_T n).2.2.1[110]? = some zt_m110 := rfl
set_option maxRecDepth 100000 in
theorem zdp_110 (n : Nat) : (zt_T n).2.2.2[110]? = some 0 := rfl
set_option maxRecDepth 100000 in
theorem zm_111 (n : Nat) : (zt_T n).2.2.1[111]? = some zt_m111 := rfl
set_option maxRecDepth 100000 in
theorem zdp_111 (n : Nat) : (zt_T n).2.2.2[111]? = some 0 := rfl
set_option maxRecDepth 100000 in
theorem zm_112 (n : Nat) : (zt_T n).2.2.1[112]? = some zt_m112 := rfl
set_option maxRecDepth 100000 in
theorem zdp_112 (n : Nat) : (zt_T n).2.2.2[112]? = some 1 := rfl
set_option maxRecDepth 100000 in
theorem zm_113 (n : Nat) : (zt_T n).2.2.1[113]? = some zt_m113 := rfl
set_option maxRecDepth 100000 in
theorem zdp_113 (n : Nat) : (zt_T n).2.2.2[113]? = some 1 := rfl
set_option maxRecDepth 100000 in
theorem zm_114 (n : Nat) : (zt_T n).2.2.1[114]? = some zt_m114 := rfl
set_option maxRecDepth 100000 in
theorem zdp_114 (n : Nat) : (zt_T n).2.2.2[114]? = some 0 := rfl
set_option maxRecDepth 100000 in
theorem zm_115 (n : Nat) : (zt_T n).2.2.1[115]? = some zt_m115 := rfl
set_option maxRecDepth 100000 in
theorem zdp_115 (n : Nat) : (zt_T n).2.2.2[115]? = some 0 := rfl
set_option maxRecDepth 100000 in
theorem zm_116 (n : Nat) : (zt_T n).2.2.1[116]? = some zt_m116 := rfl
set_option maxRecDepth 100000 in
theorem zdp_116 (n : Nat) : (zt_T n).2.2.2[116]? = some 2 := rfl
set_option maxRecDepth 100000 in
theorem zm_117 (n : Nat) : (zt_T n).2.2.1[117]? = some zt_m117 := rfl
set_option maxRecDepth 100000 in
theorem zdp_117 (n : Nat) : (zt_T n).2.2.2[117]? = some 2 := rfl
set_option maxRecDepth 100000 in
theorem zm_118 (n : Nat) : (zt_T n).2.2.1[118]? = some zt_m118 := rfl
set_option maxRecDepth 100000 in
theorem zdp_118 (n : Nat) : (zt_T n).2.2.2[118]? = some 3 := rfl
set_option maxRecDepth 100000 in
theorem zm_119 (n : Nat) : (zt_T n).2.2.1[119]? = some zt_m119 := rfl
set_option maxRecDepth 100000 in
theorem zdp_119 (n : Nat) : (zt_T n).2.2.2[119]? = some 0 := rfl
set_option maxRecDepth 100000 in
theorem zm_120 (n : Nat) : (zt_T n).2.2.1[120]? = some zt_m120 := rfl
set_option maxRecDepth 100000 in
theorem zdp_120 (n : Nat) : (zt_T n).2.2.2[120]? = some 0 := rfl
set_option maxRecDepth 100000 in
theorem zm_121 (n : Nat) : (zt_T n).2.2.1[121]? = some zt_m121 := rfl
set_option maxRecDepth 100000 in
theorem zdp_121 (n : Nat) : (zt_T n).2.2.2[121]? = some 0 := rfl
set_option maxRecDepth 100000 in
theorem zm_122 (n : Nat) : (zt_T n).2.2.1[122]? = some zt_m122 := rfl
set_option maxRecDepth 100000 in
theorem zdp_122 (n : Nat) : (zt_T n).2.2.2[122]? = some 1 := rfl
set_option maxRecDepth 100000 in
theorem zm_123 (n : Nat) : (zt_T n).2.2.1[123]? = some zt_m123 := rfl
set_option maxRecDepth 100000 in
theorem zdp_123 (n : Nat) : (zt_T n).2.2.2[123]? = some 1 := rfl
set_option maxRecDepth 100000 in
theorem zm_124 (n : Nat) : (zt_T n).2.2.1[124]? = some zt_m124 := rfl
set_option maxRecDepth 100000 in
theorem zdp_124 (n : Nat) : (zt_T n).2.2.2[124]? = some 0 := rfl
set_option maxRecDepth 100000 in
theorem zm_125 (n : Nat) : (zt_T n).2.2.1[125]? = some zt_m125 := rfl
set_option maxRecDepth 100000 in
theorem zdp_125 (n : Nat) : (zt_T n).2.2.2[125]? = some 0 := rfl
set_option maxRecDepth 100000 in
theorem zm_126 (n : Nat) : (zt_T n).2.2.1[126]? = some zt_m126 := rfl
set_option maxRecDepth 100000 in
theorem zdp_126 (n : Nat) : (zt_T n).2.2.2[126]? = some 1 := rfl
set_option maxRecDepth 100000 in
theorem zm_127 (n : Nat) : (zt_T n).2.2.1[127]? = some zt_m127 := rfl
set_option maxRecDepth 100000 in
theorem zdp_127 (n : Nat) : (zt_T n).2.2.2[127]? = some 2 := rfl
set_option maxRecDepth 100000 in
theorem zm_128 (n : Nat) : (zt_T n).2.2.1[128]? = some zt_m128 := rfl
set_option maxRecDepth 100000 in
theorem zdp_128 (n : Nat) : (zt_T n).2.2.2[128]? = some 0 := rfl
set_option maxRecDepth 100000 in
theorem zm_129 (n : Nat) : (zt_T n).2.2.1[129]? = some zt_m129 := rfl
set_option maxRecDepth 100000 in
theorem zdp_129 (n : Nat) : (zt_T n).2.2.2[129]? = some 4 := rfl
set_option maxRecDepth 100000 in
theorem zm_130 (n : Nat) : (zt_T n).2.2.1[130]? = some zt_m130 := rfl
set_option maxRecDepth 100000 in
theorem zdp_130 (n : Nat) : (zt_T n).2.2.2[130]? = some 0 := rfl
set_option maxRecDepth 100000 in
theorem zm_131 (n : Nat) : (zt_T n).2.2.1[131]? = some zt_m131 := rfl
set_option maxRecDepth 100000 in
theorem zdp_131 (n : Nat) : (zt_T n).2.2.2[131]? = some 5 := rfl
set_option maxRecDepth 100000 in
theorem zm_132 (n : Nat) : (zt_T n).2.2.1[132]? = some zt_m132 := rfl
set_option maxRecDepth 100000 in
theorem zdp_132 (n : Nat) : (zt_T n).2.2.2[132]? = some 4 := rfl
set_option maxRecDepth 100000 in
theorem zm_133 (n : Nat) : (zt_T n).2.2.1[133]? = some zt_m133 := rfl
set_option maxRecDepth 100000 in
theorem zdp_133 (n : Nat) : (zt_T n).2.2.2[133]? = some 4 := rfl
set_option maxRecDepth 100000 in
theorem zm_134 (n : Nat) : (zt_T n).2.2.1[134]? = some zt_m134 := rfl
set_option maxRecDepth 100000 in
theorem zdp_134 (n : Nat) : (zt_T n).2.2.2[134]? = some 1 := rfl
set_option maxRecDepth 100000 in
theorem zm_135 (n : Nat) : (zt_T n).2.2.1[135]? = some zt_m135 := rfl
set_option maxRecDepth 100000 in
theorem zdp_135 (n : Nat) : (zt_T n).2.2.2[135]? = some 0 := rfl
set_option maxRecDepth 100000 in
theorem zm_136 (n : Nat) : (zt_T n).2.2.1[136]? = some zt_m136 := rfl
set_option maxRecDepth 100000 in
theorem zdp_136 (n : Nat) : (zt_T n).2.2.2[136]? = some 0 := rfl
set_option maxRecDepth 100000 in
theorem zm_137 (n : Nat) : (zt_T n).2.2.1[137]? = some zt_m137 := rfl
set_option maxRecDepth 100000 in
theorem zdp_137 (n : Nat) : (zt_T n).2.2.2[137]? = some 6 := rfl
set_option maxRecDepth 100000 in
theorem zm_138 (n : Nat) : (zt_T n).2.2.1[138]? = some zt_m138 := rfl
set_option maxRecDepth 100000 in
theorem zdp_138 (n : Nat) : (zt_T n).2.2.2[138]? = some 5 := rfl
set_option maxRecDepth 100000 in
theorem zm_139 (n : Nat) : (zt_T n).2.2.1[139]? = some zt_m139 := rfl
set_option maxRecDepth 100000 in
theorem zdp_139 (n : Nat) : (zt_T n).2.2.2[139]? = some 2 := rfl
set_option maxRecDepth 100000 in
theorem zm_140 (n : Nat) : (zt_T n).2.2.1[140]? = some zt_m140 := rfl
set_option maxRecDepth 100000 in
theorem zdp_140 (n : Nat) : (zt_T n).2.2.2[140]? = some 7 := rfl
set_option maxRecDepth 100000 in
theorem zm_141 (n : Nat) : (zt_T n).2.2.1[141]? = some zt_m141 := rfl
set_option maxRecDepth 100000 in
theorem zdp_141 (n : Nat) : (zt_T n).2.2.2[141]? = some 1 := rfl
set_option maxRecDepth 100000 in
theorem zm_142 (n : Nat) : (zt_T n).2.2.1[142]? = some zt_m142 := rfl
set_option maxRecDepth 100000 in
theorem zdp_142 (n : Nat) : (zt_T n).2.2.2[142]? = some 0 := rfl
set_option maxRecDepth 100000 in
theorem zm_143 (n : Nat) : (zt_T n).2.2.1[143]? = some zt_m143 := rfl
set_option maxRecDepth 100000 in
theorem zdp_143 (n : Nat) : (zt_T n).2.2.2[143]? = some 2 := rfl
set_option maxRecDepth 100000 in
theorem zm_144 (n : Nat) : (zt_T n).2.2.1[144]? = some zt_m144 := rfl
set_option maxRecDepth 100000 in
theorem zdp_144 (n : Nat) : (zt_T n).2.2.2[144]? = some 1 := rfl
set_option maxRecDepth 100000 in
theorem zm_145 (n : Nat) : (zt_T n).2.2.1[145]? = some zt_m145 := rfl
set_option maxRecDepth 100000 in
theorem zdp_145 (n : Nat) : (zt_T n).2.2.2[145]? = some 5 := rfl
set_option maxRecDepth 100000 in
theorem zm_146 (n : Nat) : (zt_T n).2.2.1[146]? = some zt_m146 := rfl
set_option maxRecDepth 100000 in
theorem zdp_146 (n : Nat) : (zt_T n).2.2.2[146]? = some 6 := rfl
set_option maxRecDepth 100000 in
theorem zm_147 (n : Nat) : (zt_T n).2.2.1[147]? = some zt_m147 := rfl
set_option maxRecDepth 100000 in
theorem zdp_147 (n : Nat) : (zt_T n).2.2.2[147]? = some 3 := rfl
set_option maxRecDepth 100000 in
theorem zm_148 (n : Nat) : (zt_T n).2.2.1[148]? = some zt_m148 := rfl
set_option maxRecDepth 100000 in
theorem zdp_148 (n : Nat) : (zt_T n).2.2.2[148]? = some 2 := rfl
set_option maxRecDepth 100000 in
theorem zm_149 (n : Nat) : (zt_T n).2.2.1[149]? = some zt_m149 := rfl
set_option maxRecDepth 100000 in
theorem zdp_149 (n : Nat) : (zt_T n).2.2.2[149]? = some 0 := rfl
set_option maxRecDepth 100000 in
theorem zm_150 (n : Nat) : (zt_T n).2.2.1[150]? = some zt_m150 := rfl
set_option maxRecDepth 100000 in
theorem zdp_150 (n : Nat) : (zt_T n).2.2.2[150]? = some 2 := rfl
set_option maxRecDepth 100000 in
theorem zm_151 (n : Nat) : (zt_T n).2.2.1[151]? = some zt_m151 := rfl
set_option maxRecDepth 100000 in
theorem zdp_151 (n : Nat) : (zt_T n).2.2.2[151]? = some 2 := rfl
set_option maxRecDepth 100000 in
theorem zm_152 (n : Nat) : (zt_T n).2.2.1[152]? = some zt_m152 := rfl
set_option maxRecDepth 100000 in
theorem zdp_152 (n : Nat) : (zt_T n).2.2.2[152]? = some 2 := rfl
set_option maxRecDepth 100000 in
theorem zm_153 (n : Nat) : (zt_T n).2.2.1[153]? = some zt_m153 := rfl
set_option maxRecDepth 100000 in
theorem zdp_153 (n : Nat) : (zt_T n).2.2.2[153]? = some 8 := rfl
set_option maxRecDepth 100000 in
theorem zm_154 (n : Nat) : (zt_T n).2.2.1[154]? = some zt_m154 := rfl
set_option maxRecDepth 100000 in
theorem zdp_154 (n : Nat) : (zt_T n).2.2.2[154]? = some 2 := rfl
set_option maxRecDepth 100000 in
theorem zm_155 (n : Nat) : (zt_T n).2.2.1[155]? = some zt_m155 := rfl
set_option maxRecDepth 100000 in
theorem zdp_155 (n : Nat) : (zt_T n).2.2.2[155]? = some 2 := rfl
set_option maxRecDepth 100000 in
theorem zm_156 (n : Nat) : (zt_T n).2.2.1[156]? = some zt_m156 := rfl
set_option maxRecDepth 100000 in
theorem zdp_156 (n : Nat) : (zt_T n).2.2.2[156]? = some 1 := rfl
set_option maxRecDepth 100000 in
theorem zm_157 (n : Nat) : (zt_T n).2.2.1[157]? = some zt_m157 := rfl
set_option maxRecDepth 100000 in
theorem zdp_157 (n : Nat) : (zt_T n).2.2.2[157]? = some 3 := rfl
set_option maxRecDepth 100000 in
theorem zm_158 (n : Nat) : (zt_T n).2.2.1[158]? = some zt_m158 := rfl
set_option maxRecDepth 100000 in
theorem zdp_158 (n : Nat) : (zt_T n).2.2.2[158]? = some 6 := rfl
set_option maxRecDepth 100000 in
theorem zm_159 (n : Nat) : (zt_T n).2.2.1[159]? = some zt_m159 := rfl
set_option maxRecDepth 100000 in
theorem zdp_159 (n : Nat) : (zt_T n).2.2.2[159]? = some 8 := rfl
set_option maxRecDepth 100000 in
theorem zm_160 (n : Nat) : (zt_T n).2.2.1[160]? = some zt_m160 := rfl
set_option maxRecDepth 100000 in
theorem zdp_160 (n : Nat) : (zt_T n).2.2.2[160]? = some 9 := rfl
set_option maxRecDepth 100000 in
theorem zm_161 (n : Nat) : (zt_T n).2.2.1[161]? = some zt_m161 := rfl
set_option maxRecDepth 100000 in
theorem zdp_161 (n : Nat) : (zt_T n).2.2.2[161]? = some 10 := rfl
set_option maxRecDepth 100000 in
theorem zm_162 (n : Nat) : (zt_T n).2.2.1[162]? = some zt_m162 := rfl
set_option maxRecDepth 100000 in
theorem zdp_162 (n : Nat) : (zt_T n).2.2.2[162]? = some 9 := rfl
set_option maxRecDepth 100000 in
theorem zm_163 (n : Nat) : (zt_T n).2.2.1[163]? = some zt_m163 := rfl
set_option maxRecDepth 100000 in
theorem zdp_163 (n : Nat) : (zt_T n).2.2.2[163]? = some 9 := rfl
set_option maxRecDepth 100000 in
theorem zm_164 (n : Nat) : (zt_T n).2.2.1[164]? = some zt_m164 := rfl
set_option maxRecDepth 100000 in
theorem zdp_164 (n : Nat) : (zt_T n).2.2.2[164]? = some 10 := rfl
set_option maxRecDepth 100000 in
theorem zm_165 (n : Nat) : (zt_T n).2.2.1[165]? = some zt_m165 := rfl
set_option maxRecDepth 100000 in
theorem zdp_165 (n : Nat) : (zt_T n).2.2.2[165]? = some 10 := rfl
set_option maxRecDepth 100000 in
theorem zm_166 (n : Nat) : (zt_T n).2.2.1[166]? = some zt_m166 := rfl
set_option maxRecDepth 100000 in
theorem zdp_166 (n : Nat) : (zt_T n).2.2.2[166]? = some 1 := rfl
set_option maxRecDepth 100000 in
theorem zm_167 (n : Nat) : (zt_T n).2.2.1[167]? = some zt_m167 := rfl
set_option maxRecDepth 100000 in
theorem zdp_167 (n : Nat) : (zt_T n).2.2.2[167]? = some 0 := rfl
set_option maxRecDepth 100000 in
theorem zm_168 (n : Nat) : (zt_T n).2.2.1[168]? = some zt_m168 := rfl
set_option maxRecDepth 100000 in
theorem zdp_168 (n : Nat) : (zt_T n).2.2.2[168]? = some 1 := rfl
set_option maxRecDepth 100000 in
theorem zm_169 (n : Nat) : (zt_T n).2.2.1[169]? = some zt_m169 := rfl
set_option maxRecDepth 100000 in
theorem zdp_169 (n : Nat) : (zt_T n).2.2.2[169]? = some 2 := rfl
set_option maxRecDepth 100000 in
theorem zm_170 (n : Nat) : (zt_T n).2.2.1[170]? = some zt_m170 := rfl
set_option maxRecDepth 100000 in
theorem zdp_170 (n : Nat) : (zt_T n).2.2.2[170]? = some 3 := rfl
set_option maxRecDepth 100000 in
theorem zm_171 (n : Nat) : (zt_T n).2.2.1[171]? = some zt_m171 := rfl
set_option maxRecDepth 100000 in
theorem zdp_171 (n : Nat) : (zt_T n).2.2.2[171]? = some 3 := rfl
set_option maxRecDepth 100000 in
theorem zm_172 (n : Nat) : (zt_T n).2.2.1[172]? = some zt_m172 := rfl
set_option maxRecDepth 100000 in
theorem zdp_172 (n : Nat) : (zt_T n).2.2.2[172]? = some 5 := rfl
set_option maxRecDepth 100000 in
theorem zm_173 (n : Nat) : (zt_T n).2.2.1[173]? = some zt_m173 := rfl
set_option maxRecDepth 100000 in
theorem zdp_173 (n : Nat) : (zt_T n).2.2.2[173]? = some 5 := rfl
set_option maxRecDepth 100000 in
theorem zm_174 (n : Nat) : (zt_T n).2.2.1[174]? = some zt_m174 := rfl
set_option maxRecDepth 100000 in
theorem zdp_174 (n : Nat) : (zt_T n).2.2.2[174]? = some 5 := rfl
set_option maxRecDepth 100000 in
theorem zm_175 (n : Nat) : (zt_T n).2.2.1[175]? = some zt_m175 := rfl
set_option maxRecDepth 100000 in
theorem zdp_175 (n : Nat) : (zt_T n).2.2.2[175]? = some 5 := rfl
set_option maxRecDepth 100000 in
theorem zm_176 (n : Nat) : (zt_T n).2.2.1[176]? = some zt_m176 := rfl
set_option maxRecDepth 100000 in
theorem zdp_176 (n : Nat) : (zt_T n).2.2.2[176]? = some 6 := rfl
set_option maxRecDepth 100000 in
theorem zm_177 (n : Nat) : (zt_T n).2.2.1[177]? = some zt_m177 := rfl
set_option maxRecDepth 100000 in
theorem zdp_177 (n : Nat) : (zt_T n).2.2.2[177]? = some 5 := rfl
set_option maxRecDepth 100000 in
theorem zm_178 (n : Nat) : (zt_T n).2.2.1[178]? = some zt_m178 := rfl
set_option maxRecDepth 100000 in
theorem zdp_178 (n : Nat) : (zt_T n).2.2.2[178]? = some 0 := rfl
set_option maxRecDepth 100000 in
theorem zm_179 (n : Nat) : (zt_T n).2.2.1[179]? = some zt_m179 := rfl
set_option maxRecDepth 100000 in
theorem zdp_179 (n : Nat) : (zt_T n).2.2.2[179]? = some 1 := rfl
set_option maxRecDepth 100000 in
theorem zm_180 (n : Nat) : (zt_T n).2.2.1[180]? = some zt_m180 := rfl
set_option maxRecDepth 100000 in
theorem zdp_180 (n : Nat) : (zt_T n).2.2.2[180]? = some 1 := rfl
set_option maxRecDepth 100000 in
theorem zm_181 (n : Nat) : (zt_T n).2.2.1[181]? = some zt_m181 := rfl
set_option maxRecDepth 100000 in
theorem zdp_181 (n : Nat) : (zt_T n).2.2.2[181]? = some 1 := rfl
set_option maxRecDepth 100000 in
theorem zm_182 (n : Nat) : (zt_T n).2.2.1[182]? = some zt_m182 := rfl
set_option maxRecDepth 100000 in
theorem zdp_182 (n : Nat) : (zt_T n).2.2.2[182]? = some 0 := rfl
set_option maxRecDepth 100000 in
theorem zm_183 (n : Nat) : (zt_T n).2.2.1[183]? = some zt_m183 := rfl
set_option maxRecDepth 100000 in
theorem zdp_183 (n : Nat) : (zt_T n).2.2.2[183]? = some 1 := rfl
set_option maxRecDepth 100000 in
theorem zm_184 (n : Nat) : (zt_T n).2.2.1[184]? = some zt_m184 := rfl
set_option maxRecDepth 100000 in
theorem zdp_184 (n : Nat) : (zt_T n).2.2.2[184]? = some 8 := rfl
set_option maxRecDepth 100000 in
theorem zm_185 (n : Nat) : (zt_T n).2.2.1[185]? = some zt_m185 := rfl
set_option maxRecDepth 100000 in
theorem zdp_185 (n : Nat) : (zt_T n).2.2.2[185]? = some 8 := rfl
set_option maxRecDepth 100000 in
theorem zm_186 (n : Nat) : (zt_T n).2.2.1[186]? = some zt_m186 := rfl
set_option maxRecDepth 100000 in
theorem zdp_186 (n : Nat) : (zt_T n).2.2.2[186]? = some 0 := rfl
set_option maxRecDepth 100000 in
theorem zm_187 (n : Nat) : (zt_T n).2.2.1[187]? = some zt_m187 := rfl
set_option maxRecDepth 100000 in
theorem zdp_187 (n : Nat) : (zt_T n).2.2.2[187]? = some 9 := rfl
set_option maxRecDepth 100000 in
theorem zm_188 (n : Nat) : (zt_T n).2.2.1[188]? = some zt_m188 := rfl
set_option maxRecDepth 100000 in
theorem zdp_188 (n : Nat) : (zt_T n).2.2.2[188]? = some 0 := rfl
set_option maxRecDepth 100000 in
theorem zm_189 (n : Nat) : (zt_T n).2.2.1[189]? = some zt_m189 := rfl
set_option maxRecDepth 100000 in
theorem zdp_189 (n : Nat) : (zt_T n).2.2.2[189]? = some 0 := rfl
set_option maxRecDepth 100000 in
theorem zm_190 (n : Nat) : (zt_T n).2.2.1[190]? = some zt_m190 := rfl
set_option maxRecDepth 100000 in
theorem zdp_190 (n : Nat) : (zt_T n).2.2.2[190]? = some 1 := rfl
set_option maxRecDepth 100000 in
theorem zm_191 (n : Nat) : (zt_T n).2.2.1[191]? = some zt_m191 := rfl
set_option maxRecDepth 100000 in
theorem zdp_191 (n : Nat) : (zt_T n).2.2.2[191]? = some 1 := rfl
set_option maxRecDepth 100000 in
theorem zm_192 (n : Nat) : (zt_T n).2.2.1[192]? = some zt_m192 := rfl
set_option maxRecDepth 100000 in
theorem zdp_192 (n : Nat) : (zt_T n).2.2.2[192]? = some 1 := rfl
set_option maxRecDepth 100000 in
theorem zm_193 (n : Nat) : (zt_T n).2.2.1[193]? = some zt_m193 := rfl
set_option maxRecDepth 100000 in
theorem zdp_193 (n : Nat) : (zt_T n).2.2.2[193]? = some 1 := rfl
set_option maxRecDepth 100000 in
theorem zm_194 (n : Nat) : (zt_T n).2.2.1[194]? = some zt_m194 := rfl
set_option maxRecDepth 100000 in
theorem zdp_194 (n : Nat) : (zt_T n).2.2.2[194]? = some 0 := rfl
set_option maxRecDepth 100000 in
theorem zm_195 (n : Nat) : (zt_T n).2.2.1[195]? = some zt_m195 := rfl
set_option maxRecDepth 100000 in
theorem zdp_195 (n : Nat) : (zt_T n).2.2.2[195]? = some 2 := rfl
set_option maxRecDepth 100000 in
theorem zm_196 (n : Nat) : (zt_T n).2.2.1[196]? = some zt_m196 := rfl
set_option maxRecDepth 100000 in
theorem zdp_196 (n : Nat) : (zt_T n).2.2.2[196]? = some 0 := rfl
set_option maxRecDepth 100000 in
theorem zm_197 (n : Nat) : (zt_T n).2.2.1[197]? = some zt_m197 := rfl
set_option maxRecDepth 100000 in
theorem zdp_197 (n : Nat) : (zt_T n).2.2.2[197]? = some 0 := rfl
set_option maxRecDepth 100000 in
theorem zm_198 (n : Nat) : (zt_T n).2.2.1[198]? = some zt_m198 := rfl
set_option maxRecDepth 100000 in
theorem zdp_198 (n : Nat) : (zt_T n).2.2.2[198]? = some 3 := rfl
set_option maxRecDepth 100000 in
theorem zm_199 (n : Nat) : (zt_T n).2.2.1[199]? = some zt_m199 := rfl
set_option maxRecDepth 100000 in
theorem zdp_199 (n : Nat) : (zt_T n).2.2.2[199]? = some 2 := rfl
set_option maxRecDepth 100000 in
theorem zm_200 (n : Nat) : (zt_T n).2.2.1[200]? = some zt_m200 := rfl
set_option maxRecDepth 100000 in
theorem zdp_200 (n : Nat) : (zt_T n).2.2.2[200]? = some 1 := rfl
set_option maxRecDepth 100000 in
theorem zm_201 (n : Nat) : (zt_T n).2.2.1[201]? = some zt_m201 := rfl
set_option maxRecDepth 100000 in
theorem zdp_201 (n : Nat) : (zt_T n).2.2.2[201]? = some 1 := rfl
set_option maxRecDepth 100000 in
theorem zm_202 (n : Nat) : (zt_T n).2.2.1[202]? = some zt_m202 := rfl
set_option maxRecDepth 100000 in
theorem zdp_202 (n : Nat) : (zt_T n).2.2.2[202]? = some 2 := rfl
set_option maxRecDepth 100000 in
theorem zm_203 (n : Nat) : (zt_T n).2.2.1[203]? = some zt_m203 := rfl
set_option maxRecDepth 100000 in
theorem zdp_203 (n : Nat) : (zt_T n).2.2.2[203]? = some 1 := rfl
set_option maxRecDepth 100000 in
theorem zm_204 (n : Nat) : (zt_T n).2.2.1[204]? = some zt_m204 := rfl
set_option maxRecDepth 100000 in
theorem zdp_204 (n : Nat) : (zt_T n).2.2.2[204]? = some 0 := rfl
set_option maxRecDepth 100000 in
theorem zm_205 (n : Nat) : (zt_T n).2.2.1[205]? = some zt_m205 := rfl
set_option maxRecDepth 100000 in
theorem zdp_205 (n : Nat) : (zt_T n).2.2.2[205]? = some 0 := rfl
set_option maxRecDepth 100000 in
theorem zm_206 (n : Nat) : (zt_T n).2.2.1[206]? = some zt_m206 := rfl
set_option maxRecDepth 100000 in
theorem zdp_206 (n : Nat) : (zt_T n).2.2.2[206]? = some 1 := rfl
set_option maxRecDepth 100000 in
theorem zm_207 (n : Nat) : (zt_T n).2.2.1[207]? = some zt_m207 := rfl
set_option maxRecDepth 100000 in
theorem zdp_207 (n : Nat) : (zt_T n).2.2.2[207]? = some 0 := rfl
set_option maxRecDepth 100000 in
theorem zm_208 (n : Nat) : (zt_T n).2.2.1[208]? = some zt_m208 := rfl
set_option maxRecDepth 100000 in
theorem zdp_208 (n : Nat) : (zt_T n).2.2.2[208]? = some 0 := rfl
set_option maxRecDepth 100000 in
theorem zm_209 (n : Nat) : (zt_T n).2.2.1[209]? = some zt_m209 := rfl
set_option maxRecDepth 100000 in
theorem zdp_209 (n : Nat) : (zt_T n).2.2.2[209]? = some 0 := rfl
set_option maxRecDepth 100000 in
theorem zm_210 (n : Nat) : (zt_T n).2.2.1[210]? = some zt_m210 := rfl
set_option maxRecDepth 100000 in
theorem zdp_210 (n : Nat) : (zt_T n).2.2.2[210]? = some 0 := rfl
set_option maxRecDepth 100000 in
theorem zm_211 (n : Nat) : (zt_T n).2.2.1[211]? = some zt_m211 := rfl
set_option maxRecDepth 100000 in
theorem zdp_211 (n : Nat) : (zt_T n).2.2.2[211]? = some 0 := rfl
set_option maxRecDepth 100000 in
theorem zm_212 (n : Nat) : (zt_T n).2.2.1[212]? = some zt_m212 := rfl
set_option maxRecDepth 100000 in
theorem zdp_212 (n : Nat) : (zt_T n).2.2.2[212]? = some 0 := rfl
set_option maxRecDepth 100000 in
theorem zm_213 (n : Nat) : (zt_T n).2.2.1[213]? = some zt_m213 := rfl
set_option maxRecDepth 100000 in
theorem zdp_213 (n : Nat) : (zt_T n).2.2.2[213]? = some 0 := rfl
set_option maxRecDepth 100000 in
theorem zm_214 (n : Nat) : (zt_T n).2.2.1[214]? = some zt_m214 := rfl
set_option maxRecDepth 100000 in
theorem zdp_214 (n : Nat) : (zt_T n).2.2.2[214]? = some 4 := rfl
set_option maxRecDepth 100000 in
theorem zm_215 (n : Nat) : (zt_T n).2.2.1[215]? = some zt_m215 := rfl
set_option maxRecDepth 100000 in
theorem zdp_215 (n : Nat) : (zt_T n).2.2.2[215]? = some 0 := rfl
set_option maxRecDepth 100000 in
theorem zm_216 (n : Nat) : (zt_T n).2.2.1[216]? = some zt_m216 := rfl
set_option maxRecDepth 100000 in
theorem zdp_216 (n : Nat) : (zt_T n).2.2.2[216]? = some 3 := rfl
set_option maxRecDepth 100000 in
theorem zm_217 (n : Nat) : (zt_T n).2.2.1[217]? = some zt_m217 := rfl
set_option maxRecDepth 100000 in
theorem zdp_217 (n : Nat) : (zt_T n).2.2.2[217]? = some 0 := rfl
set_option maxRecDepth 100000 in
theorem zm_218 (n : Nat) : (zt_T n).2.2.1[218]? = some zt_m218 := rfl
set_option maxRecDepth 100000 in
theorem zdp_218 (n : Nat) : (zt_T n).2.2.2[218]? = some 0 := rfl
set_option maxRecDepth 100000 in
theorem zm_219 (n : Nat) : (zt_T n).2.2.1[219]? = some zt_m219 := rfl
set_option maxRecDepth 100000 in
theorem zdp_219 (n : Nat) : (zt_T n).2.2.2[219]? = some 2 := rfl
set_option maxRecDepth 100000 in
theorem zm_220 (n : Nat) : (zt_T n).2.2.1[220]? = some zt_m220 := rfl
set_option maxRecDepth 100000 in
theorem zdp_220 (n : Nat) : (zt_T n).2.2.2[220]? = some 1 := rfl
set_option maxRecDepth 100000 in
theorem zm_221 (n : Nat) : (zt_T n).2.2.1[221]? = some zt_m221 := rfl
set_option maxRecDepth 100000 in
theorem zdp_221 (n : Nat) : (zt_T n).2.2.2[221]? = some 1 := rfl
set_option maxRecDepth 100000 in
theorem zm_222 (n : Nat) : (zt_T n).2.2.1[222]? = some zt_m222 := rfl
set_option maxRecDepth 100000 in
theorem zdp_222 (n : Nat) : (zt_T n).2.2.2[222]? = some 0 := rfl
set_option maxRecDepth 100000 in
theorem zm_223 (n : Nat) : (zt_T n).2.2.1[223]? = some zt_m223 := rfl
set_option maxRecDepth 100000 in
theorem zdp_223 (n : Nat) : (zt_T n).2.2.2[223]? = some 1 := rfl
set_option maxRecDepth 100000 in
theorem zm_224 (n : Nat) : (zt_T n).2.2.1[224]? = some zt_m224 := rfl
set_option maxRecDepth 100000 in
theorem zdp_224 (n : Nat) : (zt_T n).2.2.2[224]? = some 1 := rfl
set_option maxRecDepth 100000 in
theorem zm_225 (n : Nat) : (zt_T n).2.2.1[225]? = some zt_m225 := rfl
set_option maxRecDepth 100000 in
theorem zdp_225 (n : Nat) : (zt_T n).2.2.2[225]? = some 3 := rfl
set_option maxRecDepth 100000 in
theorem zm_226 (n : Nat) : (zt_T n).2.2.1[226]? = some zt_m226 := rfl
set_option maxRecDepth 100000 in
theorem zdp_226 (n : Nat) : (zt_T n).2.2.2[226]? = some 3 := rfl
set_option maxRecDepth 100000 in
theorem zm_227 (n : Nat) : (zt_T n).2.2.1[227]? = some zt_m227 := rfl
set_option maxRecDepth 100000 in
theorem zdp_227 (n : Nat) : (zt_T n).2.2.2[227]? = some 3 := rfl
set_option maxRecDepth 100000 in
theorem zm_228 (n : Nat) : (zt_T n).2.2.1[228]? = some zt_m228 := rfl
set_option maxRecDepth 100000 in
theorem zdp_228 (n : Nat) : (zt_T n).2.2.2[228]? = some 1 := rfl
set_option maxRecDepth 100000 in
theorem zm_229 (n : Nat) : (zt_T n).2.2.1[229]? = some zt_m229 := rfl
set_option maxRecDepth 100000 in
theorem zdp_229 (n : Nat) : (zt_T n).2.2.2[229]? = some 3 := rfl
set_option maxRecDepth 100000 in
theorem zm_230 (n : Nat) : (zt_T n).2.2.1[230]? = some zt_m230 := rfl
set_option maxRecDepth 100000 in
theorem zdp_230 (n : Nat) : (zt_T n).2.2.2[230]? = some 3 := rfl
set_option maxRecDepth 100000 in
theorem zm_231 (n : Nat) : (zt_T n).2.2.1[231]? = some zt_m231 := rfl
set_option maxRecDepth 100000 in
theorem zdp_231 (n : Nat) : (zt_T n).2.2.2[231]? = some 0 := rfl
set_option maxRecDepth 100000 in
theorem zm_232 (n : Nat) : (zt_T n).2.2.1[232]? = some zt_m232 := rfl
set_option maxRecDepth 100000 in
theorem zdp_232 (n : Nat) : (zt_T n).2.2.2[232]? = some 0 := rfl
set_option maxRecDepth 100000 in
theorem zm_233 (n : Nat) : (zt_T n).2.2.1[233]? = some zt_m233 := rfl
set_option maxRecDepth 100000 in
theorem zdp_233 (n : Nat) : (zt_T n).2.2.2[233]? = some 0 := rfl
set_option maxRecDepth 100000 in
theorem zm_234 (n : Nat) : (zt_T n).2.2.1[234]? = some zt_m234 := rfl
set_option maxRecDepth 100000 in
theorem zdp_234 (n : Nat) : (zt_T n).2.2.2[234]? = some 0 := rfl
set_option maxRecDepth 100000 in
theorem zm_235 (n : Nat) : (zt_T n).2.2.1[235]? = some zt_m235 := rfl
set_option maxRecDepth 100000 in
theorem zdp_235 (n : Nat) : (zt_T n).2.2.2[235]? = some 0 := rfl
set_option maxRecDepth 100000 in
theorem zm_236 (n : Nat) : (zt_T n).2.2.1[236]? = some zt_m236 := rfl
set_option maxRecDepth 100000 in
theorem zdp_236 (n : Nat) : (zt_T n).2.2.2[236]? = some 0 := rfl
set_option maxRecDepth 100000 in
theorem zm_237 (n : Nat) : (zt_T n).2.2.1[237]? = some zt_m237 := rfl
set_option maxRecDepth 100000 in
theorem zdp_237 (n : Nat) : (zt_T n).2.2.2[237]? = some 4 := rfl
set_option maxRecDepth 100000 in
theorem zm_238 (n : Nat) : (zt_T n).2.2.1[238]? = some zt_m238 := rfl
set_option maxRecDepth 100000 in
theorem zdp_238 (n : Nat) : (zt_T n).2.2.2[238]? = some 0 := rfl
set_option maxRecDepth 100000 in
theorem zm_239 (n : Nat) : (zt_T n).2.2.1[239]? = some zt_m239 := rfl
set_option maxRecDepth 100000 in
theorem zdp_239 (n : Nat) : (zt_T n).2.2.2[239]? = some 1 := rfl
set_option maxRecDepth 100000 in
theorem zm_240 (n : Nat) : (zt_T n).2.2.1[240]? = some zt_m240 := rfl
set_option maxRecDepth 100000 in
theorem zdp_240 (n : Nat) : (zt_T n).2.2.2[240]? = some 1 := rfl
set_option maxRecDepth 100000 in
theorem zm_241 (n : Nat) : (zt_T n).2.2.1[241]? = some zt_m241 := rfl
set_option maxRecDepth 100000 in
theorem zdp_241 (n : Nat) : (zt_T n).2.2.2[241]? = some 5 := rfl
set_option maxRecDepth 100000 in
theorem zm_242 (n : Nat) : (zt_T n).2.2.1[242]? = some zt_m242 := rfl
set_option maxRecDepth 100000 in
theorem zdp_242 (n : Nat) : (zt_T n).2.2.2[242]? = some 4 := rfl
set_option maxRecDepth 100000 in
theorem zm_243 (n : Nat) : (zt_T n).2.2.1[243]? = some zt_m243 := rfl
set_option maxRecDepth 100000 in
theorem zdp_243 (n : Nat) : (zt_T n).2.2.2[243]? = some 4 := rfl
set_option maxRecDepth 100000 in
theorem zm_244 (n : Nat) : (zt_T n).2.2.1[244]? = some zt_m244 := rfl
set_option maxRecDepth 100000 in
theorem zdp_244 (n : Nat) : (zt_T n).2.2.2[244]? = some 0 := rfl
set_option maxRecDepth 100000 in
theorem zm_245 (n : Nat) : (zt_T n).2.2.1[245]? = some zt_m245 := rfl
set_option maxRecDepth 100000 in
theorem zdp_245 (n : Nat) : (zt_T n).2.2.2[245]? = some 0 := rfl
set_option maxRecDepth 100000 in
theorem zm_246 (n : Nat) : (zt_T n).2.2.1[246]? = some zt_m246 := rfl
set_option maxRecDepth 100000 in
theorem zdp_246 (n : Nat) : (zt_T n).2.2.2[246]? = some 0 := rfl
set_option maxRecDepth 100000 in
theorem zm_247 (n : Nat) : (zt_T n).2.2.1[247]? = some zt_m247 := rfl
set_option maxRecDepth 100000 in
theorem zdp_247 (n : Nat) : (zt_T n).2.2.2[247]? = some 0 := rfl
set_option maxRecDepth 100000 in
theorem zm_248 (n : Nat) : (zt_T n).2.2.1[248]? = some zt_m248 := rfl
set_option maxRecDepth 100000 in
theorem zdp_248 (n : Nat) : (zt_T n).2.2.2[248]? = some 0 := rfl
set_option maxRecDepth 100000 in
theorem zm_249 (n : Nat) : (zt_T n).2.2.1[249]? = some zt_m249 := rfl
set_option maxRecDepth 100000 in
theorem zdp_249 (n : Nat) : (zt_T n).2.2.2[249]? = some 2 := rfl
set_option maxRecDepth 100000 in
theorem zm_250 (n : Nat) : (zt_T n).2.2.1[250]? = some zt_m250 := rfl
set_option maxRecDepth 100000 in
theorem zdp_250 (n : Nat) : (zt_T n).2.2.2[250]? = some 2 := rfl
set_option maxRecDepth 100000 in
theorem zm_251 (n : Nat) : (zt_T n).2.2.1[251]? = some zt_m251 := rfl
set_option maxRecDepth 100000 in
theorem zdp_251 (n : Nat) : (zt_T n).2.2.2[251]? = some 2 := rfl
set_option maxRecDepth 100000 in
theorem zm_252 (n : Nat) : (zt_T n).2.2.1[252]? = some zt_m252 := rfl
set_option maxRecDepth 100000 in
theorem zdp_252 (n : Nat) : (zt_T n).2.2.2[252]? = some 2 := rfl
set_option maxRecDepth 100000 in
theorem zm_253 (n : Nat) : (zt_T n).2.2.1[253]? = some zt_m253 := rfl
set_option maxRecDepth 100000 in
theorem zdp_253 (n : Nat) : (zt_T n).2.2.2[253]? = some 0 := rfl
set_option maxRecDepth 100000 in
theorem zm_254 (n : Nat) : (zt_T n).2.2.1[254]? = some zt_m254 := rfl
set_option maxRecDepth 100000 in
theorem zdp_254 (n : Nat) : (zt_T n).2.2.2[254]? = some 0 := rfl
set_option maxRecDepth 100000 in
theorem zm_255 (n : Nat) : (zt_T n).2.2.1[255]? = some zt_m255 := rfl
set_option maxRecDepth 100000 in
theorem zdp_255 (n : Nat) : (zt_T n).2.2.2[255]? = some 1 := rfl
set_option maxRecDepth 100000 in
theorem zm_256 (n : Nat) : (zt_T n).2.2.1[256]? = some zt_m256 := rfl
set_option maxRecDepth 100000 in
theorem zdp_256 (n : Nat) : (zt_T n).2.2.2[256]? = some 0 := rfl
set_option maxRecDepth 100000 in
theorem zm_257 (n : Nat) : (zt_T n).2.2.1[257]? = some zt_m257 := rfl
set_option maxRecDepth 100000 in
theorem zdp_257 (n : Nat) : (zt_T n).2.2.2[257]? = some 0 := rfl
set_option maxRecDepth 100000 in
theorem zm_258 (n : Nat) : (zt_T n).2.2.1[258]? = some zt_m258 := rfl
set_option maxRecDepth 100000 in
theorem zdp_258 (n : Nat) : (zt_T n).2.2.2[258]? = some 5 := rfl
set_option maxRecDepth 100000 in
theorem zm_259 (n : Nat) : (zt_T n).2.2.1[259]? = some zt_m259 := rfl
set_option maxRecDepth 100000 in
theorem zdp_259 (n : Nat) : (zt_T n).2.2.2[259]? = some 2 := rfl
set_option maxRecDepth 100000 in
theorem zm_260 (n : Nat) : (zt_T n).2.2.1[260]? = some zt_m260 := rfl
set_option maxRecDepth 100000 in
theorem zdp_260 (n : Nat) : (zt_T n).2.2.2[260]? = some 2 := rfl
set_option maxRecDepth 100000 in
theorem zm_261 (n : Nat) : (zt_T n).2.2.1[261]? = some zt_m261 := rfl
set_option maxRecDepth 100000 in
theorem zdp_261 (n : Nat) : (zt_T n).2.2.2[261]? = some 2 := rfl
set_option maxRecDepth 100000 in
theorem zm_262 (n : Nat) : (zt_T n).2.2.1[262]? = some zt_m262 := rfl
set_option maxRecDepth 100000 in
theorem zdp_262 (n : Nat) : (zt_T n).2.2.2[262]? = some 3 := rfl
set_option maxRecDepth 100000 in
theorem zm_263 (n : Nat) : (zt_T n).2.2.1[263]? = some zt_m263 := rfl
set_option maxRecDepth 100000 in
theorem zdp_263 (n : Nat) : (zt_T n).2.2.2[263]? = some 1 := rfl
set_option maxRecDepth 100000 in
theorem zm_264 (n : Nat) : (zt_T n).2.2.1[264]? = some zt_m264 := rfl
set_option maxRecDepth 100000 in
theorem zdp_264 (n : Nat) : (zt_T n).2.2.2[264]? = some 3 := rfl
set_option maxRecDepth 100000 in
theorem zm_265 (n : Nat) : (zt_T n).2.2.1[265]? = some zt_m265 := rfl
set_option maxRecDepth 100000 in
theorem zdp_265 (n : Nat) : (zt_T n).2.2.2[265]? = some 4 := rfl
set_option maxRecDepth 100000 in
theorem zm_266 (n : Nat) : (zt_T n).2.2.1[266]? = some zt_m266 := rfl
set_option maxRecDepth 100000 in
theorem zdp_266 (n : Nat) : (zt_T n).2.2.2[266]? = some 4 := rfl
set_option maxRecDepth 100000 in
theorem zm_267 (n : Nat) : (zt_T n).2.2.1[267]? = some zt_m267 := rfl
set_option maxRecDepth 100000 in
theorem zdp_267 (n : Nat) : (zt_T n).2.2.2[267]? = some 4 := rfl
set_option maxRecDepth 100000 in
theorem zm_268 (n : Nat) : (zt_T n).2.2.1[268]? = some zt_m268 := rfl
set_option maxRecDepth 100000 in
theorem zdp_268 (n : Nat) : (zt_T n).2.2.2[268]? = some 3 := rfl
set_option maxRecDepth 100000 in
theorem zm_269 (n : Nat) : (zt_T n).2.2.1[269]? = some zt_m269 := rfl
set_option maxRecDepth 100000 in
theorem zdp_269 (n : Nat) : (zt_T n).2.2.2[269]? = some 0 := rfl
set_option maxRecDepth 100000 in
theorem zm_270 (n : Nat) : (zt_T n).2.2.1[270]? = some zt_m270 := rfl
set_option maxRecDepth 100000 in
theorem zdp_270 (n : Nat) : (zt_T n).2.2.2[270]? = some 4 := rfl
set_option maxRecDepth 100000 in
theorem zm_271 (n : Nat) : (zt_T n).2.2.1[271]? = some zt_m271 := rfl
set_option maxRecDepth 100000 in
theorem zdp_271 (n : Nat) : (zt_T n).2.2.2[271]? = some 0 := rfl
set_option maxRecDepth 100000 in
theorem zm_272 (n : Nat) : (zt_T n).2.2.1[272]? = some zt_m272 := rfl
set_option maxRecDepth 100000 in
theorem zdp_272 (n : Nat) : (zt_T n).2.2.2[272]? = some 0 := rfl
set_option maxRecDepth 100000 in
theorem zm_273 (n : Nat) : (zt_T n).2.2.1[273]? = some zt_m273 := rfl
set_option maxRecDepth 100000 in
theorem zdp_273 (n : Nat) : (zt_T n).2.2.2[273]? = some 0 := rfl
set_option maxRecDepth 100000 in
theorem zm_274 (n : Nat) : (zt_T n).2.2.1[274]? = some zt_m274 := rfl
set_option maxRecDepth 100000 in
theorem zdp_274 (n : Nat) : (zt_T n).2.2.2[274]? = some 1 := rfl
set_option maxRecDepth 100000 in
theorem zm_275 (n : Nat) : (zt_T n).2.2.1[275]? = some zt_m275 := rfl
set_option maxRecDepth 100000 in
theorem zdp_275 (n : Nat) : (zt_T n).2.2.2[275]? = some 0 := rfl
set_option maxRecDepth 100000 in
theorem zm_276 (n : Nat) : (zt_T n).2.2.1[276]? = some zt_m276 := rfl
set_option maxRecDepth 100000 in
theorem zdp_276 (n : Nat) : (zt_T n).2.2.2[276]? = some 1 := rfl
set_option maxRecDepth 100000 in
theorem zm_277 (n : Nat) : (zt_T n).2.2.1[277]? = some zt_m277 := rfl
set_option maxRecDepth 100000 in
theorem zdp_277 (n : Nat) : (zt_T n).2.2.2[277]? = some 1 := rfl
set_option maxRecDepth 100000 in
theorem zm_278 (n : Nat) : (zt_T n).2.2.1[278]? = some zt_m278 := rfl
set_option maxRecDepth 100000 in
theorem zdp_278 (n : Nat) : (zt_T n).2.2.2[278]? = some 0 := rfl
set_option maxRecDepth 100000 in
theorem zm_279 (n : Nat) : (zt_T n).2.2.1[279]? = some zt_m279 := rfl
set_option maxRecDepth 100000 in
theorem zdp_279 (n : Nat) : (zt_T n).2.2.2[279]? = some 0 := rfl
set_option maxRecDepth 100000 in
theorem zm_280 (n : Nat) : (zt_T n).2.2.1[280]? = some zt_m280 := rfl
set_option maxRecDepth 100000 in
theorem zdp_280 (n : Nat) : (zt_T n).2.2.2[280]? = some 0 := rfl
set_option maxRecDepth 100000 in
theorem zm_281 (n : Nat) : (zt_T n).2.2.1[281]? = some zt_m281 := rfl
set_option maxRecDepth 100000 in
theorem zdp_281 (n : Nat) : (zt_T n).2.2.2[281]? = some 0 := rfl
set_option maxRecDepth 100000 in
theorem zm_282 (n : Nat) : (zt_T n).2.2.1[282]? = some zt_m282 := rfl
set_option maxRecDepth 100000 in
theorem zdp_282 (n : Nat) : (zt_T n).2.2.2[282]? = some 0 := rfl
set_option maxRecDepth 100000 in
theorem zm_283 (n : Nat) : (zt_T n).2.2.1[283]? = some zt_m283 := rfl
set_option maxRecDepth 100000 in
theorem zdp_283 (n : Nat) : (zt_T n).2.2.2[283]? = some 0 := rfl
set_option maxRecDepth 100000 in
theorem zm_284 (n : Nat) : (zt_T n).2.2.1[284]? = some zt_m284 := rfl
set_option maxRecDepth 100000 in
theorem zdp_284 (n : Nat) : (zt_T n).2.2.2[284]? = some 2 := rfl
set_option maxRecDepth 100000 in
theorem zm_285 (n : Nat) : (zt_T n).2.2.1[285]? = some zt_m285 := rfl
set_option maxRecDepth 100000 in
theorem zdp_285 (n : Nat) : (zt_T n).2.2.2[285]? = some 6 := rfl
set_option maxRecDepth 100000 in
theorem zm_286 (n : Nat) : (zt_T n).2.2.1[286]? = some zt_m286 := rfl
set_option maxRecDepth 100000 in
theorem zdp_286 (n : Nat) : (zt_T n).2.2.2[286]? = some 5 := rfl
set_option maxRecDepth 100000 in
theorem zm_287 (n : Nat) : (zt_T n).2.2.1[287]? = some zt_m287 := rfl
set_option maxRecDepth 100000 in
theorem zdp_287 (n : Nat) : (zt_T n).2.2.2[287]? = some 5 := rfl
set_option maxRecDepth 100000 in
theorem zm_288 (n : Nat) : (zt_T n).2.2.1[288]? = some zt_m288 := rfl
set_option maxRecDepth 100000 in
theorem zdp_288 (n : Nat) : (zt_T n).2.2.2[288]? = some 0 := rfl
set_option maxRecDepth 100000 in
theorem zm_289 (n : Nat) : (zt_T n).2.2.1[289]? = some zt_m289 := rfl
set_option maxRecDepth 100000 in
theorem zdp_289 (n : Nat) : (zt_T n).2.2.2[289]? = some 0 := rfl
set_option maxRecDepth 100000 in
theorem zm_290 (n : Nat) : (zt_T n).2.2.1[290]? = some zt_m290 := rfl
set_option maxRecDepth 100000 in
theorem zdp_290 (n : Nat) : (zt_T n).2.2.2[290]? = some 4 := rfl
set_option maxRecDepth 100000 in
theorem zm_291 (n : Nat) : (zt_T n).2.2.1[291]? = some zt_m291 := rfl
set_option maxRecDepth 100000 in
theorem zdp_291 (n : Nat) : (zt_T n).2.2.2[291]? = some 3 := rfl
set_option maxRecDepth 100000 in
theorem zm_292 (n : Nat) : (zt_T n).2.2.1[292]? = some zt_m292 := rfl
set_option maxRecDepth 100000 in
theorem zdp_292 (n : Nat) : (zt_T n).2.2.2[292]? = some 1 := rfl
set_option maxRecDepth 100000 in
theorem zm_293 (n : Nat) : (zt_T n).2.2.1[293]? = some zt_m293 := rfl
set_option maxRecDepth 100000 in
theorem zdp_293 (n : Nat) : (zt_T n).2.2.2[293]? = some 0 := rfl
set_option maxRecDepth 100000 in
theorem zm_294 (n : Nat) : (zt_T n).2.2.1[294]? = some zt_m294 := rfl
set_option maxRecDepth 100000 in
theorem zdp_294 (n : Nat) : (zt_T n).2.2.2[294]? = some 2 := rfl
set_option maxRecDepth 100000 in
theorem zm_295 (n : Nat) : (zt_T n).2.2.1[295]? = some zt_m295 := rfl
set_option maxRecDepth 100000 in
theorem zdp_295 (n : Nat) : (zt_T n).2.2.2[295]? = some 0 := rfl
set_option maxRecDepth 100000 in
theorem zm_296 (n : Nat) : (zt_T n).2.2.1[296]? = some zt_m296 := rfl
set_option maxRecDepth 100000 in
theorem zdp_296 (n : Nat) : (zt_T n).2.2.2[296]? = some 0 := rfl
set_option maxRecDepth 100000 in
theorem zm_297 (n : Nat) : (zt_T n).2.2.1[297]? = some zt_m297 := rfl
set_option maxRecDepth 100000 in
theorem zdp_297 (n : Nat) : (zt_T n).2.2.2[297]? = some 1 := rfl
set_option maxRecDepth 100000 in
theorem zm_298 (n : Nat) : (zt_T n).2.2.1[298]? = some zt_m298 := rfl
set_option maxRecDepth 100000 in
theorem zdp_298 (n : Nat) : (zt_T n).2.2.2[298]? = some 5 := rfl
set_option maxRecDepth 100000 in
theorem zm_299 (n : Nat) : (zt_T n).2.2.1[299]? = some zt_m299 := rfl
set_option maxRecDepth 100000 in
theorem zdp_299 (n : Nat) : (zt_T n).2.2.2[299]? = some 5 := rfl
set_option maxRecDepth 100000 in
theorem zm_300 (n : Nat) : (zt_T n).2.2.1[300]? = some zt_m300 := rfl
set_option maxRecDepth 100000 in
theorem zdp_300 (n : Nat) : (zt_T n).2.2.2[300]? = some 6 := rfl
set_option maxRecDepth 100000 in
theorem zm_301 (n : Nat) : (zt_T n).2.2.1[301]? = some zt_m301 := rfl
set_option maxRecDepth 100000 in
theorem zdp_301 (n : Nat) : (zt_T n).2.2.2[301]? = some 6 := rfl
set_option maxRecDepth 100000 in
theorem zm_302 (n : Nat) : (zt_T n).2.2.1[302]? = some zt_m302 := rfl
set_option maxRecDepth 100000 in
theorem zdp_302 (n : Nat) : (zt_T n).2.2.2[302]? = some 5 := rfl
set_option maxRecDepth 100000 in
theorem zm_303 (n : Nat) : (zt_T n).2.2.1[303]? = some zt_m303 := rfl
set_option maxRecDepth 100000 in
theorem zdp_303 (n : Nat) : (zt_T n).2.2.2[303]? = some 5 := rfl
set_option maxRecDepth 100000 in
theorem zm_304 (n : Nat) : (zt_T n).2.2.1[304]? = some zt_m304 := rfl
set_option maxRecDepth 100000 in
theorem zdp_304 (n : Nat) : (zt_T n).2.2.2[304]? = some 5 := rfl
set_option maxRecDepth 100000 in
theorem zm_305 (n : Nat) : (zt_T n).2.2.1[305]? = some zt_m305 := rfl
set_option maxRecDepth 100000 in
theorem zdp_305 (n : Nat) : (zt_T n).2.2.2[305]? = some 1 := rfl
set_option maxRecDepth 100000 in
theorem zm_306 (n : Nat) : (zt_T n).2.2.1[306]? = some zt_m306 := rfl
set_option maxRecDepth 100000 in
theorem zdp_306 (n : Nat) : (zt_T n).2.2.2[306]? = some 0 := rfl
set_option maxRecDepth 100000 in
theorem zm_307 (n : Nat) : (zt_T n).2.2.1[307]? = some zt_m307 := rfl
set_option maxRecDepth 100000 in
theorem zdp_307 (n : Nat) : (zt_T n).2.2.2[307]? = some 2 := rfl
set_option maxRecDepth 100000 in
theorem zm_308 (n : Nat) : (zt_T n).2.2.1[308]? = some zt_m308 := rfl
set_option maxRecDepth 100000 in
theorem zdp_308 (n : Nat) : (zt_T n).2.2.2[308]? = some 2 := rfl
set_option maxRecDepth 100000 in
theorem zm_309 (n : Nat) : (zt_T n).2.2.1[309]? = some zt_m309 := rfl
set_option maxRecDepth 100000 in
theorem zdp_309 (n : Nat) : (zt_T n).2.2.2[309]? = some 2 := rfl
set_option maxRecDepth 100000 in
theorem zm_310 (n : Nat) : (zt_T n).2.2.1[310]? = some zt_m310 := rfl
set_option maxRecDepth 100000 in
theorem zdp_310 (n : Nat) : (zt_T n).2.2.2[310]? = some 2 := rfl
set_option maxRecDepth 100000 in
theorem zm_311 (n : Nat) : (zt_T n).2.2.1[311]? = some zt_m311 := rfl
set_option maxRecDepth 100000 in
theorem zdp_311 (n : Nat) : (zt_T n).2.2.2[311]? = some 1 := rfl

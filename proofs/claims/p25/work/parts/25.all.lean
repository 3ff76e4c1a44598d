theorem zt_cd0 : Jvm.Cond.code zt_z0.1 zt_z0.2.1 zt_m0.2.1.2.1 zt_z0.2.2 ∈ lw_tbl := xw_tab_in 1 _ (List.mem_of_getElem? (i := 29) rfl)
theorem zt_cd1 : Jvm.Cond.code zt_z1.1 zt_z1.2.1 zt_m1.2.1.2.1 zt_z1.2.2 ∈ lw_tbl := xw_tab_in 1 _ (List.mem_of_getElem? (i := 37) rfl)
theorem zt_cd2 : Jvm.Cond.code zt_z2.1 zt_z2.2.1 zt_m2.2.1.2.1 zt_z2.2.2 ∈ lw_tbl := xw_tab_in 1 _ (List.mem_of_getElem? (i := 43) rfl)
theorem zt_cd3 : Jvm.Cond.code zt_z3.1 zt_z3.2.1 zt_m3.2.1.2.1 zt_z3.2.2 ∈ lw_tbl := xw_tab_in 1 _ (List.mem_of_getElem? (i := 49) rfl)
theorem zt_cd4 : Jvm.Cond.code zt_z4.1 zt_z4.2.1 zt_m4.2.1.2.1 zt_z4.2.2 ∈ lw_tbl := xw_tab_in 1 _ (List.mem_of_getElem? (i := 144) rfl)
theorem zt_cd5 : Jvm.Cond.code zt_z5.1 zt_z5.2.1 zt_m5.2.1.2.1 zt_z5.2.2 ∈ lw_tbl := xw_tab_in 1 _ (List.mem_of_getElem? (i := 153) rfl)
theorem zt_cd6 : Jvm.Cond.code zt_z6.1 zt_z6.2.1 zt_m6.2.1.2.1 zt_z6.2.2 ∈ lw_tbl := xw_tab_in 1 _ (List.mem_of_getElem? (i := 187) rfl)
theorem zt_cd7 : Jvm.Cond.code zt_z7.1 zt_z7.2.1 zt_m7.2.1.2.1 zt_z7.2.2 ∈ lw_tbl := xw_tab_in 2 _ (List.mem_of_getElem? (i := 73) rfl)
theorem zt_cd8 : Jvm.Cond.code zt_z8.1 zt_z8.2.1 zt_m8.2.1.2.1 zt_z8.2.2 ∈ lw_tbl := xw_tab_in 2 _ (List.mem_of_getElem? (i := 148) rfl)
theorem zt_cd9 : Jvm.Cond.code zt_z9.1 zt_z9.2.1 zt_m9.2.1.2.1 zt_z9.2.2 ∈ lw_tbl := xw_tab_in 2 _ (List.mem_of_getElem? (i := 221) rfl)
theorem zt_cd10 : Jvm.Cond.code zt_z10.1 zt_z10.2.1 zt_m10.2.1.2.1 zt_z10.2.2 ∈ lw_tbl := xw_tab_in 3 _ (List.mem_of_getElem? (i := 14) rfl)
theorem zt_cd11 : Jvm.Cond.code zt_z11.1 zt_z11.2.1 zt_m11.2.1.2.1 zt_z11.2.2 ∈ lw_tbl := xw_tab_in 3 _ (List.mem_of_getElem? (i := 37) rfl)
theorem zt_cd12 : Jvm.Cond.code zt_z12.1 zt_z12.2.1 zt_m12.2.1.2.1 zt_z12.2.2 ∈ lw_tbl := xw_tab_in 3 _ (List.mem_of_getElem? (i := 108) rfl)
theorem zt_cd13 : Jvm.Cond.code zt_z13.1 zt_z13.2.1 zt_m13.2.1.2.1 zt_z13.2.2 ∈ lw_tbl := xw_tab_in 3 _ (List.mem_of_getElem? (i := 112) rfl)
theorem zt_cd14 : Jvm.Cond.code zt_z14.1 zt_z14.2.1 zt_m14.2.1.2.1 zt_z14.2.2 ∈ lw_tbl := xw_tab_in 3 _ (List.mem_of_getElem? (i := 116) rfl)
theorem zt_cd15 : Jvm.Cond.code zt_z15.1 zt_z15.2.1 zt_m15.2.1.2.1 zt_z15.2.2 ∈ lw_tbl := xw_tab_in 3 _ (List.mem_of_getElem? (i := 120) rfl)
theorem zt_cd16 : Jvm.Cond.code zt_z16.1 zt_z16.2.1 zt_m16.2.1.2.1 zt_z16.2.2 ∈ lw_tbl := xw_tab_in 3 _ (List.mem_of_getElem? (i := 124) rfl)
theorem zt_cd17 : Jvm.Cond.code zt_z17.1 zt_z17.2.1 zt_m17.2.1.2.1 zt_z17.2.2 ∈ lw_tbl := xw_tab_in 3 _ (List.mem_of_getElem? (i := 129) rfl)
theorem zt_cd18 : Jvm.Cond.code zt_z18.1 zt_z18.2.1 zt_m18.2.1.2.1 zt_z18.2.2 ∈ lw_tbl := xw_tab_in 3 _ (List.mem_of_getElem? (i := 133) rfl)
theorem zt_cd19 : Jvm.Cond.code zt_z19.1 zt_z19.2.1 zt_m19.2.1.2.1 zt_z19.2.2 ∈ lw_tbl := xw_tab_in 4 _ (List.mem_of_getElem? (i := 32) rfl)
theorem zt_cd20 : Jvm.Cond.code zt_z20.1 zt_z20.2.1 zt_m20.2.1.2.1 zt_z20.2.2 ∈ lw_tbl := xw_tab_in 4 _ (List.mem_of_getElem? (i := 36) rfl)
theorem zt_cd21 : Jvm.Cond.code zt_z21.1 zt_z21.2.1 zt_m21.2.1.2.1 zt_z21.2.2 ∈ lw_tbl := xw_tab_in 4 _ (List.mem_of_getElem? (i := 40) rfl)
theorem zt_cd22 : Jvm.Cond.code zt_z22.1 zt_z22.2.1 zt_m22.2.1.2.1 zt_z22.2.2 ∈ lw_tbl := xw_tab_in 4 _ (List.mem_of_getElem? (i := 48) rfl)
theorem zt_cd23 : Jvm.Cond.code zt_z23.1 zt_z23.2.1 zt_m23.2.1.2.1 zt_z23.2.2 ∈ lw_tbl := xw_tab_in 4 _ (List.mem_of_getElem? (i := 60) rfl)
theorem zt_cd24 : Jvm.Cond.code zt_z24.1 zt_z24.2.1 zt_m24.2.1.2.1 zt_z24.2.2 ∈ lw_tbl := xw_tab_in 4 _ (List.mem_of_getElem? (i := 64) rfl)
theorem zt_cd25 : Jvm.Cond.code zt_z25.1 zt_z25.2.1 zt_m25.2.1.2.1 zt_z25.2.2 ∈ lw_tbl := xw_tab_in 4 _ (List.mem_of_getElem? (i := 68) rfl)
theorem zt_cd26 : Jvm.Cond.code zt_z26.1 zt_z26.2.1 zt_m26.2.1.2.1 zt_z26.2.2 ∈ lw_tbl := xw_tab_in 4 _ (List.mem_of_getElem? (i := 72) rfl)
theorem zt_cd27 : Jvm.Cond.code zt_z27.1 zt_z27.2.1 zt_m27.2.1.2.1 zt_z27.2.2 ∈ lw_tbl := xw_tab_in 4 _ (List.mem_of_getElem? (i := 106) rfl)
theorem zt_cd28 : Jvm.Cond.code zt_z28.1 zt_z28.2.1 zt_m28.2.1.2.1 zt_z28.2.2 ∈ lw_tbl := xw_tab_in 4 _ (List.mem_of_getElem? (i := 110) rfl)
theorem zt_cd29 : Jvm.Cond.code zt_z29.1 zt_z29.2.1 zt_m29.2.1.2.1 zt_z29.2.2 ∈ lw_tbl := xw_tab_in 7 _ (List.mem_of_getElem? (i := 35) rfl)
theorem zt_cd30 : Jvm.Cond.code zt_z30.1 zt_z30.2.1 zt_m30.2.1.2.1 zt_z30.2.2 ∈ lw_tbl := xw_tab_in 7 _ (List.mem_of_getElem? (i := 40) rfl)
theorem zt_cd31 : Jvm.Cond.code zt_z31.1 zt_z31.2.1 zt_m31.2.1.2.1 zt_z31.2.2 ∈ lw_tbl := xw_tab_in 7 _ (List.mem_of_getElem? (i := 44) rfl)
theorem zt_cd32 : Jvm.Cond.code zt_z32.1 zt_z32.2.1 zt_m32.2.1.2.1 zt_z32.2.2 ∈ lw_tbl := xw_tab_in 7 _ (List.mem_of_getElem? (i := 47) rfl)
theorem zt_cd33 : Jvm.Cond.code zt_z33.1 zt_z33.2.1 zt_m33.2.1.2.1 zt_z33.2.2 ∈ lw_tbl := xw_tab_in 7 _ (List.mem_of_getElem? (i := 51) rfl)
theorem zt_cd34 : Jvm.Cond.code zt_z34.1 zt_z34.2.1 zt_m34.2.1.2.1 zt_z34.2.2 ∈ lw_tbl := xw_tab_in 7 _ (List.mem_of_getElem? (i := 55) rfl)
theorem zt_cd35 : Jvm.Cond.code zt_z35.1 zt_z35.2.1 zt_m35.2.1.2.1 zt_z35.2.2 ∈ lw_tbl := xw_tab_in 7 _ (List.mem_of_getElem? (i := 59) rfl)
theorem zt_cd36 : Jvm.Cond.code zt_z36.1 zt_z36.2.1 zt_m36.2.1.2.1 zt_z36.2.2 ∈ lw_tbl := xw_tab_in 7 _ (List.mem_of_getElem? (i := 63) rfl)
theorem zt_cd37 : Jvm.Cond.code zt_z37.1 zt_z37.2.1 zt_m37.2.1.2.1 zt_z37.2.2 ∈ lw_tbl := xw_tab_in 7 _ (List.mem_of_getElem? (i := 67) rfl)
theorem zt_cd38 : Jvm.Cond.code zt_z38.1 zt_z38.2.1 zt_m38.2.1.2.1 zt_z38.2.2 ∈ lw_tbl := xw_tab_in 7 _ (List.mem_of_getElem? (i := 71) rfl)
theorem zt_cd39 : Jvm.Cond.code zt_z39.1 zt_z39.2.1 zt_m39.2.1.2.1 zt_z39.2.2 ∈ lw_tbl := xw_tab_in 7 _ (List.mem_of_getElem? (i := 75) rfl)
theorem zt_cd40 : Jvm.Cond.code zt_z40.1 zt_z40.2.1 zt_m40.2.1.2.1 zt_z40.2.2 ∈ lw_tbl := xw_tab_in 4 _ (List.mem_of_getElem? (i := 154) rfl)
theorem zt_cd41 : Jvm.Cond.code zt_z41.1 zt_z41.2.1 zt_m41.2.1.2.1 zt_z41.2.2 ∈ lw_tbl := xw_tab_in 4 _ (List.mem_of_getElem? (i := 158) rfl)
theorem zt_cd42 : Jvm.Cond.code zt_z42.1 zt_z42.2.1 zt_m42.2.1.2.1 zt_z42.2.2 ∈ lw_tbl := xw_tab_in 4 _ (List.mem_of_getElem? (i := 162) rfl)
theorem zt_cd43 : Jvm.Cond.code zt_z43.1 zt_z43.2.1 zt_m43.2.1.2.1 zt_z43.2.2 ∈ lw_tbl := xw_tab_in 4 _ (List.mem_of_getElem? (i := 166) rfl)
theorem zt_cd44 : Jvm.Cond.code zt_z44.1 zt_z44.2.1 zt_m44.2.1.2.1 zt_z44.2.2 ∈ lw_tbl := xw_tab_in 4 _ (List.mem_of_getElem? (i := 170) rfl)
theorem zt_cd45 : Jvm.Cond.code zt_z45.1 zt_z45.2.1 zt_m45.2.1.2.1 zt_z45.2.2 ∈ lw_tbl := xw_tab_in 6 _ (List.mem_of_getElem? (i := 180) rfl)
theorem zt_cd46 : Jvm.Cond.code zt_z46.1 zt_z46.2.1 zt_m46.2.1.2.1 zt_z46.2.2 ∈ lw_tbl := xw_tab_in 4 _ (List.mem_of_getElem? (i := 175) rfl)
theorem zt_cd47 : Jvm.Cond.code zt_z47.1 zt_z47.2.1 zt_m47.2.1.2.1 zt_z47.2.2 ∈ lw_tbl := xw_tab_in 4 _ (List.mem_of_getElem? (i := 183) rfl)
theorem zt_cd48 : Jvm.Cond.code zt_z48.1 zt_z48.2.1 zt_m48.2.1.2.1 zt_z48.2.2 ∈ lw_tbl := xw_tab_in 4 _ (List.mem_of_getElem? (i := 213) rfl)
theorem zt_cd49 : Jvm.Cond.code zt_z49.1 zt_z49.2.1 zt_m49.2.1.2.1 zt_z49.2.2 ∈ lw_tbl := xw_tab_in 4 _ (List.mem_of_getElem? (i := 222) rfl)
theorem zt_cd50 : Jvm.Cond.code zt_z50.1 zt_z50.2.1 zt_m50.2.1.2.1 zt_z50.2.2 ∈ lw_tbl := xw_tab_in 5 _ (List.mem_of_getElem? (i := 15) rfl)
theorem zt_cd51 : Jvm.Cond.code zt_z51.1 zt_z51.2.1 zt_m51.2.1.2.1 zt_z51.2.2 ∈ lw_tbl := xw_tab_in 5 _ (List.mem_of_getElem? (i := 18) rfl)
theorem zt_cd52 : Jvm.Cond.code zt_z52.1 zt_z52.2.1 zt_m52.2.1.2.1 zt_z52.2.2 ∈ lw_tbl := xw_tab_in 5 _ (List.mem_of_getElem? (i := 21) rfl)
theorem zt_cd53 : Jvm.Cond.code zt_z53.1 zt_z53.2.1 zt_m53.2.1.2.1 zt_z53.2.2 ∈ lw_tbl := xw_tab_in 5 _ (List.mem_of_getElem? (i := 197) rfl)
theorem zt_cd54 : Jvm.Cond.code zt_z54.1 zt_z54.2.1 zt_m54.2.1.2.1 zt_z54.2.2 ∈ lw_tbl := xw_tab_in 5 _ (List.mem_of_getElem? (i := 38) rfl)
theorem zt_cd55 : Jvm.Cond.code zt_z55.1 zt_z55.2.1 zt_m55.2.1.2.1 zt_z55.2.2 ∈ lw_tbl := xw_tab_in 5 _ (List.mem_of_getElem? (i := 46) rfl)
theorem zt_cd56 : Jvm.Cond.code zt_z56.1 zt_z56.2.1 zt_m56.2.1.2.1 zt_z56.2.2 ∈ lw_tbl := xw_tab_in 5 _ (List.mem_of_getElem? (i := 54) rfl)
theorem zt_cd57 : Jvm.Cond.code zt_z57.1 zt_z57.2.1 zt_m57.2.1.2.1 zt_z57.2.2 ∈ lw_tbl := xw_tab_in 5 _ (List.mem_of_getElem? (i := 62) rfl)
theorem zt_cd58 : Jvm.Cond.code zt_z58.1 zt_z58.2.1 zt_m58.2.1.2.1 zt_z58.2.2 ∈ lw_tbl := xw_tab_in 5 _ (List.mem_of_getElem? (i := 119) rfl)
theorem zt_cd59 : Jvm.Cond.code zt_z59.1 zt_z59.2.1 zt_m59.2.1.2.1 zt_z59.2.2 ∈ lw_tbl := xw_tab_in 5 _ (List.mem_of_getElem? (i := 123) rfl)
theorem zt_cd60 : Jvm.Cond.code zt_z60.1 zt_z60.2.1 zt_m60.2.1.2.1 zt_z60.2.2 ∈ lw_tbl := xw_tab_in 5 _ (List.mem_of_getElem? (i := 131) rfl)
theorem zt_cd61 : Jvm.Cond.code zt_z61.1 zt_z61.2.1 zt_m61.2.1.2.1 zt_z61.2.2 ∈ lw_tbl := xw_tab_in 5 _ (List.mem_of_getElem? (i := 144) rfl)
theorem zt_cd62 : Jvm.Cond.code zt_z62.1 zt_z62.2.1 zt_m62.2.1.2.1 zt_z62.2.2 ∈ lw_tbl := xw_tab_in 5 _ (List.mem_of_getElem? (i := 194) rfl)
theorem zt_cd63 : Jvm.Cond.code zt_z63.1 zt_z63.2.1 zt_m63.2.1.2.1 zt_z63.2.2 ∈ lw_tbl := xw_tab_in 5 _ (List.mem_of_getElem? (i := 215) rfl)
theorem zt_cd64 : Jvm.Cond.code zt_z64.1 zt_z64.2.1 zt_m64.2.1.2.1 zt_z64.2.2 ∈ lw_tbl := xw_tab_in 5 _ (List.mem_of_getElem? (i := 227) rfl)
theorem zt_cd65 : Jvm.Cond.code zt_z65.1 zt_z65.2.1 zt_m65.2.1.2.1 zt_z65.2.2 ∈ lw_tbl := xw_tab_in 5 _ (List.mem_of_getElem? (i := 236) rfl)
theorem zt_cd66 : Jvm.Cond.code zt_z66.1 zt_z66.2.1 zt_m66.2.1.2.1 zt_z66.2.2 ∈ lw_tbl := xw_tab_in 6 _ (List.mem_of_getElem? (i := 16) rfl)
theorem zt_cd67 : Jvm.Cond.code zt_z67.1 zt_z67.2.1 zt_m67.2.1.2.1 zt_z67.2.2 ∈ lw_tbl := xw_tab_in 6 _ (List.mem_of_getElem? (i := 20) rfl)
theorem zt_cd68 : Jvm.Cond.code zt_z68.1 zt_z68.2.1 zt_m68.2.1.2.1 zt_z68.2.2 ∈ lw_tbl := xw_tab_in 6 _ (List.mem_of_getElem? (i := 33) rfl)
theorem zt_cd69 : Jvm.Cond.code zt_z69.1 zt_z69.2.1 zt_m69.2.1.2.1 zt_z69.2.2 ∈ lw_tbl := xw_tab_in 6 _ (List.mem_of_getElem? (i := 45) rfl)
theorem zt_cd70 : Jvm.Cond.code zt_z70.1 zt_z70.2.1 zt_m70.2.1.2.1 zt_z70.2.2 ∈ lw_tbl := xw_tab_in 6 _ (List.mem_of_getElem? (i := 50) rfl)
theorem zt_cd71 : Jvm.Cond.code zt_z71.1 zt_z71.2.1 zt_m71.2.1.2.1 zt_z71.2.2 ∈ lw_tbl := xw_tab_in 6 _ (List.mem_of_getElem? (i := 62) rfl)
theorem zt_cd72 : Jvm.Cond.code zt_z72.1 zt_z72.2.1 zt_m72.2.1.2.1 zt_z72.2.2 ∈ lw_tbl := xw_tab_in 6 _ (List.mem_of_getElem? (i := 70) rfl)
theorem zt_cd73 : Jvm.Cond.code zt_z73.1 zt_z73.2.1 zt_m73.2.1.2.1 zt_z73.2.2 ∈ lw_tbl := xw_tab_in 6 _ (List.mem_of_getElem? (i := 78) rfl)
theorem zt_cd74 : Jvm.Cond.code zt_z74.1 zt_z74.2.1 zt_m74.2.1.2.1 zt_z74.2.2 ∈ lw_tbl := xw_tab_in 6 _ (List.mem_of_getElem? (i := 86) rfl)
theorem zt_cd75 : Jvm.Cond.code zt_z75.1 zt_z75.2.1 zt_m75.2.1.2.1 zt_z75.2.2 ∈ lw_tbl := xw_tab_in 6 _ (List.mem_of_getElem? (i := 90) rfl)
theorem zt_cd76 : Jvm.Cond.code zt_z76.1 zt_z76.2.1 zt_m76.2.1.2.1 zt_z76.2.2 ∈ lw_tbl := xw_tab_in 6 _ (List.mem_of_getElem? (i := 123) rfl)
theorem zt_cd77 : Jvm.Cond.code zt_z77.1 zt_z77.2.1 zt_m77.2.1.2.1 zt_z77.2.2 ∈ lw_tbl := xw_tab_in 6 _ (List.mem_of_getElem? (i := 131) rfl)
theorem zt_cd78 : Jvm.Cond.code zt_z78.1 zt_z78.2.1 zt_m78.2.1.2.1 zt_z78.2.2 ∈ lw_tbl := xw_tab_in 6 _ (List.mem_of_getElem? (i := 143) rfl)
theorem zt_cd79 : Jvm.Cond.code zt_z79.1 zt_z79.2.1 zt_m79.2.1.2.1 zt_z79.2.2 ∈ lw_tbl := xw_tab_in 6 _ (List.mem_of_getElem? (i := 152) rfl)
theorem zt_cd80 : Jvm.Cond.code zt_z80.1 zt_z80.2.1 zt_m80.2.1.2.1 zt_z80.2.2 ∈ lw_tbl := xw_tab_in 6 _ (List.mem_of_getElem? (i := 156) rfl)
theorem zt_cd81 : Jvm.Cond.code zt_z81.1 zt_z81.2.1 zt_m81.2.1.2.1 zt_z81.2.2 ∈ lw_tbl := xw_tab_in 6 _ (List.mem_of_getElem? (i := 160) rfl)
theorem zt_cd82 : Jvm.Cond.code zt_z82.1 zt_z82.2.1 zt_m82.2.1.2.1 zt_z82.2.2 ∈ lw_tbl := xw_tab_in 8 _ (List.mem_of_getElem? (i := 134) rfl)
theorem zt_cd83 : Jvm.Cond.code zt_z83.1 zt_z83.2.1 zt_m83.2.1.2.1 zt_z83.2.2 ∈ lw_tbl := xw_tab_in 8 _ (List.mem_of_getElem? (i := 182) rfl)
theorem zt_cd84 : Jvm.Cond.code zt_z84.1 zt_z84.2.1 zt_m84.2.1.2.1 zt_z84.2.2 ∈ lw_tbl := xw_tab_in 9 _ (List.mem_of_getElem? (i := 47) rfl)
theorem zt_cd85 : Jvm.Cond.code zt_z85.1 zt_z85.2.1 zt_m85.2.1.2.1 zt_z85.2.2 ∈ lw_tbl := xw_tab_in 8 _ (List.mem_of_getElem? (i := 171) rfl)
theorem zt_cd86 : Jvm.Cond.code zt_z86.1 zt_z86.2.1 zt_m86.2.1.2.1 zt_z86.2.2 ∈ lw_tbl := xw_tab_in 8 _ (List.mem_of_getElem? (i := 150) rfl)
theorem zt_cd87 : Jvm.Cond.code zt_z87.1 zt_z87.2.1 zt_m87.2.1.2.1 zt_z87.2.2 ∈ lw_tbl := xw_tab_in 8 _ (List.mem_of_getElem? (i := 146) rfl)
theorem zt_cd88 : Jvm.Cond.code zt_z88.1 zt_z88.2.1 zt_m88.2.1.2.1 zt_z88.2.2 ∈ lw_tbl := xw_tab_in 8 _ (List.mem_of_getElem? (i := 158) rfl)
theorem zt_cd89 : Jvm.Cond.code zt_z89.1 zt_z89.2.1 zt_m89.2.1.2.1 zt_z89.2.2 ∈ lw_tbl := xw_tab_in 8 _ (List.mem_of_getElem? (i := 142) rfl)
theorem zt_cd90 : Jvm.Cond.code zt_z90.1 zt_z90.2.1 zt_m90.2.1.2.1 zt_z90.2.2 ∈ lw_tbl := xw_tab_in 8 _ (List.mem_of_getElem? (i := 163) rfl)
theorem zt_cd91 : Jvm.Cond.code zt_z91.1 zt_z91.2.1 zt_m91.2.1.2.1 zt_z91.2.2 ∈ lw_tbl := xw_tab_in 8 _ (List.mem_of_getElem? (i := 154) rfl)
theorem zt_cd92 : Jvm.Cond.code zt_z92.1 zt_z92.2.1 zt_m92.2.1.2.1 zt_z92.2.2 ∈ lw_tbl := xw_tab_in 8 _ (List.mem_of_getElem? (i := 229) rfl)
theorem zt_cd93 : Jvm.Cond.code zt_z93.1 zt_z93.2.1 zt_m93.2.1.2.1 zt_z93.2.2 ∈ lw_tbl := xw_tab_in 8 _ (List.mem_of_getElem? (i := 217) rfl)
theorem zt_cd94 : Jvm.Cond.code zt_z94.1 zt_z94.2.1 zt_m94.2.1.2.1 zt_z94.2.2 ∈ lw_tbl := xw_tab_in 8 _ (List.mem_of_getElem? (i := 179) rfl)
theorem zt_cd95 : Jvm.Cond.code zt_z95.1 zt_z95.2.1 zt_m95.2.1.2.1 zt_z95.2.2 ∈ lw_tbl := xw_tab_in 8 _ (List.mem_of_getElem? (i := 205) rfl)
theorem zt_cd96 : Jvm.Cond.code zt_z96.1 zt_z96.2.1 zt_m96.2.1.2.1 zt_z96.2.2 ∈ lw_tbl := xw_tab_in 8 _ (List.mem_of_getElem? (i := 190) rfl)
theorem zt_cd97 : Jvm.Cond.code zt_z97.1 zt_z97.2.1 zt_m97.2.1.2.1 zt_z97.2.2 ∈ lw_tbl := xw_tab_in 8 _ (List.mem_of_getElem? (i := 198) rfl)
theorem zt_cd98 : Jvm.Cond.code zt_z98.1 zt_z98.2.1 zt_m98.2.1.2.1 zt_z98.2.2 ∈ lw_tbl := xw_tab_in 9 _ (List.mem_of_getElem? (i := 24) rfl)
theorem zt_cd99 : Jvm.Cond.code zt_z99.1 zt_z99.2.1 zt_m99.2.1.2.1 zt_z99.2.2 ∈ lw_tbl := xw_tab_in 8 _ (List.mem_of_getElem? (i := 175) rfl)
theorem zt_cd100 : Jvm.Cond.code zt_z100.1 zt_z100.2.1 zt_m100.2.1.2.1 zt_z100.2.2 ∈ lw_tbl := xw_tab_in 8 _ (List.mem_of_getElem? (i := 186) rfl)
theorem zt_cd101 : Jvm.Cond.code zt_z101.1 zt_z101.2.1 zt_m101.2.1.2.1 zt_z101.2.2 ∈ lw_tbl := xw_tab_in 8 _ (List.mem_of_getElem? (i := 194) rfl)
theorem zt_cd102 : Jvm.Cond.code zt_z102.1 zt_z102.2.1 zt_m102.2.1.2.1 zt_z102.2.2 ∈ lw_tbl := xw_tab_in 8 _ (List.mem_of_getElem? (i := 202) rfl)
theorem zt_cd103 : Jvm.Cond.code zt_z103.1 zt_z103.2.1 zt_m103.2.1.2.1 zt_z103.2.2 ∈ lw_tbl := xw_tab_in 8 _ (List.mem_of_getElem? (i := 209) rfl)
theorem zt_cd104 : Jvm.Cond.code zt_z104.1 zt_z104.2.1 zt_m104.2.1.2.1 zt_z104.2.2 ∈ lw_tbl := xw_tab_in 9 _ (List.mem_of_getElem? (i := 20) rfl)
theorem zt_cd105 : Jvm.Cond.code zt_z105.1 zt_z105.2.1 zt_m105.2.1.2.1 zt_z105.2.2 ∈ lw_tbl := xw_tab_in 8 _ (List.mem_of_getElem? (i := 167) rfl)
theorem zt_cd106 : Jvm.Cond.code zt_z106.1 zt_z106.2.1 zt_m106.2.1.2.1 zt_z106.2.2 ∈ lw_tbl := xw_tab_in 8 _ (List.mem_of_getElem? (i := 138) rfl)
theorem zt_cd107 : Jvm.Cond.code zt_z107.1 zt_z107.2.1 zt_m107.2.1.2.1 zt_z107.2.2 ∈ lw_tbl := xw_tab_in 9 _ (List.mem_of_getElem? (i := 28) rfl)
theorem zt_cd108 : Jvm.Cond.code zt_z108.1 zt_z108.2.1 zt_m108.2.1.2.1 zt_z108.2.2 ∈ lw_tbl := xw_tab_in 9 _ (List.mem_of_getElem? (i := 32) rfl)
theorem zt_cd109 : Jvm.Cond.code zt_z109.1 zt_z109.2.1 zt_m109.2.1.2.1 zt_z109.2.2 ∈ lw_tbl := xw_tab_in 9 _ (List.mem_of_getElem? (i := 12) rfl)
theorem zt_cd110 : Jvm.Cond.code zt_z110.1 zt_z110.2.1 zt_m110.2.1.2.1 zt_z110.2.2 ∈ lw_tbl := xw_tab_in 9 _ (List.mem_of_getElem? (i := 1) rfl)
theorem zt_cd111 : Jvm.Cond.code zt_z111.1 zt_z111.2.1 zt_m111.2.1.2.1 zt_z111.2.2 ∈ lw_tbl := xw_tab_in 9 _ (List.mem_of_getElem? (i := 16) rfl)
theorem zt_cd112 : Jvm.Cond.code zt_z112.1 zt_z112.2.1 zt_m112.2.1.2.1 zt_z112.2.2 ∈ lw_tbl := xw_tab_in 9 _ (List.mem_of_getElem? (i := 9) rfl)
theorem zt_cd113 : Jvm.Cond.code zt_z113.1 zt_z113.2.1 zt_m113.2.1.2.1 zt_z113.2.2 ∈ lw_tbl := xw_tab_in 8 _ (List.mem_of_getElem? (i := 233) rfl)
theorem zt_cd114 : Jvm.Cond.code zt_z114.1 zt_z114.2.1 zt_m114.2.1.2.1 zt_z114.2.2 ∈ lw_tbl := xw_tab_in 8 _ (List.mem_of_getElem? (i := 225) rfl)
theorem zt_cd115 : Jvm.Cond.code zt_z115.1 zt_z115.2.1 zt_m115.2.1.2.1 zt_z115.2.2 ∈ lw_tbl := xw_tab_in 8 _ (List.mem_of_getElem? (i := 237) rfl)
theorem zt_cd116 : Jvm.Cond.code zt_z116.1 zt_z116.2.1 zt_m116.2.1.2.1 zt_z116.2.2 ∈ lw_tbl := xw_tab_in 8 _ (List.mem_of_getElem? (i := 221) rfl)
theorem zt_cd117 : Jvm.Cond.code zt_z117.1 zt_z117.2.1 zt_m117.2.1.2.1 zt_z117.2.2 ∈ lw_tbl := xw_tab_in 9 _ (List.mem_of_getElem? (i := 5) rfl)
theorem zt_cd118 : Jvm.Cond.code zt_z118.1 zt_z118.2.1 zt_m118.2.1.2.1 zt_z118.2.2 ∈ lw_tbl := xw_tab_in 8 _ (List.mem_of_getElem? (i := 213) rfl)
theorem zt_cd119 : Jvm.Cond.code zt_z119.1 zt_z119.2.1 zt_m119.2.1.2.1 zt_z119.2.2 ∈ lw_tbl := xw_tab_in 7 _ (List.mem_of_getElem? (i := 87) rfl)
theorem zt_cd120 : Jvm.Cond.code zt_z120.1 zt_z120.2.1 zt_m120.2.1.2.1 zt_z120.2.2 ∈ lw_tbl := xw_tab_in 7 _ (List.mem_of_getElem? (i := 96) rfl)
theorem zt_cd121 : Jvm.Cond.code zt_z121.1 zt_z121.2.1 zt_m121.2.1.2.1 zt_z121.2.2 ∈ lw_tbl := xw_tab_in 7 _ (List.mem_of_getElem? (i := 93) rfl)
theorem zt_cd122 : Jvm.Cond.code zt_z122.1 zt_z122.2.1 zt_m122.2.1.2.1 zt_z122.2.2 ∈ lw_tbl := xw_tab_in 7 _ (List.mem_of_getElem? (i := 83) rfl)
theorem zt_cd123 : Jvm.Cond.code zt_z123.1 zt_z123.2.1 zt_m123.2.1.2.1 zt_z123.2.2 ∈ lw_tbl := xw_tab_in 9 _ (List.mem_of_getElem? (i := 40) rfl)
theorem zt_cd124 : Jvm.Cond.code zt_z124.1 zt_z124.2.1 zt_m124.2.1.2.1 zt_z124.2.2 ∈ lw_tbl := xw_tab_in 9 _ (List.mem_of_getElem? (i := 55) rfl)
theorem zt_cd125 : Jvm.Cond.code zt_z125.1 zt_z125.2.1 zt_m125.2.1.2.1 zt_z125.2.2 ∈ lw_tbl := xw_tab_in 9 _ (List.mem_of_getElem? (i := 63) rfl)
theorem zt_cd126 : Jvm.Cond.code zt_z126.1 zt_z126.2.1 zt_m126.2.1.2.1 zt_z126.2.2 ∈ lw_tbl := xw_tab_in 9 _ (List.mem_of_getElem? (i := 189) rfl)
theorem zt_cd127 : Jvm.Cond.code zt_z127.1 zt_z127.2.1 zt_m127.2.1.2.1 zt_z127.2.2 ∈ lw_tbl := xw_tab_in 7 _ (List.mem_of_getElem? (i := 79) rfl)
theorem zt_cd128 : Jvm.Cond.code zt_z128.1 zt_z128.2.1 zt_m128.2.1.2.1 zt_z128.2.2 ∈ lw_tbl := xw_tab_in 9 _ (List.mem_of_getElem? (i := 87) rfl)
theorem zt_cd129 : Jvm.Cond.code zt_z129.1 zt_z129.2.1 zt_m129.2.1.2.1 zt_z129.2.2 ∈ lw_tbl := xw_tab_in 9 _ (List.mem_of_getElem? (i := 83) rfl)
theorem zt_cd130 : Jvm.Cond.code zt_z130.1 zt_z130.2.1 zt_m130.2.1.2.1 zt_z130.2.2 ∈ lw_tbl := xw_tab_in 9 _ (List.mem_of_getElem? (i := 67) rfl)
theorem zt_cd131 : Jvm.Cond.code zt_z131.1 zt_z131.2.1 zt_m131.2.1.2.1 zt_z131.2.2 ∈ lw_tbl := xw_tab_in 9 _ (List.mem_of_getElem? (i := 79) rfl)
theorem zt_cd132 : Jvm.Cond.code zt_z132.1 zt_z132.2.1 zt_m132.2.1.2.1 zt_z132.2.2 ∈ lw_tbl := xw_tab_in 9 _ (List.mem_of_getElem? (i := 71) rfl)
theorem zt_cd133 : Jvm.Cond.code zt_z133.1 zt_z133.2.1 zt_m133.2.1.2.1 zt_z133.2.2 ∈ lw_tbl := xw_tab_in 10 _ (List.mem_of_getElem? (i := 10) rfl)
theorem zt_cd134 : Jvm.Cond.code zt_z134.1 zt_z134.2.1 zt_m134.2.1.2.1 zt_z134.2.2 ∈ lw_tbl := xw_tab_in 9 _ (List.mem_of_getElem? (i := 153) rfl)
theorem zt_cd135 : Jvm.Cond.code zt_z135.1 zt_z135.2.1 zt_m135.2.1.2.1 zt_z135.2.2 ∈ lw_tbl := xw_tab_in 9 _ (List.mem_of_getElem? (i := 157) rfl)
theorem zt_cd136 : Jvm.Cond.code zt_z136.1 zt_z136.2.1 zt_m136.2.1.2.1 zt_z136.2.2 ∈ lw_tbl := xw_tab_in 9 _ (List.mem_of_getElem? (i := 136) rfl)
theorem zt_cd137 : Jvm.Cond.code zt_z137.1 zt_z137.2.1 zt_m137.2.1.2.1 zt_z137.2.2 ∈ lw_tbl := xw_tab_in 9 _ (List.mem_of_getElem? (i := 132) rfl)
theorem zt_cd138 : Jvm.Cond.code zt_z138.1 zt_z138.2.1 zt_m138.2.1.2.1 zt_z138.2.2 ∈ lw_tbl := xw_tab_in 9 _ (List.mem_of_getElem? (i := 144) rfl)
theorem zt_cd139 : Jvm.Cond.code zt_z139.1 zt_z139.2.1 zt_m139.2.1.2.1 zt_z139.2.2 ∈ lw_tbl := xw_tab_in 9 _ (List.mem_of_getElem? (i := 149) rfl)
theorem zt_cd140 : Jvm.Cond.code zt_z140.1 zt_z140.2.1 zt_m140.2.1.2.1 zt_z140.2.2 ∈ lw_tbl := xw_tab_in 9 _ (List.mem_of_getElem? (i := 128) rfl)
theorem zt_cd141 : Jvm.Cond.code zt_z141.1 zt_z141.2.1 zt_m141.2.1.2.1 zt_z141.2.2 ∈ lw_tbl := xw_tab_in 9 _ (List.mem_of_getElem? (i := 197) rfl)
theorem zt_cd142 : Jvm.Cond.code zt_z142.1 zt_z142.2.1 zt_m142.2.1.2.1 zt_z142.2.2 ∈ lw_tbl := xw_tab_in 9 _ (List.mem_of_getElem? (i := 44) rfl)
theorem zt_cd143 : Jvm.Cond.code zt_z143.1 zt_z143.2.1 zt_m143.2.1.2.1 zt_z143.2.2 ∈ lw_tbl := xw_tab_in 9 _ (List.mem_of_getElem? (i := 36) rfl)
theorem zt_cd144 : Jvm.Cond.code zt_z144.1 zt_z144.2.1 zt_m144.2.1.2.1 zt_z144.2.2 ∈ lw_tbl := xw_tab_in 9 _ (List.mem_of_getElem? (i := 51) rfl)
theorem zt_cd145 : Jvm.Cond.code zt_z145.1 zt_z145.2.1 zt_m145.2.1.2.1 zt_z145.2.2 ∈ lw_tbl := xw_tab_in 9 _ (List.mem_of_getElem? (i := 59) rfl)
theorem zt_cd146 : Jvm.Cond.code zt_z146.1 zt_z146.2.1 zt_m146.2.1.2.1 zt_z146.2.2 ∈ lw_tbl := xw_tab_in 9 _ (List.mem_of_getElem? (i := 75) rfl)
theorem zt_cd147 : Jvm.Cond.code zt_z147.1 zt_z147.2.1 zt_m147.2.1.2.1 zt_z147.2.2 ∈ lw_tbl := xw_tab_in 9 _ (List.mem_of_getElem? (i := 91) rfl)
theorem zt_cd148 : Jvm.Cond.code zt_z148.1 zt_z148.2.1 zt_m148.2.1.2.1 zt_z148.2.2 ∈ lw_tbl := xw_tab_in 9 _ (List.mem_of_getElem? (i := 96) rfl)
theorem zt_cd149 : Jvm.Cond.code zt_z149.1 zt_z149.2.1 zt_m149.2.1.2.1 zt_z149.2.2 ∈ lw_tbl := xw_tab_in 9 _ (List.mem_of_getElem? (i := 108) rfl)
theorem zt_cd150 : Jvm.Cond.code zt_z150.1 zt_z150.2.1 zt_m150.2.1.2.1 zt_z150.2.2 ∈ lw_tbl := xw_tab_in 9 _ (List.mem_of_getElem? (i := 112) rfl)
theorem zt_cd151 : Jvm.Cond.code zt_z151.1 zt_z151.2.1 zt_m151.2.1.2.1 zt_z151.2.2 ∈ lw_tbl := xw_tab_in 9 _ (List.mem_of_getElem? (i := 116) rfl)
theorem zt_cd152 : Jvm.Cond.code zt_z152.1 zt_z152.2.1 zt_m152.2.1.2.1 zt_z152.2.2 ∈ lw_tbl := xw_tab_in 9 _ (List.mem_of_getElem? (i := 120) rfl)
theorem zt_cd153 : Jvm.Cond.code zt_z153.1 zt_z153.2.1 zt_m153.2.1.2.1 zt_z153.2.2 ∈ lw_tbl := xw_tab_in 9 _ (List.mem_of_getElem? (i := 124) rfl)
theorem zt_cd154 : Jvm.Cond.code zt_z154.1 zt_z154.2.1 zt_m154.2.1.2.1 zt_z154.2.2 ∈ lw_tbl := xw_tab_in 9 _ (List.mem_of_getElem? (i := 161) rfl)
theorem zt_cd155 : Jvm.Cond.code zt_z155.1 zt_z155.2.1 zt_m155.2.1.2.1 zt_z155.2.2 ∈ lw_tbl := xw_tab_in 9 _ (List.mem_of_getElem? (i := 173) rfl)
theorem zt_cd156 : Jvm.Cond.code zt_z156.1 zt_z156.2.1 zt_m156.2.1.2.1 zt_z156.2.2 ∈ lw_tbl := xw_tab_in 9 _ (List.mem_of_getElem? (i := 169) rfl)
theorem zt_cd157 : Jvm.Cond.code zt_z157.1 zt_z157.2.1 zt_m157.2.1.2.1 zt_z157.2.2 ∈ lw_tbl := xw_tab_in 9 _ (List.mem_of_getElem? (i := 165) rfl)
theorem zt_cd158 : Jvm.Cond.code zt_z158.1 zt_z158.2.1 zt_m158.2.1.2.1 zt_z158.2.2 ∈ lw_tbl := xw_tab_in 9 _ (List.mem_of_getElem? (i := 177) rfl)
theorem zt_cd159 : Jvm.Cond.code zt_z159.1 zt_z159.2.1 zt_m159.2.1.2.1 zt_z159.2.2 ∈ lw_tbl := xw_tab_in 9 _ (List.mem_of_getElem? (i := 193) rfl)
theorem zt_cd160 : Jvm.Cond.code zt_z160.1 zt_z160.2.1 zt_m160.2.1.2.1 zt_z160.2.2 ∈ lw_tbl := xw_tab_in 9 _ (List.mem_of_getElem? (i := 185) rfl)
theorem zt_cd161 : Jvm.Cond.code zt_z161.1 zt_z161.2.1 zt_m161.2.1.2.1 zt_z161.2.2 ∈ lw_tbl := xw_tab_in 9 _ (List.mem_of_getElem? (i := 181) rfl)
theorem zt_cd162 : Jvm.Cond.code zt_z162.1 zt_z162.2.1 zt_m162.2.1.2.1 zt_z162.2.2 ∈ lw_tbl := xw_tab_in 9 _ (List.mem_of_getElem? (i := 201) rfl)
theorem zt_cd163 : Jvm.Cond.code zt_z163.1 zt_z163.2.1 zt_m163.2.1.2.1 zt_z163.2.2 ∈ lw_tbl := xw_tab_in 9 _ (List.mem_of_getElem? (i := 209) rfl)
theorem zt_cd164 : Jvm.Cond.code zt_z164.1 zt_z164.2.1 zt_m164.2.1.2.1 zt_z164.2.2 ∈ lw_tbl := xw_tab_in 9 _ (List.mem_of_getElem? (i := 205) rfl)
theorem zt_cd165 : Jvm.Cond.code zt_z165.1 zt_z165.2.1 zt_m165.2.1.2.1 zt_z165.2.2 ∈ lw_tbl := xw_tab_in 9 _ (List.mem_of_getElem? (i := 213) rfl)
theorem zt_cd166 : Jvm.Cond.code zt_z166.1 zt_z166.2.1 zt_m166.2.1.2.1 zt_z166.2.2 ∈ lw_tbl := xw_tab_in 9 _ (List.mem_of_getElem? (i := 225) rfl)
theorem zt_cd167 : Jvm.Cond.code zt_z167.1 zt_z167.2.1 zt_m167.2.1.2.1 zt_z167.2.2 ∈ lw_tbl := xw_tab_in 9 _ (List.mem_of_getElem? (i := 233) rfl)
theorem zt_cd168 : Jvm.Cond.code zt_z168.1 zt_z168.2.1 zt_m168.2.1.2.1 zt_z168.2.2 ∈ lw_tbl := xw_tab_in 9 _ (List.mem_of_getElem? (i := 229) rfl)
theorem zt_cd169 : Jvm.Cond.code zt_z169.1 zt_z169.2.1 zt_m169.2.1.2.1 zt_z169.2.2 ∈ lw_tbl := xw_tab_in 9 _ (List.mem_of_getElem? (i := 221) rfl)
theorem zt_cd170 : Jvm.Cond.code zt_z170.1 zt_z170.2.1 zt_m170.2.1.2.1 zt_z170.2.2 ∈ lw_tbl := xw_tab_in 9 _ (List.mem_of_getElem? (i := 217) rfl)
theorem zt_cd171 : Jvm.Cond.code zt_z171.1 zt_z171.2.1 zt_m171.2.1.2.1 zt_z171.2.2 ∈ lw_tbl := xw_tab_in 9 _ (List.mem_of_getElem? (i := 237) rfl)
theorem zt_cd172 : Jvm.Cond.code zt_z172.1 zt_z172.2.1 zt_m172.2.1.2.1 zt_z172.2.2 ∈ lw_tbl := xw_tab_in 10 _ (List.mem_of_getElem? (i := 1) rfl)
theorem zt_cd173 : Jvm.Cond.code zt_z173.1 zt_z173.2.1 zt_m173.2.1.2.1 zt_z173.2.2 ∈ lw_tbl := xw_tab_in 10 _ (List.mem_of_getElem? (i := 6) rfl)
theorem zt_cd174 : Jvm.Cond.code zt_z174.1 zt_z174.2.1 zt_m174.2.1.2.1 zt_z174.2.2 ∈ lw_tbl := xw_tab_in 10 _ (List.mem_of_getElem? (i := 14) rfl)
theorem zt_cd175 : Jvm.Cond.code zt_z175.1 zt_z175.2.1 zt_m175.2.1.2.1 zt_z175.2.2 ∈ lw_tbl := xw_tab_in 10 _ (List.mem_of_getElem? (i := 22) rfl)
theorem zt_cd176 : Jvm.Cond.code zt_z176.1 zt_z176.2.1 zt_m176.2.1.2.1 zt_z176.2.2 ∈ lw_tbl := xw_tab_in 10 _ (List.mem_of_getElem? (i := 18) rfl)
theorem zt_cd177 : Jvm.Cond.code zt_z177.1 zt_z177.2.1 zt_m177.2.1.2.1 zt_z177.2.2 ∈ lw_tbl := xw_tab_in 10 _ (List.mem_of_getElem? (i := 26) rfl)
theorem zt_cd178 : Jvm.Cond.code zt_z178.1 zt_z178.2.1 zt_m178.2.1.2.1 zt_z178.2.2 ∈ lw_tbl := xw_tab_in 10 _ (List.mem_of_getElem? (i := 34) rfl)
theorem zt_cd179 : Jvm.Cond.code zt_z179.1 zt_z179.2.1 zt_m179.2.1.2.1 zt_z179.2.2 ∈ lw_tbl := xw_tab_in 10 _ (List.mem_of_getElem? (i := 30) rfl)
theorem zt_cd180 : Jvm.Cond.code zt_z180.1 zt_z180.2.1 zt_m180.2.1.2.1 zt_z180.2.2 ∈ lw_tbl := xw_tab_in 10 _ (List.mem_of_getElem? (i := 38) rfl)
theorem zt_cd181 : Jvm.Cond.code zt_z181.1 zt_z181.2.1 zt_m181.2.1.2.1 zt_z181.2.2 ∈ lw_tbl := xw_tab_in 10 _ (List.mem_of_getElem? (i := 42) rfl)
theorem zt_cd182 : Jvm.Cond.code zt_z182.1 zt_z182.2.1 zt_m182.2.1.2.1 zt_z182.2.2 ∈ lw_tbl := xw_tab_in 10 _ (List.mem_of_getElem? (i := 50) rfl)
theorem zt_cd183 : Jvm.Cond.code zt_z183.1 zt_z183.2.1 zt_m183.2.1.2.1 zt_z183.2.2 ∈ lw_tbl := xw_tab_in 10 _ (List.mem_of_getElem? (i := 54) rfl)
theorem zt_cd184 : Jvm.Cond.code zt_z184.1 zt_z184.2.1 zt_m184.2.1.2.1 zt_z184.2.2 ∈ lw_tbl := xw_tab_in 10 _ (List.mem_of_getElem? (i := 46) rfl)
theorem zt_cd185 : Jvm.Cond.code zt_z185.1 zt_z185.2.1 zt_m185.2.1.2.1 zt_z185.2.2 ∈ lw_tbl := xw_tab_in 10 _ (List.mem_of_getElem? (i := 58) rfl)
theorem zt_cd186 : Jvm.Cond.code zt_z186.1 zt_z186.2.1 zt_m186.2.1.2.1 zt_z186.2.2 ∈ lw_tbl := xw_tab_in 10 _ (List.mem_of_getElem? (i := 66) rfl)
theorem zt_cd187 : Jvm.Cond.code zt_z187.1 zt_z187.2.1 zt_m187.2.1.2.1 zt_z187.2.2 ∈ lw_tbl := xw_tab_in 10 _ (List.mem_of_getElem? (i := 62) rfl)
theorem zt_cd188 : Jvm.Cond.code zt_z188.1 zt_z188.2.1 zt_m188.2.1.2.1 zt_z188.2.2 ∈ lw_tbl := xw_tab_in 9 _ (List.mem_of_getElem? (i := 104) rfl)
theorem zt_cd189 : Jvm.Cond.code zt_z189.1 zt_z189.2.1 zt_m189.2.1.2.1 zt_z189.2.2 ∈ lw_tbl := xw_tab_in 10 _ (List.mem_of_getElem? (i := 74) rfl)
theorem zt_cd190 : Jvm.Cond.code zt_z190.1 zt_z190.2.1 zt_m190.2.1.2.1 zt_z190.2.2 ∈ lw_tbl := xw_tab_in 9 _ (List.mem_of_getElem? (i := 100) rfl)
theorem zt_cd191 : Jvm.Cond.code zt_z191.1 zt_z191.2.1 zt_m191.2.1.2.1 zt_z191.2.2 ∈ lw_tbl := xw_tab_in 10 _ (List.mem_of_getElem? (i := 70) rfl)
theorem zt_cd192 : Jvm.Cond.code zt_z192.1 zt_z192.2.1 zt_m192.2.1.2.1 zt_z192.2.2 ∈ lw_tbl := xw_tab_in 10 _ (List.mem_of_getElem? (i := 78) rfl)
theorem zt_cd193 : Jvm.Cond.code zt_z193.1 zt_z193.2.1 zt_m193.2.1.2.1 zt_z193.2.2 ∈ lw_tbl := xw_tab_in 10 _ (List.mem_of_getElem? (i := 82) rfl)
theorem zt_cd194 : Jvm.Cond.code zt_z194.1 zt_z194.2.1 zt_m194.2.1.2.1 zt_z194.2.2 ∈ lw_tbl := xw_tab_in 10 _ (List.mem_of_getElem? (i := 90) rfl)
theorem zt_cd195 : Jvm.Cond.code zt_z195.1 zt_z195.2.1 zt_m195.2.1.2.1 zt_z195.2.2 ∈ lw_tbl := xw_tab_in 10 _ (List.mem_of_getElem? (i := 86) rfl)
theorem zt_cd196 : Jvm.Cond.code zt_z196.1 zt_z196.2.1 zt_m196.2.1.2.1 zt_z196.2.2 ∈ lw_tbl := xw_tab_in 4 _ (List.mem_of_getElem? (i := 56) rfl)
theorem zt_cd197 : Jvm.Cond.code zt_z197.1 zt_z197.2.1 zt_m197.2.1.2.1 zt_z197.2.2 ∈ lw_tbl := xw_tab_in 4 _ (List.mem_of_getElem? (i := 52) rfl)
theorem zt_cd198 : Jvm.Cond.code zt_z198.1 zt_z198.2.1 zt_m198.2.1.2.1 zt_z198.2.2 ∈ lw_tbl := xw_tab_in 3 _ (List.mem_of_getElem? (i := 214) rfl)
theorem zt_cd199 : Jvm.Cond.code zt_z199.1 zt_z199.2.1 zt_m199.2.1.2.1 zt_z199.2.2 ∈ lw_tbl := xw_tab_in 3 _ (List.mem_of_getElem? (i := 230) rfl)
theorem zt_cd200 : Jvm.Cond.code zt_z200.1 zt_z200.2.1 zt_m200.2.1.2.1 zt_z200.2.2 ∈ lw_tbl := xw_tab_in 3 _ (List.mem_of_getElem? (i := 234) rfl)
theorem zt_cd201 : Jvm.Cond.code zt_z201.1 zt_z201.2.1 zt_m201.2.1.2.1 zt_z201.2.2 ∈ lw_tbl := xw_tab_in 4 _ (List.mem_of_getElem? (i := 3) rfl)
theorem zt_cd202 : Jvm.Cond.code zt_z202.1 zt_z202.2.1 zt_m202.2.1.2.1 zt_z202.2.2 ∈ lw_tbl := xw_tab_in 4 _ (List.mem_of_getElem? (i := 11) rfl)
theorem zt_cd203 : Jvm.Cond.code zt_z203.1 zt_z203.2.1 zt_m203.2.1.2.1 zt_z203.2.2 ∈ lw_tbl := xw_tab_in 4 _ (List.mem_of_getElem? (i := 15) rfl)
theorem zt_cd204 : Jvm.Cond.code zt_z204.1 zt_z204.2.1 zt_m204.2.1.2.1 zt_z204.2.2 ∈ lw_tbl := xw_tab_in 3 _ (List.mem_of_getElem? (i := 238) rfl)
theorem zt_cd205 : Jvm.Cond.code zt_z205.1 zt_z205.2.1 zt_m205.2.1.2.1 zt_z205.2.2 ∈ lw_tbl := xw_tab_in 4 _ (List.mem_of_getElem? (i := 7) rfl)
theorem zt_cd206 : Jvm.Cond.code zt_z206.1 zt_z206.2.1 zt_m206.2.1.2.1 zt_z206.2.2 ∈ lw_tbl := xw_tab_in 3 _ (List.mem_of_getElem? (i := 220) rfl)
theorem zt_cd207 : Jvm.Cond.code zt_z207.1 zt_z207.2.1 zt_m207.2.1.2.1 zt_z207.2.2 ∈ lw_tbl := xw_tab_in 3 _ (List.mem_of_getElem? (i := 226) rfl)
theorem zt_cd208 : Jvm.Cond.code zt_z208.1 zt_z208.2.1 zt_m208.2.1.2.1 zt_z208.2.2 ∈ lw_tbl := xw_tab_in 4 _ (List.mem_of_getElem? (i := 76) rfl)
theorem zt_cd209 : Jvm.Cond.code zt_z209.1 zt_z209.2.1 zt_m209.2.1.2.1 zt_z209.2.2 ∈ lw_tbl := xw_tab_in 4 _ (List.mem_of_getElem? (i := 80) rfl)
theorem zt_cd210 : Jvm.Cond.code zt_z210.1 zt_z210.2.1 zt_m210.2.1.2.1 zt_z210.2.2 ∈ lw_tbl := xw_tab_in 4 _ (List.mem_of_getElem? (i := 179) rfl)
theorem zt_cd211 : Jvm.Cond.code zt_z211.1 zt_z211.2.1 zt_m211.2.1.2.1 zt_z211.2.2 ∈ lw_tbl := xw_tab_in 4 _ (List.mem_of_getElem? (i := 187) rfl)
theorem zt_cd212 : Jvm.Cond.code zt_z212.1 zt_z212.2.1 zt_m212.2.1.2.1 zt_z212.2.2 ∈ lw_tbl := xw_tab_in 3 _ (List.mem_of_getElem? (i := 206) rfl)
theorem zt_cd213 : Jvm.Cond.code zt_z213.1 zt_z213.2.1 zt_m213.2.1.2.1 zt_z213.2.2 ∈ lw_tbl := xw_tab_in 3 _ (List.mem_of_getElem? (i := 198) rfl)
theorem zt_cd214 : Jvm.Cond.code zt_z214.1 zt_z214.2.1 zt_m214.2.1.2.1 zt_z214.2.2 ∈ lw_tbl := xw_tab_in 5 _ (List.mem_of_getElem? (i := 66) rfl)
theorem zt_cd215 : Jvm.Cond.code zt_z215.1 zt_z215.2.1 zt_m215.2.1.2.1 zt_z215.2.2 ∈ lw_tbl := xw_tab_in 5 _ (List.mem_of_getElem? (i := 78) rfl)
theorem zt_cd216 : Jvm.Cond.code zt_z216.1 zt_z216.2.1 zt_m216.2.1.2.1 zt_z216.2.2 ∈ lw_tbl := xw_tab_in 5 _ (List.mem_of_getElem? (i := 70) rfl)
theorem zt_cd217 : Jvm.Cond.code zt_z217.1 zt_z217.2.1 zt_m217.2.1.2.1 zt_z217.2.2 ∈ lw_tbl := xw_tab_in 5 _ (List.mem_of_getElem? (i := 74) rfl)
theorem zt_cd218 : Jvm.Cond.code zt_z218.1 zt_z218.2.1 zt_m218.2.1.2.1 zt_z218.2.2 ∈ lw_tbl := xw_tab_in 5 _ (List.mem_of_getElem? (i := 96) rfl)
theorem zt_cd219 : Jvm.Cond.code zt_z219.1 zt_z219.2.1 zt_m219.2.1.2.1 zt_z219.2.2 ∈ lw_tbl := xw_tab_in 5 _ (List.mem_of_getElem? (i := 88) rfl)
theorem zt_cd220 : Jvm.Cond.code zt_z220.1 zt_z220.2.1 zt_m220.2.1.2.1 zt_z220.2.2 ∈ lw_tbl := xw_tab_in 5 _ (List.mem_of_getElem? (i := 92) rfl)
theorem zt_cd221 : Jvm.Cond.code zt_z221.1 zt_z221.2.1 zt_m221.2.1.2.1 zt_z221.2.2 ∈ lw_tbl := xw_tab_in 5 _ (List.mem_of_getElem? (i := 111) rfl)
theorem zt_cd222 : Jvm.Cond.code zt_z222.1 zt_z222.2.1 zt_m222.2.1.2.1 zt_z222.2.2 ∈ lw_tbl := xw_tab_in 5 _ (List.mem_of_getElem? (i := 115) rfl)
theorem zt_cd223 : Jvm.Cond.code zt_z223.1 zt_z223.2.1 zt_m223.2.1.2.1 zt_z223.2.2 ∈ lw_tbl := xw_tab_in 5 _ (List.mem_of_getElem? (i := 127) rfl)
theorem zt_cd224 : Jvm.Cond.code zt_z224.1 zt_z224.2.1 zt_m224.2.1.2.1 zt_z224.2.2 ∈ lw_tbl := xw_tab_in 4 _ (List.mem_of_getElem? (i := 203) rfl)
theorem zt_cd225 : Jvm.Cond.code zt_z225.1 zt_z225.2.1 zt_m225.2.1.2.1 zt_z225.2.2 ∈ lw_tbl := xw_tab_in 4 _ (List.mem_of_getElem? (i := 217) rfl)
theorem zt_cd226 : Jvm.Cond.code zt_z226.1 zt_z226.2.1 zt_m226.2.1.2.1 zt_z226.2.2 ∈ lw_tbl := xw_tab_in 4 _ (List.mem_of_getElem? (i := 199) rfl)
theorem zt_cd227 : Jvm.Cond.code zt_z227.1 zt_z227.2.1 zt_m227.2.1.2.1 zt_z227.2.2 ∈ lw_tbl := xw_tab_in 4 _ (List.mem_of_getElem? (i := 226) rfl)
theorem zt_cd228 : Jvm.Cond.code zt_z228.1 zt_z228.2.1 zt_m228.2.1.2.1 zt_z228.2.2 ∈ lw_tbl := xw_tab_in 5 _ (List.mem_of_getElem? (i := 7) rfl)
theorem zt_cd229 : Jvm.Cond.code zt_z229.1 zt_z229.2.1 zt_m229.2.1.2.1 zt_z229.2.2 ∈ lw_tbl := xw_tab_in 5 _ (List.mem_of_getElem? (i := 3) rfl)
theorem zt_cd230 : Jvm.Cond.code zt_z230.1 zt_z230.2.1 zt_m230.2.1.2.1 zt_z230.2.2 ∈ lw_tbl := xw_tab_in 6 _ (List.mem_of_getElem? (i := 37) rfl)
theorem zt_cd231 : Jvm.Cond.code zt_z231.1 zt_z231.2.1 zt_m231.2.1.2.1 zt_z231.2.2 ∈ lw_tbl := xw_tab_in 7 _ (List.mem_of_getElem? (i := 10) rfl)
theorem zt_cd232 : Jvm.Cond.code zt_z232.1 zt_z232.2.1 zt_m232.2.1.2.1 zt_z232.2.2 ∈ lw_tbl := xw_tab_in 7 _ (List.mem_of_getElem? (i := 14) rfl)
theorem zt_cd233 : Jvm.Cond.code zt_z233.1 zt_z233.2.1 zt_m233.2.1.2.1 zt_z233.2.2 ∈ lw_tbl := xw_tab_in 6 _ (List.mem_of_getElem? (i := 164) rfl)
theorem zt_cd234 : Jvm.Cond.code zt_z234.1 zt_z234.2.1 zt_m234.2.1.2.1 zt_z234.2.2 ∈ lw_tbl := xw_tab_in 6 _ (List.mem_of_getElem? (i := 139) rfl)
theorem zt_cd235 : Jvm.Cond.code zt_z235.1 zt_z235.2.1 zt_m235.2.1.2.1 zt_z235.2.2 ∈ lw_tbl := xw_tab_in 6 _ (List.mem_of_getElem? (i := 169) rfl)
theorem zt_cd236 : Jvm.Cond.code zt_z236.1 zt_z236.2.1 zt_m236.2.1.2.1 zt_z236.2.2 ∈ lw_tbl := xw_tab_in 4 _ (List.mem_of_getElem? (i := 191) rfl)
theorem zt_cd237 : Jvm.Cond.code zt_z237.1 zt_z237.2.1 zt_m237.2.1.2.1 zt_z237.2.2 ∈ lw_tbl := xw_tab_in 4 _ (List.mem_of_getElem? (i := 195) rfl)
theorem zt_cd238 : Jvm.Cond.code zt_z238.1 zt_z238.2.1 zt_m238.2.1.2.1 zt_z238.2.2 ∈ lw_tbl := xw_tab_in 5 _ (List.mem_of_getElem? (i := 209) rfl)
theorem zt_cd239 : Jvm.Cond.code zt_z239.1 zt_z239.2.1 zt_m239.2.1.2.1 zt_z239.2.2 ∈ lw_tbl := xw_tab_in 5 _ (List.mem_of_getElem? (i := 205) rfl)
theorem zt_cd240 : Jvm.Cond.code zt_z240.1 zt_z240.2.1 zt_m240.2.1.2.1 zt_z240.2.2 ∈ lw_tbl := xw_tab_in 5 _ (List.mem_of_getElem? (i := 223) rfl)
theorem zt_cd241 : Jvm.Cond.code zt_z241.1 zt_z241.2.1 zt_m241.2.1.2.1 zt_z241.2.2 ∈ lw_tbl := xw_tab_in 6 _ (List.mem_of_getElem? (i := 54) rfl)
theorem zt_cd242 : Jvm.Cond.code zt_z242.1 zt_z242.2.1 zt_m242.2.1.2.1 zt_z242.2.2 ∈ lw_tbl := xw_tab_in 6 _ (List.mem_of_getElem? (i := 58) rfl)
theorem zt_cd243 : Jvm.Cond.code zt_z243.1 zt_z243.2.1 zt_m243.2.1.2.1 zt_z243.2.2 ∈ lw_tbl := xw_tab_in 6 _ (List.mem_of_getElem? (i := 66) rfl)
theorem zt_cd244 : Jvm.Cond.code zt_z244.1 zt_z244.2.1 zt_m244.2.1.2.1 zt_z244.2.2 ∈ lw_tbl := xw_tab_in 4 _ (List.mem_of_getElem? (i := 237) rfl)
theorem zt_cd245 : Jvm.Cond.code zt_z245.1 zt_z245.2.1 zt_m245.2.1.2.1 zt_z245.2.2 ∈ lw_tbl := xw_tab_in 5 _ (List.mem_of_getElem? (i := 100) rfl)
theorem zt_cd246 : Jvm.Cond.code zt_z246.1 zt_z246.2.1 zt_m246.2.1.2.1 zt_z246.2.2 ∈ lw_tbl := xw_tab_in 5 _ (List.mem_of_getElem? (i := 107) rfl)
theorem zt_cd247 : Jvm.Cond.code zt_z247.1 zt_z247.2.1 zt_m247.2.1.2.1 zt_z247.2.2 ∈ lw_tbl := xw_tab_in 4 _ (List.mem_of_getElem? (i := 95) rfl)
theorem zt_cd248 : Jvm.Cond.code zt_z248.1 zt_z248.2.1 zt_m248.2.1.2.1 zt_z248.2.2 ∈ lw_tbl := xw_tab_in 5 _ (List.mem_of_getElem? (i := 11) rfl)
theorem zt_cd249 : Jvm.Cond.code zt_z249.1 zt_z249.2.1 zt_m249.2.1.2.1 zt_z249.2.2 ∈ lw_tbl := xw_tab_in 4 _ (List.mem_of_getElem? (i := 233) rfl)
theorem zt_cd250 : Jvm.Cond.code zt_z250.1 zt_z250.2.1 zt_m250.2.1.2.1 zt_z250.2.2 ∈ lw_tbl := xw_tab_in 4 _ (List.mem_of_getElem? (i := 99) rfl)
theorem zt_cd251 : Jvm.Cond.code zt_z251.1 zt_z251.2.1 zt_m251.2.1.2.1 zt_z251.2.2 ∈ lw_tbl := xw_tab_in 4 _ (List.mem_of_getElem? (i := 209) rfl)
theorem zt_cd252 : Jvm.Cond.code zt_z252.1 zt_z252.2.1 zt_m252.2.1.2.1 zt_z252.2.2 ∈ lw_tbl := xw_tab_in 6 _ (List.mem_of_getElem? (i := 41) rfl)
theorem zt_cd253 : Jvm.Cond.code zt_z253.1 zt_z253.2.1 zt_m253.2.1.2.1 zt_z253.2.2 ∈ lw_tbl := xw_tab_in 4 _ (List.mem_of_getElem? (i := 85) rfl)
theorem zt_cd254 : Jvm.Cond.code zt_z254.1 zt_z254.2.1 zt_m254.2.1.2.1 zt_z254.2.2 ∈ lw_tbl := xw_tab_in 5 _ (List.mem_of_getElem? (i := 84) rfl)
theorem zt_cd255 : Jvm.Cond.code zt_z255.1 zt_z255.2.1 zt_m255.2.1.2.1 zt_z255.2.2 ∈ lw_tbl := xw_tab_in 6 _ (List.mem_of_getElem? (i := 25) rfl)
theorem zt_cd256 : Jvm.Cond.code zt_z256.1 zt_z256.2.1 zt_m256.2.1.2.1 zt_z256.2.2 ∈ lw_tbl := xw_tab_in 6 _ (List.mem_of_getElem? (i := 28) rfl)
theorem zt_cd257 : Jvm.Cond.code zt_z257.1 zt_z257.2.1 zt_m257.2.1.2.1 zt_z257.2.2 ∈ lw_tbl := xw_tab_in 3 _ (List.mem_of_getElem? (i := 161) rfl)
theorem zt_cd258 : Jvm.Cond.code zt_z258.1 zt_z258.2.1 zt_m258.2.1.2.1 zt_z258.2.2 ∈ lw_tbl := xw_tab_in 3 _ (List.mem_of_getElem? (i := 153) rfl)
theorem zt_cd259 : Jvm.Cond.code zt_z259.1 zt_z259.2.1 zt_m259.2.1.2.1 zt_z259.2.2 ∈ lw_tbl := xw_tab_in 3 _ (List.mem_of_getElem? (i := 178) rfl)
theorem zt_cd260 : Jvm.Cond.code zt_z260.1 zt_z260.2.1 zt_m260.2.1.2.1 zt_z260.2.2 ∈ lw_tbl := xw_tab_in 3 _ (List.mem_of_getElem? (i := 173) rfl)
theorem zt_cd261 : Jvm.Cond.code zt_z261.1 zt_z261.2.1 zt_m261.2.1.2.1 zt_z261.2.2 ∈ lw_tbl := xw_tab_in 3 _ (List.mem_of_getElem? (i := 190) rfl)
theorem zt_cd262 : Jvm.Cond.code zt_z262.1 zt_z262.2.1 zt_m262.2.1.2.1 zt_z262.2.2 ∈ lw_tbl := xw_tab_in 3 _ (List.mem_of_getElem? (i := 194) rfl)
theorem zt_cd263 : Jvm.Cond.code zt_z263.1 zt_z263.2.1 zt_m263.2.1.2.1 zt_z263.2.2 ∈ lw_tbl := xw_tab_in 3 _ (List.mem_of_getElem? (i := 169) rfl)
theorem zt_cd264 : Jvm.Cond.code zt_z264.1 zt_z264.2.1 zt_m264.2.1.2.1 zt_z264.2.2 ∈ lw_tbl := xw_tab_in 3 _ (List.mem_of_getElem? (i := 165) rfl)
theorem zt_cd265 : Jvm.Cond.code zt_z265.1 zt_z265.2.1 zt_m265.2.1.2.1 zt_z265.2.2 ∈ lw_tbl := xw_tab_in 4 _ (List.mem_of_getElem? (i := 19) rfl)
theorem zt_cd266 : Jvm.Cond.code zt_z266.1 zt_z266.2.1 zt_m266.2.1.2.1 zt_z266.2.2 ∈ lw_tbl := xw_tab_in 3 _ (List.mem_of_getElem? (i := 186) rfl)
theorem zt_cd267 : Jvm.Cond.code zt_z267.1 zt_z267.2.1 zt_m267.2.1.2.1 zt_z267.2.2 ∈ lw_tbl := xw_tab_in 3 _ (List.mem_of_getElem? (i := 202) rfl)
theorem zt_cd268 : Jvm.Cond.code zt_z268.1 zt_z268.2.1 zt_m268.2.1.2.1 zt_z268.2.2 ∈ lw_tbl := xw_tab_in 4 _ (List.mem_of_getElem? (i := 23) rfl)
theorem zt_cd269 : Jvm.Cond.code zt_z269.1 zt_z269.2.1 zt_m269.2.1.2.1 zt_z269.2.2 ∈ lw_tbl := xw_tab_in 4 _ (List.mem_of_getElem? (i := 27) rfl)
theorem zt_cd270 : Jvm.Cond.code zt_z270.1 zt_z270.2.1 zt_m270.2.1.2.1 zt_z270.2.2 ∈ lw_tbl := xw_tab_in 3 _ (List.mem_of_getElem? (i := 210) rfl)
theorem zt_cd271 : Jvm.Cond.code zt_z271.1 zt_z271.2.1 zt_m271.2.1.2.1 zt_z271.2.2 ∈ lw_tbl := xw_tab_in 6 _ (List.mem_of_getElem? (i := 102) rfl)
theorem zt_cd272 : Jvm.Cond.code zt_z272.1 zt_z272.2.1 zt_m272.2.1.2.1 zt_z272.2.2 ∈ lw_tbl := xw_tab_in 6 _ (List.mem_of_getElem? (i := 74) rfl)
theorem zt_cd273 : Jvm.Cond.code zt_z273.1 zt_z273.2.1 zt_m273.2.1.2.1 zt_z273.2.2 ∈ lw_tbl := xw_tab_in 6 _ (List.mem_of_getElem? (i := 82) rfl)
theorem zt_cd274 : Jvm.Cond.code zt_z274.1 zt_z274.2.1 zt_m274.2.1.2.1 zt_z274.2.2 ∈ lw_tbl := xw_tab_in 6 _ (List.mem_of_getElem? (i := 98) rfl)
theorem zt_cd275 : Jvm.Cond.code zt_z275.1 zt_z275.2.1 zt_m275.2.1.2.1 zt_z275.2.2 ∈ lw_tbl := xw_tab_in 6 _ (List.mem_of_getElem? (i := 114) rfl)
theorem zt_cd276 : Jvm.Cond.code zt_z276.1 zt_z276.2.1 zt_m276.2.1.2.1 zt_z276.2.2 ∈ lw_tbl := xw_tab_in 6 _ (List.mem_of_getElem? (i := 110) rfl)
theorem zt_cd277 : Jvm.Cond.code zt_z277.1 zt_z277.2.1 zt_m277.2.1.2.1 zt_z277.2.2 ∈ lw_tbl := xw_tab_in 6 _ (List.mem_of_getElem? (i := 119) rfl)
theorem zt_cd278 : Jvm.Cond.code zt_z278.1 zt_z278.2.1 zt_m278.2.1.2.1 zt_z278.2.2 ∈ lw_tbl := xw_tab_in 3 _ (List.mem_of_getElem? (i := 182) rfl)
theorem zt_cd279 : Jvm.Cond.code zt_z279.1 zt_z279.2.1 zt_m279.2.1.2.1 zt_z279.2.2 ∈ lw_tbl := xw_tab_in 3 _ (List.mem_of_getElem? (i := 157) rfl)
theorem zt_cd280 : Jvm.Cond.code zt_z280.1 zt_z280.2.1 zt_m280.2.1.2.1 zt_z280.2.2 ∈ lw_tbl := xw_tab_in 3 _ (List.mem_of_getElem? (i := 137) rfl)
theorem zt_cd281 : Jvm.Cond.code zt_z281.1 zt_z281.2.1 zt_m281.2.1.2.1 zt_z281.2.2 ∈ lw_tbl := xw_tab_in 3 _ (List.mem_of_getElem? (i := 141) rfl)
theorem zt_cd282 : Jvm.Cond.code zt_z282.1 zt_z282.2.1 zt_m282.2.1.2.1 zt_z282.2.2 ∈ lw_tbl := xw_tab_in 3 _ (List.mem_of_getElem? (i := 149) rfl)
theorem zt_cd283 : Jvm.Cond.code zt_z283.1 zt_z283.2.1 zt_m283.2.1.2.1 zt_z283.2.2 ∈ lw_tbl := xw_tab_in 3 _ (List.mem_of_getElem? (i := 145) rfl)
theorem zt_cd284 : Jvm.Cond.code zt_z284.1 zt_z284.2.1 zt_m284.2.1.2.1 zt_z284.2.2 ∈ lw_tbl := xw_tab_in 5 _ (List.mem_of_getElem? (i := 136) rfl)
theorem zt_cd285 : Jvm.Cond.code zt_z285.1 zt_z285.2.1 zt_m285.2.1.2.1 zt_z285.2.2 ∈ lw_tbl := xw_tab_in 5 _ (List.mem_of_getElem? (i := 148) rfl)
theorem zt_cd286 : Jvm.Cond.code zt_z286.1 zt_z286.2.1 zt_m286.2.1.2.1 zt_z286.2.2 ∈ lw_tbl := xw_tab_in 5 _ (List.mem_of_getElem? (i := 152) rfl)
theorem zt_cd287 : Jvm.Cond.code zt_z287.1 zt_z287.2.1 zt_m287.2.1.2.1 zt_z287.2.2 ∈ lw_tbl := xw_tab_in 5 _ (List.mem_of_getElem? (i := 158) rfl)
theorem zt_cd288 : Jvm.Cond.code zt_z288.1 zt_z288.2.1 zt_m288.2.1.2.1 zt_z288.2.2 ∈ lw_tbl := xw_tab_in 5 _ (List.mem_of_getElem? (i := 162) rfl)
theorem zt_cd289 : Jvm.Cond.code zt_z289.1 zt_z289.2.1 zt_m289.2.1.2.1 zt_z289.2.2 ∈ lw_tbl := xw_tab_in 5 _ (List.mem_of_getElem? (i := 166) rfl)
theorem zt_cd290 : Jvm.Cond.code zt_z290.1 zt_z290.2.1 zt_m290.2.1.2.1 zt_z290.2.2 ∈ lw_tbl := xw_tab_in 5 _ (List.mem_of_getElem? (i := 170) rfl)
theorem zt_cd291 : Jvm.Cond.code zt_z291.1 zt_z291.2.1 zt_m291.2.1.2.1 zt_z291.2.2 ∈ lw_tbl := xw_tab_in 5 _ (List.mem_of_getElem? (i := 174) rfl)
theorem zt_cd292 : Jvm.Cond.code zt_z292.1 zt_z292.2.1 zt_m292.2.1.2.1 zt_z292.2.2 ∈ lw_tbl := xw_tab_in 5 _ (List.mem_of_getElem? (i := 178) rfl)
theorem zt_cd293 : Jvm.Cond.code zt_z293.1 zt_z293.2.1 zt_m293.2.1.2.1 zt_z293.2.2 ∈ lw_tbl := xw_tab_in 5 _ (List.mem_of_getElem? (i := 186) rfl)
theorem zt_cd294 : Jvm.Cond.code zt_z294.1 zt_z294.2.1 zt_m294.2.1.2.1 zt_z294.2.2 ∈ lw_tbl := xw_tab_in 6 _ (List.mem_of_getElem? (i := 0) rfl)
theorem zt_cd295 : Jvm.Cond.code zt_z295.1 zt_z295.2.1 zt_m295.2.1.2.1 zt_z295.2.2 ∈ lw_tbl := xw_tab_in 6 _ (List.mem_of_getElem? (i := 4) rfl)
theorem zt_cd296 : Jvm.Cond.code zt_z296.1 zt_z296.2.1 zt_m296.2.1.2.1 zt_z296.2.2 ∈ lw_tbl := xw_tab_in 6 _ (List.mem_of_getElem? (i := 12) rfl)
theorem zt_cd297 : Jvm.Cond.code zt_z297.1 zt_z297.2.1 zt_m297.2.1.2.1 zt_z297.2.2 ∈ lw_tbl := xw_tab_in 6 _ (List.mem_of_getElem? (i := 8) rfl)
theorem zt_cd298 : Jvm.Cond.code zt_z298.1 zt_z298.2.1 zt_m298.2.1.2.1 zt_z298.2.2 ∈ lw_tbl := xw_tab_in 5 _ (List.mem_of_getElem? (i := 201) rfl)
theorem zt_cd299 : Jvm.Cond.code zt_z299.1 zt_z299.2.1 zt_m299.2.1.2.1 zt_z299.2.2 ∈ lw_tbl := xw_tab_in 5 _ (List.mem_of_getElem? (i := 219) rfl)
theorem zt_cd300 : Jvm.Cond.code zt_z300.1 zt_z300.2.1 zt_m300.2.1.2.1 zt_z300.2.2 ∈ lw_tbl := xw_tab_in 5 _ (List.mem_of_getElem? (i := 231) rfl)
theorem zt_cd301 : Jvm.Cond.code zt_z301.1 zt_z301.2.1 zt_m301.2.1.2.1 zt_z301.2.2 ∈ lw_tbl := xw_tab_in 6 _ (List.mem_of_getElem? (i := 94) rfl)
theorem zt_cd302 : Jvm.Cond.code zt_z302.1 zt_z302.2.1 zt_m302.2.1.2.1 zt_z302.2.2 ∈ lw_tbl := xw_tab_in 6 _ (List.mem_of_getElem? (i := 106) rfl)
theorem zt_cd303 : Jvm.Cond.code zt_z303.1 zt_z303.2.1 zt_m303.2.1.2.1 zt_z303.2.2 ∈ lw_tbl := xw_tab_in 6 _ (List.mem_of_getElem? (i := 127) rfl)
theorem zt_cd304 : Jvm.Cond.code zt_z304.1 zt_z304.2.1 zt_m304.2.1.2.1 zt_z304.2.2 ∈ lw_tbl := xw_tab_in 6 _ (List.mem_of_getElem? (i := 135) rfl)
theorem zt_cd305 : Jvm.Cond.code zt_z305.1 zt_z305.2.1 zt_m305.2.1.2.1 zt_z305.2.2 ∈ lw_tbl := xw_tab_in 5 _ (List.mem_of_getElem? (i := 30) rfl)
theorem zt_cd306 : Jvm.Cond.code zt_z306.1 zt_z306.2.1 zt_m306.2.1.2.1 zt_z306.2.2 ∈ lw_tbl := xw_tab_in 5 _ (List.mem_of_getElem? (i := 34) rfl)
theorem zt_cd307 : Jvm.Cond.code zt_z307.1 zt_z307.2.1 zt_m307.2.1.2.1 zt_z307.2.2 ∈ lw_tbl := xw_tab_in 5 _ (List.mem_of_getElem? (i := 26) rfl)
theorem zt_cd308 : Jvm.Cond.code zt_z308.1 zt_z308.2.1 zt_m308.2.1.2.1 zt_z308.2.2 ∈ lw_tbl := xw_tab_in 5 _ (List.mem_of_getElem? (i := 42) rfl)
theorem zt_cd309 : Jvm.Cond.code zt_z309.1 zt_z309.2.1 zt_m309.2.1.2.1 zt_z309.2.2 ∈ lw_tbl := xw_tab_in 5 _ (List.mem_of_getElem? (i := 50) rfl)
theorem zt_cd310 : Jvm.Cond.code zt_z310.1 zt_z310.2.1 zt_m310.2.1.2.1 zt_z310.2.2 ∈ lw_tbl := xw_tab_in 5 _ (List.mem_of_getElem? (i := 58) rfl)
theorem zt_cd311 : Jvm.Cond.code zt_z311.1 zt_z311.2.1 zt_m311.2.1.2.1 zt_z311.2.2 ∈ lw_tbl := xw_tab_in 6 _ (List.mem_of_getElem? (i := 147) rfl)
theorem zt_cd312 : Jvm.Cond.code zt_z312.1 zt_z312.2.1 zt_m312.2.1.2.1 zt_z312.2.2 ∈ lw_tbl := xw_tab_in 5 _ (List.mem_of_getElem? (i := 103) rfl)
theorem zt_cd313 : Jvm.Cond.code zt_z313.1 zt_z313.2.1 zt_m313.2.1.2.1 zt_z313.2.2 ∈ lw_tbl := xw_tab_in 4 _ (List.mem_of_getElem? (i := 102) rfl)
theorem zt_cd314 : Jvm.Cond.code zt_z314.1 zt_z314.2.1 zt_m314.2.1.2.1 zt_z314.2.2 ∈ lw_tbl := xw_tab_in 4 _ (List.mem_of_getElem? (i := 91) rfl)
theorem zt_cd315 : Jvm.Cond.code zt_z315.1 zt_z315.2.1 zt_m315.2.1.2.1 zt_z315.2.2 ∈ lw_tbl := xw_tab_in 5 _ (List.mem_of_getElem? (i := 190) rfl)
theorem zt_cd316 : Jvm.Cond.code zt_z316.1 zt_z316.2.1 zt_m316.2.1.2.1 zt_z316.2.2 ∈ lw_tbl := xw_tab_in 4 _ (List.mem_of_getElem? (i := 88) rfl)
theorem zt_wcd_ok : ∀ w ∈ zt_wcd, w ∈ lw_tbl ∧ goodWord w = true := by
  unfold zt_wcd
  refine List.forall_mem_cons.mpr ⟨⟨zt_cd0, rfl⟩, ?_⟩
  refine List.forall_mem_cons.mpr ⟨⟨zt_cd1, rfl⟩, ?_⟩
  refine List.forall_mem_cons.mpr ⟨⟨zt_cd2, rfl⟩, ?_⟩
  refine List.forall_mem_cons.mpr ⟨⟨zt_cd3, rfl⟩, ?_⟩
  refine List.forall_mem_cons.mpr ⟨⟨zt_cd4, rfl⟩, ?_⟩
  refine List.forall_mem_cons.mpr ⟨⟨zt_cd5, rfl⟩, ?_⟩
  refine List.forall_mem_cons.mpr ⟨⟨zt_cd6, rfl⟩, ?_⟩
  refine List.forall_mem_cons.mpr ⟨⟨zt_cd7, rfl⟩, ?_⟩
  refine List.forall_mem_cons.mpr ⟨⟨zt_cd8, rfl⟩, ?_⟩
  refine List.forall_mem_cons.mpr ⟨⟨zt_cd9, rfl⟩, ?_⟩
  refine List.forall_mem_cons.mpr ⟨⟨zt_cd10, rfl⟩, ?_⟩
  refine List.forall_mem_cons.mpr ⟨⟨zt_cd11, rfl⟩, ?_⟩
  refine List.forall_mem_cons.mpr ⟨⟨zt_cd12, rfl⟩, ?_⟩
  refine List.forall_mem_cons.mpr ⟨⟨zt_cd13, rfl⟩, ?_⟩
  refine List.forall_mem_cons.mpr ⟨⟨zt_cd14, rfl⟩, ?_⟩
  refine List.forall_mem_cons.mpr ⟨⟨zt_cd15, rfl⟩, ?_⟩
  refine List.forall_mem_cons.mpr ⟨⟨zt_cd16, rfl⟩, ?_⟩
  refine List.forall_mem_cons.mpr ⟨⟨zt_cd17, rfl⟩, ?_⟩
  refine List.forall_mem_cons.mpr ⟨⟨zt_cd18, rfl⟩, ?_⟩
  refine List.forall_mem_cons.mpr ⟨⟨zt_cd19, rfl⟩, ?_⟩
  refine List.forall_mem_cons.mpr ⟨⟨zt_cd20, rfl⟩, ?_⟩
  refine List.forall_mem_cons.mpr ⟨⟨zt_cd21, rfl⟩, ?_⟩
  refine List.forall_mem_cons.mpr ⟨⟨zt_cd22, rfl⟩, ?_⟩
  refine List.forall_mem_cons.mpr ⟨⟨zt_cd23, rfl⟩, ?_⟩
  refine List.forall_mem_cons.mpr ⟨⟨zt_cd24, rfl⟩, ?_⟩
  refine List.forall_mem_cons.mpr ⟨⟨zt_cd25, rfl⟩, ?_⟩
  refine List.forall_mem_cons.mpr ⟨⟨zt_cd26, rfl⟩, ?_⟩
  refine List.forall_mem_cons.mpr ⟨⟨zt_cd27, rfl⟩, ?_⟩
  refine List.forall_mem_cons.mpr ⟨⟨zt_cd28, rfl⟩, ?_⟩
  refine List.forall_mem_cons.mpr ⟨⟨zt_cd29, rfl⟩, ?_⟩
  refine List.forall_mem_cons.mpr ⟨⟨zt_cd30, rfl⟩, ?_⟩
  refine List.forall_mem_cons.mpr ⟨⟨zt_cd31, rfl⟩, ?_⟩
  refine List.forall_mem_cons.mpr ⟨⟨zt_cd32, rfl⟩, ?_⟩
  refine List.forall_mem_cons.mpr ⟨⟨zt_cd33, rfl⟩, ?_⟩
  refine List.forall_mem_cons.mpr ⟨⟨zt_cd34, rfl⟩, ?_⟩
  refine List.forall_mem_cons.mpr ⟨⟨zt_cd35, rfl⟩, ?_⟩
  refine List.forall_mem_cons.mpr ⟨⟨zt_cd36, rfl⟩, ?_⟩
  refine List.forall_mem_cons.mpr ⟨⟨zt_cd37, rfl⟩, ?_⟩
  refine List.forall_mem_cons.mpr ⟨⟨zt_cd38, rfl⟩, ?_⟩
  refine List.forall_mem_cons.mpr ⟨⟨zt_cd39, rfl⟩, ?_⟩
  refine List.forall_mem_cons.mpr ⟨⟨zt_cd40, rfl⟩, ?_⟩
  refine List.forall_mem_cons.mpr ⟨⟨zt_cd41, rfl⟩, ?_⟩
  refine List.forall_mem_cons.mpr ⟨⟨zt_cd42, rfl⟩, ?_⟩
  refine List.forall_mem_cons.mpr ⟨⟨zt_cd43, rfl⟩, ?_⟩
  refine List.forall_mem_cons.mpr ⟨⟨zt_cd44, rfl⟩, ?_⟩
  refine List.forall_mem_cons.mpr ⟨⟨zt_cd45, rfl⟩, ?_⟩
  refine List.forall_mem_cons.mpr ⟨⟨zt_cd46, rfl⟩, ?_⟩
  refine List.forall_mem_cons.mpr ⟨⟨zt_cd47, rfl⟩, ?_⟩
  refine List.forall_mem_cons.mpr ⟨⟨zt_cd48, rfl⟩, ?_⟩
  refine List.forall_mem_cons.mpr ⟨⟨zt_cd49, rfl⟩, ?_⟩
  refine List.forall_mem_cons.mpr ⟨⟨zt_cd50, rfl⟩, ?_⟩
  refine List.forall_mem_cons.mpr ⟨⟨zt_cd51, rfl⟩, ?_⟩
  refine List.forall_mem_cons.mpr ⟨⟨zt_cd52, rfl⟩, ?_⟩
  refine List.forall_mem_cons.mpr ⟨⟨zt_cd53, rfl⟩, ?_⟩
  refine List.forall_mem_cons.mpr ⟨⟨zt_cd54, rfl⟩, ?_⟩
  refine List.forall_mem_cons.mpr ⟨⟨zt_cd55, rfl⟩, ?_⟩
  refine List.forall_mem_cons.mpr ⟨⟨zt_cd56, rfl⟩, ?_⟩
  refine List.forall_mem_cons.mpr ⟨⟨zt_cd57, rfl⟩, ?_⟩
  refine List.forall_mem_cons.mpr ⟨⟨zt_cd58, rfl⟩, ?_⟩
  refine List.forall_mem_cons.mpr ⟨⟨zt_cd59, rfl⟩, ?_⟩
  refine List.forall_mem_cons.mpr ⟨⟨zt_cd60, rfl⟩, ?_⟩
  refine List.forall_mem_cons.mpr ⟨⟨zt_cd61, rfl⟩, ?_⟩
  refine List.forall_mem_cons.mpr ⟨⟨zt_cd62, rfl⟩, ?_⟩
  refine List.forall_mem_cons.mpr ⟨⟨zt_cd63, rfl⟩, ?_⟩
  refine List.forall_mem_cons.mpr ⟨⟨zt_cd64, rfl⟩, ?_⟩
  refine List.forall_mem_cons.mpr ⟨⟨zt_cd65, rfl⟩, ?_⟩
  refine List.forall_mem_cons.mpr ⟨⟨zt_cd66, rfl⟩, ?_⟩
  refine List.forall_mem_cons.mpr ⟨⟨zt_cd67, rfl⟩, ?_⟩
  refine List.forall_mem_cons.mpr ⟨⟨zt_cd68, rfl⟩, ?_⟩
  refine List.forall_mem_cons.mpr ⟨⟨zt_cd69, rfl⟩, ?_⟩
  refine List.forall_mem_cons.mpr ⟨⟨zt_cd70, rfl⟩, ?_⟩
  refine List.forall_mem_cons.mpr ⟨⟨zt_cd71, rfl⟩, ?_⟩
  refine List.forall_mem_cons.mpr ⟨⟨zt_cd72, rfl⟩, ?_⟩
  refine List.forall_mem_cons.mpr ⟨⟨zt_cd73, rfl⟩, ?_⟩
  refine List.forall_mem_cons.mpr ⟨⟨zt_cd74, rfl⟩, ?_⟩
  refine List.forall_mem_cons.mpr ⟨⟨zt_cd75, rfl⟩, ?_⟩
  refine List.forall_mem_cons.mpr ⟨⟨zt_cd76, rfl⟩, ?_⟩
  refine List.forall_mem_cons.mpr ⟨⟨zt_cd77, rfl⟩, ?_⟩
  refine List.forall_mem_cons.mpr ⟨⟨zt_cd78, rfl⟩, ?_⟩
  refine List.forall_mem_cons.mpr ⟨⟨zt_cd79, rfl⟩, ?_⟩
  refine List.forall_mem_cons.mpr ⟨⟨zt_cd80, rfl⟩, ?_⟩
  refine List.forall_mem_cons.mpr ⟨⟨zt_cd81, rfl⟩, ?_⟩
  refine List.forall_mem_cons.mpr ⟨⟨zt_cd82, rfl⟩, ?_⟩
  refine List.forall_mem_cons.mpr ⟨⟨zt_cd83, rfl⟩, ?_⟩
  refine List.forall_mem_cons.mpr ⟨⟨zt_cd84, rfl⟩, ?_⟩
  refine List.forall_mem_cons.mpr ⟨⟨zt_cd85, rfl⟩, ?_⟩
  refine List.forall_mem_cons.mpr ⟨⟨zt_cd86, rfl⟩, ?_⟩
  refine List.forall_mem_cons.mpr ⟨⟨zt_cd87, rfl⟩, ?_⟩
  refine List.forall_mem_cons.mpr ⟨⟨zt_cd88, rfl⟩, ?_⟩
  refine List.forall_mem_cons.mpr ⟨⟨zt_cd89, rfl⟩, ?_⟩
  refine List.forall_mem_cons.mpr ⟨⟨zt_cd90, rfl⟩, ?_⟩
  refine List.forall_mem_cons.mpr ⟨⟨zt_cd91, rfl⟩, ?_⟩
  refine List.forall_mem_cons.mpr ⟨⟨zt_cd92, rfl⟩, ?_⟩
  refine List.forall_mem_cons.mpr ⟨⟨zt_cd93, rfl⟩, ?_⟩
  refine List.forall_mem_cons.mpr ⟨⟨zt_cd94, rfl⟩, ?_⟩
  refine List.forall_mem_cons.mpr ⟨⟨zt_cd95, rfl⟩, ?_⟩
  refine List.forall_mem_cons.mpr ⟨⟨zt_cd96, rfl⟩, ?_⟩
  refine List.forall_mem_cons.mpr ⟨⟨zt_cd97, rfl⟩, ?_⟩
  refine List.forall_mem_cons.mpr ⟨⟨zt_cd98, rfl⟩, ?_⟩
  refine List.forall_mem_cons.mpr ⟨⟨zt_cd99, rfl⟩, ?_⟩
  refine List.forall_mem_cons.mpr ⟨⟨zt_cd100, rfl⟩, ?_⟩
  refine List.forall_mem_cons.mpr ⟨⟨zt_cd101, rfl⟩, ?_⟩
  refine List.forall_mem_cons.mpr ⟨⟨zt_cd102, rfl⟩, ?_⟩
  refine List.forall_mem_cons.mpr ⟨⟨zt_cd103, rfl⟩, ?_⟩
  refine List.forall_mem_cons.mpr ⟨⟨zt_cd104, rfl⟩, ?_⟩
  refine List.forall_mem_cons.mpr ⟨⟨zt_cd105, rfl⟩, ?_⟩
  refine List.forall_mem_cons.mpr ⟨⟨zt_cd106, rfl⟩, ?_⟩
  refine List.forall_mem_cons.mpr ⟨⟨zt_cd107, rfl⟩, ?_⟩
  refine List.forall_mem_cons.mpr ⟨⟨zt_cd108, rfl⟩, ?_⟩
  refine List.forall_mem_cons.mpr ⟨⟨zt_cd109, rfl⟩, ?_⟩
  refine List.forall_mem_cons.mpr ⟨⟨zt_cd110, rfl⟩, ?_⟩
  refine List.forall_mem_cons.mpr ⟨⟨zt_cd111, rfl⟩, ?_⟩
  refine List.forall_mem_cons.mpr ⟨⟨zt_cd112, rfl⟩, ?_⟩
  refine List.forall_mem_cons.mpr ⟨⟨zt_cd113, rfl⟩, ?_⟩
  refine List.forall_mem_cons.mpr ⟨⟨zt_cd114, rfl⟩, ?_⟩
  refine List.forall_mem_cons.mpr ⟨⟨zt_cd115, rfl⟩, ?_⟩
  refine List.forall_mem_cons.mpr ⟨⟨zt_cd116, rfl⟩, ?_⟩
  refine List.forall_mem_cons.mpr ⟨⟨zt_cd117, rfl⟩, ?_⟩
  refine List.forall_mem_cons.mpr ⟨⟨zt_cd118, rfl⟩, ?_⟩
  refine List.forall_mem_cons.mpr ⟨⟨zt_cd119, rfl⟩, ?_⟩
  refine List.forall_mem_cons.mpr ⟨⟨zt_cd120, rfl⟩, ?_⟩
  refine List.forall_mem_cons.mpr ⟨⟨zt_cd121, rfl⟩, ?_⟩
  refine List.forall_mem_cons.mpr ⟨⟨zt_cd122, rfl⟩, ?_⟩
  refine List.forall_mem_cons.mpr ⟨⟨zt_cd123, rfl⟩, ?_⟩
  refine List.forall_mem_cons.mpr ⟨⟨zt_cd124, rfl⟩, ?_⟩
  refine List.forall_mem_cons.mpr ⟨⟨zt_cd125, rfl⟩, ?_⟩
  refine List.forall_mem_cons.mpr ⟨⟨zt_cd126, rfl⟩, ?_⟩
  refine List.forall_mem_cons.mpr ⟨⟨zt_cd127, rfl⟩, ?_⟩
  refine List.forall_mem_cons.mpr ⟨⟨zt_cd128, rfl⟩, ?_⟩
  refine List.forall_mem_cons.mpr ⟨⟨zt_cd129, rfl⟩, ?_⟩
  refine List.forall_mem_cons.mpr ⟨⟨zt_cd130, rfl⟩, ?_⟩
  refine List.forall_mem_cons.mpr ⟨⟨zt_cd131, rfl⟩, ?_⟩
  refine List.forall_mem_cons.mpr ⟨⟨zt_cd132, rfl⟩, ?_⟩
  refine List.forall_mem_cons.mpr ⟨⟨zt_cd133, rfl⟩, ?_⟩
  refine List.forall_mem_cons.mpr ⟨⟨zt_cd134, rfl⟩, ?_⟩
  refine List.forall_mem_cons.mpr ⟨⟨zt_cd135, rfl⟩, ?_⟩
  refine List.forall_mem_cons.mpr ⟨⟨zt_cd136, rfl⟩, ?_⟩
  refine List.forall_mem_cons.mpr ⟨⟨zt_cd137, rfl⟩, ?_⟩
  refine List.forall_mem_cons.mpr ⟨⟨zt_cd138, rfl⟩, ?_⟩
  refine List.forall_mem_cons.mpr ⟨⟨zt_cd139, rfl⟩, ?_⟩
  refine List.forall_mem_cons.mpr ⟨⟨zt_cd140, rfl⟩, ?_⟩
  refine List.forall_mem_cons.mpr ⟨⟨zt_cd141, rfl⟩, ?_⟩
  refine List.forall_mem_cons.mpr ⟨⟨zt_cd142, rfl⟩, ?_⟩
  refine List.forall_mem_cons.mpr ⟨⟨zt_cd143, rfl⟩, ?_⟩
  refine List.forall_mem_cons.mpr ⟨⟨zt_cd144, rfl⟩, ?_⟩
  refine List.forall_mem_cons.mpr ⟨⟨zt_cd145, rfl⟩, ?_⟩
  refine List.forall_mem_cons.mpr ⟨⟨zt_cd146, rfl⟩, ?_⟩
  refine List.forall_mem_cons.mpr ⟨⟨zt_cd147, rfl⟩, ?_⟩
  refine List.forall_mem_cons.mpr ⟨⟨zt_cd148, rfl⟩, ?_⟩
  refine List.forall_mem_cons.mpr ⟨⟨zt_cd149, rfl⟩, ?_⟩
  refine List.forall_mem_cons.mpr ⟨⟨zt_cd150, rfl⟩, ?_⟩
  refine List.forall_mem_cons.mpr ⟨⟨zt_cd151, rfl⟩, ?_⟩
  refine List.forall_mem_cons.mpr ⟨⟨zt_cd152, rfl⟩, ?_⟩
  refine List.forall_mem_cons.mpr ⟨⟨zt_cd153, rfl⟩, ?_⟩
  refine List.forall_mem_cons.mpr ⟨⟨zt_cd154, rfl⟩, ?_⟩
  refine List.forall_mem_cons.mpr ⟨⟨zt_cd155, rfl⟩, ?_⟩
  refine List.forall_mem_cons.mpr ⟨⟨zt_cd156, rfl⟩, ?_⟩
  refine List.forall_mem_cons.mpr ⟨⟨zt_cd157, rfl⟩, ?_⟩
  refine List.forall_mem_cons.mpr ⟨⟨zt_cd158, rfl⟩, ?_⟩
  refine List.forall_mem_cons.mpr ⟨⟨zt_cd159, rfl⟩, ?_⟩
  refine List.forall_mem_cons.mpr ⟨⟨zt_cd160, rfl⟩, ?_⟩
  refine List.forall_mem_cons.mpr ⟨⟨zt_cd161, rfl⟩, ?_⟩
  refine List.forall_mem_cons.mpr ⟨⟨zt_cd162, rfl⟩, ?_⟩
  refine List.forall_mem_cons.mpr ⟨⟨zt_cd163, rfl⟩, ?_⟩
  refine List.forall_mem_cons.mpr ⟨⟨zt_cd164, rfl⟩, ?_⟩
  refine List.forall_mem_cons.mpr ⟨⟨zt_cd165, rfl⟩, ?_⟩
  refine List.forall_mem_cons.mpr ⟨⟨zt_cd166, rfl⟩, ?_⟩
  refine List.forall_mem_cons.mpr ⟨⟨zt_cd167, rfl⟩, ?_⟩
  refine List.forall_mem_cons.mpr ⟨⟨zt_cd168, rfl⟩, ?_⟩
  refine List.forall_mem_cons.mpr ⟨⟨zt_cd169, rfl⟩, ?_⟩
  refine List.forall_mem_cons.mpr ⟨⟨zt_cd170, rfl⟩, ?_⟩
  refine List.forall_mem_cons.mpr ⟨⟨zt_cd171, rfl⟩, ?_⟩
  refine List.forall_mem_cons.mpr ⟨⟨zt_cd172, rfl⟩, ?_⟩
  refine List.forall_mem_cons.mpr ⟨⟨zt_cd173, rfl⟩, ?_⟩
  refine List.forall_mem_cons.mpr ⟨⟨zt_cd174, rfl⟩, ?_⟩
  refine List.forall_mem_cons.mpr ⟨⟨zt_cd175, rfl⟩, ?_⟩
  refine List.forall_mem_cons.mpr ⟨⟨zt_cd176, rfl⟩, ?_⟩
  refine List.forall_mem_cons.mpr ⟨⟨zt_cd177, rfl⟩, ?_⟩
  refine List.forall_mem_cons.mpr ⟨⟨zt_cd178, rfl⟩, ?_⟩
  refine List.forall_mem_cons.mpr ⟨⟨zt_cd179, rfl⟩, ?_⟩
  refine List.forall_mem_cons.mpr ⟨⟨zt_cd180, rfl⟩, ?_⟩
  refine List.forall_mem_cons.mpr ⟨⟨zt_cd181, rfl⟩, ?_⟩
  refine List.forall_mem_cons.mpr ⟨⟨zt_cd182, rfl⟩, ?_⟩
  refine List.forall_mem_cons.mpr ⟨⟨zt_cd183, rfl⟩, ?_⟩
  refine List.forall_mem_cons.mpr ⟨⟨zt_cd184, rfl⟩, ?_⟩
  refine List.forall_mem_cons.mpr ⟨⟨zt_cd185, rfl⟩, ?_⟩
  refine List.forall_mem_cons.mpr ⟨⟨zt_cd186, rfl⟩, ?_⟩
  refine List.forall_mem_cons.mpr ⟨⟨zt_cd187, rfl⟩, ?_⟩
  refine List.forall_mem_cons.mpr ⟨⟨zt_cd188, rfl⟩, ?_⟩
  refine List.forall_mem_cons.mpr ⟨⟨zt_cd189, rfl⟩, ?_⟩
  refine List.forall_mem_cons.mpr ⟨⟨zt_cd190, rfl⟩, ?_⟩
  refine List.forall_mem_cons.mpr ⟨⟨zt_cd191, rfl⟩, ?_⟩
  refine List.forall_mem_cons.mpr ⟨⟨zt_cd192, rfl⟩, ?_⟩
  refine List.forall_mem_cons.mpr ⟨⟨zt_cd193, rfl⟩, ?_⟩
  refine List.forall_mem_cons.mpr ⟨⟨zt_cd194, rfl⟩, ?_⟩
  refine List.forall_mem_cons.mpr ⟨⟨zt_cd195, rfl⟩, ?_⟩
  refine List.forall_mem_cons.mpr ⟨⟨zt_cd196, rfl⟩, ?_⟩
  refine List.forall_mem_cons.mpr ⟨⟨zt_cd197, rfl⟩, ?_⟩
  refine List.forall_mem_cons.mpr ⟨⟨zt_cd198, rfl⟩, ?_⟩
  refine List.forall_mem_cons.mpr ⟨⟨zt_cd199, rfl⟩, ?_⟩
  refine List.forall_mem_cons.mpr ⟨⟨zt_cd200, rfl⟩, ?_⟩
  refine List.forall_mem_cons.mpr ⟨⟨zt_cd201, rfl⟩, ?_⟩
  refine List.forall_mem_cons.mpr ⟨⟨zt_cd202, rfl⟩, ?_⟩
  refine List.forall_mem_cons.mpr ⟨⟨zt_cd203, rfl⟩, ?_⟩
  refine List.forall_mem_cons.mpr ⟨⟨zt_cd204, rfl⟩, ?_⟩
  refine List.forall_mem_cons.mpr ⟨⟨zt_cd205, rfl⟩, ?_⟩
  refine List.forall_mem_cons.mpr ⟨⟨zt_cd206, rfl⟩, ?_⟩
  refine List.forall_mem_cons.mpr ⟨⟨zt_cd207, rfl⟩, ?_⟩
  refine List.forall_mem_cons.mpr ⟨⟨zt_cd208, rfl⟩, ?_⟩
  refine List.forall_mem_cons.mpr ⟨⟨zt_cd209, rfl⟩, ?_⟩
  refine List.forall_mem_cons.mpr ⟨⟨zt_cd210, rfl⟩, ?_⟩
  refine List.forall_mem_cons.mpr ⟨⟨zt_cd211, rfl⟩, ?_⟩
  refine List.forall_mem_cons.mpr ⟨⟨zt_cd212, rfl⟩, ?_⟩
  refine List.forall_mem_cons.mpr ⟨⟨zt_cd213, rfl⟩, ?_⟩
  refine List.forall_mem_cons.mpr ⟨⟨zt_cd214, rfl⟩, ?_⟩
  refine List.forall_mem_cons.mpr ⟨⟨zt_cd215, rfl⟩, ?_⟩
  refine List.forall_mem_cons.mpr ⟨⟨zt_cd216, rfl⟩, ?_⟩
  refine List.forall_mem_cons.mpr ⟨⟨zt_cd217, rfl⟩, ?_⟩
  refine List.forall_mem_cons.mpr ⟨⟨zt_cd218, rfl⟩, ?_⟩
  refine List.forall_mem_cons.mpr ⟨⟨zt_cd219, rfl⟩, ?_⟩
  refine List.forall_mem_cons.mpr ⟨⟨zt_cd220, rfl⟩, ?_⟩
  refine List.forall_mem_cons.mpr ⟨⟨zt_cd221, rfl⟩, ?_⟩
  refine List.forall_mem_cons.mpr ⟨⟨zt_cd222, rfl⟩, ?_⟩
  refine List.forall_mem_cons.mpr ⟨⟨zt_cd223, rfl⟩, ?_⟩
  refine List.forall_mem_cons.mpr ⟨⟨zt_cd224, rfl⟩, ?_⟩
  refine List.forall_mem_cons.mpr ⟨⟨zt_cd225, rfl⟩, ?_⟩
  refine List.forall_mem_cons.mpr ⟨⟨zt_cd226, rfl⟩, ?_⟩
  refine List.forall_mem_cons.mpr ⟨⟨zt_cd227, rfl⟩, ?_⟩
  refine List.forall_mem_cons.mpr ⟨⟨zt_cd228, rfl⟩, ?_⟩
  refine List.forall_mem_cons.mpr ⟨⟨zt_cd229, rfl⟩, ?_⟩
  refine List.forall_mem_cons.mpr ⟨⟨zt_cd230, rfl⟩, ?_⟩
  refine List.forall_mem_cons.mpr ⟨⟨zt_cd231, rfl⟩, ?_⟩
  refine List.forall_mem_cons.mpr ⟨⟨zt_cd232, rfl⟩, ?_⟩
  refine List.forall_mem_cons.mpr ⟨⟨zt_cd233, rfl⟩, ?_⟩
  refine List.forall_mem_cons.mpr ⟨⟨zt_cd234, rfl⟩, ?_⟩
  refine List.forall_mem_cons.mpr ⟨⟨zt_cd235, rfl⟩, ?_⟩
  refine List.forall_mem_cons.mpr ⟨⟨zt_cd236, rfl⟩, ?_⟩
  refine List.forall_mem_cons.mpr ⟨⟨zt_cd237, rfl⟩, ?_⟩
  refine List.forall_mem_cons.mpr ⟨⟨zt_cd238, rfl⟩, ?_⟩
  refine List.forall_mem_cons.mpr ⟨⟨zt_cd239, rfl⟩, ?_⟩
  refine List.forall_mem_cons.mpr ⟨⟨zt_cd240, rfl⟩, ?_⟩
  refine List.forall_mem_cons.mpr ⟨⟨zt_cd241, rfl⟩, ?_⟩
  refine List.forall_mem_cons.mpr ⟨⟨zt_cd242, rfl⟩, ?_⟩
  refine List.forall_mem_cons.mpr ⟨⟨zt_cd243, rfl⟩, ?_⟩
  refine List.forall_mem_cons.mpr ⟨⟨zt_cd244, rfl⟩, ?_⟩
  refine List.forall_mem_cons.mpr ⟨⟨zt_cd245, rfl⟩, ?_⟩
  refine List.forall_mem_cons.mpr ⟨⟨zt_cd246, rfl⟩, ?_⟩
  refine List.forall_mem_cons.mpr ⟨⟨zt_cd247, rfl⟩, ?_⟩
  refine List.forall_mem_cons.mpr ⟨⟨zt_cd248, rfl⟩, ?_⟩
  refine List.forall_mem_cons.mpr ⟨⟨zt_cd249, rfl⟩, ?_⟩
  refine List.forall_mem_cons.mpr ⟨⟨zt_cd250, rfl⟩, ?_⟩
  refine List.forall_mem_cons.mpr ⟨⟨zt_cd251, rfl⟩, ?_⟩
  refine List.forall_mem_cons.mpr ⟨⟨zt_cd252, rfl⟩, ?_⟩
  refine List.forall_mem_cons.mpr ⟨⟨zt_cd253, rfl⟩, ?_⟩
  refine List.forall_mem_cons.mpr ⟨⟨zt_cd254, rfl⟩, ?_⟩
  refine List.forall_mem_cons.mpr ⟨⟨zt_cd255, rfl⟩, ?_⟩
  refine List.forall_mem_cons.mpr ⟨⟨zt_cd256, rfl⟩, ?_⟩
  refine List.forall_mem_cons.mpr ⟨⟨zt_cd257, rfl⟩, ?_⟩
  refine List.forall_mem_cons.mpr ⟨⟨zt_cd258, rfl⟩, ?_⟩
  refine List.forall_mem_cons.mpr ⟨⟨zt_cd259, rfl⟩, ?_⟩
  refine List.forall_mem_cons.mpr ⟨⟨zt_cd260, rfl⟩, ?_⟩
  refine List.forall_mem_cons.mpr ⟨⟨zt_cd261, rfl⟩, ?_⟩
  refine List.forall_mem_cons.mpr ⟨⟨zt_cd262, rfl⟩, ?_⟩
  refine List.forall_mem_cons.mpr ⟨⟨zt_cd263, rfl⟩, ?_⟩
  refine List.forall_mem_cons.mpr ⟨⟨zt_cd264, rfl⟩, ?_⟩
  refine List.forall_mem_cons.mpr ⟨⟨zt_cd265, rfl⟩, ?_⟩
  refine List.forall_mem_cons.mpr ⟨⟨zt_cd266, rfl⟩, ?_⟩
  refine List.forall_mem_cons.mpr ⟨⟨zt_cd267, rfl⟩, ?_⟩
  refine List.forall_mem_cons.mpr ⟨⟨zt_cd268, rfl⟩, ?_⟩
  refine List.forall_mem_cons.mpr ⟨⟨zt_cd269, rfl⟩, ?_⟩
  refine List.forall_mem_cons.mpr ⟨⟨zt_cd270, rfl⟩, ?_⟩
  refine List.forall_mem_cons.mpr ⟨⟨zt_cd271, rfl⟩, ?_⟩
  refine List.forall_mem_cons.mpr ⟨⟨zt_cd272, rfl⟩, ?_⟩
  refine List.forall_mem_cons.mpr ⟨⟨zt_cd273, rfl⟩, ?_⟩
  refine List.forall_mem_cons.mpr ⟨⟨zt_cd274, rfl⟩, ?_⟩
  refine List.forall_mem_cons.mpr ⟨⟨zt_cd275, rfl⟩, ?_⟩
  refine List.forall_mem_cons.mpr ⟨⟨zt_cd276, rfl⟩, ?_⟩
  refine List.forall_mem_cons.mpr ⟨⟨zt_cd277, rfl⟩, ?_⟩
  refine List.forall_mem_cons.mpr ⟨⟨zt_cd278, rfl⟩, ?_⟩
  refine List.forall_mem_cons.mpr ⟨⟨zt_cd279, rfl⟩, ?_⟩
  refine List.forall_mem_cons.mpr ⟨⟨zt_cd280, rfl⟩, ?_⟩
  refine List.forall_mem_cons.mpr ⟨⟨zt_cd281, rfl⟩, ?_⟩
  refine List.forall_mem_cons.mpr ⟨⟨zt_cd282, rfl⟩, ?_⟩
  refine List.forall_mem_cons.mpr ⟨⟨zt_cd283, rfl⟩, ?_⟩
  refine List.forall_mem_cons.mpr ⟨⟨zt_cd284, rfl⟩, ?_⟩
  refine List.forall_mem_cons.mpr ⟨⟨zt_cd285, rfl⟩, ?_⟩
  refine List.forall_mem_cons.mpr ⟨⟨zt_cd286, rfl⟩, ?_⟩
  refine List.forall_mem_cons.mpr ⟨⟨zt_cd287, rfl⟩, ?_⟩
  refine List.forall_mem_cons.mpr ⟨⟨zt_cd288, rfl⟩, ?_⟩
  refine List.forall_mem_cons.mpr ⟨⟨zt_cd289, rfl⟩, ?_⟩
  refine List.forall_mem_cons.mpr ⟨⟨zt_cd290, rfl⟩, ?_⟩
  refine List.forall_mem_cons.mpr ⟨⟨zt_cd291, rfl⟩, ?_⟩
  refine List.forall_mem_cons.mpr ⟨⟨zt_cd292, rfl⟩, ?_⟩
  refine List.forall_mem_cons.mpr ⟨⟨zt_cd293, rfl⟩, ?_⟩
  refine List.forall_mem_cons.mpr ⟨⟨zt_cd294, rfl⟩, ?_⟩
  refine List.forall_mem_cons.mpr ⟨⟨zt_cd295, rfl⟩, ?_⟩
  refine List.forall_mem_cons.mpr ⟨⟨zt_cd296, rfl⟩, ?_⟩
  refine List.forall_mem_cons.mpr ⟨⟨zt_cd297, rfl⟩, ?_⟩
  refine List.forall_mem_cons.mpr ⟨⟨zt_cd298, rfl⟩, ?_⟩
  refine List.forall_mem_cons.mpr ⟨⟨zt_cd299, rfl⟩, ?_⟩
  refine List.forall_mem_cons.mpr ⟨⟨zt_cd300, rfl⟩, ?_⟩
  refine List.forall_mem_cons.mpr ⟨⟨zt_cd301, rfl⟩, ?_⟩
  refine List.forall_mem_cons.mpr ⟨⟨zt_cd302, rfl⟩, ?_⟩
  refine List.forall_mem_cons.mpr ⟨⟨zt_cd303, rfl⟩, ?_⟩
  refine List.forall_mem_cons.mpr ⟨⟨zt_cd304, rfl⟩, ?_⟩
  refine List.forall_mem_cons.mpr ⟨⟨zt_cd305, rfl⟩, ?_⟩
  refine List.forall_mem_cons.mpr ⟨⟨zt_cd306, rfl⟩, ?_⟩
  refine List.forall_mem_cons.mpr ⟨⟨zt_cd307, rfl⟩, ?_⟩
  refine List.forall_mem_cons.mpr ⟨⟨zt_cd308, rfl⟩, ?_⟩
  refine List.forall_mem_cons.mpr ⟨⟨zt_cd309, rfl⟩, ?_⟩
  refine List.forall_mem_cons.mpr ⟨⟨zt_cd310, rfl⟩, ?_⟩
  refine List.forall_mem_cons.mpr ⟨⟨zt_cd311, rfl⟩, ?_⟩
  refine List.forall_mem_cons.mpr ⟨⟨zt_cd312, rfl⟩, ?_⟩
  refine List.forall_mem_cons.mpr ⟨⟨zt_cd313, rfl⟩, ?_⟩
  refine List.forall_mem_cons.mpr ⟨⟨zt_cd314, rfl⟩, ?_⟩
  refine List.forall_mem_cons.mpr ⟨⟨zt_cd315, rfl⟩, ?_⟩
  refine List.forall_mem_cons.mpr ⟨⟨zt_cd316, rfl⟩, ?_⟩
  exact fun _ h => absurd h List.not_mem_nil
theorem zt_tb_ok : ∀ w ∈ zt_tb, w ∈ lw_tbl ∧ goodWord w = true := by
  have h : ∀ l ∈ zt_tbs, ∀ w ∈ l, w ∈ lw_tbl ∧ goodWord w = true := by
    unfold zt_tbs
    refine List.forall_mem_cons.mpr ⟨xw_in_ok zt_wc0_ok, ?_⟩
    refine List.forall_mem_cons.mpr ⟨xw_in_ok zt_wc1_ok, ?_⟩
    refine List.forall_mem_cons.mpr ⟨xw_in_ok zt_wc2_ok, ?_⟩
    refine List.forall_mem_cons.mpr ⟨xw_in_ok zt_wc3_ok, ?_⟩
    refine List.forall_mem_cons.mpr ⟨xw_in_ok zt_wc4_ok, ?_⟩
    refine List.forall_mem_cons.mpr ⟨xw_in_ok zt_wc5_ok, ?_⟩
    refine List.forall_mem_cons.mpr ⟨xw_in_ok zt_wc6_ok, ?_⟩
    refine List.forall_mem_cons.mpr ⟨xw_in_ok zt_wc7_ok, ?_⟩
    refine List.forall_mem_cons.mpr ⟨xw_in_ok zt_wc8_ok, ?_⟩
    refine List.forall_mem_cons.mpr ⟨xw_in_ok zt_wc9_ok, ?_⟩
    refine List.forall_mem_cons.mpr ⟨xw_in_ok zt_wc10_ok, ?_⟩
    refine List.forall_mem_cons.mpr ⟨xw_in_ok zt_wc11_ok, ?_⟩
    refine List.forall_mem_cons.mpr ⟨xw_in_ok zt_wc12_ok, ?_⟩
    refine List.forall_mem_cons.mpr ⟨xw_in_ok zt_wk0_ok, ?_⟩
    refine List.forall_mem_cons.mpr ⟨xw_in_ok zt_wk1_ok, ?_⟩
    refine List.forall_mem_cons.mpr ⟨xw_in_ok zt_wk2_ok, ?_⟩
    refine List.forall_mem_cons.mpr ⟨xw_in_ok zt_wk3_ok, ?_⟩
    refine List.forall_mem_cons.mpr ⟨xw_in_ok zt_wk4_ok, ?_⟩
    refine List.forall_mem_cons.mpr ⟨xw_in_ok zt_wk5_ok, ?_⟩
    refine List.forall_mem_cons.mpr ⟨xw_in_ok zt_wk6_ok, ?_⟩
    refine List.forall_mem_cons.mpr ⟨xw_in_ok zt_wk7_ok, ?_⟩
    refine List.forall_mem_cons.mpr ⟨xw_in_ok zt_wk8_ok, ?_⟩
    refine List.forall_mem_cons.mpr ⟨xw_in_ok zt_wk9_ok, ?_⟩
    refine List.forall_mem_cons.mpr ⟨xw_in_ok zt_wk10_ok, ?_⟩
    refine List.forall_mem_cons.mpr ⟨xw_in_ok zt_wk11_ok, ?_⟩
    refine List.forall_mem_cons.mpr ⟨xw_in_ok zt_wk12_ok, ?_⟩
    refine List.forall_mem_cons.mpr ⟨xw_in_ok zt_wk98_ok, ?_⟩
    refine List.forall_mem_cons.mpr ⟨xw_in_ok zt_wkL_ok, ?_⟩
    refine List.forall_mem_cons.mpr ⟨xw_in_ok zt_wy0_ok, ?_⟩
    refine List.forall_mem_cons.mpr ⟨xw_in_ok zt_wy1_ok, ?_⟩
    refine List.forall_mem_cons.mpr ⟨xw_in_ok zt_wy2_ok, ?_⟩
    refine List.forall_mem_cons.mpr ⟨xw_in_ok zt_wy3_ok, ?_⟩
    refine List.forall_mem_cons.mpr ⟨xw_in_ok zt_wy4_ok, ?_⟩
    refine List.forall_mem_cons.mpr ⟨xw_in_ok zt_wy5_ok, ?_⟩
    refine List.forall_mem_cons.mpr ⟨xw_in_ok zt_wy6_ok, ?_⟩
    refine List.forall_mem_cons.mpr ⟨xw_in_ok zt_wy7_ok, ?_⟩
    refine List.forall_mem_cons.mpr ⟨xw_in_ok zt_wy8_ok, ?_⟩
    refine List.forall_mem_cons.mpr ⟨xw_in_ok zt_wy9_ok, ?_⟩
    refine List.forall_mem_cons.mpr ⟨xw_in_ok zt_wy10_ok, ?_⟩
    refine List.forall_mem_cons.mpr ⟨xw_in_ok zt_wy11_ok, ?_⟩
    refine List.forall_mem_cons.mpr ⟨xw_in_ok zt_wy12_ok, ?_⟩
    refine List.forall_mem_cons.mpr ⟨xw_in_ok zt_wy13_ok, ?_⟩
    refine List.forall_mem_cons.mpr ⟨xw_in_ok zt_wy14_ok, ?_⟩
    refine List.forall_mem_cons.mpr ⟨xw_in_ok zt_wy15_ok, ?_⟩
    refine List.forall_mem_cons.mpr ⟨xw_in_ok zt_wy16_ok, ?_⟩
    refine List.forall_mem_cons.mpr ⟨xw_in_ok zt_wy17_ok, ?_⟩
    refine List.forall_mem_cons.mpr ⟨xw_in_ok zt_wy18_ok, ?_⟩
    refine List.forall_mem_cons.mpr ⟨xw_in_ok zt_wy19_ok, ?_⟩
    refine List.forall_mem_cons.mpr ⟨xw_in_ok zt_wy20_ok, ?_⟩
    refine List.forall_mem_cons.mpr ⟨xw_in_ok zt_wy21_ok, ?_⟩
    refine List.forall_mem_cons.mpr ⟨xw_in_ok zt_wy22_ok, ?_⟩
    refine List.forall_mem_cons.mpr ⟨xw_in_ok zt_wy23_ok, ?_⟩
    refine List.forall_mem_cons.mpr ⟨xw_in_ok zt_wy24_ok, ?_⟩
    refine List.forall_mem_cons.mpr ⟨xw_in_ok zt_wy25_ok, ?_⟩
    refine List.forall_mem_cons.mpr ⟨xw_in_ok zt_wy26_ok, ?_⟩
    refine List.forall_mem_cons.mpr ⟨xw_in_ok zt_wy27_ok, ?_⟩
    refine List.forall_mem_cons.mpr ⟨xw_in_ok zt_wy28_ok, ?_⟩
    refine List.forall_mem_cons.mpr ⟨xw_in_ok zt_wy29_ok, ?_⟩
    refine List.forall_mem_cons.mpr ⟨xw_in_ok zt_wy30_ok, ?_⟩
    refine List.forall_mem_cons.mpr ⟨xw_in_ok zt_wy31_ok, ?_⟩
    refine List.forall_mem_cons.mpr ⟨xw_in_ok zt_wy32_ok, ?_⟩
    refine List.forall_mem_cons.mpr ⟨xw_in_ok zt_wy33_ok, ?_⟩
    refine List.forall_mem_cons.mpr ⟨xw_in_ok zt_wy34_ok, ?_⟩
    refine List.forall_mem_cons.mpr ⟨xw_in_ok zt_wy35_ok, ?_⟩
    refine List.forall_mem_cons.mpr ⟨xw_in_ok zt_wy36_ok, ?_⟩
    refine List.forall_mem_cons.mpr ⟨xw_in_ok zt_wy37_ok, ?_⟩
    refine List.forall_mem_cons.mpr ⟨xw_in_ok zt_wy38_ok, ?_⟩
    refine List.forall_mem_cons.mpr ⟨xw_in_ok zt_wy39_ok, ?_⟩
    refine List.forall_mem_cons.mpr ⟨xw_in_ok zt_wy40_ok, ?_⟩
    refine List.forall_mem_cons.mpr ⟨xw_in_ok zt_wy41_ok, ?_⟩
    refine List.forall_mem_cons.mpr ⟨xw_in_ok zt_wy42_ok, ?_⟩
    refine List.forall_mem_cons.mpr ⟨xw_in_ok zt_wy43_ok, ?_⟩
    refine List.forall_mem_cons.mpr ⟨xw_in_ok zt_wy44_ok, ?_⟩
    refine List.forall_mem_cons.mpr ⟨xw_in_ok zt_wy45_ok, ?_⟩
    refine List.forall_mem_cons.mpr ⟨xw_in_ok zt_wy46_ok, ?_⟩
    refine List.forall_mem_cons.mpr ⟨xw_in_ok zt_wy47_ok, ?_⟩
    refine List.forall_mem_cons.mpr ⟨xw_in_ok zt_wy48_ok, ?_⟩
    refine List.forall_mem_cons.mpr ⟨xw_in_ok zt_wy49_ok, ?_⟩
    refine List.forall_mem_cons.mpr ⟨xw_in_ok zt_wy50_ok, ?_⟩
    refine List.forall_mem_cons.mpr ⟨xw_in_ok zt_wy51_ok, ?_⟩
    refine List.forall_mem_cons.mpr ⟨xw_in_ok zt_wy52_ok, ?_⟩
    refine List.forall_mem_cons.mpr ⟨xw_in_ok zt_wy53_ok, ?_⟩
    refine List.forall_mem_cons.mpr ⟨xw_in_ok zt_wy54_ok, ?_⟩
    refine List.forall_mem_cons.mpr ⟨xw_in_ok zt_wy55_ok, ?_⟩
    refine List.forall_mem_cons.mpr ⟨xw_in_ok zt_wy56_ok, ?_⟩
    refine List.forall_mem_cons.mpr ⟨xw_in_ok zt_wy57_ok, ?_⟩
    refine List.forall_mem_cons.mpr ⟨xw_in_ok zt_wy58_ok, ?_⟩
    refine List.forall_mem_cons.mpr ⟨xw_in_ok zt_wy59_ok, ?_⟩
    refine List.forall_mem_cons.mpr ⟨xw_in_ok zt_wy60_ok, ?_⟩
    refine List.forall_mem_cons.mpr ⟨xw_in_ok zt_wy61_ok, ?_⟩
    refine List.forall_mem_cons.mpr ⟨xw_in_ok zt_wy62_ok, ?_⟩
    refine List.forall_mem_cons.mpr ⟨xw_in_ok zt_wy63_ok, ?_⟩
    refine List.forall_mem_cons.mpr ⟨xw_in_ok zt_wy64_ok, ?_⟩
    refine List.forall_mem_cons.mpr ⟨xw_in_ok zt_wy65_ok, ?_⟩
    refine List.forall_mem_cons.mpr ⟨xw_in_ok zt_wy66_ok, ?_⟩
    refine List.forall_mem_cons.mpr ⟨xw_in_ok zt_wy67_ok, ?_⟩
    refine List.forall_mem_cons.mpr ⟨xw_in_ok zt_wy68_ok, ?_⟩
    refine List.forall_mem_cons.mpr ⟨xw_in_ok zt_wy69_ok, ?_⟩
    refine List.forall_mem_cons.mpr ⟨xw_in_ok zt_wy70_ok, ?_⟩
    refine List.forall_mem_cons.mpr ⟨xw_in_ok zt_wy71_ok, ?_⟩
    refine List.forall_mem_cons.mpr ⟨xw_in_ok zt_wy72_ok, ?_⟩
    refine List.forall_mem_cons.mpr ⟨xw_in_ok zt_wy73_ok, ?_⟩
    refine List.forall_mem_cons.mpr ⟨xw_in_ok zt_wy74_ok, ?_⟩
    refine List.forall_mem_cons.mpr ⟨xw_in_ok zt_wy75_ok, ?_⟩
    refine List.forall_mem_cons.mpr ⟨xw_in_ok zt_wy76_ok, ?_⟩
    refine List.forall_mem_cons.mpr ⟨xw_in_ok zt_wy77_ok, ?_⟩
    refine List.forall_mem_cons.mpr ⟨xw_in_ok zt_wy78_ok, ?_⟩
    refine List.forall_mem_cons.mpr ⟨xw_in_ok zt_wy79_ok, ?_⟩
    refine List.forall_mem_cons.mpr ⟨xw_in_ok zt_wy80_ok, ?_⟩
    refine List.forall_mem_cons.mpr ⟨xw_in_ok zt_wy81_ok, ?_⟩
    refine List.forall_mem_cons.mpr ⟨xw_in_ok zt_wy82_ok, ?_⟩
    refine List.forall_mem_cons.mpr ⟨xw_in_ok zt_wy83_ok, ?_⟩
    refine List.forall_mem_cons.mpr ⟨xw_in_ok zt_wy84_ok, ?_⟩
    refine List.forall_mem_cons.mpr ⟨xw_in_ok zt_wy85_ok, ?_⟩
    refine List.forall_mem_cons.mpr ⟨xw_in_ok zt_wy86_ok, ?_⟩
    refine List.forall_mem_cons.mpr ⟨xw_in_ok zt_wy87_ok, ?_⟩
    refine List.forall_mem_cons.mpr ⟨xw_in_ok zt_wy88_ok, ?_⟩
    refine List.forall_mem_cons.mpr ⟨xw_in_ok zt_wy89_ok, ?_⟩
    refine List.forall_mem_cons.mpr ⟨xw_in_ok zt_wy90_ok, ?_⟩
    refine List.forall_mem_cons.mpr ⟨xw_in_ok zt_wy91_ok, ?_⟩
    refine List.forall_mem_cons.mpr ⟨xw_in_ok zt_wy92_ok, ?_⟩
    refine List.forall_mem_cons.mpr ⟨xw_in_ok zt_wy93_ok, ?_⟩
    refine List.forall_mem_cons.mpr ⟨xw_in_ok zt_wy94_ok, ?_⟩
    refine List.forall_mem_cons.mpr ⟨xw_in_ok zt_wy95_ok, ?_⟩
    refine List.forall_mem_cons.mpr ⟨xw_in_ok zt_wy96_ok, ?_⟩
    refine List.forall_mem_cons.mpr ⟨xw_in_ok zt_wy97_ok, ?_⟩
    refine List.forall_mem_cons.mpr ⟨xw_in_ok zt_wy98_ok, ?_⟩
    refine List.forall_mem_cons.mpr ⟨xw_in_ok zt_wy99_ok, ?_⟩
    refine List.forall_mem_cons.mpr ⟨xw_in_ok zt_wy100_ok, ?_⟩
    refine List.forall_mem_cons.mpr ⟨xw_in_ok zt_wy101_ok, ?_⟩
    refine List.forall_mem_cons.mpr ⟨xw_in_ok zt_wy102_ok, ?_⟩
    refine List.forall_mem_cons.mpr ⟨xw_in_ok zt_wy103_ok, ?_⟩
    refine List.forall_mem_cons.mpr ⟨xw_in_ok zt_wy104_ok, ?_⟩
    refine List.forall_mem_cons.mpr ⟨xw_in_ok zt_wy105_ok, ?_⟩
    refine List.forall_mem_cons.mpr ⟨xw_in_ok zt_wy106_ok, ?_⟩
    refine List.forall_mem_cons.mpr ⟨xw_in_ok zt_wy107_ok, ?_⟩
    refine List.forall_mem_cons.mpr ⟨xw_in_ok zt_wy108_ok, ?_⟩
    refine List.forall_mem_cons.mpr ⟨xw_in_ok zt_wy109_ok, ?_⟩
    refine List.forall_mem_cons.mpr ⟨xw_in_ok zt_wy110_ok, ?_⟩
    refine List.forall_mem_cons.mpr ⟨xw_in_ok zt_wy111_ok, ?_⟩
    refine List.forall_mem_cons.mpr ⟨xw_in_ok zt_wy112_ok, ?_⟩
    refine List.forall_mem_cons.mpr ⟨xw_in_ok zt_wy113_ok, ?_⟩
    refine List.forall_mem_cons.mpr ⟨xw_in_ok zt_wy114_ok, ?_⟩
    refine List.forall_mem_cons.mpr ⟨xw_in_ok zt_wy115_ok, ?_⟩
    refine List.forall_mem_cons.mpr ⟨xw_in_ok zt_wy116_ok, ?_⟩
    refine List.forall_mem_cons.mpr ⟨xw_in_ok zt_wy117_ok, ?_⟩
    refine List.forall_mem_cons.mpr ⟨xw_in_ok zt_wy118_ok, ?_⟩
    refine List.forall_mem_cons.mpr ⟨xw_in_ok zt_wy119_ok, ?_⟩
    refine List.forall_mem_cons.mpr ⟨xw_in_ok zt_wy120_ok, ?_⟩
    refine List.forall_mem_cons.mpr ⟨xw_in_ok zt_wy121_ok, ?_⟩
    refine List.forall_mem_cons.mpr ⟨xw_in_ok zt_wy122_ok, ?_⟩
    refine List.forall_mem_cons.mpr ⟨xw_in_ok zt_wy123_ok, ?_⟩
    refine List.forall_mem_cons.mpr ⟨xw_in_ok zt_wy124_ok, ?_⟩
    refine List.forall_mem_cons.mpr ⟨xw_in_ok zt_wy125_ok, ?_⟩
    refine List.forall_mem_cons.mpr ⟨xw_in_ok zt_wy126_ok, ?_⟩
    refine List.forall_mem_cons.mpr ⟨xw_in_ok zt_wy127_ok, ?_⟩
    refine List.forall_mem_cons.mpr ⟨xw_in_ok zt_wy128_ok, ?_⟩
    refine List.forall_mem_cons.mpr ⟨xw_in_ok zt_wy129_ok, ?_⟩
    refine List.forall_mem_cons.mpr ⟨xw_in_ok zt_wy130_ok, ?_⟩
    refine List.forall_mem_cons.mpr ⟨xw_in_ok zt_wy131_ok, ?_⟩
    refine List.forall_mem_cons.mpr ⟨xw_in_ok zt_wy132_ok, ?_⟩
    refine List.forall_mem_cons.mpr ⟨xw_in_ok zt_wy133_ok, ?_⟩
    refine List.forall_mem_cons.mpr ⟨xw_in_ok zt_wy134_ok, ?_⟩
    refine List.forall_mem_cons.mpr ⟨xw_in_ok zt_wy135_ok, ?_⟩
    refine List.forall_mem_cons.mpr ⟨xw_in_ok zt_wy136_ok, ?_⟩
    refine List.forall_mem_cons.mpr ⟨xw_in_ok zt_wy137_ok, ?_⟩
    refine List.forall_mem_cons.mpr ⟨xw_in_ok zt_wy138_ok, ?_⟩
    refine List.forall_mem_cons.mpr ⟨xw_in_ok zt_wy139_ok, ?_⟩
    refine List.forall_mem_cons.mpr ⟨xw_in_ok zt_wy140_ok, ?_⟩
    refine List.forall_mem_cons.mpr ⟨xw_in_ok zt_wy141_ok, ?_⟩
    refine List.forall_mem_cons.mpr ⟨xw_in_ok zt_wy142_ok, ?_⟩
    refine List.forall_mem_cons.mpr ⟨xw_in_ok zt_wy143_ok, ?_⟩
    refine List.forall_mem_cons.mpr ⟨xw_in_ok zt_wy144_ok, ?_⟩
    refine List.forall_mem_cons.mpr ⟨xw_in_ok zt_wy145_ok, ?_⟩
    refine List.forall_mem_cons.mpr ⟨xw_in_ok zt_wy146_ok, ?_⟩
    refine List.forall_mem_cons.mpr ⟨xw_in_ok zt_wy147_ok, ?_⟩
    refine List.forall_mem_cons.mpr ⟨xw_in_ok zt_wy148_ok, ?_⟩
    refine List.forall_mem_cons.mpr ⟨xw_in_ok zt_wy149_ok, ?_⟩
    refine List.forall_mem_cons.mpr ⟨xw_in_ok zt_wy150_ok, ?_⟩
    refine List.forall_mem_cons.mpr ⟨xw_in_ok zt_wy151_ok, ?_⟩
    refine List.forall_mem_cons.mpr ⟨xw_in_ok zt_wy152_ok, ?_⟩
    refine List.forall_mem_cons.mpr ⟨xw_in_ok zt_wy153_ok, ?_⟩
    refine List.forall_mem_cons.mpr ⟨xw_in_ok zt_wy154_ok, ?_⟩
    refine List.forall_mem_cons.mpr ⟨xw_in_ok zt_wy155_ok, ?_⟩
    refine List.forall_mem_cons.mpr ⟨xw_in_ok zt_wy156_ok, ?_⟩
    refine List.forall_mem_cons.mpr ⟨xw_in_ok zt_wy157_ok, ?_⟩
    refine List.forall_mem_cons.mpr ⟨xw_in_ok zt_wy158_ok, ?_⟩
    refine List.forall_mem_cons.mpr ⟨xw_in_ok zt_wy159_ok, ?_⟩
    refine List.forall_mem_cons.mpr ⟨xw_in_ok zt_wy160_ok, ?_⟩
    refine List.forall_mem_cons.mpr ⟨xw_in_ok zt_wy161_ok, ?_⟩
    refine List.forall_mem_cons.mpr ⟨xw_in_ok zt_wy162_ok, ?_⟩
    refine List.forall_mem_cons.mpr ⟨xw_in_ok zt_wy163_ok, ?_⟩
    refine List.forall_mem_cons.mpr ⟨xw_in_ok zt_wy164_ok, ?_⟩
    refine List.forall_mem_cons.mpr ⟨xw_in_ok zt_wy165_ok, ?_⟩
    refine List.forall_mem_cons.mpr ⟨xw_in_ok zt_wy166_ok, ?_⟩
    refine List.forall_mem_cons.mpr ⟨xw_in_ok zt_wy167_ok, ?_⟩
    refine List.forall_mem_cons.mpr ⟨xw_in_ok zt_wy168_ok, ?_⟩
    refine List.forall_mem_cons.mpr ⟨xw_in_ok zt_wy169_ok, ?_⟩
    refine List.forall_mem_cons.mpr ⟨xw_in_ok zt_wy170_ok, ?_⟩
    refine List.forall_mem_cons.mpr ⟨xw_in_ok zt_wy171_ok, ?_⟩
    refine List.forall_mem_cons.mpr ⟨xw_in_ok zt_wy172_ok, ?_⟩
    refine List.forall_mem_cons.mpr ⟨xw_in_ok zt_wy173_ok, ?_⟩
    refine List.forall_mem_cons.mpr ⟨xw_in_ok zt_wy174_ok, ?_⟩
    refine List.forall_mem_cons.mpr ⟨xw_in_ok zt_wy175_ok, ?_⟩
    refine List.forall_mem_cons.mpr ⟨xw_in_ok zt_wy176_ok, ?_⟩
    refine List.forall_mem_cons.mpr ⟨xw_in_ok zt_wy177_ok, ?_⟩
    refine List.forall_mem_cons.mpr ⟨xw_in_ok zt_wy178_ok, ?_⟩
    refine List.forall_mem_cons.mpr ⟨xw_in_ok zt_wy179_ok, ?_⟩
    refine List.forall_mem_cons.mpr ⟨xw_in_ok zt_wy180_ok, ?_⟩
    refine List.forall_mem_cons.mpr ⟨xw_in_ok zt_wy181_ok, ?_⟩
    refine List.forall_mem_cons.mpr ⟨xw_in_ok zt_wy182_ok, ?_⟩
    refine List.forall_mem_cons.mpr ⟨xw_in_ok zt_wy183_ok, ?_⟩
    refine List.forall_mem_cons.mpr ⟨xw_in_ok zt_wy184_ok, ?_⟩
    refine List.forall_mem_cons.mpr ⟨xw_in_ok zt_wy185_ok, ?_⟩
    refine List.forall_mem_cons.mpr ⟨xw_in_ok zt_wy186_ok, ?_⟩
    refine List.forall_mem_cons.mpr ⟨xw_in_ok zt_wy187_ok, ?_⟩
    refine List.forall_mem_cons.mpr ⟨xw_in_ok zt_wy188_ok, ?_⟩
    refine List.forall_mem_cons.mpr ⟨xw_in_ok zt_wy189_ok, ?_⟩
    refine List.forall_mem_cons.mpr ⟨xw_in_ok zt_wy190_ok, ?_⟩
    refine List.forall_mem_cons.mpr ⟨xw_in_ok zt_wy191_ok, ?_⟩
    refine List.forall_mem_cons.mpr ⟨xw_in_ok zt_wy192_ok, ?_⟩
    refine List.forall_mem_cons.mpr ⟨xw_in_ok zt_wy193_ok, ?_⟩
    refine List.forall_mem_cons.mpr ⟨xw_in_ok zt_wy194_ok, ?_⟩
    refine List.forall_mem_cons.mpr ⟨xw_in_ok zt_wy195_ok, ?_⟩
    refine List.forall_mem_cons.mpr ⟨xw_in_ok zt_wy196_ok, ?_⟩
    refine List.forall_mem_cons.mpr ⟨xw_in_ok zt_wy197_ok, ?_⟩
    refine List.forall_mem_cons.mpr ⟨xw_in_ok zt_wy198_ok, ?_⟩
    refine List.forall_mem_cons.mpr ⟨xw_in_ok zt_wy199_ok, ?_⟩
    refine List.forall_mem_cons.mpr ⟨xw_in_ok zt_wy200_ok, ?_⟩
    refine List.forall_mem_cons.mpr ⟨xw_in_ok zt_wy201_ok, ?_⟩
    refine List.forall_mem_cons.mpr ⟨xw_in_ok zt_wy202_ok, ?_⟩
    refine List.forall_mem_cons.mpr ⟨xw_in_ok zt_wy203_ok, ?_⟩
    refine List.forall_mem_cons.mpr ⟨xw_in_ok zt_wy204_ok, ?_⟩
    refine List.forall_mem_cons.mpr ⟨xw_in_ok zt_wy205_ok, ?_⟩
    refine List.forall_mem_cons.mpr ⟨xw_in_ok zt_wy206_ok, ?_⟩
    refine List.forall_mem_cons.mpr ⟨xw_in_ok zt_wy207_ok, ?_⟩
    refine List.forall_mem_cons.mpr ⟨xw_in_ok zt_wy208_ok, ?_⟩
    refine List.forall_mem_cons.mpr ⟨xw_in_ok zt_wy209_ok, ?_⟩
    refine List.forall_mem_cons.mpr ⟨xw_in_ok zt_wy210_ok, ?_⟩
    refine List.forall_mem_cons.mpr ⟨xw_in_ok zt_wy211_ok, ?_⟩
    refine List.forall_mem_cons.mpr ⟨xw_in_ok zt_wy212_ok, ?_⟩
    refine List.forall_mem_cons.mpr ⟨xw_in_ok zt_wy213_ok, ?_⟩
    refine List.forall_mem_cons.mpr ⟨xw_in_ok zt_wy214_ok, ?_⟩
    refine List.forall_mem_cons.mpr ⟨xw_in_ok zt_wy215_ok, ?_⟩
    refine List.forall_mem_cons.mpr ⟨xw_in_ok zt_wy216_ok, ?_⟩
    refine List.forall_mem_cons.mpr ⟨xw_in_ok zt_wy217_ok, ?_⟩
    refine List.forall_mem_cons.mpr ⟨xw_in_ok zt_wy218_ok, ?_⟩
    refine List.forall_mem_cons.mpr ⟨xw_in_ok zt_wy219_ok, ?_⟩
    refine List.forall_mem_cons.mpr ⟨xw_in_ok zt_wy220_ok, ?_⟩
    refine List.forall_mem_cons.mpr ⟨xw_in_ok zt_wy221_ok, ?_⟩
    refine List.forall_mem_cons.mpr ⟨xw_in_ok zt_wy222_ok, ?_⟩
    refine List.forall_mem_cons.mpr ⟨xw_in_ok zt_wy223_ok, ?_⟩
    refine List.forall_mem_cons.mpr ⟨xw_in_ok zt_wy224_ok, ?_⟩
    refine List.forall_mem_cons.mpr ⟨xw_in_ok zt_wy225_ok, ?_⟩
    refine List.forall_mem_cons.mpr ⟨xw_in_ok zt_wy226_ok, ?_⟩
    refine List.forall_mem_cons.mpr ⟨xw_in_ok zt_wy227_ok, ?_⟩
    refine List.forall_mem_cons.mpr ⟨xw_in_ok zt_wy228_ok, ?_⟩
    refine List.forall_mem_cons.mpr ⟨xw_in_ok zt_wy229_ok, ?_⟩
    refine List.forall_mem_cons.mpr ⟨xw_in_ok zt_wy230_ok, ?_⟩
    refine List.forall_mem_cons.mpr ⟨xw_in_ok zt_wy231_ok, ?_⟩
    refine List.forall_mem_cons.mpr ⟨xw_in_ok zt_wy232_ok, ?_⟩
    refine List.forall_mem_cons.mpr ⟨xw_in_ok zt_wy233_ok, ?_⟩
    refine List.forall_mem_cons.mpr ⟨xw_in_ok zt_wy234_ok, ?_⟩
    refine List.forall_mem_cons.mpr ⟨xw_in_ok zt_wy235_ok, ?_⟩
    refine List.forall_mem_cons.mpr ⟨xw_in_ok zt_wy236_ok, ?_⟩
    refine List.forall_mem_cons.mpr ⟨xw_in_ok zt_wy237_ok, ?_⟩
    refine List.forall_mem_cons.mpr ⟨xw_in_ok zt_wy238_ok, ?_⟩
    refine List.forall_mem_cons.mpr ⟨xw_in_ok zt_wy239_ok, ?_⟩
    refine List.forall_mem_cons.mpr ⟨xw_in_ok zt_wy240_ok, ?_⟩
    refine List.forall_mem_cons.mpr ⟨xw_in_ok zt_wy241_ok, ?_⟩
    refine List.forall_mem_cons.mpr ⟨xw_in_ok zt_wy242_ok, ?_⟩
    refine List.forall_mem_cons.mpr ⟨xw_in_ok zt_wy243_ok, ?_⟩
    refine List.forall_mem_cons.mpr ⟨xw_in_ok zt_wy244_ok, ?_⟩
    refine List.forall_mem_cons.mpr ⟨xw_in_ok zt_wy245_ok, ?_⟩
    refine List.forall_mem_cons.mpr ⟨xw_in_ok zt_wy246_ok, ?_⟩
    refine List.forall_mem_cons.mpr ⟨xw_in_ok zt_wy247_ok, ?_⟩
    refine List.forall_mem_cons.mpr ⟨xw_in_ok zt_wy248_ok, ?_⟩
    refine List.forall_mem_cons.mpr ⟨xw_in_ok zt_wy249_ok, ?_⟩
    refine List.forall_mem_cons.mpr ⟨xw_in_ok zt_wy250_ok, ?_⟩
    refine List.forall_mem_cons.mpr ⟨xw_in_ok zt_wy251_ok, ?_⟩
    refine List.forall_mem_cons.mpr ⟨xw_in_ok zt_wy252_ok, ?_⟩
    refine List.forall_mem_cons.mpr ⟨xw_in_ok zt_wy253_ok, ?_⟩
    refine List.forall_mem_cons.mpr ⟨xw_in_ok zt_wy254_ok, ?_⟩
    refine List.forall_mem_cons.mpr ⟨xw_in_ok zt_wy255_ok, ?_⟩
    refine List.forall_mem_cons.mpr ⟨xw_in_ok zt_wy256_ok, ?_⟩
    refine List.forall_mem_cons.mpr ⟨xw_in_ok zt_wy257_ok, ?_⟩
    refine List.forall_mem_cons.mpr ⟨xw_in_ok zt_wy258_ok, ?_⟩
    refine List.forall_mem_cons.mpr ⟨xw_in_ok zt_wy259_ok, ?_⟩
    refine List.forall_mem_cons.mpr ⟨xw_in_ok zt_wy260_ok, ?_⟩
    refine List.forall_mem_cons.mpr ⟨xw_in_ok zt_wy261_ok, ?_⟩
    refine List.forall_mem_cons.mpr ⟨xw_in_ok zt_wy262_ok, ?_⟩
    refine List.forall_mem_cons.mpr ⟨xw_in_ok zt_wy263_ok, ?_⟩
    refine List.forall_mem_cons.mpr ⟨xw_in_ok zt_wy264_ok, ?_⟩
    refine List.forall_mem_cons.mpr ⟨xw_in_ok zt_wy265_ok, ?_⟩
    refine List.forall_mem_cons.mpr ⟨xw_in_ok zt_wy266_ok, ?_⟩
    refine List.forall_mem_cons.mpr ⟨xw_in_ok zt_wy267_ok, ?_⟩
    refine List.forall_mem_cons.mpr ⟨xw_in_ok zt_wy268_ok, ?_⟩
    refine List.forall_mem_cons.mpr ⟨xw_in_ok zt_wy269_ok, ?_⟩
    refine List.forall_mem_cons.mpr ⟨xw_in_ok zt_wy270_ok, ?_⟩
    refine List.forall_mem_cons.mpr ⟨xw_in_ok zt_wy271_ok, ?_⟩
    refine List.forall_mem_cons.mpr ⟨xw_in_ok zt_wy272_ok, ?_⟩
    refine List.forall_mem_cons.mpr ⟨xw_in_ok zt_wy273_ok, ?_⟩
    refine List.forall_mem_cons.mpr ⟨xw_in_ok zt_wy274_ok, ?_⟩
    refine List.forall_mem_cons.mpr ⟨xw_in_ok zt_wy275_ok, ?_⟩
    refine List.forall_mem_cons.mpr ⟨xw_in_ok zt_wy276_ok, ?_⟩
    refine List.forall_mem_cons.mpr ⟨xw_in_ok zt_wy277_ok, ?_⟩
    refine List.forall_mem_cons.mpr ⟨xw_in_ok zt_wy278_ok, ?_⟩
    refine List.forall_mem_cons.mpr ⟨xw_in_ok zt_wy279_ok, ?_⟩
    refine List.forall_mem_cons.mpr ⟨xw_in_ok zt_wy280_ok, ?_⟩
    refine List.forall_mem_cons.mpr ⟨xw_in_ok zt_wy281_ok, ?_⟩
    refine List.forall_mem_cons.mpr ⟨xw_in_ok zt_wy282_ok, ?_⟩
    refine List.forall_mem_cons.mpr ⟨xw_in_ok zt_wy283_ok, ?_⟩
    refine List.forall_mem_cons.mpr ⟨xw_in_ok zt_wy284_ok, ?_⟩
    refine List.forall_mem_cons.mpr ⟨xw_in_ok zt_wy285_ok, ?_⟩
    refine List.forall_mem_cons.mpr ⟨xw_in_ok zt_wy286_ok, ?_⟩
    refine List.forall_mem_cons.mpr ⟨xw_in_ok zt_wy287_ok, ?_⟩
    refine List.forall_mem_cons.mpr ⟨xw_in_ok zt_wy288_ok, ?_⟩
    refine List.forall_mem_cons.mpr ⟨xw_in_ok zt_wy289_ok, ?_⟩
    refine List.forall_mem_cons.mpr ⟨xw_in_ok zt_wy290_ok, ?_⟩
    refine List.forall_mem_cons.mpr ⟨xw_in_ok zt_wy291_ok, ?_⟩
    refine List.forall_mem_cons.mpr ⟨xw_in_ok zt_wy292_ok, ?_⟩
    refine List.forall_mem_cons.mpr ⟨xw_in_ok zt_wy293_ok, ?_⟩
    refine List.forall_mem_cons.mpr ⟨xw_in_ok zt_wy294_ok, ?_⟩
    refine List.forall_mem_cons.mpr ⟨xw_in_ok zt_wy295_ok, ?_⟩
    refine List.forall_mem_cons.mpr ⟨xw_in_ok zt_wy296_ok, ?_⟩
    refine List.forall_mem_cons.mpr ⟨xw_in_ok zt_wy297_ok, ?_⟩
    refine List.forall_mem_cons.mpr ⟨xw_in_ok zt_wy298_ok, ?_⟩
    refine List.forall_mem_cons.mpr ⟨xw_in_ok zt_wy299_ok, ?_⟩
    refine List.forall_mem_cons.mpr ⟨xw_in_ok zt_wy300_ok, ?_⟩
    refine List.forall_mem_cons.mpr ⟨xw_in_ok zt_wy301_ok, ?_⟩
    refine List.forall_mem_cons.mpr ⟨xw_in_ok zt_wy302_ok, ?_⟩
    refine List.forall_mem_cons.mpr ⟨xw_in_ok zt_wy303_ok, ?_⟩
    refine List.forall_mem_cons.mpr ⟨xw_in_ok zt_wy304_ok, ?_⟩
    refine List.forall_mem_cons.mpr ⟨xw_in_ok zt_wy305_ok, ?_⟩
    refine List.forall_mem_cons.mpr ⟨xw_in_ok zt_wy306_ok, ?_⟩
    refine List.forall_mem_cons.mpr ⟨xw_in_ok zt_wy307_ok, ?_⟩
    refine List.forall_mem_cons.mpr ⟨xw_in_ok zt_wy308_ok, ?_⟩
    refine List.forall_mem_cons.mpr ⟨xw_in_ok zt_wy309_ok, ?_⟩
    refine List.forall_mem_cons.mpr ⟨xw_in_ok zt_wy310_ok, ?_⟩
    refine List.forall_mem_cons.mpr ⟨xw_in_ok zt_wy311_ok, ?_⟩
    refine List.forall_mem_cons.mpr ⟨xw_in_ok zt_wy312_ok, ?_⟩
    refine List.forall_mem_cons.mpr ⟨xw_in_ok zt_wy313_ok, ?_⟩
    refine List.forall_mem_cons.mpr ⟨xw_in_ok zt_wy314_ok, ?_⟩
    refine List.forall_mem_cons.mpr ⟨xw_in_ok zt_wy315_ok, ?_⟩
    refine List.forall_mem_cons.mpr ⟨xw_in_ok zt_wy316_ok, ?_⟩
    refine List.forall_mem_cons.mpr ⟨xw_in_ok zt_wx_ok, ?_⟩
    refine List.forall_mem_cons.mpr ⟨xw_in_ok zt_wj_ok, ?_⟩
    refine List.forall_mem_cons.mpr ⟨xw_in_ok zt_wv1_ok, ?_⟩
    refine List.forall_mem_cons.mpr ⟨xw_in_ok zt_wv2_ok, ?_⟩
    refine List.forall_mem_cons.mpr ⟨xw_in_ok zt_wv3_ok, ?_⟩
    exact List.forall_mem_cons.mpr ⟨zt_wcd_ok, fun _ h => absurd h List.not_mem_nil⟩
  intro w hw
  obtain ⟨l, hl, hw⟩ := List.mem_flatten.mp hw
  exact h l hl w hw
theorem zt_wc0_tb : ∀ w ∈ zt_wc0, w ∈ zt_tb := fun _ h => List.mem_flatten.mpr ⟨zt_wc0, List.mem_of_getElem? (i := 0) rfl, h⟩
theorem zt_wc1_tb : ∀ w ∈ zt_wc1, w ∈ zt_tb := fun _ h => List.mem_flatten.mpr ⟨zt_wc1, List.mem_of_getElem? (i := 1) rfl, h⟩
theorem zt_wc2_tb : ∀ w ∈ zt_wc2, w ∈ zt_tb := fun _ h => List.mem_flatten.mpr ⟨zt_wc2, List.mem_of_getElem? (i := 2) rfl, h⟩
theorem zt_wc3_tb : ∀ w ∈ zt_wc3, w ∈ zt_tb := fun _ h => List.mem_flatten.mpr ⟨zt_wc3, List.mem_of_getElem? (i := 3) rfl, h⟩
theorem zt_wc4_tb : ∀ w ∈ zt_wc4, w ∈ zt_tb := fun _ h => List.mem_flatten.mpr ⟨zt_wc4, List.mem_of_getElem? (i := 4) rfl, h⟩
theorem zt_wc5_tb : ∀ w ∈ zt_wc5, w ∈ zt_tb := fun _ h => List.mem_flatten.mpr ⟨zt_wc5, List.mem_of_getElem? (i := 5) rfl, h⟩
theorem zt_wc6_tb : ∀ w ∈ zt_wc6, w ∈ zt_tb := fun _ h => List.mem_flatten.mpr ⟨zt_wc6, List.mem_of_getElem? (i := 6) rfl, h⟩
theorem zt_wc7_tb : ∀ w ∈ zt_wc7, w ∈ zt_tb := fun _ h => List.mem_flatten.mpr ⟨zt_wc7, List.mem_of_getElem? (i := 7) rfl, h⟩
theorem zt_wc8_tb : ∀ w ∈ zt_wc8, w ∈ zt_tb := fun _ h => List.mem_flatten.mpr ⟨zt_wc8, List.mem_of_getElem? (i := 8) rfl, h⟩
theorem zt_wc9_tb : ∀ w ∈ zt_wc9, w ∈ zt_tb := fun _ h => List.mem_flatten.mpr ⟨zt_wc9, List.mem_of_getElem? (i := 9) rfl, h⟩
theorem zt_wc10_tb : ∀ w ∈ zt_wc10, w ∈ zt_tb := fun _ h => List.mem_flatten.mpr ⟨zt_wc10, List.mem_of_getElem? (i := 10) rfl, h⟩
theorem zt_wc11_tb : ∀ w ∈ zt_wc11, w ∈ zt_tb := fun _ h => List.mem_flatten.mpr ⟨zt_wc11, List.mem_of_getElem? (i := 11) rfl, h⟩
theorem zt_wc12_tb : ∀ w ∈ zt_wc12, w ∈ zt_tb := fun _ h => List.mem_flatten.mpr ⟨zt_wc12, List.mem_of_getElem? (i := 12) rfl, h⟩
theorem zt_wk0_tb : ∀ w ∈ zt_wk0, w ∈ zt_tb := fun _ h => List.mem_flatten.mpr ⟨zt_wk0, List.mem_of_getElem? (i := 13) rfl, h⟩
theorem zt_wk1_tb : ∀ w ∈ zt_wk1, w ∈ zt_tb := fun _ h => List.mem_flatten.mpr ⟨zt_wk1, List.mem_of_getElem? (i := 14) rfl, h⟩
theorem zt_wk2_tb : ∀ w ∈ zt_wk2, w ∈ zt_tb := fun _ h => List.mem_flatten.mpr ⟨zt_wk2, List.mem_of_getElem? (i := 15) rfl, h⟩
theorem zt_wk3_tb : ∀ w ∈ zt_wk3, w ∈ zt_tb := fun _ h => List.mem_flatten.mpr ⟨zt_wk3, List.mem_of_getElem? (i := 16) rfl, h⟩
theorem zt_wk4_tb : ∀ w ∈ zt_wk4, w ∈ zt_tb := fun _ h => List.mem_flatten.mpr ⟨zt_wk4, List.mem_of_getElem? (i := 17) rfl, h⟩
theorem zt_wk5_tb : ∀ w ∈ zt_wk5, w ∈ zt_tb := fun _ h => List.mem_flatten.mpr ⟨zt_wk5, List.mem_of_getElem? (i := 18) rfl, h⟩
theorem zt_wk6_tb : ∀ w ∈ zt_wk6, w ∈ zt_tb := fun _ h => List.mem_flatten.mpr ⟨zt_wk6, List.mem_of_getElem? (i := 19) rfl, h⟩
theorem zt_wk7_tb : ∀ w ∈ zt_wk7, w ∈ zt_tb := fun _ h => List.mem_flatten.mpr ⟨zt_wk7, List.mem_of_getElem? (i := 20) rfl, h⟩
theorem zt_wk8_tb : ∀ w ∈ zt_wk8, w ∈ zt_tb := fun _ h => List.mem_flatten.mpr ⟨zt_wk8, List.mem_of_getElem? (i := 21) rfl, h⟩
theorem zt_wk9_tb : ∀ w ∈ zt_wk9, w ∈ zt_tb := fun _ h => List.mem_flatten.mpr ⟨zt_wk9, List.mem_of_getElem? (i := 22) rfl, h⟩
theorem zt_wk10_tb : ∀ w ∈ zt_wk10, w ∈ zt_tb := fun _ h => List.mem_flatten.mpr ⟨zt_wk10, List.mem_of_getElem? (i := 23) rfl, h⟩
theorem zt_wk11_tb : ∀ w ∈ zt_wk11, w ∈ zt_tb := fun _ h => List.mem_flatten.mpr ⟨zt_wk11, List.mem_of_getElem? (i := 24) rfl, h⟩
theorem zt_wk12_tb : ∀ w ∈ zt_wk12, w ∈ zt_tb := fun _ h => List.mem_flatten.mpr ⟨zt_wk12, List.mem_of_getElem? (i := 25) rfl, h⟩
theorem zt_wk98_tb : ∀ w ∈ zt_wk98, w ∈ zt_tb := fun _ h => List.mem_flatten.mpr ⟨zt_wk98, List.mem_of_getElem? (i := 26) rfl, h⟩
theorem zt_wkL_tb : ∀ w ∈ zt_wkL, w ∈ zt_tb := fun _ h => List.mem_flatten.mpr ⟨zt_wkL, List.mem_of_getElem? (i := 27) rfl, h⟩
theorem zt_wy0_tb : ∀ w ∈ zt_wy0, w ∈ zt_tb := fun _ h => List.mem_flatten.mpr ⟨zt_wy0, List.mem_of_getElem? (i := 28) rfl, h⟩
theorem zt_wy1_tb : ∀ w ∈ zt_wy1, w ∈ zt_tb := fun _ h => List.mem_flatten.mpr ⟨zt_wy1, List.mem_of_getElem? (i := 29) rfl, h⟩
theorem zt_wy2_tb : ∀ w ∈ zt_wy2, w ∈ zt_tb := fun _ h => List.mem_flatten.mpr ⟨zt_wy2, List.mem_of_getElem? (i := 30) rfl, h⟩
theorem zt_wy3_tb : ∀ w ∈ zt_wy3, w ∈ zt_tb := fun _ h => List.mem_flatten.mpr ⟨zt_wy3, List.mem_of_getElem? (i := 31) rfl, h⟩
theorem zt_wy4_tb : ∀ w ∈ zt_wy4, w ∈ zt_tb := fun _ h => List.mem_flatten.mpr ⟨zt_wy4, List.mem_of_getElem? (i := 32) rfl, h⟩
theorem zt_wy5_tb : ∀ w ∈ zt_wy5, w ∈ zt_tb := fun _ h => List.mem_flatten.mpr ⟨zt_wy5, List.mem_of_getElem? (i := 33) rfl, h⟩
theorem zt_wy6_tb : ∀ w ∈ zt_wy6, w ∈ zt_tb := fun _ h => List.mem_flatten.mpr ⟨zt_wy6, List.mem_of_getElem? (i := 34) rfl, h⟩
theorem zt_wy7_tb : ∀ w ∈ zt_wy7, w ∈ zt_tb := fun _ h => List.mem_flatten.mpr ⟨zt_wy7, List.mem_of_getElem? (i := 35) rfl, h⟩
theorem zt_wy8_tb : ∀ w ∈ zt_wy8, w ∈ zt_tb := fun _ h => List.mem_flatten.mpr ⟨zt_wy8, List.mem_of_getElem? (i := 36) rfl, h⟩
theorem zt_wy9_tb : ∀ w ∈ zt_wy9, w ∈ zt_tb := fun _ h => List.mem_flatten.mpr ⟨zt_wy9, List.mem_of_getElem? (i := 37) rfl, h⟩
theorem zt_wy10_tb : ∀ w ∈ zt_wy10, w ∈ zt_tb := fun _ h => List.mem_flatten.mpr ⟨zt_wy10, List.mem_of_getElem? (i := 38) rfl, h⟩
theorem zt_wy11_tb : ∀ w ∈ zt_wy11, w ∈ zt_tb := fun _ h => List.mem_flatten.mpr ⟨zt_wy11, List.mem_of_getElem? (i := 39) rfl, h⟩
theorem zt_wy12_tb : ∀ w ∈ zt_wy12, w ∈ zt_tb := fun _ h => List.mem_flatten.mpr ⟨zt_wy12, List.mem_of_getElem? (i := 40) rfl, h⟩
theorem zt_wy13_tb : ∀ w ∈ zt_wy13, w ∈ zt_tb := fun _ h => List.mem_flatten.mpr ⟨zt_wy13, List.mem_of_getElem? (i := 41) rfl, h⟩
theorem zt_wy14_tb : ∀ w ∈ zt_wy14, w ∈ zt_tb := fun _ h => List.mem_flatten.mpr ⟨zt_wy14, List.mem_of_getElem? (i := 42) rfl, h⟩
theorem zt_wy15_tb : ∀ w ∈ zt_wy15, w ∈ zt_tb := fun _ h => List.mem_flatten.mpr ⟨zt_wy15, List.mem_of_getElem? (i := 43) rfl, h⟩
theorem zt_wy16_tb : ∀ w ∈ zt_wy16, w ∈ zt_tb := fun _ h => List.mem_flatten.mpr ⟨zt_wy16, List.mem_of_getElem? (i := 44) rfl, h⟩
theorem zt_wy17_tb : ∀ w ∈ zt_wy17, w ∈ zt_tb := fun _ h => List.mem_flatten.mpr ⟨zt_wy17, List.mem_of_getElem? (i := 45) rfl, h⟩
theorem zt_wy18_tb : ∀ w ∈ zt_wy18, w ∈ zt_tb := fun _ h => List.mem_flatten.mpr ⟨zt_wy18, List.mem_of_getElem? (i := 46) rfl, h⟩
theorem zt_wy19_tb : ∀ w ∈ zt_wy19, w ∈ zt_tb := fun _ h => List.mem_flatten.mpr ⟨zt_wy19, List.mem_of_getElem? (i := 47) rfl, h⟩
theorem zt_wy20_tb : ∀ w ∈ zt_wy20, w ∈ zt_tb := fun _ h => List.mem_flatten.mpr ⟨zt_wy20, List.mem_of_getElem? (i := 48) rfl, h⟩
theorem zt_wy21_tb : ∀ w ∈ zt_wy21, w ∈ zt_tb := fun _ h => List.mem_flatten.mpr ⟨zt_wy21, List.mem_of_getElem? (i := 49) rfl, h⟩
theorem zt_wy22_tb : ∀ w ∈ zt_wy22, w ∈ zt_tb := fun _ h => List.mem_flatten.mpr ⟨zt_wy22, List.mem_of_getElem? (i := 50) rfl, h⟩
theorem zt_wy23_tb : ∀ w ∈ zt_wy23, w ∈ zt_tb := fun _ h => List.mem_flatten.mpr ⟨zt_wy23, List.mem_of_getElem? (i := 51) rfl, h⟩
theorem zt_wy24_tb : ∀ w ∈ zt_wy24, w ∈ zt_tb := fun _ h => List.mem_flatten.mpr ⟨zt_wy24, List.mem_of_getElem? (i := 52) rfl, h⟩
theorem zt_wy25_tb : ∀ w ∈ zt_wy25, w ∈ zt_tb := fun _ h => List.mem_flatten.mpr ⟨zt_wy25, List.mem_of_getElem? (i := 53) rfl, h⟩
theorem zt_wy26_tb : ∀ w ∈ zt_wy26, w ∈ zt_tb := fun _ h => List.mem_flatten.mpr ⟨zt_wy26, List.mem_of_getElem? (i := 54) rfl, h⟩
theorem zt_wy27_tb : ∀ w ∈ zt_wy27, w ∈ zt_tb := fun _ h => List.mem_flatten.mpr ⟨zt_wy27, List.mem_of_getElem? (i := 55) rfl, h⟩
theorem zt_wy28_tb : ∀ w ∈ zt_wy28, w ∈ zt_tb := fun _ h => List.mem_flatten.mpr ⟨zt_wy28, List.mem_of_getElem? (i := 56) rfl, h⟩
theorem zt_wy29_tb : ∀ w ∈ zt_wy29, w ∈ zt_tb := fun _ h => List.mem_flatten.mpr ⟨zt_wy29, List.mem_of_getElem? (i := 57) rfl, h⟩
theorem zt_wy30_tb : ∀ w ∈ zt_wy30, w ∈ zt_tb := fun _ h => List.mem_flatten.mpr ⟨zt_wy30, List.mem_of_getElem? (i := 58) rfl, h⟩
theorem zt_wy31_tb : ∀ w ∈ zt_wy31, w ∈ zt_tb := fun _ h => List.mem_flatten.mpr ⟨zt_wy31, List.mem_of_getElem? (i := 59) rfl, h⟩
theorem zt_wy32_tb : ∀ w ∈ zt_wy32, w ∈ zt_tb := fun _ h => List.mem_flatten.mpr ⟨zt_wy32, List.mem_of_getElem? (i := 60) rfl, h⟩
theorem zt_wy33_tb : ∀ w ∈ zt_wy33, w ∈ zt_tb := fun _ h => List.mem_flatten.mpr ⟨zt_wy33, List.mem_of_getElem? (i := 61) rfl, h⟩
theorem zt_wy34_tb : ∀ w ∈ zt_wy34, w ∈ zt_tb := fun _ h => List.mem_flatten.mpr ⟨zt_wy34, List.mem_of_getElem? (i := 62) rfl, h⟩
theorem zt_wy35_tb : ∀ w ∈ zt_wy35, w ∈ zt_tb := fun _ h => List.mem_flatten.mpr ⟨zt_wy35, List.mem_of_getElem? (i := 63) rfl, h⟩
theorem zt_wy36_tb : ∀ w ∈ zt_wy36, w ∈ zt_tb := fun _ h => List.mem_flatten.mpr ⟨zt_wy36, List.mem_of_getElem? (i := 64) rfl, h⟩
theorem zt_wy37_tb : ∀ w ∈ zt_wy37, w ∈ zt_tb := fun _ h => List.mem_flatten.mpr ⟨zt_wy37, List.mem_of_getElem? (i := 65) rfl, h⟩
theorem zt_wy38_tb : ∀ w ∈ zt_wy38, w ∈ zt_tb := fun _ h => List.mem_flatten.mpr ⟨zt_wy38, List.mem_of_getElem? (i := 66) rfl, h⟩
theorem zt_wy39_tb : ∀ w ∈ zt_wy39, w ∈ zt_tb := fun _ h => List.mem_flatten.mpr ⟨zt_wy39, List.mem_of_getElem? (i := 67) rfl, h⟩
theorem zt_wy40_tb : ∀ w ∈ zt_wy40, w ∈ zt_tb := fun _ h => List.mem_flatten.mpr ⟨zt_wy40, List.mem_of_getElem? (i := 68) rfl, h⟩
theorem zt_wy41_tb : ∀ w ∈ zt_wy41, w ∈ zt_tb := fun _ h => List.mem_flatten.mpr ⟨zt_wy41, List.mem_of_getElem? (i := 69) rfl, h⟩
theorem zt_wy42_tb : ∀ w ∈ zt_wy42, w ∈ zt_tb := fun _ h => List.mem_flatten.mpr ⟨zt_wy42, List.mem_of_getElem? (i := 70) rfl, h⟩
theorem zt_wy43_tb : ∀ w ∈ zt_wy43, w ∈ zt_tb := fun _ h => List.mem_flatten.mpr ⟨zt_wy43, List.mem_of_getElem? (i := 71) rfl, h⟩
theorem zt_wy44_tb : ∀ w ∈ zt_wy44, w ∈ zt_tb := fun _ h => List.mem_flatten.mpr ⟨zt_wy44, List.mem_of_getElem? (i := 72) rfl, h⟩
theorem zt_wy45_tb : ∀ w ∈ zt_wy45, w ∈ zt_tb := fun _ h => List.mem_flatten.mpr ⟨zt_wy45, List.mem_of_getElem? (i := 73) rfl, h⟩
theorem zt_wy46_tb : ∀ w ∈ zt_wy46, w ∈ zt_tb := fun _ h => List.mem_flatten.mpr ⟨zt_wy46, List.mem_of_getElem? (i := 74) rfl, h⟩
theorem zt_wy47_tb : ∀ w ∈ zt_wy47, w ∈ zt_tb := fun _ h => List.mem_flatten.mpr ⟨zt_wy47, List.mem_of_getElem? (i := 75) rfl, h⟩
theorem zt_wy48_tb : ∀ w ∈ zt_wy48, w ∈ zt_tb := fun _ h => List.mem_flatten.mpr ⟨zt_wy48, List.mem_of_getElem? (i := 76) rfl, h⟩
theorem zt_wy49_tb : ∀ w ∈ zt_wy49, w ∈ zt_tb := fun _ h => List.mem_flatten.mpr ⟨zt_wy49, List.mem_of_getElem? (i := 77) rfl, h⟩
theorem zt_wy50_tb : ∀ w ∈ zt_wy50, w ∈ zt_tb := fun _ h => List.mem_flatten.mpr ⟨zt_wy50, List.mem_of_getElem? (i := 78) rfl, h⟩
theorem zt_wy51_tb : ∀ w ∈ zt_wy51, w ∈ zt_tb := fun _ h => List.mem_flatten.mpr ⟨zt_wy51, List.mem_of_getElem? (i := 79) rfl, h⟩
theorem zt_wy52_tb : ∀ w ∈ zt_wy52, w ∈ zt_tb := fun _ h => List.mem_flatten.mpr ⟨zt_wy52, List.mem_of_getElem? (i := 80) rfl, h⟩
theorem zt_wy53_tb : ∀ w ∈ zt_wy53, w ∈ zt_tb := fun _ h => List.mem_flatten.mpr ⟨zt_wy53, List.mem_of_getElem? (i := 81) rfl, h⟩
theorem zt_wy54_tb : ∀ w ∈ zt_wy54, w ∈ zt_tb := fun _ h => List.mem_flatten.mpr ⟨zt_wy54, List.mem_of_getElem? (i := 82) rfl, h⟩
theorem zt_wy55_tb : ∀ w ∈ zt_wy55, w ∈ zt_tb := fun _ h => List.mem_flatten.mpr ⟨zt_wy55, List.mem_of_getElem? (i := 83) rfl, h⟩
theorem zt_wy56_tb : ∀ w ∈ zt_wy56, w ∈ zt_tb := fun _ h => List.mem_flatten.mpr ⟨zt_wy56, List.mem_of_getElem? (i := 84) rfl, h⟩
theorem zt_wy57_tb : ∀ w ∈ zt_wy57, w ∈ zt_tb := fun _ h => List.mem_flatten.mpr ⟨zt_wy57, List.mem_of_getElem? (i := 85) rfl, h⟩
theorem zt_wy58_tb : ∀ w ∈ zt_wy58, w ∈ zt_tb := fun _ h => List.mem_flatten.mpr ⟨zt_wy58, List.mem_of_getElem? (i := 86) rfl, h⟩
theorem zt_wy59_tb : ∀ w ∈ zt_wy59, w ∈ zt_tb := fun _ h => List.mem_flatten.mpr ⟨zt_wy59, List.mem_of_getElem? (i := 87) rfl, h⟩
theorem zt_wy60_tb : ∀ w ∈ zt_wy60, w ∈ zt_tb := fun _ h => List.mem_flatten.mpr ⟨zt_wy60, List.mem_of_getElem? (i := 88) rfl, h⟩
theorem zt_wy61_tb : ∀ w ∈ zt_wy61, w ∈ zt_tb := fun _ h => List.mem_flatten.mpr ⟨zt_wy61, List.mem_of_getElem? (i := 89) rfl, h⟩
theorem zt_wy62_tb : ∀ w ∈ zt_wy62, w ∈ zt_tb := fun _ h => List.mem_flatten.mpr ⟨zt_wy62, List.mem_of_getElem? (i := 90) rfl, h⟩
theorem zt_wy63_tb : ∀ w ∈ zt_wy63, w ∈ zt_tb := fun _ h => List.mem_flatten.mpr ⟨zt_wy63, List.mem_of_getElem? (i := 91) rfl, h⟩
theorem zt_wy64_tb : ∀ w ∈ zt_wy64, w ∈ zt_tb := fun _ h => List.mem_flatten.mpr ⟨zt_wy64, List.mem_of_getElem? (i := 92) rfl, h⟩
theorem zt_wy65_tb : ∀ w ∈ zt_wy65, w ∈ zt_tb := fun _ h => List.mem_flatten.mpr ⟨zt_wy65, List.mem_of_getElem? (i := 93) rfl, h⟩
theorem zt_wy66_tb : ∀ w ∈ zt_wy66, w ∈ zt_tb := fun _ h => List.mem_flatten.mpr ⟨zt_wy66, List.mem_of_getElem? (i := 94) rfl, h⟩
theorem zt_wy67_tb : ∀ w ∈ zt_wy67, w ∈ zt_tb := fun _ h => List.mem_flatten.mpr ⟨zt_wy67, List.mem_of_getElem? (i := 95) rfl, h⟩
theorem zt_wy68_tb : ∀ w ∈ zt_wy68, w ∈ zt_tb := fun _ h => List.mem_flatten.mpr ⟨zt_wy68, List.mem_of_getElem? (i := 96) rfl, h⟩
theorem zt_wy69_tb : ∀ w ∈ zt_wy69, w ∈ zt_tb := fun _ h => List.mem_flatten.mpr ⟨zt_wy69, List.mem_of_getElem? (i := 97) rfl, h⟩
theorem zt_wy70_tb : ∀ w ∈ zt_wy70, w ∈ zt_tb := fun _ h => List.mem_flatten.mpr ⟨zt_wy70, List.mem_of_getElem? (i := 98) rfl, h⟩
theorem zt_wy71_tb : ∀ w ∈ zt_wy71, w ∈ zt_tb := fun _ h => List.mem_flatten.mpr ⟨zt_wy71, List.mem_of_getElem? (i := 99) rfl, h⟩
theorem zt_wy72_tb : ∀ w ∈ zt_wy72, w ∈ zt_tb := fun _ h => List.mem_flatten.mpr ⟨zt_wy72, List.mem_of_getElem? (i := 100) rfl, h⟩
theorem zt_wy73_tb : ∀ w ∈ zt_wy73, w ∈ zt_tb := fun _ h => List.mem_flatten.mpr ⟨zt_wy73, List.mem_of_getElem? (i := 101) rfl, h⟩
theorem zt_wy74_tb : ∀ w ∈ zt_wy74, w ∈ zt_tb := fun _ h => List.mem_flatten.mpr ⟨zt_wy74, List.mem_of_getElem? (i := 102) rfl, h⟩
theorem zt_wy75_tb : ∀ w ∈ zt_wy75, w ∈ zt_tb := fun _ h => List.mem_flatten.mpr ⟨zt_wy75, List.mem_of_getElem? (i := 103) rfl, h⟩
theorem zt_wy76_tb : ∀ w ∈ zt_wy76, w ∈ zt_tb := fun _ h => List.mem_flatten.mpr ⟨zt_wy76, List.mem_of_getElem? (i := 104) rfl, h⟩
theorem zt_wy77_tb : ∀ w ∈ zt_wy77, w ∈ zt_tb := fun _ h => List.mem_flatten.mpr ⟨zt_wy77, List.mem_of_getElem? (i := 105) rfl, h⟩
theorem zt_wy78_tb : ∀ w ∈ zt_wy78, w ∈ zt_tb := fun _ h => List.mem_flatten.mpr ⟨zt_wy78, List.mem_of_getElem? (i := 106) rfl, h⟩
theorem zt_wy79_tb : ∀ w ∈ zt_wy79, w ∈ zt_tb := fun _ h => List.mem_flatten.mpr ⟨zt_wy79, List.mem_of_getElem? (i := 107) rfl, h⟩
theorem zt_wy80_tb : ∀ w ∈ zt_wy80, w ∈ zt_tb := fun _ h => List.mem_flatten.mpr ⟨zt_wy80, List.mem_of_getElem? (i := 108) rfl, h⟩
theorem zt_wy81_tb : ∀ w ∈ zt_wy81, w ∈ zt_tb := fun _ h => List.mem_flatten.mpr ⟨zt_wy81, List.mem_of_getElem? (i := 109) rfl, h⟩
theorem zt_wy82_tb : ∀ w ∈ zt_wy82, w ∈ zt_tb := fun _ h => List.mem_flatten.mpr ⟨zt_wy82, List.mem_of_getElem? (i := 110) rfl, h⟩
theorem zt_wy83_tb : ∀ w ∈ zt_wy83, w ∈ zt_tb := fun _ h => List.mem_flatten.mpr ⟨zt_wy83, List.mem_of_getElem? (i := 111) rfl, h⟩
theorem zt_wy84_tb : ∀ w ∈ zt_wy84, w ∈ zt_tb := fun _ h => List.mem_flatten.mpr ⟨zt_wy84, List.mem_of_getElem? (i := 112) rfl, h⟩
theorem zt_wy85_tb : ∀ w ∈ zt_wy85, w ∈ zt_tb := fun _ h => List.mem_flatten.mpr ⟨zt_wy85, List.mem_of_getElem? (i := 113) rfl, h⟩
theorem zt_wy86_tb : ∀ w ∈ zt_wy86, w ∈ zt_tb := fun _ h => List.mem_flatten.mpr ⟨zt_wy86, List.mem_of_getElem? (i := 114) rfl, h⟩
theorem zt_wy87_tb : ∀ w ∈ zt_wy87, w ∈ zt_tb := fun _ h => List.mem_flatten.mpr ⟨zt_wy87, List.mem_of_getElem? (i := 115) rfl, h⟩
theorem zt_wy88_tb : ∀ w ∈ zt_wy88, w ∈ zt_tb := fun _ h => List.mem_flatten.mpr ⟨zt_wy88, List.mem_of_getElem? (i := 116) rfl, h⟩
theorem zt_wy89_tb : ∀ w ∈ zt_wy89, w ∈ zt_tb := fun _ h => List.mem_flatten.mpr ⟨zt_wy89, List.mem_of_getElem? (i := 117) rfl, h⟩
theorem zt_wy90_tb : ∀ w ∈ zt_wy90, w ∈ zt_tb := fun _ h => List.mem_flatten.mpr ⟨zt_wy90, List.mem_of_getElem? (i := 118) rfl, h⟩
theorem zt_wy91_tb : ∀ w ∈ zt_wy91, w ∈ zt_tb := fun _ h => List.mem_flatten.mpr ⟨zt_wy91, List.mem_of_getElem? (i := 119) rfl, h⟩
theorem zt_wy92_tb : ∀ w ∈ zt_wy92, w ∈ zt_tb := fun _ h => List.mem_flatten.mpr ⟨zt_wy92, List.mem_of_getElem? (i := 120) rfl, h⟩
theorem zt_wy93_tb : ∀ w ∈ zt_wy93, w ∈ zt_tb := fun _ h => List.mem_flatten.mpr ⟨zt_wy93, List.mem_of_getElem? (i := 121) rfl, h⟩
theorem zt_wy94_tb : ∀ w ∈ zt_wy94, w ∈ zt_tb := fun _ h => List.mem_flatten.mpr ⟨zt_wy94, List.mem_of_getElem? (i := 122) rfl, h⟩
theorem zt_wy95_tb : ∀ w ∈ zt_wy95, w ∈ zt_tb := fun _ h => List.mem_flatten.mpr ⟨zt_wy95, List.mem_of_getElem? (i := 123) rfl, h⟩
theorem zt_wy96_tb : ∀ w ∈ zt_wy96, w ∈ zt_tb := fun _ h => List.mem_flatten.mpr ⟨zt_wy96, List.mem_of_getElem? (i := 124) rfl, h⟩
theorem zt_wy97_tb : ∀ w ∈ zt_wy97, w ∈ zt_tb := fun _ h => List.mem_flatten.mpr ⟨zt_wy97, List.mem_of_getElem? (i := 125) rfl, h⟩
theorem zt_wy98_tb : ∀ w ∈ zt_wy98, w ∈ zt_tb := fun _ h => List.mem_flatten.mpr ⟨zt_wy98, List.mem_of_getElem? (i := 126) rfl, h⟩
theorem zt_wy99_tb : ∀ w ∈ zt_wy99, w ∈ zt_tb := fun _ h => List.mem_flatten.mpr ⟨zt_wy99, List.mem_of_getElem? (i := 127) rfl, h⟩
theorem zt_wy100_tb : ∀ w ∈ zt_wy100, w ∈ zt_tb := fun _ h => List.mem_flatten.mpr ⟨zt_wy100, List.mem_of_getElem? (i := 128) rfl, h⟩
theorem zt_wy101_tb : ∀ w ∈ zt_wy101, w ∈ zt_tb := fun _ h => List.mem_flatten.mpr ⟨zt_wy101, List.mem_of_getElem? (i := 129) rfl, h⟩
theorem zt_wy102_tb : ∀ w ∈ zt_wy102, w ∈ zt_tb := fun _ h => List.mem_flatten.mpr ⟨zt_wy102, List.mem_of_getElem? (i := 130) rfl, h⟩
theorem zt_wy103_tb : ∀ w ∈ zt_wy103, w ∈ zt_tb := fun _ h => List.mem_flatten.mpr ⟨zt_wy103, List.mem_of_getElem? (i := 131) rfl, h⟩
theorem zt_wy104_tb : ∀ w ∈ zt_wy104, w ∈ zt_tb := fun _ h => List.mem_flatten.mpr ⟨zt_wy104, List.mem_of_getElem? (i := 132) rfl, h⟩
theorem zt_wy105_tb : ∀ w ∈ zt_wy105, w ∈ zt_tb := fun _ h => List.mem_flatten.mpr ⟨zt_wy105, List.mem_of_getElem? (i := 133) rfl, h⟩
theorem zt_wy106_tb : ∀ w ∈ zt_wy106, w ∈ zt_tb := fun _ h => List.mem_flatten.mpr ⟨zt_wy106, List.mem_of_getElem? (i := 134) rfl, h⟩
theorem zt_wy107_tb : ∀ w ∈ zt_wy107, w ∈ zt_tb := fun _ h => List.mem_flatten.mpr ⟨zt_wy107, List.mem_of_getElem? (i := 135) rfl, h⟩
theorem zt_wy108_tb : ∀ w ∈ zt_wy108, w ∈ zt_tb := fun _ h => List.mem_flatten.mpr ⟨zt_wy108, List.mem_of_getElem? (i := 136) rfl, h⟩
theorem zt_wy109_tb : ∀ w ∈ zt_wy109, w ∈ zt_tb := fun _ h => List.mem_flatten.mpr ⟨zt_wy109, List.mem_of_getElem? (i := 137) rfl, h⟩
theorem zt_wy110_tb : ∀ w ∈ zt_wy110, w ∈ zt_tb := fun _ h => List.mem_flatten.mpr ⟨zt_wy110, List.mem_of_getElem? (i := 138) rfl, h⟩
theorem zt_wy111_tb : ∀ w ∈ zt_wy111, w ∈ zt_tb := fun _ h => List.mem_flatten.mpr ⟨zt_wy111, List.mem_of_getElem? (i := 139) rfl, h⟩
theorem zt_wy112_tb : ∀ w ∈ zt_wy112, w ∈ zt_tb := fun _ h => List.mem_flatten.mpr ⟨zt_wy112, List.mem_of_getElem? (i := 140) rfl, h⟩
theorem zt_wy113_tb : ∀ w ∈ zt_wy113, w ∈ zt_tb := fun _ h => List.mem_flatten.mpr ⟨zt_wy113, List.mem_of_getElem? (i := 141) rfl, h⟩
theorem zt_wy114_tb : ∀ w ∈ zt_wy114, w ∈ zt_tb := fun _ h => List.mem_flatten.mpr ⟨zt_wy114, List.mem_of_getElem? (i := 142) rfl, h⟩
theorem zt_wy115_tb : ∀ w ∈ zt_wy115, w ∈ zt_tb := fun _ h => List.mem_flatten.mpr ⟨zt_wy115, List.mem_of_getElem? (i := 143) rfl, h⟩
theorem zt_wy116_tb : ∀ w ∈ zt_wy116, w ∈ zt_tb := fun _ h => List.mem_flatten.mpr ⟨zt_wy116, List.mem_of_getElem? (i := 144) rfl, h⟩
theorem zt_wy117_tb : ∀ w ∈ zt_wy117, w ∈ zt_tb := fun _ h => List.mem_flatten.mpr ⟨zt_wy117, List.mem_of_getElem? (i := 145) rfl, h⟩
theorem zt_wy118_tb : ∀ w ∈ zt_wy118, w ∈ zt_tb := fun _ h => List.mem_flatten.mpr ⟨zt_wy118, List.mem_of_getElem? (i := 146) rfl, h⟩
theorem zt_wy119_tb : ∀ w ∈ zt_wy119, w ∈ zt_tb := fun _ h => List.mem_flatten.mpr ⟨zt_wy119, List.mem_of_getElem? (i := 147) rfl, h⟩
theorem zt_wy120_tb : ∀ w ∈ zt_wy120, w ∈ zt_tb := fun _ h => List.mem_flatten.mpr ⟨zt_wy120, List.mem_of_getElem? (i := 148) rfl, h⟩
theorem zt_wy121_tb : ∀ w ∈ zt_wy121, w ∈ zt_tb := fun _ h => List.mem_flatten.mpr ⟨zt_wy121, List.mem_of_getElem? (i := 149) rfl, h⟩
theorem zt_wy122_tb : ∀ w ∈ zt_wy122, w ∈ zt_tb := fun _ h => List.mem_flatten.mpr ⟨zt_wy122, List.mem_of_getElem? (i := 150) rfl, h⟩
theorem zt_wy123_tb : ∀ w ∈ zt_wy123, w ∈ zt_tb := fun _ h => List.mem_flatten.mpr ⟨zt_wy123, List.mem_of_getElem? (i := 151) rfl, h⟩
theorem zt_wy124_tb : ∀ w ∈ zt_wy124, w ∈ zt_tb := fun _ h => List.mem_flatten.mpr ⟨zt_wy124, List.mem_of_getElem? (i := 152) rfl, h⟩
theorem zt_wy125_tb : ∀ w ∈ zt_wy125, w ∈ zt_tb := fun _ h => List.mem_flatten.mpr ⟨zt_wy125, List.mem_of_getElem? (i := 153) rfl, h⟩
theorem zt_wy126_tb : ∀ w ∈ zt_wy126, w ∈ zt_tb := fun _ h => List.mem_flatten.mpr ⟨zt_wy126, List.mem_of_getElem? (i := 154) rfl, h⟩
theorem zt_wy127_tb : ∀ w ∈ zt_wy127, w ∈ zt_tb := fun _ h => List.mem_flatten.mpr ⟨zt_wy127, List.mem_of_getElem? (i := 155) rfl, h⟩
theorem zt_wy128_tb : ∀ w ∈ zt_wy128, w ∈ zt_tb := fun _ h => List.mem_flatten.mpr ⟨zt_wy128, List.mem_of_getElem? (i := 156) rfl, h⟩
theorem zt_wy129_tb : ∀ w ∈ zt_wy129, w ∈ zt_tb := fun _ h => List.mem_flatten.mpr ⟨zt_wy129, List.mem_of_getElem? (i := 157) rfl, h⟩
theorem zt_wy130_tb : ∀ w ∈ zt_wy130, w ∈ zt_tb := fun _ h => List.mem_flatten.mpr ⟨zt_wy130, List.mem_of_getElem? (i := 158) rfl, h⟩
theorem zt_wy131_tb : ∀ w ∈ zt_wy131, w ∈ zt_tb := fun _ h => List.mem_flatten.mpr ⟨zt_wy131, List.mem_of_getElem? (i := 159) rfl, h⟩
theorem zt_wy132_tb : ∀ w ∈ zt_wy132, w ∈ zt_tb := fun _ h => List.mem_flatten.mpr ⟨zt_wy132, List.mem_of_getElem? (i := 160) rfl, h⟩
theorem zt_wy133_tb : ∀ w ∈ zt_wy133, w ∈ zt_tb := fun _ h => List.mem_flatten.mpr ⟨zt_wy133, List.mem_of_getElem? (i := 161) rfl, h⟩
theorem zt_wy134_tb : ∀ w ∈ zt_wy134, w ∈ zt_tb := fun _ h => List.mem_flatten.mpr ⟨zt_wy134, List.mem_of_getElem? (i := 162) rfl, h⟩
theorem zt_wy135_tb : ∀ w ∈ zt_wy135, w ∈ zt_tb := fun _ h => List.mem_flatten.mpr ⟨zt_wy135, List.mem_of_getElem? (i := 163) rfl, h⟩
theorem zt_wy136_tb : ∀ w ∈ zt_wy136, w ∈ zt_tb := fun _ h => List.mem_flatten.mpr ⟨zt_wy136, List.mem_of_getElem? (i := 164) rfl, h⟩
theorem zt_wy137_tb : ∀ w ∈ zt_wy137, w ∈ zt_tb := fun _ h => List.mem_flatten.mpr ⟨zt_wy137, List.mem_of_getElem? (i := 165) rfl, h⟩
theorem zt_wy138_tb : ∀ w ∈ zt_wy138, w ∈ zt_tb := fun _ h => List.mem_flatten.mpr ⟨zt_wy138, List.mem_of_getElem? (i := 166) rfl, h⟩
theorem zt_wy139_tb : ∀ w ∈ zt_wy139, w ∈ zt_tb := fun _ h => List.mem_flatten.mpr ⟨zt_wy139, List.mem_of_getElem? (i := 167) rfl, h⟩
theorem zt_wy140_tb : ∀ w ∈ zt_wy140, w ∈ zt_tb := fun _ h => List.mem_flatten.mpr ⟨zt_wy140, List.mem_of_getElem? (i := 168) rfl, h⟩
theorem zt_wy141_tb : ∀ w ∈ zt_wy141, w ∈ zt_tb := fun _ h => List.mem_flatten.mpr ⟨zt_wy141, List.mem_of_getElem? (i := 169) rfl, h⟩
theorem zt_wy142_tb : ∀ w ∈ zt_wy142, w ∈ zt_tb := fun _ h => List.mem_flatten.mpr ⟨zt_wy142, List.mem_of_getElem? (i := 170) rfl, h⟩
theorem zt_wy143_tb : ∀ w ∈ zt_wy143, w ∈ zt_tb := fun _ h => List.mem_flatten.mpr ⟨zt_wy143, List.mem_of_getElem? (i := 171) rfl, h⟩
theorem zt_wy144_tb : ∀ w ∈ zt_wy144, w ∈ zt_tb := fun _ h => List.mem_flatten.mpr ⟨zt_wy144, List.mem_of_getElem? (i := 172) rfl, h⟩
theorem zt_wy145_tb : ∀ w ∈ zt_wy145, w ∈ zt_tb := fun _ h => List.mem_flatten.mpr ⟨zt_wy145, List.mem_of_getElem? (i := 173) rfl, h⟩
theorem zt_wy146_tb : ∀ w ∈ zt_wy146, w ∈ zt_tb := fun _ h => List.mem_flatten.mpr ⟨zt_wy146, List.mem_of_getElem? (i := 174) rfl, h⟩
theorem zt_wy147_tb : ∀ w ∈ zt_wy147, w ∈ zt_tb := fun _ h => List.mem_flatten.mpr ⟨zt_wy147, List.mem_of_getElem? (i := 175) rfl, h⟩
theorem zt_wy148_tb : ∀ w ∈ zt_wy148, w ∈ zt_tb := fun _ h => List.mem_flatten.mpr ⟨zt_wy148, List.mem_of_getElem? (i := 176) rfl, h⟩
theorem zt_wy149_tb : ∀ w ∈ zt_wy149, w ∈ zt_tb := fun _ h => List.mem_flatten.mpr ⟨zt_wy149, List.mem_of_getElem? (i := 177) rfl, h⟩
theorem zt_wy150_tb : ∀ w ∈ zt_wy150, w ∈ zt_tb := fun _ h => List.mem_flatten.mpr ⟨zt_wy150, List.mem_of_getElem? (i := 178) rfl, h⟩
theorem zt_wy151_tb : ∀ w ∈ zt_wy151, w ∈ zt_tb := fun _ h => List.mem_flatten.mpr ⟨zt_wy151, List.mem_of_getElem? (i := 179) rfl, h⟩
theorem zt_wy152_tb : ∀ w ∈ zt_wy152, w ∈ zt_tb := fun _ h => List.mem_flatten.mpr ⟨zt_wy152, List.mem_of_getElem? (i := 180) rfl, h⟩
theorem zt_wy153_tb : ∀ w ∈ zt_wy153, w ∈ zt_tb := fun _ h => List.mem_flatten.mpr ⟨zt_wy153, List.mem_of_getElem? (i := 181) rfl, h⟩
theorem zt_wy154_tb : ∀ w ∈ zt_wy154, w ∈ zt_tb := fun _ h => List.mem_flatten.mpr ⟨zt_wy154, List.mem_of_getElem? (i := 182) rfl, h⟩
theorem zt_wy155_tb : ∀ w ∈ zt_wy155, w ∈ zt_tb := fun _ h => List.mem_flatten.mpr ⟨zt_wy155, List.mem_of_getElem? (i := 183) rfl, h⟩
theorem zt_wy156_tb : ∀ w ∈ zt_wy156, w ∈ zt_tb := fun _ h => List.mem_flatten.mpr ⟨zt_wy156, List.mem_of_getElem? (i := 184) rfl, h⟩
theorem zt_wy157_tb : ∀ w ∈ zt_wy157, w ∈ zt_tb := fun _ h => List.mem_flatten.mpr ⟨zt_wy157, List.mem_of_getElem? (i := 185) rfl, h⟩
theorem zt_wy158_tb : ∀ w ∈ zt_wy158, w ∈ zt_tb := fun _ h => List.mem_flatten.mpr ⟨zt_wy158, List.mem_of_getElem? (i := 186) rfl, h⟩
theorem zt_wy159_tb : ∀ w ∈ zt_wy159, w ∈ zt_tb := fun _ h => List.mem_flatten.mpr ⟨zt_wy159, List.mem_of_getElem? (i := 187) rfl, h⟩
theorem zt_wy160_tb : ∀ w ∈ zt_wy160, w ∈ zt_tb := fun _ h => List.mem_flatten.mpr ⟨zt_wy160, List.mem_of_getElem? (i := 188) rfl, h⟩
theorem zt_wy161_tb : ∀ w ∈ zt_wy161, w ∈ zt_tb := fun _ h => List.mem_flatten.mpr ⟨zt_wy161, List.mem_of_getElem? (i := 189) rfl, h⟩
theorem zt_wy162_tb : ∀ w ∈ zt_wy162, w ∈ zt_tb := fun _ h => List.mem_flatten.mpr ⟨zt_wy162, List.mem_of_getElem? (i := 190) rfl, h⟩
theorem zt_wy163_tb : ∀ w ∈ zt_wy163, w ∈ zt_tb := fun _ h => List.mem_flatten.mpr ⟨zt_wy163, List.mem_of_getElem? (i := 191) rfl, h⟩
theorem zt_wy164_tb : ∀ w ∈ zt_wy164, w ∈ zt_tb := fun _ h => List.mem_flatten.mpr ⟨zt_wy164, List.mem_of_getElem? (i := 192) rfl, h⟩
theorem zt_wy165_tb : ∀ w ∈ zt_wy165, w ∈ zt_tb := fun _ h => List.mem_flatten.mpr ⟨zt_wy165, List.mem_of_getElem? (i := 193) rfl, h⟩
theorem zt_wy166_tb : ∀ w ∈ zt_wy166, w ∈ zt_tb := fun _ h => List.mem_flatten.mpr ⟨zt_wy166, List.mem_of_getElem? (i := 194) rfl, h⟩
theorem zt_wy167_tb : ∀ w ∈ zt_wy167, w ∈ zt_tb := fun _ h => List.mem_flatten.mpr ⟨zt_wy167, List.mem_of_getElem? (i := 195) rfl, h⟩
theorem zt_wy168_tb : ∀ w ∈ zt_wy168, w ∈ zt_tb := fun _ h => List.mem_flatten.mpr ⟨zt_wy168, List.mem_of_getElem? (i := 196) rfl, h⟩
theorem zt_wy169_tb : ∀ w ∈ zt_wy169, w ∈ zt_tb := fun _ h => List.mem_flatten.mpr ⟨zt_wy169, List.mem_of_getElem? (i := 197) rfl, h⟩
theorem zt_wy170_tb : ∀ w ∈ zt_wy170, w ∈ zt_tb := fun _ h => List.mem_flatten.mpr ⟨zt_wy170, List.mem_of_getElem? (i := 198) rfl, h⟩
theorem zt_wy171_tb : ∀ w ∈ zt_wy171, w ∈ zt_tb := fun _ h => List.mem_flatten.mpr ⟨zt_wy171, List.mem_of_getElem? (i := 199) rfl, h⟩
theorem zt_wy172_tb : ∀ w ∈ zt_wy172, w ∈ zt_tb := fun _ h => List.mem_flatten.mpr ⟨zt_wy172, List.mem_of_getElem? (i := 200) rfl, h⟩
theorem zt_wy173_tb : ∀ w ∈ zt_wy173, w ∈ zt_tb := fun _ h => List.mem_flatten.mpr ⟨zt_wy173, List.mem_of_getElem? (i := 201) rfl, h⟩
theorem zt_wy174_tb : ∀ w ∈ zt_wy174, w ∈ zt_tb := fun _ h => List.mem_flatten.mpr ⟨zt_wy174, List.mem_of_getElem? (i := 202) rfl, h⟩
theorem zt_wy175_tb : ∀ w ∈ zt_wy175, w ∈ zt_tb := fun _ h => List.mem_flatten.mpr ⟨zt_wy175, List.mem_of_getElem? (i := 203) rfl, h⟩
theorem zt_wy176_tb : ∀ w ∈ zt_wy176, w ∈ zt_tb := fun _ h => List.mem_flatten.mpr ⟨zt_wy176, List.mem_of_getElem? (i := 204) rfl, h⟩
theorem zt_wy177_tb : ∀ w ∈ zt_wy177, w ∈ zt_tb := fun _ h => List.mem_flatten.mpr ⟨zt_wy177, List.mem_of_getElem? (i := 205) rfl, h⟩
theorem zt_wy178_tb : ∀ w ∈ zt_wy178, w ∈ zt_tb := fun _ h => List.mem_flatten.mpr ⟨zt_wy178, List.mem_of_getElem? (i := 206) rfl, h⟩
theorem zt_wy179_tb : ∀ w ∈ zt_wy179, w ∈ zt_tb := fun _ h => List.mem_flatten.mpr ⟨zt_wy179, List.mem_of_getElem? (i := 207) rfl, h⟩
theorem zt_wy180_tb : ∀ w ∈ zt_wy180, w ∈ zt_tb := fun _ h => List.mem_flatten.mpr ⟨zt_wy180, List.mem_of_getElem? (i := 208) rfl, h⟩
theorem zt_wy181_tb : ∀ w ∈ zt_wy181, w ∈ zt_tb := fun _ h => List.mem_flatten.mpr ⟨zt_wy181, List.mem_of_getElem? (i := 209) rfl, h⟩
theorem zt_wy182_tb : ∀ w ∈ zt_wy182, w ∈ zt_tb := fun _ h => List.mem_flatten.mpr ⟨zt_wy182, List.mem_of_getElem? (i := 210) rfl, h⟩
theorem zt_wy183_tb : ∀ w ∈ zt_wy183, w ∈ zt_tb := fun _ h => List.mem_flatten.mpr ⟨zt_wy183, List.mem_of_getElem? (i := 211) rfl, h⟩
theorem zt_wy184_tb : ∀ w ∈ zt_wy184, w ∈ zt_tb := fun _ h => List.mem_flatten.mpr ⟨zt_wy184, List.mem_of_getElem? (i := 212) rfl, h⟩
theorem zt_wy185_tb : ∀ w ∈ zt_wy185, w ∈ zt_tb := fun _ h => List.mem_flatten.mpr ⟨zt_wy185, List.mem_of_getElem? (i := 213) rfl, h⟩
theorem zt_wy186_tb : ∀ w ∈ zt_wy186, w ∈ zt_tb := fun _ h => List.mem_flatten.mpr ⟨zt_wy186, List.mem_of_getElem? (i := 214) rfl, h⟩
theorem zt_wy187_tb : ∀ w ∈ zt_wy187, w ∈ zt_tb := fun _ h => List.mem_flatten.mpr ⟨zt_wy187, List.mem_of_getElem? (i := 215) rfl, h⟩
theorem zt_wy188_tb : ∀ w ∈ zt_wy188, w ∈ zt_tb := fun _ h => List.mem_flatten.mpr ⟨zt_wy188, List.mem_of_getElem? (i := 216) rfl, h⟩
theorem zt_wy189_tb : ∀ w ∈ zt_wy189, w ∈ zt_tb := fun _ h => List.mem_flatten.mpr ⟨zt_wy189, List.mem_of_getElem? (i := 217) rfl, h⟩
theorem zt_wy190_tb : ∀ w ∈ zt_wy190, w ∈ zt_tb := fun _ h => List.mem_flatten.mpr ⟨zt_wy190, List.mem_of_getElem? (i := 218) rfl, h⟩
theorem zt_wy191_tb : ∀ w ∈ zt_wy191, w ∈ zt_tb := fun _ h => List.mem_flatten.mpr ⟨zt_wy191, List.mem_of_getElem? (i := 219) rfl, h⟩
theorem zt_wy192_tb : ∀ w ∈ zt_wy192, w ∈ zt_tb := fun _ h => List.mem_flatten.mpr ⟨zt_wy192, List.mem_of_getElem? (i := 220) rfl, h⟩
theorem zt_wy193_tb : ∀ w ∈ zt_wy193, w ∈ zt_tb := fun _ h => List.mem_flatten.mpr ⟨zt_wy193, List.mem_of_getElem? (i := 221) rfl, h⟩
theorem zt_wy194_tb : ∀ w ∈ zt_wy194, w ∈ zt_tb := fun _ h => List.mem_flatten.mpr ⟨zt_wy194, List.mem_of_getElem? (i := 222) rfl, h⟩
theorem zt_wy195_tb : ∀ w ∈ zt_wy195, w ∈ zt_tb := fun _ h => List.mem_flatten.mpr ⟨zt_wy195, List.mem_of_getElem? (i := 223) rfl, h⟩
theorem zt_wy196_tb : ∀ w ∈ zt_wy196, w ∈ zt_tb := fun _ h => List.mem_flatten.mpr ⟨zt_wy196, List.mem_of_getElem? (i := 224) rfl, h⟩
theorem zt_wy197_tb : ∀ w ∈ zt_wy197, w ∈ zt_tb := fun _ h => List.mem_flatten.mpr ⟨zt_wy197, List.mem_of_getElem? (i := 225) rfl, h⟩
theorem zt_wy198_tb : ∀ w ∈ zt_wy198, w ∈ zt_tb := fun _ h => List.mem_flatten.mpr ⟨zt_wy198, List.mem_of_getElem? (i := 226) rfl, h⟩
theorem zt_wy199_tb : ∀ w ∈ zt_wy199, w ∈ zt_tb := fun _ h => List.mem_flatten.mpr ⟨zt_wy199, List.mem_of_getElem? (i := 227) rfl, h⟩
theorem zt_wy200_tb : ∀ w ∈ zt_wy200, w ∈ zt_tb := fun _ h => List.mem_flatten.mpr ⟨zt_wy200, List.mem_of_getElem? (i := 228) rfl, h⟩
theorem zt_wy201_tb : ∀ w ∈ zt_wy201, w ∈ zt_tb := fun _ h => List.mem_flatten.mpr ⟨zt_wy201, List.mem_of_getElem? (i := 229) rfl, h⟩
theorem zt_wy202_tb : ∀ w ∈ zt_wy202, w ∈ zt_tb := fun _ h => List.mem_flatten.mpr ⟨zt_wy202, List.mem_of_getElem? (i := 230) rfl, h⟩
theorem zt_wy203_tb : ∀ w ∈ zt_wy203, w ∈ zt_tb := fun _ h => List.mem_flatten.mpr ⟨zt_wy203, List.mem_of_getElem? (i := 231) rfl, h⟩
theorem zt_wy204_tb : ∀ w ∈ zt_wy204, w ∈ zt_tb := fun _ h => List.mem_flatten.mpr ⟨zt_wy204, List.mem_of_getElem? (i := 232) rfl, h⟩
theorem zt_wy205_tb : ∀ w ∈ zt_wy205, w ∈ zt_tb := fun _ h => List.mem_flatten.mpr ⟨zt_wy205, List.mem_of_getElem? (i := 233) rfl, h⟩
theorem zt_wy206_tb : ∀ w ∈ zt_wy206, w ∈ zt_tb := fun _ h => List.mem_flatten.mpr ⟨zt_wy206, List.mem_of_getElem? (i := 234) rfl, h⟩
theorem zt_wy207_tb : ∀ w ∈ zt_wy207, w ∈ zt_tb := fun _ h => List.mem_flatten.mpr ⟨zt_wy207, List.mem_of_getElem? (i := 235) rfl, h⟩
theorem zt_wy208_tb : ∀ w ∈ zt_wy208, w ∈ zt_tb := fun _ h => List.mem_flatten.mpr ⟨zt_wy208, List.mem_of_getElem? (i := 236) rfl, h⟩
theorem zt_wy209_tb : ∀ w ∈ zt_wy209, w ∈ zt_tb := fun _ h => List.mem_flatten.mpr ⟨zt_wy209, List.mem_of_getElem? (i := 237) rfl, h⟩
theorem zt_wy210_tb : ∀ w ∈ zt_wy210, w ∈ zt_tb := fun _ h => List.mem_flatten.mpr ⟨zt_wy210, List.mem_of_getElem? (i := 238) rfl, h⟩
theorem zt_wy211_tb : ∀ w ∈ zt_wy211, w ∈ zt_tb := fun _ h => List.mem_flatten.mpr ⟨zt_wy211, List.mem_of_getElem? (i := 239) rfl, h⟩
theorem zt_wy212_tb : ∀ w ∈ zt_wy212, w ∈ zt_tb := fun _ h => List.mem_flatten.mpr ⟨zt_wy212, List.mem_of_getElem? (i := 240) rfl, h⟩
theorem zt_wy213_tb : ∀ w ∈ zt_wy213, w ∈ zt_tb := fun _ h => List.mem_flatten.mpr ⟨zt_wy213, List.mem_of_getElem? (i := 241) rfl, h⟩
theorem zt_wy214_tb : ∀ w ∈ zt_wy214, w ∈ zt_tb := fun _ h => List.mem_flatten.mpr ⟨zt_wy214, List.mem_of_getElem? (i := 242) rfl, h⟩
theorem zt_wy215_tb : ∀ w ∈ zt_wy215, w ∈ zt_tb := fun _ h => List.mem_flatten.mpr ⟨zt_wy215, List.mem_of_getElem? (i := 243) rfl, h⟩
theorem zt_wy216_tb : ∀ w ∈ zt_wy216, w ∈ zt_tb := fun _ h => List.mem_flatten.mpr ⟨zt_wy216, List.mem_of_getElem? (i := 244) rfl, h⟩
theorem zt_wy217_tb : ∀ w ∈ zt_wy217, w ∈ zt_tb := fun _ h => List.mem_flatten.mpr ⟨zt_wy217, List.mem_of_getElem? (i := 245) rfl, h⟩
theorem zt_wy218_tb : ∀ w ∈ zt_wy218, w ∈ zt_tb := fun _ h => List.mem_flatten.mpr ⟨zt_wy218, List.mem_of_getElem? (i := 246) rfl, h⟩
theorem zt_wy219_tb : ∀ w ∈ zt_wy219, w ∈ zt_tb := fun _ h => List.mem_flatten.mpr ⟨zt_wy219, List.mem_of_getElem? (i := 247) rfl, h⟩
theorem zt_wy220_tb : ∀ w ∈ zt_wy220, w ∈ zt_tb := fun _ h => List.mem_flatten.mpr ⟨zt_wy220, List.mem_of_getElem? (i := 248) rfl, h⟩
theorem zt_wy221_tb : ∀ w ∈ zt_wy221, w ∈ zt_tb := fun _ h => List.mem_flatten.mpr ⟨zt_wy221, List.mem_of_getElem? (i := 249) rfl, h⟩
theorem zt_wy222_tb : ∀ w ∈ zt_wy222, w ∈ zt_tb := fun _ h => List.mem_flatten.mpr ⟨zt_wy222, List.mem_of_getElem? (i := 250) rfl, h⟩
theorem zt_wy223_tb : ∀ w ∈ zt_wy223, w ∈ zt_tb := fun _ h => List.mem_flatten.mpr ⟨zt_wy223, List.mem_of_getElem? (i := 251) rfl, h⟩
theorem zt_wy224_tb : ∀ w ∈ zt_wy224, w ∈ zt_tb := fun _ h => List.mem_flatten.mpr ⟨zt_wy224, List.mem_of_getElem? (i := 252) rfl, h⟩
theorem zt_wy225_tb : ∀ w ∈ zt_wy225, w ∈ zt_tb := fun _ h => List.mem_flatten.mpr ⟨zt_wy225, List.mem_of_getElem? (i := 253) rfl, h⟩
theorem zt_wy226_tb : ∀ w ∈ zt_wy226, w ∈ zt_tb := fun _ h => List.mem_flatten.mpr ⟨zt_wy226, List.mem_of_getElem? (i := 254) rfl, h⟩
theorem zt_wy227_tb : ∀ w ∈ zt_wy227, w ∈ zt_tb := fun _ h => List.mem_flatten.mpr ⟨zt_wy227, List.mem_of_getElem? (i := 255) rfl, h⟩
theorem zt_wy228_tb : ∀ w ∈ zt_wy228, w ∈ zt_tb := fun _ h => List.mem_flatten.mpr ⟨zt_wy228, List.mem_of_getElem? (i := 256) rfl, h⟩
theorem zt_wy229_tb : ∀ w ∈ zt_wy229, w ∈ zt_tb := fun _ h => List.mem_flatten.mpr ⟨zt_wy229, List.mem_of_getElem? (i := 257) rfl, h⟩
theorem zt_wy230_tb : ∀ w ∈ zt_wy230, w ∈ zt_tb := fun _ h => List.mem_flatten.mpr ⟨zt_wy230, List.mem_of_getElem? (i := 258) rfl, h⟩
theorem zt_wy231_tb : ∀ w ∈ zt_wy231, w ∈ zt_tb := fun _ h => List.mem_flatten.mpr ⟨zt_wy231, List.mem_of_getElem? (i := 259) rfl, h⟩
theorem zt_wy232_tb : ∀ w ∈ zt_wy232, w ∈ zt_tb := fun _ h => List.mem_flatten.mpr ⟨zt_wy232, List.mem_of_getElem? (i := 260) rfl, h⟩
theorem zt_wy233_tb : ∀ w ∈ zt_wy233, w ∈ zt_tb := fun _ h => List.mem_flatten.mpr ⟨zt_wy233, List.mem_of_getElem? (i := 261) rfl, h⟩
theorem zt_wy234_tb : ∀ w ∈ zt_wy234, w ∈ zt_tb := fun _ h => List.mem_flatten.mpr ⟨zt_wy234, List.mem_of_getElem? (i := 262) rfl, h⟩
theorem zt_wy235_tb : ∀ w ∈ zt_wy235, w ∈ zt_tb := fun _ h => List.mem_flatten.mpr ⟨zt_wy235, List.mem_of_getElem? (i := 263) rfl, h⟩
theorem zt_wy236_tb : ∀ w ∈ zt_wy236, w ∈ zt_tb := fun _ h => List.mem_flatten.mpr ⟨zt_wy236, List.mem_of_getElem? (i := 264) rfl, h⟩
theorem zt_wy237_tb : ∀ w ∈ zt_wy237, w ∈ zt_tb := fun _ h => List.mem_flatten.mpr ⟨zt_wy237, List.mem_of_getElem? (i := 265) rfl, h⟩
theorem zt_wy238_tb : ∀ w ∈ zt_wy238, w ∈ zt_tb := fun _ h => List.mem_flatten.mpr ⟨zt_wy238, List.mem_of_getElem? (i := 266) rfl, h⟩
theorem zt_wy239_tb : ∀ w ∈ zt_wy239, w ∈ zt_tb := fun _ h => List.mem_flatten.mpr ⟨zt_wy239, List.mem_of_getElem? (i := 267) rfl, h⟩
theorem zt_wy240_tb : ∀ w ∈ zt_wy240, w ∈ zt_tb := fun _ h => List.mem_flatten.mpr ⟨zt_wy240, List.mem_of_getElem? (i := 268) rfl, h⟩
theorem zt_wy241_tb : ∀ w ∈ zt_wy241, w ∈ zt_tb := fun _ h => List.mem_flatten.mpr ⟨zt_wy241, List.mem_of_getElem? (i := 269) rfl, h⟩
theorem zt_wy242_tb : ∀ w ∈ zt_wy242, w ∈ zt_tb := fun _ h => List.mem_flatten.mpr ⟨zt_wy242, List.mem_of_getElem? (i := 270) rfl, h⟩
theorem zt_wy243_tb : ∀ w ∈ zt_wy243, w ∈ zt_tb := fun _ h => List.mem_flatten.mpr ⟨zt_wy243, List.mem_of_getElem? (i := 271) rfl, h⟩
theorem zt_wy244_tb : ∀ w ∈ zt_wy244, w ∈ zt_tb := fun _ h => List.mem_flatten.mpr ⟨zt_wy244, List.mem_of_getElem? (i := 272) rfl, h⟩
theorem zt_wy245_tb : ∀ w ∈ zt_wy245, w ∈ zt_tb := fun _ h => List.mem_flatten.mpr ⟨zt_wy245, List.mem_of_getElem? (i := 273) rfl, h⟩
theorem zt_wy246_tb : ∀ w ∈ zt_wy246, w ∈ zt_tb := fun _ h => List.mem_flatten.mpr ⟨zt_wy246, List.mem_of_getElem? (i := 274) rfl, h⟩
theorem zt_wy247_tb : ∀ w ∈ zt_wy247, w ∈ zt_tb := fun _ h => List.mem_flatten.mpr ⟨zt_wy247, List.mem_of_getElem? (i := 275) rfl, h⟩
theorem zt_wy248_tb : ∀ w ∈ zt_wy248, w ∈ zt_tb := fun _ h => List.mem_flatten.mpr ⟨zt_wy248, List.mem_of_getElem? (i := 276) rfl, h⟩
theorem zt_wy249_tb : ∀ w ∈ zt_wy249, w ∈ zt_tb := fun _ h => List.mem_flatten.mpr ⟨zt_wy249, List.mem_of_getElem? (i := 277) rfl, h⟩
theorem zt_wy250_tb : ∀ w ∈ zt_wy250, w ∈ zt_tb := fun _ h => List.mem_flatten.mpr ⟨zt_wy250, List.mem_of_getElem? (i := 278) rfl, h⟩
theorem zt_wy251_tb : ∀ w ∈ zt_wy251, w ∈ zt_tb := fun _ h => List.mem_flatten.mpr ⟨zt_wy251, List.mem_of_getElem? (i := 279) rfl, h⟩
theorem zt_wy252_tb : ∀ w ∈ zt_wy252, w ∈ zt_tb := fun _ h => List.mem_flatten.mpr ⟨zt_wy252, List.mem_of_getElem? (i := 280) rfl, h⟩
theorem zt_wy253_tb : ∀ w ∈ zt_wy253, w ∈ zt_tb := fun _ h => List.mem_flatten.mpr ⟨zt_wy253, List.mem_of_getElem? (i := 281) rfl, h⟩
theorem zt_wy254_tb : ∀ w ∈ zt_wy254, w ∈ zt_tb := fun _ h => List.mem_flatten.mpr ⟨zt_wy254, List.mem_of_getElem? (i := 282) rfl, h⟩
theorem zt_wy255_tb : ∀ w ∈ zt_wy255, w ∈ zt_tb := fun _ h => List.mem_flatten.mpr ⟨zt_wy255, List.mem_of_getElem? (i := 283) rfl, h⟩
theorem zt_wy256_tb : ∀ w ∈ zt_wy256, w ∈ zt_tb := fun _ h => List.mem_flatten.mpr ⟨zt_wy256, List.mem_of_getElem? (i := 284) rfl, h⟩
theorem zt_wy257_tb : ∀ w ∈ zt_wy257, w ∈ zt_tb := fun _ h => List.mem_flatten.mpr ⟨zt_wy257, List.mem_of_getElem? (i := 285) rfl, h⟩
theorem zt_wy258_tb : ∀ w ∈ zt_wy258, w ∈ zt_tb := fun _ h => List.mem_flatten.mpr ⟨zt_wy258, List.mem_of_getElem? (i := 286) rfl, h⟩
theorem zt_wy259_tb : ∀ w ∈ zt_wy259, w ∈ zt_tb := fun _ h => List.mem_flatten.mpr ⟨zt_wy259, List.mem_of_getElem? (i := 287) rfl, h⟩
theorem zt_wy260_tb : ∀ w ∈ zt_wy260, w ∈ zt_tb := fun _ h => List.mem_flatten.mpr ⟨zt_wy260, List.mem_of_getElem? (i := 288) rfl, h⟩
theorem zt_wy261_tb : ∀ w ∈ zt_wy261, w ∈ zt_tb := fun _ h => List.mem_flatten.mpr ⟨zt_wy261, List.mem_of_getElem? (i := 289) rfl, h⟩
theorem zt_wy262_tb : ∀ w ∈ zt_wy262, w ∈ zt_tb := fun _ h => List.mem_flatten.mpr ⟨zt_wy262, List.mem_of_getElem? (i := 290) rfl, h⟩
theorem zt_wy263_tb : ∀ w ∈ zt_wy263, w ∈ zt_tb := fun _ h => List.mem_flatten.mpr ⟨zt_wy263, List.mem_of_getElem? (i := 291) rfl, h⟩
theorem zt_wy264_tb : ∀ w ∈ zt_wy264, w ∈ zt_tb := fun _ h => List.mem_flatten.mpr ⟨zt_wy264, List.mem_of_getElem? (i := 292) rfl, h⟩
theorem zt_wy265_tb : ∀ w ∈ zt_wy265, w ∈ zt_tb := fun _ h => List.mem_flatten.mpr ⟨zt_wy265, List.mem_of_getElem? (i := 293) rfl, h⟩
theorem zt_wy266_tb : ∀ w ∈ zt_wy266, w ∈ zt_tb := fun _ h => List.mem_flatten.mpr ⟨zt_wy266, List.mem_of_getElem? (i := 294) rfl, h⟩
theorem zt_wy267_tb : ∀ w ∈ zt_wy267, w ∈ zt_tb := fun _ h => List.mem_flatten.mpr ⟨zt_wy267, List.mem_of_getElem? (i := 295) rfl, h⟩
theorem zt_wy268_tb : ∀ w ∈ zt_wy268, w ∈ zt_tb := fun _ h => List.mem_flatten.mpr ⟨zt_wy268, List.mem_of_getElem? (i := 296) rfl, h⟩
theorem zt_wy269_tb : ∀ w ∈ zt_wy269, w ∈ zt_tb := fun _ h => List.mem_flatten.mpr ⟨zt_wy269, List.mem_of_getElem? (i := 297) rfl, h⟩
theorem zt_wy270_tb : ∀ w ∈ zt_wy270, w ∈ zt_tb := fun _ h => List.mem_flatten.mpr ⟨zt_wy270, List.mem_of_getElem? (i := 298) rfl, h⟩
theorem zt_wy271_tb : ∀ w ∈ zt_wy271, w ∈ zt_tb := fun _ h => List.mem_flatten.mpr ⟨zt_wy271, List.mem_of_getElem? (i := 299) rfl, h⟩
theorem zt_wy272_tb : ∀ w ∈ zt_wy272, w ∈ zt_tb := fun _ h => List.mem_flatten.mpr ⟨zt_wy272, List.mem_of_getElem? (i := 300) rfl, h⟩
theorem zt_wy273_tb : ∀ w ∈ zt_wy273, w ∈ zt_tb := fun _ h => List.mem_flatten.mpr ⟨zt_wy273, List.mem_of_getElem? (i := 301) rfl, h⟩
theorem zt_wy274_tb : ∀ w ∈ zt_wy274, w ∈ zt_tb := fun _ h => List.mem_flatten.mpr ⟨zt_wy274, List.mem_of_getElem? (i := 302) rfl, h⟩
theorem zt_wy275_tb : ∀ w ∈ zt_wy275, w ∈ zt_tb := fun _ h => List.mem_flatten.mpr ⟨zt_wy275, List.mem_of_getElem? (i := 303) rfl, h⟩
theorem zt_wy276_tb : ∀ w ∈ zt_wy276, w ∈ zt_tb := fun _ h => List.mem_flatten.mpr ⟨zt_wy276, List.mem_of_getElem? (i := 304) rfl, h⟩
theorem zt_wy277_tb : ∀ w ∈ zt_wy277, w ∈ zt_tb := fun _ h => List.mem_flatten.mpr ⟨zt_wy277, List.mem_of_getElem? (i := 305) rfl, h⟩
theorem zt_wy278_tb : ∀ w ∈ zt_wy278, w ∈ zt_tb := fun _ h => List.mem_flatten.mpr ⟨zt_wy278, List.mem_of_getElem? (i := 306) rfl, h⟩
theorem zt_wy279_tb : ∀ w ∈ zt_wy279, w ∈ zt_tb := fun _ h => List.mem_flatten.mpr ⟨zt_wy279, List.mem_of_getElem? (i := 307) rfl, h⟩
theorem zt_wy280_tb : ∀ w ∈ zt_wy280, w ∈ zt_tb := fun _ h => List.mem_flatten.mpr ⟨zt_wy280, List.mem_of_getElem? (i := 308) rfl, h⟩
theorem zt_wy281_tb : ∀ w ∈ zt_wy281, w ∈ zt_tb := fun _ h => List.mem_flatten.mpr ⟨zt_wy281, List.mem_of_getElem? (i := 309) rfl, h⟩
theorem zt_wy282_tb : ∀ w ∈ zt_wy282, w ∈ zt_tb := fun _ h => List.mem_flatten.mpr ⟨zt_wy282, List.mem_of_getElem? (i := 310) rfl, h⟩
theorem zt_wy283_tb : ∀ w ∈ zt_wy283, w ∈ zt_tb := fun _ h => List.mem_flatten.mpr ⟨zt_wy283, List.mem_of_getElem? (i := 311) rfl, h⟩
theorem zt_wy284_tb : ∀ w ∈ zt_wy284, w ∈ zt_tb := fun _ h => List.mem_flatten.mpr ⟨zt_wy284, List.mem_of_getElem? (i := 312) rfl, h⟩
theorem zt_wy285_tb : ∀ w ∈ zt_wy285, w ∈ zt_tb := fun _ h => List.mem_flatten.mpr ⟨zt_wy285, List.mem_of_getElem? (i := 313) rfl, h⟩
theorem zt_wy286_tb : ∀ w ∈ zt_wy286, w ∈ zt_tb := fun _ h => List.mem_flatten.mpr ⟨zt_wy286, List.mem_of_getElem? (i := 314) rfl, h⟩
theorem zt_wy287_tb : ∀ w ∈ zt_wy287, w ∈ zt_tb := fun _ h => List.mem_flatten.mpr ⟨zt_wy287, List.mem_of_getElem? (i := 315) rfl, h⟩
theorem zt_wy288_tb : ∀ w ∈ zt_wy288, w ∈ zt_tb := fun _ h => List.mem_flatten.mpr ⟨zt_wy288, List.mem_of_getElem? (i := 316) rfl, h⟩
theorem zt_wy289_tb : ∀ w ∈ zt_wy289, w ∈ zt_tb := fun _ h => List.mem_flatten.mpr ⟨zt_wy289, List.mem_of_getElem? (i := 317) rfl, h⟩
theorem zt_wy290_tb : ∀ w ∈ zt_wy290, w ∈ zt_tb := fun _ h => List.mem_flatten.mpr ⟨zt_wy290, List.mem_of_getElem? (i := 318) rfl, h⟩
theorem zt_wy291_tb : ∀ w ∈ zt_wy291, w ∈ zt_tb := fun _ h => List.mem_flatten.mpr ⟨zt_wy291, List.mem_of_getElem? (i := 319) rfl, h⟩
theorem zt_wy292_tb : ∀ w ∈ zt_wy292, w ∈ zt_tb := fun _ h => List.mem_flatten.mpr ⟨zt_wy292, List.mem_of_getElem? (i := 320) rfl, h⟩
theorem zt_wy293_tb : ∀ w ∈ zt_wy293, w ∈ zt_tb := fun _ h => List.mem_flatten.mpr ⟨zt_wy293, List.mem_of_getElem? (i := 321) rfl, h⟩
theorem zt_wy294_tb : ∀ w ∈ zt_wy294, w ∈ zt_tb := fun _ h => List.mem_flatten.mpr ⟨zt_wy294, List.mem_of_getElem? (i := 322) rfl, h⟩
theorem zt_wy295_tb : ∀ w ∈ zt_wy295, w ∈ zt_tb := fun _ h => List.mem_flatten.mpr ⟨zt_wy295, List.mem_of_getElem? (i := 323) rfl, h⟩
theorem zt_wy296_tb : ∀ w ∈ zt_wy296, w ∈ zt_tb := fun _ h => List.mem_flatten.mpr ⟨zt_wy296, List.mem_of_getElem? (i := 324) rfl, h⟩
theorem zt_wy297_tb : ∀ w ∈ zt_wy297, w ∈ zt_tb := fun _ h => List.mem_flatten.mpr ⟨zt_wy297, List.mem_of_getElem? (i := 325) rfl, h⟩
theorem zt_wy298_tb : ∀ w ∈ zt_wy298, w ∈ zt_tb := fun _ h => List.mem_flatten.mpr ⟨zt_wy298, List.mem_of_getElem? (i := 326) rfl, h⟩
theorem zt_wy299_tb : ∀ w ∈ zt_wy299, w ∈ zt_tb := fun _ h => List.mem_flatten.mpr ⟨zt_wy299, List.mem_of_getElem? (i := 327) rfl, h⟩
theorem zt_wy300_tb : ∀ w ∈ zt_wy300, w ∈ zt_tb := fun _ h => List.mem_flatten.mpr ⟨zt_wy300, List.mem_of_getElem? (i := 328) rfl, h⟩
theorem zt_wy301_tb : ∀ w ∈ zt_wy301, w ∈ zt_tb := fun _ h => List.mem_flatten.mpr ⟨zt_wy301, List.mem_of_getElem? (i := 329) rfl, h⟩
theorem zt_wy302_tb : ∀ w ∈ zt_wy302, w ∈ zt_tb := fun _ h => List.mem_flatten.mpr ⟨zt_wy302, List.mem_of_getElem? (i := 330) rfl, h⟩
theorem zt_wy303_tb : ∀ w ∈ zt_wy303, w ∈ zt_tb := fun _ h => List.mem_flatten.mpr ⟨zt_wy303, List.mem_of_getElem? (i := 331) rfl, h⟩
theorem zt_wy304_tb : ∀ w ∈ zt_wy304, w ∈ zt_tb := fun _ h => List.mem_flatten.mpr ⟨zt_wy304, List.mem_of_getElem? (i := 332) rfl, h⟩
theorem zt_wy305_tb : ∀ w ∈ zt_wy305, w ∈ zt_tb := fun _ h => List.mem_flatten.mpr ⟨zt_wy305, List.mem_of_getElem? (i := 333) rfl, h⟩
theorem zt_wy306_tb : ∀ w ∈ zt_wy306, w ∈ zt_tb := fun _ h => List.mem_flatten.mpr ⟨zt_wy306, List.mem_of_getElem? (i := 334) rfl, h⟩
theorem zt_wy307_tb : ∀ w ∈ zt_wy307, w ∈ zt_tb := fun _ h => List.mem_flatten.mpr ⟨zt_wy307, List.mem_of_getElem? (i := 335) rfl, h⟩
theorem zt_wy308_tb : ∀ w ∈ zt_wy308, w ∈ zt_tb := fun _ h => List.mem_flatten.mpr ⟨zt_wy308, List.mem_of_getElem? (i := 336) rfl, h⟩
theorem zt_wy309_tb : ∀ w ∈ zt_wy309, w ∈ zt_tb := fun _ h => List.mem_flatten.mpr ⟨zt_wy309, List.mem_of_getElem? (i := 337) rfl, h⟩
theorem zt_wy310_tb : ∀ w ∈ zt_wy310, w ∈ zt_tb := fun _ h => List.mem_flatten.mpr ⟨zt_wy310, List.mem_of_getElem? (i := 338) rfl, h⟩
theorem zt_wy311_tb : ∀ w ∈ zt_wy311, w ∈ zt_tb := fun _ h => List.mem_flatten.mpr ⟨zt_wy311, List.mem_of_getElem? (i := 339) rfl, h⟩
theorem zt_wy312_tb : ∀ w ∈ zt_wy312, w ∈ zt_tb := fun _ h => List.mem_flatten.mpr ⟨zt_wy312, List.mem_of_getElem? (i := 340) rfl, h⟩
theorem zt_wy313_tb : ∀ w ∈ zt_wy313, w ∈ zt_tb := fun _ h => List.mem_flatten.mpr ⟨zt_wy313, List.mem_of_getElem? (i := 341) rfl, h⟩
theorem zt_wy314_tb : ∀ w ∈ zt_wy314, w ∈ zt_tb := fun _ h => List.mem_flatten.mpr ⟨zt_wy314, List.mem_of_getElem? (i := 342) rfl, h⟩
theorem zt_wy315_tb : ∀ w ∈ zt_wy315, w ∈ zt_tb := fun _ h => List.mem_flatten.mpr ⟨zt_wy315, List.mem_of_getElem? (i := 343) rfl, h⟩
theorem zt_wy316_tb : ∀ w ∈ zt_wy316, w ∈ zt_tb := fun _ h => List.mem_flatten.mpr ⟨zt_wy316, List.mem_of_getElem? (i := 344) rfl, h⟩
theorem zt_wx_tb : ∀ w ∈ zt_wx, w ∈ zt_tb := fun _ h => List.mem_flatten.mpr ⟨zt_wx, List.mem_of_getElem? (i := 345) rfl, h⟩
theorem zt_wj_tb : ∀ w ∈ zt_wj, w ∈ zt_tb := fun _ h => List.mem_flatten.mpr ⟨zt_wj, List.mem_of_getElem? (i := 346) rfl, h⟩
theorem zt_wv1_tb : ∀ w ∈ zt_wv1, w ∈ zt_tb := fun _ h => List.mem_flatten.mpr ⟨zt_wv1, List.mem_of_getElem? (i := 347) rfl, h⟩
theorem zt_wv2_tb : ∀ w ∈ zt_wv2, w ∈ zt_tb := fun _ h => List.mem_flatten.mpr ⟨zt_wv2, List.mem_of_getElem? (i := 348) rfl, h⟩
theorem zt_wv3_tb : ∀ w ∈ zt_wv3, w ∈ zt_tb := fun _ h => List.mem_flatten.mpr ⟨zt_wv3, List.mem_of_getElem? (i := 349) rfl, h⟩
theorem zt_wcd_tb : ∀ w ∈ zt_wcd, w ∈ zt_tb := fun _ h => List.mem_flatten.mpr ⟨zt_wcd, List.mem_of_getElem? (i := 350) rfl, h⟩

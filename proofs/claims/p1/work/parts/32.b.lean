set_option maxRecDepth 100000 in
theorem zt_fk72 : zt_f72 = zt_F 100000 zt_m72 := rfl
theorem zt_wf72 : xf_wf zt_m72.2.2.2 = true := by decide +kernel
set_option maxRecDepth 100000 in
theorem zt_fk121 : zt_f121 = zt_F 100000 zt_m121 := rfl
theorem zt_wf121 : xf_wf zt_m121.2.2.2 = true := by decide +kernel
set_option maxRecDepth 100000 in
theorem zt_fk130 : zt_f130 = zt_F 100000 zt_m130 := rfl
theorem zt_wf130 : xf_wf zt_m130.2.2.2 = true := by decide +kernel
set_option maxRecDepth 100000 in
theorem zt_fk9 : zt_f9 = zt_F 100000 zt_m9 := rfl
theorem zt_wf9 : xf_wf zt_m9.2.2.2 = true := by decide +kernel
set_option maxRecDepth 100000 in
theorem zt_fk1 : zt_f1 = zt_F 100000 zt_m1 := rfl
theorem zt_wf1 : xf_wf zt_m1.2.2.2 = true := by decide +kernel
set_option maxRecDepth 100000 in
theorem zt_fk19 : zt_f19 = zt_F 100000 zt_m19 := rfl
theorem zt_wf19 : xf_wf zt_m19.2.2.2 = true := by decide +kernel
set_option maxRecDepth 100000 in
theorem zt_fk2 : zt_f2 = zt_F 100000 zt_m2 := rfl
theorem zt_wf2 : xf_wf zt_m2.2.2.2 = true := by decide +kernel
set_option maxRecDepth 100000 in
theorem zt_fk20 : zt_f20 = zt_F 100000 zt_m20 := rfl
theorem zt_wf20 : xf_wf zt_m20.2.2.2 = true := by decide +kernel
set_option maxRecDepth 100000 in
theorem zt_fk39 : zt_f39 = zt_F 100000 zt_m39 := rfl
theorem zt_wf39 : xf_wf zt_m39.2.2.2 = true := by decide +kernel
set_option maxRecDepth 100000 in
theorem zt_fk131 : zt_f131 = zt_F 100000 zt_m131 := rfl
theorem zt_wf131 : xf_wf zt_m131.2.2.2 = true := by decide +kernel
set_option maxRecDepth 100000 in
theorem zt_fk54 : zt_f54 = zt_F 100000 zt_m54 := rfl
theorem zt_wf54 : xf_wf zt_m54.2.2.2 = true := by decide +kernel
set_option maxRecDepth 100000 in
theorem zt_fk68 : zt_f68 = zt_F 100000 zt_m68 := rfl
theorem zt_wf68 : xf_wf zt_m68.2.2.2 = true := by decide +kernel
set_option maxRecDepth 100000 in
theorem zt_fk110 : zt_f110 = zt_F 100000 zt_m110 := rfl
theorem zt_wf110 : xf_wf zt_m110.2.2.2 = true := by decide +kernel
set_option maxRecDepth 100000 in
theorem zt_fk140 : zt_f140 = zt_F 100000 zt_m140 := rfl
theorem zt_wf140 : xf_wf zt_m140.2.2.2 = true := by decide +kernel
set_option maxRecDepth 100000 in
theorem zt_fk43 : zt_f43 = zt_F 100000 zt_m43 := rfl
theorem zt_wf43 : xf_wf zt_m43.2.2.2 = true := by decide +kernel
set_option maxRecDepth 100000 in
theorem zt_fk79 : zt_f79 = zt_F 100000 zt_m79 := rfl
theorem zt_wf79 : xf_wf zt_m79.2.2.2 = true := by decide +kernel
set_option maxRecDepth 100000 in
theorem zt_fk80 : zt_f80 = zt_F 100000 zt_m80 := rfl
theorem zt_wf80 : xf_wf zt_m80.2.2.2 = true := by decide +kernel
set_option maxRecDepth 100000 in
theorem zt_fk16 : zt_f16 = zt_F 100000 zt_m16 := rfl
theorem zt_wf16 : xf_wf zt_m16.2.2.2 = true := by decide +kernel
set_option maxRecDepth 100000 in
theorem zt_fk56 : zt_f56 = zt_F 100000 zt_m56 := rfl
theorem zt_wf56 : xf_wf zt_m56.2.2.2 = true := by decide +kernel
set_option maxRecDepth 100000 in
theorem zt_fk150 : zt_f150 = zt_F 100000 zt_m150 := rfl
theorem zt_wf150 : xf_wf zt_m150.2.2.2 = true := by decide +kernel
set_option maxRecDepth 100000 in
theorem zt_fk74 : zt_f74 = zt_F 100000 zt_m74 := rfl
theorem zt_wf74 : xf_wf zt_m74.2.2.2 = true := by decide +kernel
set_option maxRecDepth 100000 in
theorem zt_fk77 : zt_f77 = zt_F 100000 zt_m77 := rfl
theorem zt_wf77 : xf_wf zt_m77.2.2.2 = true := by decide +kernel
set_option maxRecDepth 100000 in
theorem zt_fk78 : zt_f78 = zt_F 100000 zt_m78 := rfl
theorem zt_wf78 : xf_wf zt_m78.2.2.2 = true := by decide +kernel
set_option maxRecDepth 100000 in
theorem zt_fk170 : zt_f170 = zt_F 100000 zt_m170 := rfl
theorem zt_wf170 : xf_wf zt_m170.2.2.2 = true := by decide +kernel
set_option maxRecDepth 100000 in
theorem zt_fk69 : zt_f69 = zt_F 100000 zt_m69 := rfl
theorem zt_wf69 : xf_wf zt_m69.2.2.2 = true := by decide +kernel
set_option maxRecDepth 100000 in
theorem zt_fk21 : zt_f21 = zt_F 100000 zt_m21 := rfl
theorem zt_wf21 : xf_wf zt_m21.2.2.2 = true := by decide +kernel
set_option maxRecDepth 100000 in
theorem zt_fk118 : zt_f118 = zt_F 100000 zt_m118 := rfl
theorem zt_wf118 : xf_wf zt_m118.2.2.2 = true := by decide +kernel
set_option maxRecDepth 100000 in
theorem zt_fk136 : zt_f136 = zt_F 100000 zt_m136 := rfl
theorem zt_wf136 : xf_wf zt_m136.2.2.2 = true := by decide +kernel
set_option maxRecDepth 100000 in
theorem zt_fk25 : zt_f25 = zt_F 100000 zt_m25 := rfl
theorem zt_wf25 : xf_wf zt_m25.2.2.2 = true := by decide +kernel
set_option maxRecDepth 100000 in
theorem zt_fk62 : zt_f62 = zt_F 100000 zt_m62 := rfl
theorem zt_wf62 : xf_wf zt_m62.2.2.2 = true := by decide +kernel
set_option maxRecDepth 100000 in
theorem zt_fk75 : zt_f75 = zt_F 100000 zt_m75 := rfl
theorem zt_wf75 : xf_wf zt_m75.2.2.2 = true := by decide +kernel
set_option maxRecDepth 100000 in
theorem zt_fk171 : zt_f171 = zt_F 100000 zt_m171 := rfl
theorem zt_wf171 : xf_wf zt_m171.2.2.2 = true := by decide +kernel
set_option maxRecDepth 100000 in
theorem zt_fk86 : zt_f86 = zt_F 100000 zt_m86 := rfl
theorem zt_wf86 : xf_wf zt_m86.2.2.2 = true := by decide +kernel
set_option maxRecDepth 100000 in
theorem zt_fk157 : zt_f157 = zt_F 100000 zt_m157 := rfl
theorem zt_wf157 : xf_wf zt_m157.2.2.2 = true := by decide +kernel
set_option maxRecDepth 100000 in
theorem zt_fk15 : zt_f15 = zt_F 100000 zt_m15 := rfl
theorem zt_wf15 : xf_wf zt_m15.2.2.2 = true := by decide +kernel
set_option maxRecDepth 100000 in
theorem zt_fk44 : zt_f44 = zt_F 100000 zt_m44 := rfl
theorem zt_wf44 : xf_wf zt_m44.2.2.2 = true := by decide +kernel
set_option maxRecDepth 100000 in
theorem zt_fk114 : zt_f114 = zt_F 100000 zt_m114 := rfl
theorem zt_wf114 : xf_wf zt_m114.2.2.2 = true := by decide +kernel
set_option maxRecDepth 100000 in
theorem zt_fk38 : zt_f38 = zt_F 100000 zt_m38 := rfl
theorem zt_wf38 : xf_wf zt_m38.2.2.2 = true := by decide +kernel
set_option maxRecDepth 100000 in
theorem zt_fk106 : zt_f106 = zt_F 100000 zt_m106 := rfl
theorem zt_wf106 : xf_wf zt_m106.2.2.2 = true := by decide +kernel
set_option maxRecDepth 100000 in
theorem zt_fk12 : zt_f12 = zt_F 100000 zt_m12 := rfl
theorem zt_wf12 : xf_wf zt_m12.2.2.2 = true := by decide +kernel

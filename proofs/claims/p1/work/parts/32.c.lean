set_option maxRecDepth 100000 in
theorem zt_fk4 : zt_f4 = zt_F 100000 zt_m4 := rfl
theorem zt_wf4 : xf_wf zt_m4.2.2.2 = true := by decide +kernel
set_option maxRecDepth 100000 in
theorem zt_fk7 : zt_f7 = zt_F 100000 zt_m7 := rfl
theorem zt_wf7 : xf_wf zt_m7.2.2.2 = true := by decide +kernel
set_option maxRecDepth 100000 in
theorem zt_fk88 : zt_f88 = zt_F 100000 zt_m88 := rfl
theorem zt_wf88 : xf_wf zt_m88.2.2.2 = true := by decide +kernel
set_option maxRecDepth 100000 in
theorem zt_fk127 : zt_f127 = zt_F 100000 zt_m127 := rfl
theorem zt_wf127 : xf_wf zt_m127.2.2.2 = true := by decide +kernel
set_option maxRecDepth 100000 in
theorem zt_fk113 : zt_f113 = zt_F 100000 zt_m113 := rfl
theorem zt_wf113 : xf_wf zt_m113.2.2.2 = true := by decide +kernel
set_option maxRecDepth 100000 in
theorem zt_fk119 : zt_f119 = zt_F 100000 zt_m119 := rfl
theorem zt_wf119 : xf_wf zt_m119.2.2.2 = true := by decide +kernel
set_option maxRecDepth 100000 in
theorem zt_fk96 : zt_f96 = zt_F 100000 zt_m96 := rfl
theorem zt_wf96 : xf_wf zt_m96.2.2.2 = true := by decide +kernel
set_option maxRecDepth 100000 in
theorem zt_fk11 : zt_f11 = zt_F 100000 zt_m11 := rfl
theorem zt_wf11 : xf_wf zt_m11.2.2.2 = true := by decide +kernel
set_option maxRecDepth 100000 in
theorem zt_fk34 : zt_f34 = zt_F 100000 zt_m34 := rfl
theorem zt_wf34 : xf_wf zt_m34.2.2.2 = true := by decide +kernel
set_option maxRecDepth 100000 in
theorem zt_fk87 : zt_f87 = zt_F 100000 zt_m87 := rfl
theorem zt_wf87 : xf_wf zt_m87.2.2.2 = true := by decide +kernel
set_option maxRecDepth 100000 in
theorem zt_fk97 : zt_f97 = zt_F 100000 zt_m97 := rfl
theorem zt_wf97 : xf_wf zt_m97.2.2.2 = true := by decide +kernel
set_option maxRecDepth 100000 in
theorem zt_fk152 : zt_f152 = zt_F 100000 zt_m152 := rfl
theorem zt_wf152 : xf_wf zt_m152.2.2.2 = true := by decide +kernel
set_option maxRecDepth 100000 in
theorem zt_fk33 : zt_f33 = zt_F 100000 zt_m33 := rfl
theorem zt_wf33 : xf_wf zt_m33.2.2.2 = true := by decide +kernel
set_option maxRecDepth 100000 in
theorem zt_fk76 : zt_f76 = zt_F 100000 zt_m76 := rfl
theorem zt_wf76 : xf_wf zt_m76.2.2.2 = true := by decide +kernel
set_option maxRecDepth 100000 in
theorem zt_fk149 : zt_f149 = zt_F 100000 zt_m149 := rfl
theorem zt_wf149 : xf_wf zt_m149.2.2.2 = true := by decide +kernel
set_option maxRecDepth 100000 in
theorem zt_fk156 : zt_f156 = zt_F 100000 zt_m156 := rfl
theorem zt_wf156 : xf_wf zt_m156.2.2.2 = true := by decide +kernel
set_option maxRecDepth 100000 in
theorem zt_fk42 : zt_f42 = zt_F 100000 zt_m42 := rfl
theorem zt_wf42 : xf_wf zt_m42.2.2.2 = true := by decide +kernel
set_option maxRecDepth 100000 in
theorem zt_fk126 : zt_f126 = zt_F 100000 zt_m126 := rfl
theorem zt_wf126 : xf_wf zt_m126.2.2.2 = true := by decide +kernel
set_option maxRecDepth 100000 in
theorem zt_fk95 : zt_f95 = zt_F 100000 zt_m95 := rfl
theorem zt_wf95 : xf_wf zt_m95.2.2.2 = true := by decide +kernel
set_option maxRecDepth 100000 in
theorem zt_fk0 : zt_f0 = zt_F 100000 zt_m0 := rfl
theorem zt_wf0 : xf_wf zt_m0.2.2.2 = true := by decide +kernel
set_option maxRecDepth 100000 in
theorem zt_fk107 : zt_f107 = zt_F 100000 zt_m107 := rfl
theorem zt_wf107 : xf_wf zt_m107.2.2.2 = true := by decide +kernel
set_option maxRecDepth 100000 in
theorem zt_fk162 : zt_f162 = zt_F 100000 zt_m162 := rfl
theorem zt_wf162 : xf_wf zt_m162.2.2.2 = true := by decide +kernel
set_option maxRecDepth 100000 in
theorem zt_fk159 : zt_f159 = zt_F 100000 zt_m159 := rfl
theorem zt_wf159 : xf_wf zt_m159.2.2.2 = true := by decide +kernel
set_option maxRecDepth 100000 in
theorem zt_fk138 : zt_f138 = zt_F 100000 zt_m138 := rfl
theorem zt_wf138 : xf_wf zt_m138.2.2.2 = true := by decide +kernel

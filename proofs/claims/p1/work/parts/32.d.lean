set_option maxRecDepth 100000 in
theorem zt_fk151 : zt_f151 = zt_F 100000 zt_m151 := rfl
theorem zt_wf151 : xf_wf zt_m151.2.2.2 = true := by decide +kernel
set_option maxRecDepth 100000 in
theorem zt_fk161 : zt_f161 = zt_F 100000 zt_m161 := rfl
theorem zt_wf161 : xf_wf zt_m161.2.2.2 = true := by decide +kernel
set_option maxRecDepth 100000 in
theorem zt_fk22 : zt_f22 = zt_F 100000 zt_m22 := rfl
theorem zt_wf22 : xf_wf zt_m22.2.2.2 = true := by decide +kernel
set_option maxRecDepth 100000 in
theorem zt_fk23 : zt_f23 = zt_F 100000 zt_m23 := rfl
theorem zt_wf23 : xf_wf zt_m23.2.2.2 = true := by decide +kernel
set_option maxRecDepth 100000 in
theorem zt_fk58 : zt_f58 = zt_F 100000 zt_m58 := rfl
theorem zt_wf58 : xf_wf zt_m58.2.2.2 = true := by decide +kernel
set_option maxRecDepth 100000 in
theorem zt_fk135 : zt_f135 = zt_F 100000 zt_m135 := rfl
theorem zt_wf135 : xf_wf zt_m135.2.2.2 = true := by decide +kernel
set_option maxRecDepth 100000 in
theorem zt_fk30 : zt_f30 = zt_F 100000 zt_m30 := rfl
theorem zt_wf30 : xf_wf zt_m30.2.2.2 = true := by decide +kernel
set_option maxRecDepth 100000 in
theorem zt_fk163 : zt_f163 = zt_F 100000 zt_m163 := rfl
theorem zt_wf163 : xf_wf zt_m163.2.2.2 = true := by decide +kernel
set_option maxRecDepth 100000 in
theorem zt_fk100 : zt_f100 = zt_F 100000 zt_m100 := rfl
theorem zt_wf100 : xf_wf zt_m100.2.2.2 = true := by decide +kernel
set_option maxRecDepth 100000 in
theorem zt_fk174 : zt_f174 = zt_F 100000 zt_m174 := rfl
theorem zt_wf174 : xf_wf zt_m174.2.2.2 = true := by decide +kernel
set_option maxRecDepth 100000 in
theorem zt_fk18 : zt_f18 = zt_F 100000 zt_m18 := rfl
theorem zt_wf18 : xf_wf zt_m18.2.2.2 = true := by decide +kernel
set_option maxRecDepth 100000 in
theorem zt_fk31 : zt_f31 = zt_F 100000 zt_m31 := rfl
theorem zt_wf31 : xf_wf zt_m31.2.2.2 = true := by decide +kernel
set_option maxRecDepth 100000 in
theorem zt_fk45 : zt_f45 = zt_F 100000 zt_m45 := rfl
theorem zt_wf45 : xf_wf zt_m45.2.2.2 = true := by decide +kernel
set_option maxRecDepth 100000 in
theorem zt_fk63 : zt_f63 = zt_F 100000 zt_m63 := rfl
theorem zt_wf63 : xf_wf zt_m63.2.2.2 = true := by decide +kernel
set_option maxRecDepth 100000 in
theorem zt_fk147 : zt_f147 = zt_F 100000 zt_m147 := rfl
theorem zt_wf147 : xf_wf zt_m147.2.2.2 = true := by decide +kernel
set_option maxRecDepth 100000 in
theorem zt_fk26 : zt_f26 = zt_F 100000 zt_m26 := rfl
theorem zt_wf26 : xf_wf zt_m26.2.2.2 = true := by decide +kernel

set_option maxRecDepth 100000 in
theorem zt_fk29 : zt_f29 = zt_F 100000 zt_m29 := rfl
theorem zt_wf29 : xf_wf zt_m29.2.2.2 = true := by decide +kernel
set_option maxRecDepth 100000 in
theorem zt_fklaw : zt_flaw = zt_F 100000 zt_law := rfl
theorem zt_wflaw : xf_wf zt_law.2.2.2 = true := by decide +kernel

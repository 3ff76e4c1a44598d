noncomputable def zt_F (stop : Nat) (y : xv_N) : Nat × List (Nat × xf_F xd_V) := (y.2.1.2.1, y.2.2.2.map (xf_mk xd_D xd_fv zt_ct zt_at zt_sct zt_ms y stop))
set_option maxRecDepth 100000 in
theorem zt_fk5 : zt_f5 = zt_F 100000 zt_m5 := rfl
theorem zt_wf5 : xf_wf zt_m5.2.2.2 = true := by decide +kernel
set_option maxRecDepth 100000 in
theorem zt_fk28 : zt_f28 = zt_F 100000 zt_m28 := rfl
theorem zt_wf28 : xf_wf zt_m28.2.2.2 = true := by decide +kernel
set_option maxRecDepth 100000 in
theorem zt_fk36 : zt_f36 = zt_F 100000 zt_m36 := rfl
theorem zt_wf36 : xf_wf zt_m36.2.2.2 = true := by decide +kernel
set_option maxRecDepth 100000 in
theorem zt_fk6 : zt_f6 = zt_F 100000 zt_m6 := rfl
theorem zt_wf6 : xf_wf zt_m6.2.2.2 = true := by decide +kernel
set_option maxRecDepth 100000 in
theorem zt_fk17 : zt_f17 = zt_F 100000 zt_m17 := rfl
theorem zt_wf17 : xf_wf zt_m17.2.2.2 = true := by decide +kernel
set_option maxRecDepth 100000 in
theorem zt_fk27 : zt_f27 = zt_F 100000 zt_m27 := rfl
theorem zt_wf27 : xf_wf zt_m27.2.2.2 = true := by decide +kernel
set_option maxRecDepth 100000 in
theorem zt_fk24 : zt_f24 = zt_F 100000 zt_m24 := rfl
theorem zt_wf24 : xf_wf zt_m24.2.2.2 = true := by decide +kernel
set_option maxRecDepth 100000 in
theorem zt_fk32 : zt_f32 = zt_F 100000 zt_m32 := rfl
theorem zt_wf32 : xf_wf zt_m32.2.2.2 = true := by decide +kernel
set_option maxRecDepth 100000 in
theorem zt_fk8 : zt_f8 = zt_F 100000 zt_m8 := rfl
theorem zt_wf8 : xf_wf zt_m8.2.2.2 = true := by decide +kernel
set_option maxRecDepth 100000 in
theorem zt_fk10 : zt_f10 = zt_F 100000 zt_m10 := rfl
theorem zt_wf10 : xf_wf zt_m10.2.2.2 = true := by decide +kernel
set_option maxRecDepth 100000 in
theorem zt_fk37 : zt_f37 = zt_F 100000 zt_m37 := rfl
theorem zt_wf37 : xf_wf zt_m37.2.2.2 = true := by decide +kernel
set_option maxRecDepth 100000 in
theorem zt_fk35 : zt_f35 = zt_F 100000 zt_m35 := rfl
theorem zt_wf35 : xf_wf zt_m35.2.2.2 = true := by decide +kernel
set_option maxRecDepth 100000 in
theorem zt_fk3 : zt_f3 = zt_F 100000 zt_m3 := rfl
theorem zt_wf3 : xf_wf zt_m3.2.2.2 = true := by decide +kernel
set_option maxRecDepth 100000 in
theorem zt_fk14 : zt_f14 = zt_F 100000 zt_m14 := rfl
theorem zt_wf14 : xf_wf zt_m14.2.2.2 = true := by decide +kernel
set_option maxRecDepth 100000 in
theorem zt_fk13 : zt_f13 = zt_F 100000 zt_m13 := rfl
theorem zt_wf13 : xf_wf zt_m13.2.2.2 = true := by decide +kernel
set_option maxRecDepth 100000 in
theorem zt_fk9 : zt_f9 = zt_F 100000 zt_m9 := rfl
theorem zt_wf9 : xf_wf zt_m9.2.2.2 = true := by decide +kernel
set_option maxRecDepth 100000 in
theorem zt_fk1 : zt_f1 = zt_F 100000 zt_m1 := rfl
theorem zt_wf1 : xf_wf zt_m1.2.2.2 = true := by decide +kernel
set_option maxRecDepth 100000 in
theorem zt_fk19 : zt_f19 = zt_F 100000 zt_m19 := rfl
theorem zt_wf19 : xf_wf zt_m19.2.2.2 = true := by decide +kernel
set_option maxRecDepth 100000 in
theorem zt_fk2 : zt_f2 = zt_F 100000 zt_m2 := rfl
theorem zt_wf2 : xf_wf zt_m2.2.2.2 = true := by decide +kernel
set_option maxRecDepth 100000 in
theorem zt_fk20 : zt_f20 = zt_F 100000 zt_m20 := rfl
theorem zt_wf20 : xf_wf zt_m20.2.2.2 = true := by decide +kernel
set_option maxRecDepth 100000 in
theorem zt_fk39 : zt_f39 = zt_F 100000 zt_m39 := rfl
theorem zt_wf39 : xf_wf zt_m39.2.2.2 = true := by decide +kernel
set_option maxRecDepth 100000 in
theorem zt_fk16 : zt_f16 = zt_F 100000 zt_m16 := rfl
theorem zt_wf16 : xf_wf zt_m16.2.2.2 = true := by decide +kernel
set_option maxRecDepth 100000 in
theorem zt_fk21 : zt_f21 = zt_F 100000 zt_m21 := rfl
theorem zt_wf21 : xf_wf zt_m21.2.2.2 = true := by decide +kernel
set_option maxRecDepth 100000 in
theorem zt_fk25 : zt_f25 = zt_F 100000 zt_m25 := rfl
theorem zt_wf25 : xf_wf zt_m25.2.2.2 = true := by decide +kernel
set_option maxRecDepth 100000 in
theorem zt_fk15 : zt_f15 = zt_F 100000 zt_m15 := rfl
theorem zt_wf15 : xf_wf zt_m15.2.2.2 = true := by decide +kernel
set_option maxRecDepth 100000 in
theorem zt_fk38 : zt_f38 = zt_F 100000 zt_m38 := rfl
theorem zt_wf38 : xf_wf zt_m38.2.2.2 = true := by decide +kernel
set_option maxRecDepth 100000 in
theorem zt_fk12 : zt_f12 = zt_F 100000 zt_m12 := rfl
theorem zt_wf12 : xf_wf zt_m12.2.2.2 = true := by decide +kernel
set_option maxRecDepth 100000 in
theorem zt_fk4 : zt_f4 = zt_F 100000 zt_m4 := rfl
theorem zt_wf4 : xf_wf zt_m4.2.2.2 = true := by decide +kernel
set_option maxRecDepth 100000 in
theorem zt_fk7 : zt_f7 = zt_F 100000 zt_m7 := rfl
theorem zt_wf7 : xf_wf zt_m7.2.2.2 = true := by decide +kernel
set_option maxRecDepth 100000 in
theorem zt_fk11 : zt_f11 = zt_F 100000 zt_m11 := rfl
theorem zt_wf11 : xf_wf zt_m11.2.2.2 = true := by decide +kernel
set_option maxRecDepth 100000 in
theorem zt_fk34 : zt_f34 = zt_F 100000 zt_m34 := rfl
theorem zt_wf34 : xf_wf zt_m34.2.2.2 = true := by decide +kernel
set_option maxRecDepth 100000 in
theorem zt_fk33 : zt_f33 = zt_F 100000 zt_m33 := rfl
theorem zt_wf33 : xf_wf zt_m33.2.2.2 = true := by decide +kernel
set_option maxRecDepth 100000 in
theorem zt_fk0 : zt_f0 = zt_F 100000 zt_m0 := rfl
theorem zt_wf0 : xf_wf zt_m0.2.2.2 = true := by decide +kernel
set_option maxRecDepth 100000 in
theorem zt_fk22 : zt_f22 = zt_F 100000 zt_m22 := rfl
theorem zt_wf22 : xf_wf zt_m22.2.2.2 = true := by decide +kernel
set_option maxRecDepth 100000 in
theorem zt_fk23 : zt_f23 = zt_F 100000 zt_m23 := rfl
theorem zt_wf23 : xf_wf zt_m23.2.2.2 = true := by decide +kernel
set_option maxRecDepth 100000 in
theorem zt_fk30 : zt_f30 = zt_F 100000 zt_m30 := rfl
theorem zt_wf30 : xf_wf zt_m30.2.2.2 = true := by decide +kernel
set_option maxRecDepth 100000 in
theorem zt_fk18 : zt_f18 = zt_F 100000 zt_m18 := rfl
theorem zt_wf18 : xf_wf zt_m18.2.2.2 = true := by decide +kernel
set_option maxRecDepth 100000 in
theorem zt_fk31 : zt_f31 = zt_F 100000 zt_m31 := rfl
theorem zt_wf31 : xf_wf zt_m31.2.2.2 = true := by decide +kernel
set_option maxRecDepth 100000 in
theorem zt_fk26 : zt_f26 = zt_F 100000 zt_m26 := rfl
theorem zt_wf26 : xf_wf zt_m26.2.2.2 = true := by decide +kernel

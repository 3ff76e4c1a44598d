noncomputable def zt_F (stop : Nat) (y : xv_N) : Nat × List (Nat × xf_F xd_V) := (y.2.1.2.1, y.2.2.2.map (xf_mk xd_D xd_fv zt_ct zt_at zt_sct zt_ms y stop))
set_option maxRecDepth 100000 in
theorem zt_fk176 : zt_f176 = zt_F 100000 zt_m176 := rfl
theorem zt_wf176 : xf_wf zt_m176.2.2.2 = true := by decide +kernel
set_option maxRecDepth 100000 in
theorem zt_fk5 : zt_f5 = zt_F 100000 zt_m5 := rfl
theorem zt_wf5 : xf_wf zt_m5.2.2.2 = true := by decide +kernel
set_option maxRecDepth 100000 in
theorem zt_fk112 : zt_f112 = zt_F 100000 zt_m112 := rfl
theorem zt_wf112 : xf_wf zt_m112.2.2.2 = true := by decide +kernel
set_option maxRecDepth 100000 in
theorem zt_fk129 : zt_f129 = zt_F 100000 zt_m129 := rfl
theorem zt_wf129 : xf_wf zt_m129.2.2.2 = true := by decide +kernel
set_option maxRecDepth 100000 in
theorem zt_fk28 : zt_f28 = zt_F 100000 zt_m28 := rfl
theorem zt_wf28 : xf_wf zt_m28.2.2.2 = true := by decide +kernel
set_option maxRecDepth 100000 in
theorem zt_fk141 : zt_f141 = zt_F 100000 zt_m141 := rfl
theorem zt_wf141 : xf_wf zt_m141.2.2.2 = true := by decide +kernel
set_option maxRecDepth 100000 in
theorem zt_fk175 : zt_f175 = zt_F 100000 zt_m175 := rfl
theorem zt_wf175 : xf_wf zt_m175.2.2.2 = true := by decide +kernel
set_option maxRecDepth 100000 in
theorem zt_fk48 : zt_f48 = zt_F 100000 zt_m48 := rfl
theorem zt_wf48 : xf_wf zt_m48.2.2.2 = true := by decide +kernel
set_option maxRecDepth 100000 in
theorem zt_fk36 : zt_f36 = zt_F 100000 zt_m36 := rfl
theorem zt_wf36 : xf_wf zt_m36.2.2.2 = true := by decide +kernel
set_option maxRecDepth 100000 in
theorem zt_fk6 : zt_f6 = zt_F 100000 zt_m6 := rfl
theorem zt_wf6 : xf_wf zt_m6.2.2.2 = true := by decide +kernel
set_option maxRecDepth 100000 in
theorem zt_fk117 : zt_f117 = zt_F 100000 zt_m117 := rfl
theorem zt_wf117 : xf_wf zt_m117.2.2.2 = true := by decide +kernel
set_option maxRecDepth 100000 in
theorem zt_fk17 : zt_f17 = zt_F 100000 zt_m17 := rfl
theorem zt_wf17 : xf_wf zt_m17.2.2.2 = true := by decide +kernel
set_option maxRecDepth 100000 in
theorem zt_fk27 : zt_f27 = zt_F 100000 zt_m27 := rfl
theorem zt_wf27 : xf_wf zt_m27.2.2.2 = true := by decide +kernel
set_option maxRecDepth 100000 in
theorem zt_fk73 : zt_f73 = zt_F 100000 zt_m73 := rfl
theorem zt_wf73 : xf_wf zt_m73.2.2.2 = true := by decide +kernel
set_option maxRecDepth 100000 in
theorem zt_fk84 : zt_f84 = zt_F 100000 zt_m84 := rfl
theorem zt_wf84 : xf_wf zt_m84.2.2.2 = true := by decide +kernel
set_option maxRecDepth 100000 in
theorem zt_fk168 : zt_f168 = zt_F 100000 zt_m168 := rfl
theorem zt_wf168 : xf_wf zt_m168.2.2.2 = true := by decide +kernel
set_option maxRecDepth 100000 in
theorem zt_fk70 : zt_f70 = zt_F 100000 zt_m70 := rfl
theorem zt_wf70 : xf_wf zt_m70.2.2.2 = true := by decide +kernel
set_option maxRecDepth 100000 in
theorem zt_fk71 : zt_f71 = zt_F 100000 zt_m71 := rfl
theorem zt_wf71 : xf_wf zt_m71.2.2.2 = true := by decide +kernel
set_option maxRecDepth 100000 in
theorem zt_fk109 : zt_f109 = zt_F 100000 zt_m109 := rfl
theorem zt_wf109 : xf_wf zt_m109.2.2.2 = true := by decide +kernel
set_option maxRecDepth 100000 in
theorem zt_fk167 : zt_f167 = zt_F 100000 zt_m167 := rfl
theorem zt_wf167 : xf_wf zt_m167.2.2.2 = true := by decide +kernel
set_option maxRecDepth 100000 in
theorem zt_fk53 : zt_f53 = zt_F 100000 zt_m53 := rfl
theorem zt_wf53 : xf_wf zt_m53.2.2.2 = true := by decide +kernel
set_option maxRecDepth 100000 in
theorem zt_fk57 : zt_f57 = zt_F 100000 zt_m57 := rfl
theorem zt_wf57 : xf_wf zt_m57.2.2.2 = true := by decide +kernel
set_option maxRecDepth 100000 in
theorem zt_fk59 : zt_f59 = zt_F 100000 zt_m59 := rfl
theorem zt_wf59 : xf_wf zt_m59.2.2.2 = true := by decide +kernel
set_option maxRecDepth 100000 in
theorem zt_fk64 : zt_f64 = zt_F 100000 zt_m64 := rfl
theorem zt_wf64 : xf_wf zt_m64.2.2.2 = true := by decide +kernel
set_option maxRecDepth 100000 in
theorem zt_fk66 : zt_f66 = zt_F 100000 zt_m66 := rfl
theorem zt_wf66 : xf_wf zt_m66.2.2.2 = true := by decide +kernel
set_option maxRecDepth 100000 in
theorem zt_fk67 : zt_f67 = zt_F 100000 zt_m67 := rfl
theorem zt_wf67 : xf_wf zt_m67.2.2.2 = true := by decide +kernel
set_option maxRecDepth 100000 in
theorem zt_fk99 : zt_f99 = zt_F 100000 zt_m99 := rfl
theorem zt_wf99 : xf_wf zt_m99.2.2.2 = true := by decide +kernel
set_option maxRecDepth 100000 in
theorem zt_fk124 : zt_f124 = zt_F 100000 zt_m124 := rfl
theorem zt_wf124 : xf_wf zt_m124.2.2.2 = true := by decide +kernel
set_option maxRecDepth 100000 in
theorem zt_fk50 : zt_f50 = zt_F 100000 zt_m50 := rfl
theorem zt_wf50 : xf_wf zt_m50.2.2.2 = true := by decide +kernel
set_option maxRecDepth 100000 in
theorem zt_fk120 : zt_f120 = zt_F 100000 zt_m120 := rfl
theorem zt_wf120 : xf_wf zt_m120.2.2.2 = true := by decide +kernel
set_option maxRecDepth 100000 in
theorem zt_fk134 : zt_f134 = zt_F 100000 zt_m134 := rfl
theorem zt_wf134 : xf_wf zt_m134.2.2.2 = true := by decide +kernel
set_option maxRecDepth 100000 in
theorem zt_fk137 : zt_f137 = zt_F 100000 zt_m137 := rfl
theorem zt_wf137 : xf_wf zt_m137.2.2.2 = true := by decide +kernel
set_option maxRecDepth 100000 in
theorem zt_fk146 : zt_f146 = zt_F 100000 zt_m146 := rfl
theorem zt_wf146 : xf_wf zt_m146.2.2.2 = true := by decide +kernel
set_option maxRecDepth 100000 in
theorem zt_fk155 : zt_f155 = zt_F 100000 zt_m155 := rfl
theorem zt_wf155 : xf_wf zt_m155.2.2.2 = true := by decide +kernel
set_option maxRecDepth 100000 in
theorem zt_fk158 : zt_f158 = zt_F 100000 zt_m158 := rfl
theorem zt_wf158 : xf_wf zt_m158.2.2.2 = true := by decide +kernel
set_option maxRecDepth 100000 in
theorem zt_fk24 : zt_f24 = zt_F 100000 zt_m24 := rfl
theorem zt_wf24 : xf_wf zt_m24.2.2.2 = true := by decide +kernel
set_option maxRecDepth 100000 in
theorem zt_fk55 : zt_f55 = zt_F 100000 zt_m55 := rfl
theorem zt_wf55 : xf_wf zt_m55.2.2.2 = true := by decide +kernel
set_option maxRecDepth 100000 in
theorem zt_fk46 : zt_f46 = zt_F 100000 zt_m46 := rfl
theorem zt_wf46 : xf_wf zt_m46.2.2.2 = true := by decide +kernel
set_option maxRecDepth 100000 in
theorem zt_fk90 : zt_f90 = zt_F 100000 zt_m90 := rfl
theorem zt_wf90 : xf_wf zt_m90.2.2.2 = true := by decide +kernel
set_option maxRecDepth 100000 in
theorem zt_fk91 : zt_f91 = zt_F 100000 zt_m91 := rfl
theorem zt_wf91 : xf_wf zt_m91.2.2.2 = true := by decide +kernel
set_option maxRecDepth 100000 in
theorem zt_fk116 : zt_f116 = zt_F 100000 zt_m116 := rfl
theorem zt_wf116 : xf_wf zt_m116.2.2.2 = true := by decide +kernel
set_option maxRecDepth 100000 in
theorem zt_fk101 : zt_f101 = zt_F 100000 zt_m101 := rfl
theorem zt_wf101 : xf_wf zt_m101.2.2.2 = true := by decide +kernel
set_option maxRecDepth 100000 in
theorem zt_fk108 : zt_f108 = zt_F 100000 zt_m108 := rfl
theorem zt_wf108 : xf_wf zt_m108.2.2.2 = true := by decide +kernel
set_option maxRecDepth 100000 in
theorem zt_fk125 : zt_f125 = zt_F 100000 zt_m125 := rfl
theorem zt_wf125 : xf_wf zt_m125.2.2.2 = true := by decide +kernel
set_option maxRecDepth 100000 in
theorem zt_fk144 : zt_f144 = zt_F 100000 zt_m144 := rfl
theorem zt_wf144 : xf_wf zt_m144.2.2.2 = true := by decide +kernel
set_option maxRecDepth 100000 in
theorem zt_fk145 : zt_f145 = zt_F 100000 zt_m145 := rfl
theorem zt_wf145 : xf_wf zt_m145.2.2.2 = true := by decide +kernel
set_option maxRecDepth 100000 in
theorem zt_fk32 : zt_f32 = zt_F 100000 zt_m32 := rfl
theorem zt_wf32 : xf_wf zt_m32.2.2.2 = true := by decide +kernel
set_option maxRecDepth 100000 in
theorem zt_fk47 : zt_f47 = zt_F 100000 zt_m47 := rfl
theorem zt_wf47 : xf_wf zt_m47.2.2.2 = true := by decide +kernel
set_option maxRecDepth 100000 in
theorem zt_fk123 : zt_f123 = zt_F 100000 zt_m123 := rfl
theorem zt_wf123 : xf_wf zt_m123.2.2.2 = true := by decide +kernel
set_option maxRecDepth 100000 in
theorem zt_fk160 : zt_f160 = zt_F 100000 zt_m160 := rfl
theorem zt_wf160 : xf_wf zt_m160.2.2.2 = true := by decide +kernel
set_option maxRecDepth 100000 in
theorem zt_fk8 : zt_f8 = zt_F 100000 zt_m8 := rfl
theorem zt_wf8 : xf_wf zt_m8.2.2.2 = true := by decide +kernel
set_option maxRecDepth 100000 in
theorem zt_fk103 : zt_f103 = zt_F 100000 zt_m103 := rfl
theorem zt_wf103 : xf_wf zt_m103.2.2.2 = true := by decide +kernel
set_option maxRecDepth 100000 in
theorem zt_fk132 : zt_f132 = zt_F 100000 zt_m132 := rfl
theorem zt_wf132 : xf_wf zt_m132.2.2.2 = true := by decide +kernel
set_option maxRecDepth 100000 in
theorem zt_fk133 : zt_f133 = zt_F 100000 zt_m133 := rfl
theorem zt_wf133 : xf_wf zt_m133.2.2.2 = true := by decide +kernel
set_option maxRecDepth 100000 in
theorem zt_fk51 : zt_f51 = zt_F 100000 zt_m51 := rfl
theorem zt_wf51 : xf_wf zt_m51.2.2.2 = true := by decide +kernel
set_option maxRecDepth 100000 in
theorem zt_fk60 : zt_f60 = zt_F 100000 zt_m60 := rfl
theorem zt_wf60 : xf_wf zt_m60.2.2.2 = true := by decide +kernel
set_option maxRecDepth 100000 in
theorem zt_fk92 : zt_f92 = zt_F 100000 zt_m92 := rfl
theorem zt_wf92 : xf_wf zt_m92.2.2.2 = true := by decide +kernel
set_option maxRecDepth 100000 in
theorem zt_fk10 : zt_f10 = zt_F 100000 zt_m10 := rfl
theorem zt_wf10 : xf_wf zt_m10.2.2.2 = true := by decide +kernel
set_option maxRecDepth 100000 in
theorem zt_fk153 : zt_f153 = zt_F 100000 zt_m153 := rfl
theorem zt_wf153 : xf_wf zt_m153.2.2.2 = true := by decide +kernel
set_option maxRecDepth 100000 in
theorem zt_fk166 : zt_f166 = zt_F 100000 zt_m166 := rfl
theorem zt_wf166 : xf_wf zt_m166.2.2.2 = true := by decide +kernel
set_option maxRecDepth 100000 in
theorem zt_fk37 : zt_f37 = zt_F 100000 zt_m37 := rfl
theorem zt_wf37 : xf_wf zt_m37.2.2.2 = true := by decide +kernel
set_option maxRecDepth 100000 in
theorem zt_fk49 : zt_f49 = zt_F 100000 zt_m49 := rfl
theorem zt_wf49 : xf_wf zt_m49.2.2.2 = true := by decide +kernel
set_option maxRecDepth 100000 in
theorem zt_fk61 : zt_f61 = zt_F 100000 zt_m61 := rfl
theorem zt_wf61 : xf_wf zt_m61.2.2.2 = true := by decide +kernel
set_option maxRecDepth 100000 in
theorem zt_fk93 : zt_f93 = zt_F 100000 zt_m93 := rfl
theorem zt_wf93 : xf_wf zt_m93.2.2.2 = true := by decide +kernel
set_option maxRecDepth 100000 in
theorem zt_fk94 : zt_f94 = zt_F 100000 zt_m94 := rfl
theorem zt_wf94 : xf_wf zt_m94.2.2.2 = true := by decide +kernel
set_option maxRecDepth 100000 in
theorem zt_fk102 : zt_f102 = zt_F 100000 zt_m102 := rfl
theorem zt_wf102 : xf_wf zt_m102.2.2.2 = true := by decide +kernel
set_option maxRecDepth 100000 in
theorem zt_fk105 : zt_f105 = zt_F 100000 zt_m105 := rfl
theorem zt_wf105 : xf_wf zt_m105.2.2.2 = true := by decide +kernel
set_option maxRecDepth 100000 in
theorem zt_fk164 : zt_f164 = zt_F 100000 zt_m164 := rfl
theorem zt_wf164 : xf_wf zt_m164.2.2.2 = true := by decide +kernel
set_option maxRecDepth 100000 in
theorem zt_fk173 : zt_f173 = zt_F 100000 zt_m173 := rfl
theorem zt_wf173 : xf_wf zt_m173.2.2.2 = true := by decide +kernel
set_option maxRecDepth 100000 in
theorem zt_fk35 : zt_f35 = zt_F 100000 zt_m35 := rfl
theorem zt_wf35 : xf_wf zt_m35.2.2.2 = true := by decide +kernel
set_option maxRecDepth 100000 in
theorem zt_fk115 : zt_f115 = zt_F 100000 zt_m115 := rfl
theorem zt_wf115 : xf_wf zt_m115.2.2.2 = true := by decide +kernel
set_option maxRecDepth 100000 in
theorem zt_fk122 : zt_f122 = zt_F 100000 zt_m122 := rfl
theorem zt_wf122 : xf_wf zt_m122.2.2.2 = true := by decide +kernel
set_option maxRecDepth 100000 in
theorem zt_fk83 : zt_f83 = zt_F 100000 zt_m83 := rfl
theorem zt_wf83 : xf_wf zt_m83.2.2.2 = true := by decide +kernel
set_option maxRecDepth 100000 in
theorem zt_fk143 : zt_f143 = zt_F 100000 zt_m143 := rfl
theorem zt_wf143 : xf_wf zt_m143.2.2.2 = true := by decide +kernel
set_option maxRecDepth 100000 in
theorem zt_fk139 : zt_f139 = zt_F 100000 zt_m139 := rfl
theorem zt_wf139 : xf_wf zt_m139.2.2.2 = true := by decide +kernel
set_option maxRecDepth 100000 in
theorem zt_fk3 : zt_f3 = zt_F 100000 zt_m3 := rfl
theorem zt_wf3 : xf_wf zt_m3.2.2.2 = true := by decide +kernel
set_option maxRecDepth 100000 in
theorem zt_fk14 : zt_f14 = zt_F 100000 zt_m14 := rfl
theorem zt_wf14 : xf_wf zt_m14.2.2.2 = true := by decide +kernel
set_option maxRecDepth 100000 in
theorem zt_fk40 : zt_f40 = zt_F 100000 zt_m40 := rfl
theorem zt_wf40 : xf_wf zt_m40.2.2.2 = true := by decide +kernel
set_option maxRecDepth 100000 in
theorem zt_fk65 : zt_f65 = zt_F 100000 zt_m65 := rfl
theorem zt_wf65 : xf_wf zt_m65.2.2.2 = true := by decide +kernel
set_option maxRecDepth 100000 in
theorem zt_fk82 : zt_f82 = zt_F 100000 zt_m82 := rfl
theorem zt_wf82 : xf_wf zt_m82.2.2.2 = true := by decide +kernel
set_option maxRecDepth 100000 in
theorem zt_fk104 : zt_f104 = zt_F 100000 zt_m104 := rfl
theorem zt_wf104 : xf_wf zt_m104.2.2.2 = true := by decide +kernel
set_option maxRecDepth 100000 in
theorem zt_fk111 : zt_f111 = zt_F 100000 zt_m111 := rfl
theorem zt_wf111 : xf_wf zt_m111.2.2.2 = true := by decide +kernel
set_option maxRecDepth 100000 in
theorem zt_fk128 : zt_f128 = zt_F 100000 zt_m128 := rfl
theorem zt_wf128 : xf_wf zt_m128.2.2.2 = true := by decide +kernel
set_option maxRecDepth 100000 in
theorem zt_fk148 : zt_f148 = zt_F 100000 zt_m148 := rfl
theorem zt_wf148 : xf_wf zt_m148.2.2.2 = true := by decide +kernel
set_option maxRecDepth 100000 in
theorem zt_fk169 : zt_f169 = zt_F 100000 zt_m169 := rfl
theorem zt_wf169 : xf_wf zt_m169.2.2.2 = true := by decide +kernel
set_option maxRecDepth 100000 in
theorem zt_fk165 : zt_f165 = zt_F 100000 zt_m165 := rfl
theorem zt_wf165 : xf_wf zt_m165.2.2.2 = true := by decide +kernel
set_option maxRecDepth 100000 in
theorem zt_fk172 : zt_f172 = zt_F 100000 zt_m172 := rfl
theorem zt_wf172 : xf_wf zt_m172.2.2.2 = true := by decide +kernel
set_option maxRecDepth 100000 in
theorem zt_fk41 : zt_f41 = zt_F 100000 zt_m41 := rfl
theorem zt_wf41 : xf_wf zt_m41.2.2.2 = true := by decide +kernel
set_option maxRecDepth 100000 in
theorem zt_fk98 : zt_f98 = zt_F 100000 zt_m98 := rfl
theorem zt_wf98 : xf_wf zt_m98.2.2.2 = true := by decide +kernel
set_option maxRecDepth 100000 in
theorem zt_fk81 : zt_f81 = zt_F 100000 zt_m81 := rfl
theorem zt_wf81 : xf_wf zt_m81.2.2.2 = true := by decide +kernel
set_option maxRecDepth 100000 in
theorem zt_fk85 : zt_f85 = zt_F 100000 zt_m85 := rfl
theorem zt_wf85 : xf_wf zt_m85.2.2.2 = true := by decide +kernel
set_option maxRecDepth 100000 in
theorem zt_fk13 : zt_f13 = zt_F 100000 zt_m13 := rfl
theorem zt_wf13 : xf_wf zt_m13.2.2.2 = true := by decide +kernel
set_option maxRecDepth 100000 in
theorem zt_fk142 : zt_f142 = zt_F 100000 zt_m142 := rfl
theorem zt_wf142 : xf_wf zt_m142.2.2.2 = true := by decide +kernel
set_option maxRecDepth 100000 in
theorem zt_fk154 : zt_f154 = zt_F 100000 zt_m154 := rfl
theorem zt_wf154 : xf_wf zt_m154.2.2.2 = true := by decide +kernel
set_option maxRecDepth 100000 in
theorem zt_fk52 : zt_f52 = zt_F 100000 zt_m52 := rfl
theorem zt_wf52 : xf_wf zt_m52.2.2.2 = true := by decide +kernel

def xw_cOk (C : String) (T : u_T) (fs : List (FieldType × Bool)) : Bool := (List.range fs.length).all fun k => match fs[k]? with
  | some f => decide (parseFieldDescriptor (T k).2.2.1 = some f.1) && decide ((T k).2.2.2 = f.2) && decide ((T k).1 = C) && xv_tyok f.1
  | none => false
theorem xw_cls {C : String} {T : u_T} {fs : List (FieldType × Bool)} (h : xw_cOk C T fs = true) : ∀ (k : Nat) (f : FieldType × Bool), fs[k]? = some f → parseFieldDescriptor (T k).2.2.1 = some f.1 ∧ (T k).2.2.2 = f.2 ∧ (T k).1 = C ∧ xv_tyok f.1 = true := by
  intro k f hk
  have h1 := List.all_eq_true.mp h k (List.mem_range.mpr (List.getElem?_eq_some_iff.mp hk).1)
  rw [hk] at h1
  simp only [Bool.and_eq_true_iff] at h1
  obtain ⟨⟨⟨g1, g2⟩, g3⟩, g4⟩ := h1
  exact ⟨of_decide_eq_true g1, of_decide_eq_true g2, of_decide_eq_true g3, g4⟩
set_option maxRecDepth 100000 in
theorem zt_cc0 : xw_cOk RX0 TX0 zt_c0 = true := by decide +kernel
set_option maxRecDepth 100000 in
theorem zt_cc1 : xw_cOk RX1 TX1 zt_c1 = true := by decide +kernel
set_option maxRecDepth 100000 in
theorem zt_cc2 : xw_cOk RX2 TX2 zt_c2 = true := by decide +kernel
set_option maxRecDepth 100000 in
theorem zt_cc3 : xw_cOk RX3 TX3 zt_c3 = true := by decide +kernel
set_option maxRecDepth 100000 in
theorem zt_cc4 : xw_cOk RX4 TX4 zt_c4 = true := by decide +kernel
set_option maxRecDepth 100000 in
theorem zt_cc5 : xw_cOk RX5 TX5 zt_c5 = true := by decide +kernel
set_option maxRecDepth 100000 in
theorem zt_cc6 : xw_cOk RX6 TX6 zt_c6 = true := by decide +kernel
set_option maxRecDepth 100000 in
theorem zt_cc7 : xw_cOk RX7 TX7 zt_c7 = true := by decide +kernel
set_option maxRecDepth 100000 in
theorem zt_cc8 : xw_cOk RX8 TX8 zt_c8 = true := by decide +kernel
set_option maxRecDepth 100000 in
theorem zt_cc9 : xw_cOk RX9 TX9 zt_c9 = true := by decide +kernel
set_option maxRecDepth 100000 in
theorem zt_cc10 : xw_cOk RX10 TX10 zt_c10 = true := by decide +kernel
set_option maxRecDepth 100000 in
theorem zt_cc11 : xw_cOk RX11 TX11 zt_c11 = true := by decide +kernel
set_option maxRecDepth 100000 in
theorem zt_cc12 : xw_cOk RX12 TX12 zt_c12 = true := by decide +kernel
theorem zt_cls : xc_cls zt_tb zt_cl zt_ct := by
  intro ci fs h
  match ci, h with
  | 0, h =>
    cases Option.some.inj (show some zt_c0 = some fs from h)
    exact ⟨RX0, TX0, rfl, fun w hw => zt_wc0_tb w (List.mem_append_left _ hw), xw_cls zt_cc0, nmX0, zt_wc0_tb _ (List.mem_append_right _ List.mem_cons_self), zt_wc0_tb _ (List.mem_append_right _ (List.mem_cons_of_mem _ List.mem_cons_self))⟩
  | 1, h =>
    cases Option.some.inj (show some zt_c1 = some fs from h)
    exact ⟨RX1, TX1, rfl, fun w hw => zt_wc1_tb w (List.mem_append_left _ hw), xw_cls zt_cc1, nmX1, zt_wc1_tb _ (List.mem_append_right _ List.mem_cons_self), zt_wc1_tb _ (List.mem_append_right _ (List.mem_cons_of_mem _ List.mem_cons_self))⟩
  | 2, h =>
    cases Option.some.inj (show some zt_c2 = some fs from h)
    exact ⟨RX2, TX2, rfl, fun w hw => zt_wc2_tb w (List.mem_append_left _ hw), xw_cls zt_cc2, nmX2, zt_wc2_tb _ (List.mem_append_right _ List.mem_cons_self), zt_wc2_tb _ (List.mem_append_right _ (List.mem_cons_of_mem _ List.mem_cons_self))⟩
  | 3, h =>
    cases Option.some.inj (show some zt_c3 = some fs from h)
    exact ⟨RX3, TX3, rfl, fun w hw => zt_wc3_tb w (List.mem_append_left _ hw), xw_cls zt_cc3, nmX3, zt_wc3_tb _ (List.mem_append_right _ List.mem_cons_self), zt_wc3_tb _ (List.mem_append_right _ (List.mem_cons_of_mem _ List.mem_cons_self))⟩
  | 4, h =>
    cases Option.some.inj (show some zt_c4 = some fs from h)
    exact ⟨RX4, TX4, rfl, fun w hw => zt_wc4_tb w (List.mem_append_left _ hw), xw_cls zt_cc4, nmX4, zt_wc4_tb _ (List.mem_append_right _ List.mem_cons_self), zt_wc4_tb _ (List.mem_append_right _ (List.mem_cons_of_mem _ List.mem_cons_self))⟩
  | 5, h =>
    cases Option.some.inj (show some zt_c5 = some fs from h)
    exact ⟨RX5, TX5, rfl, fun w hw => zt_wc5_tb w (List.mem_append_left _ hw), xw_cls zt_cc5, nmX5, zt_wc5_tb _ (List.mem_append_right _ List.mem_cons_self), zt_wc5_tb _ (List.mem_append_right _ (List.mem_cons_of_mem _ List.mem_cons_self))⟩
  | 6, h =>
    cases Option.some.inj (show some zt_c6 = some fs from h)
    exact ⟨RX6, TX6, rfl, fun w hw => zt_wc6_tb w (List.mem_append_left _ hw), xw_cls zt_cc6, nmX6, zt_wc6_tb _ (List.mem_append_right _ List.mem_cons_self), zt_wc6_tb _ (List.mem_append_right _ (List.mem_cons_of_mem _ List.mem_cons_self))⟩
  | 7, h =>
    cases Option.some.inj (show some zt_c7 = some fs from h)
    exact ⟨RX7, TX7, rfl, fun w hw => zt_wc7_tb w (List.mem_append_left _ hw), xw_cls zt_cc7, nmX7, zt_wc7_tb _ (List.mem_append_right _ List.mem_cons_self), zt_wc7_tb _ (List.mem_append_right _ (List.mem_cons_of_mem _ List.mem_cons_self))⟩
  | 8, h =>
    cases Option.some.inj (show some zt_c8 = some fs from h)
    exact ⟨RX8, TX8, rfl, fun w hw => zt_wc8_tb w (List.mem_append_left _ hw), xw_cls zt_cc8, nmX8, zt_wc8_tb _ (List.mem_append_right _ List.mem_cons_self), zt_wc8_tb _ (List.mem_append_right _ (List.mem_cons_of_mem _ List.mem_cons_self))⟩
  | 9, h =>
    cases Option.some.inj (show some zt_c9 = some fs from h)
    exact ⟨RX9, TX9, rfl, fun w hw => zt_wc9_tb w (List.mem_append_left _ hw), xw_cls zt_cc9, nmX9, zt_wc9_tb _ (List.mem_append_right _ List.mem_cons_self), zt_wc9_tb _ (List.mem_append_right _ (List.mem_cons_of_mem _ List.mem_cons_self))⟩
  | 10, h =>
    cases Option.some.inj (show some zt_c10 = some fs from h)
    exact ⟨RX10, TX10, rfl, fun w hw => zt_wc10_tb w (List.mem_append_left _ hw), xw_cls zt_cc10, nmX10, zt_wc10_tb _ (List.mem_append_right _ List.mem_cons_self), zt_wc10_tb _ (List.mem_append_right _ (List.mem_cons_of_mem _ List.mem_cons_self))⟩
  | 11, h =>
    cases Option.some.inj (show some zt_c11 = some fs from h)
    exact ⟨RX11, TX11, rfl, fun w hw => zt_wc11_tb w (List.mem_append_left _ hw), xw_cls zt_cc11, nmX11, zt_wc11_tb _ (List.mem_append_right _ List.mem_cons_self), zt_wc11_tb _ (List.mem_append_right _ (List.mem_cons_of_mem _ List.mem_cons_self))⟩
  | 12, h =>
    cases Option.some.inj (show some zt_c12 = some fs from h)
    exact ⟨RX12, TX12, rfl, fun w hw => zt_wc12_tb w (List.mem_append_left _ hw), xw_cls zt_cc12, nmX12, zt_wc12_tb _ (List.mem_append_right _ List.mem_cons_self), zt_wc12_tb _ (List.mem_append_right _ (List.mem_cons_of_mem _ List.mem_cons_self))⟩
  | n + 13, h => exact absurd (show (none : Option (List (FieldType × Bool))) = some fs from h) (by simp)
theorem zt_arr : xc_arr zt_tb := ⟨zt_wx_tb _ (List.mem_of_getElem? (i := 0) rfl), zt_wx_tb _ (List.mem_of_getElem? (i := 1) rfl), zt_wx_tb _ (List.mem_of_getElem? (i := 2) rfl)⟩
theorem zt_nat : xc_nat zt_tb xq_cCA := ⟨⟨zt_wx_tb _ (List.mem_of_getElem? (i := 3) rfl), zt_wx_tb _ (List.mem_of_getElem? (i := 4) rfl), zt_wx_tb _ (List.mem_of_getElem? (i := 5) rfl), zt_wx_tb _ (List.mem_of_getElem? (i := 6) rfl)⟩, zt_wx_tb _ (List.mem_of_getElem? (i := 7) rfl), zt_wx_tb _ (List.mem_of_getElem? (i := 8) rfl), zt_wx_tb _ (List.mem_of_getElem? (i := 9) rfl), zt_wx_tb _ (List.mem_of_getElem? (i := 10) rfl), zt_wx_tb _ (List.mem_of_getElem? (i := 11) rfl)⟩
def zt_kp : List (xm_Z × Nat) := [(zt_z0, 1), (zt_z1, 1), (zt_z2, 1), (zt_z3, 1), (zt_z4, 1), (zt_z5, 1), (zt_z6, 1), (zt_z7, 1), (zt_z8, 1), (zt_z9, 1), (zt_z10, 1), (zt_z11, 1), (zt_z12, 0), (zt_z13, 0), (zt_z14, 0), (zt_z15, 0), (zt_z16, 0), (zt_z17, 0), (zt_z18, 0), (zt_z19, 0), (zt_z20, 0), (zt_z21, 0), (zt_z22, 0), (zt_z23, 0), (zt_z24, 0), (zt_z25, 0), (zt_z26, 0), (zt_z27, 0), (zt_z28, 0), (zt_z29, 1), (zt_z30, 0), (zt_z31, 0), (zt_z32, 3), (zt_z33, 0), (zt_z34, 0), (zt_z35, 0), (zt_z36, 0), (zt_z37, 0), (zt_z38, 0), (zt_z39, 0), (zt_z40, 0), (zt_z41, 0), (zt_z42, 0), (zt_z43, 0), (zt_z44, 0), (zt_z45, 0), (zt_z46, 0), (zt_z47, 0), (zt_z48, 0), (zt_z49, 0), (zt_z50, 0), (zt_z51, 3), (zt_z52, 3), (zt_z53, 3), (zt_z54, 0), (zt_z55, 0), (zt_z56, 0), (zt_z57, 0), (zt_z58, 0), (zt_z59, 0), (zt_z60, 0), (zt_z61, 0), (zt_z62, 0), (zt_z63, 0), (zt_z64, 0), (zt_z65, 0), (zt_z66, 0), (zt_z67, 0), (zt_z68, 0), (zt_z69, 0), (zt_z70, 0), (zt_z71, 0), (zt_z72, 0), (zt_z73, 0), (zt_z74, 0), (zt_z75, 0), (zt_z76, 0), (zt_z77, 0), (zt_z78, 0), (zt_z79, 0), (zt_z80, 0), (zt_z81, 0), (zt_z82, 0), (zt_z83, 3), (zt_z84, 3), (zt_z85, 0), (zt_z86, 0), (zt_z87, 0), (zt_z88, 0), (zt_z89, 0), (zt_z90, 0), (zt_z91, 0), (zt_z92, 0), (zt_z93, 0), (zt_z94, 0), (zt_z95, 3), (zt_z96, 0), (zt_z97, 0), (zt_z98, 0), (zt_z99, 0), (zt_z100, 0), (zt_z101, 0), (zt_z102, 0), (zt_z103, 0), (zt_z104, 0), (zt_z105, 0), (zt_z106, 0), (zt_z107, 0), (zt_z108, 0), (zt_z109, 3), (zt_z110, 0), (zt_z111, 0), (zt_z112, 0), (zt_z113, 0), (zt_z114, 0), (zt_z115, 0), (zt_z116, 0), (zt_z117, 0), (zt_z118, 0), (zt_z119, 0), (zt_z120, 3), (zt_z121, 0), (zt_z122, 0), (zt_z123, 0), (zt_z124, 0), (zt_z125, 0), (zt_z126, 0), (zt_z127, 0), (zt_z128, 0), (zt_z129, 0), (zt_z130, 0), (zt_z131, 0), (zt_z132, 0), (zt_z133, 0), (zt_z134, 0), (zt_z135, 0), (zt_z136, 0), (zt_z137, 0), (zt_z138, 0), (zt_z139, 0), (zt_z140, 0), (zt_z141, 0), (zt_z142, 0), (zt_z143, 0), (zt_z144, 0), (zt_z145, 0), (zt_z146, 0), (zt_z147, 0), (zt_z148, 0), (zt_z149, 0), (zt_z150, 0), (zt_z151, 0), (zt_z152, 0), (zt_z153, 0), (zt_z154, 0), (zt_z155, 0), (zt_z156, 0), (zt_z157, 0), (zt_z158, 0), (zt_z159, 0), (zt_z160, 0), (zt_z161, 0), (zt_z162, 0), (zt_z163, 0), (zt_z164, 0), (zt_z165, 0), (zt_z166, 0), (zt_z167, 0), (zt_z168, 0), (zt_z169, 0), (zt_z170, 0), (zt_z171, 0), (zt_z172, 0), (zt_z173, 0), (zt_z174, 0), (zt_z175, 0), (zt_z176, 0), (zt_z177, 0), (zt_z178, 0), (zt_z179, 0), (zt_z180, 0), (zt_z181, 0), (zt_z182, 0), (zt_z183, 0), (zt_z184, 0), (zt_z185, 0), (zt_z186, 0), (zt_z187, 0), (zt_z188, 0), (zt_z189, 0), (zt_z190, 0), (zt_z191, 0), (zt_z192, 0), (zt_z193, 0), (zt_z194, 0), (zt_z195, 0), (zt_z196, 0), (zt_z197, 0), (zt_z198, 0), (zt_z199, 0), (zt_z200, 0), (zt_z201, 0), (zt_z202, 0), (zt_z203, 0), (zt_z204, 0), (zt_z205, 0), (zt_z206, 0), (zt_z207, 0), (zt_z208, 3), (zt_z209, 3), (zt_z210, 0), (zt_z211, 0), (zt_z212, 0), (zt_z213, 0), (zt_z214, 0), (zt_z215, 0), (zt_z216, 0), (zt_z217, 0), (zt_z218, 0), (zt_z219, 0), (zt_z220, 0), (zt_z221, 0), (zt_z222, 0), (zt_z223, 0), (zt_z224, 0), (zt_z225, 0), (zt_z226, 0), (zt_z227, 0), (zt_z228, 0), (zt_z229, 0), (zt_z230, 0), (zt_z231, 0), (zt_z232, 0), (zt_z233, 0), (zt_z234, 0), (zt_z235, 0), (zt_z236, 0), (zt_z237, 0), (zt_z238, 0), (zt_z239, 0), (zt_z240, 0), (zt_z241, 0), (zt_z242, 0), (zt_z243, 0), (zt_z244, 0), (zt_z245, 0), (zt_z246, 0), (zt_z247, 0), (zt_z248, 0), (zt_z249, 0), (zt_z250, 0), (zt_z251, 0), (zt_z252, 0), (zt_z253, 3), (zt_z254, 0), (zt_z255, 0), (zt_z256, 3), (zt_z257, 0), (zt_z258, 0), (zt_z259, 0), (zt_z260, 0), (zt_z261, 0), (zt_z262, 0), (zt_z263, 0), (zt_z264, 0), (zt_z265, 0), (zt_z266, 0), (zt_z267, 0), (zt_z268, 0), (zt_z269, 0), (zt_z270, 0), (zt_z271, 0), (zt_z272, 0), (zt_z273, 0), (zt_z274, 0), (zt_z275, 0), (zt_z276, 0), (zt_z277, 0), (zt_z278, 0), (zt_z279, 0), (zt_z280, 0), (zt_z281, 0), (zt_z282, 0), (zt_z283, 3), (zt_z284, 0), (zt_z285, 0), (zt_z286, 0), (zt_z287, 0), (zt_z288, 0), (zt_z289, 0), (zt_z290, 0), (zt_z291, 0), (zt_z292, 0), (zt_z293, 0), (zt_z294, 0), (zt_z295, 0), (zt_z296, 0), (zt_z297, 0), (zt_z298, 0), (zt_z299, 0), (zt_z300, 0), (zt_z301, 0), (zt_z302, 0), (zt_z303, 0), (zt_z304, 0), (zt_z305, 0), (zt_z306, 0), (zt_z307, 0), (zt_z308, 0), (zt_z309, 0), (zt_z310, 0), (zt_z311, 0), (zt_z312, 3), (zt_z313, 3), (zt_z314, 3), (zt_z315, 3), (zt_z316, 3)]
theorem zt_kpok : ∀ q ∈ zt_kp, (q.2 = 0 → Jvm.Cond.instanceMethod q.1.1 ∈ zt_tb ∧ Jvm.Cond.selects q.1.1.cls q.1.1 q.1.1 ∈ zt_tb) ∧ (q.2 = 1 → Jvm.Cond.instanceMethod q.1.1 ∈ zt_tb) ∧ (q.2 = 3 → Jvm.Cond.static q.1.1 ∈ zt_tb) := by
  unfold zt_kp
  refine List.forall_mem_cons.mpr ⟨xw_kind zt_wy0_tb, ?_⟩
  refine List.forall_mem_cons.mpr ⟨xw_kind zt_wy1_tb, ?_⟩
  refine List.forall_mem_cons.mpr ⟨xw_kind zt_wy2_tb, ?_⟩
  refine List.forall_mem_cons.mpr ⟨xw_kind zt_wy3_tb, ?_⟩
  refine List.forall_mem_cons.mpr ⟨xw_kind zt_wy4_tb, ?_⟩
  refine List.forall_mem_cons.mpr ⟨xw_kind zt_wy5_tb, ?_⟩
  refine List.forall_mem_cons.mpr ⟨xw_kind zt_wy6_tb, ?_⟩
  refine List.forall_mem_cons.mpr ⟨xw_kind zt_wy7_tb, ?_⟩
  refine List.forall_mem_cons.mpr ⟨xw_kind zt_wy8_tb, ?_⟩
  refine List.forall_mem_cons.mpr ⟨xw_kind zt_wy9_tb, ?_⟩
  refine List.forall_mem_cons.mpr ⟨xw_kind zt_wy10_tb, ?_⟩
  refine List.forall_mem_cons.mpr ⟨xw_kind zt_wy11_tb, ?_⟩
  refine List.forall_mem_cons.mpr ⟨xw_kind zt_wy12_tb, ?_⟩
  refine List.forall_mem_cons.mpr ⟨xw_kind zt_wy13_tb, ?_⟩
  refine List.forall_mem_cons.mpr ⟨xw_kind zt_wy14_tb, ?_⟩
  refine List.forall_mem_cons.mpr ⟨xw_kind zt_wy15_tb, ?_⟩
  refine List.forall_mem_cons.mpr ⟨xw_kind zt_wy16_tb, ?_⟩
  refine List.forall_mem_cons.mpr ⟨xw_kind zt_wy17_tb, ?_⟩
  refine List.forall_mem_cons.mpr ⟨xw_kind zt_wy18_tb, ?_⟩
  refine List.forall_mem_cons.mpr ⟨xw_kind zt_wy19_tb, ?_⟩
  refine List.forall_mem_cons.mpr ⟨xw_kind zt_wy20_tb, ?_⟩
  refine List.forall_mem_cons.mpr ⟨xw_kind zt_wy21_tb, ?_⟩
  refine List.forall_mem_cons.mpr ⟨xw_kind zt_wy22_tb, ?_⟩
  refine List.forall_mem_cons.mpr ⟨xw_kind zt_wy23_tb, ?_⟩
  refine List.forall_mem_cons.mpr ⟨xw_kind zt_wy24_tb, ?_⟩
  refine List.forall_mem_cons.mpr ⟨xw_kind zt_wy25_tb, ?_⟩
  refine List.forall_mem_cons.mpr ⟨xw_kind zt_wy26_tb, ?_⟩
  refine List.forall_mem_cons.mpr ⟨xw_kind zt_wy27_tb, ?_⟩
  refine List.forall_mem_cons.mpr ⟨xw_kind zt_wy28_tb, ?_⟩
  refine List.forall_mem_cons.mpr ⟨xw_kind zt_wy29_tb, ?_⟩
  refine List.forall_mem_cons.mpr ⟨xw_kind zt_wy30_tb, ?_⟩
  refine List.forall_mem_cons.mpr ⟨xw_kind zt_wy31_tb, ?_⟩
  refine List.forall_mem_cons.mpr ⟨xw_kind zt_wy32_tb, ?_⟩
  refine List.forall_mem_cons.mpr ⟨xw_kind zt_wy33_tb, ?_⟩
  refine List.forall_mem_cons.mpr ⟨xw_kind zt_wy34_tb, ?_⟩
  refine List.forall_mem_cons.mpr ⟨xw_kind zt_wy35_tb, ?_⟩
  refine List.forall_mem_cons.mpr ⟨xw_kind zt_wy36_tb, ?_⟩
  refine List.forall_mem_cons.mpr ⟨xw_kind zt_wy37_tb, ?_⟩
  refine List.forall_mem_cons.mpr ⟨xw_kind zt_wy38_tb, ?_⟩
  refine List.forall_mem_cons.mpr ⟨xw_kind zt_wy39_tb, ?_⟩
  refine List.forall_mem_cons.mpr ⟨xw_kind zt_wy40_tb, ?_⟩
  refine List.forall_mem_cons.mpr ⟨xw_kind zt_wy41_tb, ?_⟩
  refine List.forall_mem_cons.mpr ⟨xw_kind zt_wy42_tb, ?_⟩
  refine List.forall_mem_cons.mpr ⟨xw_kind zt_wy43_tb, ?_⟩
  refine List.forall_mem_cons.mpr ⟨xw_kind zt_wy44_tb, ?_⟩
  refine List.forall_mem_cons.mpr ⟨xw_kind zt_wy45_tb, ?_⟩
  refine List.forall_mem_cons.mpr ⟨xw_kind zt_wy46_tb, ?_⟩
  refine List.forall_mem_cons.mpr ⟨xw_kind zt_wy47_tb, ?_⟩
  refine List.forall_mem_cons.mpr ⟨xw_kind zt_wy48_tb, ?_⟩
  refine List.forall_mem_cons.mpr ⟨xw_kind zt_wy49_tb, ?_⟩
  refine List.forall_mem_cons.mpr ⟨xw_kind zt_wy50_tb, ?_⟩
  refine List.forall_mem_cons.mpr ⟨xw_kind zt_wy51_tb, ?_⟩
  refine List.forall_mem_cons.mpr ⟨xw_kind zt_wy52_tb, ?_⟩
  refine List.forall_mem_cons.mpr ⟨xw_kind zt_wy53_tb, ?_⟩
  refine List.forall_mem_cons.mpr ⟨xw_kind zt_wy54_tb, ?_⟩
  refine List.forall_mem_cons.mpr ⟨xw_kind zt_wy55_tb, ?_⟩
  refine List.forall_mem_cons.mpr ⟨xw_kind zt_wy56_tb, ?_⟩
  refine List.forall_mem_cons.mpr ⟨xw_kind zt_wy57_tb, ?_⟩
  refine List.forall_mem_cons.mpr ⟨xw_kind zt_wy58_tb, ?_⟩
  refine List.forall_mem_cons.mpr ⟨xw_kind zt_wy59_tb, ?_⟩
  refine List.forall_mem_cons.mpr ⟨xw_kind zt_wy60_tb, ?_⟩
  refine List.forall_mem_cons.mpr ⟨xw_kind zt_wy61_tb, ?_⟩
  refine List.forall_mem_cons.mpr ⟨xw_kind zt_wy62_tb, ?_⟩
  refine List.forall_mem_cons.mpr ⟨xw_kind zt_wy63_tb, ?_⟩
  refine List.forall_mem_cons.mpr ⟨xw_kind zt_wy64_tb, ?_⟩
  refine List.forall_mem_cons.mpr ⟨xw_kind zt_wy65_tb, ?_⟩
  refine List.forall_mem_cons.mpr ⟨xw_kind zt_wy66_tb, ?_⟩
  refine List.forall_mem_cons.mpr ⟨xw_kind zt_wy67_tb, ?_⟩
  refine List.forall_mem_cons.mpr ⟨xw_kind zt_wy68_tb, ?_⟩
  refine List.forall_mem_cons.mpr ⟨xw_kind zt_wy69_tb, ?_⟩
  refine List.forall_mem_cons.mpr ⟨xw_kind zt_wy70_tb, ?_⟩
  refine List.forall_mem_cons.mpr ⟨xw_kind zt_wy71_tb, ?_⟩
  refine List.forall_mem_cons.mpr ⟨xw_kind zt_wy72_tb, ?_⟩
  refine List.forall_mem_cons.mpr ⟨xw_kind zt_wy73_tb, ?_⟩
  refine List.forall_mem_cons.mpr ⟨xw_kind zt_wy74_tb, ?_⟩
  refine List.forall_mem_cons.mpr ⟨xw_kind zt_wy75_tb, ?_⟩
  refine List.forall_mem_cons.mpr ⟨xw_kind zt_wy76_tb, ?_⟩
  refine List.forall_mem_cons.mpr ⟨xw_kind zt_wy77_tb, ?_⟩
  refine List.forall_mem_cons.mpr ⟨xw_kind zt_wy78_tb, ?_⟩
  refine List.forall_mem_cons.mpr ⟨xw_kind zt_wy79_tb, ?_⟩
  refine List.forall_mem_cons.mpr ⟨xw_kind zt_wy80_tb, ?_⟩
  refine List.forall_mem_cons.mpr ⟨xw_kind zt_wy81_tb, ?_⟩
  refine List.forall_mem_cons.mpr ⟨xw_kind zt_wy82_tb, ?_⟩
  refine List.forall_mem_cons.mpr ⟨xw_kind zt_wy83_tb, ?_⟩
  refine List.forall_mem_cons.mpr ⟨xw_kind zt_wy84_tb, ?_⟩
  refine List.forall_mem_cons.mpr ⟨xw_kind zt_wy85_tb, ?_⟩
  refine List.forall_mem_cons.mpr ⟨xw_kind zt_wy86_tb, ?_⟩
  refine List.forall_mem_cons.mpr ⟨xw_kind zt_wy87_tb, ?_⟩
  refine List.forall_mem_cons.mpr ⟨xw_kind zt_wy88_tb, ?_⟩
  refine List.forall_mem_cons.mpr ⟨xw_kind zt_wy89_tb, ?_⟩
  refine List.forall_mem_cons.mpr ⟨xw_kind zt_wy90_tb, ?_⟩
  refine List.forall_mem_cons.mpr ⟨xw_kind zt_wy91_tb, ?_⟩
  refine List.forall_mem_cons.mpr ⟨xw_kind zt_wy92_tb, ?_⟩
  refine List.forall_mem_cons.mpr ⟨xw_kind zt_wy93_tb, ?_⟩
  refine List.forall_mem_cons.mpr ⟨xw_kind zt_wy94_tb, ?_⟩
  refine List.forall_mem_cons.mpr ⟨xw_kind zt_wy95_tb, ?_⟩
  refine List.forall_mem_cons.mpr ⟨xw_kind zt_wy96_tb, ?_⟩
  refine List.forall_mem_cons.mpr ⟨xw_kind zt_wy97_tb, ?_⟩
  refine List.forall_mem_cons.mpr ⟨xw_kind zt_wy98_tb, ?_⟩
  refine List.forall_mem_cons.mpr ⟨xw_kind zt_wy99_tb, ?_⟩
  refine List.forall_mem_cons.mpr ⟨xw_kind zt_wy100_tb, ?_⟩
  refine List.forall_mem_cons.mpr ⟨xw_kind zt_wy101_tb, ?_⟩
  refine List.forall_mem_cons.mpr ⟨xw_kind zt_wy102_tb, ?_⟩
  refine List.forall_mem_cons.mpr ⟨xw_kind zt_wy103_tb, ?_⟩
  refine List.forall_mem_cons.mpr ⟨xw_kind zt_wy104_tb, ?_⟩
  refine List.forall_mem_cons.mpr ⟨xw_kind zt_wy105_tb, ?_⟩
  refine List.forall_mem_cons.mpr ⟨xw_kind zt_wy106_tb, ?_⟩
  refine List.forall_mem_cons.mpr ⟨xw_kind zt_wy107_tb, ?_⟩
  refine List.forall_mem_cons.mpr ⟨xw_kind zt_wy108_tb, ?_⟩
  refine List.forall_mem_cons.mpr ⟨xw_kind zt_wy109_tb, ?_⟩
  refine List.forall_mem_cons.mpr ⟨xw_kind zt_wy110_tb, ?_⟩
  refine List.forall_mem_cons.mpr ⟨xw_kind zt_wy111_tb, ?_⟩
  refine List.forall_mem_cons.mpr ⟨xw_kind zt_wy112_tb, ?_⟩
  refine List.forall_mem_cons.mpr ⟨xw_kind zt_wy113_tb, ?_⟩
  refine List.forall_mem_cons.mpr ⟨xw_kind zt_wy114_tb, ?_⟩
  refine List.forall_mem_cons.mpr ⟨xw_kind zt_wy115_tb, ?_⟩
  refine List.forall_mem_cons.mpr ⟨xw_kind zt_wy116_tb, ?_⟩
  refine List.forall_mem_cons.mpr ⟨xw_kind zt_wy117_tb, ?_⟩
  refine List.forall_mem_cons.mpr ⟨xw_kind zt_wy118_tb, ?_⟩
  refine List.forall_mem_cons.mpr ⟨xw_kind zt_wy119_tb, ?_⟩
  refine List.forall_mem_cons.mpr ⟨xw_kind zt_wy120_tb, ?_⟩
  refine List.forall_mem_cons.mpr ⟨xw_kind zt_wy121_tb, ?_⟩
  refine List.forall_mem_cons.mpr ⟨xw_kind zt_wy122_tb, ?_⟩
  refine List.forall_mem_cons.mpr ⟨xw_kind zt_wy123_tb, ?_⟩
  refine List.forall_mem_cons.mpr ⟨xw_kind zt_wy124_tb, ?_⟩
  refine List.forall_mem_cons.mpr ⟨xw_kind zt_wy125_tb, ?_⟩
  refine List.forall_mem_cons.mpr ⟨xw_kind zt_wy126_tb, ?_⟩
  refine List.forall_mem_cons.mpr ⟨xw_kind zt_wy127_tb, ?_⟩
  refine List.forall_mem_cons.mpr ⟨xw_kind zt_wy128_tb, ?_⟩
  refine List.forall_mem_cons.mpr ⟨xw_kind zt_wy129_tb, ?_⟩
  refine List.forall_mem_cons.mpr ⟨xw_kind zt_wy130_tb, ?_⟩
  refine List.forall_mem_cons.mpr ⟨xw_kind zt_wy131_tb, ?_⟩
  refine List.forall_mem_cons.mpr ⟨xw_kind zt_wy132_tb, ?_⟩
  refine List.forall_mem_cons.mpr ⟨xw_kind zt_wy133_tb, ?_⟩
  refine List.forall_mem_cons.mpr ⟨xw_kind zt_wy134_tb, ?_⟩
  refine List.forall_mem_cons.mpr ⟨xw_kind zt_wy135_tb, ?_⟩
  refine List.forall_mem_cons.mpr ⟨xw_kind zt_wy136_tb, ?_⟩
  refine List.forall_mem_cons.mpr ⟨xw_kind zt_wy137_tb, ?_⟩
  refine List.forall_mem_cons.mpr ⟨xw_kind zt_wy138_tb, ?_⟩
  refine List.forall_mem_cons.mpr ⟨xw_kind zt_wy139_tb, ?_⟩
  refine List.forall_mem_cons.mpr ⟨xw_kind zt_wy140_tb, ?_⟩
  refine List.forall_mem_cons.mpr ⟨xw_kind zt_wy141_tb, ?_⟩
  refine List.forall_mem_cons.mpr ⟨xw_kind zt_wy142_tb, ?_⟩
  refine List.forall_mem_cons.mpr ⟨xw_kind zt_wy143_tb, ?_⟩
  refine List.forall_mem_cons.mpr ⟨xw_kind zt_wy144_tb, ?_⟩
  refine List.forall_mem_cons.mpr ⟨xw_kind zt_wy145_tb, ?_⟩
  refine List.forall_mem_cons.mpr ⟨xw_kind zt_wy146_tb, ?_⟩
  refine List.forall_mem_cons.mpr ⟨xw_kind zt_wy147_tb, ?_⟩
  refine List.forall_mem_cons.mpr ⟨xw_kind zt_wy148_tb, ?_⟩
  refine List.forall_mem_cons.mpr ⟨xw_kind zt_wy149_tb, ?_⟩
  refine List.forall_mem_cons.mpr ⟨xw_kind zt_wy150_tb, ?_⟩
  refine List.forall_mem_cons.mpr ⟨xw_kind zt_wy151_tb, ?_⟩
  refine List.forall_mem_cons.mpr ⟨xw_kind zt_wy152_tb, ?_⟩
  refine List.forall_mem_cons.mpr ⟨xw_kind zt_wy153_tb, ?_⟩
  refine List.forall_mem_cons.mpr ⟨xw_kind zt_wy154_tb, ?_⟩
  refine List.forall_mem_cons.mpr ⟨xw_kind zt_wy155_tb, ?_⟩
  refine List.forall_mem_cons.mpr ⟨xw_kind zt_wy156_tb, ?_⟩
  refine List.forall_mem_cons.mpr ⟨xw_kind zt_wy157_tb, ?_⟩
  refine List.forall_mem_cons.mpr ⟨xw_kind zt_wy158_tb, ?_⟩
  refine List.forall_mem_cons.mpr ⟨xw_kind zt_wy159_tb, ?_⟩
  refine List.forall_mem_cons.mpr ⟨xw_kind zt_wy160_tb, ?_⟩
  refine List.forall_mem_cons.mpr ⟨xw_kind zt_wy161_tb, ?_⟩
  refine List.forall_mem_cons.mpr ⟨xw_kind zt_wy162_tb, ?_⟩
  refine List.forall_mem_cons.mpr ⟨xw_kind zt_wy163_tb, ?_⟩
  refine List.forall_mem_cons.mpr ⟨xw_kind zt_wy164_tb, ?_⟩
  refine List.forall_mem_cons.mpr ⟨xw_kind zt_wy165_tb, ?_⟩
  refine List.forall_mem_cons.mpr ⟨xw_kind zt_wy166_tb, ?_⟩
  refine List.forall_mem_cons.mpr ⟨xw_kind zt_wy167_tb, ?_⟩
  refine List.forall_mem_cons.mpr ⟨xw_kind zt_wy168_tb, ?_⟩
  refine List.forall_mem_cons.mpr ⟨xw_kind zt_wy169_tb, ?_⟩
  refine List.forall_mem_cons.mpr ⟨xw_kind zt_wy170_tb, ?_⟩
  refine List.forall_mem_cons.mpr ⟨xw_kind zt_wy171_tb, ?_⟩
  refine List.forall_mem_cons.mpr ⟨xw_kind zt_wy172_tb, ?_⟩
  refine List.forall_mem_cons.mpr ⟨xw_kind zt_wy173_tb, ?_⟩
  refine List.forall_mem_cons.mpr ⟨xw_kind zt_wy174_tb, ?_⟩
  refine List.forall_mem_cons.mpr ⟨xw_kind zt_wy175_tb, ?_⟩
  refine List.forall_mem_cons.mpr ⟨xw_kind zt_wy176_tb, ?_⟩
  refine List.forall_mem_cons.mpr ⟨xw_kind zt_wy177_tb, ?_⟩
  refine List.forall_mem_cons.mpr ⟨xw_kind zt_wy178_tb, ?_⟩
  refine List.forall_mem_cons.mpr ⟨xw_kind zt_wy179_tb, ?_⟩
  refine List.forall_mem_cons.mpr ⟨xw_kind zt_wy180_tb, ?_⟩
  refine List.forall_mem_cons.mpr ⟨xw_kind zt_wy181_tb, ?_⟩
  refine List.forall_mem_cons.mpr ⟨xw_kind zt_wy182_tb, ?_⟩
  refine List.forall_mem_cons.mpr ⟨xw_kind zt_wy183_tb, ?_⟩
  refine List.forall_mem_cons.mpr ⟨xw_kind zt_wy184_tb, ?_⟩
  refine List.forall_mem_cons.mpr ⟨xw_kind zt_wy185_tb, ?_⟩
  refine List.forall_mem_cons.mpr ⟨xw_kind zt_wy186_tb, ?_⟩
  refine List.forall_mem_cons.mpr ⟨xw_kind zt_wy187_tb, ?_⟩
  refine List.forall_mem_cons.mpr ⟨xw_kind zt_wy188_tb, ?_⟩
  refine List.forall_mem_cons.mpr ⟨xw_kind zt_wy189_tb, ?_⟩
  refine List.forall_mem_cons.mpr ⟨xw_kind zt_wy190_tb, ?_⟩
  refine List.forall_mem_cons.mpr ⟨xw_kind zt_wy191_tb, ?_⟩
  refine List.forall_mem_cons.mpr ⟨xw_kind zt_wy192_tb, ?_⟩
  refine List.forall_mem_cons.mpr ⟨xw_kind zt_wy193_tb, ?_⟩
  refine List.forall_mem_cons.mpr ⟨xw_kind zt_wy194_tb, ?_⟩
  refine List.forall_mem_cons.mpr ⟨xw_kind zt_wy195_tb, ?_⟩
  refine List.forall_mem_cons.mpr ⟨xw_kind zt_wy196_tb, ?_⟩
  refine List.forall_mem_cons.mpr ⟨xw_kind zt_wy197_tb, ?_⟩
  refine List.forall_mem_cons.mpr ⟨xw_kind zt_wy198_tb, ?_⟩
  refine List.forall_mem_cons.mpr ⟨xw_kind zt_wy199_tb, ?_⟩
  refine List.forall_mem_cons.mpr ⟨xw_kind zt_wy200_tb, ?_⟩
  refine List.forall_mem_cons.mpr ⟨xw_kind zt_wy201_tb, ?_⟩
  refine List.forall_mem_cons.mpr ⟨xw_kind zt_wy202_tb, ?_⟩
  refine List.forall_mem_cons.mpr ⟨xw_kind zt_wy203_tb, ?_⟩
  refine List.forall_mem_cons.mpr ⟨xw_kind zt_wy204_tb, ?_⟩
  refine List.forall_mem_cons.mpr ⟨xw_kind zt_wy205_tb, ?_⟩
  refine List.forall_mem_cons.mpr ⟨xw_kind zt_wy206_tb, ?_⟩
  refine List.forall_mem_cons.mpr ⟨xw_kind zt_wy207_tb, ?_⟩
  refine List.forall_mem_cons.mpr ⟨xw_kind zt_wy208_tb, ?_⟩
  refine List.forall_mem_cons.mpr ⟨xw_kind zt_wy209_tb, ?_⟩
  refine List.forall_mem_cons.mpr ⟨xw_kind zt_wy210_tb, ?_⟩
  refine List.forall_mem_cons.mpr ⟨xw_kind zt_wy211_tb, ?_⟩
  refine List.forall_mem_cons.mpr ⟨xw_kind zt_wy212_tb, ?_⟩
  refine List.forall_mem_cons.mpr ⟨xw_kind zt_wy213_tb, ?_⟩
  refine List.forall_mem_cons.mpr ⟨xw_kind zt_wy214_tb, ?_⟩
  refine List.forall_mem_cons.mpr ⟨xw_kind zt_wy215_tb, ?_⟩
  refine List.forall_mem_cons.mpr ⟨xw_kind zt_wy216_tb, ?_⟩
  refine List.forall_mem_cons.mpr ⟨xw_kind zt_wy217_tb, ?_⟩
  refine List.forall_mem_cons.mpr ⟨xw_kind zt_wy218_tb, ?_⟩
  refine List.forall_mem_cons.mpr ⟨xw_kind zt_wy219_tb, ?_⟩
  refine List.forall_mem_cons.mpr ⟨xw_kind zt_wy220_tb, ?_⟩
  refine List.forall_mem_cons.mpr ⟨xw_kind zt_wy221_tb, ?_⟩
  refine List.forall_mem_cons.mpr ⟨xw_kind zt_wy222_tb, ?_⟩
  refine List.forall_mem_cons.mpr ⟨xw_kind zt_wy223_tb, ?_⟩
  refine List.forall_mem_cons.mpr ⟨xw_kind zt_wy224_tb, ?_⟩
  refine List.forall_mem_cons.mpr ⟨xw_kind zt_wy225_tb, ?_⟩
  refine List.forall_mem_cons.mpr ⟨xw_kind zt_wy226_tb, ?_⟩
  refine List.forall_mem_cons.mpr ⟨xw_kind zt_wy227_tb, ?_⟩
  refine List.forall_mem_cons.mpr ⟨xw_kind zt_wy228_tb, ?_⟩
  refine List.forall_mem_cons.mpr ⟨xw_kind zt_wy229_tb, ?_⟩
  refine List.forall_mem_cons.mpr ⟨xw_kind zt_wy230_tb, ?_⟩
  refine List.forall_mem_cons.mpr ⟨xw_kind zt_wy231_tb, ?_⟩
  refine List.forall_mem_cons.mpr ⟨xw_kind zt_wy232_tb, ?_⟩
  refine List.forall_mem_cons.mpr ⟨xw_kind zt_wy233_tb, ?_⟩
  refine List.forall_mem_cons.mpr ⟨xw_kind zt_wy234_tb, ?_⟩
  refine List.forall_mem_cons.mpr ⟨xw_kind zt_wy235_tb, ?_⟩
  refine List.forall_mem_cons.mpr ⟨xw_kind zt_wy236_tb, ?_⟩
  refine List.forall_mem_cons.mpr ⟨xw_kind zt_wy237_tb, ?_⟩
  refine List.forall_mem_cons.mpr ⟨xw_kind zt_wy238_tb, ?_⟩
  refine List.forall_mem_cons.mpr ⟨xw_kind zt_wy239_tb, ?_⟩
  refine List.forall_mem_cons.mpr ⟨xw_kind zt_wy240_tb, ?_⟩
  refine List.forall_mem_cons.mpr ⟨xw_kind zt_wy241_tb, ?_⟩
  refine List.forall_mem_cons.mpr ⟨xw_kind zt_wy242_tb, ?_⟩
  refine List.forall_mem_cons.mpr ⟨xw_kind zt_wy243_tb, ?_⟩
  refine List.forall_mem_cons.mpr ⟨xw_kind zt_wy244_tb, ?_⟩
  refine List.forall_mem_cons.mpr ⟨xw_kind zt_wy245_tb, ?_⟩
  refine List.forall_mem_cons.mpr ⟨xw_kind zt_wy246_tb, ?_⟩
  refine List.forall_mem_cons.mpr ⟨xw_kind zt_wy247_tb, ?_⟩
  refine List.forall_mem_cons.mpr ⟨xw_kind zt_wy248_tb, ?_⟩
  refine List.forall_mem_cons.mpr ⟨xw_kind zt_wy249_tb, ?_⟩
  refine List.forall_mem_cons.mpr ⟨xw_kind zt_wy250_tb, ?_⟩
  refine List.forall_mem_cons.mpr ⟨xw_kind zt_wy251_tb, ?_⟩
  refine List.forall_mem_cons.mpr ⟨xw_kind zt_wy252_tb, ?_⟩
  refine List.forall_mem_cons.mpr ⟨xw_kind zt_wy253_tb, ?_⟩
  refine List.forall_mem_cons.mpr ⟨xw_kind zt_wy254_tb, ?_⟩
  refine List.forall_mem_cons.mpr ⟨xw_kind zt_wy255_tb, ?_⟩
  refine List.forall_mem_cons.mpr ⟨xw_kind zt_wy256_tb, ?_⟩
  refine List.forall_mem_cons.mpr ⟨xw_kind zt_wy257_tb, ?_⟩
  refine List.forall_mem_cons.mpr ⟨xw_kind zt_wy258_tb, ?_⟩
  refine List.forall_mem_cons.mpr ⟨xw_kind zt_wy259_tb, ?_⟩
  refine List.forall_mem_cons.mpr ⟨xw_kind zt_wy260_tb, ?_⟩
  refine List.forall_mem_cons.mpr ⟨xw_kind zt_wy261_tb, ?_⟩
  refine List.forall_mem_cons.mpr ⟨xw_kind zt_wy262_tb, ?_⟩
  refine List.forall_mem_cons.mpr ⟨xw_kind zt_wy263_tb, ?_⟩
  refine List.forall_mem_cons.mpr ⟨xw_kind zt_wy264_tb, ?_⟩
  refine List.forall_mem_cons.mpr ⟨xw_kind zt_wy265_tb, ?_⟩
  refine List.forall_mem_cons.mpr ⟨xw_kind zt_wy266_tb, ?_⟩
  refine List.forall_mem_cons.mpr ⟨xw_kind zt_wy267_tb, ?_⟩
  refine List.forall_mem_cons.mpr ⟨xw_kind zt_wy268_tb, ?_⟩
  refine List.forall_mem_cons.mpr ⟨xw_kind zt_wy269_tb, ?_⟩
  refine List.forall_mem_cons.mpr ⟨xw_kind zt_wy270_tb, ?_⟩
  refine List.forall_mem_cons.mpr ⟨xw_kind zt_wy271_tb, ?_⟩
  refine List.forall_mem_cons.mpr ⟨xw_kind zt_wy272_tb, ?_⟩
  refine List.forall_mem_cons.mpr ⟨xw_kind zt_wy273_tb, ?_⟩
  refine List.forall_mem_cons.mpr ⟨xw_kind zt_wy274_tb, ?_⟩
  refine List.forall_mem_cons.mpr ⟨xw_kind zt_wy275_tb, ?_⟩
  refine List.forall_mem_cons.mpr ⟨xw_kind zt_wy276_tb, ?_⟩
  refine List.forall_mem_cons.mpr ⟨xw_kind zt_wy277_tb, ?_⟩
  refine List.forall_mem_cons.mpr ⟨xw_kind zt_wy278_tb, ?_⟩
  refine List.forall_mem_cons.mpr ⟨xw_kind zt_wy279_tb, ?_⟩
  refine List.forall_mem_cons.mpr ⟨xw_kind zt_wy280_tb, ?_⟩
  refine List.forall_mem_cons.mpr ⟨xw_kind zt_wy281_tb, ?_⟩
  refine List.forall_mem_cons.mpr ⟨xw_kind zt_wy282_tb, ?_⟩
  refine List.forall_mem_cons.mpr ⟨xw_kind zt_wy283_tb, ?_⟩
  refine List.forall_mem_cons.mpr ⟨xw_kind zt_wy284_tb, ?_⟩
  refine List.forall_mem_cons.mpr ⟨xw_kind zt_wy285_tb, ?_⟩
  refine List.forall_mem_cons.mpr ⟨xw_kind zt_wy286_tb, ?_⟩
  refine List.forall_mem_cons.mpr ⟨xw_kind zt_wy287_tb, ?_⟩
  refine List.forall_mem_cons.mpr ⟨xw_kind zt_wy288_tb, ?_⟩
  refine List.forall_mem_cons.mpr ⟨xw_kind zt_wy289_tb, ?_⟩
  refine List.forall_mem_cons.mpr ⟨xw_kind zt_wy290_tb, ?_⟩
  refine List.forall_mem_cons.mpr ⟨xw_kind zt_wy291_tb, ?_⟩
  refine List.forall_mem_cons.mpr ⟨xw_kind zt_wy292_tb, ?_⟩
  refine List.forall_mem_cons.mpr ⟨xw_kind zt_wy293_tb, ?_⟩
  refine List.forall_mem_cons.mpr ⟨xw_kind zt_wy294_tb, ?_⟩
  refine List.forall_mem_cons.mpr ⟨xw_kind zt_wy295_tb, ?_⟩
  refine List.forall_mem_cons.mpr ⟨xw_kind zt_wy296_tb, ?_⟩
  refine List.forall_mem_cons.mpr ⟨xw_kind zt_wy297_tb, ?_⟩
  refine List.forall_mem_cons.mpr ⟨xw_kind zt_wy298_tb, ?_⟩
  refine List.forall_mem_cons.mpr ⟨xw_kind zt_wy299_tb, ?_⟩
  refine List.forall_mem_cons.mpr ⟨xw_kind zt_wy300_tb, ?_⟩
  refine List.forall_mem_cons.mpr ⟨xw_kind zt_wy301_tb, ?_⟩
  refine List.forall_mem_cons.mpr ⟨xw_kind zt_wy302_tb, ?_⟩
  refine List.forall_mem_cons.mpr ⟨xw_kind zt_wy303_tb, ?_⟩
  refine List.forall_mem_cons.mpr ⟨xw_kind zt_wy304_tb, ?_⟩
  refine List.forall_mem_cons.mpr ⟨xw_kind zt_wy305_tb, ?_⟩
  refine List.forall_mem_cons.mpr ⟨xw_kind zt_wy306_tb, ?_⟩
  refine List.forall_mem_cons.mpr ⟨xw_kind zt_wy307_tb, ?_⟩
  refine List.forall_mem_cons.mpr ⟨xw_kind zt_wy308_tb, ?_⟩
  refine List.forall_mem_cons.mpr ⟨xw_kind zt_wy309_tb, ?_⟩
  refine List.forall_mem_cons.mpr ⟨xw_kind zt_wy310_tb, ?_⟩
  refine List.forall_mem_cons.mpr ⟨xw_kind zt_wy311_tb, ?_⟩
  refine List.forall_mem_cons.mpr ⟨xw_kind zt_wy312_tb, ?_⟩
  refine List.forall_mem_cons.mpr ⟨xw_kind zt_wy313_tb, ?_⟩
  refine List.forall_mem_cons.mpr ⟨xw_kind zt_wy314_tb, ?_⟩
  refine List.forall_mem_cons.mpr ⟨xw_kind zt_wy315_tb, ?_⟩
  refine List.forall_mem_cons.mpr ⟨xw_kind zt_wy316_tb, ?_⟩
  exact fun _ h => absurd h List.not_mem_nil
set_option maxRecDepth 100000 in
theorem zt_Y : ∀ (j : Nat) (z : xm_Z) (kd : Nat), zt_ys[j]? = some z → zt_kds[j]? = some kd → (kd = 0 → Jvm.Cond.instanceMethod z.1 ∈ zt_tb ∧ Jvm.Cond.selects z.1.cls z.1 z.1 ∈ zt_tb) ∧ (kd = 1 → Jvm.Cond.instanceMethod z.1 ∈ zt_tb) ∧ (kd = 3 → Jvm.Cond.static z.1 ∈ zt_tb) := by
  intro j z kd hz hk
  rw [show zt_ys = zt_kp.map Prod.fst from rfl, List.getElem?_map] at hz
  rw [show zt_kds = zt_kp.map Prod.snd from rfl, List.getElem?_map] at hk
  cases hq : zt_kp[j]? with
  | none => rw [hq] at hz; cases hz
  | some q =>
    rw [hq] at hz hk
    cases Option.some.inj hz
    cases Option.some.inj hk
    exact zt_kpok q (List.mem_of_getElem? hq)
def zt_yz : List (xv_N × xm_Z) := [(zt_m0, zt_z0), (zt_m1, zt_z1), (zt_m2, zt_z2), (zt_m3, zt_z3), (zt_m4, zt_z4), (zt_m5, zt_z5), (zt_m6, zt_z6), (zt_m7, zt_z7), (zt_m8, zt_z8), (zt_m9, zt_z9), (zt_m10, zt_z10), (zt_m11, zt_z11), (zt_m12, zt_z12), (zt_m13, zt_z13), (zt_m14, zt_z14), (zt_m15, zt_z15), (zt_m16, zt_z16), (zt_m17, zt_z17), (zt_m18, zt_z18), (zt_m19, zt_z19), (zt_m20, zt_z20), (zt_m21, zt_z21), (zt_m22, zt_z22), (zt_m23, zt_z23), (zt_m24, zt_z24), (zt_m25, zt_z25), (zt_m26, zt_z26), (zt_m27, zt_z27), (zt_m28, zt_z28), (zt_m29, zt_z29), (zt_m30, zt_z30), (zt_m31, zt_z31), (zt_m32, zt_z32), (zt_m33, zt_z33), (zt_m34, zt_z34), (zt_m35, zt_z35), (zt_m36, zt_z36), (zt_m37, zt_z37), (zt_m38, zt_z38), (zt_m39, zt_z39), (zt_m40, zt_z40), (zt_m41, zt_z41), (zt_m42, zt_z42), (zt_m43, zt_z43), (zt_m44, zt_z44), (zt_m45, zt_z45), (zt_m46, zt_z46), (zt_m47, zt_z47), (zt_m48, zt_z48), (zt_m49, zt_z49), (zt_m50, zt_z50), (zt_m51, zt_z51), (zt_m52, zt_z52), (zt_m53, zt_z53), (zt_m54, zt_z54), (zt_m55, zt_z55), (zt_m56, zt_z56), (zt_m57, zt_z57), (zt_m58, zt_z58), (zt_m59, zt_z59), (zt_m60, zt_z60), (zt_m61, zt_z61), (zt_m62, zt_z62), (zt_m63, zt_z63), (zt_m64, zt_z64), (zt_m65, zt_z65), (zt_m66, zt_z66), (zt_m67, zt_z67), (zt_m68, zt_z68), (zt_m69, zt_z69), (zt_m70, zt_z70), (zt_m71, zt_z71), (zt_m72, zt_z72), (zt_m73, zt_z73), (zt_m74, zt_z74), (zt_m75, zt_z75), (zt_m76, zt_z76), (zt_m77, zt_z77), (zt_m78, zt_z78), (zt_m79, zt_z79), (zt_m80, zt_z80), (zt_m81, zt_z81), (zt_m82, zt_z82), (zt_m83, zt_z83), (zt_m84, zt_z84), (zt_m85, zt_z85), (zt_m86, zt_z86), (zt_m87, zt_z87), (zt_m88, zt_z88), (zt_m89, zt_z89), (zt_m90, zt_z90), (zt_m91, zt_z91), (zt_m92, zt_z92), (zt_m93, zt_z93), (zt_m94, zt_z94), (zt_m95, zt_z95), (zt_m96, zt_z96), (zt_m97, zt_z97), (zt_m98, zt_z98), (zt_m99, zt_z99), (zt_m100, zt_z100), (zt_m101, zt_z101), (zt_m102, zt_z102), (zt_m103, zt_z103), (zt_m104, zt_z104), (zt_m105, zt_z105), (zt_m106, zt_z106), (zt_m107, zt_z107), (zt_m108, zt_z108), (zt_m109, zt_z109), (zt_m110, zt_z110), (zt_m111, zt_z111), (zt_m112, zt_z112), (zt_m113, zt_z113), (zt_m114, zt_z114), (zt_m115, zt_z115), (zt_m116, zt_z116), (zt_m117, zt_z117), (zt_m118, zt_z118), (zt_m119, zt_z119), (zt_m120, zt_z120), (zt_m121, zt_z121), (zt_m122, zt_z122), (zt_m123, zt_z123), (zt_m124, zt_z124), (zt_m125, zt_z125), (zt_m126, zt_z126), (zt_m127, zt_z127), (zt_m128, zt_z128), (zt_m129, zt_z129), (zt_m130, zt_z130), (zt_m131, zt_z131), (zt_m132, zt_z132), (zt_m133, zt_z133), (zt_m134, zt_z134), (zt_m135, zt_z135), (zt_m136, zt_z136), (zt_m137, zt_z137), (zt_m138, zt_z138), (zt_m139, zt_z139), (zt_m140, zt_z140), (zt_m141, zt_z141), (zt_m142, zt_z142), (zt_m143, zt_z143), (zt_m144, zt_z144), (zt_m145, zt_z145), (zt_m146, zt_z146), (zt_m147, zt_z147), (zt_m148, zt_z148), (zt_m149, zt_z149), (zt_m150, zt_z150), (zt_m151, zt_z151), (zt_m152, zt_z152), (zt_m153, zt_z153), (zt_m154, zt_z154), (zt_m155, zt_z155), (zt_m156, zt_z156), (zt_m157, zt_z157), (zt_m158, zt_z158), (zt_m159, zt_z159), (zt_m160, zt_z160), (zt_m161, zt_z161), (zt_m162, zt_z162), (zt_m163, zt_z163), (zt_m164, zt_z164), (zt_m165, zt_z165), (zt_m166, zt_z166), (zt_m167, zt_z167), (zt_m168, zt_z168), (zt_m169, zt_z169), (zt_m170, zt_z170), (zt_m171, zt_z171), (zt_m172, zt_z172), (zt_m173, zt_z173), (zt_m174, zt_z174), (zt_m175, zt_z175), (zt_m176, zt_z176), (zt_m177, zt_z177), (zt_m178, zt_z178), (zt_m179, zt_z179), (zt_m180, zt_z180), (zt_m181, zt_z181), (zt_m182, zt_z182), (zt_m183, zt_z183), (zt_m184, zt_z184), (zt_m185, zt_z185), (zt_m186, zt_z186), (zt_m187, zt_z187), (zt_m188, zt_z188), (zt_m189, zt_z189), (zt_m190, zt_z190), (zt_m191, zt_z191), (zt_m192, zt_z192), (zt_m193, zt_z193), (zt_m194, zt_z194), (zt_m195, zt_z195), (zt_m196, zt_z196), (zt_m197, zt_z197), (zt_m198, zt_z198), (zt_m199, zt_z199), (zt_m200, zt_z200), (zt_m201, zt_z201), (zt_m202, zt_z202), (zt_m203, zt_z203), (zt_m204, zt_z204), (zt_m205, zt_z205), (zt_m206, zt_z206), (zt_m207, zt_z207), (zt_m208, zt_z208), (zt_m209, zt_z209), (zt_m210, zt_z210), (zt_m211, zt_z211), (zt_m212, zt_z212), (zt_m213, zt_z213), (zt_m214, zt_z214), (zt_m215, zt_z215), (zt_m216, zt_z216), (zt_m217, zt_z217), (zt_m218, zt_z218), (zt_m219, zt_z219), (zt_m220, zt_z220), (zt_m221, zt_z221), (zt_m222, zt_z222), (zt_m223, zt_z223), (zt_m224, zt_z224), (zt_m225, zt_z225), (zt_m226, zt_z226), (zt_m227, zt_z227), (zt_m228, zt_z228), (zt_m229, zt_z229), (zt_m230, zt_z230), (zt_m231, zt_z231), (zt_m232, zt_z232), (zt_m233, zt_z233), (zt_m234, zt_z234), (zt_m235, zt_z235), (zt_m236, zt_z236), (zt_m237, zt_z237), (zt_m238, zt_z238), (zt_m239, zt_z239), (zt_m240, zt_z240), (zt_m241, zt_z241), (zt_m242, zt_z242), (zt_m243, zt_z243), (zt_m244, zt_z244), (zt_m245, zt_z245), (zt_m246, zt_z246), (zt_m247, zt_z247), (zt_m248, zt_z248), (zt_m249, zt_z249), (zt_m250, zt_z250), (zt_m251, zt_z251), (zt_m252, zt_z252), (zt_m253, zt_z253), (zt_m254, zt_z254), (zt_m255, zt_z255), (zt_m256, zt_z256), (zt_m257, zt_z257), (zt_m258, zt_z258), (zt_m259, zt_z259), (zt_m260, zt_z260), (zt_m261, zt_z261), (zt_m262, zt_z262), (zt_m263, zt_z263), (zt_m264, zt_z264), (zt_m265, zt_z265), (zt_m266, zt_z266), (zt_m267, zt_z267), (zt_m268, zt_z268), (zt_m269, zt_z269), (zt_m270, zt_z270), (zt_m271, zt_z271), (zt_m272, zt_z272), (zt_m273, zt_z273), (zt_m274, zt_z274), (zt_m275, zt_z275), (zt_m276, zt_z276), (zt_m277, zt_z277), (zt_m278, zt_z278), (zt_m279, zt_z279), (zt_m280, zt_z280), (zt_m281, zt_z281), (zt_m282, zt_z282), (zt_m283, zt_z283), (zt_m284, zt_z284), (zt_m285, zt_z285), (zt_m286, zt_z286), (zt_m287, zt_z287), (zt_m288, zt_z288), (zt_m289, zt_z289), (zt_m290, zt_z290), (zt_m291, zt_z291), (zt_m292, zt_z292), (zt_m293, zt_z293), (zt_m294, zt_z294), (zt_m295, zt_z295), (zt_m296, zt_z296), (zt_m297, zt_z297), (zt_m298, zt_z298), (zt_m299, zt_z299), (zt_m300, zt_z300), (zt_m301, zt_z301), (zt_m302, zt_z302), (zt_m303, zt_z303), (zt_m304, zt_z304), (zt_m305, zt_z305), (zt_m306, zt_z306), (zt_m307, zt_z307), (zt_m308, zt_z308), (zt_m309, zt_z309), (zt_m310, zt_z310), (zt_m311, zt_z311)]
theorem zt_one : ∀ q ∈ zt_yz, xc_one zt_tb zt_nest zt_cl zt_ct zt_at zt_sct zt_strs zt_ys q.1 q.2 := by
  unfold zt_yz
  refine List.forall_mem_cons.mpr ⟨xw_one (kds := zt_kds) (zt_wcd_tb _ (List.mem_of_getElem? (i := 0) rfl)) zt_wy0_tb zt_wk11_tb zt_k11_ok zt_Y zt_o0_ok zt_d0_ok, ?_⟩
  refine List.forall_mem_cons.mpr ⟨xw_one (kds := zt_kds) (zt_wcd_tb _ (List.mem_of_getElem? (i := 1) rfl)) zt_wy1_tb zt_wk6_tb zt_k6_ok zt_Y zt_o1_ok zt_d1_ok, ?_⟩
  refine List.forall_mem_cons.mpr ⟨xw_one (kds := zt_kds) (zt_wcd_tb _ (List.mem_of_getElem? (i := 2) rfl)) zt_wy2_tb zt_wk5_tb zt_k5_ok zt_Y zt_o2_ok zt_d2_ok, ?_⟩
  refine List.forall_mem_cons.mpr ⟨xw_one (kds := zt_kds) (zt_wcd_tb _ (List.mem_of_getElem? (i := 3) rfl)) zt_wy3_tb zt_wk3_tb zt_k3_ok zt_Y zt_o3_ok zt_d3_ok, ?_⟩
  refine List.forall_mem_cons.mpr ⟨xw_one (kds := zt_kds) (zt_wcd_tb _ (List.mem_of_getElem? (i := 4) rfl)) zt_wy4_tb zt_wk4_tb zt_k4_ok zt_Y zt_o4_ok zt_d4_ok, ?_⟩
  refine List.forall_mem_cons.mpr ⟨xw_one (kds := zt_kds) (zt_wcd_tb _ (List.mem_of_getElem? (i := 5) rfl)) zt_wy5_tb zt_wk1_tb zt_k1_ok zt_Y zt_o5_ok zt_d5_ok, ?_⟩
  refine List.forall_mem_cons.mpr ⟨xw_one (kds := zt_kds) (zt_wcd_tb _ (List.mem_of_getElem? (i := 6) rfl)) zt_wy6_tb zt_wk0_tb zt_k0_ok zt_Y zt_o6_ok zt_d6_ok, ?_⟩
  refine List.forall_mem_cons.mpr ⟨xw_one (kds := zt_kds) (zt_wcd_tb _ (List.mem_of_getElem? (i := 7) rfl)) zt_wy7_tb zt_wk8_tb zt_k8_ok zt_Y zt_o7_ok zt_d7_ok, ?_⟩
  refine List.forall_mem_cons.mpr ⟨xw_one (kds := zt_kds) (zt_wcd_tb _ (List.mem_of_getElem? (i := 8) rfl)) zt_wy8_tb zt_wk2_tb zt_k2_ok zt_Y zt_o8_ok zt_d8_ok, ?_⟩
  refine List.forall_mem_cons.mpr ⟨xw_one (kds := zt_kds) (zt_wcd_tb _ (List.mem_of_getElem? (i := 9) rfl)) zt_wy9_tb zt_wk7_tb zt_k7_ok zt_Y zt_o9_ok zt_d9_ok, ?_⟩
  refine List.forall_mem_cons.mpr ⟨xw_one (kds := zt_kds) (zt_wcd_tb _ (List.mem_of_getElem? (i := 10) rfl)) zt_wy10_tb zt_wk10_tb zt_k10_ok zt_Y zt_o10_ok zt_d10_ok, ?_⟩
  refine List.forall_mem_cons.mpr ⟨xw_one (kds := zt_kds) (zt_wcd_tb _ (List.mem_of_getElem? (i := 11) rfl)) zt_wy11_tb zt_wk9_tb zt_k9_ok zt_Y zt_o11_ok zt_d11_ok, ?_⟩
  refine List.forall_mem_cons.mpr ⟨xw_one (kds := zt_kds) (zt_wcd_tb _ (List.mem_of_getElem? (i := 12) rfl)) zt_wy12_tb zt_wk6_tb zt_k6_ok zt_Y zt_o12_ok zt_d12_ok, ?_⟩
  refine List.forall_mem_cons.mpr ⟨xw_one (kds := zt_kds) (zt_wcd_tb _ (List.mem_of_getElem? (i := 13) rfl)) zt_wy13_tb zt_wk5_tb zt_k5_ok zt_Y zt_o13_ok zt_d13_ok, ?_⟩
  refine List.forall_mem_cons.mpr ⟨xw_one (kds := zt_kds) (zt_wcd_tb _ (List.mem_of_getElem? (i := 14) rfl)) zt_wy14_tb zt_wk3_tb zt_k3_ok zt_Y zt_o14_ok zt_d14_ok, ?_⟩
  refine List.forall_mem_cons.mpr ⟨xw_one (kds := zt_kds) (zt_wcd_tb _ (List.mem_of_getElem? (i := 15) rfl)) zt_wy15_tb zt_wk5_tb zt_k5_ok zt_Y zt_o15_ok zt_d15_ok, ?_⟩
  refine List.forall_mem_cons.mpr ⟨xw_one (kds := zt_kds) (zt_wcd_tb _ (List.mem_of_getElem? (i := 16) rfl)) zt_wy16_tb zt_wk4_tb zt_k4_ok zt_Y zt_o16_ok zt_d16_ok, ?_⟩
  refine List.forall_mem_cons.mpr ⟨xw_one (kds := zt_kds) (zt_wcd_tb _ (List.mem_of_getElem? (i := 17) rfl)) zt_wy17_tb zt_wk8_tb zt_k8_ok zt_Y zt_o17_ok zt_d17_ok, ?_⟩
  refine List.forall_mem_cons.mpr ⟨xw_one (kds := zt_kds) (zt_wcd_tb _ (List.mem_of_getElem? (i := 18) rfl)) zt_wy18_tb zt_wk8_tb zt_k8_ok zt_Y zt_o18_ok zt_d18_ok, ?_⟩
  refine List.forall_mem_cons.mpr ⟨xw_one (kds := zt_kds) (zt_wcd_tb _ (List.mem_of_getElem? (i := 19) rfl)) zt_wy19_tb zt_wk11_tb zt_k11_ok zt_Y zt_o19_ok zt_d19_ok, ?_⟩
  refine List.forall_mem_cons.mpr ⟨xw_one (kds := zt_kds) (zt_wcd_tb _ (List.mem_of_getElem? (i := 20) rfl)) zt_wy20_tb zt_wk5_tb zt_k5_ok zt_Y zt_o20_ok zt_d20_ok, ?_⟩
  refine List.forall_mem_cons.mpr ⟨xw_one (kds := zt_kds) (zt_wcd_tb _ (List.mem_of_getElem? (i := 21) rfl)) zt_wy21_tb zt_wk3_tb zt_k3_ok zt_Y zt_o21_ok zt_d21_ok, ?_⟩
  refine List.forall_mem_cons.mpr ⟨xw_one (kds := zt_kds) (zt_wcd_tb _ (List.mem_of_getElem? (i := 22) rfl)) zt_wy22_tb zt_wk4_tb zt_k4_ok zt_Y zt_o22_ok zt_d22_ok, ?_⟩
  refine List.forall_mem_cons.mpr ⟨xw_one (kds := zt_kds) (zt_wcd_tb _ (List.mem_of_getElem? (i := 23) rfl)) zt_wy23_tb zt_wk5_tb zt_k5_ok zt_Y zt_o23_ok zt_d23_ok, ?_⟩
  refine List.forall_mem_cons.mpr ⟨xw_one (kds := zt_kds) (zt_wcd_tb _ (List.mem_of_getElem? (i := 24) rfl)) zt_wy24_tb zt_wk5_tb zt_k5_ok zt_Y zt_o24_ok zt_d24_ok, ?_⟩
  refine List.forall_mem_cons.mpr ⟨xw_one (kds := zt_kds) (zt_wcd_tb _ (List.mem_of_getElem? (i := 25) rfl)) zt_wy25_tb zt_wk5_tb zt_k5_ok zt_Y zt_o25_ok zt_d25_ok, ?_⟩
  refine List.forall_mem_cons.mpr ⟨xw_one (kds := zt_kds) (zt_wcd_tb _ (List.mem_of_getElem? (i := 26) rfl)) zt_wy26_tb zt_wk3_tb zt_k3_ok zt_Y zt_o26_ok zt_d26_ok, ?_⟩
  refine List.forall_mem_cons.mpr ⟨xw_one (kds := zt_kds) (zt_wcd_tb _ (List.mem_of_getElem? (i := 27) rfl)) zt_wy27_tb zt_wk7_tb zt_k7_ok zt_Y zt_o27_ok zt_d27_ok, ?_⟩
  refine List.forall_mem_cons.mpr ⟨xw_one (kds := zt_kds) (zt_wcd_tb _ (List.mem_of_getElem? (i := 28) rfl)) zt_wy28_tb zt_wk10_tb zt_k10_ok zt_Y zt_o28_ok zt_d28_ok, ?_⟩
  refine List.forall_mem_cons.mpr ⟨xw_one (kds := zt_kds) (zt_wcd_tb _ (List.mem_of_getElem? (i := 29) rfl)) zt_wy29_tb zt_wk12_tb zt_k12_ok zt_Y zt_o29_ok zt_d29_ok, ?_⟩
  refine List.forall_mem_cons.mpr ⟨xw_one (kds := zt_kds) (zt_wcd_tb _ (List.mem_of_getElem? (i := 30) rfl)) zt_wy30_tb zt_wk12_tb zt_k12_ok zt_Y zt_o30_ok zt_d30_ok, ?_⟩
  refine List.forall_mem_cons.mpr ⟨xw_one (kds := zt_kds) (zt_wcd_tb _ (List.mem_of_getElem? (i := 31) rfl)) zt_wy31_tb zt_wk12_tb zt_k12_ok zt_Y zt_o31_ok zt_d31_ok, ?_⟩
  refine List.forall_mem_cons.mpr ⟨xw_one (kds := zt_kds) (zt_wcd_tb _ (List.mem_of_getElem? (i := 32) rfl)) zt_wy32_tb zt_wk12_tb zt_k12_ok zt_Y zt_o32_ok zt_d32_ok, ?_⟩
  refine List.forall_mem_cons.mpr ⟨xw_one (kds := zt_kds) (zt_wcd_tb _ (List.mem_of_getElem? (i := 33) rfl)) zt_wy33_tb zt_wk12_tb zt_k12_ok zt_Y zt_o33_ok zt_d33_ok, ?_⟩
  refine List.forall_mem_cons.mpr ⟨xw_one (kds := zt_kds) (zt_wcd_tb _ (List.mem_of_getElem? (i := 34) rfl)) zt_wy34_tb zt_wk12_tb zt_k12_ok zt_Y zt_o34_ok zt_d34_ok, ?_⟩
  refine List.forall_mem_cons.mpr ⟨xw_one (kds := zt_kds) (zt_wcd_tb _ (List.mem_of_getElem? (i := 35) rfl)) zt_wy35_tb zt_wk12_tb zt_k12_ok zt_Y zt_o35_ok zt_d35_ok, ?_⟩
  refine List.forall_mem_cons.mpr ⟨xw_one (kds := zt_kds) (zt_wcd_tb _ (List.mem_of_getElem? (i := 36) rfl)) zt_wy36_tb zt_wk12_tb zt_k12_ok zt_Y zt_o36_ok zt_d36_ok, ?_⟩
  refine List.forall_mem_cons.mpr ⟨xw_one (kds := zt_kds) (zt_wcd_tb _ (List.mem_of_getElem? (i := 37) rfl)) zt_wy37_tb zt_wk12_tb zt_k12_ok zt_Y zt_o37_ok zt_d37_ok, ?_⟩
  refine List.forall_mem_cons.mpr ⟨xw_one (kds := zt_kds) (zt_wcd_tb _ (List.mem_of_getElem? (i := 38) rfl)) zt_wy38_tb zt_wk12_tb zt_k12_ok zt_Y zt_o38_ok zt_d38_ok, ?_⟩
  refine List.forall_mem_cons.mpr ⟨xw_one (kds := zt_kds) (zt_wcd_tb _ (List.mem_of_getElem? (i := 39) rfl)) zt_wy39_tb zt_wk12_tb zt_k12_ok zt_Y zt_o39_ok zt_d39_ok, ?_⟩
  refine List.forall_mem_cons.mpr ⟨xw_one (kds := zt_kds) (zt_wcd_tb _ (List.mem_of_getElem? (i := 40) rfl)) zt_wy40_tb zt_wk11_tb zt_k11_ok zt_Y zt_o40_ok zt_d40_ok, ?_⟩
  refine List.forall_mem_cons.mpr ⟨xw_one (kds := zt_kds) (zt_wcd_tb _ (List.mem_of_getElem? (i := 41) rfl)) zt_wy41_tb zt_wk11_tb zt_k11_ok zt_Y zt_o41_ok zt_d41_ok, ?_⟩
  refine List.forall_mem_cons.mpr ⟨xw_one (kds := zt_kds) (zt_wcd_tb _ (List.mem_of_getElem? (i := 42) rfl)) zt_wy42_tb zt_wk11_tb zt_k11_ok zt_Y zt_o42_ok zt_d42_ok, ?_⟩
  refine List.forall_mem_cons.mpr ⟨xw_one (kds := zt_kds) (zt_wcd_tb _ (List.mem_of_getElem? (i := 43) rfl)) zt_wy43_tb zt_wk11_tb zt_k11_ok zt_Y zt_o43_ok zt_d43_ok, ?_⟩
  refine List.forall_mem_cons.mpr ⟨xw_one (kds := zt_kds) (zt_wcd_tb _ (List.mem_of_getElem? (i := 44) rfl)) zt_wy44_tb zt_wk11_tb zt_k11_ok zt_Y zt_o44_ok zt_d44_ok, ?_⟩
  refine List.forall_mem_cons.mpr ⟨xw_one (kds := zt_kds) (zt_wcd_tb _ (List.mem_of_getElem? (i := 45) rfl)) zt_wy45_tb zt_wk11_tb zt_k11_ok zt_Y zt_o45_ok zt_d45_ok, ?_⟩
  refine List.forall_mem_cons.mpr ⟨xw_one (kds := zt_kds) (zt_wcd_tb _ (List.mem_of_getElem? (i := 46) rfl)) zt_wy46_tb zt_wk11_tb zt_k11_ok zt_Y zt_o46_ok zt_d46_ok, ?_⟩
  refine List.forall_mem_cons.mpr ⟨xw_one (kds := zt_kds) (zt_wcd_tb _ (List.mem_of_getElem? (i := 47) rfl)) zt_wy47_tb zt_wk11_tb zt_k11_ok zt_Y zt_o47_ok zt_d47_ok, ?_⟩
  refine List.forall_mem_cons.mpr ⟨xw_one (kds := zt_kds) (zt_wcd_tb _ (List.mem_of_getElem? (i := 48) rfl)) zt_wy48_tb zt_wk11_tb zt_k11_ok zt_Y zt_o48_ok zt_d48_ok, ?_⟩
  refine List.forall_mem_cons.mpr ⟨xw_one (kds := zt_kds) (zt_wcd_tb _ (List.mem_of_getElem? (i := 49) rfl)) zt_wy49_tb zt_wk11_tb zt_k11_ok zt_Y zt_o49_ok zt_d49_ok, ?_⟩
  refine List.forall_mem_cons.mpr ⟨xw_one (kds := zt_kds) (zt_wcd_tb _ (List.mem_of_getElem? (i := 50) rfl)) zt_wy50_tb zt_wk11_tb zt_k11_ok zt_Y zt_o50_ok zt_d50_ok, ?_⟩
  refine List.forall_mem_cons.mpr ⟨xw_one (kds := zt_kds) (zt_wcd_tb _ (List.mem_of_getElem? (i := 51) rfl)) zt_wy51_tb zt_wk11_tb zt_k11_ok zt_Y zt_o51_ok zt_d51_ok, ?_⟩
  refine List.forall_mem_cons.mpr ⟨xw_one (kds := zt_kds) (zt_wcd_tb _ (List.mem_of_getElem? (i := 52) rfl)) zt_wy52_tb zt_wk11_tb zt_k11_ok zt_Y zt_o52_ok zt_d52_ok, ?_⟩
  refine List.forall_mem_cons.mpr ⟨xw_one (kds := zt_kds) (zt_wcd_tb _ (List.mem_of_getElem? (i := 53) rfl)) zt_wy53_tb zt_wk11_tb zt_k11_ok zt_Y zt_o53_ok zt_d53_ok, ?_⟩
  refine List.forall_mem_cons.mpr ⟨xw_one (kds := zt_kds) (zt_wcd_tb _ (List.mem_of_getElem? (i := 54) rfl)) zt_wy54_tb zt_wk11_tb zt_k11_ok zt_Y zt_o54_ok zt_d54_ok, ?_⟩
  refine List.forall_mem_cons.mpr ⟨xw_one (kds := zt_kds) (zt_wcd_tb _ (List.mem_of_getElem? (i := 55) rfl)) zt_wy55_tb zt_wk11_tb zt_k11_ok zt_Y zt_o55_ok zt_d55_ok, ?_⟩
  refine List.forall_mem_cons.mpr ⟨xw_one (kds := zt_kds) (zt_wcd_tb _ (List.mem_of_getElem? (i := 56) rfl)) zt_wy56_tb zt_wk11_tb zt_k11_ok zt_Y zt_o56_ok zt_d56_ok, ?_⟩
  refine List.forall_mem_cons.mpr ⟨xw_one (kds := zt_kds) (zt_wcd_tb _ (List.mem_of_getElem? (i := 57) rfl)) zt_wy57_tb zt_wk11_tb zt_k11_ok zt_Y zt_o57_ok zt_d57_ok, ?_⟩
  refine List.forall_mem_cons.mpr ⟨xw_one (kds := zt_kds) (zt_wcd_tb _ (List.mem_of_getElem? (i := 58) rfl)) zt_wy58_tb zt_wk11_tb zt_k11_ok zt_Y zt_o58_ok zt_d58_ok, ?_⟩
  refine List.forall_mem_cons.mpr ⟨xw_one (kds := zt_kds) (zt_wcd_tb _ (List.mem_of_getElem? (i := 59) rfl)) zt_wy59_tb zt_wk11_tb zt_k11_ok zt_Y zt_o59_ok zt_d59_ok, ?_⟩
  refine List.forall_mem_cons.mpr ⟨xw_one (kds := zt_kds) (zt_wcd_tb _ (List.mem_of_getElem? (i := 60) rfl)) zt_wy60_tb zt_wk11_tb zt_k11_ok zt_Y zt_o60_ok zt_d60_ok, ?_⟩
  refine List.forall_mem_cons.mpr ⟨xw_one (kds := zt_kds) (zt_wcd_tb _ (List.mem_of_getElem? (i := 61) rfl)) zt_wy61_tb zt_wk11_tb zt_k11_ok zt_Y zt_o61_ok zt_d61_ok, ?_⟩
  refine List.forall_mem_cons.mpr ⟨xw_one (kds := zt_kds) (zt_wcd_tb _ (List.mem_of_getElem? (i := 62) rfl)) zt_wy62_tb zt_wk11_tb zt_k11_ok zt_Y zt_o62_ok zt_d62_ok, ?_⟩
  refine List.forall_mem_cons.mpr ⟨xw_one (kds := zt_kds) (zt_wcd_tb _ (List.mem_of_getElem? (i := 63) rfl)) zt_wy63_tb zt_wk11_tb zt_k11_ok zt_Y zt_o63_ok zt_d63_ok, ?_⟩
  refine List.forall_mem_cons.mpr ⟨xw_one (kds := zt_kds) (zt_wcd_tb _ (List.mem_of_getElem? (i := 64) rfl)) zt_wy64_tb zt_wk11_tb zt_k11_ok zt_Y zt_o64_ok zt_d64_ok, ?_⟩
  refine List.forall_mem_cons.mpr ⟨xw_one (kds := zt_kds) (zt_wcd_tb _ (List.mem_of_getElem? (i := 65) rfl)) zt_wy65_tb zt_wk11_tb zt_k11_ok zt_Y zt_o65_ok zt_d65_ok, ?_⟩
  refine List.forall_mem_cons.mpr ⟨xw_one (kds := zt_kds) (zt_wcd_tb _ (List.mem_of_getElem? (i := 66) rfl)) zt_wy66_tb zt_wk11_tb zt_k11_ok zt_Y zt_o66_ok zt_d66_ok, ?_⟩
  refine List.forall_mem_cons.mpr ⟨xw_one (kds := zt_kds) (zt_wcd_tb _ (List.mem_of_getElem? (i := 67) rfl)) zt_wy67_tb zt_wk11_tb zt_k11_ok zt_Y zt_o67_ok zt_d67_ok, ?_⟩
  refine List.forall_mem_cons.mpr ⟨xw_one (kds := zt_kds) (zt_wcd_tb _ (List.mem_of_getElem? (i := 68) rfl)) zt_wy68_tb zt_wk11_tb zt_k11_ok zt_Y zt_o68_ok zt_d68_ok, ?_⟩
  refine List.forall_mem_cons.mpr ⟨xw_one (kds := zt_kds) (zt_wcd_tb _ (List.mem_of_getElem? (i := 69) rfl)) zt_wy69_tb zt_wk11_tb zt_k11_ok zt_Y zt_o69_ok zt_d69_ok, ?_⟩
  refine List.forall_mem_cons.mpr ⟨xw_one (kds := zt_kds) (zt_wcd_tb _ (List.mem_of_getElem? (i := 70) rfl)) zt_wy70_tb zt_wk11_tb zt_k11_ok zt_Y zt_o70_ok zt_d70_ok, ?_⟩
  refine List.forall_mem_cons.mpr ⟨xw_one (kds := zt_kds) (zt_wcd_tb _ (List.mem_of_getElem? (i := 71) rfl)) zt_wy71_tb zt_wk11_tb zt_k11_ok zt_Y zt_o71_ok zt_d71_ok, ?_⟩
  refine List.forall_mem_cons.mpr ⟨xw_one (kds := zt_kds) (zt_wcd_tb _ (List.mem_of_getElem? (i := 72) rfl)) zt_wy72_tb zt_wk11_tb zt_k11_ok zt_Y zt_o72_ok zt_d72_ok, ?_⟩
  refine List.forall_mem_cons.mpr ⟨xw_one (kds := zt_kds) (zt_wcd_tb _ (List.mem_of_getElem? (i := 73) rfl)) zt_wy73_tb zt_wk11_tb zt_k11_ok zt_Y zt_o73_ok zt_d73_ok, ?_⟩
  refine List.forall_mem_cons.mpr ⟨xw_one (kds := zt_kds) (zt_wcd_tb _ (List.mem_of_getElem? (i := 74) rfl)) zt_wy74_tb zt_wk11_tb zt_k11_ok zt_Y zt_o74_ok zt_d74_ok, ?_⟩
  refine List.forall_mem_cons.mpr ⟨xw_one (kds := zt_kds) (zt_wcd_tb _ (List.mem_of_getElem? (i := 75) rfl)) zt_wy75_tb zt_wk11_tb zt_k11_ok zt_Y zt_o75_ok zt_d75_ok, ?_⟩
  refine List.forall_mem_cons.mpr ⟨xw_one (kds := zt_kds) (zt_wcd_tb _ (List.mem_of_getElem? (i := 76) rfl)) zt_wy76_tb zt_wk11_tb zt_k11_ok zt_Y zt_o76_ok zt_d76_ok, ?_⟩
  refine List.forall_mem_cons.mpr ⟨xw_one (kds := zt_kds) (zt_wcd_tb _ (List.mem_of_getElem? (i := 77) rfl)) zt_wy77_tb zt_wk11_tb zt_k11_ok zt_Y zt_o77_ok zt_d77_ok, ?_⟩
  refine List.forall_mem_cons.mpr ⟨xw_one (kds := zt_kds) (zt_wcd_tb _ (List.mem_of_getElem? (i := 78) rfl)) zt_wy78_tb zt_wk11_tb zt_k11_ok zt_Y zt_o78_ok zt_d78_ok, ?_⟩
  refine List.forall_mem_cons.mpr ⟨xw_one (kds := zt_kds) (zt_wcd_tb _ (List.mem_of_getElem? (i := 79) rfl)) zt_wy79_tb zt_wk11_tb zt_k11_ok zt_Y zt_o79_ok zt_d79_ok, ?_⟩
  refine List.forall_mem_cons.mpr ⟨xw_one (kds := zt_kds) (zt_wcd_tb _ (List.mem_of_getElem? (i := 80) rfl)) zt_wy80_tb zt_wk11_tb zt_k11_ok zt_Y zt_o80_ok zt_d80_ok, ?_⟩
  refine List.forall_mem_cons.mpr ⟨xw_one (kds := zt_kds) (zt_wcd_tb _ (List.mem_of_getElem? (i := 81) rfl)) zt_wy81_tb zt_wk11_tb zt_k11_ok zt_Y zt_o81_ok zt_d81_ok, ?_⟩
  refine List.forall_mem_cons.mpr ⟨xw_one (kds := zt_kds) (zt_wcd_tb _ (List.mem_of_getElem? (i := 82) rfl)) zt_wy82_tb zt_wk12_tb zt_k12_ok zt_Y zt_o82_ok zt_d82_ok, ?_⟩
  refine List.forall_mem_cons.mpr ⟨xw_one (kds := zt_kds) (zt_wcd_tb _ (List.mem_of_getElem? (i := 83) rfl)) zt_wy83_tb zt_wk12_tb zt_k12_ok zt_Y zt_o83_ok zt_d83_ok, ?_⟩
  refine List.forall_mem_cons.mpr ⟨xw_one (kds := zt_kds) (zt_wcd_tb _ (List.mem_of_getElem? (i := 84) rfl)) zt_wy84_tb zt_wk12_tb zt_k12_ok zt_Y zt_o84_ok zt_d84_ok, ?_⟩
  refine List.forall_mem_cons.mpr ⟨xw_one (kds := zt_kds) (zt_wcd_tb _ (List.mem_of_getElem? (i := 85) rfl)) zt_wy85_tb zt_wk12_tb zt_k12_ok zt_Y zt_o85_ok zt_d85_ok, ?_⟩
  refine List.forall_mem_cons.mpr ⟨xw_one (kds := zt_kds) (zt_wcd_tb _ (List.mem_of_getElem? (i := 86) rfl)) zt_wy86_tb zt_wk12_tb zt_k12_ok zt_Y zt_o86_ok zt_d86_ok, ?_⟩
  refine List.forall_mem_cons.mpr ⟨xw_one (kds := zt_kds) (zt_wcd_tb _ (List.mem_of_getElem? (i := 87) rfl)) zt_wy87_tb zt_wk12_tb zt_k12_ok zt_Y zt_o87_ok zt_d87_ok, ?_⟩
  refine List.forall_mem_cons.mpr ⟨xw_one (kds := zt_kds) (zt_wcd_tb _ (List.mem_of_getElem? (i := 88) rfl)) zt_wy88_tb zt_wk12_tb zt_k12_ok zt_Y zt_o88_ok zt_d88_ok, ?_⟩
  refine List.forall_mem_cons.mpr ⟨xw_one (kds := zt_kds) (zt_wcd_tb _ (List.mem_of_getElem? (i := 89) rfl)) zt_wy89_tb zt_wk12_tb zt_k12_ok zt_Y zt_o89_ok zt_d89_ok, ?_⟩
  refine List.forall_mem_cons.mpr ⟨xw_one (kds := zt_kds) (zt_wcd_tb _ (List.mem_of_getElem? (i := 90) rfl)) zt_wy90_tb zt_wk12_tb zt_k12_ok zt_Y zt_o90_ok zt_d90_ok, ?_⟩
  refine List.forall_mem_cons.mpr ⟨xw_one (kds := zt_kds) (zt_wcd_tb _ (List.mem_of_getElem? (i := 91) rfl)) zt_wy91_tb zt_wk12_tb zt_k12_ok zt_Y zt_o91_ok zt_d91_ok, ?_⟩
  refine List.forall_mem_cons.mpr ⟨xw_one (kds := zt_kds) (zt_wcd_tb _ (List.mem_of_getElem? (i := 92) rfl)) zt_wy92_tb zt_wk12_tb zt_k12_ok zt_Y zt_o92_ok zt_d92_ok, ?_⟩
  refine List.forall_mem_cons.mpr ⟨xw_one (kds := zt_kds) (zt_wcd_tb _ (List.mem_of_getElem? (i := 93) rfl)) zt_wy93_tb zt_wk12_tb zt_k12_ok zt_Y zt_o93_ok zt_d93_ok, ?_⟩
  refine List.forall_mem_cons.mpr ⟨xw_one (kds := zt_kds) (zt_wcd_tb _ (List.mem_of_getElem? (i := 94) rfl)) zt_wy94_tb zt_wk12_tb zt_k12_ok zt_Y zt_o94_ok zt_d94_ok, ?_⟩
  refine List.forall_mem_cons.mpr ⟨xw_one (kds := zt_kds) (zt_wcd_tb _ (List.mem_of_getElem? (i := 95) rfl)) zt_wy95_tb zt_wk12_tb zt_k12_ok zt_Y zt_o95_ok zt_d95_ok, ?_⟩
  refine List.forall_mem_cons.mpr ⟨xw_one (kds := zt_kds) (zt_wcd_tb _ (List.mem_of_getElem? (i := 96) rfl)) zt_wy96_tb zt_wk12_tb zt_k12_ok zt_Y zt_o96_ok zt_d96_ok, ?_⟩
  refine List.forall_mem_cons.mpr ⟨xw_one (kds := zt_kds) (zt_wcd_tb _ (List.mem_of_getElem? (i := 97) rfl)) zt_wy97_tb zt_wk12_tb zt_k12_ok zt_Y zt_o97_ok zt_d97_ok, ?_⟩
  refine List.forall_mem_cons.mpr ⟨xw_one (kds := zt_kds) (zt_wcd_tb _ (List.mem_of_getElem? (i := 98) rfl)) zt_wy98_tb zt_wk12_tb zt_k12_ok zt_Y zt_o98_ok zt_d98_ok, ?_⟩
  refine List.forall_mem_cons.mpr ⟨xw_one (kds := zt_kds) (zt_wcd_tb _ (List.mem_of_getElem? (i := 99) rfl)) zt_wy99_tb zt_wk12_tb zt_k12_ok zt_Y zt_o99_ok zt_d99_ok, ?_⟩
  refine List.forall_mem_cons.mpr ⟨xw_one (kds := zt_kds) (zt_wcd_tb _ (List.mem_of_getElem? (i := 100) rfl)) zt_wy100_tb zt_wk12_tb zt_k12_ok zt_Y zt_o100_ok zt_d100_ok, ?_⟩
  refine List.forall_mem_cons.mpr ⟨xw_one (kds := zt_kds) (zt_wcd_tb _ (List.mem_of_getElem? (i := 101) rfl)) zt_wy101_tb zt_wk12_tb zt_k12_ok zt_Y zt_o101_ok zt_d101_ok, ?_⟩
  refine List.forall_mem_cons.mpr ⟨xw_one (kds := zt_kds) (zt_wcd_tb _ (List.mem_of_getElem? (i := 102) rfl)) zt_wy102_tb zt_wk12_tb zt_k12_ok zt_Y zt_o102_ok zt_d102_ok, ?_⟩
  refine List.forall_mem_cons.mpr ⟨xw_one (kds := zt_kds) (zt_wcd_tb _ (List.mem_of_getElem? (i := 103) rfl)) zt_wy103_tb zt_wk12_tb zt_k12_ok zt_Y zt_o103_ok zt_d103_ok, ?_⟩
  refine List.forall_mem_cons.mpr ⟨xw_one (kds := zt_kds) (zt_wcd_tb _ (List.mem_of_getElem? (i := 104) rfl)) zt_wy104_tb zt_wk12_tb zt_k12_ok zt_Y zt_o104_ok zt_d104_ok, ?_⟩
  refine List.forall_mem_cons.mpr ⟨xw_one (kds := zt_kds) (zt_wcd_tb _ (List.mem_of_getElem? (i := 105) rfl)) zt_wy105_tb zt_wk12_tb zt_k12_ok zt_Y zt_o105_ok zt_d105_ok, ?_⟩
  refine List.forall_mem_cons.mpr ⟨xw_one (kds := zt_kds) (zt_wcd_tb _ (List.mem_of_getElem? (i := 106) rfl)) zt_wy106_tb zt_wk12_tb zt_k12_ok zt_Y zt_o106_ok zt_d106_ok, ?_⟩
  refine List.forall_mem_cons.mpr ⟨xw_one (kds := zt_kds) (zt_wcd_tb _ (List.mem_of_getElem? (i := 107) rfl)) zt_wy107_tb zt_wk12_tb zt_k12_ok zt_Y zt_o107_ok zt_d107_ok, ?_⟩
  refine List.forall_mem_cons.mpr ⟨xw_one (kds := zt_kds) (zt_wcd_tb _ (List.mem_of_getElem? (i := 108) rfl)) zt_wy108_tb zt_wk12_tb zt_k12_ok zt_Y zt_o108_ok zt_d108_ok, ?_⟩
  refine List.forall_mem_cons.mpr ⟨xw_one (kds := zt_kds) (zt_wcd_tb _ (List.mem_of_getElem? (i := 109) rfl)) zt_wy109_tb zt_wk12_tb zt_k12_ok zt_Y zt_o109_ok zt_d109_ok, ?_⟩
  refine List.forall_mem_cons.mpr ⟨xw_one (kds := zt_kds) (zt_wcd_tb _ (List.mem_of_getElem? (i := 110) rfl)) zt_wy110_tb zt_wk12_tb zt_k12_ok zt_Y zt_o110_ok zt_d110_ok, ?_⟩
  refine List.forall_mem_cons.mpr ⟨xw_one (kds := zt_kds) (zt_wcd_tb _ (List.mem_of_getElem? (i := 111) rfl)) zt_wy111_tb zt_wk12_tb zt_k12_ok zt_Y zt_o111_ok zt_d111_ok, ?_⟩
  refine List.forall_mem_cons.mpr ⟨xw_one (kds := zt_kds) (zt_wcd_tb _ (List.mem_of_getElem? (i := 112) rfl)) zt_wy112_tb zt_wk12_tb zt_k12_ok zt_Y zt_o112_ok zt_d112_ok, ?_⟩
  refine List.forall_mem_cons.mpr ⟨xw_one (kds := zt_kds) (zt_wcd_tb _ (List.mem_of_getElem? (i := 113) rfl)) zt_wy113_tb zt_wk12_tb zt_k12_ok zt_Y zt_o113_ok zt_d113_ok, ?_⟩
  refine List.forall_mem_cons.mpr ⟨xw_one (kds := zt_kds) (zt_wcd_tb _ (List.mem_of_getElem? (i := 114) rfl)) zt_wy114_tb zt_wk12_tb zt_k12_ok zt_Y zt_o114_ok zt_d114_ok, ?_⟩
  refine List.forall_mem_cons.mpr ⟨xw_one (kds := zt_kds) (zt_wcd_tb _ (List.mem_of_getElem? (i := 115) rfl)) zt_wy115_tb zt_wk12_tb zt_k12_ok zt_Y zt_o115_ok zt_d115_ok, ?_⟩
  refine List.forall_mem_cons.mpr ⟨xw_one (kds := zt_kds) (zt_wcd_tb _ (List.mem_of_getElem? (i := 116) rfl)) zt_wy116_tb zt_wk12_tb zt_k12_ok zt_Y zt_o116_ok zt_d116_ok, ?_⟩
  refine List.forall_mem_cons.mpr ⟨xw_one (kds := zt_kds) (zt_wcd_tb _ (List.mem_of_getElem? (i := 117) rfl)) zt_wy117_tb zt_wk12_tb zt_k12_ok zt_Y zt_o117_ok zt_d117_ok, ?_⟩
  refine List.forall_mem_cons.mpr ⟨xw_one (kds := zt_kds) (zt_wcd_tb _ (List.mem_of_getElem? (i := 118) rfl)) zt_wy118_tb zt_wk12_tb zt_k12_ok zt_Y zt_o118_ok zt_d118_ok, ?_⟩
  refine List.forall_mem_cons.mpr ⟨xw_one (kds := zt_kds) (zt_wcd_tb _ (List.mem_of_getElem? (i := 119) rfl)) zt_wy119_tb zt_wk12_tb zt_k12_ok zt_Y zt_o119_ok zt_d119_ok, ?_⟩
  refine List.forall_mem_cons.mpr ⟨xw_one (kds := zt_kds) (zt_wcd_tb _ (List.mem_of_getElem? (i := 120) rfl)) zt_wy120_tb zt_wk12_tb zt_k12_ok zt_Y zt_o120_ok zt_d120_ok, ?_⟩
  refine List.forall_mem_cons.mpr ⟨xw_one (kds := zt_kds) (zt_wcd_tb _ (List.mem_of_getElem? (i := 121) rfl)) zt_wy121_tb zt_wk12_tb zt_k12_ok zt_Y zt_o121_ok zt_d121_ok, ?_⟩
  refine List.forall_mem_cons.mpr ⟨xw_one (kds := zt_kds) (zt_wcd_tb _ (List.mem_of_getElem? (i := 122) rfl)) zt_wy122_tb zt_wk12_tb zt_k12_ok zt_Y zt_o122_ok zt_d122_ok, ?_⟩
  refine List.forall_mem_cons.mpr ⟨xw_one (kds := zt_kds) (zt_wcd_tb _ (List.mem_of_getElem? (i := 123) rfl)) zt_wy123_tb zt_wk12_tb zt_k12_ok zt_Y zt_o123_ok zt_d123_ok, ?_⟩
  refine List.forall_mem_cons.mpr ⟨xw_one (kds := zt_kds) (zt_wcd_tb _ (List.mem_of_getElem? (i := 124) rfl)) zt_wy124_tb zt_wk12_tb zt_k12_ok zt_Y zt_o124_ok zt_d124_ok, ?_⟩
  refine List.forall_mem_cons.mpr ⟨xw_one (kds := zt_kds) (zt_wcd_tb _ (List.mem_of_getElem? (i := 125) rfl)) zt_wy125_tb zt_wk12_tb zt_k12_ok zt_Y zt_o125_ok zt_d125_ok, ?_⟩
  refine List.forall_mem_cons.mpr ⟨xw_one (kds := zt_kds) (zt_wcd_tb _ (List.mem_of_getElem? (i := 126) rfl)) zt_wy126_tb zt_wk12_tb zt_k12_ok zt_Y zt_o126_ok zt_d126_ok, ?_⟩
  refine List.forall_mem_cons.mpr ⟨xw_one (kds := zt_kds) (zt_wcd_tb _ (List.mem_of_getElem? (i := 127) rfl)) zt_wy127_tb zt_wk12_tb zt_k12_ok zt_Y zt_o127_ok zt_d127_ok, ?_⟩
  refine List.forall_mem_cons.mpr ⟨xw_one (kds := zt_kds) (zt_wcd_tb _ (List.mem_of_getElem? (i := 128) rfl)) zt_wy128_tb zt_wk12_tb zt_k12_ok zt_Y zt_o128_ok zt_d128_ok, ?_⟩
  refine List.forall_mem_cons.mpr ⟨xw_one (kds := zt_kds) (zt_wcd_tb _ (List.mem_of_getElem? (i := 129) rfl)) zt_wy129_tb zt_wk12_tb zt_k12_ok zt_Y zt_o129_ok zt_d129_ok, ?_⟩
  refine List.forall_mem_cons.mpr ⟨xw_one (kds := zt_kds) (zt_wcd_tb _ (List.mem_of_getElem? (i := 130) rfl)) zt_wy130_tb zt_wk12_tb zt_k12_ok zt_Y zt_o130_ok zt_d130_ok, ?_⟩
  refine List.forall_mem_cons.mpr ⟨xw_one (kds := zt_kds) (zt_wcd_tb _ (List.mem_of_getElem? (i := 131) rfl)) zt_wy131_tb zt_wk12_tb zt_k12_ok zt_Y zt_o131_ok zt_d131_ok, ?_⟩
  refine List.forall_mem_cons.mpr ⟨xw_one (kds := zt_kds) (zt_wcd_tb _ (List.mem_of_getElem? (i := 132) rfl)) zt_wy132_tb zt_wk12_tb zt_k12_ok zt_Y zt_o132_ok zt_d132_ok, ?_⟩
  refine List.forall_mem_cons.mpr ⟨xw_one (kds := zt_kds) (zt_wcd_tb _ (List.mem_of_getElem? (i := 133) rfl)) zt_wy133_tb zt_wk12_tb zt_k12_ok zt_Y zt_o133_ok zt_d133_ok, ?_⟩
  refine List.forall_mem_cons.mpr ⟨xw_one (kds := zt_kds) (zt_wcd_tb _ (List.mem_of_getElem? (i := 134) rfl)) zt_wy134_tb zt_wk12_tb zt_k12_ok zt_Y zt_o134_ok zt_d134_ok, ?_⟩
  refine List.forall_mem_cons.mpr ⟨xw_one (kds := zt_kds) (zt_wcd_tb _ (List.mem_of_getElem? (i := 135) rfl)) zt_wy135_tb zt_wk12_tb zt_k12_ok zt_Y zt_o135_ok zt_d135_ok, ?_⟩
  refine List.forall_mem_cons.mpr ⟨xw_one (kds := zt_kds) (zt_wcd_tb _ (List.mem_of_getElem? (i := 136) rfl)) zt_wy136_tb zt_wk12_tb zt_k12_ok zt_Y zt_o136_ok zt_d136_ok, ?_⟩
  refine List.forall_mem_cons.mpr ⟨xw_one (kds := zt_kds) (zt_wcd_tb _ (List.mem_of_getElem? (i := 137) rfl)) zt_wy137_tb zt_wk12_tb zt_k12_ok zt_Y zt_o137_ok zt_d137_ok, ?_⟩
  refine List.forall_mem_cons.mpr ⟨xw_one (kds := zt_kds) (zt_wcd_tb _ (List.mem_of_getElem? (i := 138) rfl)) zt_wy138_tb zt_wk12_tb zt_k12_ok zt_Y zt_o138_ok zt_d138_ok, ?_⟩
  refine List.forall_mem_cons.mpr ⟨xw_one (kds := zt_kds) (zt_wcd_tb _ (List.mem_of_getElem? (i := 139) rfl)) zt_wy139_tb zt_wk12_tb zt_k12_ok zt_Y zt_o139_ok zt_d139_ok, ?_⟩
  refine List.forall_mem_cons.mpr ⟨xw_one (kds := zt_kds) (zt_wcd_tb _ (List.mem_of_getElem? (i := 140) rfl)) zt_wy140_tb zt_wk12_tb zt_k12_ok zt_Y zt_o140_ok zt_d140_ok, ?_⟩
  refine List.forall_mem_cons.mpr ⟨xw_one (kds := zt_kds) (zt_wcd_tb _ (List.mem_of_getElem? (i := 141) rfl)) zt_wy141_tb zt_wk12_tb zt_k12_ok zt_Y zt_o141_ok zt_d141_ok, ?_⟩
  refine List.forall_mem_cons.mpr ⟨xw_one (kds := zt_kds) (zt_wcd_tb _ (List.mem_of_getElem? (i := 142) rfl)) zt_wy142_tb zt_wk12_tb zt_k12_ok zt_Y zt_o142_ok zt_d142_ok, ?_⟩
  refine List.forall_mem_cons.mpr ⟨xw_one (kds := zt_kds) (zt_wcd_tb _ (List.mem_of_getElem? (i := 143) rfl)) zt_wy143_tb zt_wk12_tb zt_k12_ok zt_Y zt_o143_ok zt_d143_ok, ?_⟩
  refine List.forall_mem_cons.mpr ⟨xw_one (kds := zt_kds) (zt_wcd_tb _ (List.mem_of_getElem? (i := 144) rfl)) zt_wy144_tb zt_wk12_tb zt_k12_ok zt_Y zt_o144_ok zt_d144_ok, ?_⟩
  refine List.forall_mem_cons.mpr ⟨xw_one (kds := zt_kds) (zt_wcd_tb _ (List.mem_of_getElem? (i := 145) rfl)) zt_wy145_tb zt_wk12_tb zt_k12_ok zt_Y zt_o145_ok zt_d145_ok, ?_⟩
  refine List.forall_mem_cons.mpr ⟨xw_one (kds := zt_kds) (zt_wcd_tb _ (List.mem_of_getElem? (i := 146) rfl)) zt_wy146_tb zt_wk12_tb zt_k12_ok zt_Y zt_o146_ok zt_d146_ok, ?_⟩
  refine List.forall_mem_cons.mpr ⟨xw_one (kds := zt_kds) (zt_wcd_tb _ (List.mem_of_getElem? (i := 147) rfl)) zt_wy147_tb zt_wk12_tb zt_k12_ok zt_Y zt_o147_ok zt_d147_ok, ?_⟩
  refine List.forall_mem_cons.mpr ⟨xw_one (kds := zt_kds) (zt_wcd_tb _ (List.mem_of_getElem? (i := 148) rfl)) zt_wy148_tb zt_wk12_tb zt_k12_ok zt_Y zt_o148_ok zt_d148_ok, ?_⟩
  refine List.forall_mem_cons.mpr ⟨xw_one (kds := zt_kds) (zt_wcd_tb _ (List.mem_of_getElem? (i := 149) rfl)) zt_wy149_tb zt_wk12_tb zt_k12_ok zt_Y zt_o149_ok zt_d149_ok, ?_⟩
  refine List.forall_mem_cons.mpr ⟨xw_one (kds := zt_kds) (zt_wcd_tb _ (List.mem_of_getElem? (i := 150) rfl)) zt_wy150_tb zt_wk12_tb zt_k12_ok zt_Y zt_o150_ok zt_d150_ok, ?_⟩
  refine List.forall_mem_cons.mpr ⟨xw_one (kds := zt_kds) (zt_wcd_tb _ (List.mem_of_getElem? (i := 151) rfl)) zt_wy151_tb zt_wk12_tb zt_k12_ok zt_Y zt_o151_ok zt_d151_ok, ?_⟩
  refine List.forall_mem_cons.mpr ⟨xw_one (kds := zt_kds) (zt_wcd_tb _ (List.mem_of_getElem? (i := 152) rfl)) zt_wy152_tb zt_wk12_tb zt_k12_ok zt_Y zt_o152_ok zt_d152_ok, ?_⟩
  refine List.forall_mem_cons.mpr ⟨xw_one (kds := zt_kds) (zt_wcd_tb _ (List.mem_of_getElem? (i := 153) rfl)) zt_wy153_tb zt_wk12_tb zt_k12_ok zt_Y zt_o153_ok zt_d153_ok, ?_⟩
  refine List.forall_mem_cons.mpr ⟨xw_one (kds := zt_kds) (zt_wcd_tb _ (List.mem_of_getElem? (i := 154) rfl)) zt_wy154_tb zt_wk12_tb zt_k12_ok zt_Y zt_o154_ok zt_d154_ok, ?_⟩
  refine List.forall_mem_cons.mpr ⟨xw_one (kds := zt_kds) (zt_wcd_tb _ (List.mem_of_getElem? (i := 155) rfl)) zt_wy155_tb zt_wk12_tb zt_k12_ok zt_Y zt_o155_ok zt_d155_ok, ?_⟩
  refine List.forall_mem_cons.mpr ⟨xw_one (kds := zt_kds) (zt_wcd_tb _ (List.mem_of_getElem? (i := 156) rfl)) zt_wy156_tb zt_wk12_tb zt_k12_ok zt_Y zt_o156_ok zt_d156_ok, ?_⟩
  refine List.forall_mem_cons.mpr ⟨xw_one (kds := zt_kds) (zt_wcd_tb _ (List.mem_of_getElem? (i := 157) rfl)) zt_wy157_tb zt_wk12_tb zt_k12_ok zt_Y zt_o157_ok zt_d157_ok, ?_⟩
  refine List.forall_mem_cons.mpr ⟨xw_one (kds := zt_kds) (zt_wcd_tb _ (List.mem_of_getElem? (i := 158) rfl)) zt_wy158_tb zt_wk12_tb zt_k12_ok zt_Y zt_o158_ok zt_d158_ok, ?_⟩
  refine List.forall_mem_cons.mpr ⟨xw_one (kds := zt_kds) (zt_wcd_tb _ (List.mem_of_getElem? (i := 159) rfl)) zt_wy159_tb zt_wk12_tb zt_k12_ok zt_Y zt_o159_ok zt_d159_ok, ?_⟩
  refine List.forall_mem_cons.mpr ⟨xw_one (kds := zt_kds) (zt_wcd_tb _ (List.mem_of_getElem? (i := 160) rfl)) zt_wy160_tb zt_wk12_tb zt_k12_ok zt_Y zt_o160_ok zt_d160_ok, ?_⟩
  refine List.forall_mem_cons.mpr ⟨xw_one (kds := zt_kds) (zt_wcd_tb _ (List.mem_of_getElem? (i := 161) rfl)) zt_wy161_tb zt_wk12_tb zt_k12_ok zt_Y zt_o161_ok zt_d161_ok, ?_⟩
  refine List.forall_mem_cons.mpr ⟨xw_one (kds := zt_kds) (zt_wcd_tb _ (List.mem_of_getElem? (i := 162) rfl)) zt_wy162_tb zt_wk12_tb zt_k12_ok zt_Y zt_o162_ok zt_d162_ok, ?_⟩
  refine List.forall_mem_cons.mpr ⟨xw_one (kds := zt_kds) (zt_wcd_tb _ (List.mem_of_getElem? (i := 163) rfl)) zt_wy163_tb zt_wk12_tb zt_k12_ok zt_Y zt_o163_ok zt_d163_ok, ?_⟩
  refine List.forall_mem_cons.mpr ⟨xw_one (kds := zt_kds) (zt_wcd_tb _ (List.mem_of_getElem? (i := 164) rfl)) zt_wy164_tb zt_wk12_tb zt_k12_ok zt_Y zt_o164_ok zt_d164_ok, ?_⟩
  refine List.forall_mem_cons.mpr ⟨xw_one (kds := zt_kds) (zt_wcd_tb _ (List.mem_of_getElem? (i := 165) rfl)) zt_wy165_tb zt_wk12_tb zt_k12_ok zt_Y zt_o165_ok zt_d165_ok, ?_⟩
  refine List.forall_mem_cons.mpr ⟨xw_one (kds := zt_kds) (zt_wcd_tb _ (List.mem_of_getElem? (i := 166) rfl)) zt_wy166_tb zt_wk12_tb zt_k12_ok zt_Y zt_o166_ok zt_d166_ok, ?_⟩
  refine List.forall_mem_cons.mpr ⟨xw_one (kds := zt_kds) (zt_wcd_tb _ (List.mem_of_getElem? (i := 167) rfl)) zt_wy167_tb zt_wk12_tb zt_k12_ok zt_Y zt_o167_ok zt_d167_ok, ?_⟩
  refine List.forall_mem_cons.mpr ⟨xw_one (kds := zt_kds) (zt_wcd_tb _ (List.mem_of_getElem? (i := 168) rfl)) zt_wy168_tb zt_wk12_tb zt_k12_ok zt_Y zt_o168_ok zt_d168_ok, ?_⟩
  refine List.forall_mem_cons.mpr ⟨xw_one (kds := zt_kds) (zt_wcd_tb _ (List.mem_of_getElem? (i := 169) rfl)) zt_wy169_tb zt_wk12_tb zt_k12_ok zt_Y zt_o169_ok zt_d169_ok, ?_⟩
  refine List.forall_mem_cons.mpr ⟨xw_one (kds := zt_kds) (zt_wcd_tb _ (List.mem_of_getElem? (i := 170) rfl)) zt_wy170_tb zt_wk12_tb zt_k12_ok zt_Y zt_o170_ok zt_d170_ok, ?_⟩
  refine List.forall_mem_cons.mpr ⟨xw_one (kds := zt_kds) (zt_wcd_tb _ (List.mem_of_getElem? (i := 171) rfl)) zt_wy171_tb zt_wk12_tb zt_k12_ok zt_Y zt_o171_ok zt_d171_ok, ?_⟩
  refine List.forall_mem_cons.mpr ⟨xw_one (kds := zt_kds) (zt_wcd_tb _ (List.mem_of_getElem? (i := 172) rfl)) zt_wy172_tb zt_wk12_tb zt_k12_ok zt_Y zt_o172_ok zt_d172_ok, ?_⟩
  refine List.forall_mem_cons.mpr ⟨xw_one (kds := zt_kds) (zt_wcd_tb _ (List.mem_of_getElem? (i := 173) rfl)) zt_wy173_tb zt_wk12_tb zt_k12_ok zt_Y zt_o173_ok zt_d173_ok, ?_⟩
  refine List.forall_mem_cons.mpr ⟨xw_one (kds := zt_kds) (zt_wcd_tb _ (List.mem_of_getElem? (i := 174) rfl)) zt_wy174_tb zt_wk12_tb zt_k12_ok zt_Y zt_o174_ok zt_d174_ok, ?_⟩
  refine List.forall_mem_cons.mpr ⟨xw_one (kds := zt_kds) (zt_wcd_tb _ (List.mem_of_getElem? (i := 175) rfl)) zt_wy175_tb zt_wk12_tb zt_k12_ok zt_Y zt_o175_ok zt_d175_ok, ?_⟩
  refine List.forall_mem_cons.mpr ⟨xw_one (kds := zt_kds) (zt_wcd_tb _ (List.mem_of_getElem? (i := 176) rfl)) zt_wy176_tb zt_wk12_tb zt_k12_ok zt_Y zt_o176_ok zt_d176_ok, ?_⟩
  refine List.forall_mem_cons.mpr ⟨xw_one (kds := zt_kds) (zt_wcd_tb _ (List.mem_of_getElem? (i := 177) rfl)) zt_wy177_tb zt_wk12_tb zt_k12_ok zt_Y zt_o177_ok zt_d177_ok, ?_⟩
  refine List.forall_mem_cons.mpr ⟨xw_one (kds := zt_kds) (zt_wcd_tb _ (List.mem_of_getElem? (i := 178) rfl)) zt_wy178_tb zt_wk12_tb zt_k12_ok zt_Y zt_o178_ok zt_d178_ok, ?_⟩
  refine List.forall_mem_cons.mpr ⟨xw_one (kds := zt_kds) (zt_wcd_tb _ (List.mem_of_getElem? (i := 179) rfl)) zt_wy179_tb zt_wk12_tb zt_k12_ok zt_Y zt_o179_ok zt_d179_ok, ?_⟩
  refine List.forall_mem_cons.mpr ⟨xw_one (kds := zt_kds) (zt_wcd_tb _ (List.mem_of_getElem? (i := 180) rfl)) zt_wy180_tb zt_wk12_tb zt_k12_ok zt_Y zt_o180_ok zt_d180_ok, ?_⟩
  refine List.forall_mem_cons.mpr ⟨xw_one (kds := zt_kds) (zt_wcd_tb _ (List.mem_of_getElem? (i := 181) rfl)) zt_wy181_tb zt_wk12_tb zt_k12_ok zt_Y zt_o181_ok zt_d181_ok, ?_⟩
  refine List.forall_mem_cons.mpr ⟨xw_one (kds := zt_kds) (zt_wcd_tb _ (List.mem_of_getElem? (i := 182) rfl)) zt_wy182_tb zt_wk12_tb zt_k12_ok zt_Y zt_o182_ok zt_d182_ok, ?_⟩
  refine List.forall_mem_cons.mpr ⟨xw_one (kds := zt_kds) (zt_wcd_tb _ (List.mem_of_getElem? (i := 183) rfl)) zt_wy183_tb zt_wk12_tb zt_k12_ok zt_Y zt_o183_ok zt_d183_ok, ?_⟩
  refine List.forall_mem_cons.mpr ⟨xw_one (kds := zt_kds) (zt_wcd_tb _ (List.mem_of_getElem? (i := 184) rfl)) zt_wy184_tb zt_wk12_tb zt_k12_ok zt_Y zt_o184_ok zt_d184_ok, ?_⟩
  refine List.forall_mem_cons.mpr ⟨xw_one (kds := zt_kds) (zt_wcd_tb _ (List.mem_of_getElem? (i := 185) rfl)) zt_wy185_tb zt_wk12_tb zt_k12_ok zt_Y zt_o185_ok zt_d185_ok, ?_⟩
  refine List.forall_mem_cons.mpr ⟨xw_one (kds := zt_kds) (zt_wcd_tb _ (List.mem_of_getElem? (i := 186) rfl)) zt_wy186_tb zt_wk12_tb zt_k12_ok zt_Y zt_o186_ok zt_d186_ok, ?_⟩
  refine List.forall_mem_cons.mpr ⟨xw_one (kds := zt_kds) (zt_wcd_tb _ (List.mem_of_getElem? (i := 187) rfl)) zt_wy187_tb zt_wk12_tb zt_k12_ok zt_Y zt_o187_ok zt_d187_ok, ?_⟩
  refine List.forall_mem_cons.mpr ⟨xw_one (kds := zt_kds) (zt_wcd_tb _ (List.mem_of_getElem? (i := 188) rfl)) zt_wy188_tb zt_wk12_tb zt_k12_ok zt_Y zt_o188_ok zt_d188_ok, ?_⟩
  refine List.forall_mem_cons.mpr ⟨xw_one (kds := zt_kds) (zt_wcd_tb _ (List.mem_of_getElem? (i := 189) rfl)) zt_wy189_tb zt_wk12_tb zt_k12_ok zt_Y zt_o189_ok zt_d189_ok, ?_⟩
  refine List.forall_mem_cons.mpr ⟨xw_one (kds := zt_kds) (zt_wcd_tb _ (List.mem_of_getElem? (i := 190) rfl)) zt_wy190_tb zt_wk12_tb zt_k12_ok zt_Y zt_o190_ok zt_d190_ok, ?_⟩
  refine List.forall_mem_cons.mpr ⟨xw_one (kds := zt_kds) (zt_wcd_tb _ (List.mem_of_getElem? (i := 191) rfl)) zt_wy191_tb zt_wk12_tb zt_k12_ok zt_Y zt_o191_ok zt_d191_ok, ?_⟩
  refine List.forall_mem_cons.mpr ⟨xw_one (kds := zt_kds) (zt_wcd_tb _ (List.mem_of_getElem? (i := 192) rfl)) zt_wy192_tb zt_wk12_tb zt_k12_ok zt_Y zt_o192_ok zt_d192_ok, ?_⟩
  refine List.forall_mem_cons.mpr ⟨xw_one (kds := zt_kds) (zt_wcd_tb _ (List.mem_of_getElem? (i := 193) rfl)) zt_wy193_tb zt_wk12_tb zt_k12_ok zt_Y zt_o193_ok zt_d193_ok, ?_⟩
  refine List.forall_mem_cons.mpr ⟨xw_one (kds := zt_kds) (zt_wcd_tb _ (List.mem_of_getElem? (i := 194) rfl)) zt_wy194_tb zt_wk12_tb zt_k12_ok zt_Y zt_o194_ok zt_d194_ok, ?_⟩
  refine List.forall_mem_cons.mpr ⟨xw_one (kds := zt_kds) (zt_wcd_tb _ (List.mem_of_getElem? (i := 195) rfl)) zt_wy195_tb zt_wk12_tb zt_k12_ok zt_Y zt_o195_ok zt_d195_ok, ?_⟩
  refine List.forall_mem_cons.mpr ⟨xw_one (kds := zt_kds) (zt_wcd_tb _ (List.mem_of_getElem? (i := 196) rfl)) zt_wy196_tb zt_wk0_tb zt_k0_ok zt_Y zt_o196_ok zt_d196_ok, ?_⟩
  refine List.forall_mem_cons.mpr ⟨xw_one (kds := zt_kds) (zt_wcd_tb _ (List.mem_of_getElem? (i := 197) rfl)) zt_wy197_tb zt_wk1_tb zt_k1_ok zt_Y zt_o197_ok zt_d197_ok, ?_⟩
  refine List.forall_mem_cons.mpr ⟨xw_one (kds := zt_kds) (zt_wcd_tb _ (List.mem_of_getElem? (i := 198) rfl)) zt_wy198_tb zt_wk2_tb zt_k2_ok zt_Y zt_o198_ok zt_d198_ok, ?_⟩
  refine List.forall_mem_cons.mpr ⟨xw_one (kds := zt_kds) (zt_wcd_tb _ (List.mem_of_getElem? (i := 199) rfl)) zt_wy199_tb zt_wk2_tb zt_k2_ok zt_Y zt_o199_ok zt_d199_ok, ?_⟩
  refine List.forall_mem_cons.mpr ⟨xw_one (kds := zt_kds) (zt_wcd_tb _ (List.mem_of_getElem? (i := 200) rfl)) zt_wy200_tb zt_wk2_tb zt_k2_ok zt_Y zt_o200_ok zt_d200_ok, ?_⟩
  refine List.forall_mem_cons.mpr ⟨xw_one (kds := zt_kds) (zt_wcd_tb _ (List.mem_of_getElem? (i := 201) rfl)) zt_wy201_tb zt_wk2_tb zt_k2_ok zt_Y zt_o201_ok zt_d201_ok, ?_⟩
  refine List.forall_mem_cons.mpr ⟨xw_one (kds := zt_kds) (zt_wcd_tb _ (List.mem_of_getElem? (i := 202) rfl)) zt_wy202_tb zt_wk2_tb zt_k2_ok zt_Y zt_o202_ok zt_d202_ok, ?_⟩
  refine List.forall_mem_cons.mpr ⟨xw_one (kds := zt_kds) (zt_wcd_tb _ (List.mem_of_getElem? (i := 203) rfl)) zt_wy203_tb zt_wk2_tb zt_k2_ok zt_Y zt_o203_ok zt_d203_ok, ?_⟩
  refine List.forall_mem_cons.mpr ⟨xw_one (kds := zt_kds) (zt_wcd_tb _ (List.mem_of_getElem? (i := 204) rfl)) zt_wy204_tb zt_wk2_tb zt_k2_ok zt_Y zt_o204_ok zt_d204_ok, ?_⟩
  refine List.forall_mem_cons.mpr ⟨xw_one (kds := zt_kds) (zt_wcd_tb _ (List.mem_of_getElem? (i := 205) rfl)) zt_wy205_tb zt_wk2_tb zt_k2_ok zt_Y zt_o205_ok zt_d205_ok, ?_⟩
  refine List.forall_mem_cons.mpr ⟨xw_one (kds := zt_kds) (zt_wcd_tb _ (List.mem_of_getElem? (i := 206) rfl)) zt_wy206_tb zt_wk2_tb zt_k2_ok zt_Y zt_o206_ok zt_d206_ok, ?_⟩
  refine List.forall_mem_cons.mpr ⟨xw_one (kds := zt_kds) (zt_wcd_tb _ (List.mem_of_getElem? (i := 207) rfl)) zt_wy207_tb zt_wk3_tb zt_k3_ok zt_Y zt_o207_ok zt_d207_ok, ?_⟩
  refine List.forall_mem_cons.mpr ⟨xw_one (kds := zt_kds) (zt_wcd_tb _ (List.mem_of_getElem? (i := 208) rfl)) zt_wy208_tb zt_wk3_tb zt_k3_ok zt_Y zt_o208_ok zt_d208_ok, ?_⟩
  refine List.forall_mem_cons.mpr ⟨xw_one (kds := zt_kds) (zt_wcd_tb _ (List.mem_of_getElem? (i := 209) rfl)) zt_wy209_tb zt_wk3_tb zt_k3_ok zt_Y zt_o209_ok zt_d209_ok, ?_⟩
  refine List.forall_mem_cons.mpr ⟨xw_one (kds := zt_kds) (zt_wcd_tb _ (List.mem_of_getElem? (i := 210) rfl)) zt_wy210_tb zt_wk4_tb zt_k4_ok zt_Y zt_o210_ok zt_d210_ok, ?_⟩
  refine List.forall_mem_cons.mpr ⟨xw_one (kds := zt_kds) (zt_wcd_tb _ (List.mem_of_getElem? (i := 211) rfl)) zt_wy211_tb zt_wk4_tb zt_k4_ok zt_Y zt_o211_ok zt_d211_ok, ?_⟩
  refine List.forall_mem_cons.mpr ⟨xw_one (kds := zt_kds) (zt_wcd_tb _ (List.mem_of_getElem? (i := 212) rfl)) zt_wy212_tb zt_wk4_tb zt_k4_ok zt_Y zt_o212_ok zt_d212_ok, ?_⟩
  refine List.forall_mem_cons.mpr ⟨xw_one (kds := zt_kds) (zt_wcd_tb _ (List.mem_of_getElem? (i := 213) rfl)) zt_wy213_tb zt_wk4_tb zt_k4_ok zt_Y zt_o213_ok zt_d213_ok, ?_⟩
  refine List.forall_mem_cons.mpr ⟨xw_one (kds := zt_kds) (zt_wcd_tb _ (List.mem_of_getElem? (i := 214) rfl)) zt_wy214_tb zt_wk4_tb zt_k4_ok zt_Y zt_o214_ok zt_d214_ok, ?_⟩
  refine List.forall_mem_cons.mpr ⟨xw_one (kds := zt_kds) (zt_wcd_tb _ (List.mem_of_getElem? (i := 215) rfl)) zt_wy215_tb zt_wk4_tb zt_k4_ok zt_Y zt_o215_ok zt_d215_ok, ?_⟩
  refine List.forall_mem_cons.mpr ⟨xw_one (kds := zt_kds) (zt_wcd_tb _ (List.mem_of_getElem? (i := 216) rfl)) zt_wy216_tb zt_wk4_tb zt_k4_ok zt_Y zt_o216_ok zt_d216_ok, ?_⟩
  refine List.forall_mem_cons.mpr ⟨xw_one (kds := zt_kds) (zt_wcd_tb _ (List.mem_of_getElem? (i := 217) rfl)) zt_wy217_tb zt_wk4_tb zt_k4_ok zt_Y zt_o217_ok zt_d217_ok, ?_⟩
  refine List.forall_mem_cons.mpr ⟨xw_one (kds := zt_kds) (zt_wcd_tb _ (List.mem_of_getElem? (i := 218) rfl)) zt_wy218_tb zt_wk4_tb zt_k4_ok zt_Y zt_o218_ok zt_d218_ok, ?_⟩
  refine List.forall_mem_cons.mpr ⟨xw_one (kds := zt_kds) (zt_wcd_tb _ (List.mem_of_getElem? (i := 219) rfl)) zt_wy219_tb zt_wk4_tb zt_k4_ok zt_Y zt_o219_ok zt_d219_ok, ?_⟩
  refine List.forall_mem_cons.mpr ⟨xw_one (kds := zt_kds) (zt_wcd_tb _ (List.mem_of_getElem? (i := 220) rfl)) zt_wy220_tb zt_wk4_tb zt_k4_ok zt_Y zt_o220_ok zt_d220_ok, ?_⟩
  refine List.forall_mem_cons.mpr ⟨xw_one (kds := zt_kds) (zt_wcd_tb _ (List.mem_of_getElem? (i := 221) rfl)) zt_wy221_tb zt_wk4_tb zt_k4_ok zt_Y zt_o221_ok zt_d221_ok, ?_⟩
  refine List.forall_mem_cons.mpr ⟨xw_one (kds := zt_kds) (zt_wcd_tb _ (List.mem_of_getElem? (i := 222) rfl)) zt_wy222_tb zt_wk4_tb zt_k4_ok zt_Y zt_o222_ok zt_d222_ok, ?_⟩
  refine List.forall_mem_cons.mpr ⟨xw_one (kds := zt_kds) (zt_wcd_tb _ (List.mem_of_getElem? (i := 223) rfl)) zt_wy223_tb zt_wk4_tb zt_k4_ok zt_Y zt_o223_ok zt_d223_ok, ?_⟩
  refine List.forall_mem_cons.mpr ⟨xw_one (kds := zt_kds) (zt_wcd_tb _ (List.mem_of_getElem? (i := 224) rfl)) zt_wy224_tb zt_wk4_tb zt_k4_ok zt_Y zt_o224_ok zt_d224_ok, ?_⟩
  refine List.forall_mem_cons.mpr ⟨xw_one (kds := zt_kds) (zt_wcd_tb _ (List.mem_of_getElem? (i := 225) rfl)) zt_wy225_tb zt_wk4_tb zt_k4_ok zt_Y zt_o225_ok zt_d225_ok, ?_⟩
  refine List.forall_mem_cons.mpr ⟨xw_one (kds := zt_kds) (zt_wcd_tb _ (List.mem_of_getElem? (i := 226) rfl)) zt_wy226_tb zt_wk4_tb zt_k4_ok zt_Y zt_o226_ok zt_d226_ok, ?_⟩
  refine List.forall_mem_cons.mpr ⟨xw_one (kds := zt_kds) (zt_wcd_tb _ (List.mem_of_getElem? (i := 227) rfl)) zt_wy227_tb zt_wk4_tb zt_k4_ok zt_Y zt_o227_ok zt_d227_ok, ?_⟩
  refine List.forall_mem_cons.mpr ⟨xw_one (kds := zt_kds) (zt_wcd_tb _ (List.mem_of_getElem? (i := 228) rfl)) zt_wy228_tb zt_wk4_tb zt_k4_ok zt_Y zt_o228_ok zt_d228_ok, ?_⟩
  refine List.forall_mem_cons.mpr ⟨xw_one (kds := zt_kds) (zt_wcd_tb _ (List.mem_of_getElem? (i := 229) rfl)) zt_wy229_tb zt_wk4_tb zt_k4_ok zt_Y zt_o229_ok zt_d229_ok, ?_⟩
  refine List.forall_mem_cons.mpr ⟨xw_one (kds := zt_kds) (zt_wcd_tb _ (List.mem_of_getElem? (i := 230) rfl)) zt_wy230_tb zt_wk4_tb zt_k4_ok zt_Y zt_o230_ok zt_d230_ok, ?_⟩
  refine List.forall_mem_cons.mpr ⟨xw_one (kds := zt_kds) (zt_wcd_tb _ (List.mem_of_getElem? (i := 231) rfl)) zt_wy231_tb zt_wk4_tb zt_k4_ok zt_Y zt_o231_ok zt_d231_ok, ?_⟩
  refine List.forall_mem_cons.mpr ⟨xw_one (kds := zt_kds) (zt_wcd_tb _ (List.mem_of_getElem? (i := 232) rfl)) zt_wy232_tb zt_wk4_tb zt_k4_ok zt_Y zt_o232_ok zt_d232_ok, ?_⟩
  refine List.forall_mem_cons.mpr ⟨xw_one (kds := zt_kds) (zt_wcd_tb _ (List.mem_of_getElem? (i := 233) rfl)) zt_wy233_tb zt_wk4_tb zt_k4_ok zt_Y zt_o233_ok zt_d233_ok, ?_⟩
  refine List.forall_mem_cons.mpr ⟨xw_one (kds := zt_kds) (zt_wcd_tb _ (List.mem_of_getElem? (i := 234) rfl)) zt_wy234_tb zt_wk4_tb zt_k4_ok zt_Y zt_o234_ok zt_d234_ok, ?_⟩
  refine List.forall_mem_cons.mpr ⟨xw_one (kds := zt_kds) (zt_wcd_tb _ (List.mem_of_getElem? (i := 235) rfl)) zt_wy235_tb zt_wk4_tb zt_k4_ok zt_Y zt_o235_ok zt_d235_ok, ?_⟩
  refine List.forall_mem_cons.mpr ⟨xw_one (kds := zt_kds) (zt_wcd_tb _ (List.mem_of_getElem? (i := 236) rfl)) zt_wy236_tb zt_wk4_tb zt_k4_ok zt_Y zt_o236_ok zt_d236_ok, ?_⟩
  refine List.forall_mem_cons.mpr ⟨xw_one (kds := zt_kds) (zt_wcd_tb _ (List.mem_of_getElem? (i := 237) rfl)) zt_wy237_tb zt_wk4_tb zt_k4_ok zt_Y zt_o237_ok zt_d237_ok, ?_⟩
  refine List.forall_mem_cons.mpr ⟨xw_one (kds := zt_kds) (zt_wcd_tb _ (List.mem_of_getElem? (i := 238) rfl)) zt_wy238_tb zt_wk4_tb zt_k4_ok zt_Y zt_o238_ok zt_d238_ok, ?_⟩
  refine List.forall_mem_cons.mpr ⟨xw_one (kds := zt_kds) (zt_wcd_tb _ (List.mem_of_getElem? (i := 239) rfl)) zt_wy239_tb zt_wk4_tb zt_k4_ok zt_Y zt_o239_ok zt_d239_ok, ?_⟩
  refine List.forall_mem_cons.mpr ⟨xw_one (kds := zt_kds) (zt_wcd_tb _ (List.mem_of_getElem? (i := 240) rfl)) zt_wy240_tb zt_wk4_tb zt_k4_ok zt_Y zt_o240_ok zt_d240_ok, ?_⟩
  refine List.forall_mem_cons.mpr ⟨xw_one (kds := zt_kds) (zt_wcd_tb _ (List.mem_of_getElem? (i := 241) rfl)) zt_wy241_tb zt_wk4_tb zt_k4_ok zt_Y zt_o241_ok zt_d241_ok, ?_⟩
  refine List.forall_mem_cons.mpr ⟨xw_one (kds := zt_kds) (zt_wcd_tb _ (List.mem_of_getElem? (i := 242) rfl)) zt_wy242_tb zt_wk4_tb zt_k4_ok zt_Y zt_o242_ok zt_d242_ok, ?_⟩
  refine List.forall_mem_cons.mpr ⟨xw_one (kds := zt_kds) (zt_wcd_tb _ (List.mem_of_getElem? (i := 243) rfl)) zt_wy243_tb zt_wk4_tb zt_k4_ok zt_Y zt_o243_ok zt_d243_ok, ?_⟩
  refine List.forall_mem_cons.mpr ⟨xw_one (kds := zt_kds) (zt_wcd_tb _ (List.mem_of_getElem? (i := 244) rfl)) zt_wy244_tb zt_wk5_tb zt_k5_ok zt_Y zt_o244_ok zt_d244_ok, ?_⟩
  refine List.forall_mem_cons.mpr ⟨xw_one (kds := zt_kds) (zt_wcd_tb _ (List.mem_of_getElem? (i := 245) rfl)) zt_wy245_tb zt_wk5_tb zt_k5_ok zt_Y zt_o245_ok zt_d245_ok, ?_⟩
  refine List.forall_mem_cons.mpr ⟨xw_one (kds := zt_kds) (zt_wcd_tb _ (List.mem_of_getElem? (i := 246) rfl)) zt_wy246_tb zt_wk5_tb zt_k5_ok zt_Y zt_o246_ok zt_d246_ok, ?_⟩
  refine List.forall_mem_cons.mpr ⟨xw_one (kds := zt_kds) (zt_wcd_tb _ (List.mem_of_getElem? (i := 247) rfl)) zt_wy247_tb zt_wk5_tb zt_k5_ok zt_Y zt_o247_ok zt_d247_ok, ?_⟩
  refine List.forall_mem_cons.mpr ⟨xw_one (kds := zt_kds) (zt_wcd_tb _ (List.mem_of_getElem? (i := 248) rfl)) zt_wy248_tb zt_wk5_tb zt_k5_ok zt_Y zt_o248_ok zt_d248_ok, ?_⟩
  refine List.forall_mem_cons.mpr ⟨xw_one (kds := zt_kds) (zt_wcd_tb _ (List.mem_of_getElem? (i := 249) rfl)) zt_wy249_tb zt_wk5_tb zt_k5_ok zt_Y zt_o249_ok zt_d249_ok, ?_⟩
  refine List.forall_mem_cons.mpr ⟨xw_one (kds := zt_kds) (zt_wcd_tb _ (List.mem_of_getElem? (i := 250) rfl)) zt_wy250_tb zt_wk5_tb zt_k5_ok zt_Y zt_o250_ok zt_d250_ok, ?_⟩
  refine List.forall_mem_cons.mpr ⟨xw_one (kds := zt_kds) (zt_wcd_tb _ (List.mem_of_getElem? (i := 251) rfl)) zt_wy251_tb zt_wk5_tb zt_k5_ok zt_Y zt_o251_ok zt_d251_ok, ?_⟩
  refine List.forall_mem_cons.mpr ⟨xw_one (kds := zt_kds) (zt_wcd_tb _ (List.mem_of_getElem? (i := 252) rfl)) zt_wy252_tb zt_wk5_tb zt_k5_ok zt_Y zt_o252_ok zt_d252_ok, ?_⟩
  refine List.forall_mem_cons.mpr ⟨xw_one (kds := zt_kds) (zt_wcd_tb _ (List.mem_of_getElem? (i := 253) rfl)) zt_wy253_tb zt_wk5_tb zt_k5_ok zt_Y zt_o253_ok zt_d253_ok, ?_⟩
  refine List.forall_mem_cons.mpr ⟨xw_one (kds := zt_kds) (zt_wcd_tb _ (List.mem_of_getElem? (i := 254) rfl)) zt_wy254_tb zt_wk5_tb zt_k5_ok zt_Y zt_o254_ok zt_d254_ok, ?_⟩
  refine List.forall_mem_cons.mpr ⟨xw_one (kds := zt_kds) (zt_wcd_tb _ (List.mem_of_getElem? (i := 255) rfl)) zt_wy255_tb zt_wk5_tb zt_k5_ok zt_Y zt_o255_ok zt_d255_ok, ?_⟩
  refine List.forall_mem_cons.mpr ⟨xw_one (kds := zt_kds) (zt_wcd_tb _ (List.mem_of_getElem? (i := 256) rfl)) zt_wy256_tb zt_wk5_tb zt_k5_ok zt_Y zt_o256_ok zt_d256_ok, ?_⟩
  refine List.forall_mem_cons.mpr ⟨xw_one (kds := zt_kds) (zt_wcd_tb _ (List.mem_of_getElem? (i := 257) rfl)) zt_wy257_tb zt_wk6_tb zt_k6_ok zt_Y zt_o257_ok zt_d257_ok, ?_⟩
  refine List.forall_mem_cons.mpr ⟨xw_one (kds := zt_kds) (zt_wcd_tb _ (List.mem_of_getElem? (i := 258) rfl)) zt_wy258_tb zt_wk6_tb zt_k6_ok zt_Y zt_o258_ok zt_d258_ok, ?_⟩
  refine List.forall_mem_cons.mpr ⟨xw_one (kds := zt_kds) (zt_wcd_tb _ (List.mem_of_getElem? (i := 259) rfl)) zt_wy259_tb zt_wk6_tb zt_k6_ok zt_Y zt_o259_ok zt_d259_ok, ?_⟩
  refine List.forall_mem_cons.mpr ⟨xw_one (kds := zt_kds) (zt_wcd_tb _ (List.mem_of_getElem? (i := 260) rfl)) zt_wy260_tb zt_wk6_tb zt_k6_ok zt_Y zt_o260_ok zt_d260_ok, ?_⟩
  refine List.forall_mem_cons.mpr ⟨xw_one (kds := zt_kds) (zt_wcd_tb _ (List.mem_of_getElem? (i := 261) rfl)) zt_wy261_tb zt_wk6_tb zt_k6_ok zt_Y zt_o261_ok zt_d261_ok, ?_⟩
  refine List.forall_mem_cons.mpr ⟨xw_one (kds := zt_kds) (zt_wcd_tb _ (List.mem_of_getElem? (i := 262) rfl)) zt_wy262_tb zt_wk6_tb zt_k6_ok zt_Y zt_o262_ok zt_d262_ok, ?_⟩
  refine List.forall_mem_cons.mpr ⟨xw_one (kds := zt_kds) (zt_wcd_tb _ (List.mem_of_getElem? (i := 263) rfl)) zt_wy263_tb zt_wk6_tb zt_k6_ok zt_Y zt_o263_ok zt_d263_ok, ?_⟩
  refine List.forall_mem_cons.mpr ⟨xw_one (kds := zt_kds) (zt_wcd_tb _ (List.mem_of_getElem? (i := 264) rfl)) zt_wy264_tb zt_wk6_tb zt_k6_ok zt_Y zt_o264_ok zt_d264_ok, ?_⟩
  refine List.forall_mem_cons.mpr ⟨xw_one (kds := zt_kds) (zt_wcd_tb _ (List.mem_of_getElem? (i := 265) rfl)) zt_wy265_tb zt_wk6_tb zt_k6_ok zt_Y zt_o265_ok zt_d265_ok, ?_⟩
  refine List.forall_mem_cons.mpr ⟨xw_one (kds := zt_kds) (zt_wcd_tb _ (List.mem_of_getElem? (i := 266) rfl)) zt_wy266_tb zt_wk6_tb zt_k6_ok zt_Y zt_o266_ok zt_d266_ok, ?_⟩
  refine List.forall_mem_cons.mpr ⟨xw_one (kds := zt_kds) (zt_wcd_tb _ (List.mem_of_getElem? (i := 267) rfl)) zt_wy267_tb zt_wk6_tb zt_k6_ok zt_Y zt_o267_ok zt_d267_ok, ?_⟩
  refine List.forall_mem_cons.mpr ⟨xw_one (kds := zt_kds) (zt_wcd_tb _ (List.mem_of_getElem? (i := 268) rfl)) zt_wy268_tb zt_wk6_tb zt_k6_ok zt_Y zt_o268_ok zt_d268_ok, ?_⟩
  refine List.forall_mem_cons.mpr ⟨xw_one (kds := zt_kds) (zt_wcd_tb _ (List.mem_of_getElem? (i := 269) rfl)) zt_wy269_tb zt_wk6_tb zt_k6_ok zt_Y zt_o269_ok zt_d269_ok, ?_⟩
  refine List.forall_mem_cons.mpr ⟨xw_one (kds := zt_kds) (zt_wcd_tb _ (List.mem_of_getElem? (i := 270) rfl)) zt_wy270_tb zt_wk6_tb zt_k6_ok zt_Y zt_o270_ok zt_d270_ok, ?_⟩
  refine List.forall_mem_cons.mpr ⟨xw_one (kds := zt_kds) (zt_wcd_tb _ (List.mem_of_getElem? (i := 271) rfl)) zt_wy271_tb zt_wk7_tb zt_k7_ok zt_Y zt_o271_ok zt_d271_ok, ?_⟩
  refine List.forall_mem_cons.mpr ⟨xw_one (kds := zt_kds) (zt_wcd_tb _ (List.mem_of_getElem? (i := 272) rfl)) zt_wy272_tb zt_wk7_tb zt_k7_ok zt_Y zt_o272_ok zt_d272_ok, ?_⟩
  refine List.forall_mem_cons.mpr ⟨xw_one (kds := zt_kds) (zt_wcd_tb _ (List.mem_of_getElem? (i := 273) rfl)) zt_wy273_tb zt_wk7_tb zt_k7_ok zt_Y zt_o273_ok zt_d273_ok, ?_⟩
  refine List.forall_mem_cons.mpr ⟨xw_one (kds := zt_kds) (zt_wcd_tb _ (List.mem_of_getElem? (i := 274) rfl)) zt_wy274_tb zt_wk7_tb zt_k7_ok zt_Y zt_o274_ok zt_d274_ok, ?_⟩
  refine List.forall_mem_cons.mpr ⟨xw_one (kds := zt_kds) (zt_wcd_tb _ (List.mem_of_getElem? (i := 275) rfl)) zt_wy275_tb zt_wk7_tb zt_k7_ok zt_Y zt_o275_ok zt_d275_ok, ?_⟩
  refine List.forall_mem_cons.mpr ⟨xw_one (kds := zt_kds) (zt_wcd_tb _ (List.mem_of_getElem? (i := 276) rfl)) zt_wy276_tb zt_wk7_tb zt_k7_ok zt_Y zt_o276_ok zt_d276_ok, ?_⟩
  refine List.forall_mem_cons.mpr ⟨xw_one (kds := zt_kds) (zt_wcd_tb _ (List.mem_of_getElem? (i := 277) rfl)) zt_wy277_tb zt_wk7_tb zt_k7_ok zt_Y zt_o277_ok zt_d277_ok, ?_⟩
  refine List.forall_mem_cons.mpr ⟨xw_one (kds := zt_kds) (zt_wcd_tb _ (List.mem_of_getElem? (i := 278) rfl)) zt_wy278_tb zt_wk8_tb zt_k8_ok zt_Y zt_o278_ok zt_d278_ok, ?_⟩
  refine List.forall_mem_cons.mpr ⟨xw_one (kds := zt_kds) (zt_wcd_tb _ (List.mem_of_getElem? (i := 279) rfl)) zt_wy279_tb zt_wk8_tb zt_k8_ok zt_Y zt_o279_ok zt_d279_ok, ?_⟩
  refine List.forall_mem_cons.mpr ⟨xw_one (kds := zt_kds) (zt_wcd_tb _ (List.mem_of_getElem? (i := 280) rfl)) zt_wy280_tb zt_wk8_tb zt_k8_ok zt_Y zt_o280_ok zt_d280_ok, ?_⟩
  refine List.forall_mem_cons.mpr ⟨xw_one (kds := zt_kds) (zt_wcd_tb _ (List.mem_of_getElem? (i := 281) rfl)) zt_wy281_tb zt_wk8_tb zt_k8_ok zt_Y zt_o281_ok zt_d281_ok, ?_⟩
  refine List.forall_mem_cons.mpr ⟨xw_one (kds := zt_kds) (zt_wcd_tb _ (List.mem_of_getElem? (i := 282) rfl)) zt_wy282_tb zt_wk8_tb zt_k8_ok zt_Y zt_o282_ok zt_d282_ok, ?_⟩
  refine List.forall_mem_cons.mpr ⟨xw_one (kds := zt_kds) (zt_wcd_tb _ (List.mem_of_getElem? (i := 283) rfl)) zt_wy283_tb zt_wk8_tb zt_k8_ok zt_Y zt_o283_ok zt_d283_ok, ?_⟩
  refine List.forall_mem_cons.mpr ⟨xw_one (kds := zt_kds) (zt_wcd_tb _ (List.mem_of_getElem? (i := 284) rfl)) zt_wy284_tb zt_wk9_tb zt_k9_ok zt_Y zt_o284_ok zt_d284_ok, ?_⟩
  refine List.forall_mem_cons.mpr ⟨xw_one (kds := zt_kds) (zt_wcd_tb _ (List.mem_of_getElem? (i := 285) rfl)) zt_wy285_tb zt_wk9_tb zt_k9_ok zt_Y zt_o285_ok zt_d285_ok, ?_⟩
  refine List.forall_mem_cons.mpr ⟨xw_one (kds := zt_kds) (zt_wcd_tb _ (List.mem_of_getElem? (i := 286) rfl)) zt_wy286_tb zt_wk9_tb zt_k9_ok zt_Y zt_o286_ok zt_d286_ok, ?_⟩
  refine List.forall_mem_cons.mpr ⟨xw_one (kds := zt_kds) (zt_wcd_tb _ (List.mem_of_getElem? (i := 287) rfl)) zt_wy287_tb zt_wk9_tb zt_k9_ok zt_Y zt_o287_ok zt_d287_ok, ?_⟩
  refine List.forall_mem_cons.mpr ⟨xw_one (kds := zt_kds) (zt_wcd_tb _ (List.mem_of_getElem? (i := 288) rfl)) zt_wy288_tb zt_wk9_tb zt_k9_ok zt_Y zt_o288_ok zt_d288_ok, ?_⟩
  refine List.forall_mem_cons.mpr ⟨xw_one (kds := zt_kds) (zt_wcd_tb _ (List.mem_of_getElem? (i := 289) rfl)) zt_wy289_tb zt_wk9_tb zt_k9_ok zt_Y zt_o289_ok zt_d289_ok, ?_⟩
  refine List.forall_mem_cons.mpr ⟨xw_one (kds := zt_kds) (zt_wcd_tb _ (List.mem_of_getElem? (i := 290) rfl)) zt_wy290_tb zt_wk9_tb zt_k9_ok zt_Y zt_o290_ok zt_d290_ok, ?_⟩
  refine List.forall_mem_cons.mpr ⟨xw_one (kds := zt_kds) (zt_wcd_tb _ (List.mem_of_getElem? (i := 291) rfl)) zt_wy291_tb zt_wk9_tb zt_k9_ok zt_Y zt_o291_ok zt_d291_ok, ?_⟩
  refine List.forall_mem_cons.mpr ⟨xw_one (kds := zt_kds) (zt_wcd_tb _ (List.mem_of_getElem? (i := 292) rfl)) zt_wy292_tb zt_wk9_tb zt_k9_ok zt_Y zt_o292_ok zt_d292_ok, ?_⟩
  refine List.forall_mem_cons.mpr ⟨xw_one (kds := zt_kds) (zt_wcd_tb _ (List.mem_of_getElem? (i := 293) rfl)) zt_wy293_tb zt_wk9_tb zt_k9_ok zt_Y zt_o293_ok zt_d293_ok, ?_⟩
  refine List.forall_mem_cons.mpr ⟨xw_one (kds := zt_kds) (zt_wcd_tb _ (List.mem_of_getElem? (i := 294) rfl)) zt_wy294_tb zt_wk9_tb zt_k9_ok zt_Y zt_o294_ok zt_d294_ok, ?_⟩
  refine List.forall_mem_cons.mpr ⟨xw_one (kds := zt_kds) (zt_wcd_tb _ (List.mem_of_getElem? (i := 295) rfl)) zt_wy295_tb zt_wk9_tb zt_k9_ok zt_Y zt_o295_ok zt_d295_ok, ?_⟩
  refine List.forall_mem_cons.mpr ⟨xw_one (kds := zt_kds) (zt_wcd_tb _ (List.mem_of_getElem? (i := 296) rfl)) zt_wy296_tb zt_wk9_tb zt_k9_ok zt_Y zt_o296_ok zt_d296_ok, ?_⟩
  refine List.forall_mem_cons.mpr ⟨xw_one (kds := zt_kds) (zt_wcd_tb _ (List.mem_of_getElem? (i := 297) rfl)) zt_wy297_tb zt_wk9_tb zt_k9_ok zt_Y zt_o297_ok zt_d297_ok, ?_⟩
  refine List.forall_mem_cons.mpr ⟨xw_one (kds := zt_kds) (zt_wcd_tb _ (List.mem_of_getElem? (i := 298) rfl)) zt_wy298_tb zt_wk9_tb zt_k9_ok zt_Y zt_o298_ok zt_d298_ok, ?_⟩
  refine List.forall_mem_cons.mpr ⟨xw_one (kds := zt_kds) (zt_wcd_tb _ (List.mem_of_getElem? (i := 299) rfl)) zt_wy299_tb zt_wk9_tb zt_k9_ok zt_Y zt_o299_ok zt_d299_ok, ?_⟩
  refine List.forall_mem_cons.mpr ⟨xw_one (kds := zt_kds) (zt_wcd_tb _ (List.mem_of_getElem? (i := 300) rfl)) zt_wy300_tb zt_wk9_tb zt_k9_ok zt_Y zt_o300_ok zt_d300_ok, ?_⟩
  refine List.forall_mem_cons.mpr ⟨xw_one (kds := zt_kds) (zt_wcd_tb _ (List.mem_of_getElem? (i := 301) rfl)) zt_wy301_tb zt_wk9_tb zt_k9_ok zt_Y zt_o301_ok zt_d301_ok, ?_⟩
  refine List.forall_mem_cons.mpr ⟨xw_one (kds := zt_kds) (zt_wcd_tb _ (List.mem_of_getElem? (i := 302) rfl)) zt_wy302_tb zt_wk9_tb zt_k9_ok zt_Y zt_o302_ok zt_d302_ok, ?_⟩
  refine List.forall_mem_cons.mpr ⟨xw_one (kds := zt_kds) (zt_wcd_tb _ (List.mem_of_getElem? (i := 303) rfl)) zt_wy303_tb zt_wk9_tb zt_k9_ok zt_Y zt_o303_ok zt_d303_ok, ?_⟩
  refine List.forall_mem_cons.mpr ⟨xw_one (kds := zt_kds) (zt_wcd_tb _ (List.mem_of_getElem? (i := 304) rfl)) zt_wy304_tb zt_wk9_tb zt_k9_ok zt_Y zt_o304_ok zt_d304_ok, ?_⟩
  refine List.forall_mem_cons.mpr ⟨xw_one (kds := zt_kds) (zt_wcd_tb _ (List.mem_of_getElem? (i := 305) rfl)) zt_wy305_tb zt_wk10_tb zt_k10_ok zt_Y zt_o305_ok zt_d305_ok, ?_⟩
  refine List.forall_mem_cons.mpr ⟨xw_one (kds := zt_kds) (zt_wcd_tb _ (List.mem_of_getElem? (i := 306) rfl)) zt_wy306_tb zt_wk10_tb zt_k10_ok zt_Y zt_o306_ok zt_d306_ok, ?_⟩
  refine List.forall_mem_cons.mpr ⟨xw_one (kds := zt_kds) (zt_wcd_tb _ (List.mem_of_getElem? (i := 307) rfl)) zt_wy307_tb zt_wk10_tb zt_k10_ok zt_Y zt_o307_ok zt_d307_ok, ?_⟩
  refine List.forall_mem_cons.mpr ⟨xw_one (kds := zt_kds) (zt_wcd_tb _ (List.mem_of_getElem? (i := 308) rfl)) zt_wy308_tb zt_wk10_tb zt_k10_ok zt_Y zt_o308_ok zt_d308_ok, ?_⟩
  refine List.forall_mem_cons.mpr ⟨xw_one (kds := zt_kds) (zt_wcd_tb _ (List.mem_of_getElem? (i := 309) rfl)) zt_wy309_tb zt_wk10_tb zt_k10_ok zt_Y zt_o309_ok zt_d309_ok, ?_⟩
  refine List.forall_mem_cons.mpr ⟨xw_one (kds := zt_kds) (zt_wcd_tb _ (List.mem_of_getElem? (i := 310) rfl)) zt_wy310_tb zt_wk10_tb zt_k10_ok zt_Y zt_o310_ok zt_d310_ok, ?_⟩
  refine List.forall_mem_cons.mpr ⟨xw_one (kds := zt_kds) (zt_wcd_tb _ (List.mem_of_getElem? (i := 311) rfl)) zt_wy311_tb zt_wk10_tb zt_k10_ok zt_Y zt_o311_ok zt_d311_ok, ?_⟩
  exact fun _ h => absurd h List.not_mem_nil
set_option maxRecDepth 100000 in
/-- THE TABLES are right -/
theorem zt_all : xc_all zt_tb zt_nest zt_cl zt_ct zt_at zt_sct zt_strs xq_cCA zt_ms zt_ys := by
  refine ⟨fun w hw => (zt_tb_ok w hw).2, zt_cls, zt_arr, zt_nat, fun j y hy => ?_⟩
  rw [show zt_ms = zt_yz.map Prod.fst from rfl, List.getElem?_map] at hy
  cases hq : zt_yz[j]? with
  | none => rw [hq] at hy; cases hy
  | some q =>
    rw [hq] at hy
    cases Option.some.inj hy
    refine ⟨q.2, ?_, zt_one q (List.mem_of_getElem? hq)⟩
    rw [show zt_ys = zt_yz.map Prod.snd ++ [zt_z312, zt_z313, zt_z314, zt_z315, zt_z316] from rfl, List.getElem?_append_left (by rw [List.length_map]; exact (List.getElem?_eq_some_iff.mp hq).1), List.getElem?_map, hq]
    rfl
theorem zt_olaw_ok : xw_oOk zt_cl zt_law zt_zlaw = true := by decide +kernel
theorem zt_lawbod : xc_bod zt_tb zt_nest zt_cl zt_ct zt_at zt_sct zt_strs zt_ys zt_law zt_zlaw := xw_bod (kds := zt_kds) zt_wkL_tb zt_kL_ok zt_Y zt_olaw_ok zt_dlaw_ok
theorem zt_oh_ok : xw_oOk zt_cl zt_mh zt_zh = true := by decide +kernel
theorem zt_hbod : xc_bod zt_tb zt_nest zt_cl zt_ct zt_at zt_sct zt_strs zt_ys zt_mh zt_zh := xw_bod (kds := zt_kds) zt_wkL_tb zt_kL_ok zt_Y zt_oh_ok zt_dh_ok

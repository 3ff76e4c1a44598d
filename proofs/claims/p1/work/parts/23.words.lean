noncomputable def xw_tab (k : Nat) : List Jvm.Cond := match k with
  | 0 => k2_sels lw_privs
  | 1 => tables_1_1
  | 2 => tables_1_2
  | 3 => tables_1_3
  | 4 => tables_1_4
  | 5 => tables_1_5
  | 6 => tables_1_6
  | 7 => tables_1_7
  | 8 => tables_1_8
  | 9 => tables_1_9
  | _ => tables_1_10
noncomputable def xw_in : List Jvm.Cond → List (Nat × Nat) → Bool
  | [], _ => true
  | _ :: _, [] => false
  | w :: ws, i :: ix => decide (xf_get (xw_tab i.1) i.2 = some w) && goodWord w && xw_in ws ix
theorem xw_tab_in (k : Nat) : ∀ w ∈ xw_tab k, w ∈ lw_tbl := by
  intro w hw
  unfold lw_tbl
  unfold xw_tab at hw
  split at hw
  · exact List.mem_append_left _ hw
  · exact List.mem_append_right _ (show w ∈ tables_1 from List.mem_append_left _ hw)
  · exact List.mem_append_right _ (show w ∈ tables_1 from List.mem_append_right _ (List.mem_append_left _ hw))
  · exact List.mem_append_right _ (show w ∈ tables_1 from List.mem_append_right _ (List.mem_append_right _ (List.mem_append_left _ hw)))
  · exact List.mem_append_right _ (show w ∈ tables_1 from List.mem_append_right _ (List.mem_append_right _ (List.mem_append_right _ (List.mem_append_left _ hw))))
  · exact List.mem_append_right _ (show w ∈ tables_1 from List.mem_append_right _ (List.mem_append_right _ (List.mem_append_right _ (List.mem_append_right _ (List.mem_append_left _ hw)))))
  · exact List.mem_append_right _ (show w ∈ tables_1 from List.mem_append_right _ (List.mem_append_right _ (List.mem_append_right _ (List.mem_append_right _ (List.mem_append_right _ (List.mem_append_left _ hw))))))
  · exact List.mem_append_right _ (show w ∈ tables_1 from List.mem_append_right _ (List.mem_append_right _ (List.mem_append_right _ (List.mem_append_right _ (List.mem_append_right _ (List.mem_append_right _ (List.mem_append_left _ hw)))))))
  · exact List.mem_append_right _ (show w ∈ tables_1 from List.mem_append_right _ (List.mem_append_right _ (List.mem_append_right _ (List.mem_append_right _ (List.mem_append_right _ (List.mem_append_right _ (List.mem_append_right _ (List.mem_append_left _ hw))))))))
  · exact List.mem_append_right _ (show w ∈ tables_1 from List.mem_append_right _ (List.mem_append_right _ (List.mem_append_right _ (List.mem_append_right _ (List.mem_append_right _ (List.mem_append_right _ (List.mem_append_right _ (List.mem_append_right _ (List.mem_append_left _ hw)))))))))
  · exact List.mem_append_right _ (show w ∈ tables_1 from List.mem_append_right _ (List.mem_append_right _ (List.mem_append_right _ (List.mem_append_right _ (List.mem_append_right _ (List.mem_append_right _ (List.mem_append_right _ (List.mem_append_right _ (List.mem_append_right _ (hw))))))))))
theorem xw_in_ok : ∀ {ws : List Jvm.Cond} {ix : List (Nat × Nat)}, xw_in ws ix = true → ∀ w ∈ ws, w ∈ lw_tbl ∧ goodWord w = true
  | [], _, _, _, hw => absurd hw List.not_mem_nil
  | _ :: _, [], h, _, _ => by cases h
  | x :: ws, i :: ix, h, w, hw => by
    simp only [xw_in, Bool.and_eq_true_iff] at h
    obtain ⟨⟨h1, h2⟩, h3⟩ := h
    rcases List.mem_cons.mp hw with e | e
    · subst e
      have h4 := of_decide_eq_true h1
      rw [xf_get_eq] at h4
      exact ⟨xw_tab_in _ _ (List.mem_of_getElem? h4), h2⟩
    · exact xw_in_ok h3 w e
noncomputable def zt_wc0 : List Jvm.Cond := u_ws RX0 TX0 8 ++ [Jvm.Cond.instantiable RX0 8, Jvm.Cond.initialized RX0]
noncomputable def zt_wc1 : List Jvm.Cond := u_ws RX1 TX1 4 ++ [Jvm.Cond.instantiable RX1 4, Jvm.Cond.initialized RX1]
noncomputable def zt_wc2 : List Jvm.Cond := u_ws RX2 TX2 8 ++ [Jvm.Cond.instantiable RX2 8, Jvm.Cond.initialized RX2]
noncomputable def zt_wc3 : List Jvm.Cond := u_ws RX3 TX3 7 ++ [Jvm.Cond.instantiable RX3 7, Jvm.Cond.initialized RX3]
noncomputable def zt_wc4 : List Jvm.Cond := u_ws RX4 TX4 12 ++ [Jvm.Cond.instantiable RX4 12, Jvm.Cond.initialized RX4]
noncomputable def zt_wc5 : List Jvm.Cond := u_ws RX5 TX5 13 ++ [Jvm.Cond.instantiable RX5 13, Jvm.Cond.initialized RX5]
noncomputable def zt_wc6 : List Jvm.Cond := u_ws RX6 TX6 11 ++ [Jvm.Cond.instantiable RX6 11, Jvm.Cond.initialized RX6]
noncomputable def zt_wc7 : List Jvm.Cond := u_ws RX7 TX7 8 ++ [Jvm.Cond.instantiable RX7 8, Jvm.Cond.initialized RX7]
noncomputable def zt_wc8 : List Jvm.Cond := u_ws RX8 TX8 7 ++ [Jvm.Cond.instantiable RX8 7, Jvm.Cond.initialized RX8]
noncomputable def zt_wc9 : List Jvm.Cond := u_ws RX9 TX9 20 ++ [Jvm.Cond.instantiable RX9 20, Jvm.Cond.initialized RX9]
noncomputable def zt_wc10 : List Jvm.Cond := u_ws RX10 TX10 5 ++ [Jvm.Cond.instantiable RX10 5, Jvm.Cond.initialized RX10]
noncomputable def zt_wc11 : List Jvm.Cond := u_ws RX11 TX11 13 ++ [Jvm.Cond.instantiable RX11 13, Jvm.Cond.initialized RX11]
noncomputable def zt_wc12 : List Jvm.Cond := u_ws RX12 TX12 91 ++ [Jvm.Cond.instantiable RX12 91, Jvm.Cond.initialized RX12]
noncomputable def zt_wk0 : List Jvm.Cond := xw_K zt_cl zt_at zt_ys "EggGarden$Child" zt_K0
noncomputable def zt_wk1 : List Jvm.Cond := xw_K zt_cl zt_at zt_ys "EggGarden$Egg" zt_K1
noncomputable def zt_wk2 : List Jvm.Cond := xw_K zt_cl zt_at zt_ys "EggGarden$Formula" zt_K2
noncomputable def zt_wk3 : List Jvm.Cond := xw_K zt_cl zt_at zt_ys "EggGarden$Laws" zt_K3
noncomputable def zt_wk4 : List Jvm.Cond := xw_K zt_cl zt_at zt_ys "EggGarden$Morning" zt_K4
noncomputable def zt_wk5 : List Jvm.Cond := xw_K zt_cl zt_at zt_ys "EggGarden$Plan" zt_K5
noncomputable def zt_wk6 : List Jvm.Cond := xw_K zt_cl zt_at zt_ys "EggGarden$Reader" zt_K6
noncomputable def zt_wk7 : List Jvm.Cond := xw_K zt_cl zt_at zt_ys "EggGarden$Seen" zt_K7
noncomputable def zt_wk8 : List Jvm.Cond := xw_K zt_cl zt_at zt_ys "EggGarden$Tokens" zt_K8
noncomputable def zt_wk9 : List Jvm.Cond := xw_K zt_cl zt_at zt_ys "EggGarden$Trials" zt_K9
noncomputable def zt_wk10 : List Jvm.Cond := xw_K zt_cl zt_at zt_ys "EggGarden$Undoing" zt_K10
noncomputable def zt_wk11 : List Jvm.Cond := xw_K zt_cl zt_at zt_ys "EggGarden" zt_K11
noncomputable def zt_wk12 : List Jvm.Cond := xw_K zt_cl zt_at zt_ys "EggGardenModel" zt_K12
noncomputable def zt_wkL : List Jvm.Cond := xw_K zt_cl zt_at zt_ys "EggGardenLaw" zt_KL
noncomputable def zt_wy0 : List Jvm.Cond := xw_Y zt_z0 1
noncomputable def zt_wy1 : List Jvm.Cond := xw_Y zt_z1 1
noncomputable def zt_wy2 : List Jvm.Cond := xw_Y zt_z2 1
noncomputable def zt_wy3 : List Jvm.Cond := xw_Y zt_z3 1
noncomputable def zt_wy4 : List Jvm.Cond := xw_Y zt_z4 1
noncomputable def zt_wy5 : List Jvm.Cond := xw_Y zt_z5 1
noncomputable def zt_wy6 : List Jvm.Cond := xw_Y zt_z6 1
noncomputable def zt_wy7 : List Jvm.Cond := xw_Y zt_z7 1
noncomputable def zt_wy8 : List Jvm.Cond := xw_Y zt_z8 1
noncomputable def zt_wy9 : List Jvm.Cond := xw_Y zt_z9 1
noncomputable def zt_wy10 : List Jvm.Cond := xw_Y zt_z10 1
noncomputable def zt_wy11 : List Jvm.Cond := xw_Y zt_z11 1
noncomputable def zt_wy12 : List Jvm.Cond := xw_Y zt_z12 0
noncomputable def zt_wy13 : List Jvm.Cond := xw_Y zt_z13 0
noncomputable def zt_wy14 : List Jvm.Cond := xw_Y zt_z14 0
noncomputable def zt_wy15 : List Jvm.Cond := xw_Y zt_z15 0
noncomputable def zt_wy16 : List Jvm.Cond := xw_Y zt_z16 0
noncomputable def zt_wy17 : List Jvm.Cond := xw_Y zt_z17 0
noncomputable def zt_wy18 : List Jvm.Cond := xw_Y zt_z18 0
noncomputable def zt_wy19 : List Jvm.Cond := xw_Y zt_z19 0
noncomputable def zt_wy20 : List Jvm.Cond := xw_Y zt_z20 0
noncomputable def zt_wy21 : List Jvm.Cond := xw_Y zt_z21 0
noncomputable def zt_wy22 : List Jvm.Cond := xw_Y zt_z22 0
noncomputable def zt_wy23 : List Jvm.Cond := xw_Y zt_z23 0
noncomputable def zt_wy24 : List Jvm.Cond := xw_Y zt_z24 0
noncomputable def zt_wy25 : List Jvm.Cond := xw_Y zt_z25 0
noncomputable def zt_wy26 : List Jvm.Cond := xw_Y zt_z26 0
noncomputable def zt_wy27 : List Jvm.Cond := xw_Y zt_z27 0
noncomputable def zt_wy28 : List Jvm.Cond := xw_Y zt_z28 0
noncomputable def zt_wy29 : List Jvm.Cond := xw_Y zt_z29 1
noncomputable def zt_wy30 : List Jvm.Cond := xw_Y zt_z30 0
noncomputable def zt_wy31 : List Jvm.Cond := xw_Y zt_z31 0
noncomputable def zt_wy32 : List Jvm.Cond := xw_Y zt_z32 3
noncomputable def zt_wy33 : List Jvm.Cond := xw_Y zt_z33 0
noncomputable def zt_wy34 : List Jvm.Cond := xw_Y zt_z34 0
noncomputable def zt_wy35 : List Jvm.Cond := xw_Y zt_z35 0
noncomputable def zt_wy36 : List Jvm.Cond := xw_Y zt_z36 0
noncomputable def zt_wy37 : List Jvm.Cond := xw_Y zt_z37 0
noncomputable def zt_wy38 : List Jvm.Cond := xw_Y zt_z38 0
noncomputable def zt_wy39 : List Jvm.Cond := xw_Y zt_z39 0
noncomputable def zt_wy40 : List Jvm.Cond := xw_Y zt_z40 0
noncomputable def zt_wy41 : List Jvm.Cond := xw_Y zt_z41 0
noncomputable def zt_wy42 : List Jvm.Cond := xw_Y zt_z42 0
noncomputable def zt_wy43 : List Jvm.Cond := xw_Y zt_z43 0
noncomputable def zt_wy44 : List Jvm.Cond := xw_Y zt_z44 0
noncomputable def zt_wy45 : List Jvm.Cond := xw_Y zt_z45 0
noncomputable def zt_wy46 : List Jvm.Cond := xw_Y zt_z46 0
noncomputable def zt_wy47 : List Jvm.Cond := xw_Y zt_z47 0
noncomputable def zt_wy48 : List Jvm.Cond := xw_Y zt_z48 0
noncomputable def zt_wy49 : List Jvm.Cond := xw_Y zt_z49 0
noncomputable def zt_wy50 : List Jvm.Cond := xw_Y zt_z50 0
noncomputable def zt_wy51 : List Jvm.Cond := xw_Y zt_z51 3
noncomputable def zt_wy52 : List Jvm.Cond := xw_Y zt_z52 0
noncomputable def zt_wy53 : List Jvm.Cond := xw_Y zt_z53 0
noncomputable def zt_wy54 : List Jvm.Cond := xw_Y zt_z54 0
noncomputable def zt_wy55 : List Jvm.Cond := xw_Y zt_z55 0
noncomputable def zt_wy56 : List Jvm.Cond := xw_Y zt_z56 0
noncomputable def zt_wy57 : List Jvm.Cond := xw_Y zt_z57 0
noncomputable def zt_wy58 : List Jvm.Cond := xw_Y zt_z58 0
noncomputable def zt_wy59 : List Jvm.Cond := xw_Y zt_z59 0
noncomputable def zt_wy60 : List Jvm.Cond := xw_Y zt_z60 0
noncomputable def zt_wy61 : List Jvm.Cond := xw_Y zt_z61 0
noncomputable def zt_wy62 : List Jvm.Cond := xw_Y zt_z62 0
noncomputable def zt_wy63 : List Jvm.Cond := xw_Y zt_z63 0
noncomputable def zt_wy64 : List Jvm.Cond := xw_Y zt_z64 3
noncomputable def zt_wy65 : List Jvm.Cond := xw_Y zt_z65 0
noncomputable def zt_wy66 : List Jvm.Cond := xw_Y zt_z66 0
noncomputable def zt_wy67 : List Jvm.Cond := xw_Y zt_z67 0
noncomputable def zt_wy68 : List Jvm.Cond := xw_Y zt_z68 0
noncomputable def zt_wy69 : List Jvm.Cond := xw_Y zt_z69 0
noncomputable def zt_wy70 : List Jvm.Cond := xw_Y zt_z70 3
noncomputable def zt_wy71 : List Jvm.Cond := xw_Y zt_z71 3
noncomputable def zt_wy72 : List Jvm.Cond := xw_Y zt_z72 0
noncomputable def zt_wy73 : List Jvm.Cond := xw_Y zt_z73 0
noncomputable def zt_wy74 : List Jvm.Cond := xw_Y zt_z74 0
noncomputable def zt_wy75 : List Jvm.Cond := xw_Y zt_z75 0
noncomputable def zt_wy76 : List Jvm.Cond := xw_Y zt_z76 0
noncomputable def zt_wy77 : List Jvm.Cond := xw_Y zt_z77 0
noncomputable def zt_wy78 : List Jvm.Cond := xw_Y zt_z78 0
noncomputable def zt_wy79 : List Jvm.Cond := xw_Y zt_z79 0
noncomputable def zt_wy80 : List Jvm.Cond := xw_Y zt_z80 0
noncomputable def zt_wy81 : List Jvm.Cond := xw_Y zt_z81 0
noncomputable def zt_wy82 : List Jvm.Cond := xw_Y zt_z82 0
noncomputable def zt_wy83 : List Jvm.Cond := xw_Y zt_z83 0
noncomputable def zt_wy84 : List Jvm.Cond := xw_Y zt_z84 0
noncomputable def zt_wy85 : List Jvm.Cond := xw_Y zt_z85 0
noncomputable def zt_wy86 : List Jvm.Cond := xw_Y zt_z86 0
noncomputable def zt_wy87 : List Jvm.Cond := xw_Y zt_z87 0
noncomputable def zt_wy88 : List Jvm.Cond := xw_Y zt_z88 0
noncomputable def zt_wy89 : List Jvm.Cond := xw_Y zt_z89 0
noncomputable def zt_wy90 : List Jvm.Cond := xw_Y zt_z90 0
noncomputable def zt_wy91 : List Jvm.Cond := xw_Y zt_z91 0
noncomputable def zt_wy92 : List Jvm.Cond := xw_Y zt_z92 0
noncomputable def zt_wy93 : List Jvm.Cond := xw_Y zt_z93 0
noncomputable def zt_wy94 : List Jvm.Cond := xw_Y zt_z94 0
noncomputable def zt_wy95 : List Jvm.Cond := xw_Y zt_z95 0
noncomputable def zt_wy96 : List Jvm.Cond := xw_Y zt_z96 0
noncomputable def zt_wy97 : List Jvm.Cond := xw_Y zt_z97 0
noncomputable def zt_wy98 : List Jvm.Cond := xw_Y zt_z98 0
noncomputable def zt_wy99 : List Jvm.Cond := xw_Y zt_z99 3
noncomputable def zt_wy100 : List Jvm.Cond := xw_Y zt_z100 0
noncomputable def zt_wy101 : List Jvm.Cond := xw_Y zt_z101 0
noncomputable def zt_wy102 : List Jvm.Cond := xw_Y zt_z102 0
noncomputable def zt_wy103 : List Jvm.Cond := xw_Y zt_z103 0
noncomputable def zt_wy104 : List Jvm.Cond := xw_Y zt_z104 0
noncomputable def zt_wy105 : List Jvm.Cond := xw_Y zt_z105 0
noncomputable def zt_wy106 : List Jvm.Cond := xw_Y zt_z106 0
noncomputable def zt_wy107 : List Jvm.Cond := xw_Y zt_z107 0
noncomputable def zt_wy108 : List Jvm.Cond := xw_Y zt_z108 0
noncomputable def zt_wy109 : List Jvm.Cond := xw_Y zt_z109 0
noncomputable def zt_wy110 : List Jvm.Cond := xw_Y zt_z110 0
noncomputable def zt_wy111 : List Jvm.Cond := xw_Y zt_z111 0
noncomputable def zt_wy112 : List Jvm.Cond := xw_Y zt_z112 0
noncomputable def zt_wy113 : List Jvm.Cond := xw_Y zt_z113 0
noncomputable def zt_wy114 : List Jvm.Cond := xw_Y zt_z114 0
noncomputable def zt_wy115 : List Jvm.Cond := xw_Y zt_z115 0
noncomputable def zt_wy116 : List Jvm.Cond := xw_Y zt_z116 0
noncomputable def zt_wy117 : List Jvm.Cond := xw_Y zt_z117 0
noncomputable def zt_wy118 : List Jvm.Cond := xw_Y zt_z118 0
noncomputable def zt_wy119 : List Jvm.Cond := xw_Y zt_z119 0
noncomputable def zt_wy120 : List Jvm.Cond := xw_Y zt_z120 3
noncomputable def zt_wy121 : List Jvm.Cond := xw_Y zt_z121 0
noncomputable def zt_wy122 : List Jvm.Cond := xw_Y zt_z122 0
noncomputable def zt_wy123 : List Jvm.Cond := xw_Y zt_z123 0
noncomputable def zt_wy124 : List Jvm.Cond := xw_Y zt_z124 0
noncomputable def zt_wy125 : List Jvm.Cond := xw_Y zt_z125 0
noncomputable def zt_wy126 : List Jvm.Cond := xw_Y zt_z126 0
noncomputable def zt_wy127 : List Jvm.Cond := xw_Y zt_z127 0
noncomputable def zt_wy128 : List Jvm.Cond := xw_Y zt_z128 3
noncomputable def zt_wy129 : List Jvm.Cond := xw_Y zt_z129 0
noncomputable def zt_wy130 : List Jvm.Cond := xw_Y zt_z130 0
noncomputable def zt_wy131 : List Jvm.Cond := xw_Y zt_z131 0
noncomputable def zt_wy132 : List Jvm.Cond := xw_Y zt_z132 0
noncomputable def zt_wy133 : List Jvm.Cond := xw_Y zt_z133 0
noncomputable def zt_wy134 : List Jvm.Cond := xw_Y zt_z134 0
noncomputable def zt_wy135 : List Jvm.Cond := xw_Y zt_z135 0
noncomputable def zt_wy136 : List Jvm.Cond := xw_Y zt_z136 0
noncomputable def zt_wy137 : List Jvm.Cond := xw_Y zt_z137 0
noncomputable def zt_wy138 : List Jvm.Cond := xw_Y zt_z138 0
noncomputable def zt_wy139 : List Jvm.Cond := xw_Y zt_z139 0
noncomputable def zt_wy140 : List Jvm.Cond := xw_Y zt_z140 0
noncomputable def zt_wy141 : List Jvm.Cond := xw_Y zt_z141 0
noncomputable def zt_wy142 : List Jvm.Cond := xw_Y zt_z142 0
noncomputable def zt_wy143 : List Jvm.Cond := xw_Y zt_z143 0
noncomputable def zt_wy144 : List Jvm.Cond := xw_Y zt_z144 0
noncomputable def zt_wy145 : List Jvm.Cond := xw_Y zt_z145 0
noncomputable def zt_wy146 : List Jvm.Cond := xw_Y zt_z146 0
noncomputable def zt_wy147 : List Jvm.Cond := xw_Y zt_z147 0
noncomputable def zt_wy148 : List Jvm.Cond := xw_Y zt_z148 0
noncomputable def zt_wy149 : List Jvm.Cond := xw_Y zt_z149 0
noncomputable def zt_wy150 : List Jvm.Cond := xw_Y zt_z150 0
noncomputable def zt_wy151 : List Jvm.Cond := xw_Y zt_z151 0
noncomputable def zt_wy152 : List Jvm.Cond := xw_Y zt_z152 0
noncomputable def zt_wy153 : List Jvm.Cond := xw_Y zt_z153 0
noncomputable def zt_wy154 : List Jvm.Cond := xw_Y zt_z154 0
noncomputable def zt_wy155 : List Jvm.Cond := xw_Y zt_z155 0
noncomputable def zt_wy156 : List Jvm.Cond := xw_Y zt_z156 0
noncomputable def zt_wy157 : List Jvm.Cond := xw_Y zt_z157 0
noncomputable def zt_wy158 : List Jvm.Cond := xw_Y zt_z158 0
noncomputable def zt_wy159 : List Jvm.Cond := xw_Y zt_z159 0
noncomputable def zt_wy160 : List Jvm.Cond := xw_Y zt_z160 0
noncomputable def zt_wy161 : List Jvm.Cond := xw_Y zt_z161 0
noncomputable def zt_wy162 : List Jvm.Cond := xw_Y zt_z162 0
noncomputable def zt_wy163 : List Jvm.Cond := xw_Y zt_z163 0
noncomputable def zt_wy164 : List Jvm.Cond := xw_Y zt_z164 0
noncomputable def zt_wy165 : List Jvm.Cond := xw_Y zt_z165 0
noncomputable def zt_wy166 : List Jvm.Cond := xw_Y zt_z166 0
noncomputable def zt_wy167 : List Jvm.Cond := xw_Y zt_z167 0
noncomputable def zt_wy168 : List Jvm.Cond := xw_Y zt_z168 0
noncomputable def zt_wy169 : List Jvm.Cond := xw_Y zt_z169 0
noncomputable def zt_wy170 : List Jvm.Cond := xw_Y zt_z170 0
noncomputable def zt_wx : List Jvm.Cond := [Jvm.Cond.arrayClass .int, Jvm.Cond.arrayClass .long, Jvm.Cond.arrayClass .boolean, Jvm.Cond.instanceMethod xk_y, Jvm.Cond.selects "java/lang/String" xk_y xk_y, Jvm.Cond.initialized "java/lang/String", Jvm.Cond.code xk_y prog_22_method_56_code 2 (some .char), Jvm.Cond.instanceMethod Lib.objectInit, Jvm.Cond.code Lib.objectInit ⟨#[0xb1]⟩ 1 none, Jvm.Cond.native arraycopyName, Jvm.Cond.static arraycopyName, Jvm.Cond.initialized "java/lang/System"]
noncomputable def zt_wj : List Jvm.Cond := xq_ws
noncomputable def zt_wcd : List Jvm.Cond := [Jvm.Cond.code zt_z0.1 zt_z0.2.1 zt_m0.2.1.2.1 zt_z0.2.2, Jvm.Cond.code zt_z1.1 zt_z1.2.1 zt_m1.2.1.2.1 zt_z1.2.2, Jvm.Cond.code zt_z2.1 zt_z2.2.1 zt_m2.2.1.2.1 zt_z2.2.2, Jvm.Cond.code zt_z3.1 zt_z3.2.1 zt_m3.2.1.2.1 zt_z3.2.2, Jvm.Cond.code zt_z4.1 zt_z4.2.1 zt_m4.2.1.2.1 zt_z4.2.2, Jvm.Cond.code zt_z5.1 zt_z5.2.1 zt_m5.2.1.2.1 zt_z5.2.2, Jvm.Cond.code zt_z6.1 zt_z6.2.1 zt_m6.2.1.2.1 zt_z6.2.2, Jvm.Cond.code zt_z7.1 zt_z7.2.1 zt_m7.2.1.2.1 zt_z7.2.2, Jvm.Cond.code zt_z8.1 zt_z8.2.1 zt_m8.2.1.2.1 zt_z8.2.2, Jvm.Cond.code zt_z9.1 zt_z9.2.1 zt_m9.2.1.2.1 zt_z9.2.2, Jvm.Cond.code zt_z10.1 zt_z10.2.1 zt_m10.2.1.2.1 zt_z10.2.2, Jvm.Cond.code zt_z11.1 zt_z11.2.1 zt_m11.2.1.2.1 zt_z11.2.2, Jvm.Cond.code zt_z12.1 zt_z12.2.1 zt_m12.2.1.2.1 zt_z12.2.2, Jvm.Cond.code zt_z13.1 zt_z13.2.1 zt_m13.2.1.2.1 zt_z13.2.2, Jvm.Cond.code zt_z14.1 zt_z14.2.1 zt_m14.2.1.2.1 zt_z14.2.2, Jvm.Cond.code zt_z15.1 zt_z15.2.1 zt_m15.2.1.2.1 zt_z15.2.2, Jvm.Cond.code zt_z16.1 zt_z16.2.1 zt_m16.2.1.2.1 zt_z16.2.2, Jvm.Cond.code zt_z17.1 zt_z17.2.1 zt_m17.2.1.2.1 zt_z17.2.2, Jvm.Cond.code zt_z18.1 zt_z18.2.1 zt_m18.2.1.2.1 zt_z18.2.2, Jvm.Cond.code zt_z19.1 zt_z19.2.1 zt_m19.2.1.2.1 zt_z19.2.2, Jvm.Cond.code zt_z20.1 zt_z20.2.1 zt_m20.2.1.2.1 zt_z20.2.2, Jvm.Cond.code zt_z21.1 zt_z21.2.1 zt_m21.2.1.2.1 zt_z21.2.2, Jvm.Cond.code zt_z22.1 zt_z22.2.1 zt_m22.2.1.2.1 zt_z22.2.2, Jvm.Cond.code zt_z23.1 zt_z23.2.1 zt_m23.2.1.2.1 zt_z23.2.2, Jvm.Cond.code zt_z24.1 zt_z24.2.1 zt_m24.2.1.2.1 zt_z24.2.2, Jvm.Cond.code zt_z25.1 zt_z25.2.1 zt_m25.2.1.2.1 zt_z25.2.2, Jvm.Cond.code zt_z26.1 zt_z26.2.1 zt_m26.2.1.2.1 zt_z26.2.2, Jvm.Cond.code zt_z27.1 zt_z27.2.1 zt_m27.2.1.2.1 zt_z27.2.2, Jvm.Cond.code zt_z28.1 zt_z28.2.1 zt_m28.2.1.2.1 zt_z28.2.2, Jvm.Cond.code zt_z29.1 zt_z29.2.1 zt_m29.2.1.2.1 zt_z29.2.2, Jvm.Cond.code zt_z30.1 zt_z30.2.1 zt_m30.2.1.2.1 zt_z30.2.2, Jvm.Cond.code zt_z31.1 zt_z31.2.1 zt_m31.2.1.2.1 zt_z31.2.2, Jvm.Cond.code zt_z32.1 zt_z32.2.1 zt_m32.2.1.2.1 zt_z32.2.2, Jvm.Cond.code zt_z33.1 zt_z33.2.1 zt_m33.2.1.2.1 zt_z33.2.2, Jvm.Cond.code zt_z34.1 zt_z34.2.1 zt_m34.2.1.2.1 zt_z34.2.2, Jvm.Cond.code zt_z35.1 zt_z35.2.1 zt_m35.2.1.2.1 zt_z35.2.2, Jvm.Cond.code zt_z36.1 zt_z36.2.1 zt_m36.2.1.2.1 zt_z36.2.2, Jvm.Cond.code zt_z37.1 zt_z37.2.1 zt_m37.2.1.2.1 zt_z37.2.2, Jvm.Cond.code zt_z38.1 zt_z38.2.1 zt_m38.2.1.2.1 zt_z38.2.2, Jvm.Cond.code zt_z39.1 zt_z39.2.1 zt_m39.2.1.2.1 zt_z39.2.2, Jvm.Cond.code zt_z40.1 zt_z40.2.1 zt_m40.2.1.2.1 zt_z40.2.2, Jvm.Cond.code zt_z41.1 zt_z41.2.1 zt_m41.2.1.2.1 zt_z41.2.2, Jvm.Cond.code zt_z42.1 zt_z42.2.1 zt_m42.2.1.2.1 zt_z42.2.2, Jvm.Cond.code zt_z43.1 zt_z43.2.1 zt_m43.2.1.2.1 zt_z43.2.2, Jvm.Cond.code zt_z44.1 zt_z44.2.1 zt_m44.2.1.2.1 zt_z44.2.2, Jvm.Cond.code zt_z45.1 zt_z45.2.1 zt_m45.2.1.2.1 zt_z45.2.2, Jvm.Cond.code zt_z46.1 zt_z46.2.1 zt_m46.2.1.2.1 zt_z46.2.2, Jvm.Cond.code zt_z47.1 zt_z47.2.1 zt_m47.2.1.2.1 zt_z47.2.2, Jvm.Cond.code zt_z48.1 zt_z48.2.1 zt_m48.2.1.2.1 zt_z48.2.2, Jvm.Cond.code zt_z49.1 zt_z49.2.1 zt_m49.2.1.2.1 zt_z49.2.2, Jvm.Cond.code zt_z50.1 zt_z50.2.1 zt_m50.2.1.2.1 zt_z50.2.2, Jvm.Cond.code zt_z51.1 zt_z51.2.1 zt_m51.2.1.2.1 zt_z51.2.2, Jvm.Cond.code zt_z52.1 zt_z52.2.1 zt_m52.2.1.2.1 zt_z52.2.2, Jvm.Cond.code zt_z53.1 zt_z53.2.1 zt_m53.2.1.2.1 zt_z53.2.2, Jvm.Cond.code zt_z54.1 zt_z54.2.1 zt_m54.2.1.2.1 zt_z54.2.2, Jvm.Cond.code zt_z55.1 zt_z55.2.1 zt_m55.2.1.2.1 zt_z55.2.2, Jvm.Cond.code zt_z56.1 zt_z56.2.1 zt_m56.2.1.2.1 zt_z56.2.2, Jvm.Cond.code zt_z57.1 zt_z57.2.1 zt_m57.2.1.2.1 zt_z57.2.2, Jvm.Cond.code zt_z58.1 zt_z58.2.1 zt_m58.2.1.2.1 zt_z58.2.2, Jvm.Cond.code zt_z59.1 zt_z59.2.1 zt_m59.2.1.2.1 zt_z59.2.2, Jvm.Cond.code zt_z60.1 zt_z60.2.1 zt_m60.2.1.2.1 zt_z60.2.2, Jvm.Cond.code zt_z61.1 zt_z61.2.1 zt_m61.2.1.2.1 zt_z61.2.2, Jvm.Cond.code zt_z62.1 zt_z62.2.1 zt_m62.2.1.2.1 zt_z62.2.2, Jvm.Cond.code zt_z63.1 zt_z63.2.1 zt_m63.2.1.2.1 zt_z63.2.2, Jvm.Cond.code zt_z64.1 zt_z64.2.1 zt_m64.2.1.2.1 zt_z64.2.2, Jvm.Cond.code zt_z65.1 zt_z65.2.1 zt_m65.2.1.2.1 zt_z65.2.2, Jvm.Cond.code zt_z66.1 zt_z66.2.1 zt_m66.2.1.2.1 zt_z66.2.2, Jvm.Cond.code zt_z67.1 zt_z67.2.1 zt_m67.2.1.2.1 zt_z67.2.2, Jvm.Cond.code zt_z68.1 zt_z68.2.1 zt_m68.2.1.2.1 zt_z68.2.2, Jvm.Cond.code zt_z69.1 zt_z69.2.1 zt_m69.2.1.2.1 zt_z69.2.2, Jvm.Cond.code zt_z70.1 zt_z70.2.1 zt_m70.2.1.2.1 zt_z70.2.2, Jvm.Cond.code zt_z71.1 zt_z71.2.1 zt_m71.2.1.2.1 zt_z71.2.2, Jvm.Cond.code zt_z72.1 zt_z72.2.1 zt_m72.2.1.2.1 zt_z72.2.2, Jvm.Cond.code zt_z73.1 zt_z73.2.1 zt_m73.2.1.2.1 zt_z73.2.2, Jvm.Cond.code zt_z74.1 zt_z74.2.1 zt_m74.2.1.2.1 zt_z74.2.2, Jvm.Cond.code zt_z75.1 zt_z75.2.1 zt_m75.2.1.2.1 zt_z75.2.2, Jvm.Cond.code zt_z76.1 zt_z76.2.1 zt_m76.2.1.2.1 zt_z76.2.2, Jvm.Cond.code zt_z77.1 zt_z77.2.1 zt_m77.2.1.2.1 zt_z77.2.2, Jvm.Cond.code zt_z78.1 zt_z78.2.1 zt_m78.2.1.2.1 zt_z78.2.2, Jvm.Cond.code zt_z79.1 zt_z79.2.1 zt_m79.2.1.2.1 zt_z79.2.2, Jvm.Cond.code zt_z80.1 zt_z80.2.1 zt_m80.2.1.2.1 zt_z80.2.2, Jvm.Cond.code zt_z81.1 zt_z81.2.1 zt_m81.2.1.2.1 zt_z81.2.2, Jvm.Cond.code zt_z82.1 zt_z82.2.1 zt_m82.2.1.2.1 zt_z82.2.2, Jvm.Cond.code zt_z83.1 zt_z83.2.1 zt_m83.2.1.2.1 zt_z83.2.2, Jvm.Cond.code zt_z84.1 zt_z84.2.1 zt_m84.2.1.2.1 zt_z84.2.2, Jvm.Cond.code zt_z85.1 zt_z85.2.1 zt_m85.2.1.2.1 zt_z85.2.2, Jvm.Cond.code zt_z86.1 zt_z86.2.1 zt_m86.2.1.2.1 zt_z86.2.2, Jvm.Cond.code zt_z87.1 zt_z87.2.1 zt_m87.2.1.2.1 zt_z87.2.2, Jvm.Cond.code zt_z88.1 zt_z88.2.1 zt_m88.2.1.2.1 zt_z88.2.2, Jvm.Cond.code zt_z89.1 zt_z89.2.1 zt_m89.2.1.2.1 zt_z89.2.2, Jvm.Cond.code zt_z90.1 zt_z90.2.1 zt_m90.2.1.2.1 zt_z90.2.2, Jvm.Cond.code zt_z91.1 zt_z91.2.1 zt_m91.2.1.2.1 zt_z91.2.2, Jvm.Cond.code zt_z92.1 zt_z92.2.1 zt_m92.2.1.2.1 zt_z92.2.2, Jvm.Cond.code zt_z93.1 zt_z93.2.1 zt_m93.2.1.2.1 zt_z93.2.2, Jvm.Cond.code zt_z94.1 zt_z94.2.1 zt_m94.2.1.2.1 zt_z94.2.2, Jvm.Cond.code zt_z95.1 zt_z95.2.1 zt_m95.2.1.2.1 zt_z95.2.2, Jvm.Cond.code zt_z96.1 zt_z96.2.1 zt_m96.2.1.2.1 zt_z96.2.2, Jvm.Cond.code zt_z97.1 zt_z97.2.1 zt_m97.2.1.2.1 zt_z97.2.2, Jvm.Cond.code zt_z98.1 zt_z98.2.1 zt_m98.2.1.2.1 zt_z98.2.2, Jvm.Cond.code zt_z99.1 zt_z99.2.1 zt_m99.2.1.2.1 zt_z99.2.2, Jvm.Cond.code zt_z100.1 zt_z100.2.1 zt_m100.2.1.2.1 zt_z100.2.2, Jvm.Cond.code zt_z101.1 zt_z101.2.1 zt_m101.2.1.2.1 zt_z101.2.2, Jvm.Cond.code zt_z102.1 zt_z102.2.1 zt_m102.2.1.2.1 zt_z102.2.2, Jvm.Cond.code zt_z103.1 zt_z103.2.1 zt_m103.2.1.2.1 zt_z103.2.2, Jvm.Cond.code zt_z104.1 zt_z104.2.1 zt_m104.2.1.2.1 zt_z104.2.2, Jvm.Cond.code zt_z105.1 zt_z105.2.1 zt_m105.2.1.2.1 zt_z105.2.2, Jvm.Cond.code zt_z106.1 zt_z106.2.1 zt_m106.2.1.2.1 zt_z106.2.2, Jvm.Cond.code zt_z107.1 zt_z107.2.1 zt_m107.2.1.2.1 zt_z107.2.2, Jvm.Cond.code zt_z108.1 zt_z108.2.1 zt_m108.2.1.2.1 zt_z108.2.2, Jvm.Cond.code zt_z109.1 zt_z109.2.1 zt_m109.2.1.2.1 zt_z109.2.2, Jvm.Cond.code zt_z110.1 zt_z110.2.1 zt_m110.2.1.2.1 zt_z110.2.2, Jvm.Cond.code zt_z111.1 zt_z111.2.1 zt_m111.2.1.2.1 zt_z111.2.2, Jvm.Cond.code zt_z112.1 zt_z112.2.1 zt_m112.2.1.2.1 zt_z112.2.2, Jvm.Cond.code zt_z113.1 zt_z113.2.1 zt_m113.2.1.2.1 zt_z113.2.2, Jvm.Cond.code zt_z114.1 zt_z114.2.1 zt_m114.2.1.2.1 zt_z114.2.2, Jvm.Cond.code zt_z115.1 zt_z115.2.1 zt_m115.2.1.2.1 zt_z115.2.2, Jvm.Cond.code zt_z116.1 zt_z116.2.1 zt_m116.2.1.2.1 zt_z116.2.2, Jvm.Cond.code zt_z117.1 zt_z117.2.1 zt_m117.2.1.2.1 zt_z117.2.2, Jvm.Cond.code zt_z118.1 zt_z118.2.1 zt_m118.2.1.2.1 zt_z118.2.2, Jvm.Cond.code zt_z119.1 zt_z119.2.1 zt_m119.2.1.2.1 zt_z119.2.2, Jvm.Cond.code zt_z120.1 zt_z120.2.1 zt_m120.2.1.2.1 zt_z120.2.2, Jvm.Cond.code zt_z121.1 zt_z121.2.1 zt_m121.2.1.2.1 zt_z121.2.2, Jvm.Cond.code zt_z122.1 zt_z122.2.1 zt_m122.2.1.2.1 zt_z122.2.2, Jvm.Cond.code zt_z123.1 zt_z123.2.1 zt_m123.2.1.2.1 zt_z123.2.2, Jvm.Cond.code zt_z124.1 zt_z124.2.1 zt_m124.2.1.2.1 zt_z124.2.2, Jvm.Cond.code zt_z125.1 zt_z125.2.1 zt_m125.2.1.2.1 zt_z125.2.2, Jvm.Cond.code zt_z126.1 zt_z126.2.1 zt_m126.2.1.2.1 zt_z126.2.2, Jvm.Cond.code zt_z127.1 zt_z127.2.1 zt_m127.2.1.2.1 zt_z127.2.2, Jvm.Cond.code zt_z128.1 zt_z128.2.1 zt_m128.2.1.2.1 zt_z128.2.2, Jvm.Cond.code zt_z129.1 zt_z129.2.1 zt_m129.2.1.2.1 zt_z129.2.2, Jvm.Cond.code zt_z130.1 zt_z130.2.1 zt_m130.2.1.2.1 zt_z130.2.2, Jvm.Cond.code zt_z131.1 zt_z131.2.1 zt_m131.2.1.2.1 zt_z131.2.2, Jvm.Cond.code zt_z132.1 zt_z132.2.1 zt_m132.2.1.2.1 zt_z132.2.2, Jvm.Cond.code zt_z133.1 zt_z133.2.1 zt_m133.2.1.2.1 zt_z133.2.2, Jvm.Cond.code zt_z134.1 zt_z134.2.1 zt_m134.2.1.2.1 zt_z134.2.2, Jvm.Cond.code zt_z135.1 zt_z135.2.1 zt_m135.2.1.2.1 zt_z135.2.2, Jvm.Cond.code zt_z136.1 zt_z136.2.1 zt_m136.2.1.2.1 zt_z136.2.2, Jvm.Cond.code zt_z137.1 zt_z137.2.1 zt_m137.2.1.2.1 zt_z137.2.2, Jvm.Cond.code zt_z138.1 zt_z138.2.1 zt_m138.2.1.2.1 zt_z138.2.2, Jvm.Cond.code zt_z139.1 zt_z139.2.1 zt_m139.2.1.2.1 zt_z139.2.2, Jvm.Cond.code zt_z140.1 zt_z140.2.1 zt_m140.2.1.2.1 zt_z140.2.2, Jvm.Cond.code zt_z141.1 zt_z141.2.1 zt_m141.2.1.2.1 zt_z141.2.2, Jvm.Cond.code zt_z142.1 zt_z142.2.1 zt_m142.2.1.2.1 zt_z142.2.2, Jvm.Cond.code zt_z143.1 zt_z143.2.1 zt_m143.2.1.2.1 zt_z143.2.2, Jvm.Cond.code zt_z144.1 zt_z144.2.1 zt_m144.2.1.2.1 zt_z144.2.2, Jvm.Cond.code zt_z145.1 zt_z145.2.1 zt_m145.2.1.2.1 zt_z145.2.2, Jvm.Cond.code zt_z146.1 zt_z146.2.1 zt_m146.2.1.2.1 zt_z146.2.2, Jvm.Cond.code zt_z147.1 zt_z147.2.1 zt_m147.2.1.2.1 zt_z147.2.2, Jvm.Cond.code zt_z148.1 zt_z148.2.1 zt_m148.2.1.2.1 zt_z148.2.2, Jvm.Cond.code zt_z149.1 zt_z149.2.1 zt_m149.2.1.2.1 zt_z149.2.2, Jvm.Cond.code zt_z150.1 zt_z150.2.1 zt_m150.2.1.2.1 zt_z150.2.2, Jvm.Cond.code zt_z151.1 zt_z151.2.1 zt_m151.2.1.2.1 zt_z151.2.2, Jvm.Cond.code zt_z152.1 zt_z152.2.1 zt_m152.2.1.2.1 zt_z152.2.2, Jvm.Cond.code zt_z153.1 zt_z153.2.1 zt_m153.2.1.2.1 zt_z153.2.2, Jvm.Cond.code zt_z154.1 zt_z154.2.1 zt_m154.2.1.2.1 zt_z154.2.2, Jvm.Cond.code zt_z155.1 zt_z155.2.1 zt_m155.2.1.2.1 zt_z155.2.2, Jvm.Cond.code zt_z156.1 zt_z156.2.1 zt_m156.2.1.2.1 zt_z156.2.2, Jvm.Cond.code zt_z157.1 zt_z157.2.1 zt_m157.2.1.2.1 zt_z157.2.2, Jvm.Cond.code zt_z158.1 zt_z158.2.1 zt_m158.2.1.2.1 zt_z158.2.2, Jvm.Cond.code zt_z159.1 zt_z159.2.1 zt_m159.2.1.2.1 zt_z159.2.2, Jvm.Cond.code zt_z160.1 zt_z160.2.1 zt_m160.2.1.2.1 zt_z160.2.2, Jvm.Cond.code zt_z161.1 zt_z161.2.1 zt_m161.2.1.2.1 zt_z161.2.2, Jvm.Cond.code zt_z162.1 zt_z162.2.1 zt_m162.2.1.2.1 zt_z162.2.2, Jvm.Cond.code zt_z163.1 zt_z163.2.1 zt_m163.2.1.2.1 zt_z163.2.2, Jvm.Cond.code zt_z164.1 zt_z164.2.1 zt_m164.2.1.2.1 zt_z164.2.2, Jvm.Cond.code zt_z165.1 zt_z165.2.1 zt_m165.2.1.2.1 zt_z165.2.2, Jvm.Cond.code zt_z166.1 zt_z166.2.1 zt_m166.2.1.2.1 zt_z166.2.2, Jvm.Cond.code zt_z167.1 zt_z167.2.1 zt_m167.2.1.2.1 zt_z167.2.2, Jvm.Cond.code zt_z168.1 zt_z168.2.1 zt_m168.2.1.2.1 zt_z168.2.2, Jvm.Cond.code zt_z169.1 zt_z169.2.1 zt_m169.2.1.2.1 zt_z169.2.2, Jvm.Cond.code zt_z170.1 zt_z170.2.1 zt_m170.2.1.2.1 zt_z170.2.2]
noncomputable def zt_tbs : List (List Jvm.Cond) := [zt_wc0, zt_wc1, zt_wc2, zt_wc3, zt_wc4, zt_wc5, zt_wc6, zt_wc7, zt_wc8, zt_wc9, zt_wc10, zt_wc11, zt_wc12, zt_wk0, zt_wk1, zt_wk2, zt_wk3, zt_wk4, zt_wk5, zt_wk6, zt_wk7, zt_wk8, zt_wk9, zt_wk10, zt_wk11, zt_wk12, zt_wkL, zt_wy0, zt_wy1, zt_wy2, zt_wy3, zt_wy4, zt_wy5, zt_wy6, zt_wy7, zt_wy8, zt_wy9, zt_wy10, zt_wy11, zt_wy12, zt_wy13, zt_wy14, zt_wy15, zt_wy16, zt_wy17, zt_wy18, zt_wy19, zt_wy20, zt_wy21, zt_wy22, zt_wy23, zt_wy24, zt_wy25, zt_wy26, zt_wy27, zt_wy28, zt_wy29, zt_wy30, zt_wy31, zt_wy32, zt_wy33, zt_wy34, zt_wy35, zt_wy36, zt_wy37, zt_wy38, zt_wy39, zt_wy40, zt_wy41, zt_wy42, zt_wy43, zt_wy44, zt_wy45, zt_wy46, zt_wy47, zt_wy48, zt_wy49, zt_wy50, zt_wy51, zt_wy52, zt_wy53, zt_wy54, zt_wy55, zt_wy56, zt_wy57, zt_wy58, zt_wy59, zt_wy60, zt_wy61, zt_wy62, zt_wy63, zt_wy64, zt_wy65, zt_wy66, zt_wy67, zt_wy68, zt_wy69, zt_wy70, zt_wy71, zt_wy72, zt_wy73, zt_wy74, zt_wy75, zt_wy76, zt_wy77, zt_wy78, zt_wy79, zt_wy80, zt_wy81, zt_wy82, zt_wy83, zt_wy84, zt_wy85, zt_wy86, zt_wy87, zt_wy88, zt_wy89, zt_wy90, zt_wy91, zt_wy92, zt_wy93, zt_wy94, zt_wy95, zt_wy96, zt_wy97, zt_wy98, zt_wy99, zt_wy100, zt_wy101, zt_wy102, zt_wy103, zt_wy104, zt_wy105, zt_wy106, zt_wy107, zt_wy108, zt_wy109, zt_wy110, zt_wy111, zt_wy112, zt_wy113, zt_wy114, zt_wy115, zt_wy116, zt_wy117, zt_wy118, zt_wy119, zt_wy120, zt_wy121, zt_wy122, zt_wy123, zt_wy124, zt_wy125, zt_wy126, zt_wy127, zt_wy128, zt_wy129, zt_wy130, zt_wy131, zt_wy132, zt_wy133, zt_wy134, zt_wy135, zt_wy136, zt_wy137, zt_wy138, zt_wy139, zt_wy140, zt_wy141, zt_wy142, zt_wy143, zt_wy144, zt_wy145, zt_wy146, zt_wy147, zt_wy148, zt_wy149, zt_wy150, zt_wy151, zt_wy152, zt_wy153, zt_wy154, zt_wy155, zt_wy156, zt_wy157, zt_wy158, zt_wy159, zt_wy160, zt_wy161, zt_wy162, zt_wy163, zt_wy164, zt_wy165, zt_wy166, zt_wy167, zt_wy168, zt_wy169, zt_wy170, zt_wx, zt_wj, zt_wcd]
noncomputable def zt_tb : List Jvm.Cond := zt_tbs.flatten

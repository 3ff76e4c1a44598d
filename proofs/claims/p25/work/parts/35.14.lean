set_option maxHeartbeats 4000000 in
theorem zl_147 (n : Nat) {a0 a1 a2 a3 : Int} {m0 : zu_m} (hc0 : zcls a0 = 28)   : ∀ k : Nat, (∀ (mh : zu_m), zi_I mh → zfr [(28, 3), (28, 54), (122, 0), (123, 0)] m0 mh → (0 ≤ a1 ∧ a1 ≤ 3) → (0 ≤ a2 ∧ a2 ≤ 47) → ((-2147483648) ≤ a3 ∧ a3 ≤ 2147483647) → (0 ≤ mh a0 2 ∧ mh a0 2 ≤ 0) → (a1 < 2 → (0 ≤ a2 ∧ a2 ≤ 3 ∧ 0 ≤ a3 ∧ a3 ≤ 17)) → (a1 = 2 → (0 ≤ a2 ∧ a2 ≤ 47)) → (a1 = 3 → (0 ≤ a2 ∧ a2 ≤ 17)) → (zR_KN mh) → (zR_LT mh) → 1 < (k : Int) → zw (zu_ex (zt_T n) 147 70 [(40, a0), (0, a1), (0, a2), (0, a3), (2, 0), (2, 0), (2, 0)] [] mh) (fun v m => zi_I m ∧ zfr [(28, 3), (28, 54), (122, 0), (123, 0)] m0 m ∧ zR_KN m ∧ zR_LT m ∧ ((-9223372036854775808) ≤ v ∧ v ≤ 9223372036854775807) ∧ (0 ≤ m a0 2 ∧ m a0 2 ≤ 0))) ∧ (∀ (x4 : Int) (mh : zu_m), zi_I mh → zfr [(28, 3), (28, 54), (122, 0), (123, 0)] m0 mh → (0 ≤ a1 ∧ a1 ≤ 3) → (0 ≤ a2 ∧ a2 ≤ 47) → ((-2147483648) ≤ a3 ∧ a3 ≤ 2147483647) → (0 ≤ x4 ∧ x4 ≤ 3) → (0 ≤ mh a0 2 ∧ mh a0 2 ≤ 0) → (a1 < 2 → (0 ≤ a2 ∧ a2 ≤ 3 ∧ 0 ≤ a3 ∧ a3 ≤ 17)) → (a1 = 2 → (0 ≤ a2 ∧ a2 ≤ 47)) → (a1 = 3 → (0 ≤ a2 ∧ a2 ≤ 17)) → ((mh 205 x4) = 1) → (zR_KN mh) → (zR_LT mh) → 0 < (k : Int) → zw (zu_ex (zt_T n) 147 113 [(40, a0), (0, a1), (0, a2), (0, a3), (0, x4), (2, 0), (2, 0)] [] mh) (fun v m => zi_I m ∧ zfr [(28, 3), (28, 54), (122, 0), (123, 0)] m0 m ∧ zR_KN m ∧ zR_LT m ∧ ((-9223372036854775808) ≤ v ∧ v ≤ 9223372036854775807) ∧ (0 ≤ m a0 2 ∧ m a0 2 ≤ 0))) := by
  intro k
  induction k with
  | zero => exact ⟨fun mh hImh hFmh hba1 hba2 hba3 hg3 hH0 hH1 hH2 hRKNmh hRLTmh hM => by exfalso; omega, fun x4 mh hImh hFmh hba1 hba2 hba3 hbx4 hg4 hH0 hH1 hH2 hH3 hRKNmh hRLTmh hM => by exfalso; omega⟩
  | succ k ih =>
    refine ⟨?_, ?_⟩
    · intro mh hImh hFmh hba1 hba2 hba3 hg3 hH0 hH1 hH2 hRKNmh hRLTmh hM
      refine zw_eq (zu_rega_at (zt_T n) (zm_147 n) (zdp_147 n) _ _ _ _ _ _ (zr_147_70 n _ _ a0 a1 a2 a3 mh)) ?_
      refine zw_ite (fun h1 => ?_) (fun h1 => ?_)
      · refine zw_ite (fun h2 => ?_) (fun h2 => ?_)
        · refine zw_ite (fun h3 => ?_) (fun h3 => ?_)
          · have b4 : 0 ≤ (3 : Int) ∧ (3 : Int) < 8 := by omega
            refine zw_if b4 ?_
            have r5 : 0 ≤ (mh 205 3) ∧ (mh 205 3) ≤ 1 := zi_rd hImh zq_205 (zb_114 _)
            refine zw_ite (fun h6 => ?_) (fun h6 => ?_)
            · have hM : 0 < (k : Int) := by omega
              exact ih.2 3 mh hImh hFmh ⟨by omega, by omega⟩ ⟨by omega, by omega⟩ ⟨by omega, by omega⟩ ⟨by omega, by omega⟩ ⟨by omega, by omega⟩ (by omega) (by omega) (by omega) (by omega) hRKNmh hRLTmh hM
            · exact zw_some ⟨hImh, hFmh, hRKNmh, hRLTmh, ⟨by decide, by decide⟩, ⟨by omega, by omega⟩⟩
          · have b7 : 0 ≤ (1 : Int) ∧ (1 : Int) < 8 := by omega
            refine zw_if b7 ?_
            have r8 : 0 ≤ (mh 205 1) ∧ (mh 205 1) ≤ 1 := zi_rd hImh zq_205 (zb_114 _)
            refine zw_ite (fun h9 => ?_) (fun h9 => ?_)
            · have hM : 0 < (k : Int) := by omega
              exact ih.2 1 mh hImh hFmh ⟨by omega, by omega⟩ ⟨by omega, by omega⟩ ⟨by omega, by omega⟩ ⟨by omega, by omega⟩ ⟨by omega, by omega⟩ (by omega) (by omega) (by omega) (by omega) hRKNmh hRLTmh hM
            · exact zw_some ⟨hImh, hFmh, hRKNmh, hRLTmh, ⟨by decide, by decide⟩, ⟨by omega, by omega⟩⟩
        · have b10 : 0 ≤ (2 : Int) ∧ (2 : Int) < 8 := by omega
          refine zw_if b10 ?_
          have r11 : 0 ≤ (mh 205 2) ∧ (mh 205 2) ≤ 1 := zi_rd hImh zq_205 (zb_114 _)
          refine zw_ite (fun h12 => ?_) (fun h12 => ?_)
          · have hM : 0 < (k : Int) := by omega
            exact ih.2 2 mh hImh hFmh ⟨by omega, by omega⟩ ⟨by omega, by omega⟩ ⟨by omega, by omega⟩ ⟨by omega, by omega⟩ ⟨by omega, by omega⟩ (by omega) (by omega) (by omega) (by omega) hRKNmh hRLTmh hM
          · exact zw_some ⟨hImh, hFmh, hRKNmh, hRLTmh, ⟨by decide, by decide⟩, ⟨by omega, by omega⟩⟩
      · have b13 : 0 ≤ (0 : Int) ∧ (0 : Int) < 8 := by omega
        refine zw_if b13 ?_
        have r14 : 0 ≤ (mh 205 0) ∧ (mh 205 0) ≤ 1 := zi_rd hImh zq_205 (zb_114 _)
        refine zw_ite (fun h15 => ?_) (fun h15 => ?_)
        · have hM : 0 < (k : Int) := by omega
          exact ih.2 0 mh hImh hFmh ⟨by omega, by omega⟩ ⟨by omega, by omega⟩ ⟨by omega, by omega⟩ ⟨by omega, by omega⟩ ⟨by omega, by omega⟩ (by omega) (by omega) (by omega) (by omega) hRKNmh hRLTmh hM
        · exact zw_some ⟨hImh, hFmh, hRKNmh, hRLTmh, ⟨by decide, by decide⟩, ⟨by omega, by omega⟩⟩
    · intro x4 mh hImh hFmh hba1 hba2 hba3 hbx4 hg4 hH0 hH1 hH2 hH3 hRKNmh hRLTmh hM
      refine zw_eq (zu_rega_at (zt_T n) (zm_147 n) (zdp_147 n) _ _ _ _ _ _ (zr_147_113 n _ _ a0 a1 a2 a3 x4 mh)) ?_
      have r16 : 0 ≤ (mh 205 x4) ∧ (mh 205 x4) ≤ 1 := zi_rd hImh zq_205 (zb_114 _)
      refine zw_ite (fun h17 => ?_) (fun h17 => ?_)
      · refine zw_ite (fun h18 => ?_) (fun h18 => ?_)
        · have b19 : 0 ≤ a2 ∧ a2 < 36 := by omega
          refine zw_if b19 ?_
          have r20 : 0 ≤ (mh 199 a2) ∧ (mh 199 a2) ≤ 9 := zi_rd hImh zq_199 (zb_108 _)
          have b21 : 0 ≤ a2 ∧ a2 < 36 := by omega
          refine zw_if b21 ?_
          have r22 : 0 ≤ (mh 197 a2) ∧ (mh 197 a2) ≤ 47 := zi_rd hImh zq_197 (zb_106 _)
          have b23 : 0 ≤ a2 ∧ a2 < 36 := by omega
          refine zw_if b23 ?_
          have r24 : 0 ≤ (mh 198 a2) ∧ (mh 198 a2) ≤ 3 := zi_rd hImh zq_198 (zb_107 _)
          have b25 : 0 ≤ (0 : Int) ∧ (0 : Int) < 2 := by omega
          refine zw_if b25 ?_
          have r26 : (-2147483648) ≤ (mh 221 0) ∧ (mh 221 0) ≤ 2147483647 := zi_rd hImh zq_221 (zb_130 _)
          refine zw_bd (zw_mono (zk_38 n hImh hc0 ⟨by decide, by decide⟩ ⟨by omega, by omega⟩ ⟨by omega, by omega⟩ ⟨by omega, by omega⟩ ⟨by decide, by decide⟩ ⟨by omega, by omega⟩) (fun v28 m27 hqm27 => ?_))
          obtain ⟨hIm27, hfm27, hvm27⟩ := hqm27
          have hFm27 := zfr_tr hFmh hfm27 rfl
          have hRKNm27 := zR_KN_fr (zdis_fr hfm27 rfl) hRKNmh
          have hRLTm27 := zR_LT_fr (zdis_fr hfm27 rfl) hRLTmh
          have r29 : 0 ≤ (m27 205 x4) ∧ (m27 205 x4) ≤ 1 := zi_rd hIm27 zq_205 (zb_114 _)
          have e30 : (m27 205 x4) = (mh 205 x4) := (zfr_ap hfm27 zq_205 rfl)
          refine zw_bd (zw_mono (zk_127 n hIm27 hc0 ⟨by omega, by omega⟩ (by omega) hRKNm27 hRLTm27) (fun v32 m31 hqm31 => ?_))
          obtain ⟨hIm31, hfm31, hvm31⟩ := hqm31
          have hFm31 := zfr_tr hFm27 hfm31 rfl
          obtain ⟨hRKNm31, hRLTm31, hvm31⟩ := hvm31
          have r33 : 0 ≤ (m31 a0 53) ∧ (m31 a0 53) ≤ 1 := zi_rd hIm31 hc0 zb_28_53
          refine zw_ite (fun h34 => ?_) (fun h34 => ?_)
          · have r35 : (-2147483648) ≤ (m31 a0 2) ∧ (m31 a0 2) ≤ 2147483647 := zi_rd hIm31 hc0 zb_28_2
            have e36 : (m31 a0 2) = (mh a0 2) := (Eq.trans (zfr_ap hfm31 hc0 rfl) (zfr_ap hfm27 hc0 rfl))
            exact zw_some ⟨hIm31, hFm31, hRKNm31, hRLTm31, ⟨by omega, by omega⟩, ⟨by omega, by omega⟩⟩
          · have r37 : (-2147483648) ≤ (m31 a0 2) ∧ (m31 a0 2) ≤ 2147483647 := zi_rd hIm31 hc0 zb_28_2
            have e38 : (m31 a0 2) = (mh a0 2) := (Eq.trans (zfr_ap hfm31 hc0 rfl) (zfr_ap hfm27 hc0 rfl))
            exact zw_some ⟨hIm31, hFm31, hRKNm31, hRLTm31, ⟨by decide, by decide⟩, ⟨by omega, by omega⟩⟩
        · refine zw_bd (zw_mono (zk_38 n hImh hc0 ⟨by decide, by decide⟩ ⟨by decide, by decide⟩ ⟨by omega, by omega⟩ ⟨by decide, by decide⟩ ⟨by decide, by decide⟩ ⟨by decide, by decide⟩) (fun v40 m39 hqm39 => ?_))
          obtain ⟨hIm39, hfm39, hvm39⟩ := hqm39
          have hFm39 := zfr_tr hFmh hfm39 rfl
          have hRKNm39 := zR_KN_fr (zdis_fr hfm39 rfl) hRKNmh
          have hRLTm39 := zR_LT_fr (zdis_fr hfm39 rfl) hRLTmh
          have r41 : 0 ≤ (m39 205 x4) ∧ (m39 205 x4) ≤ 1 := zi_rd hIm39 zq_205 (zb_114 _)
          have e42 : (m39 205 x4) = (mh 205 x4) := (zfr_ap hfm39 zq_205 rfl)
          refine zw_bd (zw_mono (zk_127 n hIm39 hc0 ⟨by omega, by omega⟩ (by omega) hRKNm39 hRLTm39) (fun v44 m43 hqm43 => ?_))
          obtain ⟨hIm43, hfm43, hvm43⟩ := hqm43
          have hFm43 := zfr_tr hFm39 hfm43 rfl
          obtain ⟨hRKNm43, hRLTm43, hvm43⟩ := hvm43
          have r45 : 0 ≤ (m43 a0 53) ∧ (m43 a0 53) ≤ 1 := zi_rd hIm43 hc0 zb_28_53
          refine zw_ite (fun h46 => ?_) (fun h46 => ?_)
          · have r47 : (-2147483648) ≤ (m43 a0 2) ∧ (m43 a0 2) ≤ 2147483647 := zi_rd hIm43 hc0 zb_28_2
            have e48 : (m43 a0 2) = (mh a0 2) := (Eq.trans (zfr_ap hfm43 hc0 rfl) (zfr_ap hfm39 hc0 rfl))
            exact zw_some ⟨hIm43, hFm43, hRKNm43, hRLTm43, ⟨by omega, by omega⟩, ⟨by omega, by omega⟩⟩
          · have r49 : (-2147483648) ≤ (m43 a0 2) ∧ (m43 a0 2) ≤ 2147483647 := zi_rd hIm43 hc0 zb_28_2
            have e50 : (m43 a0 2) = (mh a0 2) := (Eq.trans (zfr_ap hfm43 hc0 rfl) (zfr_ap hfm39 hc0 rfl))
            exact zw_some ⟨hIm43, hFm43, hRKNm43, hRLTm43, ⟨by decide, by decide⟩, ⟨by omega, by omega⟩⟩
      · have b51 : 0 ≤ a2 ∧ a2 < 8 := by omega
        refine zw_if b51 ?_
        have r52 : 0 ≤ (mh 202 a2) ∧ (mh 202 a2) ≤ 15 := zi_rd hImh zq_202 (zb_111 _)
        have b53 : 0 ≤ a3 ∧ a3 < 36 := by omega
        refine zw_if b53 ?_
        have r54 : 0 ≤ (mh 199 a3) ∧ (mh 199 a3) ≤ 9 := zi_rd hImh zq_199 (zb_108 _)
        have b55 : 0 ≤ a3 ∧ a3 < 36 := by omega
        refine zw_if b55 ?_
        have r56 : 0 ≤ (mh 197 a3) ∧ (mh 197 a3) ≤ 47 := zi_rd hImh zq_197 (zb_106 _)
        have b57 : 0 ≤ a3 ∧ a3 < 36 := by omega
        refine zw_if b57 ?_
        have r58 : 0 ≤ (mh 198 a3) ∧ (mh 198 a3) ≤ 3 := zi_rd hImh zq_198 (zb_107 _)
        have b59 : 0 ≤ a3 ∧ a3 < 36 := by omega
        refine zw_if b59 ?_
        refine zw_nif (by omega) ?_
        have d60 : Int.tmod a2 4 = a2 % 4 := Int.tmod_eq_emod_of_nonneg (by omega)
        refine zw_ite (fun h61 => ?_) (fun h61 => ?_)
        · refine zw_ite (fun h62 => ?_) (fun h62 => ?_)
          · refine zw_bd (zw_mono (zk_38 n hImh hc0 ⟨by omega, by omega⟩ ⟨by omega, by omega⟩ ⟨by omega, by omega⟩ ⟨by omega, by omega⟩ ⟨by decide, by decide⟩ ⟨by decide, by decide⟩) (fun v64 m63 hqm63 => ?_))
            obtain ⟨hIm63, hfm63, hvm63⟩ := hqm63
            have hFm63 := zfr_tr hFmh hfm63 rfl
            have hRKNm63 := zR_KN_fr (zdis_fr hfm63 rfl) hRKNmh
            have hRLTm63 := zR_LT_fr (zdis_fr hfm63 rfl) hRLTmh
            have r65 : 0 ≤ (m63 205 x4) ∧ (m63 205 x4) ≤ 1 := zi_rd hIm63 zq_205 (zb_114 _)
            have e66 : (m63 205 x4) = (mh 205 x4) := (zfr_ap hfm63 zq_205 rfl)
            refine zw_bd (zw_mono (zk_127 n hIm63 hc0 ⟨by omega, by omega⟩ (by omega) hRKNm63 hRLTm63) (fun v68 m67 hqm67 => ?_))
            obtain ⟨hIm67, hfm67, hvm67⟩ := hqm67
            have hFm67 := zfr_tr hFm63 hfm67 rfl
            obtain ⟨hRKNm67, hRLTm67, hvm67⟩ := hvm67
            have r69 : 0 ≤ (m67 a0 53) ∧ (m67 a0 53) ≤ 1 := zi_rd hIm67 hc0 zb_28_53
            refine zw_ite (fun h70 => ?_) (fun h70 => ?_)
            · have r71 : (-2147483648) ≤ (m67 a0 2) ∧ (m67 a0 2) ≤ 2147483647 := zi_rd hIm67 hc0 zb_28_2
              have e72 : (m67 a0 2) = (mh a0 2) := (Eq.trans (zfr_ap hfm67 hc0 rfl) (zfr_ap hfm63 hc0 rfl))
              exact zw_some ⟨hIm67, hFm67, hRKNm67, hRLTm67, ⟨by omega, by omega⟩, ⟨by omega, by omega⟩⟩
            · have r73 : (-2147483648) ≤ (m67 a0 2) ∧ (m67 a0 2) ≤ 2147483647 := zi_rd hIm67 hc0 zb_28_2
              have e74 : (m67 a0 2) = (mh a0 2) := (Eq.trans (zfr_ap hfm67 hc0 rfl) (zfr_ap hfm63 hc0 rfl))
              exact zw_some ⟨hIm67, hFm67, hRKNm67, hRLTm67, ⟨by decide, by decide⟩, ⟨by omega, by omega⟩⟩
          · refine zw_bd (zw_mono (zk_130 n hImh hc0 ⟨by decide, by decide⟩ ⟨by omega, by omega⟩) (fun v76 m75 hqm75 => ?_))
            obtain ⟨hIm75, hfm75, hvm75⟩ := hqm75
            have hFm75 := zfr_tr hFmh hfm75 rfl
            have hRKNm75 := zR_KN_fr (zdis_fr hfm75 rfl) hRKNmh
            have hRLTm75 := zR_LT_fr (zdis_fr hfm75 rfl) hRLTmh
            refine zw_bd (zw_mono (zk_38 n hIm75 hc0 ⟨by omega, by omega⟩ ⟨by omega, by omega⟩ ⟨by omega, by omega⟩ ⟨by omega, by omega⟩ ⟨by decide, by decide⟩ ⟨by omega, by omega⟩) (fun v78 m77 hqm77 => ?_))
            obtain ⟨hIm77, hfm77, hvm77⟩ := hqm77
            have hFm77 := zfr_tr hFm75 hfm77 rfl
            have hRKNm77 := zR_KN_fr (zdis_fr hfm77 rfl) hRKNm75
            have hRLTm77 := zR_LT_fr (zdis_fr hfm77 rfl) hRLTm75
            have r79 : 0 ≤ (m77 205 x4) ∧ (m77 205 x4) ≤ 1 := zi_rd hIm77 zq_205 (zb_114 _)
            have e80 : (m77 205 x4) = (mh 205 x4) := (Eq.trans (zfr_ap hfm77 zq_205 rfl) (zfr_ap hfm75 zq_205 rfl))
            refine zw_bd (zw_mono (zk_127 n hIm77 hc0 ⟨by omega, by omega⟩ (by omega) hRKNm77 hRLTm77) (fun v82 m81 hqm81 => ?_))
            obtain ⟨hIm81, hfm81, hvm81⟩ := hqm81
            have hFm81 := zfr_tr hFm77 hfm81 rfl
            obtain ⟨hRKNm81, hRLTm81, hvm81⟩ := hvm81
            have r83 : 0 ≤ (m81 a0 53) ∧ (m81 a0 53) ≤ 1 := zi_rd hIm81 hc0 zb_28_53
            refine zw_ite (fun h84 => ?_) (fun h84 => ?_)
            · have r85 : (-2147483648) ≤ (m81 a0 2) ∧ (m81 a0 2) ≤ 2147483647 := zi_rd hIm81 hc0 zb_28_2
              have e86 : (m81 a0 2) = (mh a0 2) := (Eq.trans (zfr_ap hfm81 hc0 rfl) (Eq.trans (zfr_ap hfm77 hc0 rfl) (zfr_ap hfm75 hc0 rfl)))
              exact zw_some ⟨hIm81, hFm81, hRKNm81, hRLTm81, ⟨by omega, by omega⟩, ⟨by omega, by omega⟩⟩
            · have r87 : (-2147483648) ≤ (m81 a0 2) ∧ (m81 a0 2) ≤ 2147483647 := zi_rd hIm81 hc0 zb_28_2
              have e88 : (m81 a0 2) = (mh a0 2) := (Eq.trans (zfr_ap hfm81 hc0 rfl) (Eq.trans (zfr_ap hfm77 hc0 rfl) (zfr_ap hfm75 hc0 rfl)))
              exact zw_some ⟨hIm81, hFm81, hRKNm81, hRLTm81, ⟨by decide, by decide⟩, ⟨by omega, by omega⟩⟩
        · refine zw_ite (fun h89 => ?_) (fun h89 => ?_)
          · refine zw_bd (zw_mono (zk_38 n hImh hc0 ⟨by omega, by omega⟩ ⟨by omega, by omega⟩ ⟨by omega, by omega⟩ ⟨by omega, by omega⟩ ⟨by decide, by decide⟩ ⟨by decide, by decide⟩) (fun v91 m90 hqm90 => ?_))
            obtain ⟨hIm90, hfm90, hvm90⟩ := hqm90
            have hFm90 := zfr_tr hFmh hfm90 rfl
            have hRKNm90 := zR_KN_fr (zdis_fr hfm90 rfl) hRKNmh
            have hRLTm90 := zR_LT_fr (zdis_fr hfm90 rfl) hRLTmh
            have r92 : 0 ≤ (m90 205 x4) ∧ (m90 205 x4) ≤ 1 := zi_rd hIm90 zq_205 (zb_114 _)
            have e93 : (m90 205 x4) = (mh 205 x4) := (zfr_ap hfm90 zq_205 rfl)
            refine zw_bd (zw_mono (zk_127 n hIm90 hc0 ⟨by omega, by omega⟩ (by omega) hRKNm90 hRLTm90) (fun v95 m94 hqm94 => ?_))
            obtain ⟨hIm94, hfm94, hvm94⟩ := hqm94
            have hFm94 := zfr_tr hFm90 hfm94 rfl
            obtain ⟨hRKNm94, hRLTm94, hvm94⟩ := hvm94
            have r96 : 0 ≤ (m94 a0 53) ∧ (m94 a0 53) ≤ 1 := zi_rd hIm94 hc0 zb_28_53
            refine zw_ite (fun h97 => ?_) (fun h97 => ?_)
            · have r98 : (-2147483648) ≤ (m94 a0 2) ∧ (m94 a0 2) ≤ 2147483647 := zi_rd hIm94 hc0 zb_28_2
              have e99 : (m94 a0 2) = (mh a0 2) := (Eq.trans (zfr_ap hfm94 hc0 rfl) (zfr_ap hfm90 hc0 rfl))
              exact zw_some ⟨hIm94, hFm94, hRKNm94, hRLTm94, ⟨by omega, by omega⟩, ⟨by omega, by omega⟩⟩
            · have r100 : (-2147483648) ≤ (m94 a0 2) ∧ (m94 a0 2) ≤ 2147483647 := zi_rd hIm94 hc0 zb_28_2
              have e101 : (m94 a0 2) = (mh a0 2) := (Eq.trans (zfr_ap hfm94 hc0 rfl) (zfr_ap hfm90 hc0 rfl))
              exact zw_some ⟨hIm94, hFm94, hRKNm94, hRLTm94, ⟨by decide, by decide⟩, ⟨by omega, by omega⟩⟩
          · refine zw_bd (zw_mono (zk_130 n hImh hc0 ⟨by decide, by decide⟩ ⟨by omega, by omega⟩) (fun v103 m102 hqm102 => ?_))
            obtain ⟨hIm102, hfm102, hvm102⟩ := hqm102
            have hFm102 := zfr_tr hFmh hfm102 rfl
            have hRKNm102 := zR_KN_fr (zdis_fr hfm102 rfl) hRKNmh
            have hRLTm102 := zR_LT_fr (zdis_fr hfm102 rfl) hRLTmh
            refine zw_bd (zw_mono (zk_38 n hIm102 hc0 ⟨by omega, by omega⟩ ⟨by omega, by omega⟩ ⟨by omega, by omega⟩ ⟨by omega, by omega⟩ ⟨by decide, by decide⟩ ⟨by omega, by omega⟩) (fun v105 m104 hqm104 => ?_))
            obtain ⟨hIm104, hfm104, hvm104⟩ := hqm104
            have hFm104 := zfr_tr hFm102 hfm104 rfl
            have hRKNm104 := zR_KN_fr (zdis_fr hfm104 rfl) hRKNm102
            have hRLTm104 := zR_LT_fr (zdis_fr hfm104 rfl) hRLTm102
            have r106 : 0 ≤ (m104 205 x4) ∧ (m104 205 x4) ≤ 1 := zi_rd hIm104 zq_205 (zb_114 _)
            have e107 : (m104 205 x4) = (mh 205 x4) := (Eq.trans (zfr_ap hfm104 zq_205 rfl) (zfr_ap hfm102 zq_205 rfl))
            refine zw_bd (zw_mono (zk_127 n hIm104 hc0 ⟨by omega, by omega⟩ (by omega) hRKNm104 hRLTm104) (fun v109 m108 hqm108 => ?_))
            obtain ⟨hIm108, hfm108, hvm108⟩ := hqm108
            have hFm108 := zfr_tr hFm104 hfm108 rfl
            obtain ⟨hRKNm108, hRLTm108, hvm108⟩ := hvm108
            have r110 : 0 ≤ (m108 a0 53) ∧ (m108 a0 53) ≤ 1 := zi_rd hIm108 hc0 zb_28_53
            refine zw_ite (fun h111 => ?_) (fun h111 => ?_)
            · have r112 : (-2147483648) ≤ (m108 a0 2) ∧ (m108 a0 2) ≤ 2147483647 := zi_rd hIm108 hc0 zb_28_2
              have e113 : (m108 a0 2) = (mh a0 2) := (Eq.trans (zfr_ap hfm108 hc0 rfl) (Eq.trans (zfr_ap hfm104 hc0 rfl) (zfr_ap hfm102 hc0 rfl)))
              exact zw_some ⟨hIm108, hFm108, hRKNm108, hRLTm108, ⟨by omega, by omega⟩, ⟨by omega, by omega⟩⟩
            · have r114 : (-2147483648) ≤ (m108 a0 2) ∧ (m108 a0 2) ≤ 2147483647 := zi_rd hIm108 hc0 zb_28_2
              have e115 : (m108 a0 2) = (mh a0 2) := (Eq.trans (zfr_ap hfm108 hc0 rfl) (Eq.trans (zfr_ap hfm104 hc0 rfl) (zfr_ap hfm102 hc0 rfl)))
              exact zw_some ⟨hIm108, hFm108, hRKNm108, hRLTm108, ⟨by decide, by decide⟩, ⟨by omega, by omega⟩⟩
set_option maxHeartbeats 4000000 in
theorem zk_147 (n : Nat) {a0 a1 a2 a3 : Int} {m0 : zu_m} (hIm0 : zi_I m0) (hc0 : zcls a0 = 28) (ha1 : (-2147483648) ≤ a1 ∧ a1 ≤ 2147483647) (ha2 : (-2147483648) ≤ a2 ∧ a2 ≤ 2147483647) (ha3 : (-2147483648) ≤ a3 ∧ a3 ≤ 2147483647)    (hRKNm0 : zR_KN m0) (hRLTm0 : zR_LT m0) : zw (zu_call (zt_T n) 147 [(40, a0), (0, a1), (0, a2), (0, a3)] m0) (fun v m => zi_I m ∧ zfr [(28, 3), (28, 54), (122, 0), (123, 0)] m0 m ∧ zR_KN m ∧ zR_LT m ∧ ((-9223372036854775808) ≤ v ∧ v ≤ 9223372036854775807) ∧ (0 ≤ m a0 2 ∧ m a0 2 ≤ 0)) := by
  have hFm0 : zfr [(28, 3), (28, 54), (122, 0), (123, 0)] m0 m0 := zfr_rf _ _
  refine zw_eq (zu_call_at (zt_T n) (zm_147 n) (zdp_147 n) _ _ _ _ _ rfl (zr_147_0 n _ _ a0 a1 a2 a3 m0)) ?_
  generalize hmm116 : zu_up m0 a0 2 0 = m116
  have hIm116 := zi_up hmm116 hIm0 hc0 zb_28_2 (by omega) (by omega)
  have hFm116 := zfr_up hmm116 hFm0 hc0 rfl
  have hRKNm116 := zR_KN_fr (zdis_fr (zfr_up hmm116 (zfr_rf [(28, 3)] _) hc0 rfl) rfl) hRKNm0
  have hRLTm116 := zR_LT_fr (zdis_fr (zfr_up hmm116 (zfr_rf [(28, 3)] _) hc0 rfl) rfl) hRLTm0
  refine zw_bd (zw_eq (zu_call_at (zt_T n) (zm_83 n) (zdp_83 n) _ _ _ _ _ rfl (zr_83_0 n _ _ a1 0 3 m116)) ?_)
  refine zw_ite (fun h117 => ?_) (fun h117 => ?_)
  · refine zw_b (by omega) ?_
    refine zw_some ?_
    refine zw_ite (fun h118 => ?_) (fun h118 => ?_)
    · exfalso; omega
    · have r119 : (-2147483648) ≤ (m116 a0 2) ∧ (m116 a0 2) ≤ 2147483647 := zi_rd hIm116 hc0 zb_28_2
      have e120 : (m116 a0 2) = 0 := (zs_eq hmm116)
      exact zw_some ⟨hIm116, hFm116, hRKNm116, hRLTm116, ⟨by decide, by decide⟩, ⟨by omega, by omega⟩⟩
  · refine zw_ite (fun h121 => ?_) (fun h121 => ?_)
    · refine zw_b (by omega) ?_
      refine zw_some ?_
      refine zw_ite (fun h122 => ?_) (fun h122 => ?_)
      · exfalso; omega
      · have r123 : (-2147483648) ≤ (m116 a0 2) ∧ (m116 a0 2) ≤ 2147483647 := zi_rd hIm116 hc0 zb_28_2
        have e124 : (m116 a0 2) = 0 := (zs_eq hmm116)
        exact zw_some ⟨hIm116, hFm116, hRKNm116, hRLTm116, ⟨by decide, by decide⟩, ⟨by omega, by omega⟩⟩
    · refine zw_b (by omega) ?_
      refine zw_some ?_
      refine zw_ite (fun h125 => ?_) (fun h125 => ?_)
      · refine zw_ite (fun h126 => ?_) (fun h126 => ?_)
        · refine zw_ite (fun h127 => ?_) (fun h127 => ?_)
          · refine zw_bd (zw_eq (zu_call_at (zt_T n) (zm_124 n) (zdp_124 n) _ _ _ _ _ rfl (zr_124_0 n _ _ a0 a2 m116)) ?_)
            refine zw_ite (fun h128 => ?_) (fun h128 => ?_)
            · refine zw_b (by omega) ?_
              refine zw_some ?_
              refine zw_ite (fun h129 => ?_) (fun h129 => ?_)
              · exfalso; omega
              · have r130 : (-2147483648) ≤ (m116 a0 2) ∧ (m116 a0 2) ≤ 2147483647 := zi_rd hIm116 hc0 zb_28_2
                have e131 : (m116 a0 2) = 0 := (zs_eq hmm116)
                exact zw_some ⟨hIm116, hFm116, hRKNm116, hRLTm116, ⟨by decide, by decide⟩, ⟨by omega, by omega⟩⟩
            · have b132 : 0 ≤ (0 : Int) ∧ (0 : Int) < 2 := by omega
              refine zw_if b132 ?_
              have r133 : 0 ≤ (m116 216 0) ∧ (m116 216 0) ≤ 16 := zi_rdr (m := 2) (r0 := 0) (r1 := 0) hIm116 zq_216 (by omega) (by decide +kernel)
              refine zw_ite (fun h134 => ?_) (fun h134 => ?_)
              · refine zw_b (by omega) ?_
                refine zw_some ?_
                refine zw_ite (fun h135 => ?_) (fun h135 => ?_)
                · exfalso; omega
                · have r136 : (-2147483648) ≤ (m116 a0 2) ∧ (m116 a0 2) ≤ 2147483647 := zi_rd hIm116 hc0 zb_28_2
                  have e137 : (m116 a0 2) = 0 := (zs_eq hmm116)
                  exact zw_some ⟨hIm116, hFm116, hRKNm116, hRLTm116, ⟨by decide, by decide⟩, ⟨by omega, by omega⟩⟩
              · refine zw_b (by omega) ?_
                refine zw_some ?_
                refine zw_ite (fun h138 => ?_) (fun h138 => ?_)
                · have r139 : (-2147483648) ≤ (m116 a0 2) ∧ (m116 a0 2) ≤ 2147483647 := zi_rd hIm116 hc0 zb_28_2
                  have e140 : (m116 a0 2) = 0 := (zs_eq hmm116)
                  have hM : 1 < ((2 : Nat) : Int) := by omega
                  exact (zl_147 n (m0 := m0) hc0 2).1  m116 hIm116 hFm116 ⟨by omega, by omega⟩ ⟨by omega, by omega⟩ ⟨by omega, by omega⟩ ⟨by omega, by omega⟩ (by omega) (by omega) (by omega) hRKNm116 hRLTm116 hM
                · exfalso; omega
          · refine zw_bd (zw_eq (zu_call_at (zt_T n) (zm_123 n) (zdp_123 n) _ _ _ _ _ rfl (zr_123_0 n _ _ a0 a2 m116)) ?_)
            refine zw_ite (fun h141 => ?_) (fun h141 => ?_)
            · refine zw_b (by omega) ?_
              refine zw_some ?_
              refine zw_ite (fun h142 => ?_) (fun h142 => ?_)
              · exfalso; omega
              · have r143 : (-2147483648) ≤ (m116 a0 2) ∧ (m116 a0 2) ≤ 2147483647 := zi_rd hIm116 hc0 zb_28_2
                have e144 : (m116 a0 2) = 0 := (zs_eq hmm116)
                exact zw_some ⟨hIm116, hFm116, hRKNm116, hRLTm116, ⟨by decide, by decide⟩, ⟨by omega, by omega⟩⟩
            · refine zw_bd (zw_eq (zu_call_at (zt_T n) (zm_36 n) (zdp_36 n) _ _ _ _ _ rfl (zr_36_0 n _ _ a0 m116)) ?_)
              have r145 : 1 ≤ (m116 a0 12) ∧ (m116 a0 12) ≤ 8 := zi_rd hIm116 hc0 zb_28_12
              have r146 : 1 ≤ (m116 a0 13) ∧ (m116 a0 13) ≤ 6 := zi_rd hIm116 hc0 zb_28_13
              have p147 := zmul_bd (x := (m116 a0 12)) (y := (m116 a0 13)) (a := 1) (b := 1) (A := 8) (B := 6) (by omega) (by omega) (by omega) (by omega) (by omega) (by omega)
              have w148 := zu_w32_id (z := (m116 a0 12) * (m116 a0 13)) (by omega) (by omega)
              refine zw_some ?_
              refine zw_ite (fun h149 => ?_) (fun h149 => ?_)
              · refine zw_b (by omega) ?_
                refine zw_some ?_
                refine zw_ite (fun h150 => ?_) (fun h150 => ?_)
                · exfalso; omega
                · have r151 : (-2147483648) ≤ (m116 a0 2) ∧ (m116 a0 2) ≤ 2147483647 := zi_rd hIm116 hc0 zb_28_2
                  have e152 : (m116 a0 2) = 0 := (zs_eq hmm116)
                  exact zw_some ⟨hIm116, hFm116, hRKNm116, hRLTm116, ⟨by decide, by decide⟩, ⟨by omega, by omega⟩⟩
              · refine zw_b (by omega) ?_
                refine zw_some ?_
                refine zw_ite (fun h153 => ?_) (fun h153 => ?_)
                · have r154 : (-2147483648) ≤ (m116 a0 2) ∧ (m116 a0 2) ≤ 2147483647 := zi_rd hIm116 hc0 zb_28_2
                  have e155 : (m116 a0 2) = 0 := (zs_eq hmm116)
                  have hM : 1 < ((2 : Nat) : Int) := by omega
                  exact (zl_147 n (m0 := m0) hc0 2).1  m116 hIm116 hFm116 ⟨by omega, by omega⟩ ⟨by omega, by omega⟩ ⟨by omega, by omega⟩ ⟨by omega, by omega⟩ (by omega) (by omega) (by omega) hRKNm116 hRLTm116 hM
                · exfalso; omega
        · refine zw_bd (zw_eq (zu_call_at (zt_T n) (zm_125 n) (zdp_125 n) _ _ _ _ _ rfl (zr_125_0 n _ _ a0 a2 m116)) ?_)
          refine zw_ite (fun h156 => ?_) (fun h156 => ?_)
          · refine zw_b (by omega) ?_
            refine zw_some ?_
            refine zw_ite (fun h157 => ?_) (fun h157 => ?_)
            · have r158 : (-2147483648) ≤ (m116 a0 2) ∧ (m116 a0 2) ≤ 2147483647 := zi_rd hIm116 hc0 zb_28_2
              have e159 : (m116 a0 2) = 0 := (zs_eq hmm116)
              exact zw_some ⟨hIm116, hFm116, hRKNm116, hRLTm116, ⟨by decide, by decide⟩, ⟨by omega, by omega⟩⟩
            · exfalso; omega
          · have r160 : 0 ≤ (m116 a0 15) ∧ (m116 a0 15) ≤ 4 := zi_rd hIm116 hc0 zb_28_15
            refine zw_ite (fun h161 => ?_) (fun h161 => ?_)
            · refine zw_b (by omega) ?_
              refine zw_some ?_
              refine zw_ite (fun h162 => ?_) (fun h162 => ?_)
              · have r163 : (-2147483648) ≤ (m116 a0 2) ∧ (m116 a0 2) ≤ 2147483647 := zi_rd hIm116 hc0 zb_28_2
                have e164 : (m116 a0 2) = 0 := (zs_eq hmm116)
                exact zw_some ⟨hIm116, hFm116, hRKNm116, hRLTm116, ⟨by decide, by decide⟩, ⟨by omega, by omega⟩⟩
              · exfalso; omega
            · refine zw_b (by omega) ?_
              refine zw_some ?_
              refine zw_ite (fun h165 => ?_) (fun h165 => ?_)
              · exfalso; omega
              · refine zw_bd (zw_eq (zu_call_at (zt_T n) (zm_124 n) (zdp_124 n) _ _ _ _ _ rfl (zr_124_0 n _ _ a0 a3 m116)) ?_)
                refine zw_ite (fun h166 => ?_) (fun h166 => ?_)
                · refine zw_b (by omega) ?_
                  refine zw_some ?_
                  refine zw_ite (fun h167 => ?_) (fun h167 => ?_)
                  · exfalso; omega
                  · have r168 : (-2147483648) ≤ (m116 a0 2) ∧ (m116 a0 2) ≤ 2147483647 := zi_rd hIm116 hc0 zb_28_2
                    have e169 : (m116 a0 2) = 0 := (zs_eq hmm116)
                    exact zw_some ⟨hIm116, hFm116, hRKNm116, hRLTm116, ⟨by decide, by decide⟩, ⟨by omega, by omega⟩⟩
                · have b170 : 0 ≤ (0 : Int) ∧ (0 : Int) < 2 := by omega
                  refine zw_if b170 ?_
                  have r171 : 0 ≤ (m116 216 0) ∧ (m116 216 0) ≤ 16 := zi_rdr (m := 2) (r0 := 0) (r1 := 0) hIm116 zq_216 (by omega) (by decide +kernel)
                  refine zw_ite (fun h172 => ?_) (fun h172 => ?_)
                  · refine zw_b (by omega) ?_
                    refine zw_some ?_
                    refine zw_ite (fun h173 => ?_) (fun h173 => ?_)
                    · exfalso; omega
                    · have r174 : (-2147483648) ≤ (m116 a0 2) ∧ (m116 a0 2) ≤ 2147483647 := zi_rd hIm116 hc0 zb_28_2
                      have e175 : (m116 a0 2) = 0 := (zs_eq hmm116)
                      exact zw_some ⟨hIm116, hFm116, hRKNm116, hRLTm116, ⟨by decide, by decide⟩, ⟨by omega, by omega⟩⟩
                  · refine zw_b (by omega) ?_
                    refine zw_some ?_
                    refine zw_ite (fun h176 => ?_) (fun h176 => ?_)
                    · have r177 : (-2147483648) ≤ (m116 a0 2) ∧ (m116 a0 2) ≤ 2147483647 := zi_rd hIm116 hc0 zb_28_2
                      have e178 : (m116 a0 2) = 0 := (zs_eq hmm116)
                      have hM : 1 < ((2 : Nat) : Int) := by omega
                      exact (zl_147 n (m0 := m0) hc0 2).1  m116 hIm116 hFm116 ⟨by omega, by omega⟩ ⟨by omega, by omega⟩ ⟨by omega, by omega⟩ ⟨by omega, by omega⟩ (by omega) (by omega) (by omega) hRKNm116 hRLTm116 hM
                    · exfalso; omega
      · exfalso; omega
set_option maxHeartbeats 4000000 in
theorem zk_157 (n : Nat) {a0 a1 : Int} {m0 : zu_m} (hIm0 : zi_I m0) (hc0 : zcls a0 = 28) (ha1 : (-2147483648) ≤ a1 ∧ a1 ≤ 2147483647)     : zw (zu_call (zt_T n) 157 [(40, a0), (0, a1)] m0) (fun v m => zi_I m ∧ zfr [(28, 3), (28, 65), (28, 66), (28, 67), (28, 68), (28, 69), (28, 70), (132, 0)] m0 m ∧ ((-1) ≤ v ∧ v ≤ 47) ∧ (0 ≤ m a0 2 ∧ m a0 2 ≤ 0)) := by
  have hFm0 : zfr [(28, 3), (28, 65), (28, 66), (28, 67), (28, 68), (28, 69), (28, 70), (132, 0)] m0 m0 := zfr_rf _ _
  refine zw_eq (zu_call_at (zt_T n) (zm_157 n) (zdp_157 n) _ _ _ _ _ rfl (zr_157_0 n _ _ a0 a1 m0)) ?_
  generalize hmm1 : zu_up m0 a0 2 0 = m1
  have hIm1 := zi_up hmm1 hIm0 hc0 zb_28_2 (by omega) (by omega)
  have hFm1 := zfr_up hmm1 hFm0 hc0 rfl
  refine zw_bd (zw_eq (zu_call_at (zt_T n) (zm_125 n) (zdp_125 n) _ _ _ _ _ rfl (zr_125_0 n _ _ a0 a1 m1)) ?_)
  refine zw_ite (fun h2 => ?_) (fun h2 => ?_)
  · refine zw_b (by omega) ?_
    refine zw_some ?_
    refine zw_ite (fun h3 => ?_) (fun h3 => ?_)
    · exfalso; omega
    · have r4 : (-2147483648) ≤ (m1 a0 2) ∧ (m1 a0 2) ≤ 2147483647 := zi_rd hIm1 hc0 zb_28_2
      have e5 : (m1 a0 2) = 0 := (zs_eq hmm1)
      exact zw_some ⟨hIm1, hFm1, ⟨by decide, by decide⟩, ⟨by omega, by omega⟩⟩
  · have r6 : 0 ≤ (m1 a0 15) ∧ (m1 a0 15) ≤ 4 := zi_rd hIm1 hc0 zb_28_15
    refine zw_ite (fun h7 => ?_) (fun h7 => ?_)
    · refine zw_b (by omega) ?_
      refine zw_some ?_
      refine zw_ite (fun h8 => ?_) (fun h8 => ?_)
      · exfalso; omega
      · have r9 : (-2147483648) ≤ (m1 a0 2) ∧ (m1 a0 2) ≤ 2147483647 := zi_rd hIm1 hc0 zb_28_2
        have e10 : (m1 a0 2) = 0 := (zs_eq hmm1)
        exact zw_some ⟨hIm1, hFm1, ⟨by decide, by decide⟩, ⟨by omega, by omega⟩⟩
    · refine zw_b (by omega) ?_
      refine zw_some ?_
      refine zw_ite (fun h11 => ?_) (fun h11 => ?_)
      · refine zw_bd (zw_mono (zk_156 n hIm1 hc0) (fun v13 m12 hqm12 => ?_))
        obtain ⟨hIm12, hfm12, hvm12⟩ := hqm12
        have hFm12 := zfr_tr hFm1 hfm12 rfl
        have b14 : 0 ≤ a1 ∧ a1 < 8 := by omega
        refine zw_if b14 ?_
        have r15 : 0 ≤ (m12 217 a1) ∧ (m12 217 a1) ≤ 47 := zi_rd hIm12 zq_217 (zb_126 _)
        refine zw_bd (zw_mono (zk_155 n hIm12 hc0 ⟨by omega, by omega⟩ ⟨by omega, by omega⟩) (fun v17 m16 hqm16 => ?_))
        obtain ⟨hIm16, hfm16, hvm16⟩ := hqm16
        have hFm16 := zfr_tr hFm12 hfm16 rfl
        have r18 : (-2147483648) ≤ (m16 a0 2) ∧ (m16 a0 2) ≤ 2147483647 := zi_rd hIm16 hc0 zb_28_2
        have e19 : (m16 a0 2) = 0 := (Eq.trans (zfr_ap hfm16 hc0 rfl) (Eq.trans (zfr_ap hfm12 hc0 rfl) (zs_eq hmm1)))
        exact zw_some ⟨hIm16, hFm16, ⟨by omega, by omega⟩, ⟨by omega, by omega⟩⟩
      · exfalso; omega
set_option maxHeartbeats 4000000 in
theorem zk_170 (n : Nat) {a0 : Int} {m0 : zu_m} (hIm0 : zi_I m0) (hc0 : zcls a0 = 28)      : zw (zu_call (zt_T n) 170 [(40, a0)] m0) (fun v m => zi_I m ∧ zfr [(28, 3), (28, 76), (133, 0)] m0 m ∧ ((-2147483648) ≤ v ∧ v ≤ 2147483647) ∧ (0 ≤ m a0 2 ∧ m a0 2 ≤ 0)) := by
  have hFm0 : zfr [(28, 3), (28, 76), (133, 0)] m0 m0 := zfr_rf _ _
  refine zw_eq (zu_call_at (zt_T n) (zm_170 n) (zdp_170 n) _ _ _ _ _ rfl (zr_170_0 n _ _ a0 m0)) ?_
  generalize hmm1 : zu_up m0 a0 2 0 = m1
  have hIm1 := zi_up hmm1 hIm0 hc0 zb_28_2 (by omega) (by omega)
  have hFm1 := zfr_up hmm1 hFm0 hc0 rfl
  refine zw_bd (zw_mono (zk_169 n hIm1 hc0 ⟨by decide, by decide⟩) (fun v3 m2 hqm2 => ?_))
  obtain ⟨hIm2, hfm2, hvm2⟩ := hqm2
  have hFm2 := zfr_tr hFm1 hfm2 rfl
  have r4 : (-2147483648) ≤ (m2 a0 2) ∧ (m2 a0 2) ≤ 2147483647 := zi_rd hIm2 hc0 zb_28_2
  have e5 : (m2 a0 2) = 0 := (Eq.trans (zfr_ap hfm2 hc0 rfl) (zs_eq hmm1))
  exact zw_some ⟨hIm2, hFm2, ⟨by omega, by omega⟩, ⟨by omega, by omega⟩⟩
set_option maxHeartbeats 4000000 in
theorem zk_171 (n : Nat) {a0 a1 : Int} {m0 : zu_m} (hIm0 : zi_I m0) (hc0 : zcls a0 = 28) (ha1 : (-2147483648) ≤ a1 ∧ a1 ≤ 2147483647)     : zw (zu_call (zt_T n) 171 [(40, a0), (0, a1)] m0) (fun v m => zi_I m ∧ zfr [(28, 3), (28, 76), (133, 0)] m0 m ∧ ((-2147483648) ≤ v ∧ v ≤ 2147483647) ∧ (0 ≤ m a0 2 ∧ m a0 2 ≤ 0)) := by
  have hFm0 : zfr [(28, 3), (28, 76), (133, 0)] m0 m0 := zfr_rf _ _
  refine zw_eq (zu_call_at (zt_T n) (zm_171 n) (zdp_171 n) _ _ _ _ _ rfl (zr_171_0 n _ _ a0 a1 m0)) ?_
  generalize hmm1 : zu_up m0 a0 2 0 = m1
  have hIm1 := zi_up hmm1 hIm0 hc0 zb_28_2 (by omega) (by omega)
  have hFm1 := zfr_up hmm1 hFm0 hc0 rfl
  refine zw_ite (fun h2 => ?_) (fun h2 => ?_)
  · refine zw_bd (zw_mono (zk_169 n hIm1 hc0 ⟨by omega, by omega⟩) (fun v4 m3 hqm3 => ?_))
    obtain ⟨hIm3, hfm3, hvm3⟩ := hqm3
    have hFm3 := zfr_tr hFm1 hfm3 rfl
    have r5 : (-2147483648) ≤ (m3 a0 2) ∧ (m3 a0 2) ≤ 2147483647 := zi_rd hIm3 hc0 zb_28_2
    have e6 : (m3 a0 2) = 0 := (Eq.trans (zfr_ap hfm3 hc0 rfl) (zs_eq hmm1))
    exact zw_some ⟨hIm3, hFm3, ⟨by omega, by omega⟩, ⟨by omega, by omega⟩⟩
  · have r7 : (-2147483648) ≤ (m1 a0 2) ∧ (m1 a0 2) ≤ 2147483647 := zi_rd hIm1 hc0 zb_28_2
    have e8 : (m1 a0 2) = 0 := (zs_eq hmm1)
    exact zw_some ⟨hIm1, hFm1, ⟨by decide, by decide⟩, ⟨by omega, by omega⟩⟩
set_option maxHeartbeats 4000000 in
theorem zl_198 (n : Nat) {a0 a1 : Int} {m0 : zu_m} (hc0 : zcls a0 = 10)   : ∀ k : Nat, (∀ (x2 : Int) (mh : zu_m), zi_I mh → zfr [(5, 6), (5, 7), (9, 4), (9, 5), (9, 6), (9, 7), (10, 4), (10, 5), (10, 7), (10, 8), (33, 0), (34, 0), (35, 0), (36, 0), (47, 0), (48, 0)] m0 mh → (0 ≤ a1 ∧ a1 ≤ 3) → (0 ≤ x2 ∧ x2 ≤ 701) → ((mh a0 4) ≤ zop mh) → (zR_BN mh) → (zR_K10 mh) → (701 - x2) * 1 + 0 < (k : Int) → zw (zu_ex (zt_T n) 198 45 [(24, a0), (0, a1), (0, x2), (2, 0)] [] mh) (fun v m => zi_I m ∧ zfr [(5, 6), (5, 7), (9, 4), (9, 5), (9, 6), (9, 7), (10, 4), (10, 5), (10, 7), (10, 8), (33, 0), (34, 0), (35, 0), (36, 0), (47, 0), (48, 0)] m0 m ∧ zR_BN m ∧ zR_K10 m ∧ (0 ≤ v ∧ v ≤ 2))) := by
  intro k
  induction k with
  | zero => exact fun x2 mh hImh hFmh hba1 hbx2 hH0 hRBNmh hRK10mh hM => by exfalso; omega
  | succ k ih =>
    intro x2 mh hImh hFmh hba1 hbx2 hH0 hRBNmh hRK10mh hM
    refine zw_eq (zu_rega_at (zt_T n) (zm_198 n) (zdp_198 n) _ _ _ _ _ _ (zr_198_45 n _ _ a0 a1 x2 mh)) ?_
    have r1 : 0 ≤ (mh a0 4) ∧ (mh a0 4) ≤ 8 := zi_rd hImh hc0 zb_10_4
    have g2 := zop_bd hImh hc0
    refine zw_ite (fun h3 => ?_) (fun h3 => ?_)
    · exact zw_some ⟨hImh, hFmh, hRBNmh, hRK10mh, ⟨by decide, by decide⟩⟩
    · refine zw_bd (zw_mono (zk_18 n hImh zq_45) (fun v5 m4 hqm4 => ?_))
      obtain ⟨hIm4, hfm4, hvm4⟩ := hqm4
      have hFm4 := zfr_tr hFmh hfm4 rfl
      obtain ⟨hRTVm4, hvm4⟩ := hvm4
      have g6 := zop_fr (zdis_fr hfm4 rfl)
      have hRBNm4 := zR_BN_fr (zdis_fr hfm4 rfl) hRBNmh
      have hRK10m4 := zR_K10_fr (zdis_fr hfm4 rfl) hRK10mh
      have g7 := zop_bd hIm4 hc0
      have s8 := hRTVm4 45 zq_45
      have r9 : 0 ≤ (m4 a0 6) ∧ (m4 a0 6) ≤ 1 := zi_rd hIm4 hc0 zb_10_6
      refine zw_ite (fun h10 => ?_) (fun h10 => ?_)
      · refine zw_ite (fun h11 => ?_) (fun h11 => ?_)
        · exfalso; omega
        · have r12 : 0 ≤ (m4 a0 4) ∧ (m4 a0 4) ≤ 8 := zi_rd hIm4 hc0 zb_10_4
          have e13 : (m4 a0 4) = (mh a0 4) := (zfr_ap hfm4 hc0 rfl)
          refine zw_bd (zw_mono (zk_199 n hIm4 hc0 ⟨by omega, by omega⟩ (by omega) hRK10m4) (fun v15 m14 hqm14 => ?_))
          obtain ⟨hIm14, hfm14, hvm14⟩ := hqm14
          have hFm14 := zfr_tr hFm4 hfm14 rfl
          obtain ⟨hRK10m14, hvm14⟩ := hvm14
          have hRBNm14 := zR_BN_fr (zdis_fr hfm14 rfl) hRBNm4
          have hRTVm14 := zR_TV_fr (zdis_fr hfm14 rfl) hRTVm4
          have g16 := zop_bd hIm14 hc0
          have s17 := hRTVm14 45 zq_45
          have r18 : 0 ≤ (m14 a0 4) ∧ (m14 a0 4) ≤ 8 := zi_rd hIm14 hc0 zb_10_4
          have y19 := (hvm14.1)
          have y20 := zhid_mk (hvm14.2)
          clear hvm14
          refine zw_ite (fun h21 => ?_) (fun h21 => ?_)
          · have s22 := (zhid_of y20) (by omega)
            have w23 := zu_w32_id (z := x2 + 1) (by omega) (by omega)
            have hM : (701 - (zu_w32 (x2 + 1))) * 1 + 0 < (k : Int) := by omega
            exact zw_le (zu_forget (zu_lr_same (zu_lr_same (zu_lr_same (zu_lr_drop zu_lr_nil))))) (ih (zu_w32 (x2 + 1)) m14 hIm14 hFm14 ⟨by omega, by omega⟩ ⟨by omega, by omega⟩ (by omega) hRBNm14 hRK10m14 hM)
          · have s24 := zhid_of y20
            exact zw_some ⟨hIm14, hFm14, hRBNm14, hRK10m14, ⟨by omega, by omega⟩⟩
      · have r25 : 0 ≤ (m4 a0 4) ∧ (m4 a0 4) ≤ 8 := zi_rd hIm4 hc0 zb_10_4
        have e26 : (m4 a0 4) = (mh a0 4) := (zfr_ap hfm4 hc0 rfl)
        refine zw_ite (fun h27 => ?_) (fun h27 => ?_)
        · refine zw_ite (fun h28 => ?_) (fun h28 => ?_)
          · refine zw_bd (zw_mono (zk_202 n hIm4 hc0 ⟨by omega, by omega⟩ (by omega) hRBNm4 hRK10m4 hRTVm4) (fun v30 m29 hqm29 => ?_))
            obtain ⟨hIm29, hfm29, hvm29⟩ := hqm29
            have hFm29 := zfr_tr hFm4 hfm29 rfl
            obtain ⟨hRBNm29, hRK10m29, hRTVm29, hvm29⟩ := hvm29
            have g31 := zop_bd hIm29 hc0
            have s32 := hRTVm29 45 zq_45
            have r33 : 0 ≤ (m29 a0 4) ∧ (m29 a0 4) ≤ 8 := zi_rd hIm29 hc0 zb_10_4
            have y34 := (hvm29.1)
            have y35 := zhid_mk (hvm29.2)
            clear hvm29
            refine zw_ite (fun h36 => ?_) (fun h36 => ?_)
            · have s37 := (zhid_of y35) (by omega)
              have w38 := zu_w32_id (z := x2 + 1) (by omega) (by omega)
              have hM : (701 - (zu_w32 (x2 + 1))) * 1 + 0 < (k : Int) := by omega
              exact zw_le (zu_forget (zu_lr_same (zu_lr_same (zu_lr_same (zu_lr_drop zu_lr_nil))))) (ih (zu_w32 (x2 + 1)) m29 hIm29 hFm29 ⟨by omega, by omega⟩ ⟨by omega, by omega⟩ (by omega) hRBNm29 hRK10m29 hM)
            · have s39 := zhid_of y35
              exact zw_some ⟨hIm29, hFm29, hRBNm29, hRK10m29, ⟨by omega, by omega⟩⟩
          · exfalso; omega
        · refine zw_bd (zw_eq (zu_call_at (zt_T n) (zm_278 n) (zdp_278 n) _ _ _ _ _ rfl (zr_278_0 n _ _ 45 0 m4)) ?_)
          have r40 : 0 ≤ (m4 45 4) ∧ (m4 45 4) ≤ 5 := zi_rd hIm4 zq_45 zb_9_4
          refine zw_ite (fun h41 => ?_) (fun h41 => ?_)
          · refine zw_b (by omega) ?_
            refine zw_some ?_
            refine zw_ite (fun h42 => ?_) (fun h42 => ?_)
            · refine zw_ite (fun h43 => ?_) (fun h43 => ?_)
              · refine zw_bd (zw_mono (zk_202 n hIm4 hc0 ⟨by omega, by omega⟩ (by omega) hRBNm4 hRK10m4 hRTVm4) (fun v45 m44 hqm44 => ?_))
                obtain ⟨hIm44, hfm44, hvm44⟩ := hqm44
                have hFm44 := zfr_tr hFm4 hfm44 rfl
                obtain ⟨hRBNm44, hRK10m44, hRTVm44, hvm44⟩ := hvm44
                have g46 := zop_bd hIm44 hc0
                have s47 := hRTVm44 45 zq_45
                have r48 : 0 ≤ (m44 a0 4) ∧ (m44 a0 4) ≤ 8 := zi_rd hIm44 hc0 zb_10_4
                have y49 := (hvm44.1)
                have y50 := zhid_mk (hvm44.2)
                clear hvm44
                refine zw_ite (fun h51 => ?_) (fun h51 => ?_)
                · have s52 := (zhid_of y50) (by omega)
                  have w53 := zu_w32_id (z := x2 + 1) (by omega) (by omega)
                  have hM : (701 - (zu_w32 (x2 + 1))) * 1 + 0 < (k : Int) := by omega
                  exact zw_le (zu_forget (zu_lr_same (zu_lr_same (zu_lr_same (zu_lr_drop zu_lr_nil))))) (ih (zu_w32 (x2 + 1)) m44 hIm44 hFm44 ⟨by omega, by omega⟩ ⟨by omega, by omega⟩ (by omega) hRBNm44 hRK10m44 hM)
                · have s54 := zhid_of y50
                  exact zw_some ⟨hIm44, hFm44, hRBNm44, hRK10m44, ⟨by omega, by omega⟩⟩
              · exfalso; omega
            · exfalso; omega
          · refine zw_ite (fun h55 => ?_) (fun h55 => ?_)
            · refine zw_b (by omega) ?_
              refine zw_some ?_
              refine zw_ite (fun h56 => ?_) (fun h56 => ?_)
              · refine zw_ite (fun h57 => ?_) (fun h57 => ?_)
                · refine zw_bd (zw_mono (zk_202 n hIm4 hc0 ⟨by omega, by omega⟩ (by omega) hRBNm4 hRK10m4 hRTVm4) (fun v59 m58 hqm58 => ?_))
                  obtain ⟨hIm58, hfm58, hvm58⟩ := hqm58
                  have hFm58 := zfr_tr hFm4 hfm58 rfl
                  obtain ⟨hRBNm58, hRK10m58, hRTVm58, hvm58⟩ := hvm58
                  have g60 := zop_bd hIm58 hc0
                  have s61 := hRTVm58 45 zq_45
                  have r62 : 0 ≤ (m58 a0 4) ∧ (m58 a0 4) ≤ 8 := zi_rd hIm58 hc0 zb_10_4
                  have y63 := (hvm58.1)
                  have y64 := zhid_mk (hvm58.2)
                  clear hvm58
                  refine zw_ite (fun h65 => ?_) (fun h65 => ?_)
                  · have s66 := (zhid_of y64) (by omega)
                    have w67 := zu_w32_id (z := x2 + 1) (by omega) (by omega)
                    have hM : (701 - (zu_w32 (x2 + 1))) * 1 + 0 < (k : Int) := by omega
                    exact zw_le (zu_forget (zu_lr_same (zu_lr_same (zu_lr_same (zu_lr_drop zu_lr_nil))))) (ih (zu_w32 (x2 + 1)) m58 hIm58 hFm58 ⟨by omega, by omega⟩ ⟨by omega, by omega⟩ (by omega) hRBNm58 hRK10m58 hM)
                  · have s68 := zhid_of y64
                    exact zw_some ⟨hIm58, hFm58, hRBNm58, hRK10m58, ⟨by omega, by omega⟩⟩
                · exfalso; omega
              · exfalso; omega
            · refine zw_b (by omega) ?_
              refine zw_some ?_
              refine zw_ite (fun h69 => ?_) (fun h69 => ?_)
              · exfalso; omega
              · refine zw_bd (zw_mono (zk_206 n hIm4 hc0 ⟨by decide, by decide⟩ (by omega) hRBNm4 hRK10m4) (fun v71 m70 hqm70 => ?_))
                obtain ⟨hIm70, hfm70, hvm70⟩ := hqm70
                have hFm70 := zfr_tr hFm4 hfm70 rfl
                obtain ⟨hRBNm70, hRK10m70, hvm70⟩ := hvm70
                have hRTVm70 := zR_TV_fr (zdis_fr hfm70 rfl) hRTVm4
                have g72 := zop_bd hIm70 hc0
                have s73 := hRTVm70 45 zq_45
                have r74 : 0 ≤ (m70 10 6) ∧ (m70 10 6) ≤ 64 := zi_rd hIm70 zq_10 zb_5_6
                have b75 : 0 ≤ a1 ∧ a1 < 4 := by omega
                refine zw_if b75 ?_
                generalize hmm76 : zu_up m70 (10 + 4) a1 (m70 10 6) = m76
                have hIm76 := zi_up hmm76 hIm70 (zc_5_3 zq_10) (zb_36 _) (by omega) (by omega)
                have hFm76 := zfr_up hmm76 hFm70 (zc_5_3 zq_10) rfl
                have g77 := zop_fr (zdis_fr (zfr_up hmm76 (zfr_rf [(36, 0)] _) (zc_5_3 zq_10) rfl) rfl)
                have hRBNm76 := zR_BN_fr (zdis_fr (zfr_up hmm76 (zfr_rf [(36, 0)] _) (zc_5_3 zq_10) rfl) rfl) hRBNm70
                have hRK10m76 := zR_K10_fr (zdis_fr (zfr_up hmm76 (zfr_rf [(36, 0)] _) (zc_5_3 zq_10) rfl) rfl) hRK10m70
                have hRTVm76 := zR_TV_fr (zdis_fr (zfr_up hmm76 (zfr_rf [(36, 0)] _) (zc_5_3 zq_10) rfl) rfl) hRTVm70
                exact zw_some ⟨hIm76, hFm76, hRBNm76, hRK10m76, ⟨by decide, by decide⟩⟩
set_option maxHeartbeats 4000000 in
theorem zk_198 (n : Nat) {a0 a1 : Int} {m0 : zu_m} (hIm0 : zi_I m0) (hc0 : zcls a0 = 10) (ha1 : 0 ≤ a1 ∧ a1 ≤ 3)    (hRBNm0 : zR_BN m0) (hRK10m0 : zR_K10 m0) : zw (zu_call (zt_T n) 198 [(24, a0), (0, a1)] m0) (fun v m => zi_I m ∧ zfr [(5, 6), (5, 7), (9, 4), (9, 5), (9, 6), (9, 7), (10, 4), (10, 5), (10, 7), (10, 8), (33, 0), (34, 0), (35, 0), (36, 0), (47, 0), (48, 0)] m0 m ∧ zR_BN m ∧ zR_K10 m ∧ (0 ≤ v ∧ v ≤ 2)) := by
  have hFm0 : zfr [(5, 6), (5, 7), (9, 4), (9, 5), (9, 6), (9, 7), (10, 4), (10, 5), (10, 7), (10, 8), (33, 0), (34, 0), (35, 0), (36, 0), (47, 0), (48, 0)] m0 m0 := zfr_rf _ _
  have g78 := zop_bd hIm0 hc0
  refine zw_eq (zu_call_at (zt_T n) (zm_198 n) (zdp_198 n) _ _ _ _ _ rfl (zr_198_0 n _ _ a0 a1 m0)) ?_
  have r79 : 0 ≤ (m0 10 6) ∧ (m0 10 6) ≤ 64 := zi_rd hIm0 zq_10 zb_5_6
  have b80 : 0 ≤ a1 ∧ a1 < 4 := by omega
  refine zw_if b80 ?_
  generalize hmm81 : zu_up m0 (10 + 3) a1 (m0 10 6) = m81
  have hIm81 := zi_up hmm81 hIm0 (zc_5_2 zq_10) (zb_35 _) (by omega) (by omega)
  have hFm81 := zfr_up hmm81 hFm0 (zc_5_2 zq_10) rfl
  have g82 := zop_fr (zdis_fr (zfr_up hmm81 (zfr_rf [(35, 0)] _) (zc_5_2 zq_10) rfl) rfl)
  have hRBNm81 := zR_BN_fr (zdis_fr (zfr_up hmm81 (zfr_rf [(35, 0)] _) (zc_5_2 zq_10) rfl) rfl) hRBNm0
  have hRK10m81 := zR_K10_fr (zdis_fr (zfr_up hmm81 (zfr_rf [(35, 0)] _) (zc_5_2 zq_10) rfl) rfl) hRK10m0
  generalize hmm83 : zu_up m81 a0 3 0 = m83
  have hIm83 := zi_up hmm83 hIm81 hc0 zb_10_3 (by omega) (by omega)
  have hFm83 := zfr_up hmm83 hFm81 hc0 rfl
  have hRBNm83 := zR_BN_fr (zdis_fr (zfr_up hmm83 (zfr_rf [(10, 4)] _) hc0 rfl) rfl) hRBNm81
  have hRK10m83 := zR_K10_fr (zdis_fr (zfr_up hmm83 (zfr_rf [(10, 4)] _) hc0 rfl) rfl) hRK10m81
  have g84 := zop_zero hmm83 hc0
  generalize hmm85 : zu_up m83 a0 4 0 = m85
  have hIm85 := zi_up hmm85 hIm83 hc0 zb_10_4 (by omega) (by omega)
  have hFm85 := zfr_up hmm85 hFm83 hc0 rfl
  have g86 := zop_fr (zdis_fr (zfr_up hmm85 (zfr_rf [(10, 5)] _) hc0 rfl) rfl)
  have hRBNm85 := zR_BN_fr (zdis_fr (zfr_up hmm85 (zfr_rf [(10, 5)] _) hc0 rfl) rfl) hRBNm83
  have hRK10m85 := zR_K10_fr (zdis_fr (zfr_up hmm85 (zfr_rf [(10, 5)] _) hc0 rfl) rfl) hRK10m83
  refine zw_b (by omega) ?_
  have b87 : 0 ≤ (0 : Int) ∧ (0 : Int) < 9 := by omega
  refine zw_if b87 ?_
  generalize hmm88 : zu_up m85 49 0 0 = m88
  have hIm88 := zi_up hmm88 hIm85 zq_49 (zb_48 _) (by omega) (by omega)
  have hFm88 := zfr_up hmm88 hFm85 zq_49 rfl
  have g89 := zop_fr (zdis_fr (zfr_up hmm88 (zfr_rf [(48, 0)] _) zq_49 rfl) rfl)
  have hRBNm88 := zR_BN_fr (zdis_fr (zfr_up hmm88 (zfr_rf [(48, 0)] _) zq_49 rfl) rfl) hRBNm85
  have hRK10m88 := zR_K10_fr (zdis_fr (zfr_up hmm88 (zfr_rf [(48, 0)] _) zq_49 rfl) rfl) hRK10m85
  refine zw_b (by omega) ?_
  generalize hmm90 : zu_up m88 a0 6 1 = m90
  have hIm90 := zi_up hmm90 hIm88 hc0 zb_10_6 (by omega) (by omega)
  have hFm90 := zfr_up hmm90 hFm88 hc0 rfl
  have g91 := zop_fr (zdis_fr (zfr_up hmm90 (zfr_rf [(10, 7)] _) hc0 rfl) rfl)
  have hRBNm90 := zR_BN_fr (zdis_fr (zfr_up hmm90 (zfr_rf [(10, 7)] _) hc0 rfl) rfl) hRBNm88
  have hRK10m90 := zR_K10_fr (zdis_fr (zfr_up hmm90 (zfr_rf [(10, 7)] _) hc0 rfl) rfl) hRK10m88
  refine zw_b (by omega) ?_
  generalize hmm92 : zu_up m90 a0 7 1 = m92
  have hIm92 := zi_up hmm92 hIm90 hc0 zb_10_7 (by omega) (by omega)
  have hFm92 := zfr_up hmm92 hFm90 hc0 rfl
  have g93 := zop_fr (zdis_fr (zfr_up hmm92 (zfr_rf [(10, 8)] _) hc0 rfl) rfl)
  have hRBNm92 := zR_BN_fr (zdis_fr (zfr_up hmm92 (zfr_rf [(10, 8)] _) hc0 rfl) rfl) hRBNm90
  have hRK10m92 := zR_K10_fr (zdis_fr (zfr_up hmm92 (zfr_rf [(10, 8)] _) hc0 rfl) rfl) hRK10m90
  have r94 : 0 ≤ (m92 a0 4) ∧ (m92 a0 4) ≤ 8 := zi_rd hIm92 hc0 zb_10_4
  have e95 : (m92 a0 4) = 0 := (Eq.trans (zs_ne hmm92 (Or.inr (by decide))) (Eq.trans (zs_ne hmm90 (Or.inr (by decide))) (Eq.trans (zs_ne hmm88 (Or.inl (zc_ne hc0 zq_49 (by decide)))) (zs_eq hmm85))))
  have hM : (701 - 0) * 1 + 0 < ((702 : Nat) : Int) := by omega
  exact (zl_198 n (m0 := m0) hc0 702) 0 m92 hIm92 hFm92 ⟨by omega, by omega⟩ ⟨by omega, by omega⟩ (by omega) hRBNm92 hRK10m92 hM
set_option maxHeartbeats 4000000 in
theorem zl_216_16 (n : Nat) {a0 a1 a2 : Int} {m0 : zu_m} (hc0 : zcls a0 = 16)   : ∀ k : Nat, (∀ (x3 x4 x5 x6 : Int) (mh : zu_m), zi_I mh → zfr [(16, 10), (17, 4), (18, 6), (18, 7), (18, 8), (56, 0), (59, 1), (59, 2), (59, 3), (59, 4), (59, 5), (59, 6), (59, 7), (67, 0), (68, 0)] m0 mh → (0 ≤ a1 ∧ a1 ≤ 3) → (0 ≤ a2 ∧ a2 ≤ 0) → (zcls x3 = 18) → (0 ≤ x4 ∧ x4 ≤ 47) → ((-2147483648) ≤ x5 ∧ x5 ≤ 2147483647) → (0 ≤ x6 ∧ x6 ≤ 16) → (zR_K54 mh) → (16 - x6) * 1 + 0 < (k : Int) → zw (zu_ex (zt_T n) 216 22 [(27, a0), (0, a1), (0, a2), (21, x3), (0, x4), (0, x5), (0, x6), (2, 0), (2, 0)] [] mh) (fun v m => zi_I m ∧ zfr [(16, 10), (17, 4), (18, 6), (18, 7), (18, 8), (56, 0), (59, 1), (59, 2), (59, 3), (59, 4), (59, 5), (59, 6), (59, 7), (67, 0), (68, 0)] m0 m ∧ zR_K54 m ∧ True)) := by
  intro k
  induction k with
  | zero => exact fun x3 x4 x5 x6 mh hImh hFmh hba1 hba2 hx3 hbx4 hbx5 hbx6 hRK54mh hM => by exfalso; omega
  | succ k ih =>
    intro x3 x4 x5 x6 mh hImh hFmh hba1 hba2 hx3 hbx4 hbx5 hbx6 hRK54mh hM
    refine zw_eq (zu_rega_at (zt_T n) (zm_216 n) (zdp_216 n) _ _ _ _ _ _ (zr_216_22 n _ _ a0 a1 a2 x3 x4 x5 x6 mh)) ?_
    have r1 : 0 ≤ (mh a0 2) ∧ (mh a0 2) ≤ 16 := zi_rd hImh hc0 zb_16_2
    refine zw_ite (fun h2 => ?_) (fun h2 => ?_)
    · refine zw_ite (fun h3 => ?_) (fun h3 => ?_)
      · generalize hmm4 : zu_up mh x3 7 (-1) = m4
        have hIm4 := zi_up hmm4 hImh hx3 zb_18_7 (by omega) (by omega)
        have hFm4 := zfr_up hmm4 hFmh hx3 rfl
        have hRK54m4 := zR_K54_fr (zdis_fr (zfr_up hmm4 (zfr_rf [(18, 8)] _) hx3 rfl) rfl) hRK54mh
        have r5 : (-2147483648) ≤ (m4 x3 5) ∧ (m4 x3 5) ≤ 2147483647 := zi_rd hIm4 hx3 zb_18_5
        have w6 := zu_w32_rg ((m4 x3 5) + 1)
        generalize hmm7 : zu_up m4 x3 5 (zu_w32 ((m4 x3 5) + 1)) = m7
        have hIm7 := zi_up hmm7 hIm4 hx3 zb_18_5 (by omega) (by omega)
        have hFm7 := zfr_up hmm7 hFm4 hx3 rfl
        have hRK54m7 := zR_K54_fr (zdis_fr (zfr_up hmm7 (zfr_rf [(18, 6)] _) hx3 rfl) rfl) hRK54m4
        refine zw_b (by omega) ?_
        have b8 : 0 ≤ x4 ∧ x4 < 48 := by omega
        refine zw_if b8 ?_
        generalize hmm9 : zu_up m7 (a0 + 3) x4 1 = m9
        have hIm9 := zi_up hmm9 hIm7 (zc_16_5 hc0) (zb_67 _) (by omega) (by omega)
        have hFm9 := zfr_up hmm9 hFm7 (zc_16_5 hc0) rfl
        have hRK54m9 := zR_K54_fr (zdis_fr (zfr_up hmm9 (zfr_rf [(67, 0)] _) (zc_16_5 hc0) rfl) rfl) hRK54m7
        have b10 : 0 ≤ x4 ∧ x4 < 48 := by omega
        refine zw_if b10 ?_
        have r11 : 0 ≤ (m9 (a0 + 4) x4) ∧ (m9 (a0 + 4) x4) ≤ 999000 := zi_rd hIm9 (zc_16_6 hc0) (zb_68 _)
        refine zw_bd (zw_mono (zk_254 n hIm9 zq_50 ⟨by omega, by omega⟩ ⟨by omega, by omega⟩ ⟨by omega, by omega⟩) (fun v13 m12 hqm12 => ?_))
        obtain ⟨hIm12, hfm12, hvm12⟩ := hqm12
        have hFm12 := zfr_tr hFm9 hfm12 rfl
        have hRK54m12 := zR_K54_fr (zdis_fr hfm12 rfl) hRK54m9
        have b14 : 0 ≤ x4 ∧ x4 < 48 := by omega
        refine zw_if b14 ?_
        generalize hmm15 : zu_up m12 (a0 + 4) x4 v13 = m15
        have hIm15 := zi_up hmm15 hIm12 (zc_16_6 hc0) (zb_68 _) (by omega) (by omega)
        have hFm15 := zfr_up hmm15 hFm12 (zc_16_6 hc0) rfl
        have hRK54m15 := zR_K54_fr (zdis_fr (zfr_up hmm15 (zfr_rf [(68, 0)] _) (zc_16_6 hc0) rfl) rfl) hRK54m12
        exact zw_some ⟨hIm15, hFm15, hRK54m15, trivial⟩
      · exfalso; omega
    · refine zw_ite (fun h16 => ?_) (fun h16 => ?_)
      · have b17 : 0 ≤ x6 ∧ x6 < 16 := by omega
        refine zw_if b17 ?_
        have r18 : (-3) ≤ (mh ((a0 + 1) + 5 + x6) 3) ∧ (mh ((a0 + 1) + 5 + x6) 3) ≤ 3 := zi_rd hImh (zc_65_e (zc_16_1 hc0) b17) zb_17_3
        refine zw_ite (fun h19 => ?_) (fun h19 => ?_)
        · have w20 := zu_w32_id (z := x6 + 1) (by omega) (by omega)
          have hM : (16 - (zu_w32 (x6 + 1))) * 1 + 0 < (k : Int) := by omega
          exact zw_le (zu_forget (zu_lr_same (zu_lr_same (zu_lr_same (zu_lr_same (zu_lr_same (zu_lr_same (zu_lr_same (zu_lr_drop (zu_lr_same zu_lr_nil)))))))))) (ih x3 x4 x5 (zu_w32 (x6 + 1)) mh hImh hFmh ⟨by omega, by omega⟩ ⟨by omega, by omega⟩ hx3 ⟨by omega, by omega⟩ ⟨by omega, by omega⟩ ⟨by omega, by omega⟩ hRK54mh hM)
        · have r21 : 0 ≤ (mh ((a0 + 1) + 5 + x6) 0) ∧ (mh ((a0 + 1) + 5 + x6) 0) ≤ 47 := zi_rd hImh (zc_65_e (zc_16_1 hc0) b17) zb_17_0
          refine zw_ite (fun h22 => ?_) (fun h22 => ?_)
          · have w23 := zu_w32_id (z := x6 + 1) (by omega) (by omega)
            have hM : (16 - (zu_w32 (x6 + 1))) * 1 + 0 < (k : Int) := by omega
            exact zw_le (zu_forget (zu_lr_same (zu_lr_same (zu_lr_same (zu_lr_same (zu_lr_same (zu_lr_same (zu_lr_same (zu_lr_drop (zu_lr_same zu_lr_nil)))))))))) (ih x3 x4 x5 (zu_w32 (x6 + 1)) mh hImh hFmh ⟨by omega, by omega⟩ ⟨by omega, by omega⟩ hx3 ⟨by omega, by omega⟩ ⟨by omega, by omega⟩ ⟨by omega, by omega⟩ hRK54mh hM)
          · have r24 : 0 ≤ (mh ((a0 + 1) + 5 + x6) 1) ∧ (mh ((a0 + 1) + 5 + x6) 1) ≤ 3 := zi_rd hImh (zc_65_e (zc_16_1 hc0) b17) zb_17_1
            refine zw_bd (zw_eq (zu_call_at (zt_T n) (zm_217 n) (zdp_217 n) _ _ _ _ _ rfl (zr_217_0 n _ _ a0 a1 (mh ((a0 + 1) + 5 + x6) 1) mh)) ?_)
            have r25 : 0 ≤ (mh a0 10) ∧ (mh a0 10) ≤ 3 := zi_rd hImh hc0 zb_16_10
            refine zw_ite (fun h26 => ?_) (fun h26 => ?_)
            · refine zw_b (by omega) ?_
              refine zw_some ?_
              refine zw_ite (fun h27 => ?_) (fun h27 => ?_)
              · exfalso; omega
              · refine zw_ite (fun h28 => ?_) (fun h28 => ?_)
                · refine zw_bd (zw_mono (zk_215_16 n hImh hc0) (fun v30 m29 hqm29 => ?_))
                  obtain ⟨hIm29, hfm29, hvm29⟩ := hqm29
                  have hFm29 := zfr_tr hFmh hfm29 rfl
                  have hRK54m29 := zR_K54_fr (zdis_fr hfm29 rfl) hRK54mh
                  refine zw_nif (by omega) ?_
                  have d31 := ztmod_b2 (x := v30) (y := 100) (by omega)
                  have r32 : (-2147483648) ≤ (m29 x3 6) ∧ (m29 x3 6) ≤ 2147483647 := zi_rd hIm29 hx3 zb_18_6
                  refine zw_bd (zw_mono (zk_224_16 n hIm29 hc0 ⟨by omega, by omega⟩ ⟨by omega, by omega⟩ ⟨by omega, by omega⟩) (fun v34 m33 hqm33 => ?_))
                  obtain ⟨hIm33, hfm33, hvm33⟩ := hqm33
                  have hFm33 := zfr_tr hFm29 hfm33 rfl
                  have hRK54m33 := zR_K54_fr (zdis_fr hfm33 rfl) hRK54m29
                  refine zw_bd (zw_mono (zk_250 n hIm33 zq_50 hRK54m33) (fun v36 m35 hqm35 => ?_))
                  obtain ⟨hIm35, hfm35, hvm35⟩ := hqm35
                  have hFm35 := zfr_tr hFm33 hfm35 rfl
                  obtain ⟨hRK54m35, hvm35⟩ := hvm35
                  refine zw_ite (fun h37 => ?_) (fun h37 => ?_)
                  · have w38 := zu_w32_id (z := x6 + 1) (by omega) (by omega)
                    have hM : (16 - (zu_w32 (x6 + 1))) * 1 + 0 < (k : Int) := by omega
                    exact zw_le (zu_forget (zu_lr_same (zu_lr_same (zu_lr_same (zu_lr_same (zu_lr_same (zu_lr_same (zu_lr_same (zu_lr_drop (zu_lr_drop zu_lr_nil)))))))))) (ih x3 x4 x5 (zu_w32 (x6 + 1)) m35 hIm35 hFm35 ⟨by omega, by omega⟩ ⟨by omega, by omega⟩ hx3 ⟨by omega, by omega⟩ ⟨by omega, by omega⟩ ⟨by omega, by omega⟩ hRK54m35 hM)
                  · generalize hmm39 : zu_up m35 ((a0 + 1) + 5 + x6) 3 a1 = m39
                    have hIm39 := zi_up hmm39 hIm35 (zc_65_e (zc_16_1 hc0) b17) zb_17_3 (by omega) (by omega)
                    have hFm39 := zfr_up hmm39 hFm35 (zc_65_e (zc_16_1 hc0) b17) rfl
                    have hRK54m39 := zR_K54_fr (zdis_fr (zfr_up hmm39 (zfr_rf [(17, 4)] _) (zc_65_e (zc_16_1 hc0) b17) rfl) rfl) hRK54m35
                    have r40 : (-2147483648) ≤ (m39 x3 6) ∧ (m39 x3 6) ≤ 2147483647 := zi_rd hIm39 hx3 zb_18_6
                    have e41 : (m39 x3 6) = (m29 x3 6) := (Eq.trans (zs_ne hmm39 (Or.inl (zc_ne hx3 (zc_65_e (zc_16_1 hc0) b17) (by decide)))) (Eq.trans (zfr_ap hfm35 hx3 rfl) (zfr_ap hfm33 hx3 rfl)))
                    have w42 := zu_w32_rg ((m39 x3 6) + 1)
                    generalize hmm43 : zu_up m39 x3 6 (zu_w32 ((m39 x3 6) + 1)) = m43
                    have hIm43 := zi_up hmm43 hIm39 hx3 zb_18_6 (by omega) (by omega)
                    have hFm43 := zfr_up hmm43 hFm39 hx3 rfl
                    have hRK54m43 := zR_K54_fr (zdis_fr (zfr_up hmm43 (zfr_rf [(18, 7)] _) hx3 rfl) rfl) hRK54m39
                    have w44 := zu_w32_id (z := x6 + 1) (by omega) (by omega)
                    have hM : (16 - (zu_w32 (x6 + 1))) * 1 + 0 < (k : Int) := by omega
                    exact zw_le (zu_forget (zu_lr_same (zu_lr_same (zu_lr_same (zu_lr_same (zu_lr_same (zu_lr_same (zu_lr_same (zu_lr_drop (zu_lr_drop zu_lr_nil)))))))))) (ih x3 x4 x5 (zu_w32 (x6 + 1)) m43 hIm43 hFm43 ⟨by omega, by omega⟩ ⟨by omega, by omega⟩ hx3 ⟨by omega, by omega⟩ ⟨by omega, by omega⟩ ⟨by omega, by omega⟩ hRK54m43 hM)
                · exfalso; omega
            · refine zw_nif (by omega) ?_
              have d45 : Int.tmod a1 4 = a1 % 4 := Int.tmod_eq_emod_of_nonneg (by omega)
              refine zw_ite (fun h46 => ?_) (fun h46 => ?_)
              · refine zw_b (by omega) ?_
                refine zw_some ?_
                refine zw_ite (fun h47 => ?_) (fun h47 => ?_)
                · have w48 := zu_w32_id (z := x6 + 1) (by omega) (by omega)
                  have hM : (16 - (zu_w32 (x6 + 1))) * 1 + 0 < (k : Int) := by omega
                  exact zw_le (zu_forget (zu_lr_same (zu_lr_same (zu_lr_same (zu_lr_same (zu_lr_same (zu_lr_same (zu_lr_same (zu_lr_drop (zu_lr_same zu_lr_nil)))))))))) (ih x3 x4 x5 (zu_w32 (x6 + 1)) mh hImh hFmh ⟨by omega, by omega⟩ ⟨by omega, by omega⟩ hx3 ⟨by omega, by omega⟩ ⟨by omega, by omega⟩ ⟨by omega, by omega⟩ hRK54mh hM)
                · exfalso; omega
              · refine zw_b (by omega) ?_
                refine zw_some ?_
                refine zw_ite (fun h49 => ?_) (fun h49 => ?_)
                · exfalso; omega
                · refine zw_ite (fun h50 => ?_) (fun h50 => ?_)
                  · refine zw_bd (zw_mono (zk_215_16 n hImh hc0) (fun v52 m51 hqm51 => ?_))
                    obtain ⟨hIm51, hfm51, hvm51⟩ := hqm51
                    have hFm51 := zfr_tr hFmh hfm51 rfl
                    have hRK54m51 := zR_K54_fr (zdis_fr hfm51 rfl) hRK54mh
                    refine zw_nif (by omega) ?_
                    have d53 := ztmod_b2 (x := v52) (y := 100) (by omega)
                    have r54 : (-2147483648) ≤ (m51 x3 6) ∧ (m51 x3 6) ≤ 2147483647 := zi_rd hIm51 hx3 zb_18_6
                    refine zw_bd (zw_mono (zk_224_16 n hIm51 hc0 ⟨by omega, by omega⟩ ⟨by omega, by omega⟩ ⟨by omega, by omega⟩) (fun v56 m55 hqm55 => ?_))
                    obtain ⟨hIm55, hfm55, hvm55⟩ := hqm55
                    have hFm55 := zfr_tr hFm51 hfm55 rfl
                    have hRK54m55 := zR_K54_fr (zdis_fr hfm55 rfl) hRK54m51
                    refine zw_bd (zw_mono (zk_250 n hIm55 zq_50 hRK54m55) (fun v58 m57 hqm57 => ?_))
                    obtain ⟨hIm57, hfm57, hvm57⟩ := hqm57
                    have hFm57 := zfr_tr hFm55 hfm57 rfl
                    obtain ⟨hRK54m57, hvm57⟩ := hvm57
                    refine zw_ite (fun h59 => ?_) (fun h59 => ?_)
                    · have w60 := zu_w32_id (z := x6 + 1) (by omega) (by omega)
                      have hM : (16 - (zu_w32 (x6 + 1))) * 1 + 0 < (k : Int) := by omega
                      exact zw_le (zu_forget (zu_lr_same (zu_lr_same (zu_lr_same (zu_lr_same (zu_lr_same (zu_lr_same (zu_lr_same (zu_lr_drop (zu_lr_drop zu_lr_nil)))))))))) (ih x3 x4 x5 (zu_w32 (x6 + 1)) m57 hIm57 hFm57 ⟨by omega, by omega⟩ ⟨by omega, by omega⟩ hx3 ⟨by omega, by omega⟩ ⟨by omega, by omega⟩ ⟨by omega, by omega⟩ hRK54m57 hM)
                    · generalize hmm61 : zu_up m57 ((a0 + 1) + 5 + x6) 3 a1 = m61
                      have hIm61 := zi_up hmm61 hIm57 (zc_65_e (zc_16_1 hc0) b17) zb_17_3 (by omega) (by omega)
                      have hFm61 := zfr_up hmm61 hFm57 (zc_65_e (zc_16_1 hc0) b17) rfl
                      have hRK54m61 := zR_K54_fr (zdis_fr (zfr_up hmm61 (zfr_rf [(17, 4)] _) (zc_65_e (zc_16_1 hc0) b17) rfl) rfl) hRK54m57
                      have r62 : (-2147483648) ≤ (m61 x3 6) ∧ (m61 x3 6) ≤ 2147483647 := zi_rd hIm61 hx3 zb_18_6
                      have e63 : (m61 x3 6) = (m51 x3 6) := (Eq.trans (zs_ne hmm61 (Or.inl (zc_ne hx3 (zc_65_e (zc_16_1 hc0) b17) (by decide)))) (Eq.trans (zfr_ap hfm57 hx3 rfl) (zfr_ap hfm55 hx3 rfl)))
                      have w64 := zu_w32_rg ((m61 x3 6) + 1)
                      generalize hmm65 : zu_up m61 x3 6 (zu_w32 ((m61 x3 6) + 1)) = m65
                      have hIm65 := zi_up hmm65 hIm61 hx3 zb_18_6 (by omega) (by omega)
                      have hFm65 := zfr_up hmm65 hFm61 hx3 rfl
                      have hRK54m65 := zR_K54_fr (zdis_fr (zfr_up hmm65 (zfr_rf [(18, 7)] _) hx3 rfl) rfl) hRK54m61
                      have w66 := zu_w32_id (z := x6 + 1) (by omega) (by omega)
                      have hM : (16 - (zu_w32 (x6 + 1))) * 1 + 0 < (k : Int) := by omega
                      exact zw_le (zu_forget (zu_lr_same (zu_lr_same (zu_lr_same (zu_lr_same (zu_lr_same (zu_lr_same (zu_lr_same (zu_lr_drop (zu_lr_drop zu_lr_nil)))))))))) (ih x3 x4 x5 (zu_w32 (x6 + 1)) m65 hIm65 hFm65 ⟨by omega, by omega⟩ ⟨by omega, by omega⟩ hx3 ⟨by omega, by omega⟩ ⟨by omega, by omega⟩ ⟨by omega, by omega⟩ hRK54m65 hM)
                  · exfalso; omega
      · exfalso; omega
set_option maxHeartbeats 4000000 in
theorem zk_216_16 (n : Nat) {a0 a1 a2 : Int} {m0 : zu_m} (hIm0 : zi_I m0) (hc0 : zcls a0 = 16) (ha1 : 0 ≤ a1 ∧ a1 ≤ 3) (ha2 : 0 ≤ a2 ∧ a2 ≤ 0)    (hRK54m0 : zR_K54 m0) : zw (zu_call (zt_T n) 216 [(27, a0), (0, a1), (0, a2)] m0) (fun v m => zi_I m ∧ zfr [(16, 10), (17, 4), (18, 6), (18, 7), (18, 8), (56, 0), (59, 1), (59, 2), (59, 3), (59, 4), (59, 5), (59, 6), (59, 7), (67, 0), (68, 0)] m0 m ∧ zR_K54 m ∧ True) := by
  have hFm0 : zfr [(16, 10), (17, 4), (18, 6), (18, 7), (18, 8), (56, 0), (59, 1), (59, 2), (59, 3), (59, 4), (59, 5), (59, 6), (59, 7), (67, 0), (68, 0)] m0 m0 := zfr_rf _ _
  refine zw_eq (zu_call_at (zt_T n) (zm_216 n) (zdp_216 n) _ _ _ _ _ rfl (zr_216_0 n _ _ a0 a1 a2 m0)) ?_
  have b67 : 0 ≤ a1 ∧ a1 < 4 := by omega
  refine zw_if b67 ?_
  have r68 : 0 ≤ (m0 ((a0 + 2) + 20 + a1) 1) ∧ (m0 ((a0 + 2) + 20 + a1) 1) ≤ 47 := zi_rd hIm0 (zc_66_e (zc_16_3 hc0) b67) zb_18_1
  have r69 : (-2147483648) ≤ (m0 ((a0 + 2) + 20 + a1) 6) ∧ (m0 ((a0 + 2) + 20 + a1) 6) ≤ 2147483647 := zi_rd hIm0 (zc_66_e (zc_16_3 hc0) b67) zb_18_6
  have hM : (16 - 0) * 1 + 0 < ((17 : Nat) : Int) := by omega
  exact (zl_216_16 n (m0 := m0) hc0 17) ((a0 + 2) + 20 + a1) (m0 ((a0 + 2) + 20 + a1) 1) (m0 ((a0 + 2) + 20 + a1) 6) 0 m0 hIm0 hFm0 ⟨by omega, by omega⟩ ⟨by omega, by omega⟩ (zc_66_e (zc_16_3 hc0) b67) ⟨by omega, by omega⟩ ⟨by omega, by omega⟩ ⟨by omega, by omega⟩ hRK54m0 hM
set_option maxHeartbeats 4000000 in
theorem zl_216_25 (n : Nat) {a0 a1 a2 : Int} {m0 : zu_m} (hc0 : zcls a0 = 25)   : ∀ k : Nat, (∀ (x3 x4 x5 x6 : Int) (mh : zu_m), zi_I mh → zfr [(25, 10), (26, 4), (27, 6), (27, 7), (27, 8), (56, 0), (59, 1), (59, 2), (59, 3), (59, 4), (59, 5), (59, 6), (59, 7), (97, 0), (98, 0)] m0 mh → (0 ≤ a1 ∧ a1 ≤ 3) → (0 ≤ a2 ∧ a2 ≤ 1) → (zcls x3 = 27) → (0 ≤ x4 ∧ x4 ≤ 47) → ((-2147483648) ≤ x5 ∧ x5 ≤ 2147483647) → (0 ≤ x6 ∧ x6 ≤ 16) → (zR_K54 mh) → (16 - x6) * 1 + 0 < (k : Int) → zw (zu_ex (zt_T n) 216 22 [(27, a0), (0, a1), (0, a2), (21, x3), (0, x4), (0, x5), (0, x6), (2, 0), (2, 0)] [] mh) (fun v m => zi_I m ∧ zfr [(25, 10), (26, 4), (27, 6), (27, 7), (27, 8), (56, 0), (59, 1), (59, 2), (59, 3), (59, 4), (59, 5), (59, 6), (59, 7), (97, 0), (98, 0)] m0 m ∧ zR_K54 m ∧ True)) := by
  intro k
  induction k with
  | zero => exact fun x3 x4 x5 x6 mh hImh hFmh hba1 hba2 hx3 hbx4 hbx5 hbx6 hRK54mh hM => by exfalso; omega
  | succ k ih =>
    intro x3 x4 x5 x6 mh hImh hFmh hba1 hba2 hx3 hbx4 hbx5 hbx6 hRK54mh hM
    refine zw_eq (zu_rega_at (zt_T n) (zm_216 n) (zdp_216 n) _ _ _ _ _ _ (zr_216_22 n _ _ a0 a1 a2 x3 x4 x5 x6 mh)) ?_
    have r1 : 0 ≤ (mh a0 2) ∧ (mh a0 2) ≤ 16 := zi_rd hImh hc0 zb_25_2
    refine zw_ite (fun h2 => ?_) (fun h2 => ?_)
    · refine zw_ite (fun h3 => ?_) (fun h3 => ?_)
      · generalize hmm4 : zu_up mh x3 7 (-1) = m4
        have hIm4 := zi_up hmm4 hImh hx3 zb_27_7 (by omega) (by omega)
        have hFm4 := zfr_up hmm4 hFmh hx3 rfl
        have hRK54m4 := zR_K54_fr (zdis_fr (zfr_up hmm4 (zfr_rf [(27, 8)] _) hx3 rfl) rfl) hRK54mh
        have r5 : (-2147483648) ≤ (m4 x3 5) ∧ (m4 x3 5) ≤ 2147483647 := zi_rd hIm4 hx3 zb_27_5
        have w6 := zu_w32_rg ((m4 x3 5) + 1)
        generalize hmm7 : zu_up m4 x3 5 (zu_w32 ((m4 x3 5) + 1)) = m7
        have hIm7 := zi_up hmm7 hIm4 hx3 zb_27_5 (by omega) (by omega)
        have hFm7 := zfr_up hmm7 hFm4 hx3 rfl
        have hRK54m7 := zR_K54_fr (zdis_fr (zfr_up hmm7 (zfr_rf [(27, 6)] _) hx3 rfl) rfl) hRK54m4
        refine zw_b (by omega) ?_
        have b8 : 0 ≤ x4 ∧ x4 < 48 := by omega
        refine zw_if b8 ?_
        generalize hmm9 : zu_up m7 (a0 + 3) x4 1 = m9
        have hIm9 := zi_up hmm9 hIm7 (zc_25_5 hc0) (zb_97 _) (by omega) (by omega)
        have hFm9 := zfr_up hmm9 hFm7 (zc_25_5 hc0) rfl
        have hRK54m9 := zR_K54_fr (zdis_fr (zfr_up hmm9 (zfr_rf [(97, 0)] _) (zc_25_5 hc0) rfl) rfl) hRK54m7
        have b10 : 0 ≤ x4 ∧ x4 < 48 := by omega
        refine zw_if b10 ?_
        have r11 : 0 ≤ (m9 (a0 + 4) x4) ∧ (m9 (a0 + 4) x4) ≤ 999000 := zi_rd hIm9 (zc_25_6 hc0) (zb_98 _)
        refine zw_bd (zw_mono (zk_254 n hIm9 zq_50 ⟨by omega, by omega⟩ ⟨by omega, by omega⟩ ⟨by omega, by omega⟩) (fun v13 m12 hqm12 => ?_))
        obtain ⟨hIm12, hfm12, hvm12⟩ := hqm12
        have hFm12 := zfr_tr hFm9 hfm12 rfl
        have hRK54m12 := zR_K54_fr (zdis_fr hfm12 rfl) hRK54m9
        have b14 : 0 ≤ x4 ∧ x4 < 48 := by omega
        refine zw_if b14 ?_
        generalize hmm15 : zu_up m12 (a0 + 4) x4 v13 = m15
        have hIm15 := zi_up hmm15 hIm12 (zc_25_6 hc0) (zb_98 _) (by omega) (by omega)
        have hFm15 := zfr_up hmm15 hFm12 (zc_25_6 hc0) rfl
        have hRK54m15 := zR_K54_fr (zdis_fr (zfr_up hmm15 (zfr_rf [(98, 0)] _) (zc_25_6 hc0) rfl) rfl) hRK54m12
        exact zw_some ⟨hIm15, hFm15, hRK54m15, trivial⟩
      · have r16 : (-2147483648) ≤ (mh x3 6) ∧ (mh x3 6) ≤ 2147483647 := zi_rd hImh hx3 zb_27_6
        refine zw_ite (fun h17 => ?_) (fun h17 => ?_)
        · generalize hmm18 : zu_up mh x3 7 (-1) = m18
          have hIm18 := zi_up hmm18 hImh hx3 zb_27_7 (by omega) (by omega)
          have hFm18 := zfr_up hmm18 hFmh hx3 rfl
          have hRK54m18 := zR_K54_fr (zdis_fr (zfr_up hmm18 (zfr_rf [(27, 8)] _) hx3 rfl) rfl) hRK54mh
          have r19 : (-2147483648) ≤ (m18 x3 5) ∧ (m18 x3 5) ≤ 2147483647 := zi_rd hIm18 hx3 zb_27_5
          have w20 := zu_w32_rg ((m18 x3 5) + 1)
          generalize hmm21 : zu_up m18 x3 5 (zu_w32 ((m18 x3 5) + 1)) = m21
          have hIm21 := zi_up hmm21 hIm18 hx3 zb_27_5 (by omega) (by omega)
          have hFm21 := zfr_up hmm21 hFm18 hx3 rfl
          have hRK54m21 := zR_K54_fr (zdis_fr (zfr_up hmm21 (zfr_rf [(27, 6)] _) hx3 rfl) rfl) hRK54m18
          refine zw_b (by omega) ?_
          have b22 : 0 ≤ x4 ∧ x4 < 48 := by omega
          refine zw_if b22 ?_
          generalize hmm23 : zu_up m21 (a0 + 3) x4 1 = m23
          have hIm23 := zi_up hmm23 hIm21 (zc_25_5 hc0) (zb_97 _) (by omega) (by omega)
          have hFm23 := zfr_up hmm23 hFm21 (zc_25_5 hc0) rfl
          have hRK54m23 := zR_K54_fr (zdis_fr (zfr_up hmm23 (zfr_rf [(97, 0)] _) (zc_25_5 hc0) rfl) rfl) hRK54m21
          have b24 : 0 ≤ x4 ∧ x4 < 48 := by omega
          refine zw_if b24 ?_
          have r25 : 0 ≤ (m23 (a0 + 4) x4) ∧ (m23 (a0 + 4) x4) ≤ 999000 := zi_rd hIm23 (zc_25_6 hc0) (zb_98 _)
          refine zw_bd (zw_mono (zk_254 n hIm23 zq_50 ⟨by omega, by omega⟩ ⟨by omega, by omega⟩ ⟨by omega, by omega⟩) (fun v27 m26 hqm26 => ?_))
          obtain ⟨hIm26, hfm26, hvm26⟩ := hqm26
          have hFm26 := zfr_tr hFm23 hfm26 rfl
          have hRK54m26 := zR_K54_fr (zdis_fr hfm26 rfl) hRK54m23
          have b28 : 0 ≤ x4 ∧ x4 < 48 := by omega
          refine zw_if b28 ?_
          generalize hmm29 : zu_up m26 (a0 + 4) x4 v27 = m29
          have hIm29 := zi_up hmm29 hIm26 (zc_25_6 hc0) (zb_98 _) (by omega) (by omega)
          have hFm29 := zfr_up hmm29 hFm26 (zc_25_6 hc0) rfl
          have hRK54m29 := zR_K54_fr (zdis_fr (zfr_up hmm29 (zfr_rf [(98, 0)] _) (zc_25_6 hc0) rfl) rfl) hRK54m26
          exact zw_some ⟨hIm29, hFm29, hRK54m29, trivial⟩
        · generalize hmm30 : zu_up mh x3 7 x4 = m30
          have hIm30 := zi_up hmm30 hImh hx3 zb_27_7 (by omega) (by omega)
          have hFm30 := zfr_up hmm30 hFmh hx3 rfl
          have hRK54m30 := zR_K54_fr (zdis_fr (zfr_up hmm30 (zfr_rf [(27, 8)] _) hx3 rfl) rfl) hRK54mh
          have r31 : (-2147483648) ≤ (m30 x3 5) ∧ (m30 x3 5) ≤ 2147483647 := zi_rd hIm30 hx3 zb_27_5
          have w32 := zu_w32_rg ((m30 x3 5) + 1)
          generalize hmm33 : zu_up m30 x3 5 (zu_w32 ((m30 x3 5) + 1)) = m33
          have hIm33 := zi_up hmm33 hIm30 hx3 zb_27_5 (by omega) (by omega)
          have hFm33 := zfr_up hmm33 hFm30 hx3 rfl
          have hRK54m33 := zR_K54_fr (zdis_fr (zfr_up hmm33 (zfr_rf [(27, 6)] _) hx3 rfl) rfl) hRK54m30
          refine zw_b (by omega) ?_
          have b34 : 0 ≤ x4 ∧ x4 < 48 := by omega
          refine zw_if b34 ?_
          generalize hmm35 : zu_up m33 (a0 + 3) x4 1 = m35
          have hIm35 := zi_up hmm35 hIm33 (zc_25_5 hc0) (zb_97 _) (by omega) (by omega)
          have hFm35 := zfr_up hmm35 hFm33 (zc_25_5 hc0) rfl
          have hRK54m35 := zR_K54_fr (zdis_fr (zfr_up hmm35 (zfr_rf [(97, 0)] _) (zc_25_5 hc0) rfl) rfl) hRK54m33
          have b36 : 0 ≤ x4 ∧ x4 < 48 := by omega
          refine zw_if b36 ?_
          have r37 : 0 ≤ (m35 (a0 + 4) x4) ∧ (m35 (a0 + 4) x4) ≤ 999000 := zi_rd hIm35 (zc_25_6 hc0) (zb_98 _)
          refine zw_bd (zw_mono (zk_254 n hIm35 zq_50 ⟨by omega, by omega⟩ ⟨by omega, by omega⟩ ⟨by omega, by omega⟩) (fun v39 m38 hqm38 => ?_))
          obtain ⟨hIm38, hfm38, hvm38⟩ := hqm38
          have hFm38 := zfr_tr hFm35 hfm38 rfl
          have hRK54m38 := zR_K54_fr (zdis_fr hfm38 rfl) hRK54m35
          have b40 : 0 ≤ x4 ∧ x4 < 48 := by omega
          refine zw_if b40 ?_
          generalize hmm41 : zu_up m38 (a0 + 4) x4 v39 = m41
          have hIm41 := zi_up hmm41 hIm38 (zc_25_6 hc0) (zb_98 _) (by omega) (by omega)
          have hFm41 := zfr_up hmm41 hFm38 (zc_25_6 hc0) rfl
          have hRK54m41 := zR_K54_fr (zdis_fr (zfr_up hmm41 (zfr_rf [(98, 0)] _) (zc_25_6 hc0) rfl) rfl) hRK54m38
          exact zw_some ⟨hIm41, hFm41, hRK54m41, trivial⟩
    · refine zw_ite (fun h42 => ?_) (fun h42 => ?_)
      · have b43 : 0 ≤ x6 ∧ x6 < 16 := by omega
        refine zw_if b43 ?_
        have r44 : (-3) ≤ (mh ((a0 + 1) + 5 + x6) 3) ∧ (mh ((a0 + 1) + 5 + x6) 3) ≤ 3 := zi_rd hImh (zc_95_e (zc_25_1 hc0) b43) zb_26_3
        refine zw_ite (fun h45 => ?_) (fun h45 => ?_)
        · have w46 := zu_w32_id (z := x6 + 1) (by omega) (by omega)
          have hM : (16 - (zu_w32 (x6 + 1))) * 1 + 0 < (k : Int) := by omega
          exact zw_le (zu_forget (zu_lr_same (zu_lr_same (zu_lr_same (zu_lr_same (zu_lr_same (zu_lr_same (zu_lr_same (zu_lr_drop (zu_lr_same zu_lr_nil)))))))))) (ih x3 x4 x5 (zu_w32 (x6 + 1)) mh hImh hFmh ⟨by omega, by omega⟩ ⟨by omega, by omega⟩ hx3 ⟨by omega, by omega⟩ ⟨by omega, by omega⟩ ⟨by omega, by omega⟩ hRK54mh hM)
        · have r47 : 0 ≤ (mh ((a0 + 1) + 5 + x6) 0) ∧ (mh ((a0 + 1) + 5 + x6) 0) ≤ 47 := zi_rd hImh (zc_95_e (zc_25_1 hc0) b43) zb_26_0
          refine zw_ite (fun h48 => ?_) (fun h48 => ?_)
          · have w49 := zu_w32_id (z := x6 + 1) (by omega) (by omega)
            have hM : (16 - (zu_w32 (x6 + 1))) * 1 + 0 < (k : Int) := by omega
            exact zw_le (zu_forget (zu_lr_same (zu_lr_same (zu_lr_same (zu_lr_same (zu_lr_same (zu_lr_same (zu_lr_same (zu_lr_drop (zu_lr_same zu_lr_nil)))))))))) (ih x3 x4 x5 (zu_w32 (x6 + 1)) mh hImh hFmh ⟨by omega, by omega⟩ ⟨by omega, by omega⟩ hx3 ⟨by omega, by omega⟩ ⟨by omega, by omega⟩ ⟨by omega, by omega⟩ hRK54mh hM)
          · have r50 : 0 ≤ (mh ((a0 + 1) + 5 + x6) 1) ∧ (mh ((a0 + 1) + 5 + x6) 1) ≤ 3 := zi_rd hImh (zc_95_e (zc_25_1 hc0) b43) zb_26_1
            refine zw_bd (zw_eq (zu_call_at (zt_T n) (zm_217 n) (zdp_217 n) _ _ _ _ _ rfl (zr_217_0 n _ _ a0 a1 (mh ((a0 + 1) + 5 + x6) 1) mh)) ?_)
            have r51 : 0 ≤ (mh a0 10) ∧ (mh a0 10) ≤ 3 := zi_rd hImh hc0 zb_25_10
            refine zw_ite (fun h52 => ?_) (fun h52 => ?_)
            · refine zw_b (by omega) ?_
              refine zw_some ?_
              refine zw_ite (fun h53 => ?_) (fun h53 => ?_)
              · exfalso; omega
              · refine zw_ite (fun h54 => ?_) (fun h54 => ?_)
                · refine zw_bd (zw_mono (zk_215_25 n hImh hc0) (fun v56 m55 hqm55 => ?_))
                  obtain ⟨hIm55, hfm55, hvm55⟩ := hqm55
                  have hFm55 := zfr_tr hFmh hfm55 rfl
                  have hRK54m55 := zR_K54_fr (zdis_fr hfm55 rfl) hRK54mh
                  refine zw_nif (by omega) ?_
                  have d57 := ztmod_b2 (x := v56) (y := 100) (by omega)
                  have r58 : (-2147483648) ≤ (m55 x3 6) ∧ (m55 x3 6) ≤ 2147483647 := zi_rd hIm55 hx3 zb_27_6
                  refine zw_bd (zw_mono (zk_224_25 n hIm55 hc0 ⟨by omega, by omega⟩ ⟨by omega, by omega⟩ ⟨by omega, by omega⟩) (fun v60 m59 hqm59 => ?_))
                  obtain ⟨hIm59, hfm59, hvm59⟩ := hqm59
                  have hFm59 := zfr_tr hFm55 hfm59 rfl
                  have hRK54m59 := zR_K54_fr (zdis_fr hfm59 rfl) hRK54m55
                  refine zw_bd (zw_mono (zk_250 n hIm59 zq_50 hRK54m59) (fun v62 m61 hqm61 => ?_))
                  obtain ⟨hIm61, hfm61, hvm61⟩ := hqm61
                  have hFm61 := zfr_tr hFm59 hfm61 rfl
                  obtain ⟨hRK54m61, hvm61⟩ := hvm61
                  refine zw_ite (fun h63 => ?_) (fun h63 => ?_)
                  · have w64 := zu_w32_id (z := x6 + 1) (by omega) (by omega)
                    have hM : (16 - (zu_w32 (x6 + 1))) * 1 + 0 < (k : Int) := by omega
                    exact zw_le (zu_forget (zu_lr_same (zu_lr_same (zu_lr_same (zu_lr_same (zu_lr_same (zu_lr_same (zu_lr_same (zu_lr_drop (zu_lr_drop zu_lr_nil)))))))))) (ih x3 x4 x5 (zu_w32 (x6 + 1)) m61 hIm61 hFm61 ⟨by omega, by omega⟩ ⟨by omega, by omega⟩ hx3 ⟨by omega, by omega⟩ ⟨by omega, by omega⟩ ⟨by omega, by omega⟩ hRK54m61 hM)
                  · generalize hmm65 : zu_up m61 ((a0 + 1) + 5 + x6) 3 a1 = m65
                    have hIm65 := zi_up hmm65 hIm61 (zc_95_e (zc_25_1 hc0) b43) zb_26_3 (by omega) (by omega)
                    have hFm65 := zfr_up hmm65 hFm61 (zc_95_e (zc_25_1 hc0) b43) rfl
                    have hRK54m65 := zR_K54_fr (zdis_fr (zfr_up hmm65 (zfr_rf [(26, 4)] _) (zc_95_e (zc_25_1 hc0) b43) rfl) rfl) hRK54m61
                    have r66 : (-2147483648) ≤ (m65 x3 6) ∧ (m65 x3 6) ≤ 2147483647 := zi_rd hIm65 hx3 zb_27_6
                    have e67 : (m65 x3 6) = (m55 x3 6) := (Eq.trans (zs_ne hmm65 (Or.inl (zc_ne hx3 (zc_95_e (zc_25_1 hc0) b43) (by decide)))) (Eq.trans (zfr_ap hfm61 hx3 rfl) (zfr_ap hfm59 hx3 rfl)))
                    have w68 := zu_w32_rg ((m65 x3 6) + 1)
                    generalize hmm69 : zu_up m65 x3 6 (zu_w32 ((m65 x3 6) + 1)) = m69
                    have hIm69 := zi_up hmm69 hIm65 hx3 zb_27_6 (by omega) (by omega)
                    have hFm69 := zfr_up hmm69 hFm65 hx3 rfl
                    have hRK54m69 := zR_K54_fr (zdis_fr (zfr_up hmm69 (zfr_rf [(27, 7)] _) hx3 rfl) rfl) hRK54m65
                    have w70 := zu_w32_id (z := x6 + 1) (by omega) (by omega)
                    have hM : (16 - (zu_w32 (x6 + 1))) * 1 + 0 < (k : Int) := by omega
                    exact zw_le (zu_forget (zu_lr_same (zu_lr_same (zu_lr_same (zu_lr_same (zu_lr_same (zu_lr_same (zu_lr_same (zu_lr_drop (zu_lr_drop zu_lr_nil)))))))))) (ih x3 x4 x5 (zu_w32 (x6 + 1)) m69 hIm69 hFm69 ⟨by omega, by omega⟩ ⟨by omega, by omega⟩ hx3 ⟨by omega, by omega⟩ ⟨by omega, by omega⟩ ⟨by omega, by omega⟩ hRK54m69 hM)
                · exfalso; omega
            · refine zw_nif (by omega) ?_
              have d71 : Int.tmod a1 4 = a1 % 4 := Int.tmod_eq_emod_of_nonneg (by omega)
              refine zw_ite (fun h72 => ?_) (fun h72 => ?_)
              · refine zw_b (by omega) ?_
                refine zw_some ?_
                refine zw_ite (fun h73 => ?_) (fun h73 => ?_)
                · have w74 := zu_w32_id (z := x6 + 1) (by omega) (by omega)
                  have hM : (16 - (zu_w32 (x6 + 1))) * 1 + 0 < (k : Int) := by omega
                  exact zw_le (zu_forget (zu_lr_same (zu_lr_same (zu_lr_same (zu_lr_same (zu_lr_same (zu_lr_same (zu_lr_same (zu_lr_drop (zu_lr_same zu_lr_nil)))))))))) (ih x3 x4 x5 (zu_w32 (x6 + 1)) mh hImh hFmh ⟨by omega, by omega⟩ ⟨by omega, by omega⟩ hx3 ⟨by omega, by omega⟩ ⟨by omega, by omega⟩ ⟨by omega, by omega⟩ hRK54mh hM)
                · exfalso; omega
              · refine zw_b (by omega) ?_
                refine zw_some ?_
                refine zw_ite (fun h75 => ?_) (fun h75 => ?_)
                · exfalso; omega
                · refine zw_ite (fun h76 => ?_) (fun h76 => ?_)
                  · refine zw_bd (zw_mono (zk_215_25 n hImh hc0) (fun v78 m77 hqm77 => ?_))
                    obtain ⟨hIm77, hfm77, hvm77⟩ := hqm77
                    have hFm77 := zfr_tr hFmh hfm77 rfl
                    have hRK54m77 := zR_K54_fr (zdis_fr hfm77 rfl) hRK54mh
                    refine zw_nif (by omega) ?_
                    have d79 := ztmod_b2 (x := v78) (y := 100) (by omega)
                    have r80 : (-2147483648) ≤ (m77 x3 6) ∧ (m77 x3 6) ≤ 2147483647 := zi_rd hIm77 hx3 zb_27_6
                    refine zw_bd (zw_mono (zk_224_25 n hIm77 hc0 ⟨by omega, by omega⟩ ⟨by omega, by omega⟩ ⟨by omega, by omega⟩) (fun v82 m81 hqm81 => ?_))
                    obtain ⟨hIm81, hfm81, hvm81⟩ := hqm81
                    have hFm81 := zfr_tr hFm77 hfm81 rfl
                    have hRK54m81 := zR_K54_fr (zdis_fr hfm81 rfl) hRK54m77
                    refine zw_bd (zw_mono (zk_250 n hIm81 zq_50 hRK54m81) (fun v84 m83 hqm83 => ?_))
                    obtain ⟨hIm83, hfm83, hvm83⟩ := hqm83
                    have hFm83 := zfr_tr hFm81 hfm83 rfl
                    obtain ⟨hRK54m83, hvm83⟩ := hvm83
                    refine zw_ite (fun h85 => ?_) (fun h85 => ?_)
                    · have w86 := zu_w32_id (z := x6 + 1) (by omega) (by omega)
                      have hM : (16 - (zu_w32 (x6 + 1))) * 1 + 0 < (k : Int) := by omega
                      exact zw_le (zu_forget (zu_lr_same (zu_lr_same (zu_lr_same (zu_lr_same (zu_lr_same (zu_lr_same (zu_lr_same (zu_lr_drop (zu_lr_drop zu_lr_nil)))))))))) (ih x3 x4 x5 (zu_w32 (x6 + 1)) m83 hIm83 hFm83 ⟨by omega, by omega⟩ ⟨by omega, by omega⟩ hx3 ⟨by omega, by omega⟩ ⟨by omega, by omega⟩ ⟨by omega, by omega⟩ hRK54m83 hM)
                    · generalize hmm87 : zu_up m83 ((a0 + 1) + 5 + x6) 3 a1 = m87
                      have hIm87 := zi_up hmm87 hIm83 (zc_95_e (zc_25_1 hc0) b43) zb_26_3 (by omega) (by omega)
                      have hFm87 := zfr_up hmm87 hFm83 (zc_95_e (zc_25_1 hc0) b43) rfl
                      have hRK54m87 := zR_K54_fr (zdis_fr (zfr_up hmm87 (zfr_rf [(26, 4)] _) (zc_95_e (zc_25_1 hc0) b43) rfl) rfl) hRK54m83
                      have r88 : (-2147483648) ≤ (m87 x3 6) ∧ (m87 x3 6) ≤ 2147483647 := zi_rd hIm87 hx3 zb_27_6
                      have e89 : (m87 x3 6) = (m77 x3 6) := (Eq.trans (zs_ne hmm87 (Or.inl (zc_ne hx3 (zc_95_e (zc_25_1 hc0) b43) (by decide)))) (Eq.trans (zfr_ap hfm83 hx3 rfl) (zfr_ap hfm81 hx3 rfl)))
                      have w90 := zu_w32_rg ((m87 x3 6) + 1)
                      generalize hmm91 : zu_up m87 x3 6 (zu_w32 ((m87 x3 6) + 1)) = m91
                      have hIm91 := zi_up hmm91 hIm87 hx3 zb_27_6 (by omega) (by omega)
                      have hFm91 := zfr_up hmm91 hFm87 hx3 rfl
                      have hRK54m91 := zR_K54_fr (zdis_fr (zfr_up hmm91 (zfr_rf [(27, 7)] _) hx3 rfl) rfl) hRK54m87
                      have w92 := zu_w32_id (z := x6 + 1) (by omega) (by omega)
                      have hM : (16 - (zu_w32 (x6 + 1))) * 1 + 0 < (k : Int) := by omega
                      exact zw_le (zu_forget (zu_lr_same (zu_lr_same (zu_lr_same (zu_lr_same (zu_lr_same (zu_lr_same (zu_lr_same (zu_lr_drop (zu_lr_drop zu_lr_nil)))))))))) (ih x3 x4 x5 (zu_w32 (x6 + 1)) m91 hIm91 hFm91 ⟨by omega, by omega⟩ ⟨by omega, by omega⟩ hx3 ⟨by omega, by omega⟩ ⟨by omega, by omega⟩ ⟨by omega, by omega⟩ hRK54m91 hM)
                  · exfalso; omega
      · have r93 : (-2147483648) ≤ (mh x3 7) ∧ (mh x3 7) ≤ 2147483647 := zi_rd hImh hx3 zb_27_7
        refine zw_ite (fun h94 => ?_) (fun h94 => ?_)
        · refine zw_ite (fun h95 => ?_) (fun h95 => ?_)
          · exfalso; omega
          · have r96 : (-2147483648) ≤ (mh x3 6) ∧ (mh x3 6) ≤ 2147483647 := zi_rd hImh hx3 zb_27_6
            refine zw_ite (fun h97 => ?_) (fun h97 => ?_)
            · generalize hmm98 : zu_up mh x3 7 (-1) = m98
              have hIm98 := zi_up hmm98 hImh hx3 zb_27_7 (by omega) (by omega)
              have hFm98 := zfr_up hmm98 hFmh hx3 rfl
              have hRK54m98 := zR_K54_fr (zdis_fr (zfr_up hmm98 (zfr_rf [(27, 8)] _) hx3 rfl) rfl) hRK54mh
              have r99 : (-2147483648) ≤ (m98 x3 5) ∧ (m98 x3 5) ≤ 2147483647 := zi_rd hIm98 hx3 zb_27_5
              have w100 := zu_w32_rg ((m98 x3 5) + 1)
              generalize hmm101 : zu_up m98 x3 5 (zu_w32 ((m98 x3 5) + 1)) = m101
              have hIm101 := zi_up hmm101 hIm98 hx3 zb_27_5 (by omega) (by omega)
              have hFm101 := zfr_up hmm101 hFm98 hx3 rfl
              have hRK54m101 := zR_K54_fr (zdis_fr (zfr_up hmm101 (zfr_rf [(27, 6)] _) hx3 rfl) rfl) hRK54m98
              refine zw_b (by omega) ?_
              have b102 : 0 ≤ x4 ∧ x4 < 48 := by omega
              refine zw_if b102 ?_
              generalize hmm103 : zu_up m101 (a0 + 3) x4 1 = m103
              have hIm103 := zi_up hmm103 hIm101 (zc_25_5 hc0) (zb_97 _) (by omega) (by omega)
              have hFm103 := zfr_up hmm103 hFm101 (zc_25_5 hc0) rfl
              have hRK54m103 := zR_K54_fr (zdis_fr (zfr_up hmm103 (zfr_rf [(97, 0)] _) (zc_25_5 hc0) rfl) rfl) hRK54m101
              have b104 : 0 ≤ x4 ∧ x4 < 48 := by omega
              refine zw_if b104 ?_
              have r105 : 0 ≤ (m103 (a0 + 4) x4) ∧ (m103 (a0 + 4) x4) ≤ 999000 := zi_rd hIm103 (zc_25_6 hc0) (zb_98 _)
              refine zw_bd (zw_mono (zk_254 n hIm103 zq_50 ⟨by omega, by omega⟩ ⟨by omega, by omega⟩ ⟨by omega, by omega⟩) (fun v107 m106 hqm106 => ?_))
              obtain ⟨hIm106, hfm106, hvm106⟩ := hqm106
              have hFm106 := zfr_tr hFm103 hfm106 rfl
              have hRK54m106 := zR_K54_fr (zdis_fr hfm106 rfl) hRK54m103
              have b108 : 0 ≤ x4 ∧ x4 < 48 := by omega
              refine zw_if b108 ?_
              generalize hmm109 : zu_up m106 (a0 + 4) x4 v107 = m109
              have hIm109 := zi_up hmm109 hIm106 (zc_25_6 hc0) (zb_98 _) (by omega) (by omega)
              have hFm109 := zfr_up hmm109 hFm106 (zc_25_6 hc0) rfl
              have hRK54m109 := zR_K54_fr (zdis_fr (zfr_up hmm109 (zfr_rf [(98, 0)] _) (zc_25_6 hc0) rfl) rfl) hRK54m106
              exact zw_some ⟨hIm109, hFm109, hRK54m109, trivial⟩
            · generalize hmm110 : zu_up mh x3 7 x4 = m110
              have hIm110 := zi_up hmm110 hImh hx3 zb_27_7 (by omega) (by omega)
              have hFm110 := zfr_up hmm110 hFmh hx3 rfl
              have hRK54m110 := zR_K54_fr (zdis_fr (zfr_up hmm110 (zfr_rf [(27, 8)] _) hx3 rfl) rfl) hRK54mh
              have r111 : (-2147483648) ≤ (m110 x3 5) ∧ (m110 x3 5) ≤ 2147483647 := zi_rd hIm110 hx3 zb_27_5
              have w112 := zu_w32_rg ((m110 x3 5) + 1)
              generalize hmm113 : zu_up m110 x3 5 (zu_w32 ((m110 x3 5) + 1)) = m113
              have hIm113 := zi_up hmm113 hIm110 hx3 zb_27_5 (by omega) (by omega)
              have hFm113 := zfr_up hmm113 hFm110 hx3 rfl
              have hRK54m113 := zR_K54_fr (zdis_fr (zfr_up hmm113 (zfr_rf [(27, 6)] _) hx3 rfl) rfl) hRK54m110
              refine zw_b (by omega) ?_
              have b114 : 0 ≤ x4 ∧ x4 < 48 := by omega
              refine zw_if b114 ?_
              generalize hmm115 : zu_up m113 (a0 + 3) x4 1 = m115
              have hIm115 := zi_up hmm115 hIm113 (zc_25_5 hc0) (zb_97 _) (by omega) (by omega)
              have hFm115 := zfr_up hmm115 hFm113 (zc_25_5 hc0) rfl
              have hRK54m115 := zR_K54_fr (zdis_fr (zfr_up hmm115 (zfr_rf [(97, 0)] _) (zc_25_5 hc0) rfl) rfl) hRK54m113
              have b116 : 0 ≤ x4 ∧ x4 < 48 := by omega
              refine zw_if b116 ?_
              have r117 : 0 ≤ (m115 (a0 + 4) x4) ∧ (m115 (a0 + 4) x4) ≤ 999000 := zi_rd hIm115 (zc_25_6 hc0) (zb_98 _)
              refine zw_bd (zw_mono (zk_254 n hIm115 zq_50 ⟨by omega, by omega⟩ ⟨by omega, by omega⟩ ⟨by omega, by omega⟩) (fun v119 m118 hqm118 => ?_))
              obtain ⟨hIm118, hfm118, hvm118⟩ := hqm118
              have hFm118 := zfr_tr hFm115 hfm118 rfl
              have hRK54m118 := zR_K54_fr (zdis_fr hfm118 rfl) hRK54m115
              have b120 : 0 ≤ x4 ∧ x4 < 48 := by omega
              refine zw_if b120 ?_
              generalize hmm121 : zu_up m118 (a0 + 4) x4 v119 = m121
              have hIm121 := zi_up hmm121 hIm118 (zc_25_6 hc0) (zb_98 _) (by omega) (by omega)
              have hFm121 := zfr_up hmm121 hFm118 (zc_25_6 hc0) rfl
              have hRK54m121 := zR_K54_fr (zdis_fr (zfr_up hmm121 (zfr_rf [(98, 0)] _) (zc_25_6 hc0) rfl) rfl) hRK54m118
              exact zw_some ⟨hIm121, hFm121, hRK54m121, trivial⟩
        · have b122 : 0 ≤ x6 ∧ x6 < 16 := by omega
          refine zw_if b122 ?_
          have r123 : (-3) ≤ (mh ((a0 + 1) + 5 + x6) 3) ∧ (mh ((a0 + 1) + 5 + x6) 3) ≤ 3 := zi_rd hImh (zc_95_e (zc_25_1 hc0) b122) zb_26_3
          refine zw_ite (fun h124 => ?_) (fun h124 => ?_)
          · have w125 := zu_w32_id (z := x6 + 1) (by omega) (by omega)
            have hM : (16 - (zu_w32 (x6 + 1))) * 1 + 0 < (k : Int) := by omega
            exact zw_le (zu_forget (zu_lr_same (zu_lr_same (zu_lr_same (zu_lr_same (zu_lr_same (zu_lr_same (zu_lr_same (zu_lr_drop (zu_lr_same zu_lr_nil)))))))))) (ih x3 x4 x5 (zu_w32 (x6 + 1)) mh hImh hFmh ⟨by omega, by omega⟩ ⟨by omega, by omega⟩ hx3 ⟨by omega, by omega⟩ ⟨by omega, by omega⟩ ⟨by omega, by omega⟩ hRK54mh hM)
          · have r126 : 0 ≤ (mh ((a0 + 1) + 5 + x6) 0) ∧ (mh ((a0 + 1) + 5 + x6) 0) ≤ 47 := zi_rd hImh (zc_95_e (zc_25_1 hc0) b122) zb_26_0
            refine zw_ite (fun h127 => ?_) (fun h127 => ?_)
            · have w128 := zu_w32_id (z := x6 + 1) (by omega) (by omega)
              have hM : (16 - (zu_w32 (x6 + 1))) * 1 + 0 < (k : Int) := by omega
              exact zw_le (zu_forget (zu_lr_same (zu_lr_same (zu_lr_same (zu_lr_same (zu_lr_same (zu_lr_same (zu_lr_same (zu_lr_drop (zu_lr_same zu_lr_nil)))))))))) (ih x3 x4 x5 (zu_w32 (x6 + 1)) mh hImh hFmh ⟨by omega, by omega⟩ ⟨by omega, by omega⟩ hx3 ⟨by omega, by omega⟩ ⟨by omega, by omega⟩ ⟨by omega, by omega⟩ hRK54mh hM)
            · have r129 : 0 ≤ (mh ((a0 + 1) + 5 + x6) 1) ∧ (mh ((a0 + 1) + 5 + x6) 1) ≤ 3 := zi_rd hImh (zc_95_e (zc_25_1 hc0) b122) zb_26_1
              refine zw_bd (zw_eq (zu_call_at (zt_T n) (zm_217 n) (zdp_217 n) _ _ _ _ _ rfl (zr_217_0 n _ _ a0 a1 (mh ((a0 + 1) + 5 + x6) 1) mh)) ?_)
              have r130 : 0 ≤ (mh a0 10) ∧ (mh a0 10) ≤ 3 := zi_rd hImh hc0 zb_25_10
              refine zw_ite (fun h131 => ?_) (fun h131 => ?_)
              · refine zw_b (by omega) ?_
                refine zw_some ?_
                refine zw_ite (fun h132 => ?_) (fun h132 => ?_)
                · exfalso; omega
                · refine zw_ite (fun h133 => ?_) (fun h133 => ?_)
                  · exfalso; omega
                  · have r134 : (-2147483648) ≤ (mh x3 6) ∧ (mh x3 6) ≤ 2147483647 := zi_rd hImh hx3 zb_27_6
                    refine zw_bd (zw_mono (zk_224_25 n hImh hc0 ⟨by omega, by omega⟩ ⟨by omega, by omega⟩ ⟨by omega, by omega⟩) (fun v136 m135 hqm135 => ?_))
                    obtain ⟨hIm135, hfm135, hvm135⟩ := hqm135
                    have hFm135 := zfr_tr hFmh hfm135 rfl
                    have hRK54m135 := zR_K54_fr (zdis_fr hfm135 rfl) hRK54mh
                    refine zw_bd (zw_mono (zk_250 n hIm135 zq_50 hRK54m135) (fun v138 m137 hqm137 => ?_))
                    obtain ⟨hIm137, hfm137, hvm137⟩ := hqm137
                    have hFm137 := zfr_tr hFm135 hfm137 rfl
                    obtain ⟨hRK54m137, hvm137⟩ := hvm137
                    refine zw_ite (fun h139 => ?_) (fun h139 => ?_)
                    · have w140 := zu_w32_id (z := x6 + 1) (by omega) (by omega)
                      have hM : (16 - (zu_w32 (x6 + 1))) * 1 + 0 < (k : Int) := by omega
                      exact zw_le (zu_forget (zu_lr_same (zu_lr_same (zu_lr_same (zu_lr_same (zu_lr_same (zu_lr_same (zu_lr_same (zu_lr_drop (zu_lr_drop zu_lr_nil)))))))))) (ih x3 x4 x5 (zu_w32 (x6 + 1)) m137 hIm137 hFm137 ⟨by omega, by omega⟩ ⟨by omega, by omega⟩ hx3 ⟨by omega, by omega⟩ ⟨by omega, by omega⟩ ⟨by omega, by omega⟩ hRK54m137 hM)
                    · generalize hmm141 : zu_up m137 ((a0 + 1) + 5 + x6) 3 a1 = m141
                      have hIm141 := zi_up hmm141 hIm137 (zc_95_e (zc_25_1 hc0) b122) zb_26_3 (by omega) (by omega)
                      have hFm141 := zfr_up hmm141 hFm137 (zc_95_e (zc_25_1 hc0) b122) rfl
                      have hRK54m141 := zR_K54_fr (zdis_fr (zfr_up hmm141 (zfr_rf [(26, 4)] _) (zc_95_e (zc_25_1 hc0) b122) rfl) rfl) hRK54m137
                      have r142 : (-2147483648) ≤ (m141 x3 6) ∧ (m141 x3 6) ≤ 2147483647 := zi_rd hIm141 hx3 zb_27_6
                      have e143 : (m141 x3 6) = (mh x3 6) := (Eq.trans (zs_ne hmm141 (Or.inl (zc_ne hx3 (zc_95_e (zc_25_1 hc0) b122) (by decide)))) (Eq.trans (zfr_ap hfm137 hx3 rfl) (zfr_ap hfm135 hx3 rfl)))
                      have w144 := zu_w32_rg ((m141 x3 6) + 1)
                      generalize hmm145 : zu_up m141 x3 6 (zu_w32 ((m141 x3 6) + 1)) = m145
                      have hIm145 := zi_up hmm145 hIm141 hx3 zb_27_6 (by omega) (by omega)
                      have hFm145 := zfr_up hmm145 hFm141 hx3 rfl
                      have hRK54m145 := zR_K54_fr (zdis_fr (zfr_up hmm145 (zfr_rf [(27, 7)] _) hx3 rfl) rfl) hRK54m141
                      have w146 := zu_w32_id (z := x6 + 1) (by omega) (by omega)
                      have hM : (16 - (zu_w32 (x6 + 1))) * 1 + 0 < (k : Int) := by omega
                      exact zw_le (zu_forget (zu_lr_same (zu_lr_same (zu_lr_same (zu_lr_same (zu_lr_same (zu_lr_same (zu_lr_same (zu_lr_drop (zu_lr_drop zu_lr_nil)))))))))) (ih x3 x4 x5 (zu_w32 (x6 + 1)) m145 hIm145 hFm145 ⟨by omega, by omega⟩ ⟨by omega, by omega⟩ hx3 ⟨by omega, by omega⟩ ⟨by omega, by omega⟩ ⟨by omega, by omega⟩ hRK54m145 hM)
              · refine zw_nif (by omega) ?_
                have d147 : Int.tmod a1 4 = a1 % 4 := Int.tmod_eq_emod_of_nonneg (by omega)
                refine zw_ite (fun h148 => ?_) (fun h148 => ?_)
                · refine zw_b (by omega) ?_
                  refine zw_some ?_
                  refine zw_ite (fun h149 => ?_) (fun h149 => ?_)
                  · have w150 := zu_w32_id (z := x6 + 1) (by omega) (by omega)
                    have hM : (16 - (zu_w32 (x6 + 1))) * 1 + 0 < (k : Int) := by omega
                    exact zw_le (zu_forget (zu_lr_same (zu_lr_same (zu_lr_same (zu_lr_same (zu_lr_same (zu_lr_same (zu_lr_same (zu_lr_drop (zu_lr_same zu_lr_nil)))))))))) (ih x3 x4 x5 (zu_w32 (x6 + 1)) mh hImh hFmh ⟨by omega, by omega⟩ ⟨by omega, by omega⟩ hx3 ⟨by omega, by omega⟩ ⟨by omega, by omega⟩ ⟨by omega, by omega⟩ hRK54mh hM)
                  · exfalso; omega
                · refine zw_b (by omega) ?_
                  refine zw_some ?_
                  refine zw_ite (fun h151 => ?_) (fun h151 => ?_)
                  · exfalso; omega
                  · refine zw_ite (fun h152 => ?_) (fun h152 => ?_)
                    · exfalso; omega
                    · have r153 : (-2147483648) ≤ (mh x3 6) ∧ (mh x3 6) ≤ 2147483647 := zi_rd hImh hx3 zb_27_6
                      refine zw_bd (zw_mono (zk_224_25 n hImh hc0 ⟨by omega, by omega⟩ ⟨by omega, by omega⟩ ⟨by omega, by omega⟩) (fun v155 m154 hqm154 => ?_))
                      obtain ⟨hIm154, hfm154, hvm154⟩ := hqm154
                      have hFm154 := zfr_tr hFmh hfm154 rfl
                      have hRK54m154 := zR_K54_fr (zdis_fr hfm154 rfl) hRK54mh
                      refine zw_bd (zw_mono (zk_250 n hIm154 zq_50 hRK54m154) (fun v157 m156 hqm156 => ?_))
                      obtain ⟨hIm156, hfm156, hvm156⟩ := hqm156
                      have hFm156 := zfr_tr hFm154 hfm156 rfl
                      obtain ⟨hRK54m156, hvm156⟩ := hvm156
                      refine zw_ite (fun h158 => ?_) (fun h158 => ?_)
                      · have w159 := zu_w32_id (z := x6 + 1) (by omega) (by omega)
                        have hM : (16 - (zu_w32 (x6 + 1))) * 1 + 0 < (k : Int) := by omega
                        exact zw_le (zu_forget (zu_lr_same (zu_lr_same (zu_lr_same (zu_lr_same (zu_lr_same (zu_lr_same (zu_lr_same (zu_lr_drop (zu_lr_drop zu_lr_nil)))))))))) (ih x3 x4 x5 (zu_w32 (x6 + 1)) m156 hIm156 hFm156 ⟨by omega, by omega⟩ ⟨by omega, by omega⟩ hx3 ⟨by omega, by omega⟩ ⟨by omega, by omega⟩ ⟨by omega, by omega⟩ hRK54m156 hM)
                      · generalize hmm160 : zu_up m156 ((a0 + 1) + 5 + x6) 3 a1 = m160
                        have hIm160 := zi_up hmm160 hIm156 (zc_95_e (zc_25_1 hc0) b122) zb_26_3 (by omega) (by omega)
                        have hFm160 := zfr_up hmm160 hFm156 (zc_95_e (zc_25_1 hc0) b122) rfl
                        have hRK54m160 := zR_K54_fr (zdis_fr (zfr_up hmm160 (zfr_rf [(26, 4)] _) (zc_95_e (zc_25_1 hc0) b122) rfl) rfl) hRK54m156
                        have r161 : (-2147483648) ≤ (m160 x3 6) ∧ (m160 x3 6) ≤ 2147483647 := zi_rd hIm160 hx3 zb_27_6
                        have e162 : (m160 x3 6) = (mh x3 6) := (Eq.trans (zs_ne hmm160 (Or.inl (zc_ne hx3 (zc_95_e (zc_25_1 hc0) b122) (by decide)))) (Eq.trans (zfr_ap hfm156 hx3 rfl) (zfr_ap hfm154 hx3 rfl)))
                        have w163 := zu_w32_rg ((m160 x3 6) + 1)
                        generalize hmm164 : zu_up m160 x3 6 (zu_w32 ((m160 x3 6) + 1)) = m164
                        have hIm164 := zi_up hmm164 hIm160 hx3 zb_27_6 (by omega) (by omega)
                        have hFm164 := zfr_up hmm164 hFm160 hx3 rfl
                        have hRK54m164 := zR_K54_fr (zdis_fr (zfr_up hmm164 (zfr_rf [(27, 7)] _) hx3 rfl) rfl) hRK54m160
                        have w165 := zu_w32_id (z := x6 + 1) (by omega) (by omega)
                        have hM : (16 - (zu_w32 (x6 + 1))) * 1 + 0 < (k : Int) := by omega
                        exact zw_le (zu_forget (zu_lr_same (zu_lr_same (zu_lr_same (zu_lr_same (zu_lr_same (zu_lr_same (zu_lr_same (zu_lr_drop (zu_lr_drop zu_lr_nil)))))))))) (ih x3 x4 x5 (zu_w32 (x6 + 1)) m164 hIm164 hFm164 ⟨by omega, by omega⟩ ⟨by omega, by omega⟩ hx3 ⟨by omega, by omega⟩ ⟨by omega, by omega⟩ ⟨by omega, by omega⟩ hRK54m164 hM)
set_option maxHeartbeats 4000000 in
theorem zk_216_25 (n : Nat) {a0 a1 a2 : Int} {m0 : zu_m} (hIm0 : zi_I m0) (hc0 : zcls a0 = 25) (ha1 : 0 ≤ a1 ∧ a1 ≤ 3) (ha2 : 0 ≤ a2 ∧ a2 ≤ 1)    (hRK54m0 : zR_K54 m0) : zw (zu_call (zt_T n) 216 [(27, a0), (0, a1), (0, a2)] m0) (fun v m => zi_I m ∧ zfr [(25, 10), (26, 4), (27, 6), (27, 7), (27, 8), (56, 0), (59, 1), (59, 2), (59, 3), (59, 4), (59, 5), (59, 6), (59, 7), (97, 0), (98, 0)] m0 m ∧ zR_K54 m ∧ True) := by
  have hFm0 : zfr [(25, 10), (26, 4), (27, 6), (27, 7), (27, 8), (56, 0), (59, 1), (59, 2), (59, 3), (59, 4), (59, 5), (59, 6), (59, 7), (97, 0), (98, 0)] m0 m0 := zfr_rf _ _
  refine zw_eq (zu_call_at (zt_T n) (zm_216 n) (zdp_216 n) _ _ _ _ _ rfl (zr_216_0 n _ _ a0 a1 a2 m0)) ?_
  have b166 : 0 ≤ a1 ∧ a1 < 4 := by omega
  refine zw_if b166 ?_
  have r167 : 0 ≤ (m0 ((a0 + 2) + 20 + a1) 1) ∧ (m0 ((a0 + 2) + 20 + a1) 1) ≤ 47 := zi_rd hIm0 (zc_96_e (zc_25_3 hc0) b166) zb_27_1
  have r168 : (-2147483648) ≤ (m0 ((a0 + 2) + 20 + a1) 6) ∧ (m0 ((a0 + 2) + 20 + a1) 6) ≤ 2147483647 := zi_rd hIm0 (zc_96_e (zc_25_3 hc0) b166) zb_27_6
  have hM : (16 - 0) * 1 + 0 < ((17 : Nat) : Int) := by omega
  exact (zl_216_25 n (m0 := m0) hc0 17) ((a0 + 2) + 20 + a1) (m0 ((a0 + 2) + 20 + a1) 1) (m0 ((a0 + 2) + 20 + a1) 6) 0 m0 hIm0 hFm0 ⟨by omega, by omega⟩ ⟨by omega, by omega⟩ (zc_96_e (zc_25_3 hc0) b166) ⟨by omega, by omega⟩ ⟨by omega, by omega⟩ ⟨by omega, by omega⟩ hRK54m0 hM
set_option maxHeartbeats 4000000 in
theorem zk_225 (n : Nat) {a0 a1 a2 : Int} {m0 : zu_m} (hIm0 : zi_I m0) (hc0 : zcls a0 = 16) (ha1 : 0 ≤ a1 ∧ a1 ≤ 3) (ha2 : 0 ≤ a2 ∧ a2 ≤ 15)    (hRK54m0 : zR_K54 m0) : zw (zu_call (zt_T n) 225 [(27, a0), (0, a1), (0, a2)] m0) (fun v m => zi_I m ∧ zfr [(56, 0), (59, 1), (59, 2), (59, 3), (59, 4), (59, 5), (59, 6), (59, 7)] m0 m ∧ zR_K54 m ∧ (0 ≤ v ∧ v ≤ 100)) := by
  have hFm0 : zfr [(56, 0), (59, 1), (59, 2), (59, 3), (59, 4), (59, 5), (59, 6), (59, 7)] m0 m0 := zfr_rf _ _
  refine zw_eq (zu_call_at (zt_T n) (zm_225 n) (zdp_225 n) _ _ _ _ _ rfl (zr_225_0 n _ _ a0 a1 a2 m0)) ?_
  have b1 : 0 ≤ a1 ∧ a1 < 4 := by omega
  refine zw_if b1 ?_
  have r2 : (-2147483648) ≤ (m0 ((a0 + 2) + 20 + a1) 6) ∧ (m0 ((a0 + 2) + 20 + a1) 6) ≤ 2147483647 := zi_rd hIm0 (zc_66_e (zc_16_3 hc0) b1) zb_18_6
  refine zw_bd (zw_mono (zk_224_16 n hIm0 hc0 ⟨by omega, by omega⟩ ⟨by omega, by omega⟩ ⟨by omega, by omega⟩) (fun v4 m3 hqm3 => ?_))
  obtain ⟨hIm3, hfm3, hvm3⟩ := hqm3
  have hFm3 := zfr_tr hFm0 hfm3 rfl
  have hRK54m3 := zR_K54_fr (zdis_fr hfm3 rfl) hRK54m0
  refine zw_bd (zw_mono (zk_250 n hIm3 zq_50 hRK54m3) (fun v6 m5 hqm5 => ?_))
  obtain ⟨hIm5, hfm5, hvm5⟩ := hqm5
  have hFm5 := zfr_tr hFm3 hfm5 rfl
  obtain ⟨hRK54m5, hvm5⟩ := hvm5
  exact zw_some ⟨hIm5, hFm5, hRK54m5, ⟨by omega, by omega⟩⟩
set_option maxHeartbeats 4000000 in
theorem zk_226 (n : Nat) {a0 a1 a2 : Int} {m0 : zu_m} (hIm0 : zi_I m0) (hc0 : zcls a0 = 16) (ha1 : 0 ≤ a1 ∧ a1 ≤ 3) (ha2 : 0 ≤ a2 ∧ a2 ≤ 15)    (hRK54m0 : zR_K54 m0) : zw (zu_call (zt_T n) 226 [(27, a0), (0, a1), (0, a2)] m0) (fun v m => zi_I m ∧ zfr [(56, 0), (59, 1), (59, 2), (59, 3), (59, 4), (59, 5), (59, 6), (59, 7)] m0 m ∧ zR_K54 m ∧ (0 ≤ v ∧ v ≤ 999)) := by
  have hFm0 : zfr [(56, 0), (59, 1), (59, 2), (59, 3), (59, 4), (59, 5), (59, 6), (59, 7)] m0 m0 := zfr_rf _ _
  refine zw_eq (zu_call_at (zt_T n) (zm_226 n) (zdp_226 n) _ _ _ _ _ rfl (zr_226_0 n _ _ a0 a1 a2 m0)) ?_
  refine zw_bd (zw_mono (zk_224_16 n hIm0 hc0 ⟨by omega, by omega⟩ ⟨by omega, by omega⟩ ⟨by decide, by decide⟩) (fun v2 m1 hqm1 => ?_))
  obtain ⟨hIm1, hfm1, hvm1⟩ := hqm1
  have hFm1 := zfr_tr hFm0 hfm1 rfl
  have hRK54m1 := zR_K54_fr (zdis_fr hfm1 rfl) hRK54m0
  refine zw_bd (zw_mono (zk_251 n hIm1 zq_50 hRK54m1) (fun v4 m3 hqm3 => ?_))
  obtain ⟨hIm3, hfm3, hvm3⟩ := hqm3
  have hFm3 := zfr_tr hFm1 hfm3 rfl
  obtain ⟨hRK54m3, hvm3⟩ := hvm3
  exact zw_some ⟨hIm3, hFm3, hRK54m3, ⟨by omega, by omega⟩⟩
set_option maxHeartbeats 4000000 in
theorem zk_227 (n : Nat) {a0 a1 a2 a3 : Int} {m0 : zu_m} (hIm0 : zi_I m0) (hc0 : zcls a0 = 16) (ha1 : 0 ≤ a1 ∧ a1 ≤ 2) (ha2 : (-2147483648) ≤ a2 ∧ a2 ≤ 2147483647) (ha3 : (-2147483648) ≤ a3 ∧ a3 ≤ 2147483647)    (hRK54m0 : zR_K54 m0) : zw (zu_call (zt_T n) 227 [(27, a0), (0, a1), (0, a2), (0, a3)] m0) (fun v m => zi_I m ∧ zfr [(56, 0), (59, 1), (59, 2), (59, 3), (59, 4), (59, 5), (59, 6), (59, 7)] m0 m ∧ zR_K54 m ∧ ((-9223372036854775808) ≤ v ∧ v ≤ 9223372036854775807)) := by
  have hFm0 : zfr [(56, 0), (59, 1), (59, 2), (59, 3), (59, 4), (59, 5), (59, 6), (59, 7)] m0 m0 := zfr_rf _ _
  refine zw_eq (zu_call_at (zt_T n) (zm_227 n) (zdp_227 n) _ _ _ _ _ rfl (zr_227_0 n _ _ a0 a1 a2 a3 m0)) ?_
  refine zw_bd (zw_eq (zu_call_at (zt_T n) (zm_211 n) (zdp_211 n) _ _ _ _ _ rfl (zr_211_0 n _ _ a0 a2 m0)) ?_)
  refine zw_ite (fun h1 => ?_) (fun h1 => ?_)
  · refine zw_b (by omega) ?_
    refine zw_some ?_
    refine zw_ite (fun h2 => ?_) (fun h2 => ?_)
    · exact zw_some ⟨hIm0, hFm0, hRK54m0, ⟨by decide, by decide⟩⟩
    · exfalso; omega
  · have r3 : 0 ≤ (m0 a0 4) ∧ (m0 a0 4) ≤ 4 := zi_rd hIm0 hc0 zb_16_4
    refine zw_ite (fun h4 => ?_) (fun h4 => ?_)
    · refine zw_b (by omega) ?_
      refine zw_some ?_
      refine zw_ite (fun h5 => ?_) (fun h5 => ?_)
      · exact zw_some ⟨hIm0, hFm0, hRK54m0, ⟨by decide, by decide⟩⟩
      · exfalso; omega
    · refine zw_b (by omega) ?_
      refine zw_some ?_
      refine zw_ite (fun h6 => ?_) (fun h6 => ?_)
      · exfalso; omega
      · refine zw_bd (zw_eq (zu_call_at (zt_T n) (zm_210 n) (zdp_210 n) _ _ _ _ _ rfl (zr_210_0 n _ _ a0 a3 m0)) ?_)
        refine zw_ite (fun h7 => ?_) (fun h7 => ?_)
        · refine zw_b (by omega) ?_
          refine zw_some ?_
          refine zw_ite (fun h8 => ?_) (fun h8 => ?_)
          · exfalso; omega
          · exact zw_some ⟨hIm0, hFm0, hRK54m0, ⟨by decide, by decide⟩⟩
        · have r9 : 0 ≤ (m0 a0 2) ∧ (m0 a0 2) ≤ 16 := zi_rd hIm0 hc0 zb_16_2
          refine zw_ite (fun h10 => ?_) (fun h10 => ?_)
          · refine zw_b (by omega) ?_
            refine zw_some ?_
            refine zw_ite (fun h11 => ?_) (fun h11 => ?_)
            · exfalso; omega
            · exact zw_some ⟨hIm0, hFm0, hRK54m0, ⟨by decide, by decide⟩⟩
          · refine zw_b (by omega) ?_
            refine zw_some ?_
            refine zw_ite (fun h12 => ?_) (fun h12 => ?_)
            · have b13 : 0 ≤ a2 ∧ a2 < 4 := by omega
              refine zw_if b13 ?_
              have r14 : (-2147483648) ≤ (m0 ((a0 + 2) + 20 + a2) 6) ∧ (m0 ((a0 + 2) + 20 + a2) 6) ≤ 2147483647 := zi_rd hIm0 (zc_66_e (zc_16_3 hc0) b13) zb_18_6
              refine zw_bd (zw_mono (zk_224_16 n hIm0 hc0 ⟨by omega, by omega⟩ ⟨by omega, by omega⟩ ⟨by omega, by omega⟩) (fun v16 m15 hqm15 => ?_))
              obtain ⟨hIm15, hfm15, hvm15⟩ := hqm15
              have hFm15 := zfr_tr hFm0 hfm15 rfl
              have hRK54m15 := zR_K54_fr (zdis_fr hfm15 rfl) hRK54m0
              refine zw_bd (zw_eq (zu_call_at (zt_T n) (zm_249 n) (zdp_249 n) _ _ _ _ _ rfl (zr_249_0 n _ _ 50 a1 m15)) ?_)
              refine zw_bd (zw_mono (zk_26 n hIm15 (zc_11_9 zq_50) (zc_11_12 zq_50) ⟨by omega, by omega⟩ hRK54m15) (fun v18 m17 hqm17 => ?_))
              obtain ⟨hIm17, hfm17, hvm17⟩ := hqm17
              have hFm17 := zfr_tr hFm15 hfm17 rfl
              obtain ⟨hRK54m17, hvm17⟩ := hvm17
              refine zw_some ?_
              exact zw_some ⟨hIm17, hFm17, hRK54m17, ⟨by omega, by omega⟩⟩
            · exfalso; omega
set_option maxHeartbeats 4000000 in
theorem zk_229 (n : Nat) {a0 a1 : Int} {m0 : zu_m} (hIm0 : zi_I m0) (hc0 : zcls a0 = 16) (ha1 : 0 ≤ a1 ∧ a1 ≤ 15)    (hRK54m0 : zR_K54 m0) : zw (zu_call (zt_T n) 229 [(27, a0), (0, a1)] m0) (fun v m => zi_I m ∧ zfr [(56, 0), (59, 1), (59, 2), (59, 3), (59, 4), (59, 5), (59, 6), (59, 7)] m0 m ∧ zR_K54 m ∧ ((-9223372036854775808) ≤ v ∧ v ≤ 9223372036854775807)) := by
  have hFm0 : zfr [(56, 0), (59, 1), (59, 2), (59, 3), (59, 4), (59, 5), (59, 6), (59, 7)] m0 m0 := zfr_rf _ _
  refine zw_eq (zu_call_at (zt_T n) (zm_229 n) (zdp_229 n) _ _ _ _ _ rfl (zr_229_0 n _ _ a0 a1 m0)) ?_
  refine zw_bd (zw_mono (zk_228 n hIm0 hc0 ⟨by omega, by omega⟩) (fun v2 m1 hqm1 => ?_))
  obtain ⟨hIm1, hfm1, hvm1⟩ := hqm1
  have hFm1 := zfr_tr hFm0 hfm1 rfl
  have hRK54m1 := zR_K54_fr (zdis_fr hfm1 rfl) hRK54m0
  refine zw_bd (zw_eq (zu_call_at (zt_T n) (zm_249 n) (zdp_249 n) _ _ _ _ _ rfl (zr_249_0 n _ _ 50 3 m1)) ?_)
  refine zw_bd (zw_mono (zk_26 n hIm1 (zc_11_9 zq_50) (zc_11_12 zq_50) ⟨by decide, by decide⟩ hRK54m1) (fun v4 m3 hqm3 => ?_))
  obtain ⟨hIm3, hfm3, hvm3⟩ := hqm3
  have hFm3 := zfr_tr hFm1 hfm3 rfl
  obtain ⟨hRK54m3, hvm3⟩ := hvm3
  refine zw_some ?_
  exact zw_some ⟨hIm3, hFm3, hRK54m3, ⟨by omega, by omega⟩⟩
set_option maxHeartbeats 4000000 in
theorem zl_230 (n : Nat) {a0 : Int} {m0 : zu_m} (hc0 : zcls a0 = 16)   : ∀ k : Nat, (∀ (x1 x2 : Int) (mh : zu_m), zi_I mh → zfr [(56, 0), (59, 1), (59, 2), (59, 3), (59, 4), (59, 5), (59, 6), (59, 7)] m0 mh → ((-2147483648) ≤ x1 ∧ x1 ≤ 2147483647) → (0 ≤ x2 ∧ x2 ≤ 16) → (zR_K54 mh) → (16 - x2) * 1 + 0 < (k : Int) → zw (zu_ex (zt_T n) 230 4 [(27, a0), (0, x1), (0, x2)] [] mh) (fun v m => zi_I m ∧ zfr [(56, 0), (59, 1), (59, 2), (59, 3), (59, 4), (59, 5), (59, 6), (59, 7)] m0 m ∧ zR_K54 m ∧ ((-2147483648) ≤ v ∧ v ≤ 2147483647))) := by
  intro k
  induction k with
  | zero => exact fun x1 x2 mh hImh hFmh hbx1 hbx2 hRK54mh hM => by exfalso; omega
  | succ k ih =>
    intro x1 x2 mh hImh hFmh hbx1 hbx2 hRK54mh hM
    refine zw_eq (zu_rega_at (zt_T n) (zm_230 n) (zdp_230 n) _ _ _ _ _ _ (zr_230_4 n _ _ a0 x1 x2 mh)) ?_
    have r1 : 0 ≤ (mh a0 2) ∧ (mh a0 2) ≤ 16 := zi_rd hImh hc0 zb_16_2
    refine zw_ite (fun h2 => ?_) (fun h2 => ?_)
    · exact zw_some ⟨hImh, hFmh, hRK54mh, ⟨by omega, by omega⟩⟩
    · have b3 : 0 ≤ x2 ∧ x2 < 16 := by omega
      refine zw_if b3 ?_
      have r4 : (-3) ≤ (mh ((a0 + 1) + 5 + x2) 3) ∧ (mh ((a0 + 1) + 5 + x2) 3) ≤ 3 := zi_rd hImh (zc_65_e (zc_16_1 hc0) b3) zb_17_3
      refine zw_ite (fun h5 => ?_) (fun h5 => ?_)
      · have w6 := zu_w32_id (z := x2 + 1) (by omega) (by omega)
        have hM : (16 - (zu_w32 (x2 + 1))) * 1 + 0 < (k : Int) := by omega
        exact ih x1 (zu_w32 (x2 + 1)) mh hImh hFmh ⟨by omega, by omega⟩ ⟨by omega, by omega⟩ hRK54mh hM
      · refine zw_bd (zw_mono (zk_228 n hImh hc0 ⟨by omega, by omega⟩) (fun v8 m7 hqm7 => ?_))
        obtain ⟨hIm7, hfm7, hvm7⟩ := hqm7
        have hFm7 := zfr_tr hFmh hfm7 rfl
        have hRK54m7 := zR_K54_fr (zdis_fr hfm7 rfl) hRK54mh
        refine zw_bd (zw_mono (zk_252 n hIm7 zq_50 hRK54m7) (fun v10 m9 hqm9 => ?_))
        obtain ⟨hIm9, hfm9, hvm9⟩ := hqm9
        have hFm9 := zfr_tr hFm7 hfm9 rfl
        obtain ⟨hRK54m9, hvm9⟩ := hvm9
        have w11 := zu_w32_id (z := 100 - v10) (by omega) (by omega)
        have w12 := zu_w32_rg (x1 + (zu_w32 (100 - v10)))
        have w13 := zu_w32_id (z := x2 + 1) (by omega) (by omega)
        have hM : (16 - (zu_w32 (x2 + 1))) * 1 + 0 < (k : Int) := by omega
        exact ih (zu_w32 (x1 + (zu_w32 (100 - v10)))) (zu_w32 (x2 + 1)) m9 hIm9 hFm9 ⟨by omega, by omega⟩ ⟨by omega, by omega⟩ hRK54m9 hM
set_option maxHeartbeats 4000000 in
theorem zk_230 (n : Nat) {a0 : Int} {m0 : zu_m} (hIm0 : zi_I m0) (hc0 : zcls a0 = 16)     (hRK54m0 : zR_K54 m0) : zw (zu_call (zt_T n) 230 [(27, a0)] m0) (fun v m => zi_I m ∧ zfr [(56, 0), (59, 1), (59, 2), (59, 3), (59, 4), (59, 5), (59, 6), (59, 7)] m0 m ∧ zR_K54 m ∧ ((-2147483648) ≤ v ∧ v ≤ 2147483647)) := by
  have hFm0 : zfr [(56, 0), (59, 1), (59, 2), (59, 3), (59, 4), (59, 5), (59, 6), (59, 7)] m0 m0 := zfr_rf _ _
  refine zw_eq (zu_call_at (zt_T n) (zm_230 n) (zdp_230 n) _ _ _ _ _ rfl (zr_230_0 n _ _ a0 m0)) ?_
  have hM : (16 - 0) * 1 + 0 < ((17 : Nat) : Int) := by omega
  exact (zl_230 n (m0 := m0) hc0 17) 0 0 m0 hIm0 hFm0 ⟨by omega, by omega⟩ ⟨by omega, by omega⟩ hRK54m0 hM

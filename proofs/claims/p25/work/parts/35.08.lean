def zHid (p : Prop) : Prop := p
theorem zhid_mk {p : Prop} (h : p) : zHid p := h
theorem zhid_of {p : Prop} (h : zHid p) : p := h
set_option maxHeartbeats 4000000 in
theorem zk_80 (n : Nat) {a0 : Int} {m0 : zu_m} (hIm0 : zi_I m0) (hc0 : zcls a0 = 2)     (hRE115m0 : (m0 3 9 = 1 → zE m0 115 50)) (hRE89m0 : zE m0 89 50) (hRUNm0 : zR_UN m0) (hRUWm0 : zR_UW m0) : zw (zu_call (zt_T n) 80 [(5, a0)] m0) (fun v m => zi_I m ∧ zfr [(16, 3), (16, 5), (16, 9), (16, 10), (16, 11), (16, 12), (17, 1), (17, 2), (17, 3), (17, 4), (18, 1), (18, 2), (18, 3), (18, 4), (18, 5), (18, 6), (18, 7), (18, 8), (23, 5), (67, 0), (68, 0)] m0 m ∧ (m 3 9 = 1 → zE m 115 50) ∧ zE m 89 50 ∧ zR_UN m ∧ zR_UW m ∧ ((-1) ≤ v ∧ v ≤ 9999)) := by
  have hFm0 : zfr [(16, 3), (16, 5), (16, 9), (16, 10), (16, 11), (16, 12), (17, 1), (17, 2), (17, 3), (17, 4), (18, 1), (18, 2), (18, 3), (18, 4), (18, 5), (18, 6), (18, 7), (18, 8), (23, 5), (67, 0), (68, 0)] m0 m0 := zfr_rf _ _
  refine zw_eq (zu_call_at (zt_T n) (zm_80 n) (zdp_80 n) _ _ _ _ _ rfl (zr_80_0 n _ _ a0 m0)) ?_
  have r1 : 0 ≤ (m0 a0 9) ∧ (m0 a0 9) ≤ 1 := zi_rd hIm0 hc0 zb_2_9
  refine zw_ite (fun h2 => ?_) (fun h2 => ?_)
  · refine zw_bd (zw_mono (zk_22_16_19 n hIm0 zq_89 zq_115) (fun v4 m3 hqm3 => ?_))
    obtain ⟨hIm3, hfm3, hvm3⟩ := hqm3
    have hFm3 := zfr_tr hFm0 hfm3 rfl
    have hRE115m3 := zR_E115_fr (zdis_fr hfm3 rfl) hRE115m0
    have hRUWm3 := zR_UW_fr (zdis_fr hfm3 rfl) hRUWm0
    have hRE89m3 : zE m3 89 50 := (hvm3.2) (zE5_ap hRE115m0 (zone_3 hc0) (by omega))
    refine zw_bd (zw_mono (zk_28 n hIm3 zq_148) (fun v6 m5 hqm5 => ?_))
    obtain ⟨hIm5, hfm5, hvm5⟩ := hqm5
    have hFm5 := zfr_tr hFm3 hfm5 rfl
    obtain ⟨hRUNm5, hRUWm5, hvm5⟩ := hvm5
    have hRE115m5 := zR_E115_fr (zdis_fr hfm5 rfl) hRE115m3
    have hRE89m5 := zR_E89_fr (zdis_fr hfm5 rfl) hRE89m3
    have r7 : 0 ≤ (m5 89 8) ∧ (m5 89 8) ≤ 9999 := zi_rd hIm5 zq_89 zb_16_8
    exact zw_some ⟨hIm5, hFm5, hRE115m5, hRE89m5, hRUNm5, hRUWm5, ⟨by omega, by omega⟩⟩
  · exact zw_some ⟨hIm0, hFm0, hRE115m0, hRE89m0, hRUNm0, hRUWm0, ⟨by decide, by decide⟩⟩
set_option maxHeartbeats 4000000 in
theorem zk_81 (n : Nat) {a0 a1 : Int} {m0 : zu_m} (hIm0 : zi_I m0) (hc0 : zcls a0 = 2) (ha1 : (-2147483648) ≤ a1 ∧ a1 ≤ 2147483647)     : zw (zu_call (zt_T n) 81 [(5, a0), (0, a1)] m0) (fun v m => zi_I m ∧ zfr [] m0 m ∧ ((-2147483648) ≤ v ∧ v ≤ 2147483647)) := by
  have hFm0 : zfr [] m0 m0 := zfr_rf _ _
  refine zw_eq (zu_call_at (zt_T n) (zm_81 n) (zdp_81 n) _ _ _ _ _ rfl (zr_81_0 n _ _ a0 a1 m0)) ?_
  refine zw_ite (fun h1 => ?_) (fun h1 => ?_)
  · have r2 : 1 ≤ (m0 50 0) ∧ (m0 50 0) ≤ 8 := zi_rd hIm0 zq_50 zb_11_0
    exact zw_some ⟨hIm0, hFm0, ⟨by omega, by omega⟩⟩
  · refine zw_ite (fun h3 => ?_) (fun h3 => ?_)
    · have r4 : 1 ≤ (m0 50 1) ∧ (m0 50 1) ≤ 6 := zi_rd hIm0 zq_50 zb_11_1
      exact zw_some ⟨hIm0, hFm0, ⟨by omega, by omega⟩⟩
    · refine zw_ite (fun h5 => ?_) (fun h5 => ?_)
      · have r6 : 0 ≤ (m0 89 2) ∧ (m0 89 2) ≤ 16 := zi_rd hIm0 zq_89 zb_16_2
        exact zw_some ⟨hIm0, hFm0, ⟨by omega, by omega⟩⟩
      · refine zw_ite (fun h7 => ?_) (fun h7 => ?_)
        · have r8 : 0 ≤ (m0 89 4) ∧ (m0 89 4) ≤ 4 := zi_rd hIm0 zq_89 zb_16_4
          exact zw_some ⟨hIm0, hFm0, ⟨by omega, by omega⟩⟩
        · refine zw_ite (fun h9 => ?_) (fun h9 => ?_)
          · have r10 : 0 ≤ (m0 (50 + 4) 5) ∧ (m0 (50 + 4) 5) ≤ 64 := zi_rd hIm0 (zc_11_9 zq_50) zb_12_5
            exact zw_some ⟨hIm0, hFm0, ⟨by omega, by omega⟩⟩
          · refine zw_ite (fun h11 => ?_) (fun h11 => ?_)
            · have r12 : 0 ≤ (m0 89 8) ∧ (m0 89 8) ≤ 9999 := zi_rd hIm0 zq_89 zb_16_8
              exact zw_some ⟨hIm0, hFm0, ⟨by omega, by omega⟩⟩
            · refine zw_ite (fun h13 => ?_) (fun h13 => ?_)
              · refine zw_bd (zw_mono (zk_233 n hIm0 zq_89 ⟨by decide, by decide⟩) (fun v15 m14 hqm14 => ?_))
                obtain ⟨hIm14, hfm14, hvm14⟩ := hqm14
                have hFm14 := zfr_tr hFm0 hfm14 rfl
                exact zw_some ⟨hIm14, hFm14, ⟨by omega, by omega⟩⟩
              · refine zw_ite (fun h16 => ?_) (fun h16 => ?_)
                · refine zw_bd (zw_mono (zk_234_16 n hIm0 zq_89) (fun v18 m17 hqm17 => ?_))
                  obtain ⟨hIm17, hfm17, hvm17⟩ := hqm17
                  have hFm17 := zfr_tr hFm0 hfm17 rfl
                  exact zw_some ⟨hIm17, hFm17, ⟨by omega, by omega⟩⟩
                · refine zw_ite (fun h19 => ?_) (fun h19 => ?_)
                  · refine zw_bd (zw_mono (zk_233 n hIm0 zq_89 ⟨by decide, by decide⟩) (fun v21 m20 hqm20 => ?_))
                    obtain ⟨hIm20, hfm20, hvm20⟩ := hqm20
                    have hFm20 := zfr_tr hFm0 hfm20 rfl
                    exact zw_some ⟨hIm20, hFm20, ⟨by omega, by omega⟩⟩
                  · refine zw_ite (fun h22 => ?_) (fun h22 => ?_)
                    · refine zw_bd (zw_mono (zk_233 n hIm0 zq_89 ⟨by decide, by decide⟩) (fun v24 m23 hqm23 => ?_))
                      obtain ⟨hIm23, hfm23, hvm23⟩ := hqm23
                      have hFm23 := zfr_tr hFm0 hfm23 rfl
                      exact zw_some ⟨hIm23, hFm23, ⟨by omega, by omega⟩⟩
                    · refine zw_ite (fun h25 => ?_) (fun h25 => ?_)
                      · refine zw_bd (zw_mono (zk_235 n hIm0 zq_89) (fun v27 m26 hqm26 => ?_))
                        obtain ⟨hIm26, hfm26, hvm26⟩ := hqm26
                        have hFm26 := zfr_tr hFm0 hfm26 rfl
                        exact zw_some ⟨hIm26, hFm26, ⟨by omega, by omega⟩⟩
                      · refine zw_ite (fun h28 => ?_) (fun h28 => ?_)
                        · have r29 : 0 ≤ (m0 89 10) ∧ (m0 89 10) ≤ 3 := zi_rd hIm0 zq_89 zb_16_10
                          exact zw_some ⟨hIm0, hFm0, ⟨by omega, by omega⟩⟩
                        · refine zw_ite (fun h30 => ?_) (fun h30 => ?_)
                          · have r31 : 0 ≤ (m0 141 6) ∧ (m0 141 6) ≤ 24 := zi_rd hIm0 zq_141 zb_22_6
                            exact zw_some ⟨hIm0, hFm0, ⟨by omega, by omega⟩⟩
                          · refine zw_ite (fun h32 => ?_) (fun h32 => ?_)
                            · refine zw_bd (zw_eq (zu_call_at (zt_T n) (zm_271 n) (zdp_271 n) _ _ _ _ _ rfl (zr_271_0 n _ _ 141 m0)) ?_)
                              have r33 : (-1) ≤ (m0 141 7) ∧ (m0 141 7) ≤ 24 := zi_rd hIm0 zq_141 zb_22_7
                              refine zw_ite (fun h34 => ?_) (fun h34 => ?_)
                              · refine zw_some ?_
                                exact zw_some ⟨hIm0, hFm0, ⟨by omega, by omega⟩⟩
                              · have r35 : 0 ≤ (m0 141 6) ∧ (m0 141 6) ≤ 24 := zi_rd hIm0 zq_141 zb_22_6
                                refine zw_some ?_
                                exact zw_some ⟨hIm0, hFm0, ⟨by omega, by omega⟩⟩
                            · refine zw_ite (fun h36 => ?_) (fun h36 => ?_)
                              · have r37 : 0 ≤ (m0 148 4) ∧ (m0 148 4) ≤ 20 := zi_rd hIm0 zq_148 zb_23_4
                                exact zw_some ⟨hIm0, hFm0, ⟨by omega, by omega⟩⟩
                              · refine zw_ite (fun h38 => ?_) (fun h38 => ?_)
                                · refine zw_bd (zw_mono (zk_239_16 n hIm0 zq_89) (fun v40 m39 hqm39 => ?_))
                                  obtain ⟨hIm39, hfm39, hvm39⟩ := hqm39
                                  have hFm39 := zfr_tr hFm0 hfm39 rfl
                                  exact zw_some ⟨hIm39, hFm39, ⟨by omega, by omega⟩⟩
                                · exact zw_some ⟨hIm0, hFm0, ⟨by decide, by decide⟩⟩
set_option maxHeartbeats 4000000 in
theorem zk_116 (n : Nat) {a0 : Int} {m0 : zu_m} (hIm0 : zi_I m0) (hc0 : zcls a0 = 28)   (he0 : 1 ≤ m0 a0 49 ∧ m0 a0 49 ≤ 1) (hxp0 : (m0 a0 21) + znz m0 = (m0 a0 48)) (hxp1 : (m0 a0 45) = znz m0 + (m0 a0 47)) (hxp2 : (m0 a0 46) = zbi m0) (hxp3 : (m0 a0 49) = 1) (hRKNm0 : zR_KN m0) (hRNSm0 : zR_NS m0) (hRTRm0 : zR_TR m0) (hRWDm0 : zR_WD m0) : zw (zu_call (zt_T n) 116 [(40, a0)] m0) (fun v m => zi_I m ∧ zfr [(28, 5), (28, 6), (28, 8), (28, 9), (28, 10), (28, 11), (28, 22), (28, 46), (28, 47), (28, 48), (28, 49), (28, 50), (28, 51), (117, 0), (118, 0), (119, 0), (120, 0), (121, 0)] m0 m ∧ zR_KN m ∧ zR_NS m ∧ zR_TR m ∧ zR_WD m ∧ (0 ≤ v ∧ v ≤ 1) ∧ ((m0 a0 7) ≤ (m a0 7)) ∧ (v = 1 → ((m0 a0 8) ≠ 0 ∧ ((m a0 8) = 0 ∨ (m0 a0 7) < (m a0 7)))) ∧ (v = 1 → (m a0 21) + znz m = (m a0 48)) ∧ (v = 1 → (m a0 46) + (m a0 49) = zbi m + 1) ∧ (v = 1 → (m a0 45) = znz m + (m a0 47)) ∧ (v = 1 → ((m a0 49) = 0 → 1 ≤ (m a0 21))) ∧ (v = 1 → (m a0 4) = (m0 a0 4)) ∧ (v = 0 → (m a0 4) ≠ 0)) := by
  have hFm0 : zfr [(28, 5), (28, 6), (28, 8), (28, 9), (28, 10), (28, 11), (28, 22), (28, 46), (28, 47), (28, 48), (28, 49), (28, 50), (28, 51), (117, 0), (118, 0), (119, 0), (120, 0), (121, 0)] m0 m0 := zfr_rf _ _
  have r1 : 0 ≤ (m0 a0 7) ∧ (m0 a0 7) ≤ 700 := zi_rd hIm0 hc0 zb_28_7
  have r2 : 0 ≤ (m0 a0 8) ∧ (m0 a0 8) ≤ 6 := zi_rd hIm0 hc0 zb_28_8
  have r3 : (-2147483648) ≤ (m0 a0 4) ∧ (m0 a0 4) ≤ 2147483647 := zi_rd hIm0 hc0 zb_28_4
  have r4 : 0 ≤ (m0 a0 21) ∧ (m0 a0 21) ≤ 64 := zi_rd hIm0 hc0 zb_28_21
  have r5 : 0 ≤ (m0 a0 48) ∧ (m0 a0 48) ≤ 64 := zi_rd hIm0 hc0 zb_28_48
  have r6 : 0 ≤ (m0 a0 45) ∧ (m0 a0 45) ≤ 96 := zi_rd hIm0 hc0 zb_28_45
  have r7 : 0 ≤ (m0 a0 47) ∧ (m0 a0 47) ≤ 8 := zi_rd hIm0 hc0 zb_28_47
  have r8 : 0 ≤ (m0 a0 46) ∧ (m0 a0 46) ≤ 96 := zi_rd hIm0 hc0 zb_28_46
  have g9 := zwt_bd hIm0 hc0
  have s10 := hRNSm0 a0 hc0
  refine zw_eq (zu_call_at (zt_T n) (zm_116 n) (zdp_116 n) _ _ _ _ _ rfl (zr_116_0 n _ _ a0 m0)) ?_
  refine zw_bd (zw_eq (zu_call_at (zt_T n) (zm_93 n) (zdp_93 n) _ _ _ _ _ rfl (zr_93_0 n _ _ a0 40 m0)) ?_)
  refine zw_ite (fun h11 => ?_) (fun h11 => ?_)
  · refine zw_b (by omega) ?_
    refine zw_some ?_
    refine zw_ite (fun h12 => ?_) (fun h12 => ?_)
    · refine zw_bd (zw_eq (zu_call_at (zt_T n) (zm_92 n) (zdp_92 n) _ _ _ _ _ rfl (zr_92_0 n _ _ a0 25 m0)) ?_)
      refine zw_ite (fun h13 => ?_) (fun h13 => ?_)
      · refine zw_b (by omega) ?_
        refine zw_some ?_
        refine zw_ite (fun h15 => ?_) (fun h15 => ?_)
        · refine zw_bd (zw_eq (zu_call_at (zt_T n) (zm_115 n) (zdp_115 n) _ _ _ _ _ rfl (zr_115_0 n _ _ a0 m0)) ?_)
          refine zw_ite (fun h16 => ?_) (fun h16 => ?_)
          · refine zw_some ?_
            refine zw_ite (fun h17 => ?_) (fun h17 => ?_)
            · exfalso; omega
            · refine zw_ite (fun h18 => ?_) (fun h18 => ?_)
              · have s19 := (hRTRm0 a0 hc0).2.2 (by omega)
                refine zw_ite (fun h20 => ?_) (fun h20 => ?_)
                · exfalso; omega
                · refine zw_ite (fun h21 => ?_) (fun h21 => ?_)
                  · refine zw_bd (zw_eq (zu_call_at (zt_T n) (zm_113 n) (zdp_113 n) _ _ _ _ _ rfl (zr_113_0 n _ _ a0 m0)) ?_)
                    refine zw_ite (fun h22 => ?_) (fun h22 => ?_)
                    · have w23 := zu_w32_id (z := (m0 a0 48) + 1) (by omega) (by omega)
                      generalize hmm24 : zu_up m0 a0 48 (zu_w32 ((m0 a0 48) + 1)) = m24
                      have hIm24 := zi_up hmm24 hIm0 hc0 zb_28_48 (by omega) (by omega)
                      have hFm24 := zfr_up hmm24 hFm0 hc0 rfl
                      have g25 := zwt_fr (zdis_fr (zfr_up hmm24 (zfr_rf [(28, 49)] _) hc0 rfl) rfl)
                      have hRKNm24 := zR_KN_fr (zdis_fr (zfr_up hmm24 (zfr_rf [(28, 49)] _) hc0 rfl) rfl) hRKNm0
                      have hRNSm24 := zR_NS_fr (zdis_fr (zfr_up hmm24 (zfr_rf [(28, 49)] _) hc0 rfl) rfl) hRNSm0
                      have hRTRm24 := zR_TR_fr (zdis_fr (zfr_up hmm24 (zfr_rf [(28, 49)] _) hc0 rfl) rfl) hRTRm0
                      have hRWDm24 := zR_WD_fr (zdis_fr (zfr_up hmm24 (zfr_rf [(28, 49)] _) hc0 rfl) rfl) hRWDm0
                      refine zw_b (by omega) ?_
                      refine zw_some ?_
                      refine zw_ite (fun h26 => ?_) (fun h26 => ?_)
                      · refine zw_ite (fun h27 => ?_) (fun h27 => ?_)
                        · refine zw_ite (fun h28 => ?_) (fun h28 => ?_)
                          · have r29 : (-2147483648) ≤ (m24 a0 9) ∧ (m24 a0 9) ≤ 2147483647 := zi_rd hIm24 hc0 zb_28_9
                            have e30 : (m24 a0 9) = (m0 a0 9) := (zs_ne hmm24 (Or.inr (by decide)))
                            have r31 : 0 ≤ (m24 a0 21) ∧ (m24 a0 21) ≤ 64 := zi_rd hIm24 hc0 zb_28_21
                            have e32 : (m24 a0 21) = (m0 a0 21) := (zs_ne hmm24 (Or.inr (by decide)))
                            have r33 : 0 ≤ (m24 a0 46) ∧ (m24 a0 46) ≤ 96 := zi_rd hIm24 hc0 zb_28_46
                            have e34 : (m24 a0 46) = (m0 a0 46) := (zs_ne hmm24 (Or.inr (by decide)))
                            refine zw_bd (zw_mono (zk_110 n hIm24 hc0 ⟨by decide, by decide⟩ ⟨by omega, by omega⟩ ⟨by decide, by decide⟩ (by omega) (by omega) (by omega) (by omega) (by omega) hRKNm24) (fun v36 m35 hqm35 => ?_))
                            obtain ⟨hIm35, hfm35, hvm35⟩ := hqm35
                            have hFm35 := zfr_tr hFm24 hfm35 rfl
                            obtain ⟨hRKNm35, hvm35⟩ := hvm35
                            have g37 := zwt_fr (zdis_fr hfm35 rfl)
                            have hRNSm35 := zR_NS_fr (zdis_fr hfm35 rfl) hRNSm24
                            have hRTRm35 := zR_TR_fr (zdis_fr hfm35 rfl) hRTRm24
                            have hRWDm35 := zR_WD_fr (zdis_fr hfm35 rfl) hRWDm24
                            have g38 := zwt_bd hIm35 hc0
                            have s39 := hRNSm35 a0 hc0
                            refine zw_b (by omega) ?_
                            generalize hmm40 : zu_up m35 a0 49 0 = m40
                            have hIm40 := zi_up hmm40 hIm35 hc0 zb_28_49 (by omega) (by omega)
                            have hFm40 := zfr_up hmm40 hFm35 hc0 rfl
                            have g41 := zwt_fr (zdis_fr (zfr_up hmm40 (zfr_rf [(28, 50)] _) hc0 rfl) rfl)
                            have hRKNm40 := zR_KN_fr (zdis_fr (zfr_up hmm40 (zfr_rf [(28, 50)] _) hc0 rfl) rfl) hRKNm35
                            have hRNSm40 := zR_NS_fr (zdis_fr (zfr_up hmm40 (zfr_rf [(28, 50)] _) hc0 rfl) rfl) hRNSm35
                            have hRTRm40 := zR_TR_fr (zdis_fr (zfr_up hmm40 (zfr_rf [(28, 50)] _) hc0 rfl) rfl) hRTRm35
                            have hRWDm40 := zR_WD_fr (zdis_fr (zfr_up hmm40 (zfr_rf [(28, 50)] _) hc0 rfl) rfl) hRWDm35
                            have r44 : 0 ≤ (m40 a0 7) ∧ (m40 a0 7) ≤ 700 := zi_rd hIm40 hc0 zb_28_7
                            have e45 : (m40 a0 7) = (m0 a0 7) := (Eq.trans (zs_ne hmm40 (Or.inr (by decide))) (Eq.trans (zfr_ap hfm35 hc0 rfl) (zs_ne hmm24 (Or.inr (by decide)))))
                            refine zw_bd (zw_mono (zk_89 n hIm40 hc0 hRNSm40 hRWDm40) (fun v43 m42 hqm42 => ?_))
                            obtain ⟨hIm42, hfm42, hvm42⟩ := hqm42
                            have hFm42 := zfr_tr hFm40 hfm42 rfl
                            obtain ⟨hRNSm42, hRTRm42, hRWDm42, hvm42⟩ := hvm42
                            have g46 := zwt_fr (zdis_fr hfm42 rfl)
                            have hRKNm42 := zR_KN_fr (zdis_fr hfm42 rfl) hRKNm40
                            have g47 := zwt_bd hIm42 hc0
                            have s48 := hRNSm42 a0 hc0
                            have r49 : 0 ≤ (m42 a0 7) ∧ (m42 a0 7) ≤ 700 := zi_rd hIm42 hc0 zb_28_7
                            have r50 : 0 ≤ (m42 a0 8) ∧ (m42 a0 8) ≤ 6 := zi_rd hIm42 hc0 zb_28_8
                            refine zw_b (by omega) ?_
                            have r51 : 0 ≤ (m42 a0 21) ∧ (m42 a0 21) ≤ 64 := zi_rd hIm42 hc0 zb_28_21
                            have e52 : (m42 a0 21) = (m35 a0 21) := (Eq.trans (zfr_ap hfm42 hc0 rfl) (zs_ne hmm40 (Or.inr (by decide))))
                            have r53 : 0 ≤ (m42 a0 48) ∧ (m42 a0 48) ≤ 64 := zi_rd hIm42 hc0 zb_28_48
                            have e54 : (m42 a0 48) = (zu_w32 ((m0 a0 48) + 1)) := (Eq.trans (zfr_ap hfm42 hc0 rfl) (Eq.trans (zs_ne hmm40 (Or.inr (by decide))) (Eq.trans (zfr_ap hfm35 hc0 rfl) (zs_eq hmm24))))
                            have r55 : 0 ≤ (m42 a0 46) ∧ (m42 a0 46) ≤ 96 := zi_rd hIm42 hc0 zb_28_46
                            have e56 : (m42 a0 46) = (m35 a0 46) := (Eq.trans (zfr_ap hfm42 hc0 rfl) (zs_ne hmm40 (Or.inr (by decide))))
                            have r57 : 0 ≤ (m42 a0 49) ∧ (m42 a0 49) ≤ 1 := zi_rd hIm42 hc0 zb_28_49
                            have e58 : (m42 a0 49) = 0 := (Eq.trans (zfr_ap hfm42 hc0 rfl) (zs_eq hmm40))
                            have r59 : 0 ≤ (m42 a0 45) ∧ (m42 a0 45) ≤ 96 := zi_rd hIm42 hc0 zb_28_45
                            have e60 : (m42 a0 45) = (m0 a0 45) := (Eq.trans (zfr_ap hfm42 hc0 rfl) (Eq.trans (zs_ne hmm40 (Or.inr (by decide))) (Eq.trans (zfr_ap hfm35 hc0 rfl) (zs_ne hmm24 (Or.inr (by decide))))))
                            have r61 : 0 ≤ (m42 a0 47) ∧ (m42 a0 47) ≤ 8 := zi_rd hIm42 hc0 zb_28_47
                            have e62 : (m42 a0 47) = (m0 a0 47) := (Eq.trans (zfr_ap hfm42 hc0 rfl) (Eq.trans (zs_ne hmm40 (Or.inr (by decide))) (Eq.trans (zfr_ap hfm35 hc0 rfl) (zs_ne hmm24 (Or.inr (by decide))))))
                            have r63 : (-2147483648) ≤ (m42 a0 4) ∧ (m42 a0 4) ≤ 2147483647 := zi_rd hIm42 hc0 zb_28_4
                            have e64 : (m42 a0 4) = (m0 a0 4) := (Eq.trans (zfr_ap hfm42 hc0 rfl) (Eq.trans (zs_ne hmm40 (Or.inr (by decide))) (Eq.trans (zfr_ap hfm35 hc0 rfl) (zs_ne hmm24 (Or.inr (by decide))))))
                            exact zw_some ⟨hIm42, hFm42, hRKNm42, hRNSm42, hRTRm42, hRWDm42, ⟨by decide, by decide⟩, by omega, fun _ => by omega, fun _ => by omega, fun _ => by omega, fun _ => by omega, fun _ => by omega, fun _ => by omega, fun h => absurd h (by decide)⟩
                          · exfalso; omega
                        · exfalso; omega
                      · exfalso; omega
                    · refine zw_bd (zw_eq (zu_call_at (zt_T n) (zm_85 n) (zdp_85 n) _ _ _ _ _ rfl (zr_85_0 n _ _ a0 2 m0)) ?_)
                      generalize hmm65 : zu_up m0 a0 4 2 = m65
                      have hIm65 := zi_up hmm65 hIm0 hc0 zb_28_4 (by omega) (by omega)
                      have hFm65 := zfr_up hmm65 hFm0 hc0 rfl
                      have g66 := zwt_fr (zdis_fr (zfr_up hmm65 (zfr_rf [(28, 5)] _) hc0 rfl) rfl)
                      have hRKNm65 := zR_KN_fr (zdis_fr (zfr_up hmm65 (zfr_rf [(28, 5)] _) hc0 rfl) rfl) hRKNm0
                      have hRNSm65 := zR_NS_fr (zdis_fr (zfr_up hmm65 (zfr_rf [(28, 5)] _) hc0 rfl) rfl) hRNSm0
                      have hRTRm65 := zR_TR_fr (zdis_fr (zfr_up hmm65 (zfr_rf [(28, 5)] _) hc0 rfl) rfl) hRTRm0
                      have hRWDm65 := zR_WD_fr (zdis_fr (zfr_up hmm65 (zfr_rf [(28, 5)] _) hc0 rfl) rfl) hRWDm0
                      have hRLRm65 := zLR_wr (zone_190 hc0) hmm65 (by decide)
                      have r67 : 0 ≤ (m65 a0 10) ∧ (m65 a0 10) ≤ 700 := zi_rd hIm65 hc0 zb_28_10
                      generalize hmm68 : zu_up m65 a0 5 (m65 a0 10) = m68
                      have hIm68 := zi_up hmm68 hIm65 hc0 zb_28_5 (by omega) (by omega)
                      have hFm68 := zfr_up hmm68 hFm65 hc0 rfl
                      have g69 := zwt_fr (zdis_fr (zfr_up hmm68 (zfr_rf [(28, 6)] _) hc0 rfl) rfl)
                      have hRKNm68 := zR_KN_fr (zdis_fr (zfr_up hmm68 (zfr_rf [(28, 6)] _) hc0 rfl) rfl) hRKNm65
                      have hRLRm68 := zR_LR_fr (zdis_fr (zfr_up hmm68 (zfr_rf [(28, 6)] _) hc0 rfl) rfl) hRLRm65
                      have hRNSm68 := zR_NS_fr (zdis_fr (zfr_up hmm68 (zfr_rf [(28, 6)] _) hc0 rfl) rfl) hRNSm65
                      have hRTRm68 := zR_TR_fr (zdis_fr (zfr_up hmm68 (zfr_rf [(28, 6)] _) hc0 rfl) rfl) hRTRm65
                      have hRWDm68 := zR_WD_fr (zdis_fr (zfr_up hmm68 (zfr_rf [(28, 6)] _) hc0 rfl) rfl) hRWDm65
                      refine zw_b (by omega) ?_
                      refine zw_some ?_
                      refine zw_b (by omega) ?_
                      refine zw_some ?_
                      refine zw_ite (fun h70 => ?_) (fun h70 => ?_)
                      · exfalso; omega
                      · refine zw_b (by omega) ?_
                        have r71 : 0 ≤ (m68 a0 7) ∧ (m68 a0 7) ≤ 700 := zi_rd hIm68 hc0 zb_28_7
                        have e72 : (m68 a0 7) = (m0 a0 7) := (Eq.trans (zs_ne hmm68 (Or.inr (by decide))) (zs_ne hmm65 (Or.inr (by decide))))
                        have r73 : 0 ≤ (m68 a0 8) ∧ (m68 a0 8) ≤ 6 := zi_rd hIm68 hc0 zb_28_8
                        have e74 : (m68 a0 8) = (m0 a0 8) := (Eq.trans (zs_ne hmm68 (Or.inr (by decide))) (zs_ne hmm65 (Or.inr (by decide))))
                        have r75 : 0 ≤ (m68 a0 21) ∧ (m68 a0 21) ≤ 64 := zi_rd hIm68 hc0 zb_28_21
                        have e76 : (m68 a0 21) = (m0 a0 21) := (Eq.trans (zs_ne hmm68 (Or.inr (by decide))) (zs_ne hmm65 (Or.inr (by decide))))
                        have r77 : 0 ≤ (m68 a0 48) ∧ (m68 a0 48) ≤ 64 := zi_rd hIm68 hc0 zb_28_48
                        have e78 : (m68 a0 48) = (m0 a0 48) := (Eq.trans (zs_ne hmm68 (Or.inr (by decide))) (zs_ne hmm65 (Or.inr (by decide))))
                        have r79 : 0 ≤ (m68 a0 46) ∧ (m68 a0 46) ≤ 96 := zi_rd hIm68 hc0 zb_28_46
                        have e80 : (m68 a0 46) = (m0 a0 46) := (Eq.trans (zs_ne hmm68 (Or.inr (by decide))) (zs_ne hmm65 (Or.inr (by decide))))
                        have r81 : 0 ≤ (m68 a0 49) ∧ (m68 a0 49) ≤ 1 := zi_rd hIm68 hc0 zb_28_49
                        have e82 : (m68 a0 49) = (m0 a0 49) := (Eq.trans (zs_ne hmm68 (Or.inr (by decide))) (zs_ne hmm65 (Or.inr (by decide))))
                        have r83 : 0 ≤ (m68 a0 45) ∧ (m68 a0 45) ≤ 96 := zi_rd hIm68 hc0 zb_28_45
                        have e84 : (m68 a0 45) = (m0 a0 45) := (Eq.trans (zs_ne hmm68 (Or.inr (by decide))) (zs_ne hmm65 (Or.inr (by decide))))
                        have r85 : 0 ≤ (m68 a0 47) ∧ (m68 a0 47) ≤ 8 := zi_rd hIm68 hc0 zb_28_47
                        have e86 : (m68 a0 47) = (m0 a0 47) := (Eq.trans (zs_ne hmm68 (Or.inr (by decide))) (zs_ne hmm65 (Or.inr (by decide))))
                        have r87 : (-2147483648) ≤ (m68 a0 4) ∧ (m68 a0 4) ≤ 2147483647 := zi_rd hIm68 hc0 zb_28_4
                        have e88 : (m68 a0 4) = 2 := (Eq.trans (zs_ne hmm68 (Or.inr (by decide))) (zs_eq hmm65))
                        exact zw_some ⟨hIm68, hFm68, hRKNm68, hRNSm68, hRTRm68, hRWDm68, ⟨by decide, by decide⟩, by omega, fun h => absurd h (by decide), fun h => absurd h (by decide), fun h => absurd h (by decide), fun h => absurd h (by decide), fun h => absurd h (by decide), fun h => absurd h (by decide), fun _ => by omega⟩
                  · refine zw_bd (zw_eq (zu_call_at (zt_T n) (zm_85 n) (zdp_85 n) _ _ _ _ _ rfl (zr_85_0 n _ _ a0 2 m0)) ?_)
                    generalize hmm89 : zu_up m0 a0 4 2 = m89
                    have hIm89 := zi_up hmm89 hIm0 hc0 zb_28_4 (by omega) (by omega)
                    have hFm89 := zfr_up hmm89 hFm0 hc0 rfl
                    have g90 := zwt_fr (zdis_fr (zfr_up hmm89 (zfr_rf [(28, 5)] _) hc0 rfl) rfl)
                    have hRKNm89 := zR_KN_fr (zdis_fr (zfr_up hmm89 (zfr_rf [(28, 5)] _) hc0 rfl) rfl) hRKNm0
                    have hRNSm89 := zR_NS_fr (zdis_fr (zfr_up hmm89 (zfr_rf [(28, 5)] _) hc0 rfl) rfl) hRNSm0
                    have hRTRm89 := zR_TR_fr (zdis_fr (zfr_up hmm89 (zfr_rf [(28, 5)] _) hc0 rfl) rfl) hRTRm0
                    have hRWDm89 := zR_WD_fr (zdis_fr (zfr_up hmm89 (zfr_rf [(28, 5)] _) hc0 rfl) rfl) hRWDm0
                    have hRLRm89 := zLR_wr (zone_190 hc0) hmm89 (by decide)
                    have r91 : 0 ≤ (m89 a0 10) ∧ (m89 a0 10) ≤ 700 := zi_rd hIm89 hc0 zb_28_10
                    generalize hmm92 : zu_up m89 a0 5 (m89 a0 10) = m92
                    have hIm92 := zi_up hmm92 hIm89 hc0 zb_28_5 (by omega) (by omega)
                    have hFm92 := zfr_up hmm92 hFm89 hc0 rfl
                    have g93 := zwt_fr (zdis_fr (zfr_up hmm92 (zfr_rf [(28, 6)] _) hc0 rfl) rfl)
                    have hRKNm92 := zR_KN_fr (zdis_fr (zfr_up hmm92 (zfr_rf [(28, 6)] _) hc0 rfl) rfl) hRKNm89
                    have hRLRm92 := zR_LR_fr (zdis_fr (zfr_up hmm92 (zfr_rf [(28, 6)] _) hc0 rfl) rfl) hRLRm89
                    have hRNSm92 := zR_NS_fr (zdis_fr (zfr_up hmm92 (zfr_rf [(28, 6)] _) hc0 rfl) rfl) hRNSm89
                    have hRTRm92 := zR_TR_fr (zdis_fr (zfr_up hmm92 (zfr_rf [(28, 6)] _) hc0 rfl) rfl) hRTRm89
                    have hRWDm92 := zR_WD_fr (zdis_fr (zfr_up hmm92 (zfr_rf [(28, 6)] _) hc0 rfl) rfl) hRWDm89
                    refine zw_b (by omega) ?_
                    refine zw_some ?_
                    refine zw_b (by omega) ?_
                    have r94 : 0 ≤ (m92 a0 7) ∧ (m92 a0 7) ≤ 700 := zi_rd hIm92 hc0 zb_28_7
                    have e95 : (m92 a0 7) = (m0 a0 7) := (Eq.trans (zs_ne hmm92 (Or.inr (by decide))) (zs_ne hmm89 (Or.inr (by decide))))
                    have r96 : 0 ≤ (m92 a0 8) ∧ (m92 a0 8) ≤ 6 := zi_rd hIm92 hc0 zb_28_8
                    have e97 : (m92 a0 8) = (m0 a0 8) := (Eq.trans (zs_ne hmm92 (Or.inr (by decide))) (zs_ne hmm89 (Or.inr (by decide))))
                    have r98 : 0 ≤ (m92 a0 21) ∧ (m92 a0 21) ≤ 64 := zi_rd hIm92 hc0 zb_28_21
                    have e99 : (m92 a0 21) = (m0 a0 21) := (Eq.trans (zs_ne hmm92 (Or.inr (by decide))) (zs_ne hmm89 (Or.inr (by decide))))
                    have r100 : 0 ≤ (m92 a0 48) ∧ (m92 a0 48) ≤ 64 := zi_rd hIm92 hc0 zb_28_48
                    have e101 : (m92 a0 48) = (m0 a0 48) := (Eq.trans (zs_ne hmm92 (Or.inr (by decide))) (zs_ne hmm89 (Or.inr (by decide))))
                    have r102 : 0 ≤ (m92 a0 46) ∧ (m92 a0 46) ≤ 96 := zi_rd hIm92 hc0 zb_28_46
                    have e103 : (m92 a0 46) = (m0 a0 46) := (Eq.trans (zs_ne hmm92 (Or.inr (by decide))) (zs_ne hmm89 (Or.inr (by decide))))
                    have r104 : 0 ≤ (m92 a0 49) ∧ (m92 a0 49) ≤ 1 := zi_rd hIm92 hc0 zb_28_49
                    have e105 : (m92 a0 49) = (m0 a0 49) := (Eq.trans (zs_ne hmm92 (Or.inr (by decide))) (zs_ne hmm89 (Or.inr (by decide))))
                    have r106 : 0 ≤ (m92 a0 45) ∧ (m92 a0 45) ≤ 96 := zi_rd hIm92 hc0 zb_28_45
                    have e107 : (m92 a0 45) = (m0 a0 45) := (Eq.trans (zs_ne hmm92 (Or.inr (by decide))) (zs_ne hmm89 (Or.inr (by decide))))
                    have r108 : 0 ≤ (m92 a0 47) ∧ (m92 a0 47) ≤ 8 := zi_rd hIm92 hc0 zb_28_47
                    have e109 : (m92 a0 47) = (m0 a0 47) := (Eq.trans (zs_ne hmm92 (Or.inr (by decide))) (zs_ne hmm89 (Or.inr (by decide))))
                    have r110 : (-2147483648) ≤ (m92 a0 4) ∧ (m92 a0 4) ≤ 2147483647 := zi_rd hIm92 hc0 zb_28_4
                    have e111 : (m92 a0 4) = 2 := (Eq.trans (zs_ne hmm92 (Or.inr (by decide))) (zs_eq hmm89))
                    exact zw_some ⟨hIm92, hFm92, hRKNm92, hRNSm92, hRTRm92, hRWDm92, ⟨by decide, by decide⟩, by omega, fun h => absurd h (by decide), fun h => absurd h (by decide), fun h => absurd h (by decide), fun h => absurd h (by decide), fun h => absurd h (by decide), fun h => absurd h (by decide), fun _ => by omega⟩
              · refine zw_bd (zw_eq (zu_call_at (zt_T n) (zm_85 n) (zdp_85 n) _ _ _ _ _ rfl (zr_85_0 n _ _ a0 1 m0)) ?_)
                generalize hmm112 : zu_up m0 a0 4 1 = m112
                have hIm112 := zi_up hmm112 hIm0 hc0 zb_28_4 (by omega) (by omega)
                have hFm112 := zfr_up hmm112 hFm0 hc0 rfl
                have g113 := zwt_fr (zdis_fr (zfr_up hmm112 (zfr_rf [(28, 5)] _) hc0 rfl) rfl)
                have hRKNm112 := zR_KN_fr (zdis_fr (zfr_up hmm112 (zfr_rf [(28, 5)] _) hc0 rfl) rfl) hRKNm0
                have hRNSm112 := zR_NS_fr (zdis_fr (zfr_up hmm112 (zfr_rf [(28, 5)] _) hc0 rfl) rfl) hRNSm0
                have hRTRm112 := zR_TR_fr (zdis_fr (zfr_up hmm112 (zfr_rf [(28, 5)] _) hc0 rfl) rfl) hRTRm0
                have hRWDm112 := zR_WD_fr (zdis_fr (zfr_up hmm112 (zfr_rf [(28, 5)] _) hc0 rfl) rfl) hRWDm0
                have hRLRm112 := zLR_wr (zone_190 hc0) hmm112 (by decide)
                have r114 : 0 ≤ (m112 a0 10) ∧ (m112 a0 10) ≤ 700 := zi_rd hIm112 hc0 zb_28_10
                generalize hmm115 : zu_up m112 a0 5 (m112 a0 10) = m115
                have hIm115 := zi_up hmm115 hIm112 hc0 zb_28_5 (by omega) (by omega)
                have hFm115 := zfr_up hmm115 hFm112 hc0 rfl
                have g116 := zwt_fr (zdis_fr (zfr_up hmm115 (zfr_rf [(28, 6)] _) hc0 rfl) rfl)
                have hRKNm115 := zR_KN_fr (zdis_fr (zfr_up hmm115 (zfr_rf [(28, 6)] _) hc0 rfl) rfl) hRKNm112
                have hRLRm115 := zR_LR_fr (zdis_fr (zfr_up hmm115 (zfr_rf [(28, 6)] _) hc0 rfl) rfl) hRLRm112
                have hRNSm115 := zR_NS_fr (zdis_fr (zfr_up hmm115 (zfr_rf [(28, 6)] _) hc0 rfl) rfl) hRNSm112
                have hRTRm115 := zR_TR_fr (zdis_fr (zfr_up hmm115 (zfr_rf [(28, 6)] _) hc0 rfl) rfl) hRTRm112
                have hRWDm115 := zR_WD_fr (zdis_fr (zfr_up hmm115 (zfr_rf [(28, 6)] _) hc0 rfl) rfl) hRWDm112
                refine zw_b (by omega) ?_
                refine zw_some ?_
                refine zw_b (by omega) ?_
                have r117 : 0 ≤ (m115 a0 7) ∧ (m115 a0 7) ≤ 700 := zi_rd hIm115 hc0 zb_28_7
                have e118 : (m115 a0 7) = (m0 a0 7) := (Eq.trans (zs_ne hmm115 (Or.inr (by decide))) (zs_ne hmm112 (Or.inr (by decide))))
                have r119 : 0 ≤ (m115 a0 8) ∧ (m115 a0 8) ≤ 6 := zi_rd hIm115 hc0 zb_28_8
                have e120 : (m115 a0 8) = (m0 a0 8) := (Eq.trans (zs_ne hmm115 (Or.inr (by decide))) (zs_ne hmm112 (Or.inr (by decide))))
                have r121 : 0 ≤ (m115 a0 21) ∧ (m115 a0 21) ≤ 64 := zi_rd hIm115 hc0 zb_28_21
                have e122 : (m115 a0 21) = (m0 a0 21) := (Eq.trans (zs_ne hmm115 (Or.inr (by decide))) (zs_ne hmm112 (Or.inr (by decide))))
                have r123 : 0 ≤ (m115 a0 48) ∧ (m115 a0 48) ≤ 64 := zi_rd hIm115 hc0 zb_28_48
                have e124 : (m115 a0 48) = (m0 a0 48) := (Eq.trans (zs_ne hmm115 (Or.inr (by decide))) (zs_ne hmm112 (Or.inr (by decide))))
                have r125 : 0 ≤ (m115 a0 46) ∧ (m115 a0 46) ≤ 96 := zi_rd hIm115 hc0 zb_28_46
                have e126 : (m115 a0 46) = (m0 a0 46) := (Eq.trans (zs_ne hmm115 (Or.inr (by decide))) (zs_ne hmm112 (Or.inr (by decide))))
                have r127 : 0 ≤ (m115 a0 49) ∧ (m115 a0 49) ≤ 1 := zi_rd hIm115 hc0 zb_28_49
                have e128 : (m115 a0 49) = (m0 a0 49) := (Eq.trans (zs_ne hmm115 (Or.inr (by decide))) (zs_ne hmm112 (Or.inr (by decide))))
                have r129 : 0 ≤ (m115 a0 45) ∧ (m115 a0 45) ≤ 96 := zi_rd hIm115 hc0 zb_28_45
                have e130 : (m115 a0 45) = (m0 a0 45) := (Eq.trans (zs_ne hmm115 (Or.inr (by decide))) (zs_ne hmm112 (Or.inr (by decide))))
                have r131 : 0 ≤ (m115 a0 47) ∧ (m115 a0 47) ≤ 8 := zi_rd hIm115 hc0 zb_28_47
                have e132 : (m115 a0 47) = (m0 a0 47) := (Eq.trans (zs_ne hmm115 (Or.inr (by decide))) (zs_ne hmm112 (Or.inr (by decide))))
                have r133 : (-2147483648) ≤ (m115 a0 4) ∧ (m115 a0 4) ≤ 2147483647 := zi_rd hIm115 hc0 zb_28_4
                have e134 : (m115 a0 4) = 1 := (Eq.trans (zs_ne hmm115 (Or.inr (by decide))) (zs_eq hmm112))
                exact zw_some ⟨hIm115, hFm115, hRKNm115, hRNSm115, hRTRm115, hRWDm115, ⟨by decide, by decide⟩, by omega, fun h => absurd h (by decide), fun h => absurd h (by decide), fun h => absurd h (by decide), fun h => absurd h (by decide), fun h => absurd h (by decide), fun h => absurd h (by decide), fun _ => by omega⟩
          · exfalso; omega
        · exfalso; omega
      · have s14 := (hRTRm0 a0 hc0).2.1 (by omega)
        refine zw_ite (fun h135 => ?_) (fun h135 => ?_)
        · refine zw_b (by omega) ?_
          refine zw_some ?_
          refine zw_ite (fun h136 => ?_) (fun h136 => ?_)
          · refine zw_bd (zw_eq (zu_call_at (zt_T n) (zm_115 n) (zdp_115 n) _ _ _ _ _ rfl (zr_115_0 n _ _ a0 m0)) ?_)
            refine zw_ite (fun h137 => ?_) (fun h137 => ?_)
            · exfalso; omega
            · have s138 := (hRTRm0 a0 hc0).2.1 (by omega)
              refine zw_ite (fun h139 => ?_) (fun h139 => ?_)
              · refine zw_some ?_
                refine zw_ite (fun h140 => ?_) (fun h140 => ?_)
                · exfalso; omega
                · refine zw_ite (fun h141 => ?_) (fun h141 => ?_)
                  · exfalso; omega
                  · have s142 := (hRTRm0 a0 hc0).2.1 (by omega)
                    refine zw_bd (zw_eq (zu_call_at (zt_T n) (zm_85 n) (zdp_85 n) _ _ _ _ _ rfl (zr_85_0 n _ _ a0 1 m0)) ?_)
                    generalize hmm143 : zu_up m0 a0 4 1 = m143
                    have hIm143 := zi_up hmm143 hIm0 hc0 zb_28_4 (by omega) (by omega)
                    have hFm143 := zfr_up hmm143 hFm0 hc0 rfl
                    have g144 := zwt_fr (zdis_fr (zfr_up hmm143 (zfr_rf [(28, 5)] _) hc0 rfl) rfl)
                    have hRKNm143 := zR_KN_fr (zdis_fr (zfr_up hmm143 (zfr_rf [(28, 5)] _) hc0 rfl) rfl) hRKNm0
                    have hRNSm143 := zR_NS_fr (zdis_fr (zfr_up hmm143 (zfr_rf [(28, 5)] _) hc0 rfl) rfl) hRNSm0
                    have hRTRm143 := zR_TR_fr (zdis_fr (zfr_up hmm143 (zfr_rf [(28, 5)] _) hc0 rfl) rfl) hRTRm0
                    have hRWDm143 := zR_WD_fr (zdis_fr (zfr_up hmm143 (zfr_rf [(28, 5)] _) hc0 rfl) rfl) hRWDm0
                    have hRLRm143 := zLR_wr (zone_190 hc0) hmm143 (by decide)
                    have r145 : 0 ≤ (m143 a0 10) ∧ (m143 a0 10) ≤ 700 := zi_rd hIm143 hc0 zb_28_10
                    generalize hmm146 : zu_up m143 a0 5 (m143 a0 10) = m146
                    have hIm146 := zi_up hmm146 hIm143 hc0 zb_28_5 (by omega) (by omega)
                    have hFm146 := zfr_up hmm146 hFm143 hc0 rfl
                    have g147 := zwt_fr (zdis_fr (zfr_up hmm146 (zfr_rf [(28, 6)] _) hc0 rfl) rfl)
                    have hRKNm146 := zR_KN_fr (zdis_fr (zfr_up hmm146 (zfr_rf [(28, 6)] _) hc0 rfl) rfl) hRKNm143
                    have hRLRm146 := zR_LR_fr (zdis_fr (zfr_up hmm146 (zfr_rf [(28, 6)] _) hc0 rfl) rfl) hRLRm143
                    have hRNSm146 := zR_NS_fr (zdis_fr (zfr_up hmm146 (zfr_rf [(28, 6)] _) hc0 rfl) rfl) hRNSm143
                    have hRTRm146 := zR_TR_fr (zdis_fr (zfr_up hmm146 (zfr_rf [(28, 6)] _) hc0 rfl) rfl) hRTRm143
                    have hRWDm146 := zR_WD_fr (zdis_fr (zfr_up hmm146 (zfr_rf [(28, 6)] _) hc0 rfl) rfl) hRWDm143
                    refine zw_b (by omega) ?_
                    refine zw_some ?_
                    refine zw_b (by omega) ?_
                    have r148 : 0 ≤ (m146 a0 7) ∧ (m146 a0 7) ≤ 700 := zi_rd hIm146 hc0 zb_28_7
                    have e149 : (m146 a0 7) = (m0 a0 7) := (Eq.trans (zs_ne hmm146 (Or.inr (by decide))) (zs_ne hmm143 (Or.inr (by decide))))
                    have r150 : 0 ≤ (m146 a0 8) ∧ (m146 a0 8) ≤ 6 := zi_rd hIm146 hc0 zb_28_8
                    have e151 : (m146 a0 8) = (m0 a0 8) := (Eq.trans (zs_ne hmm146 (Or.inr (by decide))) (zs_ne hmm143 (Or.inr (by decide))))
                    have r152 : 0 ≤ (m146 a0 21) ∧ (m146 a0 21) ≤ 64 := zi_rd hIm146 hc0 zb_28_21
                    have e153 : (m146 a0 21) = (m0 a0 21) := (Eq.trans (zs_ne hmm146 (Or.inr (by decide))) (zs_ne hmm143 (Or.inr (by decide))))
                    have r154 : 0 ≤ (m146 a0 48) ∧ (m146 a0 48) ≤ 64 := zi_rd hIm146 hc0 zb_28_48
                    have e155 : (m146 a0 48) = (m0 a0 48) := (Eq.trans (zs_ne hmm146 (Or.inr (by decide))) (zs_ne hmm143 (Or.inr (by decide))))
                    have r156 : 0 ≤ (m146 a0 46) ∧ (m146 a0 46) ≤ 96 := zi_rd hIm146 hc0 zb_28_46
                    have e157 : (m146 a0 46) = (m0 a0 46) := (Eq.trans (zs_ne hmm146 (Or.inr (by decide))) (zs_ne hmm143 (Or.inr (by decide))))
                    have r158 : 0 ≤ (m146 a0 49) ∧ (m146 a0 49) ≤ 1 := zi_rd hIm146 hc0 zb_28_49
                    have e159 : (m146 a0 49) = (m0 a0 49) := (Eq.trans (zs_ne hmm146 (Or.inr (by decide))) (zs_ne hmm143 (Or.inr (by decide))))
                    have r160 : 0 ≤ (m146 a0 45) ∧ (m146 a0 45) ≤ 96 := zi_rd hIm146 hc0 zb_28_45
                    have e161 : (m146 a0 45) = (m0 a0 45) := (Eq.trans (zs_ne hmm146 (Or.inr (by decide))) (zs_ne hmm143 (Or.inr (by decide))))
                    have r162 : 0 ≤ (m146 a0 47) ∧ (m146 a0 47) ≤ 8 := zi_rd hIm146 hc0 zb_28_47
                    have e163 : (m146 a0 47) = (m0 a0 47) := (Eq.trans (zs_ne hmm146 (Or.inr (by decide))) (zs_ne hmm143 (Or.inr (by decide))))
                    have r164 : (-2147483648) ≤ (m146 a0 4) ∧ (m146 a0 4) ≤ 2147483647 := zi_rd hIm146 hc0 zb_28_4
                    have e165 : (m146 a0 4) = 1 := (Eq.trans (zs_ne hmm146 (Or.inr (by decide))) (zs_eq hmm143))
                    exact zw_some ⟨hIm146, hFm146, hRKNm146, hRNSm146, hRTRm146, hRWDm146, ⟨by decide, by decide⟩, by omega, fun h => absurd h (by decide), fun h => absurd h (by decide), fun h => absurd h (by decide), fun h => absurd h (by decide), fun h => absurd h (by decide), fun h => absurd h (by decide), fun _ => by omega⟩
              · have w166 := zu_w32_id (z := (m0 a0 9) - 26) (by omega) (by omega)
                refine zw_some ?_
                refine zw_ite (fun h167 => ?_) (fun h167 => ?_)
                · refine zw_ite (fun h168 => ?_) (fun h168 => ?_)
                  · refine zw_bd (zw_eq (zu_call_at (zt_T n) (zm_113 n) (zdp_113 n) _ _ _ _ _ rfl (zr_113_0 n _ _ a0 m0)) ?_)
                    refine zw_ite (fun h169 => ?_) (fun h169 => ?_)
                    · have w170 := zu_w32_id (z := (m0 a0 48) + 1) (by omega) (by omega)
                      generalize hmm171 : zu_up m0 a0 48 (zu_w32 ((m0 a0 48) + 1)) = m171
                      have hIm171 := zi_up hmm171 hIm0 hc0 zb_28_48 (by omega) (by omega)
                      have hFm171 := zfr_up hmm171 hFm0 hc0 rfl
                      have g172 := zwt_fr (zdis_fr (zfr_up hmm171 (zfr_rf [(28, 49)] _) hc0 rfl) rfl)
                      have hRKNm171 := zR_KN_fr (zdis_fr (zfr_up hmm171 (zfr_rf [(28, 49)] _) hc0 rfl) rfl) hRKNm0
                      have hRNSm171 := zR_NS_fr (zdis_fr (zfr_up hmm171 (zfr_rf [(28, 49)] _) hc0 rfl) rfl) hRNSm0
                      have hRTRm171 := zR_TR_fr (zdis_fr (zfr_up hmm171 (zfr_rf [(28, 49)] _) hc0 rfl) rfl) hRTRm0
                      have hRWDm171 := zR_WD_fr (zdis_fr (zfr_up hmm171 (zfr_rf [(28, 49)] _) hc0 rfl) rfl) hRWDm0
                      refine zw_b (by omega) ?_
                      refine zw_some ?_
                      refine zw_ite (fun h173 => ?_) (fun h173 => ?_)
                      · refine zw_ite (fun h174 => ?_) (fun h174 => ?_)
                        · exfalso; omega
                        · refine zw_ite (fun h175 => ?_) (fun h175 => ?_)
                          · exfalso; omega
                          · have r176 : 0 ≤ (m171 a0 21) ∧ (m171 a0 21) ≤ 64 := zi_rd hIm171 hc0 zb_28_21
                            have e177 : (m171 a0 21) = (m0 a0 21) := (zs_ne hmm171 (Or.inr (by decide)))
                            have r178 : 0 ≤ (m171 a0 46) ∧ (m171 a0 46) ≤ 96 := zi_rd hIm171 hc0 zb_28_46
                            have e179 : (m171 a0 46) = (m0 a0 46) := (zs_ne hmm171 (Or.inr (by decide)))
                            refine zw_bd (zw_mono (zk_110 n hIm171 hc0 ⟨by decide, by decide⟩ ⟨by omega, by omega⟩ ⟨by decide, by decide⟩ (by omega) (by omega) (by omega) (by omega) (by omega) hRKNm171) (fun v181 m180 hqm180 => ?_))
                            obtain ⟨hIm180, hfm180, hvm180⟩ := hqm180
                            have hFm180 := zfr_tr hFm171 hfm180 rfl
                            obtain ⟨hRKNm180, hvm180⟩ := hvm180
                            have g182 := zwt_fr (zdis_fr hfm180 rfl)
                            have hRNSm180 := zR_NS_fr (zdis_fr hfm180 rfl) hRNSm171
                            have hRTRm180 := zR_TR_fr (zdis_fr hfm180 rfl) hRTRm171
                            have hRWDm180 := zR_WD_fr (zdis_fr hfm180 rfl) hRWDm171
                            have g183 := zwt_bd hIm180 hc0
                            have s184 := hRNSm180 a0 hc0
                            refine zw_b (by omega) ?_
                            generalize hmm185 : zu_up m180 a0 49 0 = m185
                            have hIm185 := zi_up hmm185 hIm180 hc0 zb_28_49 (by omega) (by omega)
                            have hFm185 := zfr_up hmm185 hFm180 hc0 rfl
                            have g186 := zwt_fr (zdis_fr (zfr_up hmm185 (zfr_rf [(28, 50)] _) hc0 rfl) rfl)
                            have hRKNm185 := zR_KN_fr (zdis_fr (zfr_up hmm185 (zfr_rf [(28, 50)] _) hc0 rfl) rfl) hRKNm180
                            have hRNSm185 := zR_NS_fr (zdis_fr (zfr_up hmm185 (zfr_rf [(28, 50)] _) hc0 rfl) rfl) hRNSm180
                            have hRTRm185 := zR_TR_fr (zdis_fr (zfr_up hmm185 (zfr_rf [(28, 50)] _) hc0 rfl) rfl) hRTRm180
                            have hRWDm185 := zR_WD_fr (zdis_fr (zfr_up hmm185 (zfr_rf [(28, 50)] _) hc0 rfl) rfl) hRWDm180
                            have r189 : 0 ≤ (m185 a0 7) ∧ (m185 a0 7) ≤ 700 := zi_rd hIm185 hc0 zb_28_7
                            have e190 : (m185 a0 7) = (m0 a0 7) := (Eq.trans (zs_ne hmm185 (Or.inr (by decide))) (Eq.trans (zfr_ap hfm180 hc0 rfl) (zs_ne hmm171 (Or.inr (by decide)))))
                            refine zw_bd (zw_mono (zk_89 n hIm185 hc0 hRNSm185 hRWDm185) (fun v188 m187 hqm187 => ?_))
                            obtain ⟨hIm187, hfm187, hvm187⟩ := hqm187
                            have hFm187 := zfr_tr hFm185 hfm187 rfl
                            obtain ⟨hRNSm187, hRTRm187, hRWDm187, hvm187⟩ := hvm187
                            have g191 := zwt_fr (zdis_fr hfm187 rfl)
                            have hRKNm187 := zR_KN_fr (zdis_fr hfm187 rfl) hRKNm185
                            have g192 := zwt_bd hIm187 hc0
                            have s193 := hRNSm187 a0 hc0
                            have r194 : 0 ≤ (m187 a0 7) ∧ (m187 a0 7) ≤ 700 := zi_rd hIm187 hc0 zb_28_7
                            have r195 : 0 ≤ (m187 a0 8) ∧ (m187 a0 8) ≤ 6 := zi_rd hIm187 hc0 zb_28_8
                            refine zw_b (by omega) ?_
                            have r196 : 0 ≤ (m187 a0 21) ∧ (m187 a0 21) ≤ 64 := zi_rd hIm187 hc0 zb_28_21
                            have e197 : (m187 a0 21) = (m180 a0 21) := (Eq.trans (zfr_ap hfm187 hc0 rfl) (zs_ne hmm185 (Or.inr (by decide))))
                            have r198 : 0 ≤ (m187 a0 48) ∧ (m187 a0 48) ≤ 64 := zi_rd hIm187 hc0 zb_28_48
                            have e199 : (m187 a0 48) = (zu_w32 ((m0 a0 48) + 1)) := (Eq.trans (zfr_ap hfm187 hc0 rfl) (Eq.trans (zs_ne hmm185 (Or.inr (by decide))) (Eq.trans (zfr_ap hfm180 hc0 rfl) (zs_eq hmm171))))
                            have r200 : 0 ≤ (m187 a0 46) ∧ (m187 a0 46) ≤ 96 := zi_rd hIm187 hc0 zb_28_46
                            have e201 : (m187 a0 46) = (m180 a0 46) := (Eq.trans (zfr_ap hfm187 hc0 rfl) (zs_ne hmm185 (Or.inr (by decide))))
                            have r202 : 0 ≤ (m187 a0 49) ∧ (m187 a0 49) ≤ 1 := zi_rd hIm187 hc0 zb_28_49
                            have e203 : (m187 a0 49) = 0 := (Eq.trans (zfr_ap hfm187 hc0 rfl) (zs_eq hmm185))
                            have r204 : 0 ≤ (m187 a0 45) ∧ (m187 a0 45) ≤ 96 := zi_rd hIm187 hc0 zb_28_45
                            have e205 : (m187 a0 45) = (m0 a0 45) := (Eq.trans (zfr_ap hfm187 hc0 rfl) (Eq.trans (zs_ne hmm185 (Or.inr (by decide))) (Eq.trans (zfr_ap hfm180 hc0 rfl) (zs_ne hmm171 (Or.inr (by decide))))))
                            have r206 : 0 ≤ (m187 a0 47) ∧ (m187 a0 47) ≤ 8 := zi_rd hIm187 hc0 zb_28_47
                            have e207 : (m187 a0 47) = (m0 a0 47) := (Eq.trans (zfr_ap hfm187 hc0 rfl) (Eq.trans (zs_ne hmm185 (Or.inr (by decide))) (Eq.trans (zfr_ap hfm180 hc0 rfl) (zs_ne hmm171 (Or.inr (by decide))))))
                            have r208 : (-2147483648) ≤ (m187 a0 4) ∧ (m187 a0 4) ≤ 2147483647 := zi_rd hIm187 hc0 zb_28_4
                            have e209 : (m187 a0 4) = (m0 a0 4) := (Eq.trans (zfr_ap hfm187 hc0 rfl) (Eq.trans (zs_ne hmm185 (Or.inr (by decide))) (Eq.trans (zfr_ap hfm180 hc0 rfl) (zs_ne hmm171 (Or.inr (by decide))))))
                            exact zw_some ⟨hIm187, hFm187, hRKNm187, hRNSm187, hRTRm187, hRWDm187, ⟨by decide, by decide⟩, by omega, fun _ => by omega, fun _ => by omega, fun _ => by omega, fun _ => by omega, fun _ => by omega, fun _ => by omega, fun h => absurd h (by decide)⟩
                      · exfalso; omega
                    · refine zw_bd (zw_eq (zu_call_at (zt_T n) (zm_85 n) (zdp_85 n) _ _ _ _ _ rfl (zr_85_0 n _ _ a0 2 m0)) ?_)
                      generalize hmm210 : zu_up m0 a0 4 2 = m210
                      have hIm210 := zi_up hmm210 hIm0 hc0 zb_28_4 (by omega) (by omega)
                      have hFm210 := zfr_up hmm210 hFm0 hc0 rfl
                      have g211 := zwt_fr (zdis_fr (zfr_up hmm210 (zfr_rf [(28, 5)] _) hc0 rfl) rfl)
                      have hRKNm210 := zR_KN_fr (zdis_fr (zfr_up hmm210 (zfr_rf [(28, 5)] _) hc0 rfl) rfl) hRKNm0
                      have hRNSm210 := zR_NS_fr (zdis_fr (zfr_up hmm210 (zfr_rf [(28, 5)] _) hc0 rfl) rfl) hRNSm0
                      have hRTRm210 := zR_TR_fr (zdis_fr (zfr_up hmm210 (zfr_rf [(28, 5)] _) hc0 rfl) rfl) hRTRm0
                      have hRWDm210 := zR_WD_fr (zdis_fr (zfr_up hmm210 (zfr_rf [(28, 5)] _) hc0 rfl) rfl) hRWDm0
                      have hRLRm210 := zLR_wr (zone_190 hc0) hmm210 (by decide)
                      have r212 : 0 ≤ (m210 a0 10) ∧ (m210 a0 10) ≤ 700 := zi_rd hIm210 hc0 zb_28_10
                      generalize hmm213 : zu_up m210 a0 5 (m210 a0 10) = m213
                      have hIm213 := zi_up hmm213 hIm210 hc0 zb_28_5 (by omega) (by omega)
                      have hFm213 := zfr_up hmm213 hFm210 hc0 rfl
                      have g214 := zwt_fr (zdis_fr (zfr_up hmm213 (zfr_rf [(28, 6)] _) hc0 rfl) rfl)
                      have hRKNm213 := zR_KN_fr (zdis_fr (zfr_up hmm213 (zfr_rf [(28, 6)] _) hc0 rfl) rfl) hRKNm210
                      have hRLRm213 := zR_LR_fr (zdis_fr (zfr_up hmm213 (zfr_rf [(28, 6)] _) hc0 rfl) rfl) hRLRm210
                      have hRNSm213 := zR_NS_fr (zdis_fr (zfr_up hmm213 (zfr_rf [(28, 6)] _) hc0 rfl) rfl) hRNSm210
                      have hRTRm213 := zR_TR_fr (zdis_fr (zfr_up hmm213 (zfr_rf [(28, 6)] _) hc0 rfl) rfl) hRTRm210
                      have hRWDm213 := zR_WD_fr (zdis_fr (zfr_up hmm213 (zfr_rf [(28, 6)] _) hc0 rfl) rfl) hRWDm210
                      refine zw_b (by omega) ?_
                      refine zw_some ?_
                      refine zw_b (by omega) ?_
                      refine zw_some ?_
                      refine zw_ite (fun h215 => ?_) (fun h215 => ?_)
                      · exfalso; omega
                      · refine zw_b (by omega) ?_
                        have r216 : 0 ≤ (m213 a0 7) ∧ (m213 a0 7) ≤ 700 := zi_rd hIm213 hc0 zb_28_7
                        have e217 : (m213 a0 7) = (m0 a0 7) := (Eq.trans (zs_ne hmm213 (Or.inr (by decide))) (zs_ne hmm210 (Or.inr (by decide))))
                        have r218 : 0 ≤ (m213 a0 8) ∧ (m213 a0 8) ≤ 6 := zi_rd hIm213 hc0 zb_28_8
                        have e219 : (m213 a0 8) = (m0 a0 8) := (Eq.trans (zs_ne hmm213 (Or.inr (by decide))) (zs_ne hmm210 (Or.inr (by decide))))
                        have r220 : 0 ≤ (m213 a0 21) ∧ (m213 a0 21) ≤ 64 := zi_rd hIm213 hc0 zb_28_21
                        have e221 : (m213 a0 21) = (m0 a0 21) := (Eq.trans (zs_ne hmm213 (Or.inr (by decide))) (zs_ne hmm210 (Or.inr (by decide))))
                        have r222 : 0 ≤ (m213 a0 48) ∧ (m213 a0 48) ≤ 64 := zi_rd hIm213 hc0 zb_28_48
                        have e223 : (m213 a0 48) = (m0 a0 48) := (Eq.trans (zs_ne hmm213 (Or.inr (by decide))) (zs_ne hmm210 (Or.inr (by decide))))
                        have r224 : 0 ≤ (m213 a0 46) ∧ (m213 a0 46) ≤ 96 := zi_rd hIm213 hc0 zb_28_46
                        have e225 : (m213 a0 46) = (m0 a0 46) := (Eq.trans (zs_ne hmm213 (Or.inr (by decide))) (zs_ne hmm210 (Or.inr (by decide))))
                        have r226 : 0 ≤ (m213 a0 49) ∧ (m213 a0 49) ≤ 1 := zi_rd hIm213 hc0 zb_28_49
                        have e227 : (m213 a0 49) = (m0 a0 49) := (Eq.trans (zs_ne hmm213 (Or.inr (by decide))) (zs_ne hmm210 (Or.inr (by decide))))
                        have r228 : 0 ≤ (m213 a0 45) ∧ (m213 a0 45) ≤ 96 := zi_rd hIm213 hc0 zb_28_45
                        have e229 : (m213 a0 45) = (m0 a0 45) := (Eq.trans (zs_ne hmm213 (Or.inr (by decide))) (zs_ne hmm210 (Or.inr (by decide))))
                        have r230 : 0 ≤ (m213 a0 47) ∧ (m213 a0 47) ≤ 8 := zi_rd hIm213 hc0 zb_28_47
                        have e231 : (m213 a0 47) = (m0 a0 47) := (Eq.trans (zs_ne hmm213 (Or.inr (by decide))) (zs_ne hmm210 (Or.inr (by decide))))
                        have r232 : (-2147483648) ≤ (m213 a0 4) ∧ (m213 a0 4) ≤ 2147483647 := zi_rd hIm213 hc0 zb_28_4
                        have e233 : (m213 a0 4) = 2 := (Eq.trans (zs_ne hmm213 (Or.inr (by decide))) (zs_eq hmm210))
                        exact zw_some ⟨hIm213, hFm213, hRKNm213, hRNSm213, hRTRm213, hRWDm213, ⟨by decide, by decide⟩, by omega, fun h => absurd h (by decide), fun h => absurd h (by decide), fun h => absurd h (by decide), fun h => absurd h (by decide), fun h => absurd h (by decide), fun h => absurd h (by decide), fun _ => by omega⟩
                  · exfalso; omega
                · exfalso; omega
          · exfalso; omega
        · refine zw_b (by omega) ?_
          refine zw_some ?_
          refine zw_ite (fun h234 => ?_) (fun h234 => ?_)
          · exfalso; omega
          · have r235 : 0 ≤ (m0 a0 50) ∧ (m0 a0 50) ≤ 1 := zi_rd hIm0 hc0 zb_28_50
            refine zw_ite (fun h236 => ?_) (fun h236 => ?_)
            · refine zw_bd (zw_eq (zu_call_at (zt_T n) (zm_115 n) (zdp_115 n) _ _ _ _ _ rfl (zr_115_0 n _ _ a0 m0)) ?_)
              refine zw_ite (fun h237 => ?_) (fun h237 => ?_)
              · exfalso; omega
              · have s238 := (hRTRm0 a0 hc0).2.1 (by omega)
                refine zw_ite (fun h239 => ?_) (fun h239 => ?_)
                · refine zw_some ?_
                  refine zw_ite (fun h240 => ?_) (fun h240 => ?_)
                  · exfalso; omega
                  · refine zw_ite (fun h241 => ?_) (fun h241 => ?_)
                    · exfalso; omega
                    · have s242 := (hRTRm0 a0 hc0).2.1 (by omega)
                      refine zw_bd (zw_eq (zu_call_at (zt_T n) (zm_85 n) (zdp_85 n) _ _ _ _ _ rfl (zr_85_0 n _ _ a0 1 m0)) ?_)
                      generalize hmm243 : zu_up m0 a0 4 1 = m243
                      have hIm243 := zi_up hmm243 hIm0 hc0 zb_28_4 (by omega) (by omega)
                      have hFm243 := zfr_up hmm243 hFm0 hc0 rfl
                      have g244 := zwt_fr (zdis_fr (zfr_up hmm243 (zfr_rf [(28, 5)] _) hc0 rfl) rfl)
                      have hRKNm243 := zR_KN_fr (zdis_fr (zfr_up hmm243 (zfr_rf [(28, 5)] _) hc0 rfl) rfl) hRKNm0
                      have hRNSm243 := zR_NS_fr (zdis_fr (zfr_up hmm243 (zfr_rf [(28, 5)] _) hc0 rfl) rfl) hRNSm0
                      have hRTRm243 := zR_TR_fr (zdis_fr (zfr_up hmm243 (zfr_rf [(28, 5)] _) hc0 rfl) rfl) hRTRm0
                      have hRWDm243 := zR_WD_fr (zdis_fr (zfr_up hmm243 (zfr_rf [(28, 5)] _) hc0 rfl) rfl) hRWDm0
                      have hRLRm243 := zLR_wr (zone_190 hc0) hmm243 (by decide)
                      have r245 : 0 ≤ (m243 a0 10) ∧ (m243 a0 10) ≤ 700 := zi_rd hIm243 hc0 zb_28_10
                      generalize hmm246 : zu_up m243 a0 5 (m243 a0 10) = m246
                      have hIm246 := zi_up hmm246 hIm243 hc0 zb_28_5 (by omega) (by omega)
                      have hFm246 := zfr_up hmm246 hFm243 hc0 rfl
                      have g247 := zwt_fr (zdis_fr (zfr_up hmm246 (zfr_rf [(28, 6)] _) hc0 rfl) rfl)
                      have hRKNm246 := zR_KN_fr (zdis_fr (zfr_up hmm246 (zfr_rf [(28, 6)] _) hc0 rfl) rfl) hRKNm243
                      have hRLRm246 := zR_LR_fr (zdis_fr (zfr_up hmm246 (zfr_rf [(28, 6)] _) hc0 rfl) rfl) hRLRm243
                      have hRNSm246 := zR_NS_fr (zdis_fr (zfr_up hmm246 (zfr_rf [(28, 6)] _) hc0 rfl) rfl) hRNSm243
                      have hRTRm246 := zR_TR_fr (zdis_fr (zfr_up hmm246 (zfr_rf [(28, 6)] _) hc0 rfl) rfl) hRTRm243
                      have hRWDm246 := zR_WD_fr (zdis_fr (zfr_up hmm246 (zfr_rf [(28, 6)] _) hc0 rfl) rfl) hRWDm243
                      refine zw_b (by omega) ?_
                      refine zw_some ?_
                      refine zw_b (by omega) ?_
                      have r248 : 0 ≤ (m246 a0 7) ∧ (m246 a0 7) ≤ 700 := zi_rd hIm246 hc0 zb_28_7
                      have e249 : (m246 a0 7) = (m0 a0 7) := (Eq.trans (zs_ne hmm246 (Or.inr (by decide))) (zs_ne hmm243 (Or.inr (by decide))))
                      have r250 : 0 ≤ (m246 a0 8) ∧ (m246 a0 8) ≤ 6 := zi_rd hIm246 hc0 zb_28_8
                      have e251 : (m246 a0 8) = (m0 a0 8) := (Eq.trans (zs_ne hmm246 (Or.inr (by decide))) (zs_ne hmm243 (Or.inr (by decide))))
                      have r252 : 0 ≤ (m246 a0 21) ∧ (m246 a0 21) ≤ 64 := zi_rd hIm246 hc0 zb_28_21
                      have e253 : (m246 a0 21) = (m0 a0 21) := (Eq.trans (zs_ne hmm246 (Or.inr (by decide))) (zs_ne hmm243 (Or.inr (by decide))))
                      have r254 : 0 ≤ (m246 a0 48) ∧ (m246 a0 48) ≤ 64 := zi_rd hIm246 hc0 zb_28_48
                      have e255 : (m246 a0 48) = (m0 a0 48) := (Eq.trans (zs_ne hmm246 (Or.inr (by decide))) (zs_ne hmm243 (Or.inr (by decide))))
                      have r256 : 0 ≤ (m246 a0 46) ∧ (m246 a0 46) ≤ 96 := zi_rd hIm246 hc0 zb_28_46
                      have e257 : (m246 a0 46) = (m0 a0 46) := (Eq.trans (zs_ne hmm246 (Or.inr (by decide))) (zs_ne hmm243 (Or.inr (by decide))))
                      have r258 : 0 ≤ (m246 a0 49) ∧ (m246 a0 49) ≤ 1 := zi_rd hIm246 hc0 zb_28_49
                      have e259 : (m246 a0 49) = (m0 a0 49) := (Eq.trans (zs_ne hmm246 (Or.inr (by decide))) (zs_ne hmm243 (Or.inr (by decide))))
                      have r260 : 0 ≤ (m246 a0 45) ∧ (m246 a0 45) ≤ 96 := zi_rd hIm246 hc0 zb_28_45
                      have e261 : (m246 a0 45) = (m0 a0 45) := (Eq.trans (zs_ne hmm246 (Or.inr (by decide))) (zs_ne hmm243 (Or.inr (by decide))))
                      have r262 : 0 ≤ (m246 a0 47) ∧ (m246 a0 47) ≤ 8 := zi_rd hIm246 hc0 zb_28_47
                      have e263 : (m246 a0 47) = (m0 a0 47) := (Eq.trans (zs_ne hmm246 (Or.inr (by decide))) (zs_ne hmm243 (Or.inr (by decide))))
                      have r264 : (-2147483648) ≤ (m246 a0 4) ∧ (m246 a0 4) ≤ 2147483647 := zi_rd hIm246 hc0 zb_28_4
                      have e265 : (m246 a0 4) = 1 := (Eq.trans (zs_ne hmm246 (Or.inr (by decide))) (zs_eq hmm243))
                      exact zw_some ⟨hIm246, hFm246, hRKNm246, hRNSm246, hRTRm246, hRWDm246, ⟨by decide, by decide⟩, by omega, fun h => absurd h (by decide), fun h => absurd h (by decide), fun h => absurd h (by decide), fun h => absurd h (by decide), fun h => absurd h (by decide), fun h => absurd h (by decide), fun _ => by omega⟩
                · exfalso; omega
            · refine zw_bd (zw_eq (zu_call_at (zt_T n) (zm_113 n) (zdp_113 n) _ _ _ _ _ rfl (zr_113_0 n _ _ a0 m0)) ?_)
              refine zw_ite (fun h266 => ?_) (fun h266 => ?_)
              · have w267 := zu_w32_id (z := (m0 a0 48) + 1) (by omega) (by omega)
                generalize hmm268 : zu_up m0 a0 48 (zu_w32 ((m0 a0 48) + 1)) = m268
                have hIm268 := zi_up hmm268 hIm0 hc0 zb_28_48 (by omega) (by omega)
                have hFm268 := zfr_up hmm268 hFm0 hc0 rfl
                have g269 := zwt_fr (zdis_fr (zfr_up hmm268 (zfr_rf [(28, 49)] _) hc0 rfl) rfl)
                have hRKNm268 := zR_KN_fr (zdis_fr (zfr_up hmm268 (zfr_rf [(28, 49)] _) hc0 rfl) rfl) hRKNm0
                have hRNSm268 := zR_NS_fr (zdis_fr (zfr_up hmm268 (zfr_rf [(28, 49)] _) hc0 rfl) rfl) hRNSm0
                have hRTRm268 := zR_TR_fr (zdis_fr (zfr_up hmm268 (zfr_rf [(28, 49)] _) hc0 rfl) rfl) hRTRm0
                have hRWDm268 := zR_WD_fr (zdis_fr (zfr_up hmm268 (zfr_rf [(28, 49)] _) hc0 rfl) rfl) hRWDm0
                refine zw_b (by omega) ?_
                refine zw_some ?_
                refine zw_ite (fun h270 => ?_) (fun h270 => ?_)
                · refine zw_bd (zw_eq (zu_call_at (zt_T n) (zm_114 n) (zdp_114 n) _ _ _ _ _ rfl (zr_114_0 n _ _ a0 2 m268)) ?_)
                  have r271 : 0 ≤ (m268 a0 45) ∧ (m268 a0 45) ≤ 96 := zi_rd hIm268 hc0 zb_28_45
                  have e272 : (m268 a0 45) = (m0 a0 45) := (zs_ne hmm268 (Or.inr (by decide)))
                  have b273 : 0 ≤ (m268 a0 45) ∧ (m268 a0 45) < 96 := by omega
                  refine zw_if b273 ?_
                  generalize hmm274 : zu_up m268 211 (m268 a0 45) 2 = m274
                  have hIm274 := zi_up hmm274 hIm268 zq_211 (zb_120 _) (by omega) (by omega)
                  have hFm274 := zfr_up hmm274 hFm268 zq_211 rfl
                  have hRKNm274 := zR_KN_fr (zdis_fr (zfr_up hmm274 (zfr_rf [(120, 0)] _) zq_211 rfl) rfl) hRKNm268
                  have hRNSm274 := zR_NS_fr (zdis_fr (zfr_up hmm274 (zfr_rf [(120, 0)] _) zq_211 rfl) rfl) hRNSm268
                  have hRTRm274 := zR_TR_fr (zdis_fr (zfr_up hmm274 (zfr_rf [(120, 0)] _) zq_211 rfl) rfl) hRTRm268
                  have hRWDm274 := zR_WD_fr (zdis_fr (zfr_up hmm274 (zfr_rf [(120, 0)] _) zq_211 rfl) rfl) hRWDm268
                  have r275 : 0 ≤ (m274 a0 45) ∧ (m274 a0 45) ≤ 96 := zi_rd hIm274 hc0 zb_28_45
                  have e276 : (m274 a0 45) = (m268 a0 45) := (zs_ne hmm274 (Or.inl (zc_ne hc0 zq_211 (by decide))))
                  have w277 := zu_w32_id (z := (m274 a0 45) + 1) (by omega) (by omega)
                  generalize hmm278 : zu_up m274 a0 45 (zu_w32 ((m274 a0 45) + 1)) = m278
                  have hIm278 := zi_up hmm278 hIm274 hc0 zb_28_45 (by omega) (by omega)
                  have hFm278 := zfr_up hmm278 hFm274 hc0 rfl
                  have hRKNm278 := zR_KN_fr (zdis_fr (zfr_up hmm278 (zfr_rf [(28, 46)] _) hc0 rfl) rfl) hRKNm274
                  have hRNSm278 := zR_NS_fr (zdis_fr (zfr_up hmm278 (zfr_rf [(28, 46)] _) hc0 rfl) rfl) hRNSm274
                  have hRTRm278 := zR_TR_fr (zdis_fr (zfr_up hmm278 (zfr_rf [(28, 46)] _) hc0 rfl) rfl) hRTRm274
                  have hRWDm278 := zR_WD_fr (zdis_fr (zfr_up hmm278 (zfr_rf [(28, 46)] _) hc0 rfl) rfl) hRWDm274
                  have g279 := zwt_push hmm274 hmm278 hc0 (by omega) (by omega) (by omega)
                  have g280 := zwt_bd hIm278 hc0
                  refine zw_some ?_
                  have r283 : 0 ≤ (m278 a0 7) ∧ (m278 a0 7) ≤ 700 := zi_rd hIm278 hc0 zb_28_7
                  have e284 : (m278 a0 7) = (m0 a0 7) := (Eq.trans (zs_ne hmm278 (Or.inr (by decide))) (Eq.trans (zs_ne hmm274 (Or.inl (zc_ne hc0 zq_211 (by decide)))) (zs_ne hmm268 (Or.inr (by decide)))))
                  refine zw_bd (zw_mono (zk_89 n hIm278 hc0 hRNSm278 hRWDm278) (fun v282 m281 hqm281 => ?_))
                  obtain ⟨hIm281, hfm281, hvm281⟩ := hqm281
                  have hFm281 := zfr_tr hFm278 hfm281 rfl
                  obtain ⟨hRNSm281, hRTRm281, hRWDm281, hvm281⟩ := hvm281
                  have g285 := zwt_fr (zdis_fr hfm281 rfl)
                  have hRKNm281 := zR_KN_fr (zdis_fr hfm281 rfl) hRKNm278
                  have g286 := zwt_bd hIm281 hc0
                  have s287 := hRNSm281 a0 hc0
                  have r288 : 0 ≤ (m281 a0 7) ∧ (m281 a0 7) ≤ 700 := zi_rd hIm281 hc0 zb_28_7
                  have r289 : 0 ≤ (m281 a0 8) ∧ (m281 a0 8) ≤ 6 := zi_rd hIm281 hc0 zb_28_8
                  refine zw_b (by omega) ?_
                  have r290 : 0 ≤ (m281 a0 21) ∧ (m281 a0 21) ≤ 64 := zi_rd hIm281 hc0 zb_28_21
                  have e291 : (m281 a0 21) = (m0 a0 21) := (Eq.trans (zfr_ap hfm281 hc0 rfl) (Eq.trans (zs_ne hmm278 (Or.inr (by decide))) (Eq.trans (zs_ne hmm274 (Or.inl (zc_ne hc0 zq_211 (by decide)))) (zs_ne hmm268 (Or.inr (by decide))))))
                  have r292 : 0 ≤ (m281 a0 48) ∧ (m281 a0 48) ≤ 64 := zi_rd hIm281 hc0 zb_28_48
                  have e293 : (m281 a0 48) = (zu_w32 ((m0 a0 48) + 1)) := (Eq.trans (zfr_ap hfm281 hc0 rfl) (Eq.trans (zs_ne hmm278 (Or.inr (by decide))) (Eq.trans (zs_ne hmm274 (Or.inl (zc_ne hc0 zq_211 (by decide)))) (zs_eq hmm268))))
                  have r294 : 0 ≤ (m281 a0 46) ∧ (m281 a0 46) ≤ 96 := zi_rd hIm281 hc0 zb_28_46
                  have e295 : (m281 a0 46) = (m0 a0 46) := (Eq.trans (zfr_ap hfm281 hc0 rfl) (Eq.trans (zs_ne hmm278 (Or.inr (by decide))) (Eq.trans (zs_ne hmm274 (Or.inl (zc_ne hc0 zq_211 (by decide)))) (zs_ne hmm268 (Or.inr (by decide))))))
                  have r296 : 0 ≤ (m281 a0 49) ∧ (m281 a0 49) ≤ 1 := zi_rd hIm281 hc0 zb_28_49
                  have e297 : (m281 a0 49) = (m0 a0 49) := (Eq.trans (zfr_ap hfm281 hc0 rfl) (Eq.trans (zs_ne hmm278 (Or.inr (by decide))) (Eq.trans (zs_ne hmm274 (Or.inl (zc_ne hc0 zq_211 (by decide)))) (zs_ne hmm268 (Or.inr (by decide))))))
                  have r298 : 0 ≤ (m281 a0 45) ∧ (m281 a0 45) ≤ 96 := zi_rd hIm281 hc0 zb_28_45
                  have e299 : (m281 a0 45) = (zu_w32 ((m274 a0 45) + 1)) := (Eq.trans (zfr_ap hfm281 hc0 rfl) (zs_eq hmm278))
                  have r300 : 0 ≤ (m281 a0 47) ∧ (m281 a0 47) ≤ 8 := zi_rd hIm281 hc0 zb_28_47
                  have e301 : (m281 a0 47) = (m0 a0 47) := (Eq.trans (zfr_ap hfm281 hc0 rfl) (Eq.trans (zs_ne hmm278 (Or.inr (by decide))) (Eq.trans (zs_ne hmm274 (Or.inl (zc_ne hc0 zq_211 (by decide)))) (zs_ne hmm268 (Or.inr (by decide))))))
                  have r302 : (-2147483648) ≤ (m281 a0 4) ∧ (m281 a0 4) ≤ 2147483647 := zi_rd hIm281 hc0 zb_28_4
                  have e303 : (m281 a0 4) = (m0 a0 4) := (Eq.trans (zfr_ap hfm281 hc0 rfl) (Eq.trans (zs_ne hmm278 (Or.inr (by decide))) (Eq.trans (zs_ne hmm274 (Or.inl (zc_ne hc0 zq_211 (by decide)))) (zs_ne hmm268 (Or.inr (by decide))))))
                  exact zw_some ⟨hIm281, hFm281, hRKNm281, hRNSm281, hRTRm281, hRWDm281, ⟨by decide, by decide⟩, by omega, fun _ => by omega, fun _ => by omega, fun _ => by omega, fun _ => by omega, fun _ => by omega, fun _ => by omega, fun h => absurd h (by decide)⟩
                · exfalso; omega
              · refine zw_bd (zw_eq (zu_call_at (zt_T n) (zm_85 n) (zdp_85 n) _ _ _ _ _ rfl (zr_85_0 n _ _ a0 2 m0)) ?_)
                generalize hmm304 : zu_up m0 a0 4 2 = m304
                have hIm304 := zi_up hmm304 hIm0 hc0 zb_28_4 (by omega) (by omega)
                have hFm304 := zfr_up hmm304 hFm0 hc0 rfl
                have g305 := zwt_fr (zdis_fr (zfr_up hmm304 (zfr_rf [(28, 5)] _) hc0 rfl) rfl)
                have hRKNm304 := zR_KN_fr (zdis_fr (zfr_up hmm304 (zfr_rf [(28, 5)] _) hc0 rfl) rfl) hRKNm0
                have hRNSm304 := zR_NS_fr (zdis_fr (zfr_up hmm304 (zfr_rf [(28, 5)] _) hc0 rfl) rfl) hRNSm0
                have hRTRm304 := zR_TR_fr (zdis_fr (zfr_up hmm304 (zfr_rf [(28, 5)] _) hc0 rfl) rfl) hRTRm0
                have hRWDm304 := zR_WD_fr (zdis_fr (zfr_up hmm304 (zfr_rf [(28, 5)] _) hc0 rfl) rfl) hRWDm0
                have hRLRm304 := zLR_wr (zone_190 hc0) hmm304 (by decide)
                have r306 : 0 ≤ (m304 a0 10) ∧ (m304 a0 10) ≤ 700 := zi_rd hIm304 hc0 zb_28_10
                generalize hmm307 : zu_up m304 a0 5 (m304 a0 10) = m307
                have hIm307 := zi_up hmm307 hIm304 hc0 zb_28_5 (by omega) (by omega)
                have hFm307 := zfr_up hmm307 hFm304 hc0 rfl
                have g308 := zwt_fr (zdis_fr (zfr_up hmm307 (zfr_rf [(28, 6)] _) hc0 rfl) rfl)
                have hRKNm307 := zR_KN_fr (zdis_fr (zfr_up hmm307 (zfr_rf [(28, 6)] _) hc0 rfl) rfl) hRKNm304
                have hRLRm307 := zR_LR_fr (zdis_fr (zfr_up hmm307 (zfr_rf [(28, 6)] _) hc0 rfl) rfl) hRLRm304
                have hRNSm307 := zR_NS_fr (zdis_fr (zfr_up hmm307 (zfr_rf [(28, 6)] _) hc0 rfl) rfl) hRNSm304
                have hRTRm307 := zR_TR_fr (zdis_fr (zfr_up hmm307 (zfr_rf [(28, 6)] _) hc0 rfl) rfl) hRTRm304
                have hRWDm307 := zR_WD_fr (zdis_fr (zfr_up hmm307 (zfr_rf [(28, 6)] _) hc0 rfl) rfl) hRWDm304
                refine zw_b (by omega) ?_
                refine zw_some ?_
                refine zw_b (by omega) ?_
                refine zw_some ?_
                refine zw_ite (fun h309 => ?_) (fun h309 => ?_)
                · exfalso; omega
                · refine zw_b (by omega) ?_
                  have r310 : 0 ≤ (m307 a0 7) ∧ (m307 a0 7) ≤ 700 := zi_rd hIm307 hc0 zb_28_7
                  have e311 : (m307 a0 7) = (m0 a0 7) := (Eq.trans (zs_ne hmm307 (Or.inr (by decide))) (zs_ne hmm304 (Or.inr (by decide))))
                  have r312 : 0 ≤ (m307 a0 8) ∧ (m307 a0 8) ≤ 6 := zi_rd hIm307 hc0 zb_28_8
                  have e313 : (m307 a0 8) = (m0 a0 8) := (Eq.trans (zs_ne hmm307 (Or.inr (by decide))) (zs_ne hmm304 (Or.inr (by decide))))
                  have r314 : 0 ≤ (m307 a0 21) ∧ (m307 a0 21) ≤ 64 := zi_rd hIm307 hc0 zb_28_21
                  have e315 : (m307 a0 21) = (m0 a0 21) := (Eq.trans (zs_ne hmm307 (Or.inr (by decide))) (zs_ne hmm304 (Or.inr (by decide))))
                  have r316 : 0 ≤ (m307 a0 48) ∧ (m307 a0 48) ≤ 64 := zi_rd hIm307 hc0 zb_28_48
                  have e317 : (m307 a0 48) = (m0 a0 48) := (Eq.trans (zs_ne hmm307 (Or.inr (by decide))) (zs_ne hmm304 (Or.inr (by decide))))
                  have r318 : 0 ≤ (m307 a0 46) ∧ (m307 a0 46) ≤ 96 := zi_rd hIm307 hc0 zb_28_46
                  have e319 : (m307 a0 46) = (m0 a0 46) := (Eq.trans (zs_ne hmm307 (Or.inr (by decide))) (zs_ne hmm304 (Or.inr (by decide))))
                  have r320 : 0 ≤ (m307 a0 49) ∧ (m307 a0 49) ≤ 1 := zi_rd hIm307 hc0 zb_28_49
                  have e321 : (m307 a0 49) = (m0 a0 49) := (Eq.trans (zs_ne hmm307 (Or.inr (by decide))) (zs_ne hmm304 (Or.inr (by decide))))
                  have r322 : 0 ≤ (m307 a0 45) ∧ (m307 a0 45) ≤ 96 := zi_rd hIm307 hc0 zb_28_45
                  have e323 : (m307 a0 45) = (m0 a0 45) := (Eq.trans (zs_ne hmm307 (Or.inr (by decide))) (zs_ne hmm304 (Or.inr (by decide))))
                  have r324 : 0 ≤ (m307 a0 47) ∧ (m307 a0 47) ≤ 8 := zi_rd hIm307 hc0 zb_28_47
                  have e325 : (m307 a0 47) = (m0 a0 47) := (Eq.trans (zs_ne hmm307 (Or.inr (by decide))) (zs_ne hmm304 (Or.inr (by decide))))
                  have r326 : (-2147483648) ≤ (m307 a0 4) ∧ (m307 a0 4) ≤ 2147483647 := zi_rd hIm307 hc0 zb_28_4
                  have e327 : (m307 a0 4) = 2 := (Eq.trans (zs_ne hmm307 (Or.inr (by decide))) (zs_eq hmm304))
                  exact zw_some ⟨hIm307, hFm307, hRKNm307, hRNSm307, hRTRm307, hRWDm307, ⟨by decide, by decide⟩, by omega, fun h => absurd h (by decide), fun h => absurd h (by decide), fun h => absurd h (by decide), fun h => absurd h (by decide), fun h => absurd h (by decide), fun h => absurd h (by decide), fun _ => by omega⟩
    · exfalso; omega
  · have r328 : (-2147483648) ≤ (m0 a0 9) ∧ (m0 a0 9) ≤ 2147483647 := zi_rd hIm0 hc0 zb_28_9
    refine zw_ite (fun h329 => ?_) (fun h329 => ?_)
    · refine zw_b (by omega) ?_
      refine zw_some ?_
      refine zw_ite (fun h330 => ?_) (fun h330 => ?_)
      · refine zw_bd (zw_eq (zu_call_at (zt_T n) (zm_92 n) (zdp_92 n) _ _ _ _ _ rfl (zr_92_0 n _ _ a0 25 m0)) ?_)
        refine zw_ite (fun h331 => ?_) (fun h331 => ?_)
        · refine zw_b (by omega) ?_
          refine zw_some ?_
          refine zw_ite (fun h332 => ?_) (fun h332 => ?_)
          · refine zw_bd (zw_eq (zu_call_at (zt_T n) (zm_115 n) (zdp_115 n) _ _ _ _ _ rfl (zr_115_0 n _ _ a0 m0)) ?_)
            refine zw_ite (fun h333 => ?_) (fun h333 => ?_)
            · refine zw_some ?_
              refine zw_ite (fun h334 => ?_) (fun h334 => ?_)
              · exfalso; omega
              · refine zw_ite (fun h335 => ?_) (fun h335 => ?_)
                · exfalso; omega
                · refine zw_bd (zw_eq (zu_call_at (zt_T n) (zm_85 n) (zdp_85 n) _ _ _ _ _ rfl (zr_85_0 n _ _ a0 1 m0)) ?_)
                  generalize hmm336 : zu_up m0 a0 4 1 = m336
                  have hIm336 := zi_up hmm336 hIm0 hc0 zb_28_4 (by omega) (by omega)
                  have hFm336 := zfr_up hmm336 hFm0 hc0 rfl
                  have g337 := zwt_fr (zdis_fr (zfr_up hmm336 (zfr_rf [(28, 5)] _) hc0 rfl) rfl)
                  have hRKNm336 := zR_KN_fr (zdis_fr (zfr_up hmm336 (zfr_rf [(28, 5)] _) hc0 rfl) rfl) hRKNm0
                  have hRNSm336 := zR_NS_fr (zdis_fr (zfr_up hmm336 (zfr_rf [(28, 5)] _) hc0 rfl) rfl) hRNSm0
                  have hRTRm336 := zR_TR_fr (zdis_fr (zfr_up hmm336 (zfr_rf [(28, 5)] _) hc0 rfl) rfl) hRTRm0
                  have hRWDm336 := zR_WD_fr (zdis_fr (zfr_up hmm336 (zfr_rf [(28, 5)] _) hc0 rfl) rfl) hRWDm0
                  have hRLRm336 := zLR_wr (zone_190 hc0) hmm336 (by decide)
                  have r338 : 0 ≤ (m336 a0 10) ∧ (m336 a0 10) ≤ 700 := zi_rd hIm336 hc0 zb_28_10
                  generalize hmm339 : zu_up m336 a0 5 (m336 a0 10) = m339
                  have hIm339 := zi_up hmm339 hIm336 hc0 zb_28_5 (by omega) (by omega)
                  have hFm339 := zfr_up hmm339 hFm336 hc0 rfl
                  have g340 := zwt_fr (zdis_fr (zfr_up hmm339 (zfr_rf [(28, 6)] _) hc0 rfl) rfl)
                  have hRKNm339 := zR_KN_fr (zdis_fr (zfr_up hmm339 (zfr_rf [(28, 6)] _) hc0 rfl) rfl) hRKNm336
                  have hRLRm339 := zR_LR_fr (zdis_fr (zfr_up hmm339 (zfr_rf [(28, 6)] _) hc0 rfl) rfl) hRLRm336
                  have hRNSm339 := zR_NS_fr (zdis_fr (zfr_up hmm339 (zfr_rf [(28, 6)] _) hc0 rfl) rfl) hRNSm336
                  have hRTRm339 := zR_TR_fr (zdis_fr (zfr_up hmm339 (zfr_rf [(28, 6)] _) hc0 rfl) rfl) hRTRm336
                  have hRWDm339 := zR_WD_fr (zdis_fr (zfr_up hmm339 (zfr_rf [(28, 6)] _) hc0 rfl) rfl) hRWDm336
                  refine zw_b (by omega) ?_
                  refine zw_some ?_
                  refine zw_b (by omega) ?_
                  have r341 : 0 ≤ (m339 a0 7) ∧ (m339 a0 7) ≤ 700 := zi_rd hIm339 hc0 zb_28_7
                  have e342 : (m339 a0 7) = (m0 a0 7) := (Eq.trans (zs_ne hmm339 (Or.inr (by decide))) (zs_ne hmm336 (Or.inr (by decide))))
                  have r343 : 0 ≤ (m339 a0 8) ∧ (m339 a0 8) ≤ 6 := zi_rd hIm339 hc0 zb_28_8
                  have e344 : (m339 a0 8) = (m0 a0 8) := (Eq.trans (zs_ne hmm339 (Or.inr (by decide))) (zs_ne hmm336 (Or.inr (by decide))))
                  have r345 : 0 ≤ (m339 a0 21) ∧ (m339 a0 21) ≤ 64 := zi_rd hIm339 hc0 zb_28_21
                  have e346 : (m339 a0 21) = (m0 a0 21) := (Eq.trans (zs_ne hmm339 (Or.inr (by decide))) (zs_ne hmm336 (Or.inr (by decide))))
                  have r347 : 0 ≤ (m339 a0 48) ∧ (m339 a0 48) ≤ 64 := zi_rd hIm339 hc0 zb_28_48
                  have e348 : (m339 a0 48) = (m0 a0 48) := (Eq.trans (zs_ne hmm339 (Or.inr (by decide))) (zs_ne hmm336 (Or.inr (by decide))))
                  have r349 : 0 ≤ (m339 a0 46) ∧ (m339 a0 46) ≤ 96 := zi_rd hIm339 hc0 zb_28_46
                  have e350 : (m339 a0 46) = (m0 a0 46) := (Eq.trans (zs_ne hmm339 (Or.inr (by decide))) (zs_ne hmm336 (Or.inr (by decide))))
                  have r351 : 0 ≤ (m339 a0 49) ∧ (m339 a0 49) ≤ 1 := zi_rd hIm339 hc0 zb_28_49
                  have e352 : (m339 a0 49) = (m0 a0 49) := (Eq.trans (zs_ne hmm339 (Or.inr (by decide))) (zs_ne hmm336 (Or.inr (by decide))))
                  have r353 : 0 ≤ (m339 a0 45) ∧ (m339 a0 45) ≤ 96 := zi_rd hIm339 hc0 zb_28_45
                  have e354 : (m339 a0 45) = (m0 a0 45) := (Eq.trans (zs_ne hmm339 (Or.inr (by decide))) (zs_ne hmm336 (Or.inr (by decide))))
                  have r355 : 0 ≤ (m339 a0 47) ∧ (m339 a0 47) ≤ 8 := zi_rd hIm339 hc0 zb_28_47
                  have e356 : (m339 a0 47) = (m0 a0 47) := (Eq.trans (zs_ne hmm339 (Or.inr (by decide))) (zs_ne hmm336 (Or.inr (by decide))))
                  have r357 : (-2147483648) ≤ (m339 a0 4) ∧ (m339 a0 4) ≤ 2147483647 := zi_rd hIm339 hc0 zb_28_4
                  have e358 : (m339 a0 4) = 1 := (Eq.trans (zs_ne hmm339 (Or.inr (by decide))) (zs_eq hmm336))
                  exact zw_some ⟨hIm339, hFm339, hRKNm339, hRNSm339, hRTRm339, hRWDm339, ⟨by decide, by decide⟩, by omega, fun h => absurd h (by decide), fun h => absurd h (by decide), fun h => absurd h (by decide), fun h => absurd h (by decide), fun h => absurd h (by decide), fun h => absurd h (by decide), fun _ => by omega⟩
            · exfalso; omega
          · exfalso; omega
        · exfalso; omega
      · exfalso; omega
    · refine zw_b (by omega) ?_
      refine zw_some ?_
      refine zw_ite (fun h359 => ?_) (fun h359 => ?_)
      · exfalso; omega
      · refine zw_ite (fun h360 => ?_) (fun h360 => ?_)
        · have w361 := zu_w32_id (z := (m0 a0 47) + 1) (by omega) (by omega)
          generalize hmm362 : zu_up m0 a0 47 (zu_w32 ((m0 a0 47) + 1)) = m362
          have hIm362 := zi_up hmm362 hIm0 hc0 zb_28_47 (by omega) (by omega)
          have hFm362 := zfr_up hmm362 hFm0 hc0 rfl
          have g363 := zwt_fr (zdis_fr (zfr_up hmm362 (zfr_rf [(28, 48)] _) hc0 rfl) rfl)
          have hRKNm362 := zR_KN_fr (zdis_fr (zfr_up hmm362 (zfr_rf [(28, 48)] _) hc0 rfl) rfl) hRKNm0
          have hRNSm362 := zR_NS_fr (zdis_fr (zfr_up hmm362 (zfr_rf [(28, 48)] _) hc0 rfl) rfl) hRNSm0
          have hRTRm362 := zR_TR_fr (zdis_fr (zfr_up hmm362 (zfr_rf [(28, 48)] _) hc0 rfl) rfl) hRTRm0
          have hRWDm362 := zR_WD_fr (zdis_fr (zfr_up hmm362 (zfr_rf [(28, 48)] _) hc0 rfl) rfl) hRWDm0
          refine zw_bd (zw_eq (zu_call_at (zt_T n) (zm_114 n) (zdp_114 n) _ _ _ _ _ rfl (zr_114_0 n _ _ a0 0 m362)) ?_)
          have r364 : 0 ≤ (m362 a0 45) ∧ (m362 a0 45) ≤ 96 := zi_rd hIm362 hc0 zb_28_45
          have e365 : (m362 a0 45) = (m0 a0 45) := (zs_ne hmm362 (Or.inr (by decide)))
          have b366 : 0 ≤ (m362 a0 45) ∧ (m362 a0 45) < 96 := by omega
          refine zw_if b366 ?_
          generalize hmm367 : zu_up m362 211 (m362 a0 45) 0 = m367
          have hIm367 := zi_up hmm367 hIm362 zq_211 (zb_120 _) (by omega) (by omega)
          have hFm367 := zfr_up hmm367 hFm362 zq_211 rfl
          have hRKNm367 := zR_KN_fr (zdis_fr (zfr_up hmm367 (zfr_rf [(120, 0)] _) zq_211 rfl) rfl) hRKNm362
          have hRNSm367 := zR_NS_fr (zdis_fr (zfr_up hmm367 (zfr_rf [(120, 0)] _) zq_211 rfl) rfl) hRNSm362
          have hRTRm367 := zR_TR_fr (zdis_fr (zfr_up hmm367 (zfr_rf [(120, 0)] _) zq_211 rfl) rfl) hRTRm362
          have hRWDm367 := zR_WD_fr (zdis_fr (zfr_up hmm367 (zfr_rf [(120, 0)] _) zq_211 rfl) rfl) hRWDm362
          have r368 : 0 ≤ (m367 a0 45) ∧ (m367 a0 45) ≤ 96 := zi_rd hIm367 hc0 zb_28_45
          have e369 : (m367 a0 45) = (m362 a0 45) := (zs_ne hmm367 (Or.inl (zc_ne hc0 zq_211 (by decide))))
          have w370 := zu_w32_id (z := (m367 a0 45) + 1) (by omega) (by omega)
          generalize hmm371 : zu_up m367 a0 45 (zu_w32 ((m367 a0 45) + 1)) = m371
          have hIm371 := zi_up hmm371 hIm367 hc0 zb_28_45 (by omega) (by omega)
          have hFm371 := zfr_up hmm371 hFm367 hc0 rfl
          have hRKNm371 := zR_KN_fr (zdis_fr (zfr_up hmm371 (zfr_rf [(28, 46)] _) hc0 rfl) rfl) hRKNm367
          have hRNSm371 := zR_NS_fr (zdis_fr (zfr_up hmm371 (zfr_rf [(28, 46)] _) hc0 rfl) rfl) hRNSm367
          have hRTRm371 := zR_TR_fr (zdis_fr (zfr_up hmm371 (zfr_rf [(28, 46)] _) hc0 rfl) rfl) hRTRm367
          have hRWDm371 := zR_WD_fr (zdis_fr (zfr_up hmm371 (zfr_rf [(28, 46)] _) hc0 rfl) rfl) hRWDm367
          have g372 := zwt_push hmm367 hmm371 hc0 (by omega) (by omega) (by omega)
          have g373 := zwt_bd hIm371 hc0
          refine zw_some ?_
          refine zw_b (by omega) ?_
          generalize hmm374 : zu_up m371 a0 50 1 = m374
          have hIm374 := zi_up hmm374 hIm371 hc0 zb_28_50 (by omega) (by omega)
          have hFm374 := zfr_up hmm374 hFm371 hc0 rfl
          have g375 := zwt_fr (zdis_fr (zfr_up hmm374 (zfr_rf [(28, 51)] _) hc0 rfl) rfl)
          have hRKNm374 := zR_KN_fr (zdis_fr (zfr_up hmm374 (zfr_rf [(28, 51)] _) hc0 rfl) rfl) hRKNm371
          have hRNSm374 := zR_NS_fr (zdis_fr (zfr_up hmm374 (zfr_rf [(28, 51)] _) hc0 rfl) rfl) hRNSm371
          have hRTRm374 := zR_TR_fr (zdis_fr (zfr_up hmm374 (zfr_rf [(28, 51)] _) hc0 rfl) rfl) hRTRm371
          have hRWDm374 := zR_WD_fr (zdis_fr (zfr_up hmm374 (zfr_rf [(28, 51)] _) hc0 rfl) rfl) hRWDm371
          have r378 : 0 ≤ (m374 a0 7) ∧ (m374 a0 7) ≤ 700 := zi_rd hIm374 hc0 zb_28_7
          have e379 : (m374 a0 7) = (m0 a0 7) := (Eq.trans (zs_ne hmm374 (Or.inr (by decide))) (Eq.trans (zs_ne hmm371 (Or.inr (by decide))) (Eq.trans (zs_ne hmm367 (Or.inl (zc_ne hc0 zq_211 (by decide)))) (zs_ne hmm362 (Or.inr (by decide))))))
          refine zw_bd (zw_mono (zk_89 n hIm374 hc0 hRNSm374 hRWDm374) (fun v377 m376 hqm376 => ?_))
          obtain ⟨hIm376, hfm376, hvm376⟩ := hqm376
          have hFm376 := zfr_tr hFm374 hfm376 rfl
          obtain ⟨hRNSm376, hRTRm376, hRWDm376, hvm376⟩ := hvm376
          have g380 := zwt_fr (zdis_fr hfm376 rfl)
          have hRKNm376 := zR_KN_fr (zdis_fr hfm376 rfl) hRKNm374
          have g381 := zwt_bd hIm376 hc0
          have s382 := hRNSm376 a0 hc0
          have r383 : 0 ≤ (m376 a0 7) ∧ (m376 a0 7) ≤ 700 := zi_rd hIm376 hc0 zb_28_7
          have r384 : 0 ≤ (m376 a0 8) ∧ (m376 a0 8) ≤ 6 := zi_rd hIm376 hc0 zb_28_8
          refine zw_b (by omega) ?_
          have r385 : 0 ≤ (m376 a0 21) ∧ (m376 a0 21) ≤ 64 := zi_rd hIm376 hc0 zb_28_21
          have e386 : (m376 a0 21) = (m0 a0 21) := (Eq.trans (zfr_ap hfm376 hc0 rfl) (Eq.trans (zs_ne hmm374 (Or.inr (by decide))) (Eq.trans (zs_ne hmm371 (Or.inr (by decide))) (Eq.trans (zs_ne hmm367 (Or.inl (zc_ne hc0 zq_211 (by decide)))) (zs_ne hmm362 (Or.inr (by decide)))))))
          have r387 : 0 ≤ (m376 a0 48) ∧ (m376 a0 48) ≤ 64 := zi_rd hIm376 hc0 zb_28_48
          have e388 : (m376 a0 48) = (m0 a0 48) := (Eq.trans (zfr_ap hfm376 hc0 rfl) (Eq.trans (zs_ne hmm374 (Or.inr (by decide))) (Eq.trans (zs_ne hmm371 (Or.inr (by decide))) (Eq.trans (zs_ne hmm367 (Or.inl (zc_ne hc0 zq_211 (by decide)))) (zs_ne hmm362 (Or.inr (by decide)))))))
          have r389 : 0 ≤ (m376 a0 46) ∧ (m376 a0 46) ≤ 96 := zi_rd hIm376 hc0 zb_28_46
          have e390 : (m376 a0 46) = (m0 a0 46) := (Eq.trans (zfr_ap hfm376 hc0 rfl) (Eq.trans (zs_ne hmm374 (Or.inr (by decide))) (Eq.trans (zs_ne hmm371 (Or.inr (by decide))) (Eq.trans (zs_ne hmm367 (Or.inl (zc_ne hc0 zq_211 (by decide)))) (zs_ne hmm362 (Or.inr (by decide)))))))
          have r391 : 0 ≤ (m376 a0 49) ∧ (m376 a0 49) ≤ 1 := zi_rd hIm376 hc0 zb_28_49
          have e392 : (m376 a0 49) = (m0 a0 49) := (Eq.trans (zfr_ap hfm376 hc0 rfl) (Eq.trans (zs_ne hmm374 (Or.inr (by decide))) (Eq.trans (zs_ne hmm371 (Or.inr (by decide))) (Eq.trans (zs_ne hmm367 (Or.inl (zc_ne hc0 zq_211 (by decide)))) (zs_ne hmm362 (Or.inr (by decide)))))))
          have r393 : 0 ≤ (m376 a0 45) ∧ (m376 a0 45) ≤ 96 := zi_rd hIm376 hc0 zb_28_45
          have e394 : (m376 a0 45) = (zu_w32 ((m367 a0 45) + 1)) := (Eq.trans (zfr_ap hfm376 hc0 rfl) (Eq.trans (zs_ne hmm374 (Or.inr (by decide))) (zs_eq hmm371)))
          have r395 : 0 ≤ (m376 a0 47) ∧ (m376 a0 47) ≤ 8 := zi_rd hIm376 hc0 zb_28_47
          have e396 : (m376 a0 47) = (zu_w32 ((m0 a0 47) + 1)) := (Eq.trans (zfr_ap hfm376 hc0 rfl) (Eq.trans (zs_ne hmm374 (Or.inr (by decide))) (Eq.trans (zs_ne hmm371 (Or.inr (by decide))) (Eq.trans (zs_ne hmm367 (Or.inl (zc_ne hc0 zq_211 (by decide)))) (zs_eq hmm362)))))
          have r397 : (-2147483648) ≤ (m376 a0 4) ∧ (m376 a0 4) ≤ 2147483647 := zi_rd hIm376 hc0 zb_28_4
          have e398 : (m376 a0 4) = (m0 a0 4) := (Eq.trans (zfr_ap hfm376 hc0 rfl) (Eq.trans (zs_ne hmm374 (Or.inr (by decide))) (Eq.trans (zs_ne hmm371 (Or.inr (by decide))) (Eq.trans (zs_ne hmm367 (Or.inl (zc_ne hc0 zq_211 (by decide)))) (zs_ne hmm362 (Or.inr (by decide)))))))
          exact zw_some ⟨hIm376, hFm376, hRKNm376, hRNSm376, hRTRm376, hRWDm376, ⟨by decide, by decide⟩, by omega, fun _ => by omega, fun _ => by omega, fun _ => by omega, fun _ => by omega, fun _ => by omega, fun _ => by omega, fun h => absurd h (by decide)⟩
        · refine zw_bd (zw_eq (zu_call_at (zt_T n) (zm_85 n) (zdp_85 n) _ _ _ _ _ rfl (zr_85_0 n _ _ a0 2 m0)) ?_)
          generalize hmm399 : zu_up m0 a0 4 2 = m399
          have hIm399 := zi_up hmm399 hIm0 hc0 zb_28_4 (by omega) (by omega)
          have hFm399 := zfr_up hmm399 hFm0 hc0 rfl
          have g400 := zwt_fr (zdis_fr (zfr_up hmm399 (zfr_rf [(28, 5)] _) hc0 rfl) rfl)
          have hRKNm399 := zR_KN_fr (zdis_fr (zfr_up hmm399 (zfr_rf [(28, 5)] _) hc0 rfl) rfl) hRKNm0
          have hRNSm399 := zR_NS_fr (zdis_fr (zfr_up hmm399 (zfr_rf [(28, 5)] _) hc0 rfl) rfl) hRNSm0
          have hRTRm399 := zR_TR_fr (zdis_fr (zfr_up hmm399 (zfr_rf [(28, 5)] _) hc0 rfl) rfl) hRTRm0
          have hRWDm399 := zR_WD_fr (zdis_fr (zfr_up hmm399 (zfr_rf [(28, 5)] _) hc0 rfl) rfl) hRWDm0
          have hRLRm399 := zLR_wr (zone_190 hc0) hmm399 (by decide)
          have r401 : 0 ≤ (m399 a0 10) ∧ (m399 a0 10) ≤ 700 := zi_rd hIm399 hc0 zb_28_10
          generalize hmm402 : zu_up m399 a0 5 (m399 a0 10) = m402
          have hIm402 := zi_up hmm402 hIm399 hc0 zb_28_5 (by omega) (by omega)
          have hFm402 := zfr_up hmm402 hFm399 hc0 rfl
          have g403 := zwt_fr (zdis_fr (zfr_up hmm402 (zfr_rf [(28, 6)] _) hc0 rfl) rfl)
          have hRKNm402 := zR_KN_fr (zdis_fr (zfr_up hmm402 (zfr_rf [(28, 6)] _) hc0 rfl) rfl) hRKNm399
          have hRLRm402 := zR_LR_fr (zdis_fr (zfr_up hmm402 (zfr_rf [(28, 6)] _) hc0 rfl) rfl) hRLRm399
          have hRNSm402 := zR_NS_fr (zdis_fr (zfr_up hmm402 (zfr_rf [(28, 6)] _) hc0 rfl) rfl) hRNSm399
          have hRTRm402 := zR_TR_fr (zdis_fr (zfr_up hmm402 (zfr_rf [(28, 6)] _) hc0 rfl) rfl) hRTRm399
          have hRWDm402 := zR_WD_fr (zdis_fr (zfr_up hmm402 (zfr_rf [(28, 6)] _) hc0 rfl) rfl) hRWDm399
          refine zw_b (by omega) ?_
          refine zw_some ?_
          refine zw_b (by omega) ?_
          have r404 : 0 ≤ (m402 a0 7) ∧ (m402 a0 7) ≤ 700 := zi_rd hIm402 hc0 zb_28_7
          have e405 : (m402 a0 7) = (m0 a0 7) := (Eq.trans (zs_ne hmm402 (Or.inr (by decide))) (zs_ne hmm399 (Or.inr (by decide))))
          have r406 : 0 ≤ (m402 a0 8) ∧ (m402 a0 8) ≤ 6 := zi_rd hIm402 hc0 zb_28_8
          have e407 : (m402 a0 8) = (m0 a0 8) := (Eq.trans (zs_ne hmm402 (Or.inr (by decide))) (zs_ne hmm399 (Or.inr (by decide))))
          have r408 : 0 ≤ (m402 a0 21) ∧ (m402 a0 21) ≤ 64 := zi_rd hIm402 hc0 zb_28_21
          have e409 : (m402 a0 21) = (m0 a0 21) := (Eq.trans (zs_ne hmm402 (Or.inr (by decide))) (zs_ne hmm399 (Or.inr (by decide))))
          have r410 : 0 ≤ (m402 a0 48) ∧ (m402 a0 48) ≤ 64 := zi_rd hIm402 hc0 zb_28_48
          have e411 : (m402 a0 48) = (m0 a0 48) := (Eq.trans (zs_ne hmm402 (Or.inr (by decide))) (zs_ne hmm399 (Or.inr (by decide))))
          have r412 : 0 ≤ (m402 a0 46) ∧ (m402 a0 46) ≤ 96 := zi_rd hIm402 hc0 zb_28_46
          have e413 : (m402 a0 46) = (m0 a0 46) := (Eq.trans (zs_ne hmm402 (Or.inr (by decide))) (zs_ne hmm399 (Or.inr (by decide))))
          have r414 : 0 ≤ (m402 a0 49) ∧ (m402 a0 49) ≤ 1 := zi_rd hIm402 hc0 zb_28_49
          have e415 : (m402 a0 49) = (m0 a0 49) := (Eq.trans (zs_ne hmm402 (Or.inr (by decide))) (zs_ne hmm399 (Or.inr (by decide))))
          have r416 : 0 ≤ (m402 a0 45) ∧ (m402 a0 45) ≤ 96 := zi_rd hIm402 hc0 zb_28_45
          have e417 : (m402 a0 45) = (m0 a0 45) := (Eq.trans (zs_ne hmm402 (Or.inr (by decide))) (zs_ne hmm399 (Or.inr (by decide))))
          have r418 : 0 ≤ (m402 a0 47) ∧ (m402 a0 47) ≤ 8 := zi_rd hIm402 hc0 zb_28_47
          have e419 : (m402 a0 47) = (m0 a0 47) := (Eq.trans (zs_ne hmm402 (Or.inr (by decide))) (zs_ne hmm399 (Or.inr (by decide))))
          have r420 : (-2147483648) ≤ (m402 a0 4) ∧ (m402 a0 4) ≤ 2147483647 := zi_rd hIm402 hc0 zb_28_4
          have e421 : (m402 a0 4) = 2 := (Eq.trans (zs_ne hmm402 (Or.inr (by decide))) (zs_eq hmm399))
          exact zw_some ⟨hIm402, hFm402, hRKNm402, hRNSm402, hRTRm402, hRWDm402, ⟨by decide, by decide⟩, by omega, fun h => absurd h (by decide), fun h => absurd h (by decide), fun h => absurd h (by decide), fun h => absurd h (by decide), fun h => absurd h (by decide), fun h => absurd h (by decide), fun _ => by omega⟩

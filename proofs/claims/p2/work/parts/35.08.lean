set_option maxHeartbeats 4000000 in
theorem zk_80 (n : Nat) {a0 : Int} {m0 : zu_m} (hIm0 : zi_I m0) (hc0 : zcls a0 = 2)     (hRE115m0 : (m0 3 9 = 1 → zE m0 115 50)) (hRE89m0 : zE m0 89 50) (hRUNm0 : zR_UN m0) (hRUWm0 : zR_UW m0) : zw (zu_call (zt_T n) 80 [(5, a0)] m0) (fun v m => zi_I m ∧ zfr [(16, 3), (16, 5), (16, 9), (16, 10), (16, 11), (16, 12), (17, 1), (17, 2), (17, 3), (17, 4), (18, 1), (18, 2), (18, 3), (18, 4), (18, 5), (18, 6), (18, 7), (18, 8), (23, 5), (67, 0), (68, 0)] m0 m ∧ (m 3 9 = 1 → zE m 115 50) ∧ zE m 89 50 ∧ zR_UN m ∧ zR_UW m ∧ ((-1) ≤ v ∧ v ≤ 9999)) := by
  have hFm0 : zfr [(16, 3), (16, 5), (16, 9), (16, 10), (16, 11), (16, 12), (17, 1), (17, 2), (17, 3), (17, 4), (18, 1), (18, 2), (18, 3), (18, 4), (18, 5), (18, 6), (18, 7), (18, 8), (23, 5), (67, 0), (68, 0)] m0 m0 := zfr_rf _ _
  refine zw_eq (zu_call_at (zt_T n) (zm_80 n) (zdp_80 n) _ _ _ _ _ rfl (zr_80_0 n _ _ a0 m0)) ?_
  have r1 : 0 ≤ (m0 a0 9) ∧ (m0 a0 9) ≤ 1 := zi_rd hIm0 hc0 zb_2_9
  refine zw_ite (fun h2 => ?_) (fun h2 => ?_)
  · refine zw_bd (zw_mono (zk_22_16_19 n hIm0 zq_89 zq_115) (fun v4 m3 hqm3 => ?_))
    obtain ⟨hIm3, hfm3, hvm3⟩ := hqm3
    have hFm3 := zfr_tr hFm0 hfm3 rfl
    have hRE115m3 := zR_E115_fr (zdis_fr hfm3 rfl) hRE115m0
    have hRUWm3 := zR_UW_fr (zdis_fr hfm3 rfl) hRUWm0
    have hRE89m3 : zE m3 89 50 := (hvm3.2) (zE5_ap hRE115m0 (zone_3 hc0) (by omega))
    refine zw_bd (zw_mono (zk_28 n hIm3 zq_148) (fun v6 m5 hqm5 => ?_))
    obtain ⟨hIm5, hfm5, hvm5⟩ := hqm5
    have hFm5 := zfr_tr hFm3 hfm5 rfl
    obtain ⟨hRUNm5, hRUWm5, hvm5⟩ := hvm5
    have hRE115m5 := zR_E115_fr (zdis_fr hfm5 rfl) hRE115m3
    have hRE89m5 := zR_E89_fr (zdis_fr hfm5 rfl) hRE89m3
    have r7 : 0 ≤ (m5 89 8) ∧ (m5 89 8) ≤ 9999 := zi_rd hIm5 zq_89 zb_16_8
    exact zw_some ⟨hIm5, hFm5, hRE115m5, hRE89m5, hRUNm5, hRUWm5, ⟨by omega, by omega⟩⟩
  · exact zw_some ⟨hIm0, hFm0, hRE115m0, hRE89m0, hRUNm0, hRUWm0, ⟨by omega, by omega⟩⟩
set_option maxHeartbeats 4000000 in
theorem zk_81 (n : Nat) {a0 a1 : Int} {m0 : zu_m} (hIm0 : zi_I m0) (hc0 : zcls a0 = 2) (ha1 : (-2147483648) ≤ a1 ∧ a1 ≤ 2147483647)     : zw (zu_call (zt_T n) 81 [(5, a0), (0, a1)] m0) (fun v m => zi_I m ∧ zfr [] m0 m ∧ ((-2147483648) ≤ v ∧ v ≤ 2147483647)) := by
  have hFm0 : zfr [] m0 m0 := zfr_rf _ _
  refine zw_eq (zu_call_at (zt_T n) (zm_81 n) (zdp_81 n) _ _ _ _ _ rfl (zr_81_0 n _ _ a0 a1 m0)) ?_
  refine zw_ite (fun h1 => ?_) (fun h1 => ?_)
  · have r2 : 1 ≤ (m0 50 0) ∧ (m0 50 0) ≤ 8 := zi_rd hIm0 zq_50 zb_11_0
    exact zw_some ⟨hIm0, hFm0, ⟨by omega, by omega⟩⟩
  · refine zw_ite (fun h3 => ?_) (fun h3 => ?_)
    · have r4 : 1 ≤ (m0 50 1) ∧ (m0 50 1) ≤ 6 := zi_rd hIm0 zq_50 zb_11_1
      exact zw_some ⟨hIm0, hFm0, ⟨by omega, by omega⟩⟩
    · refine zw_ite (fun h5 => ?_) (fun h5 => ?_)
      · have r6 : 0 ≤ (m0 89 2) ∧ (m0 89 2) ≤ 16 := zi_rd hIm0 zq_89 zb_16_2
        exact zw_some ⟨hIm0, hFm0, ⟨by omega, by omega⟩⟩
      · refine zw_ite (fun h7 => ?_) (fun h7 => ?_)
        · have r8 : 0 ≤ (m0 89 4) ∧ (m0 89 4) ≤ 4 := zi_rd hIm0 zq_89 zb_16_4
          exact zw_some ⟨hIm0, hFm0, ⟨by omega, by omega⟩⟩
        · refine zw_ite (fun h9 => ?_) (fun h9 => ?_)
          · have r10 : 0 ≤ (m0 (50 + 4) 5) ∧ (m0 (50 + 4) 5) ≤ 64 := zi_rd hIm0 (zc_11_9 zq_50) zb_12_5
            exact zw_some ⟨hIm0, hFm0, ⟨by omega, by omega⟩⟩
          · refine zw_ite (fun h11 => ?_) (fun h11 => ?_)
            · have r12 : 0 ≤ (m0 89 8) ∧ (m0 89 8) ≤ 9999 := zi_rd hIm0 zq_89 zb_16_8
              exact zw_some ⟨hIm0, hFm0, ⟨by omega, by omega⟩⟩
            · refine zw_ite (fun h13 => ?_) (fun h13 => ?_)
              · refine zw_bd (zw_mono (zk_233 n hIm0 zq_89 ⟨by omega, by omega⟩) (fun v15 m14 hqm14 => ?_))
                obtain ⟨hIm14, hfm14, hvm14⟩ := hqm14
                have hFm14 := zfr_tr hFm0 hfm14 rfl
                exact zw_some ⟨hIm14, hFm14, ⟨by omega, by omega⟩⟩
              · refine zw_ite (fun h16 => ?_) (fun h16 => ?_)
                · refine zw_bd (zw_mono (zk_234_16 n hIm0 zq_89) (fun v18 m17 hqm17 => ?_))
                  obtain ⟨hIm17, hfm17, hvm17⟩ := hqm17
                  have hFm17 := zfr_tr hFm0 hfm17 rfl
                  exact zw_some ⟨hIm17, hFm17, ⟨by omega, by omega⟩⟩
                · refine zw_ite (fun h19 => ?_) (fun h19 => ?_)
                  · refine zw_bd (zw_mono (zk_233 n hIm0 zq_89 ⟨by omega, by omega⟩) (fun v21 m20 hqm20 => ?_))
                    obtain ⟨hIm20, hfm20, hvm20⟩ := hqm20
                    have hFm20 := zfr_tr hFm0 hfm20 rfl
                    exact zw_some ⟨hIm20, hFm20, ⟨by omega, by omega⟩⟩
                  · refine zw_ite (fun h22 => ?_) (fun h22 => ?_)
                    · refine zw_bd (zw_mono (zk_233 n hIm0 zq_89 ⟨by omega, by omega⟩) (fun v24 m23 hqm23 => ?_))
                      obtain ⟨hIm23, hfm23, hvm23⟩ := hqm23
                      have hFm23 := zfr_tr hFm0 hfm23 rfl
                      exact zw_some ⟨hIm23, hFm23, ⟨by omega, by omega⟩⟩
                    · refine zw_ite (fun h25 => ?_) (fun h25 => ?_)
                      · refine zw_bd (zw_mono (zk_235 n hIm0 zq_89) (fun v27 m26 hqm26 => ?_))
                        obtain ⟨hIm26, hfm26, hvm26⟩ := hqm26
                        have hFm26 := zfr_tr hFm0 hfm26 rfl
                        exact zw_some ⟨hIm26, hFm26, ⟨by omega, by omega⟩⟩
                      · refine zw_ite (fun h28 => ?_) (fun h28 => ?_)
                        · have r29 : 0 ≤ (m0 89 10) ∧ (m0 89 10) ≤ 3 := zi_rd hIm0 zq_89 zb_16_10
                          exact zw_some ⟨hIm0, hFm0, ⟨by omega, by omega⟩⟩
                        · refine zw_ite (fun h30 => ?_) (fun h30 => ?_)
                          · have r31 : 0 ≤ (m0 141 6) ∧ (m0 141 6) ≤ 24 := zi_rd hIm0 zq_141 zb_22_6
                            exact zw_some ⟨hIm0, hFm0, ⟨by omega, by omega⟩⟩
                          · refine zw_ite (fun h32 => ?_) (fun h32 => ?_)
                            · refine zw_bd (zw_eq (zu_call_at (zt_T n) (zm_271 n) (zdp_271 n) _ _ _ _ _ rfl (zr_271_0 n _ _ 141 m0)) ?_)
                              have r33 : (-1) ≤ (m0 141 7) ∧ (m0 141 7) ≤ 24 := zi_rd hIm0 zq_141 zb_22_7
                              refine zw_ite (fun h34 => ?_) (fun h34 => ?_)
                              · refine zw_some ?_
                                exact zw_some ⟨hIm0, hFm0, ⟨by omega, by omega⟩⟩
                              · have r35 : 0 ≤ (m0 141 6) ∧ (m0 141 6) ≤ 24 := zi_rd hIm0 zq_141 zb_22_6
                                refine zw_some ?_
                                exact zw_some ⟨hIm0, hFm0, ⟨by omega, by omega⟩⟩
                            · refine zw_ite (fun h36 => ?_) (fun h36 => ?_)
                              · have r37 : 0 ≤ (m0 148 4) ∧ (m0 148 4) ≤ 20 := zi_rd hIm0 zq_148 zb_23_4
                                exact zw_some ⟨hIm0, hFm0, ⟨by omega, by omega⟩⟩
                              · refine zw_ite (fun h38 => ?_) (fun h38 => ?_)
                                · refine zw_bd (zw_mono (zk_239_16 n hIm0 zq_89) (fun v40 m39 hqm39 => ?_))
                                  obtain ⟨hIm39, hfm39, hvm39⟩ := hqm39
                                  have hFm39 := zfr_tr hFm0 hfm39 rfl
                                  exact zw_some ⟨hIm39, hFm39, ⟨by omega, by omega⟩⟩
                                · exact zw_some ⟨hIm0, hFm0, ⟨by omega, by omega⟩⟩
set_option maxHeartbeats 4000000 in
theorem zk_116 (n : Nat) {a0 : Int} {m0 : zu_m} (hIm0 : zi_I m0) (hc0 : zcls a0 = 28)   (he0 : 1 ≤ m0 a0 49 ∧ m0 a0 49 ≤ 1) (hxp0 : (m0 a0 21) + znz m0 = (m0 a0 48)) (hxp1 : (m0 a0 45) = znz m0 + (m0 a0 47)) (hxp2 : (m0 a0 46) = zbi m0) (hxp3 : (m0 a0 49) = 1) (hRKNm0 : zR_KN m0) (hRNSm0 : zR_NS m0) (hRTRm0 : zR_TR m0) (hRWDm0 : zR_WD m0) : zw (zu_call (zt_T n) 116 [(40, a0)] m0) (fun v m => zi_I m ∧ zfr [(28, 5), (28, 6), (28, 8), (28, 9), (28, 10), (28, 11), (28, 22), (28, 46), (28, 47), (28, 48), (28, 49), (28, 50), (28, 51), (117, 0), (118, 0), (119, 0), (120, 0), (121, 0)] m0 m ∧ zR_KN m ∧ zR_NS m ∧ zR_TR m ∧ zR_WD m ∧ (0 ≤ v ∧ v ≤ 1) ∧ ((m0 a0 7) ≤ (m a0 7)) ∧ (v = 1 → ((m0 a0 8) ≠ 0 ∧ ((m a0 8) = 0 ∨ (m0 a0 7) < (m a0 7)))) ∧ (v = 1 → (m a0 21) + znz m = (m a0 48)) ∧ (v = 1 → (m a0 46) + (m a0 49) = zbi m + 1) ∧ (v = 1 → (m a0 45) = znz m + (m a0 47)) ∧ (v = 1 → ((m a0 49) = 0 → 1 ≤ (m a0 21))) ∧ (v = 1 → (m a0 4) = (m0 a0 4)) ∧ (v = 0 → (m a0 4) ≠ 0)) := by
  have hFm0 : zfr [(28, 5), (28, 6), (28, 8), (28, 9), (28, 10), (28, 11), (28, 22), (28, 46), (28, 47), (28, 48), (28, 49), (28, 50), (28, 51), (117, 0), (118, 0), (119, 0), (120, 0), (121, 0)] m0 m0 := zfr_rf _ _
  have r1 : 0 ≤ (m0 a0 7) ∧ (m0 a0 7) ≤ 700 := zi_rd hIm0 hc0 zb_28_7
  have r2 : 0 ≤ (m0 a0 8) ∧ (m0 a0 8) ≤ 6 := zi_rd hIm0 hc0 zb_28_8
  have r3 : (-2147483648) ≤ (m0 a0 4) ∧ (m0 a0 4) ≤ 2147483647 := zi_rd hIm0 hc0 zb_28_4
  have r4 : 0 ≤ (m0 a0 21) ∧ (m0 a0 21) ≤ 64 := zi_rd hIm0 hc0 zb_28_21
  have r5 : 0 ≤ (m0 a0 48) ∧ (m0 a0 48) ≤ 64 := zi_rd hIm0 hc0 zb_28_48
  have r6 : 0 ≤ (m0 a0 45) ∧ (m0 a0 45) ≤ 96 := zi_rd hIm0 hc0 zb_28_45
  have r7 : 0 ≤ (m0 a0 47) ∧ (m0 a0 47) ≤ 8 := zi_rd hIm0 hc0 zb_28_47
  have r8 : 0 ≤ (m0 a0 46) ∧ (m0 a0 46) ≤ 96 := zi_rd hIm0 hc0 zb_28_46
  have g9 := zwt_bd hIm0 hc0
  have s10 := hRNSm0 a0 hc0
  have s11 := hRTRm0 a0 hc0
  refine zw_eq (zu_call_at (zt_T n) (zm_116 n) (zdp_116 n) _ _ _ _ _ rfl (zr_116_0 n _ _ a0 m0)) ?_
  refine zw_bd (zw_eq (zu_call_at (zt_T n) (zm_93 n) (zdp_93 n) _ _ _ _ _ rfl (zr_93_0 n _ _ a0 40 m0)) ?_)
  refine zw_ite (fun h12 => ?_) (fun h12 => ?_)
  · refine zw_b (by omega) ?_
    refine zw_some ?_
    refine zw_ite (fun h13 => ?_) (fun h13 => ?_)
    · refine zw_bd (zw_eq (zu_call_at (zt_T n) (zm_92 n) (zdp_92 n) _ _ _ _ _ rfl (zr_92_0 n _ _ a0 25 m0)) ?_)
      refine zw_ite (fun h14 => ?_) (fun h14 => ?_)
      · refine zw_b (by omega) ?_
        refine zw_some ?_
        refine zw_ite (fun h15 => ?_) (fun h15 => ?_)
        · refine zw_bd (zw_eq (zu_call_at (zt_T n) (zm_115 n) (zdp_115 n) _ _ _ _ _ rfl (zr_115_0 n _ _ a0 m0)) ?_)
          refine zw_ite (fun h16 => ?_) (fun h16 => ?_)
          · refine zw_some ?_
            refine zw_ite (fun h17 => ?_) (fun h17 => ?_)
            · exfalso; omega
            · refine zw_ite (fun h18 => ?_) (fun h18 => ?_)
              · refine zw_ite (fun h19 => ?_) (fun h19 => ?_)
                · exfalso; omega
                · refine zw_ite (fun h20 => ?_) (fun h20 => ?_)
                  · refine zw_bd (zw_eq (zu_call_at (zt_T n) (zm_113 n) (zdp_113 n) _ _ _ _ _ rfl (zr_113_0 n _ _ a0 m0)) ?_)
                    refine zw_ite (fun h21 => ?_) (fun h21 => ?_)
                    · have w22 := zu_w32_id (z := (m0 a0 48) + 1) (by omega) (by omega)
                      generalize hmm23 : zu_up m0 a0 48 (zu_w32 ((m0 a0 48) + 1)) = m23
                      have hIm23 := zi_up hmm23 hIm0 hc0 zb_28_48 (by omega) (by omega)
                      have hFm23 := zfr_up hmm23 hFm0 hc0 rfl
                      have g24 := zwt_fr (zdis_fr (zfr_up hmm23 (zfr_rf [(28, 49)] _) hc0 rfl) rfl)
                      have hRKNm23 := zR_KN_fr (zdis_fr (zfr_up hmm23 (zfr_rf [(28, 49)] _) hc0 rfl) rfl) hRKNm0
                      have hRNSm23 := zR_NS_fr (zdis_fr (zfr_up hmm23 (zfr_rf [(28, 49)] _) hc0 rfl) rfl) hRNSm0
                      have hRTRm23 := zR_TR_fr (zdis_fr (zfr_up hmm23 (zfr_rf [(28, 49)] _) hc0 rfl) rfl) hRTRm0
                      have hRWDm23 := zR_WD_fr (zdis_fr (zfr_up hmm23 (zfr_rf [(28, 49)] _) hc0 rfl) rfl) hRWDm0
                      refine zw_b (by omega) ?_
                      refine zw_some ?_
                      refine zw_ite (fun h25 => ?_) (fun h25 => ?_)
                      · refine zw_ite (fun h26 => ?_) (fun h26 => ?_)
                        · refine zw_ite (fun h27 => ?_) (fun h27 => ?_)
                          · have r28 : (-2147483648) ≤ (m23 a0 9) ∧ (m23 a0 9) ≤ 2147483647 := zi_rd hIm23 hc0 zb_28_9
                            have e29 : (m23 a0 9) = (m0 a0 9) := (zs_ne hmm23 (Or.inr (by decide)))
                            have r30 : 0 ≤ (m23 a0 21) ∧ (m23 a0 21) ≤ 64 := zi_rd hIm23 hc0 zb_28_21
                            have e31 : (m23 a0 21) = (m0 a0 21) := (zs_ne hmm23 (Or.inr (by decide)))
                            have r32 : 0 ≤ (m23 a0 46) ∧ (m23 a0 46) ≤ 96 := zi_rd hIm23 hc0 zb_28_46
                            have e33 : (m23 a0 46) = (m0 a0 46) := (zs_ne hmm23 (Or.inr (by decide)))
                            refine zw_bd (zw_mono (zk_110 n hIm23 hc0 ⟨by omega, by omega⟩ ⟨by omega, by omega⟩ ⟨by omega, by omega⟩ (by omega) (by omega) (by omega) (by omega) (by omega) hRKNm23) (fun v35 m34 hqm34 => ?_))
                            obtain ⟨hIm34, hfm34, hvm34⟩ := hqm34
                            have hFm34 := zfr_tr hFm23 hfm34 rfl
                            obtain ⟨hRKNm34, hvm34⟩ := hvm34
                            have g36 := zwt_fr (zdis_fr hfm34 rfl)
                            have hRNSm34 := zR_NS_fr (zdis_fr hfm34 rfl) hRNSm23
                            have hRTRm34 := zR_TR_fr (zdis_fr hfm34 rfl) hRTRm23
                            have hRWDm34 := zR_WD_fr (zdis_fr hfm34 rfl) hRWDm23
                            have g37 := zwt_bd hIm34 hc0
                            have s38 := hRNSm34 a0 hc0
                            have s39 := hRTRm34 a0 hc0
                            refine zw_b (by omega) ?_
                            generalize hmm40 : zu_up m34 a0 49 0 = m40
                            have hIm40 := zi_up hmm40 hIm34 hc0 zb_28_49 (by omega) (by omega)
                            have hFm40 := zfr_up hmm40 hFm34 hc0 rfl
                            have g41 := zwt_fr (zdis_fr (zfr_up hmm40 (zfr_rf [(28, 50)] _) hc0 rfl) rfl)
                            have hRKNm40 := zR_KN_fr (zdis_fr (zfr_up hmm40 (zfr_rf [(28, 50)] _) hc0 rfl) rfl) hRKNm34
                            have hRNSm40 := zR_NS_fr (zdis_fr (zfr_up hmm40 (zfr_rf [(28, 50)] _) hc0 rfl) rfl) hRNSm34
                            have hRTRm40 := zR_TR_fr (zdis_fr (zfr_up hmm40 (zfr_rf [(28, 50)] _) hc0 rfl) rfl) hRTRm34
                            have hRWDm40 := zR_WD_fr (zdis_fr (zfr_up hmm40 (zfr_rf [(28, 50)] _) hc0 rfl) rfl) hRWDm34
                            have r44 : 0 ≤ (m40 a0 7) ∧ (m40 a0 7) ≤ 700 := zi_rd hIm40 hc0 zb_28_7
                            have e45 : (m40 a0 7) = (m0 a0 7) := (Eq.trans (zs_ne hmm40 (Or.inr (by decide))) (Eq.trans (zfr_ap hfm34 hc0 rfl) (zs_ne hmm23 (Or.inr (by decide)))))
                            refine zw_bd (zw_mono (zk_89 n hIm40 hc0 hRNSm40 hRWDm40) (fun v43 m42 hqm42 => ?_))
                            obtain ⟨hIm42, hfm42, hvm42⟩ := hqm42
                            have hFm42 := zfr_tr hFm40 hfm42 rfl
                            obtain ⟨hRNSm42, hRTRm42, hRWDm42, hvm42⟩ := hvm42
                            have g46 := zwt_fr (zdis_fr hfm42 rfl)
                            have hRKNm42 := zR_KN_fr (zdis_fr hfm42 rfl) hRKNm40
                            have g47 := zwt_bd hIm42 hc0
                            have s48 := hRNSm42 a0 hc0
                            have s49 := hRTRm42 a0 hc0
                            have r50 : 0 ≤ (m42 a0 7) ∧ (m42 a0 7) ≤ 700 := zi_rd hIm42 hc0 zb_28_7
                            have r51 : 0 ≤ (m42 a0 8) ∧ (m42 a0 8) ≤ 6 := zi_rd hIm42 hc0 zb_28_8
                            refine zw_b (by omega) ?_
                            have r52 : 0 ≤ (m42 a0 21) ∧ (m42 a0 21) ≤ 64 := zi_rd hIm42 hc0 zb_28_21
                            have e53 : (m42 a0 21) = (m34 a0 21) := (Eq.trans (zfr_ap hfm42 hc0 rfl) (zs_ne hmm40 (Or.inr (by decide))))
                            have r54 : 0 ≤ (m42 a0 48) ∧ (m42 a0 48) ≤ 64 := zi_rd hIm42 hc0 zb_28_48
                            have e55 : (m42 a0 48) = (zu_w32 ((m0 a0 48) + 1)) := (Eq.trans (zfr_ap hfm42 hc0 rfl) (Eq.trans (zs_ne hmm40 (Or.inr (by decide))) (Eq.trans (zfr_ap hfm34 hc0 rfl) (zs_eq hmm23))))
                            have r56 : 0 ≤ (m42 a0 46) ∧ (m42 a0 46) ≤ 96 := zi_rd hIm42 hc0 zb_28_46
                            have e57 : (m42 a0 46) = (m34 a0 46) := (Eq.trans (zfr_ap hfm42 hc0 rfl) (zs_ne hmm40 (Or.inr (by decide))))
                            have r58 : 0 ≤ (m42 a0 49) ∧ (m42 a0 49) ≤ 1 := zi_rd hIm42 hc0 zb_28_49
                            have e59 : (m42 a0 49) = 0 := (Eq.trans (zfr_ap hfm42 hc0 rfl) (zs_eq hmm40))
                            have r60 : 0 ≤ (m42 a0 45) ∧ (m42 a0 45) ≤ 96 := zi_rd hIm42 hc0 zb_28_45
                            have e61 : (m42 a0 45) = (m0 a0 45) := (Eq.trans (zfr_ap hfm42 hc0 rfl) (Eq.trans (zs_ne hmm40 (Or.inr (by decide))) (Eq.trans (zfr_ap hfm34 hc0 rfl) (zs_ne hmm23 (Or.inr (by decide))))))
                            have r62 : 0 ≤ (m42 a0 47) ∧ (m42 a0 47) ≤ 8 := zi_rd hIm42 hc0 zb_28_47
                            have e63 : (m42 a0 47) = (m0 a0 47) := (Eq.trans (zfr_ap hfm42 hc0 rfl) (Eq.trans (zs_ne hmm40 (Or.inr (by decide))) (Eq.trans (zfr_ap hfm34 hc0 rfl) (zs_ne hmm23 (Or.inr (by decide))))))
                            have r64 : (-2147483648) ≤ (m42 a0 4) ∧ (m42 a0 4) ≤ 2147483647 := zi_rd hIm42 hc0 zb_28_4
                            have e65 : (m42 a0 4) = (m0 a0 4) := (Eq.trans (zfr_ap hfm42 hc0 rfl) (Eq.trans (zs_ne hmm40 (Or.inr (by decide))) (Eq.trans (zfr_ap hfm34 hc0 rfl) (zs_ne hmm23 (Or.inr (by decide))))))
                            exact zw_some ⟨hIm42, hFm42, hRKNm42, hRNSm42, hRTRm42, hRWDm42, ⟨by omega, by omega⟩, by omega, by omega, by omega, by omega, by omega, by omega, by omega, by omega⟩
                          · exfalso; omega
                        · exfalso; omega
                      · exfalso; omega
                    · refine zw_bd (zw_eq (zu_call_at (zt_T n) (zm_85 n) (zdp_85 n) _ _ _ _ _ rfl (zr_85_0 n _ _ a0 2 m0)) ?_)
                      generalize hmm66 : zu_up m0 a0 4 2 = m66
                      have hIm66 := zi_up hmm66 hIm0 hc0 zb_28_4 (by omega) (by omega)
                      have hFm66 := zfr_up hmm66 hFm0 hc0 rfl
                      have g67 := zwt_fr (zdis_fr (zfr_up hmm66 (zfr_rf [(28, 5)] _) hc0 rfl) rfl)
                      have hRKNm66 := zR_KN_fr (zdis_fr (zfr_up hmm66 (zfr_rf [(28, 5)] _) hc0 rfl) rfl) hRKNm0
                      have hRNSm66 := zR_NS_fr (zdis_fr (zfr_up hmm66 (zfr_rf [(28, 5)] _) hc0 rfl) rfl) hRNSm0
                      have hRTRm66 := zR_TR_fr (zdis_fr (zfr_up hmm66 (zfr_rf [(28, 5)] _) hc0 rfl) rfl) hRTRm0
                      have hRWDm66 := zR_WD_fr (zdis_fr (zfr_up hmm66 (zfr_rf [(28, 5)] _) hc0 rfl) rfl) hRWDm0
                      have hRLRm66 := zLR_wr (zone_190 hc0) hmm66 (by decide)
                      have r68 : 0 ≤ (m66 a0 10) ∧ (m66 a0 10) ≤ 700 := zi_rd hIm66 hc0 zb_28_10
                      generalize hmm69 : zu_up m66 a0 5 (m66 a0 10) = m69
                      have hIm69 := zi_up hmm69 hIm66 hc0 zb_28_5 (by omega) (by omega)
                      have hFm69 := zfr_up hmm69 hFm66 hc0 rfl
                      have g70 := zwt_fr (zdis_fr (zfr_up hmm69 (zfr_rf [(28, 6)] _) hc0 rfl) rfl)
                      have hRKNm69 := zR_KN_fr (zdis_fr (zfr_up hmm69 (zfr_rf [(28, 6)] _) hc0 rfl) rfl) hRKNm66
                      have hRLRm69 := zR_LR_fr (zdis_fr (zfr_up hmm69 (zfr_rf [(28, 6)] _) hc0 rfl) rfl) hRLRm66
                      have hRNSm69 := zR_NS_fr (zdis_fr (zfr_up hmm69 (zfr_rf [(28, 6)] _) hc0 rfl) rfl) hRNSm66
                      have hRTRm69 := zR_TR_fr (zdis_fr (zfr_up hmm69 (zfr_rf [(28, 6)] _) hc0 rfl) rfl) hRTRm66
                      have hRWDm69 := zR_WD_fr (zdis_fr (zfr_up hmm69 (zfr_rf [(28, 6)] _) hc0 rfl) rfl) hRWDm66
                      refine zw_b (by omega) ?_
                      refine zw_some ?_
                      refine zw_b (by omega) ?_
                      refine zw_some ?_
                      refine zw_ite (fun h71 => ?_) (fun h71 => ?_)
                      · exfalso; omega
                      · refine zw_b (by omega) ?_
                        have r72 : 0 ≤ (m69 a0 7) ∧ (m69 a0 7) ≤ 700 := zi_rd hIm69 hc0 zb_28_7
                        have e73 : (m69 a0 7) = (m0 a0 7) := (Eq.trans (zs_ne hmm69 (Or.inr (by decide))) (zs_ne hmm66 (Or.inr (by decide))))
                        have r74 : 0 ≤ (m69 a0 8) ∧ (m69 a0 8) ≤ 6 := zi_rd hIm69 hc0 zb_28_8
                        have e75 : (m69 a0 8) = (m0 a0 8) := (Eq.trans (zs_ne hmm69 (Or.inr (by decide))) (zs_ne hmm66 (Or.inr (by decide))))
                        have r76 : 0 ≤ (m69 a0 21) ∧ (m69 a0 21) ≤ 64 := zi_rd hIm69 hc0 zb_28_21
                        have e77 : (m69 a0 21) = (m0 a0 21) := (Eq.trans (zs_ne hmm69 (Or.inr (by decide))) (zs_ne hmm66 (Or.inr (by decide))))
                        have r78 : 0 ≤ (m69 a0 48) ∧ (m69 a0 48) ≤ 64 := zi_rd hIm69 hc0 zb_28_48
                        have e79 : (m69 a0 48) = (m0 a0 48) := (Eq.trans (zs_ne hmm69 (Or.inr (by decide))) (zs_ne hmm66 (Or.inr (by decide))))
                        have r80 : 0 ≤ (m69 a0 46) ∧ (m69 a0 46) ≤ 96 := zi_rd hIm69 hc0 zb_28_46
                        have e81 : (m69 a0 46) = (m0 a0 46) := (Eq.trans (zs_ne hmm69 (Or.inr (by decide))) (zs_ne hmm66 (Or.inr (by decide))))
                        have r82 : 0 ≤ (m69 a0 49) ∧ (m69 a0 49) ≤ 1 := zi_rd hIm69 hc0 zb_28_49
                        have e83 : (m69 a0 49) = (m0 a0 49) := (Eq.trans (zs_ne hmm69 (Or.inr (by decide))) (zs_ne hmm66 (Or.inr (by decide))))
                        have r84 : 0 ≤ (m69 a0 45) ∧ (m69 a0 45) ≤ 96 := zi_rd hIm69 hc0 zb_28_45
                        have e85 : (m69 a0 45) = (m0 a0 45) := (Eq.trans (zs_ne hmm69 (Or.inr (by decide))) (zs_ne hmm66 (Or.inr (by decide))))
                        have r86 : 0 ≤ (m69 a0 47) ∧ (m69 a0 47) ≤ 8 := zi_rd hIm69 hc0 zb_28_47
                        have e87 : (m69 a0 47) = (m0 a0 47) := (Eq.trans (zs_ne hmm69 (Or.inr (by decide))) (zs_ne hmm66 (Or.inr (by decide))))
                        have r88 : (-2147483648) ≤ (m69 a0 4) ∧ (m69 a0 4) ≤ 2147483647 := zi_rd hIm69 hc0 zb_28_4
                        have e89 : (m69 a0 4) = 2 := (Eq.trans (zs_ne hmm69 (Or.inr (by decide))) (zs_eq hmm66))
                        exact zw_some ⟨hIm69, hFm69, hRKNm69, hRNSm69, hRTRm69, hRWDm69, ⟨by omega, by omega⟩, by omega, by omega, by omega, by omega, by omega, by omega, by omega, by omega⟩
                  · refine zw_bd (zw_eq (zu_call_at (zt_T n) (zm_85 n) (zdp_85 n) _ _ _ _ _ rfl (zr_85_0 n _ _ a0 2 m0)) ?_)
                    generalize hmm90 : zu_up m0 a0 4 2 = m90
                    have hIm90 := zi_up hmm90 hIm0 hc0 zb_28_4 (by omega) (by omega)
                    have hFm90 := zfr_up hmm90 hFm0 hc0 rfl
                    have g91 := zwt_fr (zdis_fr (zfr_up hmm90 (zfr_rf [(28, 5)] _) hc0 rfl) rfl)
                    have hRKNm90 := zR_KN_fr (zdis_fr (zfr_up hmm90 (zfr_rf [(28, 5)] _) hc0 rfl) rfl) hRKNm0
                    have hRNSm90 := zR_NS_fr (zdis_fr (zfr_up hmm90 (zfr_rf [(28, 5)] _) hc0 rfl) rfl) hRNSm0
                    have hRTRm90 := zR_TR_fr (zdis_fr (zfr_up hmm90 (zfr_rf [(28, 5)] _) hc0 rfl) rfl) hRTRm0
                    have hRWDm90 := zR_WD_fr (zdis_fr (zfr_up hmm90 (zfr_rf [(28, 5)] _) hc0 rfl) rfl) hRWDm0
                    have hRLRm90 := zLR_wr (zone_190 hc0) hmm90 (by decide)
                    have r92 : 0 ≤ (m90 a0 10) ∧ (m90 a0 10) ≤ 700 := zi_rd hIm90 hc0 zb_28_10
                    generalize hmm93 : zu_up m90 a0 5 (m90 a0 10) = m93
                    have hIm93 := zi_up hmm93 hIm90 hc0 zb_28_5 (by omega) (by omega)
                    have hFm93 := zfr_up hmm93 hFm90 hc0 rfl
                    have g94 := zwt_fr (zdis_fr (zfr_up hmm93 (zfr_rf [(28, 6)] _) hc0 rfl) rfl)
                    have hRKNm93 := zR_KN_fr (zdis_fr (zfr_up hmm93 (zfr_rf [(28, 6)] _) hc0 rfl) rfl) hRKNm90
                    have hRLRm93 := zR_LR_fr (zdis_fr (zfr_up hmm93 (zfr_rf [(28, 6)] _) hc0 rfl) rfl) hRLRm90
                    have hRNSm93 := zR_NS_fr (zdis_fr (zfr_up hmm93 (zfr_rf [(28, 6)] _) hc0 rfl) rfl) hRNSm90
                    have hRTRm93 := zR_TR_fr (zdis_fr (zfr_up hmm93 (zfr_rf [(28, 6)] _) hc0 rfl) rfl) hRTRm90
                    have hRWDm93 := zR_WD_fr (zdis_fr (zfr_up hmm93 (zfr_rf [(28, 6)] _) hc0 rfl) rfl) hRWDm90
                    refine zw_b (by omega) ?_
                    refine zw_some ?_
                    refine zw_b (by omega) ?_
                    have r95 : 0 ≤ (m93 a0 7) ∧ (m93 a0 7) ≤ 700 := zi_rd hIm93 hc0 zb_28_7
                    have e96 : (m93 a0 7) = (m0 a0 7) := (Eq.trans (zs_ne hmm93 (Or.inr (by decide))) (zs_ne hmm90 (Or.inr (by decide))))
                    have r97 : 0 ≤ (m93 a0 8) ∧ (m93 a0 8) ≤ 6 := zi_rd hIm93 hc0 zb_28_8
                    have e98 : (m93 a0 8) = (m0 a0 8) := (Eq.trans (zs_ne hmm93 (Or.inr (by decide))) (zs_ne hmm90 (Or.inr (by decide))))
                    have r99 : 0 ≤ (m93 a0 21) ∧ (m93 a0 21) ≤ 64 := zi_rd hIm93 hc0 zb_28_21
                    have e100 : (m93 a0 21) = (m0 a0 21) := (Eq.trans (zs_ne hmm93 (Or.inr (by decide))) (zs_ne hmm90 (Or.inr (by decide))))
                    have r101 : 0 ≤ (m93 a0 48) ∧ (m93 a0 48) ≤ 64 := zi_rd hIm93 hc0 zb_28_48
                    have e102 : (m93 a0 48) = (m0 a0 48) := (Eq.trans (zs_ne hmm93 (Or.inr (by decide))) (zs_ne hmm90 (Or.inr (by decide))))
                    have r103 : 0 ≤ (m93 a0 46) ∧ (m93 a0 46) ≤ 96 := zi_rd hIm93 hc0 zb_28_46
                    have e104 : (m93 a0 46) = (m0 a0 46) := (Eq.trans (zs_ne hmm93 (Or.inr (by decide))) (zs_ne hmm90 (Or.inr (by decide))))
                    have r105 : 0 ≤ (m93 a0 49) ∧ (m93 a0 49) ≤ 1 := zi_rd hIm93 hc0 zb_28_49
                    have e106 : (m93 a0 49) = (m0 a0 49) := (Eq.trans (zs_ne hmm93 (Or.inr (by decide))) (zs_ne hmm90 (Or.inr (by decide))))
                    have r107 : 0 ≤ (m93 a0 45) ∧ (m93 a0 45) ≤ 96 := zi_rd hIm93 hc0 zb_28_45
                    have e108 : (m93 a0 45) = (m0 a0 45) := (Eq.trans (zs_ne hmm93 (Or.inr (by decide))) (zs_ne hmm90 (Or.inr (by decide))))
                    have r109 : 0 ≤ (m93 a0 47) ∧ (m93 a0 47) ≤ 8 := zi_rd hIm93 hc0 zb_28_47
                    have e110 : (m93 a0 47) = (m0 a0 47) := (Eq.trans (zs_ne hmm93 (Or.inr (by decide))) (zs_ne hmm90 (Or.inr (by decide))))
                    have r111 : (-2147483648) ≤ (m93 a0 4) ∧ (m93 a0 4) ≤ 2147483647 := zi_rd hIm93 hc0 zb_28_4
                    have e112 : (m93 a0 4) = 2 := (Eq.trans (zs_ne hmm93 (Or.inr (by decide))) (zs_eq hmm90))
                    exact zw_some ⟨hIm93, hFm93, hRKNm93, hRNSm93, hRTRm93, hRWDm93, ⟨by omega, by omega⟩, by omega, by omega, by omega, by omega, by omega, by omega, by omega, by omega⟩
              · refine zw_bd (zw_eq (zu_call_at (zt_T n) (zm_85 n) (zdp_85 n) _ _ _ _ _ rfl (zr_85_0 n _ _ a0 1 m0)) ?_)
                generalize hmm113 : zu_up m0 a0 4 1 = m113
                have hIm113 := zi_up hmm113 hIm0 hc0 zb_28_4 (by omega) (by omega)
                have hFm113 := zfr_up hmm113 hFm0 hc0 rfl
                have g114 := zwt_fr (zdis_fr (zfr_up hmm113 (zfr_rf [(28, 5)] _) hc0 rfl) rfl)
                have hRKNm113 := zR_KN_fr (zdis_fr (zfr_up hmm113 (zfr_rf [(28, 5)] _) hc0 rfl) rfl) hRKNm0
                have hRNSm113 := zR_NS_fr (zdis_fr (zfr_up hmm113 (zfr_rf [(28, 5)] _) hc0 rfl) rfl) hRNSm0
                have hRTRm113 := zR_TR_fr (zdis_fr (zfr_up hmm113 (zfr_rf [(28, 5)] _) hc0 rfl) rfl) hRTRm0
                have hRWDm113 := zR_WD_fr (zdis_fr (zfr_up hmm113 (zfr_rf [(28, 5)] _) hc0 rfl) rfl) hRWDm0
                have hRLRm113 := zLR_wr (zone_190 hc0) hmm113 (by decide)
                have r115 : 0 ≤ (m113 a0 10) ∧ (m113 a0 10) ≤ 700 := zi_rd hIm113 hc0 zb_28_10
                generalize hmm116 : zu_up m113 a0 5 (m113 a0 10) = m116
                have hIm116 := zi_up hmm116 hIm113 hc0 zb_28_5 (by omega) (by omega)
                have hFm116 := zfr_up hmm116 hFm113 hc0 rfl
                have g117 := zwt_fr (zdis_fr (zfr_up hmm116 (zfr_rf [(28, 6)] _) hc0 rfl) rfl)
                have hRKNm116 := zR_KN_fr (zdis_fr (zfr_up hmm116 (zfr_rf [(28, 6)] _) hc0 rfl) rfl) hRKNm113
                have hRLRm116 := zR_LR_fr (zdis_fr (zfr_up hmm116 (zfr_rf [(28, 6)] _) hc0 rfl) rfl) hRLRm113
                have hRNSm116 := zR_NS_fr (zdis_fr (zfr_up hmm116 (zfr_rf [(28, 6)] _) hc0 rfl) rfl) hRNSm113
                have hRTRm116 := zR_TR_fr (zdis_fr (zfr_up hmm116 (zfr_rf [(28, 6)] _) hc0 rfl) rfl) hRTRm113
                have hRWDm116 := zR_WD_fr (zdis_fr (zfr_up hmm116 (zfr_rf [(28, 6)] _) hc0 rfl) rfl) hRWDm113
                refine zw_b (by omega) ?_
                refine zw_some ?_
                refine zw_b (by omega) ?_
                have r118 : 0 ≤ (m116 a0 7) ∧ (m116 a0 7) ≤ 700 := zi_rd hIm116 hc0 zb_28_7
                have e119 : (m116 a0 7) = (m0 a0 7) := (Eq.trans (zs_ne hmm116 (Or.inr (by decide))) (zs_ne hmm113 (Or.inr (by decide))))
                have r120 : 0 ≤ (m116 a0 8) ∧ (m116 a0 8) ≤ 6 := zi_rd hIm116 hc0 zb_28_8
                have e121 : (m116 a0 8) = (m0 a0 8) := (Eq.trans (zs_ne hmm116 (Or.inr (by decide))) (zs_ne hmm113 (Or.inr (by decide))))
                have r122 : 0 ≤ (m116 a0 21) ∧ (m116 a0 21) ≤ 64 := zi_rd hIm116 hc0 zb_28_21
                have e123 : (m116 a0 21) = (m0 a0 21) := (Eq.trans (zs_ne hmm116 (Or.inr (by decide))) (zs_ne hmm113 (Or.inr (by decide))))
                have r124 : 0 ≤ (m116 a0 48) ∧ (m116 a0 48) ≤ 64 := zi_rd hIm116 hc0 zb_28_48
                have e125 : (m116 a0 48) = (m0 a0 48) := (Eq.trans (zs_ne hmm116 (Or.inr (by decide))) (zs_ne hmm113 (Or.inr (by decide))))
                have r126 : 0 ≤ (m116 a0 46) ∧ (m116 a0 46) ≤ 96 := zi_rd hIm116 hc0 zb_28_46
                have e127 : (m116 a0 46) = (m0 a0 46) := (Eq.trans (zs_ne hmm116 (Or.inr (by decide))) (zs_ne hmm113 (Or.inr (by decide))))
                have r128 : 0 ≤ (m116 a0 49) ∧ (m116 a0 49) ≤ 1 := zi_rd hIm116 hc0 zb_28_49
                have e129 : (m116 a0 49) = (m0 a0 49) := (Eq.trans (zs_ne hmm116 (Or.inr (by decide))) (zs_ne hmm113 (Or.inr (by decide))))
                have r130 : 0 ≤ (m116 a0 45) ∧ (m116 a0 45) ≤ 96 := zi_rd hIm116 hc0 zb_28_45
                have e131 : (m116 a0 45) = (m0 a0 45) := (Eq.trans (zs_ne hmm116 (Or.inr (by decide))) (zs_ne hmm113 (Or.inr (by decide))))
                have r132 : 0 ≤ (m116 a0 47) ∧ (m116 a0 47) ≤ 8 := zi_rd hIm116 hc0 zb_28_47
                have e133 : (m116 a0 47) = (m0 a0 47) := (Eq.trans (zs_ne hmm116 (Or.inr (by decide))) (zs_ne hmm113 (Or.inr (by decide))))
                have r134 : (-2147483648) ≤ (m116 a0 4) ∧ (m116 a0 4) ≤ 2147483647 := zi_rd hIm116 hc0 zb_28_4
                have e135 : (m116 a0 4) = 1 := (Eq.trans (zs_ne hmm116 (Or.inr (by decide))) (zs_eq hmm113))
                exact zw_some ⟨hIm116, hFm116, hRKNm116, hRNSm116, hRTRm116, hRWDm116, ⟨by omega, by omega⟩, by omega, by omega, by omega, by omega, by omega, by omega, by omega, by omega⟩
          · exfalso; omega
        · exfalso; omega
      · refine zw_ite (fun h136 => ?_) (fun h136 => ?_)
        · refine zw_b (by omega) ?_
          refine zw_some ?_
          refine zw_ite (fun h137 => ?_) (fun h137 => ?_)
          · refine zw_bd (zw_eq (zu_call_at (zt_T n) (zm_115 n) (zdp_115 n) _ _ _ _ _ rfl (zr_115_0 n _ _ a0 m0)) ?_)
            refine zw_ite (fun h138 => ?_) (fun h138 => ?_)
            · exfalso; omega
            · refine zw_ite (fun h139 => ?_) (fun h139 => ?_)
              · refine zw_some ?_
                refine zw_ite (fun h140 => ?_) (fun h140 => ?_)
                · exfalso; omega
                · refine zw_ite (fun h141 => ?_) (fun h141 => ?_)
                  · exfalso; omega
                  · refine zw_bd (zw_eq (zu_call_at (zt_T n) (zm_85 n) (zdp_85 n) _ _ _ _ _ rfl (zr_85_0 n _ _ a0 1 m0)) ?_)
                    generalize hmm142 : zu_up m0 a0 4 1 = m142
                    have hIm142 := zi_up hmm142 hIm0 hc0 zb_28_4 (by omega) (by omega)
                    have hFm142 := zfr_up hmm142 hFm0 hc0 rfl
                    have g143 := zwt_fr (zdis_fr (zfr_up hmm142 (zfr_rf [(28, 5)] _) hc0 rfl) rfl)
                    have hRKNm142 := zR_KN_fr (zdis_fr (zfr_up hmm142 (zfr_rf [(28, 5)] _) hc0 rfl) rfl) hRKNm0
                    have hRNSm142 := zR_NS_fr (zdis_fr (zfr_up hmm142 (zfr_rf [(28, 5)] _) hc0 rfl) rfl) hRNSm0
                    have hRTRm142 := zR_TR_fr (zdis_fr (zfr_up hmm142 (zfr_rf [(28, 5)] _) hc0 rfl) rfl) hRTRm0
                    have hRWDm142 := zR_WD_fr (zdis_fr (zfr_up hmm142 (zfr_rf [(28, 5)] _) hc0 rfl) rfl) hRWDm0
                    have hRLRm142 := zLR_wr (zone_190 hc0) hmm142 (by decide)
                    have r144 : 0 ≤ (m142 a0 10) ∧ (m142 a0 10) ≤ 700 := zi_rd hIm142 hc0 zb_28_10
                    generalize hmm145 : zu_up m142 a0 5 (m142 a0 10) = m145
                    have hIm145 := zi_up hmm145 hIm142 hc0 zb_28_5 (by omega) (by omega)
                    have hFm145 := zfr_up hmm145 hFm142 hc0 rfl
                    have g146 := zwt_fr (zdis_fr (zfr_up hmm145 (zfr_rf [(28, 6)] _) hc0 rfl) rfl)
                    have hRKNm145 := zR_KN_fr (zdis_fr (zfr_up hmm145 (zfr_rf [(28, 6)] _) hc0 rfl) rfl) hRKNm142
                    have hRLRm145 := zR_LR_fr (zdis_fr (zfr_up hmm145 (zfr_rf [(28, 6)] _) hc0 rfl) rfl) hRLRm142
                    have hRNSm145 := zR_NS_fr (zdis_fr (zfr_up hmm145 (zfr_rf [(28, 6)] _) hc0 rfl) rfl) hRNSm142
                    have hRTRm145 := zR_TR_fr (zdis_fr (zfr_up hmm145 (zfr_rf [(28, 6)] _) hc0 rfl) rfl) hRTRm142
                    have hRWDm145 := zR_WD_fr (zdis_fr (zfr_up hmm145 (zfr_rf [(28, 6)] _) hc0 rfl) rfl) hRWDm142
                    refine zw_b (by omega) ?_
                    refine zw_some ?_
                    refine zw_b (by omega) ?_
                    have r147 : 0 ≤ (m145 a0 7) ∧ (m145 a0 7) ≤ 700 := zi_rd hIm145 hc0 zb_28_7
                    have e148 : (m145 a0 7) = (m0 a0 7) := (Eq.trans (zs_ne hmm145 (Or.inr (by decide))) (zs_ne hmm142 (Or.inr (by decide))))
                    have r149 : 0 ≤ (m145 a0 8) ∧ (m145 a0 8) ≤ 6 := zi_rd hIm145 hc0 zb_28_8
                    have e150 : (m145 a0 8) = (m0 a0 8) := (Eq.trans (zs_ne hmm145 (Or.inr (by decide))) (zs_ne hmm142 (Or.inr (by decide))))
                    have r151 : 0 ≤ (m145 a0 21) ∧ (m145 a0 21) ≤ 64 := zi_rd hIm145 hc0 zb_28_21
                    have e152 : (m145 a0 21) = (m0 a0 21) := (Eq.trans (zs_ne hmm145 (Or.inr (by decide))) (zs_ne hmm142 (Or.inr (by decide))))
                    have r153 : 0 ≤ (m145 a0 48) ∧ (m145 a0 48) ≤ 64 := zi_rd hIm145 hc0 zb_28_48
                    have e154 : (m145 a0 48) = (m0 a0 48) := (Eq.trans (zs_ne hmm145 (Or.inr (by decide))) (zs_ne hmm142 (Or.inr (by decide))))
                    have r155 : 0 ≤ (m145 a0 46) ∧ (m145 a0 46) ≤ 96 := zi_rd hIm145 hc0 zb_28_46
                    have e156 : (m145 a0 46) = (m0 a0 46) := (Eq.trans (zs_ne hmm145 (Or.inr (by decide))) (zs_ne hmm142 (Or.inr (by decide))))
                    have r157 : 0 ≤ (m145 a0 49) ∧ (m145 a0 49) ≤ 1 := zi_rd hIm145 hc0 zb_28_49
                    have e158 : (m145 a0 49) = (m0 a0 49) := (Eq.trans (zs_ne hmm145 (Or.inr (by decide))) (zs_ne hmm142 (Or.inr (by decide))))
                    have r159 : 0 ≤ (m145 a0 45) ∧ (m145 a0 45) ≤ 96 := zi_rd hIm145 hc0 zb_28_45
                    have e160 : (m145 a0 45) = (m0 a0 45) := (Eq.trans (zs_ne hmm145 (Or.inr (by decide))) (zs_ne hmm142 (Or.inr (by decide))))
                    have r161 : 0 ≤ (m145 a0 47) ∧ (m145 a0 47) ≤ 8 := zi_rd hIm145 hc0 zb_28_47
                    have e162 : (m145 a0 47) = (m0 a0 47) := (Eq.trans (zs_ne hmm145 (Or.inr (by decide))) (zs_ne hmm142 (Or.inr (by decide))))
                    have r163 : (-2147483648) ≤ (m145 a0 4) ∧ (m145 a0 4) ≤ 2147483647 := zi_rd hIm145 hc0 zb_28_4
                    have e164 : (m145 a0 4) = 1 := (Eq.trans (zs_ne hmm145 (Or.inr (by decide))) (zs_eq hmm142))
                    exact zw_some ⟨hIm145, hFm145, hRKNm145, hRNSm145, hRTRm145, hRWDm145, ⟨by omega, by omega⟩, by omega, by omega, by omega, by omega, by omega, by omega, by omega, by omega⟩
              · have w165 := zu_w32_id (z := (m0 a0 9) - 26) (by omega) (by omega)
                refine zw_some ?_
                refine zw_ite (fun h166 => ?_) (fun h166 => ?_)
                · refine zw_ite (fun h167 => ?_) (fun h167 => ?_)
                  · refine zw_bd (zw_eq (zu_call_at (zt_T n) (zm_113 n) (zdp_113 n) _ _ _ _ _ rfl (zr_113_0 n _ _ a0 m0)) ?_)
                    refine zw_ite (fun h168 => ?_) (fun h168 => ?_)
                    · have w169 := zu_w32_id (z := (m0 a0 48) + 1) (by omega) (by omega)
                      generalize hmm170 : zu_up m0 a0 48 (zu_w32 ((m0 a0 48) + 1)) = m170
                      have hIm170 := zi_up hmm170 hIm0 hc0 zb_28_48 (by omega) (by omega)
                      have hFm170 := zfr_up hmm170 hFm0 hc0 rfl
                      have g171 := zwt_fr (zdis_fr (zfr_up hmm170 (zfr_rf [(28, 49)] _) hc0 rfl) rfl)
                      have hRKNm170 := zR_KN_fr (zdis_fr (zfr_up hmm170 (zfr_rf [(28, 49)] _) hc0 rfl) rfl) hRKNm0
                      have hRNSm170 := zR_NS_fr (zdis_fr (zfr_up hmm170 (zfr_rf [(28, 49)] _) hc0 rfl) rfl) hRNSm0
                      have hRTRm170 := zR_TR_fr (zdis_fr (zfr_up hmm170 (zfr_rf [(28, 49)] _) hc0 rfl) rfl) hRTRm0
                      have hRWDm170 := zR_WD_fr (zdis_fr (zfr_up hmm170 (zfr_rf [(28, 49)] _) hc0 rfl) rfl) hRWDm0
                      refine zw_b (by omega) ?_
                      refine zw_some ?_
                      refine zw_ite (fun h172 => ?_) (fun h172 => ?_)
                      · refine zw_ite (fun h173 => ?_) (fun h173 => ?_)
                        · exfalso; omega
                        · refine zw_ite (fun h174 => ?_) (fun h174 => ?_)
                          · exfalso; omega
                          · have r175 : 0 ≤ (m170 a0 21) ∧ (m170 a0 21) ≤ 64 := zi_rd hIm170 hc0 zb_28_21
                            have e176 : (m170 a0 21) = (m0 a0 21) := (zs_ne hmm170 (Or.inr (by decide)))
                            have r177 : 0 ≤ (m170 a0 46) ∧ (m170 a0 46) ≤ 96 := zi_rd hIm170 hc0 zb_28_46
                            have e178 : (m170 a0 46) = (m0 a0 46) := (zs_ne hmm170 (Or.inr (by decide)))
                            refine zw_bd (zw_mono (zk_110 n hIm170 hc0 ⟨by omega, by omega⟩ ⟨by omega, by omega⟩ ⟨by omega, by omega⟩ (by omega) (by omega) (by omega) (by omega) (by omega) hRKNm170) (fun v180 m179 hqm179 => ?_))
                            obtain ⟨hIm179, hfm179, hvm179⟩ := hqm179
                            have hFm179 := zfr_tr hFm170 hfm179 rfl
                            obtain ⟨hRKNm179, hvm179⟩ := hvm179
                            have g181 := zwt_fr (zdis_fr hfm179 rfl)
                            have hRNSm179 := zR_NS_fr (zdis_fr hfm179 rfl) hRNSm170
                            have hRTRm179 := zR_TR_fr (zdis_fr hfm179 rfl) hRTRm170
                            have hRWDm179 := zR_WD_fr (zdis_fr hfm179 rfl) hRWDm170
                            have g182 := zwt_bd hIm179 hc0
                            have s183 := hRNSm179 a0 hc0
                            have s184 := hRTRm179 a0 hc0
                            refine zw_b (by omega) ?_
                            generalize hmm185 : zu_up m179 a0 49 0 = m185
                            have hIm185 := zi_up hmm185 hIm179 hc0 zb_28_49 (by omega) (by omega)
                            have hFm185 := zfr_up hmm185 hFm179 hc0 rfl
                            have g186 := zwt_fr (zdis_fr (zfr_up hmm185 (zfr_rf [(28, 50)] _) hc0 rfl) rfl)
                            have hRKNm185 := zR_KN_fr (zdis_fr (zfr_up hmm185 (zfr_rf [(28, 50)] _) hc0 rfl) rfl) hRKNm179
                            have hRNSm185 := zR_NS_fr (zdis_fr (zfr_up hmm185 (zfr_rf [(28, 50)] _) hc0 rfl) rfl) hRNSm179
                            have hRTRm185 := zR_TR_fr (zdis_fr (zfr_up hmm185 (zfr_rf [(28, 50)] _) hc0 rfl) rfl) hRTRm179
                            have hRWDm185 := zR_WD_fr (zdis_fr (zfr_up hmm185 (zfr_rf [(28, 50)] _) hc0 rfl) rfl) hRWDm179
                            have r189 : 0 ≤ (m185 a0 7) ∧ (m185 a0 7) ≤ 700 := zi_rd hIm185 hc0 zb_28_7
                            have e190 : (m185 a0 7) = (m0 a0 7) := (Eq.trans (zs_ne hmm185 (Or.inr (by decide))) (Eq.trans (zfr_ap hfm179 hc0 rfl) (zs_ne hmm170 (Or.inr (by decide)))))
                            refine zw_bd (zw_mono (zk_89 n hIm185 hc0 hRNSm185 hRWDm185) (fun v188 m187 hqm187 => ?_))
                            obtain ⟨hIm187, hfm187, hvm187⟩ := hqm187
                            have hFm187 := zfr_tr hFm185 hfm187 rfl
                            obtain ⟨hRNSm187, hRTRm187, hRWDm187, hvm187⟩ := hvm187
                            have g191 := zwt_fr (zdis_fr hfm187 rfl)
                            have hRKNm187 := zR_KN_fr (zdis_fr hfm187 rfl) hRKNm185
                            have g192 := zwt_bd hIm187 hc0
                            have s193 := hRNSm187 a0 hc0
                            have s194 := hRTRm187 a0 hc0
                            have r195 : 0 ≤ (m187 a0 7) ∧ (m187 a0 7) ≤ 700 := zi_rd hIm187 hc0 zb_28_7
                            have r196 : 0 ≤ (m187 a0 8) ∧ (m187 a0 8) ≤ 6 := zi_rd hIm187 hc0 zb_28_8
                            refine zw_b (by omega) ?_
                            have r197 : 0 ≤ (m187 a0 21) ∧ (m187 a0 21) ≤ 64 := zi_rd hIm187 hc0 zb_28_21
                            have e198 : (m187 a0 21) = (m179 a0 21) := (Eq.trans (zfr_ap hfm187 hc0 rfl) (zs_ne hmm185 (Or.inr (by decide))))
                            have r199 : 0 ≤ (m187 a0 48) ∧ (m187 a0 48) ≤ 64 := zi_rd hIm187 hc0 zb_28_48
                            have e200 : (m187 a0 48) = (zu_w32 ((m0 a0 48) + 1)) := (Eq.trans (zfr_ap hfm187 hc0 rfl) (Eq.trans (zs_ne hmm185 (Or.inr (by decide))) (Eq.trans (zfr_ap hfm179 hc0 rfl) (zs_eq hmm170))))
                            have r201 : 0 ≤ (m187 a0 46) ∧ (m187 a0 46) ≤ 96 := zi_rd hIm187 hc0 zb_28_46
                            have e202 : (m187 a0 46) = (m179 a0 46) := (Eq.trans (zfr_ap hfm187 hc0 rfl) (zs_ne hmm185 (Or.inr (by decide))))
                            have r203 : 0 ≤ (m187 a0 49) ∧ (m187 a0 49) ≤ 1 := zi_rd hIm187 hc0 zb_28_49
                            have e204 : (m187 a0 49) = 0 := (Eq.trans (zfr_ap hfm187 hc0 rfl) (zs_eq hmm185))
                            have r205 : 0 ≤ (m187 a0 45) ∧ (m187 a0 45) ≤ 96 := zi_rd hIm187 hc0 zb_28_45
                            have e206 : (m187 a0 45) = (m0 a0 45) := (Eq.trans (zfr_ap hfm187 hc0 rfl) (Eq.trans (zs_ne hmm185 (Or.inr (by decide))) (Eq.trans (zfr_ap hfm179 hc0 rfl) (zs_ne hmm170 (Or.inr (by decide))))))
                            have r207 : 0 ≤ (m187 a0 47) ∧ (m187 a0 47) ≤ 8 := zi_rd hIm187 hc0 zb_28_47
                            have e208 : (m187 a0 47) = (m0 a0 47) := (Eq.trans (zfr_ap hfm187 hc0 rfl) (Eq.trans (zs_ne hmm185 (Or.inr (by decide))) (Eq.trans (zfr_ap hfm179 hc0 rfl) (zs_ne hmm170 (Or.inr (by decide))))))
                            have r209 : (-2147483648) ≤ (m187 a0 4) ∧ (m187 a0 4) ≤ 2147483647 := zi_rd hIm187 hc0 zb_28_4
                            have e210 : (m187 a0 4) = (m0 a0 4) := (Eq.trans (zfr_ap hfm187 hc0 rfl) (Eq.trans (zs_ne hmm185 (Or.inr (by decide))) (Eq.trans (zfr_ap hfm179 hc0 rfl) (zs_ne hmm170 (Or.inr (by decide))))))
                            exact zw_some ⟨hIm187, hFm187, hRKNm187, hRNSm187, hRTRm187, hRWDm187, ⟨by omega, by omega⟩, by omega, by omega, by omega, by omega, by omega, by omega, by omega, by omega⟩
                      · exfalso; omega
                    · refine zw_bd (zw_eq (zu_call_at (zt_T n) (zm_85 n) (zdp_85 n) _ _ _ _ _ rfl (zr_85_0 n _ _ a0 2 m0)) ?_)
                      generalize hmm211 : zu_up m0 a0 4 2 = m211
                      have hIm211 := zi_up hmm211 hIm0 hc0 zb_28_4 (by omega) (by omega)
                      have hFm211 := zfr_up hmm211 hFm0 hc0 rfl
                      have g212 := zwt_fr (zdis_fr (zfr_up hmm211 (zfr_rf [(28, 5)] _) hc0 rfl) rfl)
                      have hRKNm211 := zR_KN_fr (zdis_fr (zfr_up hmm211 (zfr_rf [(28, 5)] _) hc0 rfl) rfl) hRKNm0
                      have hRNSm211 := zR_NS_fr (zdis_fr (zfr_up hmm211 (zfr_rf [(28, 5)] _) hc0 rfl) rfl) hRNSm0
                      have hRTRm211 := zR_TR_fr (zdis_fr (zfr_up hmm211 (zfr_rf [(28, 5)] _) hc0 rfl) rfl) hRTRm0
                      have hRWDm211 := zR_WD_fr (zdis_fr (zfr_up hmm211 (zfr_rf [(28, 5)] _) hc0 rfl) rfl) hRWDm0
                      have hRLRm211 := zLR_wr (zone_190 hc0) hmm211 (by decide)
                      have r213 : 0 ≤ (m211 a0 10) ∧ (m211 a0 10) ≤ 700 := zi_rd hIm211 hc0 zb_28_10
                      generalize hmm214 : zu_up m211 a0 5 (m211 a0 10) = m214
                      have hIm214 := zi_up hmm214 hIm211 hc0 zb_28_5 (by omega) (by omega)
                      have hFm214 := zfr_up hmm214 hFm211 hc0 rfl
                      have g215 := zwt_fr (zdis_fr (zfr_up hmm214 (zfr_rf [(28, 6)] _) hc0 rfl) rfl)
                      have hRKNm214 := zR_KN_fr (zdis_fr (zfr_up hmm214 (zfr_rf [(28, 6)] _) hc0 rfl) rfl) hRKNm211
                      have hRLRm214 := zR_LR_fr (zdis_fr (zfr_up hmm214 (zfr_rf [(28, 6)] _) hc0 rfl) rfl) hRLRm211
                      have hRNSm214 := zR_NS_fr (zdis_fr (zfr_up hmm214 (zfr_rf [(28, 6)] _) hc0 rfl) rfl) hRNSm211
                      have hRTRm214 := zR_TR_fr (zdis_fr (zfr_up hmm214 (zfr_rf [(28, 6)] _) hc0 rfl) rfl) hRTRm211
                      have hRWDm214 := zR_WD_fr (zdis_fr (zfr_up hmm214 (zfr_rf [(28, 6)] _) hc0 rfl) rfl) hRWDm211
                      refine zw_b (by omega) ?_
                      refine zw_some ?_
                      refine zw_b (by omega) ?_
                      refine zw_some ?_
                      refine zw_ite (fun h216 => ?_) (fun h216 => ?_)
                      · exfalso; omega
                      · refine zw_b (by omega) ?_
                        have r217 : 0 ≤ (m214 a0 7) ∧ (m214 a0 7) ≤ 700 := zi_rd hIm214 hc0 zb_28_7
                        have e218 : (m214 a0 7) = (m0 a0 7) := (Eq.trans (zs_ne hmm214 (Or.inr (by decide))) (zs_ne hmm211 (Or.inr (by decide))))
                        have r219 : 0 ≤ (m214 a0 8) ∧ (m214 a0 8) ≤ 6 := zi_rd hIm214 hc0 zb_28_8
                        have e220 : (m214 a0 8) = (m0 a0 8) := (Eq.trans (zs_ne hmm214 (Or.inr (by decide))) (zs_ne hmm211 (Or.inr (by decide))))
                        have r221 : 0 ≤ (m214 a0 21) ∧ (m214 a0 21) ≤ 64 := zi_rd hIm214 hc0 zb_28_21
                        have e222 : (m214 a0 21) = (m0 a0 21) := (Eq.trans (zs_ne hmm214 (Or.inr (by decide))) (zs_ne hmm211 (Or.inr (by decide))))
                        have r223 : 0 ≤ (m214 a0 48) ∧ (m214 a0 48) ≤ 64 := zi_rd hIm214 hc0 zb_28_48
                        have e224 : (m214 a0 48) = (m0 a0 48) := (Eq.trans (zs_ne hmm214 (Or.inr (by decide))) (zs_ne hmm211 (Or.inr (by decide))))
                        have r225 : 0 ≤ (m214 a0 46) ∧ (m214 a0 46) ≤ 96 := zi_rd hIm214 hc0 zb_28_46
                        have e226 : (m214 a0 46) = (m0 a0 46) := (Eq.trans (zs_ne hmm214 (Or.inr (by decide))) (zs_ne hmm211 (Or.inr (by decide))))
                        have r227 : 0 ≤ (m214 a0 49) ∧ (m214 a0 49) ≤ 1 := zi_rd hIm214 hc0 zb_28_49
                        have e228 : (m214 a0 49) = (m0 a0 49) := (Eq.trans (zs_ne hmm214 (Or.inr (by decide))) (zs_ne hmm211 (Or.inr (by decide))))
                        have r229 : 0 ≤ (m214 a0 45) ∧ (m214 a0 45) ≤ 96 := zi_rd hIm214 hc0 zb_28_45
                        have e230 : (m214 a0 45) = (m0 a0 45) := (Eq.trans (zs_ne hmm214 (Or.inr (by decide))) (zs_ne hmm211 (Or.inr (by decide))))
                        have r231 : 0 ≤ (m214 a0 47) ∧ (m214 a0 47) ≤ 8 := zi_rd hIm214 hc0 zb_28_47
                        have e232 : (m214 a0 47) = (m0 a0 47) := (Eq.trans (zs_ne hmm214 (Or.inr (by decide))) (zs_ne hmm211 (Or.inr (by decide))))
                        have r233 : (-2147483648) ≤ (m214 a0 4) ∧ (m214 a0 4) ≤ 2147483647 := zi_rd hIm214 hc0 zb_28_4
                        have e234 : (m214 a0 4) = 2 := (Eq.trans (zs_ne hmm214 (Or.inr (by decide))) (zs_eq hmm211))
                        exact zw_some ⟨hIm214, hFm214, hRKNm214, hRNSm214, hRTRm214, hRWDm214, ⟨by omega, by omega⟩, by omega, by omega, by omega, by omega, by omega, by omega, by omega, by omega⟩
                  · exfalso; omega
                · exfalso; omega
          · exfalso; omega
        · refine zw_b (by omega) ?_
          refine zw_some ?_
          refine zw_ite (fun h235 => ?_) (fun h235 => ?_)
          · exfalso; omega
          · have r236 : 0 ≤ (m0 a0 50) ∧ (m0 a0 50) ≤ 1 := zi_rd hIm0 hc0 zb_28_50
            refine zw_ite (fun h237 => ?_) (fun h237 => ?_)
            · refine zw_bd (zw_eq (zu_call_at (zt_T n) (zm_115 n) (zdp_115 n) _ _ _ _ _ rfl (zr_115_0 n _ _ a0 m0)) ?_)
              refine zw_ite (fun h238 => ?_) (fun h238 => ?_)
              · exfalso; omega
              · refine zw_ite (fun h239 => ?_) (fun h239 => ?_)
                · refine zw_some ?_
                  refine zw_ite (fun h240 => ?_) (fun h240 => ?_)
                  · exfalso; omega
                  · refine zw_ite (fun h241 => ?_) (fun h241 => ?_)
                    · exfalso; omega
                    · refine zw_bd (zw_eq (zu_call_at (zt_T n) (zm_85 n) (zdp_85 n) _ _ _ _ _ rfl (zr_85_0 n _ _ a0 1 m0)) ?_)
                      generalize hmm242 : zu_up m0 a0 4 1 = m242
                      have hIm242 := zi_up hmm242 hIm0 hc0 zb_28_4 (by omega) (by omega)
                      have hFm242 := zfr_up hmm242 hFm0 hc0 rfl
                      have g243 := zwt_fr (zdis_fr (zfr_up hmm242 (zfr_rf [(28, 5)] _) hc0 rfl) rfl)
                      have hRKNm242 := zR_KN_fr (zdis_fr (zfr_up hmm242 (zfr_rf [(28, 5)] _) hc0 rfl) rfl) hRKNm0
                      have hRNSm242 := zR_NS_fr (zdis_fr (zfr_up hmm242 (zfr_rf [(28, 5)] _) hc0 rfl) rfl) hRNSm0
                      have hRTRm242 := zR_TR_fr (zdis_fr (zfr_up hmm242 (zfr_rf [(28, 5)] _) hc0 rfl) rfl) hRTRm0
                      have hRWDm242 := zR_WD_fr (zdis_fr (zfr_up hmm242 (zfr_rf [(28, 5)] _) hc0 rfl) rfl) hRWDm0
                      have hRLRm242 := zLR_wr (zone_190 hc0) hmm242 (by decide)
                      have r244 : 0 ≤ (m242 a0 10) ∧ (m242 a0 10) ≤ 700 := zi_rd hIm242 hc0 zb_28_10
                      generalize hmm245 : zu_up m242 a0 5 (m242 a0 10) = m245
                      have hIm245 := zi_up hmm245 hIm242 hc0 zb_28_5 (by omega) (by omega)
                      have hFm245 := zfr_up hmm245 hFm242 hc0 rfl
                      have g246 := zwt_fr (zdis_fr (zfr_up hmm245 (zfr_rf [(28, 6)] _) hc0 rfl) rfl)
                      have hRKNm245 := zR_KN_fr (zdis_fr (zfr_up hmm245 (zfr_rf [(28, 6)] _) hc0 rfl) rfl) hRKNm242
                      have hRLRm245 := zR_LR_fr (zdis_fr (zfr_up hmm245 (zfr_rf [(28, 6)] _) hc0 rfl) rfl) hRLRm242
                      have hRNSm245 := zR_NS_fr (zdis_fr (zfr_up hmm245 (zfr_rf [(28, 6)] _) hc0 rfl) rfl) hRNSm242
                      have hRTRm245 := zR_TR_fr (zdis_fr (zfr_up hmm245 (zfr_rf [(28, 6)] _) hc0 rfl) rfl) hRTRm242
                      have hRWDm245 := zR_WD_fr (zdis_fr (zfr_up hmm245 (zfr_rf [(28, 6)] _) hc0 rfl) rfl) hRWDm242
                      refine zw_b (by omega) ?_
                      refine zw_some ?_
                      refine zw_b (by omega) ?_
                      have r247 : 0 ≤ (m245 a0 7) ∧ (m245 a0 7) ≤ 700 := zi_rd hIm245 hc0 zb_28_7
                      have e248 : (m245 a0 7) = (m0 a0 7) := (Eq.trans (zs_ne hmm245 (Or.inr (by decide))) (zs_ne hmm242 (Or.inr (by decide))))
                      have r249 : 0 ≤ (m245 a0 8) ∧ (m245 a0 8) ≤ 6 := zi_rd hIm245 hc0 zb_28_8
                      have e250 : (m245 a0 8) = (m0 a0 8) := (Eq.trans (zs_ne hmm245 (Or.inr (by decide))) (zs_ne hmm242 (Or.inr (by decide))))
                      have r251 : 0 ≤ (m245 a0 21) ∧ (m245 a0 21) ≤ 64 := zi_rd hIm245 hc0 zb_28_21
                      have e252 : (m245 a0 21) = (m0 a0 21) := (Eq.trans (zs_ne hmm245 (Or.inr (by decide))) (zs_ne hmm242 (Or.inr (by decide))))
                      have r253 : 0 ≤ (m245 a0 48) ∧ (m245 a0 48) ≤ 64 := zi_rd hIm245 hc0 zb_28_48
                      have e254 : (m245 a0 48) = (m0 a0 48) := (Eq.trans (zs_ne hmm245 (Or.inr (by decide))) (zs_ne hmm242 (Or.inr (by decide))))
                      have r255 : 0 ≤ (m245 a0 46) ∧ (m245 a0 46) ≤ 96 := zi_rd hIm245 hc0 zb_28_46
                      have e256 : (m245 a0 46) = (m0 a0 46) := (Eq.trans (zs_ne hmm245 (Or.inr (by decide))) (zs_ne hmm242 (Or.inr (by decide))))
                      have r257 : 0 ≤ (m245 a0 49) ∧ (m245 a0 49) ≤ 1 := zi_rd hIm245 hc0 zb_28_49
                      have e258 : (m245 a0 49) = (m0 a0 49) := (Eq.trans (zs_ne hmm245 (Or.inr (by decide))) (zs_ne hmm242 (Or.inr (by decide))))
                      have r259 : 0 ≤ (m245 a0 45) ∧ (m245 a0 45) ≤ 96 := zi_rd hIm245 hc0 zb_28_45
                      have e260 : (m245 a0 45) = (m0 a0 45) := (Eq.trans (zs_ne hmm245 (Or.inr (by decide))) (zs_ne hmm242 (Or.inr (by decide))))
                      have r261 : 0 ≤ (m245 a0 47) ∧ (m245 a0 47) ≤ 8 := zi_rd hIm245 hc0 zb_28_47
                      have e262 : (m245 a0 47) = (m0 a0 47) := (Eq.trans (zs_ne hmm245 (Or.inr (by decide))) (zs_ne hmm242 (Or.inr (by decide))))
                      have r263 : (-2147483648) ≤ (m245 a0 4) ∧ (m245 a0 4) ≤ 2147483647 := zi_rd hIm245 hc0 zb_28_4
                      have e264 : (m245 a0 4) = 1 := (Eq.trans (zs_ne hmm245 (Or.inr (by decide))) (zs_eq hmm242))
                      exact zw_some ⟨hIm245, hFm245, hRKNm245, hRNSm245, hRTRm245, hRWDm245, ⟨by omega, by omega⟩, by omega, by omega, by omega, by omega, by omega, by omega, by omega, by omega⟩
                · exfalso; omega
            · refine zw_bd (zw_eq (zu_call_at (zt_T n) (zm_113 n) (zdp_113 n) _ _ _ _ _ rfl (zr_113_0 n _ _ a0 m0)) ?_)
              refine zw_ite (fun h265 => ?_) (fun h265 => ?_)
              · have w266 := zu_w32_id (z := (m0 a0 48) + 1) (by omega) (by omega)
                generalize hmm267 : zu_up m0 a0 48 (zu_w32 ((m0 a0 48) + 1)) = m267
                have hIm267 := zi_up hmm267 hIm0 hc0 zb_28_48 (by omega) (by omega)
                have hFm267 := zfr_up hmm267 hFm0 hc0 rfl
                have g268 := zwt_fr (zdis_fr (zfr_up hmm267 (zfr_rf [(28, 49)] _) hc0 rfl) rfl)
                have hRKNm267 := zR_KN_fr (zdis_fr (zfr_up hmm267 (zfr_rf [(28, 49)] _) hc0 rfl) rfl) hRKNm0
                have hRNSm267 := zR_NS_fr (zdis_fr (zfr_up hmm267 (zfr_rf [(28, 49)] _) hc0 rfl) rfl) hRNSm0
                have hRTRm267 := zR_TR_fr (zdis_fr (zfr_up hmm267 (zfr_rf [(28, 49)] _) hc0 rfl) rfl) hRTRm0
                have hRWDm267 := zR_WD_fr (zdis_fr (zfr_up hmm267 (zfr_rf [(28, 49)] _) hc0 rfl) rfl) hRWDm0
                refine zw_b (by omega) ?_
                refine zw_some ?_
                refine zw_ite (fun h269 => ?_) (fun h269 => ?_)
                · refine zw_bd (zw_eq (zu_call_at (zt_T n) (zm_114 n) (zdp_114 n) _ _ _ _ _ rfl (zr_114_0 n _ _ a0 2 m267)) ?_)
                  have r270 : 0 ≤ (m267 a0 45) ∧ (m267 a0 45) ≤ 96 := zi_rd hIm267 hc0 zb_28_45
                  have e271 : (m267 a0 45) = (m0 a0 45) := (zs_ne hmm267 (Or.inr (by decide)))
                  have b272 : 0 ≤ (m267 a0 45) ∧ (m267 a0 45) < 96 := by omega
                  refine zw_if b272 ?_
                  generalize hmm273 : zu_up m267 211 (m267 a0 45) 2 = m273
                  have hIm273 := zi_up hmm273 hIm267 zq_211 (zb_120 _) (by omega) (by omega)
                  have hFm273 := zfr_up hmm273 hFm267 zq_211 rfl
                  have hRKNm273 := zR_KN_fr (zdis_fr (zfr_up hmm273 (zfr_rf [(120, 0)] _) zq_211 rfl) rfl) hRKNm267
                  have hRNSm273 := zR_NS_fr (zdis_fr (zfr_up hmm273 (zfr_rf [(120, 0)] _) zq_211 rfl) rfl) hRNSm267
                  have hRTRm273 := zR_TR_fr (zdis_fr (zfr_up hmm273 (zfr_rf [(120, 0)] _) zq_211 rfl) rfl) hRTRm267
                  have hRWDm273 := zR_WD_fr (zdis_fr (zfr_up hmm273 (zfr_rf [(120, 0)] _) zq_211 rfl) rfl) hRWDm267
                  have r274 : 0 ≤ (m273 a0 45) ∧ (m273 a0 45) ≤ 96 := zi_rd hIm273 hc0 zb_28_45
                  have e275 : (m273 a0 45) = (m267 a0 45) := (zs_ne hmm273 (Or.inl (zc_ne hc0 zq_211 (by decide))))
                  have w276 := zu_w32_id (z := (m273 a0 45) + 1) (by omega) (by omega)
                  generalize hmm277 : zu_up m273 a0 45 (zu_w32 ((m273 a0 45) + 1)) = m277
                  have hIm277 := zi_up hmm277 hIm273 hc0 zb_28_45 (by omega) (by omega)
                  have hFm277 := zfr_up hmm277 hFm273 hc0 rfl
                  have hRKNm277 := zR_KN_fr (zdis_fr (zfr_up hmm277 (zfr_rf [(28, 46)] _) hc0 rfl) rfl) hRKNm273
                  have hRNSm277 := zR_NS_fr (zdis_fr (zfr_up hmm277 (zfr_rf [(28, 46)] _) hc0 rfl) rfl) hRNSm273
                  have hRTRm277 := zR_TR_fr (zdis_fr (zfr_up hmm277 (zfr_rf [(28, 46)] _) hc0 rfl) rfl) hRTRm273
                  have hRWDm277 := zR_WD_fr (zdis_fr (zfr_up hmm277 (zfr_rf [(28, 46)] _) hc0 rfl) rfl) hRWDm273
                  have g278 := zwt_push hmm273 hmm277 hc0 (by omega) (by omega) (by omega)
                  have g279 := zwt_bd hIm277 hc0
                  refine zw_some ?_
                  have r282 : 0 ≤ (m277 a0 7) ∧ (m277 a0 7) ≤ 700 := zi_rd hIm277 hc0 zb_28_7
                  have e283 : (m277 a0 7) = (m0 a0 7) := (Eq.trans (zs_ne hmm277 (Or.inr (by decide))) (Eq.trans (zs_ne hmm273 (Or.inl (zc_ne hc0 zq_211 (by decide)))) (zs_ne hmm267 (Or.inr (by decide)))))
                  refine zw_bd (zw_mono (zk_89 n hIm277 hc0 hRNSm277 hRWDm277) (fun v281 m280 hqm280 => ?_))
                  obtain ⟨hIm280, hfm280, hvm280⟩ := hqm280
                  have hFm280 := zfr_tr hFm277 hfm280 rfl
                  obtain ⟨hRNSm280, hRTRm280, hRWDm280, hvm280⟩ := hvm280
                  have g284 := zwt_fr (zdis_fr hfm280 rfl)
                  have hRKNm280 := zR_KN_fr (zdis_fr hfm280 rfl) hRKNm277
                  have g285 := zwt_bd hIm280 hc0
                  have s286 := hRNSm280 a0 hc0
                  have s287 := hRTRm280 a0 hc0
                  have r288 : 0 ≤ (m280 a0 7) ∧ (m280 a0 7) ≤ 700 := zi_rd hIm280 hc0 zb_28_7
                  have r289 : 0 ≤ (m280 a0 8) ∧ (m280 a0 8) ≤ 6 := zi_rd hIm280 hc0 zb_28_8
                  refine zw_b (by omega) ?_
                  have r290 : 0 ≤ (m280 a0 21) ∧ (m280 a0 21) ≤ 64 := zi_rd hIm280 hc0 zb_28_21
                  have e291 : (m280 a0 21) = (m0 a0 21) := (Eq.trans (zfr_ap hfm280 hc0 rfl) (Eq.trans (zs_ne hmm277 (Or.inr (by decide))) (Eq.trans (zs_ne hmm273 (Or.inl (zc_ne hc0 zq_211 (by decide)))) (zs_ne hmm267 (Or.inr (by decide))))))
                  have r292 : 0 ≤ (m280 a0 48) ∧ (m280 a0 48) ≤ 64 := zi_rd hIm280 hc0 zb_28_48
                  have e293 : (m280 a0 48) = (zu_w32 ((m0 a0 48) + 1)) := (Eq.trans (zfr_ap hfm280 hc0 rfl) (Eq.trans (zs_ne hmm277 (Or.inr (by decide))) (Eq.trans (zs_ne hmm273 (Or.inl (zc_ne hc0 zq_211 (by decide)))) (zs_eq hmm267))))
                  have r294 : 0 ≤ (m280 a0 46) ∧ (m280 a0 46) ≤ 96 := zi_rd hIm280 hc0 zb_28_46
                  have e295 : (m280 a0 46) = (m0 a0 46) := (Eq.trans (zfr_ap hfm280 hc0 rfl) (Eq.trans (zs_ne hmm277 (Or.inr (by decide))) (Eq.trans (zs_ne hmm273 (Or.inl (zc_ne hc0 zq_211 (by decide)))) (zs_ne hmm267 (Or.inr (by decide))))))
                  have r296 : 0 ≤ (m280 a0 49) ∧ (m280 a0 49) ≤ 1 := zi_rd hIm280 hc0 zb_28_49
                  have e297 : (m280 a0 49) = (m0 a0 49) := (Eq.trans (zfr_ap hfm280 hc0 rfl) (Eq.trans (zs_ne hmm277 (Or.inr (by decide))) (Eq.trans (zs_ne hmm273 (Or.inl (zc_ne hc0 zq_211 (by decide)))) (zs_ne hmm267 (Or.inr (by decide))))))
                  have r298 : 0 ≤ (m280 a0 45) ∧ (m280 a0 45) ≤ 96 := zi_rd hIm280 hc0 zb_28_45
                  have e299 : (m280 a0 45) = (zu_w32 ((m273 a0 45) + 1)) := (Eq.trans (zfr_ap hfm280 hc0 rfl) (zs_eq hmm277))
                  have r300 : 0 ≤ (m280 a0 47) ∧ (m280 a0 47) ≤ 8 := zi_rd hIm280 hc0 zb_28_47
                  have e301 : (m280 a0 47) = (m0 a0 47) := (Eq.trans (zfr_ap hfm280 hc0 rfl) (Eq.trans (zs_ne hmm277 (Or.inr (by decide))) (Eq.trans (zs_ne hmm273 (Or.inl (zc_ne hc0 zq_211 (by decide)))) (zs_ne hmm267 (Or.inr (by decide))))))
                  have r302 : (-2147483648) ≤ (m280 a0 4) ∧ (m280 a0 4) ≤ 2147483647 := zi_rd hIm280 hc0 zb_28_4
                  have e303 : (m280 a0 4) = (m0 a0 4) := (Eq.trans (zfr_ap hfm280 hc0 rfl) (Eq.trans (zs_ne hmm277 (Or.inr (by decide))) (Eq.trans (zs_ne hmm273 (Or.inl (zc_ne hc0 zq_211 (by decide)))) (zs_ne hmm267 (Or.inr (by decide))))))
                  exact zw_some ⟨hIm280, hFm280, hRKNm280, hRNSm280, hRTRm280, hRWDm280, ⟨by omega, by omega⟩, by omega, by omega, by omega, by omega, by omega, by omega, by omega, by omega⟩
                · exfalso; omega
              · refine zw_bd (zw_eq (zu_call_at (zt_T n) (zm_85 n) (zdp_85 n) _ _ _ _ _ rfl (zr_85_0 n _ _ a0 2 m0)) ?_)
                generalize hmm304 : zu_up m0 a0 4 2 = m304
                have hIm304 := zi_up hmm304 hIm0 hc0 zb_28_4 (by omega) (by omega)
                have hFm304 := zfr_up hmm304 hFm0 hc0 rfl
                have g305 := zwt_fr (zdis_fr (zfr_up hmm304 (zfr_rf [(28, 5)] _) hc0 rfl) rfl)
                have hRKNm304 := zR_KN_fr (zdis_fr (zfr_up hmm304 (zfr_rf [(28, 5)] _) hc0 rfl) rfl) hRKNm0
                have hRNSm304 := zR_NS_fr (zdis_fr (zfr_up hmm304 (zfr_rf [(28, 5)] _) hc0 rfl) rfl) hRNSm0
                have hRTRm304 := zR_TR_fr (zdis_fr (zfr_up hmm304 (zfr_rf [(28, 5)] _) hc0 rfl) rfl) hRTRm0
                have hRWDm304 := zR_WD_fr (zdis_fr (zfr_up hmm304 (zfr_rf [(28, 5)] _) hc0 rfl) rfl) hRWDm0
                have hRLRm304 := zLR_wr (zone_190 hc0) hmm304 (by decide)
                have r306 : 0 ≤ (m304 a0 10) ∧ (m304 a0 10) ≤ 700 := zi_rd hIm304 hc0 zb_28_10
                generalize hmm307 : zu_up m304 a0 5 (m304 a0 10) = m307
                have hIm307 := zi_up hmm307 hIm304 hc0 zb_28_5 (by omega) (by omega)
                have hFm307 := zfr_up hmm307 hFm304 hc0 rfl
                have g308 := zwt_fr (zdis_fr (zfr_up hmm307 (zfr_rf [(28, 6)] _) hc0 rfl) rfl)
                have hRKNm307 := zR_KN_fr (zdis_fr (zfr_up hmm307 (zfr_rf [(28, 6)] _) hc0 rfl) rfl) hRKNm304
                have hRLRm307 := zR_LR_fr (zdis_fr (zfr_up hmm307 (zfr_rf [(28, 6)] _) hc0 rfl) rfl) hRLRm304
                have hRNSm307 := zR_NS_fr (zdis_fr (zfr_up hmm307 (zfr_rf [(28, 6)] _) hc0 rfl) rfl) hRNSm304
                have hRTRm307 := zR_TR_fr (zdis_fr (zfr_up hmm307 (zfr_rf [(28, 6)] _) hc0 rfl) rfl) hRTRm304
                have hRWDm307 := zR_WD_fr (zdis_fr (zfr_up hmm307 (zfr_rf [(28, 6)] _) hc0 rfl) rfl) hRWDm304
                refine zw_b (by omega) ?_
                refine zw_some ?_
                refine zw_b (by omega) ?_
                refine zw_some ?_
                refine zw_ite (fun h309 => ?_) (fun h309 => ?_)
                · exfalso; omega
                · refine zw_b (by omega) ?_
                  have r310 : 0 ≤ (m307 a0 7) ∧ (m307 a0 7) ≤ 700 := zi_rd hIm307 hc0 zb_28_7
                  have e311 : (m307 a0 7) = (m0 a0 7) := (Eq.trans (zs_ne hmm307 (Or.inr (by decide))) (zs_ne hmm304 (Or.inr (by decide))))
                  have r312 : 0 ≤ (m307 a0 8) ∧ (m307 a0 8) ≤ 6 := zi_rd hIm307 hc0 zb_28_8
                  have e313 : (m307 a0 8) = (m0 a0 8) := (Eq.trans (zs_ne hmm307 (Or.inr (by decide))) (zs_ne hmm304 (Or.inr (by decide))))
                  have r314 : 0 ≤ (m307 a0 21) ∧ (m307 a0 21) ≤ 64 := zi_rd hIm307 hc0 zb_28_21
                  have e315 : (m307 a0 21) = (m0 a0 21) := (Eq.trans (zs_ne hmm307 (Or.inr (by decide))) (zs_ne hmm304 (Or.inr (by decide))))
                  have r316 : 0 ≤ (m307 a0 48) ∧ (m307 a0 48) ≤ 64 := zi_rd hIm307 hc0 zb_28_48
                  have e317 : (m307 a0 48) = (m0 a0 48) := (Eq.trans (zs_ne hmm307 (Or.inr (by decide))) (zs_ne hmm304 (Or.inr (by decide))))
                  have r318 : 0 ≤ (m307 a0 46) ∧ (m307 a0 46) ≤ 96 := zi_rd hIm307 hc0 zb_28_46
                  have e319 : (m307 a0 46) = (m0 a0 46) := (Eq.trans (zs_ne hmm307 (Or.inr (by decide))) (zs_ne hmm304 (Or.inr (by decide))))
                  have r320 : 0 ≤ (m307 a0 49) ∧ (m307 a0 49) ≤ 1 := zi_rd hIm307 hc0 zb_28_49
                  have e321 : (m307 a0 49) = (m0 a0 49) := (Eq.trans (zs_ne hmm307 (Or.inr (by decide))) (zs_ne hmm304 (Or.inr (by decide))))
                  have r322 : 0 ≤ (m307 a0 45) ∧ (m307 a0 45) ≤ 96 := zi_rd hIm307 hc0 zb_28_45
                  have e323 : (m307 a0 45) = (m0 a0 45) := (Eq.trans (zs_ne hmm307 (Or.inr (by decide))) (zs_ne hmm304 (Or.inr (by decide))))
                  have r324 : 0 ≤ (m307 a0 47) ∧ (m307 a0 47) ≤ 8 := zi_rd hIm307 hc0 zb_28_47
                  have e325 : (m307 a0 47) = (m0 a0 47) := (Eq.trans (zs_ne hmm307 (Or.inr (by decide))) (zs_ne hmm304 (Or.inr (by decide))))
                  have r326 : (-2147483648) ≤ (m307 a0 4) ∧ (m307 a0 4) ≤ 2147483647 := zi_rd hIm307 hc0 zb_28_4
                  have e327 : (m307 a0 4) = 2 := (Eq.trans (zs_ne hmm307 (Or.inr (by decide))) (zs_eq hmm304))
                  exact zw_some ⟨hIm307, hFm307, hRKNm307, hRNSm307, hRTRm307, hRWDm307, ⟨by omega, by omega⟩, by omega, by omega, by omega, by omega, by omega, by omega, by omega, by omega⟩
    · exfalso; omega
  · have r328 : (-2147483648) ≤ (m0 a0 9) ∧ (m0 a0 9) ≤ 2147483647 := zi_rd hIm0 hc0 zb_28_9
    refine zw_ite (fun h329 => ?_) (fun h329 => ?_)
    · refine zw_b (by omega) ?_
      refine zw_some ?_
      refine zw_ite (fun h330 => ?_) (fun h330 => ?_)
      · refine zw_bd (zw_eq (zu_call_at (zt_T n) (zm_92 n) (zdp_92 n) _ _ _ _ _ rfl (zr_92_0 n _ _ a0 25 m0)) ?_)
        refine zw_ite (fun h331 => ?_) (fun h331 => ?_)
        · refine zw_b (by omega) ?_
          refine zw_some ?_
          refine zw_ite (fun h332 => ?_) (fun h332 => ?_)
          · refine zw_bd (zw_eq (zu_call_at (zt_T n) (zm_115 n) (zdp_115 n) _ _ _ _ _ rfl (zr_115_0 n _ _ a0 m0)) ?_)
            refine zw_ite (fun h333 => ?_) (fun h333 => ?_)
            · refine zw_some ?_
              refine zw_ite (fun h334 => ?_) (fun h334 => ?_)
              · exfalso; omega
              · refine zw_ite (fun h335 => ?_) (fun h335 => ?_)
                · exfalso; omega
                · refine zw_bd (zw_eq (zu_call_at (zt_T n) (zm_85 n) (zdp_85 n) _ _ _ _ _ rfl (zr_85_0 n _ _ a0 1 m0)) ?_)
                  generalize hmm336 : zu_up m0 a0 4 1 = m336
                  have hIm336 := zi_up hmm336 hIm0 hc0 zb_28_4 (by omega) (by omega)
                  have hFm336 := zfr_up hmm336 hFm0 hc0 rfl
                  have g337 := zwt_fr (zdis_fr (zfr_up hmm336 (zfr_rf [(28, 5)] _) hc0 rfl) rfl)
                  have hRKNm336 := zR_KN_fr (zdis_fr (zfr_up hmm336 (zfr_rf [(28, 5)] _) hc0 rfl) rfl) hRKNm0
                  have hRNSm336 := zR_NS_fr (zdis_fr (zfr_up hmm336 (zfr_rf [(28, 5)] _) hc0 rfl) rfl) hRNSm0
                  have hRTRm336 := zR_TR_fr (zdis_fr (zfr_up hmm336 (zfr_rf [(28, 5)] _) hc0 rfl) rfl) hRTRm0
                  have hRWDm336 := zR_WD_fr (zdis_fr (zfr_up hmm336 (zfr_rf [(28, 5)] _) hc0 rfl) rfl) hRWDm0
                  have hRLRm336 := zLR_wr (zone_190 hc0) hmm336 (by decide)
                  have r338 : 0 ≤ (m336 a0 10) ∧ (m336 a0 10) ≤ 700 := zi_rd hIm336 hc0 zb_28_10
                  generalize hmm339 : zu_up m336 a0 5 (m336 a0 10) = m339
                  have hIm339 := zi_up hmm339 hIm336 hc0 zb_28_5 (by omega) (by omega)
                  have hFm339 := zfr_up hmm339 hFm336 hc0 rfl
                  have g340 := zwt_fr (zdis_fr (zfr_up hmm339 (zfr_rf [(28, 6)] _) hc0 rfl) rfl)
                  have hRKNm339 := zR_KN_fr (zdis_fr (zfr_up hmm339 (zfr_rf [(28, 6)] _) hc0 rfl) rfl) hRKNm336
                  have hRLRm339 := zR_LR_fr (zdis_fr (zfr_up hmm339 (zfr_rf [(28, 6)] _) hc0 rfl) rfl) hRLRm336
                  have hRNSm339 := zR_NS_fr (zdis_fr (zfr_up hmm339 (zfr_rf [(28, 6)] _) hc0 rfl) rfl) hRNSm336
                  have hRTRm339 := zR_TR_fr (zdis_fr (zfr_up hmm339 (zfr_rf [(28, 6)] _) hc0 rfl) rfl) hRTRm336
                  have hRWDm339 := zR_WD_fr (zdis_fr (zfr_up hmm339 (zfr_rf [(28, 6)] _) hc0 rfl) rfl) hRWDm336
                  refine zw_b (by omega) ?_
                  refine zw_some ?_
                  refine zw_b (by omega) ?_
                  have r341 : 0 ≤ (m339 a0 7) ∧ (m339 a0 7) ≤ 700 := zi_rd hIm339 hc0 zb_28_7
                  have e342 : (m339 a0 7) = (m0 a0 7) := (Eq.trans (zs_ne hmm339 (Or.inr (by decide))) (zs_ne hmm336 (Or.inr (by decide))))
                  have r343 : 0 ≤ (m339 a0 8) ∧ (m339 a0 8) ≤ 6 := zi_rd hIm339 hc0 zb_28_8
                  have e344 : (m339 a0 8) = (m0 a0 8) := (Eq.trans (zs_ne hmm339 (Or.inr (by decide))) (zs_ne hmm336 (Or.inr (by decide))))
                  have r345 : 0 ≤ (m339 a0 21) ∧ (m339 a0 21) ≤ 64 := zi_rd hIm339 hc0 zb_28_21
                  have e346 : (m339 a0 21) = (m0 a0 21) := (Eq.trans (zs_ne hmm339 (Or.inr (by decide))) (zs_ne hmm336 (Or.inr (by decide))))
                  have r347 : 0 ≤ (m339 a0 48) ∧ (m339 a0 48) ≤ 64 := zi_rd hIm339 hc0 zb_28_48
                  have e348 : (m339 a0 48) = (m0 a0 48) := (Eq.trans (zs_ne hmm339 (Or.inr (by decide))) (zs_ne hmm336 (Or.inr (by decide))))
                  have r349 : 0 ≤ (m339 a0 46) ∧ (m339 a0 46) ≤ 96 := zi_rd hIm339 hc0 zb_28_46
                  have e350 : (m339 a0 46) = (m0 a0 46) := (Eq.trans (zs_ne hmm339 (Or.inr (by decide))) (zs_ne hmm336 (Or.inr (by decide))))
                  have r351 : 0 ≤ (m339 a0 49) ∧ (m339 a0 49) ≤ 1 := zi_rd hIm339 hc0 zb_28_49
                  have e352 : (m339 a0 49) = (m0 a0 49) := (Eq.trans (zs_ne hmm339 (Or.inr (by decide))) (zs_ne hmm336 (Or.inr (by decide))))
                  have r353 : 0 ≤ (m339 a0 45) ∧ (m339 a0 45) ≤ 96 := zi_rd hIm339 hc0 zb_28_45
                  have e354 : (m339 a0 45) = (m0 a0 45) := (Eq.trans (zs_ne hmm339 (Or.inr (by decide))) (zs_ne hmm336 (Or.inr (by decide))))
                  have r355 : 0 ≤ (m339 a0 47) ∧ (m339 a0 47) ≤ 8 := zi_rd hIm339 hc0 zb_28_47
                  have e356 : (m339 a0 47) = (m0 a0 47) := (Eq.trans (zs_ne hmm339 (Or.inr (by decide))) (zs_ne hmm336 (Or.inr (by decide))))
                  have r357 : (-2147483648) ≤ (m339 a0 4) ∧ (m339 a0 4) ≤ 2147483647 := zi_rd hIm339 hc0 zb_28_4
                  have e358 : (m339 a0 4) = 1 := (Eq.trans (zs_ne hmm339 (Or.inr (by decide))) (zs_eq hmm336))
                  exact zw_some ⟨hIm339, hFm339, hRKNm339, hRNSm339, hRTRm339, hRWDm339, ⟨by omega, by omega⟩, by omega, by omega, by omega, by omega, by omega, by omega, by omega, by omega⟩
            · exfalso; omega
          · exfalso; omega
        · exfalso; omega
      · exfalso; omega
    · refine zw_b (by omega) ?_
      refine zw_some ?_
      refine zw_ite (fun h359 => ?_) (fun h359 => ?_)
      · exfalso; omega
      · refine zw_ite (fun h360 => ?_) (fun h360 => ?_)
        · have w361 := zu_w32_id (z := (m0 a0 47) + 1) (by omega) (by omega)
          generalize hmm362 : zu_up m0 a0 47 (zu_w32 ((m0 a0 47) + 1)) = m362
          have hIm362 := zi_up hmm362 hIm0 hc0 zb_28_47 (by omega) (by omega)
          have hFm362 := zfr_up hmm362 hFm0 hc0 rfl
          have g363 := zwt_fr (zdis_fr (zfr_up hmm362 (zfr_rf [(28, 48)] _) hc0 rfl) rfl)
          have hRKNm362 := zR_KN_fr (zdis_fr (zfr_up hmm362 (zfr_rf [(28, 48)] _) hc0 rfl) rfl) hRKNm0
          have hRNSm362 := zR_NS_fr (zdis_fr (zfr_up hmm362 (zfr_rf [(28, 48)] _) hc0 rfl) rfl) hRNSm0
          have hRTRm362 := zR_TR_fr (zdis_fr (zfr_up hmm362 (zfr_rf [(28, 48)] _) hc0 rfl) rfl) hRTRm0
          have hRWDm362 := zR_WD_fr (zdis_fr (zfr_up hmm362 (zfr_rf [(28, 48)] _) hc0 rfl) rfl) hRWDm0
          refine zw_bd (zw_eq (zu_call_at (zt_T n) (zm_114 n) (zdp_114 n) _ _ _ _ _ rfl (zr_114_0 n _ _ a0 0 m362)) ?_)
          have r364 : 0 ≤ (m362 a0 45) ∧ (m362 a0 45) ≤ 96 := zi_rd hIm362 hc0 zb_28_45
          have e365 : (m362 a0 45) = (m0 a0 45) := (zs_ne hmm362 (Or.inr (by decide)))
          have b366 : 0 ≤ (m362 a0 45) ∧ (m362 a0 45) < 96 := by omega
          refine zw_if b366 ?_
          generalize hmm367 : zu_up m362 211 (m362 a0 45) 0 = m367
          have hIm367 := zi_up hmm367 hIm362 zq_211 (zb_120 _) (by omega) (by omega)
          have hFm367 := zfr_up hmm367 hFm362 zq_211 rfl
          have hRKNm367 := zR_KN_fr (zdis_fr (zfr_up hmm367 (zfr_rf [(120, 0)] _) zq_211 rfl) rfl) hRKNm362
          have hRNSm367 := zR_NS_fr (zdis_fr (zfr_up hmm367 (zfr_rf [(120, 0)] _) zq_211 rfl) rfl) hRNSm362
          have hRTRm367 := zR_TR_fr (zdis_fr (zfr_up hmm367 (zfr_rf [(120, 0)] _) zq_211 rfl) rfl) hRTRm362
          have hRWDm367 := zR_WD_fr (zdis_fr (zfr_up hmm367 (zfr_rf [(120, 0)] _) zq_211 rfl) rfl) hRWDm362
          have r368 : 0 ≤ (m367 a0 45) ∧ (m367 a0 45) ≤ 96 := zi_rd hIm367 hc0 zb_28_45
          have e369 : (m367 a0 45) = (m362 a0 45) := (zs_ne hmm367 (Or.inl (zc_ne hc0 zq_211 (by decide))))
          have w370 := zu_w32_id (z := (m367 a0 45) + 1) (by omega) (by omega)
          generalize hmm371 : zu_up m367 a0 45 (zu_w32 ((m367 a0 45) + 1)) = m371
          have hIm371 := zi_up hmm371 hIm367 hc0 zb_28_45 (by omega) (by omega)
          have hFm371 := zfr_up hmm371 hFm367 hc0 rfl
          have hRKNm371 := zR_KN_fr (zdis_fr (zfr_up hmm371 (zfr_rf [(28, 46)] _) hc0 rfl) rfl) hRKNm367
          have hRNSm371 := zR_NS_fr (zdis_fr (zfr_up hmm371 (zfr_rf [(28, 46)] _) hc0 rfl) rfl) hRNSm367
          have hRTRm371 := zR_TR_fr (zdis_fr (zfr_up hmm371 (zfr_rf [(28, 46)] _) hc0 rfl) rfl) hRTRm367
          have hRWDm371 := zR_WD_fr (zdis_fr (zfr_up hmm371 (zfr_rf [(28, 46)] _) hc0 rfl) rfl) hRWDm367
          have g372 := zwt_push hmm367 hmm371 hc0 (by omega) (by omega) (by omega)
          have g373 := zwt_bd hIm371 hc0
          refine zw_some ?_
          refine zw_b (by omega) ?_
          generalize hmm374 : zu_up m371 a0 50 1 = m374
          have hIm374 := zi_up hmm374 hIm371 hc0 zb_28_50 (by omega) (by omega)
          have hFm374 := zfr_up hmm374 hFm371 hc0 rfl
          have g375 := zwt_fr (zdis_fr (zfr_up hmm374 (zfr_rf [(28, 51)] _) hc0 rfl) rfl)
          have hRKNm374 := zR_KN_fr (zdis_fr (zfr_up hmm374 (zfr_rf [(28, 51)] _) hc0 rfl) rfl) hRKNm371
          have hRNSm374 := zR_NS_fr (zdis_fr (zfr_up hmm374 (zfr_rf [(28, 51)] _) hc0 rfl) rfl) hRNSm371
          have hRTRm374 := zR_TR_fr (zdis_fr (zfr_up hmm374 (zfr_rf [(28, 51)] _) hc0 rfl) rfl) hRTRm371
          have hRWDm374 := zR_WD_fr (zdis_fr (zfr_up hmm374 (zfr_rf [(28, 51)] _) hc0 rfl) rfl) hRWDm371
          have r378 : 0 ≤ (m374 a0 7) ∧ (m374 a0 7) ≤ 700 := zi_rd hIm374 hc0 zb_28_7
          have e379 : (m374 a0 7) = (m0 a0 7) := (Eq.trans (zs_ne hmm374 (Or.inr (by decide))) (Eq.trans (zs_ne hmm371 (Or.inr (by decide))) (Eq.trans (zs_ne hmm367 (Or.inl (zc_ne hc0 zq_211 (by decide)))) (zs_ne hmm362 (Or.inr (by decide))))))
          refine zw_bd (zw_mono (zk_89 n hIm374 hc0 hRNSm374 hRWDm374) (fun v377 m376 hqm376 => ?_))
          obtain ⟨hIm376, hfm376, hvm376⟩ := hqm376
          have hFm376 := zfr_tr hFm374 hfm376 rfl
          obtain ⟨hRNSm376, hRTRm376, hRWDm376, hvm376⟩ := hvm376
          have g380 := zwt_fr (zdis_fr hfm376 rfl)
          have hRKNm376 := zR_KN_fr (zdis_fr hfm376 rfl) hRKNm374
          have g381 := zwt_bd hIm376 hc0
          have s382 := hRNSm376 a0 hc0
          have s383 := hRTRm376 a0 hc0
          have r384 : 0 ≤ (m376 a0 7) ∧ (m376 a0 7) ≤ 700 := zi_rd hIm376 hc0 zb_28_7
          have r385 : 0 ≤ (m376 a0 8) ∧ (m376 a0 8) ≤ 6 := zi_rd hIm376 hc0 zb_28_8
          refine zw_b (by omega) ?_
          have r386 : 0 ≤ (m376 a0 21) ∧ (m376 a0 21) ≤ 64 := zi_rd hIm376 hc0 zb_28_21
          have e387 : (m376 a0 21) = (m0 a0 21) := (Eq.trans (zfr_ap hfm376 hc0 rfl) (Eq.trans (zs_ne hmm374 (Or.inr (by decide))) (Eq.trans (zs_ne hmm371 (Or.inr (by decide))) (Eq.trans (zs_ne hmm367 (Or.inl (zc_ne hc0 zq_211 (by decide)))) (zs_ne hmm362 (Or.inr (by decide)))))))
          have r388 : 0 ≤ (m376 a0 48) ∧ (m376 a0 48) ≤ 64 := zi_rd hIm376 hc0 zb_28_48
          have e389 : (m376 a0 48) = (m0 a0 48) := (Eq.trans (zfr_ap hfm376 hc0 rfl) (Eq.trans (zs_ne hmm374 (Or.inr (by decide))) (Eq.trans (zs_ne hmm371 (Or.inr (by decide))) (Eq.trans (zs_ne hmm367 (Or.inl (zc_ne hc0 zq_211 (by decide)))) (zs_ne hmm362 (Or.inr (by decide)))))))
          have r390 : 0 ≤ (m376 a0 46) ∧ (m376 a0 46) ≤ 96 := zi_rd hIm376 hc0 zb_28_46
          have e391 : (m376 a0 46) = (m0 a0 46) := (Eq.trans (zfr_ap hfm376 hc0 rfl) (Eq.trans (zs_ne hmm374 (Or.inr (by decide))) (Eq.trans (zs_ne hmm371 (Or.inr (by decide))) (Eq.trans (zs_ne hmm367 (Or.inl (zc_ne hc0 zq_211 (by decide)))) (zs_ne hmm362 (Or.inr (by decide)))))))
          have r392 : 0 ≤ (m376 a0 49) ∧ (m376 a0 49) ≤ 1 := zi_rd hIm376 hc0 zb_28_49
          have e393 : (m376 a0 49) = (m0 a0 49) := (Eq.trans (zfr_ap hfm376 hc0 rfl) (Eq.trans (zs_ne hmm374 (Or.inr (by decide))) (Eq.trans (zs_ne hmm371 (Or.inr (by decide))) (Eq.trans (zs_ne hmm367 (Or.inl (zc_ne hc0 zq_211 (by decide)))) (zs_ne hmm362 (Or.inr (by decide)))))))
          have r394 : 0 ≤ (m376 a0 45) ∧ (m376 a0 45) ≤ 96 := zi_rd hIm376 hc0 zb_28_45
          have e395 : (m376 a0 45) = (zu_w32 ((m367 a0 45) + 1)) := (Eq.trans (zfr_ap hfm376 hc0 rfl) (Eq.trans (zs_ne hmm374 (Or.inr (by decide))) (zs_eq hmm371)))
          have r396 : 0 ≤ (m376 a0 47) ∧ (m376 a0 47) ≤ 8 := zi_rd hIm376 hc0 zb_28_47
          have e397 : (m376 a0 47) = (zu_w32 ((m0 a0 47) + 1)) := (Eq.trans (zfr_ap hfm376 hc0 rfl) (Eq.trans (zs_ne hmm374 (Or.inr (by decide))) (Eq.trans (zs_ne hmm371 (Or.inr (by decide))) (Eq.trans (zs_ne hmm367 (Or.inl (zc_ne hc0 zq_211 (by decide)))) (zs_eq hmm362)))))
          have r398 : (-2147483648) ≤ (m376 a0 4) ∧ (m376 a0 4) ≤ 2147483647 := zi_rd hIm376 hc0 zb_28_4
          have e399 : (m376 a0 4) = (m0 a0 4) := (Eq.trans (zfr_ap hfm376 hc0 rfl) (Eq.trans (zs_ne hmm374 (Or.inr (by decide))) (Eq.trans (zs_ne hmm371 (Or.inr (by decide))) (Eq.trans (zs_ne hmm367 (Or.inl (zc_ne hc0 zq_211 (by decide)))) (zs_ne hmm362 (Or.inr (by decide)))))))
          exact zw_some ⟨hIm376, hFm376, hRKNm376, hRNSm376, hRTRm376, hRWDm376, ⟨by omega, by omega⟩, by omega, by omega, by omega, by omega, by omega, by omega, by omega, by omega⟩
        · refine zw_bd (zw_eq (zu_call_at (zt_T n) (zm_85 n) (zdp_85 n) _ _ _ _ _ rfl (zr_85_0 n _ _ a0 2 m0)) ?_)
          generalize hmm400 : zu_up m0 a0 4 2 = m400
          have hIm400 := zi_up hmm400 hIm0 hc0 zb_28_4 (by omega) (by omega)
          have hFm400 := zfr_up hmm400 hFm0 hc0 rfl
          have g401 := zwt_fr (zdis_fr (zfr_up hmm400 (zfr_rf [(28, 5)] _) hc0 rfl) rfl)
          have hRKNm400 := zR_KN_fr (zdis_fr (zfr_up hmm400 (zfr_rf [(28, 5)] _) hc0 rfl) rfl) hRKNm0
          have hRNSm400 := zR_NS_fr (zdis_fr (zfr_up hmm400 (zfr_rf [(28, 5)] _) hc0 rfl) rfl) hRNSm0
          have hRTRm400 := zR_TR_fr (zdis_fr (zfr_up hmm400 (zfr_rf [(28, 5)] _) hc0 rfl) rfl) hRTRm0
          have hRWDm400 := zR_WD_fr (zdis_fr (zfr_up hmm400 (zfr_rf [(28, 5)] _) hc0 rfl) rfl) hRWDm0
          have hRLRm400 := zLR_wr (zone_190 hc0) hmm400 (by decide)
          have r402 : 0 ≤ (m400 a0 10) ∧ (m400 a0 10) ≤ 700 := zi_rd hIm400 hc0 zb_28_10
          generalize hmm403 : zu_up m400 a0 5 (m400 a0 10) = m403
          have hIm403 := zi_up hmm403 hIm400 hc0 zb_28_5 (by omega) (by omega)
          have hFm403 := zfr_up hmm403 hFm400 hc0 rfl
          have g404 := zwt_fr (zdis_fr (zfr_up hmm403 (zfr_rf [(28, 6)] _) hc0 rfl) rfl)
          have hRKNm403 := zR_KN_fr (zdis_fr (zfr_up hmm403 (zfr_rf [(28, 6)] _) hc0 rfl) rfl) hRKNm400
          have hRLRm403 := zR_LR_fr (zdis_fr (zfr_up hmm403 (zfr_rf [(28, 6)] _) hc0 rfl) rfl) hRLRm400
          have hRNSm403 := zR_NS_fr (zdis_fr (zfr_up hmm403 (zfr_rf [(28, 6)] _) hc0 rfl) rfl) hRNSm400
          have hRTRm403 := zR_TR_fr (zdis_fr (zfr_up hmm403 (zfr_rf [(28, 6)] _) hc0 rfl) rfl) hRTRm400
          have hRWDm403 := zR_WD_fr (zdis_fr (zfr_up hmm403 (zfr_rf [(28, 6)] _) hc0 rfl) rfl) hRWDm400
          refine zw_b (by omega) ?_
          refine zw_some ?_
          refine zw_b (by omega) ?_
          have r405 : 0 ≤ (m403 a0 7) ∧ (m403 a0 7) ≤ 700 := zi_rd hIm403 hc0 zb_28_7
          have e406 : (m403 a0 7) = (m0 a0 7) := (Eq.trans (zs_ne hmm403 (Or.inr (by decide))) (zs_ne hmm400 (Or.inr (by decide))))
          have r407 : 0 ≤ (m403 a0 8) ∧ (m403 a0 8) ≤ 6 := zi_rd hIm403 hc0 zb_28_8
          have e408 : (m403 a0 8) = (m0 a0 8) := (Eq.trans (zs_ne hmm403 (Or.inr (by decide))) (zs_ne hmm400 (Or.inr (by decide))))
          have r409 : 0 ≤ (m403 a0 21) ∧ (m403 a0 21) ≤ 64 := zi_rd hIm403 hc0 zb_28_21
          have e410 : (m403 a0 21) = (m0 a0 21) := (Eq.trans (zs_ne hmm403 (Or.inr (by decide))) (zs_ne hmm400 (Or.inr (by decide))))
          have r411 : 0 ≤ (m403 a0 48) ∧ (m403 a0 48) ≤ 64 := zi_rd hIm403 hc0 zb_28_48
          have e412 : (m403 a0 48) = (m0 a0 48) := (Eq.trans (zs_ne hmm403 (Or.inr (by decide))) (zs_ne hmm400 (Or.inr (by decide))))
          have r413 : 0 ≤ (m403 a0 46) ∧ (m403 a0 46) ≤ 96 := zi_rd hIm403 hc0 zb_28_46
          have e414 : (m403 a0 46) = (m0 a0 46) := (Eq.trans (zs_ne hmm403 (Or.inr (by decide))) (zs_ne hmm400 (Or.inr (by decide))))
          have r415 : 0 ≤ (m403 a0 49) ∧ (m403 a0 49) ≤ 1 := zi_rd hIm403 hc0 zb_28_49
          have e416 : (m403 a0 49) = (m0 a0 49) := (Eq.trans (zs_ne hmm403 (Or.inr (by decide))) (zs_ne hmm400 (Or.inr (by decide))))
          have r417 : 0 ≤ (m403 a0 45) ∧ (m403 a0 45) ≤ 96 := zi_rd hIm403 hc0 zb_28_45
          have e418 : (m403 a0 45) = (m0 a0 45) := (Eq.trans (zs_ne hmm403 (Or.inr (by decide))) (zs_ne hmm400 (Or.inr (by decide))))
          have r419 : 0 ≤ (m403 a0 47) ∧ (m403 a0 47) ≤ 8 := zi_rd hIm403 hc0 zb_28_47
          have e420 : (m403 a0 47) = (m0 a0 47) := (Eq.trans (zs_ne hmm403 (Or.inr (by decide))) (zs_ne hmm400 (Or.inr (by decide))))
          have r421 : (-2147483648) ≤ (m403 a0 4) ∧ (m403 a0 4) ≤ 2147483647 := zi_rd hIm403 hc0 zb_28_4
          have e422 : (m403 a0 4) = 2 := (Eq.trans (zs_ne hmm403 (Or.inr (by decide))) (zs_eq hmm400))
          exact zw_some ⟨hIm403, hFm403, hRKNm403, hRNSm403, hRTRm403, hRWDm403, ⟨by omega, by omega⟩, by omega, by omega, by omega, by omega, by omega, by omega, by omega, by omega⟩

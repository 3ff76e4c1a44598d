set_option maxHeartbeats 4000000 in
theorem zk_80 (n : Nat) {a0 : Int} {m0 : zu_m} (hIm0 : zi_I m0) (hc0 : zcls a0 = 2)     (hRE115m0 : (m0 3 9 = 1 → zE m0 115 50)) (hRE89m0 : zE m0 89 50) (hRUNm0 : zR_UN m0) (hRUWm0 : zR_UW m0) : zw (zu_call (zt_T n) 80 [(5, a0)] m0) (fun v m => zi_I m ∧ zfr [(16, 3), (16, 5), (16, 9), (16, 10), (16, 11), (16, 12), (17, 1), (17, 2), (17, 3), (17, 4), (18, 1), (18, 2), (18, 3), (18, 4), (18, 5), (18, 6), (18, 7), (18, 8), (23, 5), (67, 0), (68, 0)] m0 m ∧ (m 3 9 = 1 → zE m 115 50) ∧ zE m 89 50 ∧ zR_UN m ∧ zR_UW m ∧ ((-1) ≤ v ∧ v ≤ 9999)) := by
  have hFm0 : zfr [(16, 3), (16, 5), (16, 9), (16, 10), (16, 11), (16, 12), (17, 1), (17, 2), (17, 3), (17, 4), (18, 1), (18, 2), (18, 3), (18, 4), (18, 5), (18, 6), (18, 7), (18, 8), (23, 5), (67, 0), (68, 0)] m0 m0 := zfr_rf _ _
  refine zw_eq (zu_call_at (zt_T n) (zm_80 n) (zdp_80 n) _ _ _ _ _ rfl (zr_80_0 n _ _ a0 m0)) ?_
  have r1 : 0 ≤ (m0 a0 9) ∧ (m0 a0 9) ≤ 1 := zi_rd hIm0 hc0 zb_2_9
  refine zw_ite (fun h2 => ?_) (fun h2 => ?_)
  · refine zw_bd (zw_mono (zk_22_16_19 n hIm0 zq_89 zq_115) (fun v4 m3 hqm3 => ?_))
    obtain ⟨hIm3, hfm3, hvm3⟩ := hqm3
    have hFm3 := zfr_tr hFm0 hfm3 rfl
    have hRE115m3 := zR_E115_fr (zdis_fr hfm3 rfl) hRE115m0
    have hRUWm3 := zR_UW_fr (zdis_fr hfm3 rfl) hRUWm0
    have hRE89m3 : zE m3 89 50 := (hvm3.2) (zE5_ap hRE115m0 (zone_3 hc0) (by omega))
    refine zw_bd (zw_mono (zk_28 n hIm3 zq_148) (fun v6 m5 hqm5 => ?_))
    obtain ⟨hIm5, hfm5, hvm5⟩ := hqm5
    have hFm5 := zfr_tr hFm3 hfm5 rfl
    obtain ⟨hRUNm5, hRUWm5, hvm5⟩ := hvm5
    have hRE115m5 := zR_E115_fr (zdis_fr hfm5 rfl) hRE115m3
    have hRE89m5 := zR_E89_fr (zdis_fr hfm5 rfl) hRE89m3
    have r7 : 0 ≤ (m5 89 8) ∧ (m5 89 8) ≤ 9999 := zi_rd hIm5 zq_89 zb_16_8
    exact zw_some ⟨hIm5, hFm5, hRE115m5, hRE89m5, hRUNm5, hRUWm5, ⟨by omega, by omega⟩⟩
  · exact zw_some ⟨hIm0, hFm0, hRE115m0, hRE89m0, hRUNm0, hRUWm0, ⟨by omega, by omega⟩⟩
set_option maxHeartbeats 4000000 in
theorem zk_81 (n : Nat) {a0 a1 : Int} {m0 : zu_m} (hIm0 : zi_I m0) (hc0 : zcls a0 = 2) (ha1 : (-2147483648) ≤ a1 ∧ a1 ≤ 2147483647)     : zw (zu_call (zt_T n) 81 [(5, a0), (0, a1)] m0) (fun v m => zi_I m ∧ zfr [] m0 m ∧ ((-2147483648) ≤ v ∧ v ≤ 2147483647)) := by
  have hFm0 : zfr [] m0 m0 := zfr_rf _ _
  refine zw_eq (zu_call_at (zt_T n) (zm_81 n) (zdp_81 n) _ _ _ _ _ rfl (zr_81_0 n _ _ a0 a1 m0)) ?_
  refine zw_ite (fun h1 => ?_) (fun h1 => ?_)
  · have r2 : 1 ≤ (m0 50 0) ∧ (m0 50 0) ≤ 8 := zi_rd hIm0 zq_50 zb_11_0
    exact zw_some ⟨hIm0, hFm0, ⟨by omega, by omega⟩⟩
  · refine zw_ite (fun h3 => ?_) (fun h3 => ?_)
    · have r4 : 1 ≤ (m0 50 1) ∧ (m0 50 1) ≤ 6 := zi_rd hIm0 zq_50 zb_11_1
      exact zw_some ⟨hIm0, hFm0, ⟨by omega, by omega⟩⟩
    · refine zw_ite (fun h5 => ?_) (fun h5 => ?_)
      · have r6 : 0 ≤ (m0 89 2) ∧ (m0 89 2) ≤ 16 := zi_rd hIm0 zq_89 zb_16_2
        exact zw_some ⟨hIm0, hFm0, ⟨by omega, by omega⟩⟩
      · refine zw_ite (fun h7 => ?_) (fun h7 => ?_)
        · have r8 : 0 ≤ (m0 89 4) ∧ (m0 89 4) ≤ 4 := zi_rd hIm0 zq_89 zb_16_4
          exact zw_some ⟨hIm0, hFm0, ⟨by omega, by omega⟩⟩
        · refine zw_ite (fun h9 => ?_) (fun h9 => ?_)
          · have r10 : 0 ≤ (m0 (50 + 4) 5) ∧ (m0 (50 + 4) 5) ≤ 64 := zi_rd hIm0 (zc_11_9 zq_50) zb_12_5
            exact zw_some ⟨hIm0, hFm0, ⟨by omega, by omega⟩⟩
          · refine zw_ite (fun h11 => ?_) (fun h11 => ?_)
            · have r12 : 0 ≤ (m0 89 8) ∧ (m0 89 8) ≤ 9999 := zi_rd hIm0 zq_89 zb_16_8
              exact zw_some ⟨hIm0, hFm0, ⟨by omega, by omega⟩⟩
            · refine zw_ite (fun h13 => ?_) (fun h13 => ?_)
              · refine zw_bd (zw_mono (zk_233 n hIm0 zq_89 ⟨by omega, by omega⟩) (fun v15 m14 hqm14 => ?_))
                obtain ⟨hIm14, hfm14, hvm14⟩ := hqm14
                have hFm14 := zfr_tr hFm0 hfm14 rfl
                exact zw_some ⟨hIm14, hFm14, ⟨by omega, by omega⟩⟩
              · refine zw_ite (fun h16 => ?_) (fun h16 => ?_)
                · refine zw_bd (zw_mono (zk_234_16 n hIm0 zq_89) (fun v18 m17 hqm17 => ?_))
                  obtain ⟨hIm17, hfm17, hvm17⟩ := hqm17
                  have hFm17 := zfr_tr hFm0 hfm17 rfl
                  exact zw_some ⟨hIm17, hFm17, ⟨by omega, by omega⟩⟩
                · refine zw_ite (fun h19 => ?_) (fun h19 => ?_)
                  · refine zw_bd (zw_mono (zk_233 n hIm0 zq_89 ⟨by omega, by omega⟩) (fun v21 m20 hqm20 => ?_))
                    obtain ⟨hIm20, hfm20, hvm20⟩ := hqm20
                    have hFm20 := zfr_tr hFm0 hfm20 rfl
                    exact zw_some ⟨hIm20, hFm20, ⟨by omega, by omega⟩⟩
                  · refine zw_ite (fun h22 => ?_) (fun h22 => ?_)
                    · refine zw_bd (zw_mono (zk_233 n hIm0 zq_89 ⟨by omega, by omega⟩) (fun v24 m23 hqm23 => ?_))
                      obtain ⟨hIm23, hfm23, hvm23⟩ := hqm23
                      have hFm23 := zfr_tr hFm0 hfm23 rfl
                      exact zw_some ⟨hIm23, hFm23, ⟨by omega, by omega⟩⟩
                    · refine zw_ite (fun h25 => ?_) (fun h25 => ?_)
                      · refine zw_bd (zw_mono (zk_235 n hIm0 zq_89) (fun v27 m26 hqm26 => ?_))
                        obtain ⟨hIm26, hfm26, hvm26⟩ := hqm26
                        have hFm26 := zfr_tr hFm0 hfm26 rfl
                        exact zw_some ⟨hIm26, hFm26, ⟨by omega, by omega⟩⟩
                      · refine zw_ite (fun h28 => ?_) (fun h28 => ?_)
                        · have r29 : 0 ≤ (m0 89 10) ∧ (m0 89 10) ≤ 3 := zi_rd hIm0 zq_89 zb_16_10
                          exact zw_some ⟨hIm0, hFm0, ⟨by omega, by omega⟩⟩
                        · refine zw_ite (fun h30 => ?_) (fun h30 => ?_)
                          · have r31 : 0 ≤ (m0 141 6) ∧ (m0 141 6) ≤ 24 := zi_rd hIm0 zq_141 zb_22_6
                            exact zw_some ⟨hIm0, hFm0, ⟨by omega, by omega⟩⟩
                          · refine zw_ite (fun h32 => ?_) (fun h32 => ?_)
                            · refine zw_bd (zw_eq (zu_call_at (zt_T n) (zm_271 n) (zdp_271 n) _ _ _ _ _ rfl (zr_271_0 n _ _ 141 m0)) ?_)
                              have r33 : (-1) ≤ (m0 141 7) ∧ (m0 141 7) ≤ 24 := zi_rd hIm0 zq_141 zb_22_7
                              refine zw_ite (fun h34 => ?_) (fun h34 => ?_)
                              · refine zw_some ?_
                                exact zw_some ⟨hIm0, hFm0, ⟨by omega, by omega⟩⟩
                              · have r35 : 0 ≤ (m0 141 6) ∧ (m0 141 6) ≤ 24 := zi_rd hIm0 zq_141 zb_22_6
                                refine zw_some ?_
                                exact zw_some ⟨hIm0, hFm0, ⟨by omega, by omega⟩⟩
                            · refine zw_ite (fun h36 => ?_) (fun h36 => ?_)
                              · have r37 : 0 ≤ (m0 148 4) ∧ (m0 148 4) ≤ 20 := zi_rd hIm0 zq_148 zb_23_4
                                exact zw_some ⟨hIm0, hFm0, ⟨by omega, by omega⟩⟩
                              · refine zw_ite (fun h38 => ?_) (fun h38 => ?_)
                                · refine zw_bd (zw_mono (zk_239_16 n hIm0 zq_89) (fun v40 m39 hqm39 => ?_))
                                  obtain ⟨hIm39, hfm39, hvm39⟩ := hqm39
                                  have hFm39 := zfr_tr hFm0 hfm39 rfl
                                  exact zw_some ⟨hIm39, hFm39, ⟨by omega, by omega⟩⟩
                                · exact zw_some ⟨hIm0, hFm0, ⟨by omega, by omega⟩⟩
set_option maxHeartbeats 4000000 in
theorem zk_116 (n : Nat) {a0 : Int} {m0 : zu_m} (hIm0 : zi_I m0) (hc0 : zcls a0 = 28)   (he0 : 1 ≤ m0 a0 49 ∧ m0 a0 49 ≤ 1) (hxp0 : (m0 a0 21) + znz m0 = (m0 a0 48)) (hxp1 : (m0 a0 45) = znz m0 + (m0 a0 47)) (hxp2 : (m0 a0 46) = zbi m0) (hxp3 : (m0 a0 49) = 1) (hRKNm0 : zR_KN m0) (hRNSm0 : zR_NS m0) (hRTRm0 : zR_TR m0) (hRWDm0 : zR_WD m0) : zw (zu_call (zt_T n) 116 [(40, a0)] m0) (fun v m => zi_I m ∧ zfr [(28, 5), (28, 6), (28, 8), (28, 9), (28, 10), (28, 11), (28, 22), (28, 46), (28, 47), (28, 48), (28, 49), (28, 50), (28, 51), (117, 0), (118, 0), (119, 0), (120, 0), (121, 0)] m0 m ∧ zR_KN m ∧ zR_NS m ∧ zR_TR m ∧ zR_WD m ∧ (0 ≤ v ∧ v ≤ 1) ∧ ((m0 a0 7) ≤ (m a0 7)) ∧ (v = 1 → ((m0 a0 8) ≠ 0 ∧ ((m a0 8) = 0 ∨ (m0 a0 7) < (m a0 7)))) ∧ (v = 1 → (m a0 21) + znz m = (m a0 48)) ∧ (v = 1 → (m a0 46) + (m a0 49) = zbi m + 1) ∧ (v = 1 → (m a0 45) = znz m + (m a0 47)) ∧ (v = 1 → ((m a0 49) = 0 → 1 ≤ (m a0 21))) ∧ (v = 1 → (m a0 4) = (m0 a0 4)) ∧ (v = 0 → (m a0 4) ≠ 0)) := by
  sorry

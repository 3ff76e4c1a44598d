set_option maxHeartbeats 4000000 in
theorem zk_264 (n : Nat) {a0 : Int} {m0 : zu_m} (hIm0 : zi_I m0) (hc0 : zcls a0 = 3)     (hRCTm0 : (m0 5 6 = 0 → m0 19 4 = 0)) (hRE19m0 : zE m0 19 6) (hRG6m0 : (m0 6 2 = m0 6 0 * m0 6 1)) : zw (zu_call (zt_T n) 264 [(7, a0)] m0) (fun v m => zi_I m ∧ zfr [(3, 5), (3, 8), (3, 10), (3, 11), (4, 1), (4, 2), (4, 3), (9, 4), (9, 5), (9, 6), (9, 7), (30, 0), (31, 0)] m0 m ∧ (m 5 6 = 0 → m 19 4 = 0) ∧ zE m 19 6 ∧ (m 6 2 = m 6 0 * m 6 1) ∧ (0 ≤ v ∧ v ≤ 1)) := by
  have hFm0 : zfr [(3, 5), (3, 8), (3, 10), (3, 11), (4, 1), (4, 2), (4, 3), (9, 4), (9, 5), (9, 6), (9, 7), (30, 0), (31, 0)] m0 m0 := zfr_rf _ _
  refine zw_eq (zu_call_at (zt_T n) (zm_264 n) (zdp_264 n) _ _ _ _ _ rfl (zr_264_0 n _ _ a0 m0)) ?_
  refine zw_bd (zw_eq (zu_call_at (zt_T n) (zm_263 n) (zdp_263 n) _ _ _ _ _ rfl (zr_263_0 n _ _ a0 0 m0)) ?_)
  have r1 : (-2147483648) ≤ (m0 a0 4) ∧ (m0 a0 4) ≤ 2147483647 := zi_rd hIm0 hc0 zb_3_4
  have b2 := zu_i32_rg 6 (m0 a0 4) 0
  have b3 := zu_i32_rg 3 (zu_i32 6 (m0 a0 4) 0) 1
  refine zw_ite (fun h4 => ?_) (fun h4 => ?_)
  · have b5 := zu_i32_rg 5 1 0
    have b6 := zu_i32_rg 4 (m0 a0 4) (zu_i32 5 1 0)
    generalize hmm7 : zu_up m0 a0 4 (zu_i32 4 (m0 a0 4) (zu_i32 5 1 0)) = m7
    have hIm7 := zi_up hmm7 hIm0 hc0 zb_3_4 (by omega) (by omega)
    have hFm7 := zfr_up hmm7 hFm0 hc0 rfl
    have hRCTm7 := zR_CT_fr (zdis_fr (zfr_up hmm7 (zfr_rf [(3, 5)] _) hc0 rfl) rfl) hRCTm0
    have hRE19m7 := zR_E19_fr (zdis_fr (zfr_up hmm7 (zfr_rf [(3, 5)] _) hc0 rfl) rfl) hRE19m0
    have hRG6m7 := zR_G6_fr (zdis_fr (zfr_up hmm7 (zfr_rf [(3, 5)] _) hc0 rfl) rfl) hRG6m0
    refine zw_b (by omega) ?_
    refine zw_some ?_
    refine zw_ite (fun h8 => ?_) (fun h8 => ?_)
    · have r9 : 0 ≤ (m7 a0 6) ∧ (m7 a0 6) ≤ 1 := zi_rd hIm7 hc0 zb_3_6
      refine zw_ite (fun h10 => ?_) (fun h10 => ?_)
      · refine zw_bd (zw_eq (zu_call_at (zt_T n) (zm_260 n) (zdp_260 n) _ _ _ _ _ rfl (zr_260_0 n _ _ a0 1 8 m7)) ?_)
        refine zw_bd (zw_mono (zk_18 n hIm7 zq_45) (fun v12 m11 hqm11 => ?_))
        obtain ⟨hIm11, hfm11, hvm11⟩ := hqm11
        have hFm11 := zfr_tr hFm7 hfm11 rfl
        obtain ⟨hRTVm11, hvm11⟩ := hvm11
        have hRCTm11 := zR_CT_fr (zdis_fr hfm11 rfl) hRCTm7
        have hRE19m11 := zR_E19_fr (zdis_fr hfm11 rfl) hRE19m7
        have hRG6m11 := zR_G6_fr (zdis_fr hfm11 rfl) hRG6m7
        have s13 := hRTVm11 45 zq_45
        have r14 : 0 ≤ (m11 45 4) ∧ (m11 45 4) ≤ 5 := zi_rd hIm11 zq_45 zb_9_4
        refine zw_ite (fun h15 => ?_) (fun h15 => ?_)
        · have r16 : (-2147483648) ≤ (m11 45 5) ∧ (m11 45 5) ≤ 2147483647 := zi_rd hIm11 zq_45 zb_9_5
          generalize hmm17 : zu_up m11 a0 7 (m11 45 5) = m17
          have hIm17 := zi_up hmm17 hIm11 hc0 zb_3_7 (by omega) (by omega)
          have hFm17 := zfr_up hmm17 hFm11 hc0 rfl
          have hRCTm17 := zR_CT_fr (zdis_fr (zfr_up hmm17 (zfr_rf [(3, 8)] _) hc0 rfl) rfl) hRCTm11
          have hRE19m17 := zR_E19_fr (zdis_fr (zfr_up hmm17 (zfr_rf [(3, 8)] _) hc0 rfl) rfl) hRE19m11
          have hRG6m17 := zR_G6_fr (zdis_fr (zfr_up hmm17 (zfr_rf [(3, 8)] _) hc0 rfl) rfl) hRG6m11
          have hRTVm17 := zR_TV_fr (zdis_fr (zfr_up hmm17 (zfr_rf [(3, 8)] _) hc0 rfl) rfl) hRTVm11
          have r18 : (-2147483648) ≤ (m17 a0 7) ∧ (m17 a0 7) ≤ 2147483647 := zi_rd hIm17 hc0 zb_3_7
          have e19 : (m17 a0 7) = (m11 45 5) := (zs_eq hmm17)
          refine zw_ite (fun h20 => ?_) (fun h20 => ?_)
          · refine zw_bd (zw_eq (zu_call_at (zt_T n) (zm_257 n) (zdp_257 n) _ _ _ _ _ rfl (zr_257_0 n _ _ a0 2 m17)) ?_)
            generalize hmm21 : zu_up m17 a0 9 2 = m21
            have hIm21 := zi_up hmm21 hIm17 hc0 zb_3_9 (by omega) (by omega)
            have hFm21 := zfr_up hmm21 hFm17 hc0 rfl
            have hRCTm21 := zR_CT_fr (zdis_fr (zfr_up hmm21 (zfr_rf [(3, 10)] _) hc0 rfl) rfl) hRCTm17
            have hRE19m21 := zR_E19_fr (zdis_fr (zfr_up hmm21 (zfr_rf [(3, 10)] _) hc0 rfl) rfl) hRE19m17
            have hRG6m21 := zR_G6_fr (zdis_fr (zfr_up hmm21 (zfr_rf [(3, 10)] _) hc0 rfl) rfl) hRG6m17
            have hRTVm21 := zR_TV_fr (zdis_fr (zfr_up hmm21 (zfr_rf [(3, 10)] _) hc0 rfl) rfl) hRTVm17
            have r22 : 0 ≤ (m21 45 6) ∧ (m21 45 6) ≤ 700 := zi_rd hIm21 zq_45 zb_9_6
            generalize hmm23 : zu_up m21 a0 10 (m21 45 6) = m23
            have hIm23 := zi_up hmm23 hIm21 hc0 zb_3_10 (by omega) (by omega)
            have hFm23 := zfr_up hmm23 hFm21 hc0 rfl
            have hRCTm23 := zR_CT_fr (zdis_fr (zfr_up hmm23 (zfr_rf [(3, 11)] _) hc0 rfl) rfl) hRCTm21
            have hRE19m23 := zR_E19_fr (zdis_fr (zfr_up hmm23 (zfr_rf [(3, 11)] _) hc0 rfl) rfl) hRE19m21
            have hRG6m23 := zR_G6_fr (zdis_fr (zfr_up hmm23 (zfr_rf [(3, 11)] _) hc0 rfl) rfl) hRG6m21
            have hRTVm23 := zR_TV_fr (zdis_fr (zfr_up hmm23 (zfr_rf [(3, 11)] _) hc0 rfl) rfl) hRTVm21
            refine zw_b (by omega) ?_
            refine zw_some ?_
            refine zw_ite (fun h24 => ?_) (fun h24 => ?_)
            · refine zw_b (by omega) ?_
              refine zw_some ?_
              refine zw_ite (fun h25 => ?_) (fun h25 => ?_)
              · exfalso; omega
              · refine zw_b (by omega) ?_
                exact zw_some ⟨hIm23, hFm23, hRCTm23, hRE19m23, hRG6m23, ⟨by decide, by decide⟩⟩
            · exfalso; omega
          · refine zw_ite (fun h26 => ?_) (fun h26 => ?_)
            · refine zw_b (by omega) ?_
              refine zw_some ?_
              refine zw_ite (fun h27 => ?_) (fun h27 => ?_)
              · refine zw_bd (zw_eq (zu_call_at (zt_T n) (zm_260 n) (zdp_260 n) _ _ _ _ _ rfl (zr_260_0 n _ _ a0 1 6 m17)) ?_)
                refine zw_bd (zw_mono (zk_18 n hIm17 zq_45) (fun v29 m28 hqm28 => ?_))
                obtain ⟨hIm28, hfm28, hvm28⟩ := hqm28
                have hFm28 := zfr_tr hFm17 hfm28 rfl
                obtain ⟨hRTVm28, hvm28⟩ := hvm28
                have hRCTm28 := zR_CT_fr (zdis_fr hfm28 rfl) hRCTm17
                have hRE19m28 := zR_E19_fr (zdis_fr hfm28 rfl) hRE19m17
                have hRG6m28 := zR_G6_fr (zdis_fr hfm28 rfl) hRG6m17
                have s30 := hRTVm28 45 zq_45
                have r31 : 0 ≤ (m28 45 4) ∧ (m28 45 4) ≤ 5 := zi_rd hIm28 zq_45 zb_9_4
                refine zw_ite (fun h32 => ?_) (fun h32 => ?_)
                · have r33 : (-2147483648) ≤ (m28 45 5) ∧ (m28 45 5) ≤ 2147483647 := zi_rd hIm28 zq_45 zb_9_5
                  generalize hmm34 : zu_up m28 a0 7 (m28 45 5) = m34
                  have hIm34 := zi_up hmm34 hIm28 hc0 zb_3_7 (by omega) (by omega)
                  have hFm34 := zfr_up hmm34 hFm28 hc0 rfl
                  have hRCTm34 := zR_CT_fr (zdis_fr (zfr_up hmm34 (zfr_rf [(3, 8)] _) hc0 rfl) rfl) hRCTm28
                  have hRE19m34 := zR_E19_fr (zdis_fr (zfr_up hmm34 (zfr_rf [(3, 8)] _) hc0 rfl) rfl) hRE19m28
                  have hRG6m34 := zR_G6_fr (zdis_fr (zfr_up hmm34 (zfr_rf [(3, 8)] _) hc0 rfl) rfl) hRG6m28
                  have hRTVm34 := zR_TV_fr (zdis_fr (zfr_up hmm34 (zfr_rf [(3, 8)] _) hc0 rfl) rfl) hRTVm28
                  have r35 : (-2147483648) ≤ (m34 a0 7) ∧ (m34 a0 7) ≤ 2147483647 := zi_rd hIm34 hc0 zb_3_7
                  have e36 : (m34 a0 7) = (m28 45 5) := (zs_eq hmm34)
                  refine zw_ite (fun h37 => ?_) (fun h37 => ?_)
                  · refine zw_bd (zw_eq (zu_call_at (zt_T n) (zm_257 n) (zdp_257 n) _ _ _ _ _ rfl (zr_257_0 n _ _ a0 2 m34)) ?_)
                    generalize hmm38 : zu_up m34 a0 9 2 = m38
                    have hIm38 := zi_up hmm38 hIm34 hc0 zb_3_9 (by omega) (by omega)
                    have hFm38 := zfr_up hmm38 hFm34 hc0 rfl
                    have hRCTm38 := zR_CT_fr (zdis_fr (zfr_up hmm38 (zfr_rf [(3, 10)] _) hc0 rfl) rfl) hRCTm34
                    have hRE19m38 := zR_E19_fr (zdis_fr (zfr_up hmm38 (zfr_rf [(3, 10)] _) hc0 rfl) rfl) hRE19m34
                    have hRG6m38 := zR_G6_fr (zdis_fr (zfr_up hmm38 (zfr_rf [(3, 10)] _) hc0 rfl) rfl) hRG6m34
                    have hRTVm38 := zR_TV_fr (zdis_fr (zfr_up hmm38 (zfr_rf [(3, 10)] _) hc0 rfl) rfl) hRTVm34
                    have r39 : 0 ≤ (m38 45 6) ∧ (m38 45 6) ≤ 700 := zi_rd hIm38 zq_45 zb_9_6
                    generalize hmm40 : zu_up m38 a0 10 (m38 45 6) = m40
                    have hIm40 := zi_up hmm40 hIm38 hc0 zb_3_10 (by omega) (by omega)
                    have hFm40 := zfr_up hmm40 hFm38 hc0 rfl
                    have hRCTm40 := zR_CT_fr (zdis_fr (zfr_up hmm40 (zfr_rf [(3, 11)] _) hc0 rfl) rfl) hRCTm38
                    have hRE19m40 := zR_E19_fr (zdis_fr (zfr_up hmm40 (zfr_rf [(3, 11)] _) hc0 rfl) rfl) hRE19m38
                    have hRG6m40 := zR_G6_fr (zdis_fr (zfr_up hmm40 (zfr_rf [(3, 11)] _) hc0 rfl) rfl) hRG6m38
                    have hRTVm40 := zR_TV_fr (zdis_fr (zfr_up hmm40 (zfr_rf [(3, 11)] _) hc0 rfl) rfl) hRTVm38
                    refine zw_b (by omega) ?_
                    refine zw_some ?_
                    refine zw_ite (fun h41 => ?_) (fun h41 => ?_)
                    · refine zw_b (by omega) ?_
                      refine zw_some ?_
                      refine zw_ite (fun h42 => ?_) (fun h42 => ?_)
                      · exfalso; omega
                      · refine zw_b (by omega) ?_
                        exact zw_some ⟨hIm40, hFm40, hRCTm40, hRE19m40, hRG6m40, ⟨by decide, by decide⟩⟩
                    · exfalso; omega
                  · refine zw_ite (fun h43 => ?_) (fun h43 => ?_)
                    · refine zw_b (by omega) ?_
                      refine zw_some ?_
                      refine zw_ite (fun h44 => ?_) (fun h44 => ?_)
                      · refine zw_bd (zw_mono (zk_15_4 n hIm34 zq_6 ⟨by omega, by omega⟩ ⟨by omega, by omega⟩) (fun v46 m45 hqm45 => ?_))
                        obtain ⟨hIm45, hfm45, hvm45⟩ := hqm45
                        have hFm45 := zfr_tr hFm34 hfm45 rfl
                        obtain ⟨hRG6m45, hvm45⟩ := hvm45
                        have hRCTm45 := zR_CT_fr (zdis_fr hfm45 rfl) hRCTm34
                        have hRTVm45 := zR_TV_fr (zdis_fr hfm45 rfl) hRTVm34
                        have s47 := hRTVm45 45 zq_45
                        have r48 : 1 ≤ (m45 6 0) ∧ (m45 6 0) ≤ 8 := zi_rd hIm45 zq_6 zb_4_0
                        have r49 : 1 ≤ (m45 6 1) ∧ (m45 6 1) ≤ 6 := zi_rd hIm45 zq_6 zb_4_1
                        have r50 : 1 ≤ (m45 6 2) ∧ (m45 6 2) ≤ 48 := zi_rd hIm45 zq_6 zb_4_2
                        have r51 : 0 ≤ (m45 a0 6) ∧ (m45 a0 6) ≤ 1 := zi_rd hIm45 hc0 zb_3_6
                        have e52 : (m45 a0 6) = (m7 a0 6) := (Eq.trans (zfr_ap hfm45 hc0 rfl) (Eq.trans (zs_ne hmm34 (Or.inr (by decide))) (Eq.trans (zfr_ap hfm28 hc0 rfl) (Eq.trans (zs_ne hmm17 (Or.inr (by decide))) (zfr_ap hfm11 hc0 rfl)))))
                        have hzm45 := zCT_ap hRCTm45 (zone_5 hc0) (by omega)
                        have hRE19m45 : zE m45 19 6 := zE_zero rfl (by omega)
                        refine zw_b (by omega) ?_
                        exact zw_some ⟨hIm45, hFm45, hRCTm45, hRE19m45, hRG6m45, ⟨by decide, by decide⟩⟩
                      · exfalso; omega
                    · refine zw_bd (zw_eq (zu_call_at (zt_T n) (zm_257 n) (zdp_257 n) _ _ _ _ _ rfl (zr_257_0 n _ _ a0 2 m34)) ?_)
                      generalize hmm53 : zu_up m34 a0 9 2 = m53
                      have hIm53 := zi_up hmm53 hIm34 hc0 zb_3_9 (by omega) (by omega)
                      have hFm53 := zfr_up hmm53 hFm34 hc0 rfl
                      have hRCTm53 := zR_CT_fr (zdis_fr (zfr_up hmm53 (zfr_rf [(3, 10)] _) hc0 rfl) rfl) hRCTm34
                      have hRE19m53 := zR_E19_fr (zdis_fr (zfr_up hmm53 (zfr_rf [(3, 10)] _) hc0 rfl) rfl) hRE19m34
                      have hRG6m53 := zR_G6_fr (zdis_fr (zfr_up hmm53 (zfr_rf [(3, 10)] _) hc0 rfl) rfl) hRG6m34
                      have hRTVm53 := zR_TV_fr (zdis_fr (zfr_up hmm53 (zfr_rf [(3, 10)] _) hc0 rfl) rfl) hRTVm34
                      have r54 : 0 ≤ (m53 45 6) ∧ (m53 45 6) ≤ 700 := zi_rd hIm53 zq_45 zb_9_6
                      generalize hmm55 : zu_up m53 a0 10 (m53 45 6) = m55
                      have hIm55 := zi_up hmm55 hIm53 hc0 zb_3_10 (by omega) (by omega)
                      have hFm55 := zfr_up hmm55 hFm53 hc0 rfl
                      have hRCTm55 := zR_CT_fr (zdis_fr (zfr_up hmm55 (zfr_rf [(3, 11)] _) hc0 rfl) rfl) hRCTm53
                      have hRE19m55 := zR_E19_fr (zdis_fr (zfr_up hmm55 (zfr_rf [(3, 11)] _) hc0 rfl) rfl) hRE19m53
                      have hRG6m55 := zR_G6_fr (zdis_fr (zfr_up hmm55 (zfr_rf [(3, 11)] _) hc0 rfl) rfl) hRG6m53
                      have hRTVm55 := zR_TV_fr (zdis_fr (zfr_up hmm55 (zfr_rf [(3, 11)] _) hc0 rfl) rfl) hRTVm53
                      refine zw_b (by omega) ?_
                      refine zw_some ?_
                      refine zw_ite (fun h56 => ?_) (fun h56 => ?_)
                      · refine zw_b (by omega) ?_
                        refine zw_some ?_
                        refine zw_ite (fun h57 => ?_) (fun h57 => ?_)
                        · exfalso; omega
                        · refine zw_b (by omega) ?_
                          exact zw_some ⟨hIm55, hFm55, hRCTm55, hRE19m55, hRG6m55, ⟨by decide, by decide⟩⟩
                      · exfalso; omega
                · refine zw_bd (zw_eq (zu_call_at (zt_T n) (zm_257 n) (zdp_257 n) _ _ _ _ _ rfl (zr_257_0 n _ _ a0 1 m28)) ?_)
                  generalize hmm58 : zu_up m28 a0 9 1 = m58
                  have hIm58 := zi_up hmm58 hIm28 hc0 zb_3_9 (by omega) (by omega)
                  have hFm58 := zfr_up hmm58 hFm28 hc0 rfl
                  have hRCTm58 := zR_CT_fr (zdis_fr (zfr_up hmm58 (zfr_rf [(3, 10)] _) hc0 rfl) rfl) hRCTm28
                  have hRE19m58 := zR_E19_fr (zdis_fr (zfr_up hmm58 (zfr_rf [(3, 10)] _) hc0 rfl) rfl) hRE19m28
                  have hRG6m58 := zR_G6_fr (zdis_fr (zfr_up hmm58 (zfr_rf [(3, 10)] _) hc0 rfl) rfl) hRG6m28
                  have hRTVm58 := zR_TV_fr (zdis_fr (zfr_up hmm58 (zfr_rf [(3, 10)] _) hc0 rfl) rfl) hRTVm28
                  have r59 : 0 ≤ (m58 45 6) ∧ (m58 45 6) ≤ 700 := zi_rd hIm58 zq_45 zb_9_6
                  generalize hmm60 : zu_up m58 a0 10 (m58 45 6) = m60
                  have hIm60 := zi_up hmm60 hIm58 hc0 zb_3_10 (by omega) (by omega)
                  have hFm60 := zfr_up hmm60 hFm58 hc0 rfl
                  have hRCTm60 := zR_CT_fr (zdis_fr (zfr_up hmm60 (zfr_rf [(3, 11)] _) hc0 rfl) rfl) hRCTm58
                  have hRE19m60 := zR_E19_fr (zdis_fr (zfr_up hmm60 (zfr_rf [(3, 11)] _) hc0 rfl) rfl) hRE19m58
                  have hRG6m60 := zR_G6_fr (zdis_fr (zfr_up hmm60 (zfr_rf [(3, 11)] _) hc0 rfl) rfl) hRG6m58
                  have hRTVm60 := zR_TV_fr (zdis_fr (zfr_up hmm60 (zfr_rf [(3, 11)] _) hc0 rfl) rfl) hRTVm58
                  refine zw_b (by omega) ?_
                  refine zw_some ?_
                  refine zw_b (by omega) ?_
                  refine zw_some ?_
                  refine zw_ite (fun h61 => ?_) (fun h61 => ?_)
                  · exfalso; omega
                  · refine zw_b (by omega) ?_
                    exact zw_some ⟨hIm60, hFm60, hRCTm60, hRE19m60, hRG6m60, ⟨by decide, by decide⟩⟩
              · exfalso; omega
            · refine zw_bd (zw_eq (zu_call_at (zt_T n) (zm_257 n) (zdp_257 n) _ _ _ _ _ rfl (zr_257_0 n _ _ a0 2 m17)) ?_)
              generalize hmm62 : zu_up m17 a0 9 2 = m62
              have hIm62 := zi_up hmm62 hIm17 hc0 zb_3_9 (by omega) (by omega)
              have hFm62 := zfr_up hmm62 hFm17 hc0 rfl
              have hRCTm62 := zR_CT_fr (zdis_fr (zfr_up hmm62 (zfr_rf [(3, 10)] _) hc0 rfl) rfl) hRCTm17
              have hRE19m62 := zR_E19_fr (zdis_fr (zfr_up hmm62 (zfr_rf [(3, 10)] _) hc0 rfl) rfl) hRE19m17
              have hRG6m62 := zR_G6_fr (zdis_fr (zfr_up hmm62 (zfr_rf [(3, 10)] _) hc0 rfl) rfl) hRG6m17
              have hRTVm62 := zR_TV_fr (zdis_fr (zfr_up hmm62 (zfr_rf [(3, 10)] _) hc0 rfl) rfl) hRTVm17
              have r63 : 0 ≤ (m62 45 6) ∧ (m62 45 6) ≤ 700 := zi_rd hIm62 zq_45 zb_9_6
              generalize hmm64 : zu_up m62 a0 10 (m62 45 6) = m64
              have hIm64 := zi_up hmm64 hIm62 hc0 zb_3_10 (by omega) (by omega)
              have hFm64 := zfr_up hmm64 hFm62 hc0 rfl
              have hRCTm64 := zR_CT_fr (zdis_fr (zfr_up hmm64 (zfr_rf [(3, 11)] _) hc0 rfl) rfl) hRCTm62
              have hRE19m64 := zR_E19_fr (zdis_fr (zfr_up hmm64 (zfr_rf [(3, 11)] _) hc0 rfl) rfl) hRE19m62
              have hRG6m64 := zR_G6_fr (zdis_fr (zfr_up hmm64 (zfr_rf [(3, 11)] _) hc0 rfl) rfl) hRG6m62
              have hRTVm64 := zR_TV_fr (zdis_fr (zfr_up hmm64 (zfr_rf [(3, 11)] _) hc0 rfl) rfl) hRTVm62
              refine zw_b (by omega) ?_
              refine zw_some ?_
              refine zw_ite (fun h65 => ?_) (fun h65 => ?_)
              · refine zw_b (by omega) ?_
                refine zw_some ?_
                refine zw_ite (fun h66 => ?_) (fun h66 => ?_)
                · exfalso; omega
                · refine zw_b (by omega) ?_
                  exact zw_some ⟨hIm64, hFm64, hRCTm64, hRE19m64, hRG6m64, ⟨by decide, by decide⟩⟩
              · exfalso; omega
        · refine zw_bd (zw_eq (zu_call_at (zt_T n) (zm_257 n) (zdp_257 n) _ _ _ _ _ rfl (zr_257_0 n _ _ a0 1 m11)) ?_)
          generalize hmm67 : zu_up m11 a0 9 1 = m67
          have hIm67 := zi_up hmm67 hIm11 hc0 zb_3_9 (by omega) (by omega)
          have hFm67 := zfr_up hmm67 hFm11 hc0 rfl
          have hRCTm67 := zR_CT_fr (zdis_fr (zfr_up hmm67 (zfr_rf [(3, 10)] _) hc0 rfl) rfl) hRCTm11
          have hRE19m67 := zR_E19_fr (zdis_fr (zfr_up hmm67 (zfr_rf [(3, 10)] _) hc0 rfl) rfl) hRE19m11
          have hRG6m67 := zR_G6_fr (zdis_fr (zfr_up hmm67 (zfr_rf [(3, 10)] _) hc0 rfl) rfl) hRG6m11
          have hRTVm67 := zR_TV_fr (zdis_fr (zfr_up hmm67 (zfr_rf [(3, 10)] _) hc0 rfl) rfl) hRTVm11
          have r68 : 0 ≤ (m67 45 6) ∧ (m67 45 6) ≤ 700 := zi_rd hIm67 zq_45 zb_9_6
          generalize hmm69 : zu_up m67 a0 10 (m67 45 6) = m69
          have hIm69 := zi_up hmm69 hIm67 hc0 zb_3_10 (by omega) (by omega)
          have hFm69 := zfr_up hmm69 hFm67 hc0 rfl
          have hRCTm69 := zR_CT_fr (zdis_fr (zfr_up hmm69 (zfr_rf [(3, 11)] _) hc0 rfl) rfl) hRCTm67
          have hRE19m69 := zR_E19_fr (zdis_fr (zfr_up hmm69 (zfr_rf [(3, 11)] _) hc0 rfl) rfl) hRE19m67
          have hRG6m69 := zR_G6_fr (zdis_fr (zfr_up hmm69 (zfr_rf [(3, 11)] _) hc0 rfl) rfl) hRG6m67
          have hRTVm69 := zR_TV_fr (zdis_fr (zfr_up hmm69 (zfr_rf [(3, 11)] _) hc0 rfl) rfl) hRTVm67
          refine zw_b (by omega) ?_
          refine zw_some ?_
          refine zw_b (by omega) ?_
          refine zw_some ?_
          refine zw_ite (fun h70 => ?_) (fun h70 => ?_)
          · exfalso; omega
          · refine zw_b (by omega) ?_
            exact zw_some ⟨hIm69, hFm69, hRCTm69, hRE19m69, hRG6m69, ⟨by decide, by decide⟩⟩
      · refine zw_bd (zw_eq (zu_call_at (zt_T n) (zm_257 n) (zdp_257 n) _ _ _ _ _ rfl (zr_257_0 n _ _ a0 4 m7)) ?_)
        generalize hmm71 : zu_up m7 a0 9 4 = m71
        have hIm71 := zi_up hmm71 hIm7 hc0 zb_3_9 (by omega) (by omega)
        have hFm71 := zfr_up hmm71 hFm7 hc0 rfl
        have hRCTm71 := zR_CT_fr (zdis_fr (zfr_up hmm71 (zfr_rf [(3, 10)] _) hc0 rfl) rfl) hRCTm7
        have hRE19m71 := zR_E19_fr (zdis_fr (zfr_up hmm71 (zfr_rf [(3, 10)] _) hc0 rfl) rfl) hRE19m7
        have hRG6m71 := zR_G6_fr (zdis_fr (zfr_up hmm71 (zfr_rf [(3, 10)] _) hc0 rfl) rfl) hRG6m7
        have r72 : 0 ≤ (m71 45 6) ∧ (m71 45 6) ≤ 700 := zi_rd hIm71 zq_45 zb_9_6
        generalize hmm73 : zu_up m71 a0 10 (m71 45 6) = m73
        have hIm73 := zi_up hmm73 hIm71 hc0 zb_3_10 (by omega) (by omega)
        have hFm73 := zfr_up hmm73 hFm71 hc0 rfl
        have hRCTm73 := zR_CT_fr (zdis_fr (zfr_up hmm73 (zfr_rf [(3, 11)] _) hc0 rfl) rfl) hRCTm71
        have hRE19m73 := zR_E19_fr (zdis_fr (zfr_up hmm73 (zfr_rf [(3, 11)] _) hc0 rfl) rfl) hRE19m71
        have hRG6m73 := zR_G6_fr (zdis_fr (zfr_up hmm73 (zfr_rf [(3, 11)] _) hc0 rfl) rfl) hRG6m71
        refine zw_b (by omega) ?_
        refine zw_some ?_
        refine zw_b (by omega) ?_
        exact zw_some ⟨hIm73, hFm73, hRCTm73, hRE19m73, hRG6m73, ⟨by decide, by decide⟩⟩
    · exfalso; omega
  · refine zw_bd (zw_eq (zu_call_at (zt_T n) (zm_257 n) (zdp_257 n) _ _ _ _ _ rfl (zr_257_0 n _ _ a0 3 m0)) ?_)
    generalize hmm74 : zu_up m0 a0 9 3 = m74
    have hIm74 := zi_up hmm74 hIm0 hc0 zb_3_9 (by omega) (by omega)
    have hFm74 := zfr_up hmm74 hFm0 hc0 rfl
    have hRCTm74 := zR_CT_fr (zdis_fr (zfr_up hmm74 (zfr_rf [(3, 10)] _) hc0 rfl) rfl) hRCTm0
    have hRE19m74 := zR_E19_fr (zdis_fr (zfr_up hmm74 (zfr_rf [(3, 10)] _) hc0 rfl) rfl) hRE19m0
    have hRG6m74 := zR_G6_fr (zdis_fr (zfr_up hmm74 (zfr_rf [(3, 10)] _) hc0 rfl) rfl) hRG6m0
    have r75 : 0 ≤ (m74 45 6) ∧ (m74 45 6) ≤ 700 := zi_rd hIm74 zq_45 zb_9_6
    generalize hmm76 : zu_up m74 a0 10 (m74 45 6) = m76
    have hIm76 := zi_up hmm76 hIm74 hc0 zb_3_10 (by omega) (by omega)
    have hFm76 := zfr_up hmm76 hFm74 hc0 rfl
    have hRCTm76 := zR_CT_fr (zdis_fr (zfr_up hmm76 (zfr_rf [(3, 11)] _) hc0 rfl) rfl) hRCTm74
    have hRE19m76 := zR_E19_fr (zdis_fr (zfr_up hmm76 (zfr_rf [(3, 11)] _) hc0 rfl) rfl) hRE19m74
    have hRG6m76 := zR_G6_fr (zdis_fr (zfr_up hmm76 (zfr_rf [(3, 11)] _) hc0 rfl) rfl) hRG6m74
    refine zw_b (by omega) ?_
    refine zw_some ?_
    refine zw_b (by omega) ?_
    refine zw_some ?_
    refine zw_ite (fun h77 => ?_) (fun h77 => ?_)
    · exfalso; omega
    · refine zw_b (by omega) ?_
      exact zw_some ⟨hIm76, hFm76, hRCTm76, hRE19m76, hRG6m76, ⟨by decide, by decide⟩⟩
set_option maxHeartbeats 4000000 in
theorem zk_268 (n : Nat) {a0 : Int} {m0 : zu_m} (hIm0 : zi_I m0) (hc0 : zcls a0 = 3)   (he0 : 4 ≤ m0 45 5 ∧ m0 45 5 ≤ 10)   : zw (zu_call (zt_T n) 268 [(7, a0)] m0) (fun v m => zi_I m ∧ zfr [(3, 5), (3, 8), (3, 10), (3, 11), (4, 4), (4, 5), (4, 6), (6, 11), (6, 12), (9, 4), (9, 5), (9, 6), (9, 7)] m0 m ∧ (0 ≤ v ∧ v ≤ 1)) := by
  have hFm0 : zfr [(3, 5), (3, 8), (3, 10), (3, 11), (4, 4), (4, 5), (4, 6), (6, 11), (6, 12), (9, 4), (9, 5), (9, 6), (9, 7)] m0 m0 := zfr_rf _ _
  refine zw_eq (zu_call_at (zt_T n) (zm_268 n) (zdp_268 n) _ _ _ _ _ rfl (zr_268_0 n _ _ a0 m0)) ?_
  refine zw_bd (zw_eq (zu_call_at (zt_T n) (zm_263 n) (zdp_263 n) _ _ _ _ _ rfl (zr_263_0 n _ _ a0 (m0 45 5) m0)) ?_)
  have r1 : (-2147483648) ≤ (m0 a0 4) ∧ (m0 a0 4) ≤ 2147483647 := zi_rd hIm0 hc0 zb_3_4
  have b2 := zu_i32_rg 6 (m0 a0 4) (m0 45 5)
  have b3 := zu_i32_rg 3 (zu_i32 6 (m0 a0 4) (m0 45 5)) 1
  refine zw_ite (fun h4 => ?_) (fun h4 => ?_)
  · have b5 := zu_i32_rg 5 1 (m0 45 5)
    have b6 := zu_i32_rg 4 (m0 a0 4) (zu_i32 5 1 (m0 45 5))
    generalize hmm7 : zu_up m0 a0 4 (zu_i32 4 (m0 a0 4) (zu_i32 5 1 (m0 45 5))) = m7
    have hIm7 := zi_up hmm7 hIm0 hc0 zb_3_4 (by omega) (by omega)
    have hFm7 := zfr_up hmm7 hFm0 hc0 rfl
    refine zw_b (by omega) ?_
    refine zw_some ?_
    refine zw_ite (fun h8 => ?_) (fun h8 => ?_)
    · refine zw_ite (fun h9 => ?_) (fun h9 => ?_)
      · refine zw_bd (zw_eq (zu_call_at (zt_T n) (zm_261 n) (zdp_261 n) _ _ _ _ _ rfl (zr_261_0 n _ _ a0 16 3 m7)) ?_)
        refine zw_bd (zw_mono (zk_18 n hIm7 zq_45) (fun v11 m10 hqm10 => ?_))
        obtain ⟨hIm10, hfm10, hvm10⟩ := hqm10
        have hFm10 := zfr_tr hFm7 hfm10 rfl
        obtain ⟨hRTVm10, hvm10⟩ := hvm10
        have s12 := hRTVm10 45 zq_45
        refine zw_bd (zw_eq (zu_call_at (zt_T n) (zm_279 n) (zdp_279 n) _ _ _ _ _ rfl (zr_279_0 n _ _ 45 16 3 m10)) ?_)
        have r13 : 0 ≤ (m10 45 4) ∧ (m10 45 4) ≤ 5 := zi_rd hIm10 zq_45 zb_9_4
        refine zw_ite (fun h14 => ?_) (fun h14 => ?_)
        · refine zw_b (by omega) ?_
          refine zw_some ?_
          refine zw_ite (fun h15 => ?_) (fun h15 => ?_)
          · exfalso; omega
          · refine zw_bd (zw_eq (zu_call_at (zt_T n) (zm_257 n) (zdp_257 n) _ _ _ _ _ rfl (zr_257_0 n _ _ a0 1 m10)) ?_)
            generalize hmm16 : zu_up m10 a0 9 1 = m16
            have hIm16 := zi_up hmm16 hIm10 hc0 zb_3_9 (by omega) (by omega)
            have hFm16 := zfr_up hmm16 hFm10 hc0 rfl
            have hRTVm16 := zR_TV_fr (zdis_fr (zfr_up hmm16 (zfr_rf [(3, 10)] _) hc0 rfl) rfl) hRTVm10
            have r17 : 0 ≤ (m16 45 6) ∧ (m16 45 6) ≤ 700 := zi_rd hIm16 zq_45 zb_9_6
            generalize hmm18 : zu_up m16 a0 10 (m16 45 6) = m18
            have hIm18 := zi_up hmm18 hIm16 hc0 zb_3_10 (by omega) (by omega)
            have hFm18 := zfr_up hmm18 hFm16 hc0 rfl
            have hRTVm18 := zR_TV_fr (zdis_fr (zfr_up hmm18 (zfr_rf [(3, 11)] _) hc0 rfl) rfl) hRTVm16
            refine zw_b (by omega) ?_
            refine zw_some ?_
            refine zw_b (by omega) ?_
            refine zw_some ?_
            refine zw_ite (fun h19 => ?_) (fun h19 => ?_)
            · refine zw_b (by omega) ?_
              exact zw_some ⟨hIm18, hFm18, ⟨by decide, by decide⟩⟩
            · exfalso; omega
        · have r20 : (-2147483648) ≤ (m10 45 5) ∧ (m10 45 5) ≤ 2147483647 := zi_rd hIm10 zq_45 zb_9_5
          refine zw_ite (fun h21 => ?_) (fun h21 => ?_)
          · refine zw_b (by omega) ?_
            refine zw_some ?_
            refine zw_ite (fun h22 => ?_) (fun h22 => ?_)
            · exfalso; omega
            · refine zw_bd (zw_eq (zu_call_at (zt_T n) (zm_257 n) (zdp_257 n) _ _ _ _ _ rfl (zr_257_0 n _ _ a0 1 m10)) ?_)
              generalize hmm23 : zu_up m10 a0 9 1 = m23
              have hIm23 := zi_up hmm23 hIm10 hc0 zb_3_9 (by omega) (by omega)
              have hFm23 := zfr_up hmm23 hFm10 hc0 rfl
              have hRTVm23 := zR_TV_fr (zdis_fr (zfr_up hmm23 (zfr_rf [(3, 10)] _) hc0 rfl) rfl) hRTVm10
              have r24 : 0 ≤ (m23 45 6) ∧ (m23 45 6) ≤ 700 := zi_rd hIm23 zq_45 zb_9_6
              generalize hmm25 : zu_up m23 a0 10 (m23 45 6) = m25
              have hIm25 := zi_up hmm25 hIm23 hc0 zb_3_10 (by omega) (by omega)
              have hFm25 := zfr_up hmm25 hFm23 hc0 rfl
              have hRTVm25 := zR_TV_fr (zdis_fr (zfr_up hmm25 (zfr_rf [(3, 11)] _) hc0 rfl) rfl) hRTVm23
              refine zw_b (by omega) ?_
              refine zw_some ?_
              refine zw_b (by omega) ?_
              refine zw_some ?_
              refine zw_ite (fun h26 => ?_) (fun h26 => ?_)
              · refine zw_b (by omega) ?_
                exact zw_some ⟨hIm25, hFm25, ⟨by decide, by decide⟩⟩
              · exfalso; omega
          · have w27 := zu_w32_id (z := 16 + 3) (by omega) (by omega)
            refine zw_ite (fun h28 => ?_) (fun h28 => ?_)
            · refine zw_b (by omega) ?_
              refine zw_some ?_
              refine zw_ite (fun h29 => ?_) (fun h29 => ?_)
              · exfalso; omega
              · refine zw_bd (zw_eq (zu_call_at (zt_T n) (zm_257 n) (zdp_257 n) _ _ _ _ _ rfl (zr_257_0 n _ _ a0 1 m10)) ?_)
                generalize hmm30 : zu_up m10 a0 9 1 = m30
                have hIm30 := zi_up hmm30 hIm10 hc0 zb_3_9 (by omega) (by omega)
                have hFm30 := zfr_up hmm30 hFm10 hc0 rfl
                have hRTVm30 := zR_TV_fr (zdis_fr (zfr_up hmm30 (zfr_rf [(3, 10)] _) hc0 rfl) rfl) hRTVm10
                have r31 : 0 ≤ (m30 45 6) ∧ (m30 45 6) ≤ 700 := zi_rd hIm30 zq_45 zb_9_6
                generalize hmm32 : zu_up m30 a0 10 (m30 45 6) = m32
                have hIm32 := zi_up hmm32 hIm30 hc0 zb_3_10 (by omega) (by omega)
                have hFm32 := zfr_up hmm32 hFm30 hc0 rfl
                have hRTVm32 := zR_TV_fr (zdis_fr (zfr_up hmm32 (zfr_rf [(3, 11)] _) hc0 rfl) rfl) hRTVm30
                refine zw_b (by omega) ?_
                refine zw_some ?_
                refine zw_b (by omega) ?_
                refine zw_some ?_
                refine zw_ite (fun h33 => ?_) (fun h33 => ?_)
                · refine zw_b (by omega) ?_
                  exact zw_some ⟨hIm32, hFm32, ⟨by decide, by decide⟩⟩
                · exfalso; omega
            · refine zw_b (by omega) ?_
              refine zw_some ?_
              refine zw_ite (fun h34 => ?_) (fun h34 => ?_)
              · have w35 := zu_w32_id (z := (m10 45 5) - 16) (by omega) (by omega)
                generalize hmm36 : zu_up m10 a0 7 (zu_w32 ((m10 45 5) - 16)) = m36
                have hIm36 := zi_up hmm36 hIm10 hc0 zb_3_7 (by omega) (by omega)
                have hFm36 := zfr_up hmm36 hFm10 hc0 rfl
                have hRTVm36 := zR_TV_fr (zdis_fr (zfr_up hmm36 (zfr_rf [(3, 8)] _) hc0 rfl) rfl) hRTVm10
                refine zw_b (by omega) ?_
                refine zw_some ?_
                refine zw_ite (fun h37 => ?_) (fun h37 => ?_)
                · exfalso; omega
                · refine zw_bd (zw_eq (zu_call_at (zt_T n) (zm_269 n) (zdp_269 n) _ _ _ _ _ rfl (zr_269_0 n _ _ a0 (m0 45 5) m36)) ?_)
                  refine zw_ite (fun h38 => ?_) (fun h38 => ?_)
                  · exfalso; omega
                  · have r39 : (-2147483648) ≤ (m36 a0 7) ∧ (m36 a0 7) ≤ 2147483647 := zi_rd hIm36 hc0 zb_3_7
                    have e40 : (m36 a0 7) = (zu_w32 ((m10 45 5) - 16)) := (zs_eq hmm36)
                    generalize hmm41 : zu_up m36 19 10 (m36 a0 7) = m41
                    have hIm41 := zi_up hmm41 hIm36 zq_19 zb_6_10 (by omega) (by omega)
                    have hFm41 := zfr_up hmm41 hFm36 zq_19 rfl
                    have hRTVm41 := zR_TV_fr (zdis_fr (zfr_up hmm41 (zfr_rf [(6, 11)] _) zq_19 rfl) rfl) hRTVm36
                    refine zw_b (by omega) ?_
                    refine zw_some ?_
                    refine zw_ite (fun h42 => ?_) (fun h42 => ?_)
                    · exfalso; omega
                    · refine zw_b (by omega) ?_
                      exact zw_some ⟨hIm41, hFm41, ⟨by decide, by decide⟩⟩
              · exfalso; omega
      · refine zw_ite (fun h43 => ?_) (fun h43 => ?_)
        · refine zw_bd (zw_eq (zu_call_at (zt_T n) (zm_260 n) (zdp_260 n) _ _ _ _ _ rfl (zr_260_0 n _ _ a0 0 6 m7)) ?_)
          refine zw_bd (zw_mono (zk_18 n hIm7 zq_45) (fun v45 m44 hqm44 => ?_))
          obtain ⟨hIm44, hfm44, hvm44⟩ := hqm44
          have hFm44 := zfr_tr hFm7 hfm44 rfl
          obtain ⟨hRTVm44, hvm44⟩ := hvm44
          have s46 := hRTVm44 45 zq_45
          have r47 : 0 ≤ (m44 45 4) ∧ (m44 45 4) ≤ 5 := zi_rd hIm44 zq_45 zb_9_4
          refine zw_ite (fun h48 => ?_) (fun h48 => ?_)
          · have r49 : (-2147483648) ≤ (m44 45 5) ∧ (m44 45 5) ≤ 2147483647 := zi_rd hIm44 zq_45 zb_9_5
            generalize hmm50 : zu_up m44 a0 7 (m44 45 5) = m50
            have hIm50 := zi_up hmm50 hIm44 hc0 zb_3_7 (by omega) (by omega)
            have hFm50 := zfr_up hmm50 hFm44 hc0 rfl
            have hRTVm50 := zR_TV_fr (zdis_fr (zfr_up hmm50 (zfr_rf [(3, 8)] _) hc0 rfl) rfl) hRTVm44
            have r51 : (-2147483648) ≤ (m50 a0 7) ∧ (m50 a0 7) ≤ 2147483647 := zi_rd hIm50 hc0 zb_3_7
            have e52 : (m50 a0 7) = (m44 45 5) := (zs_eq hmm50)
            refine zw_ite (fun h53 => ?_) (fun h53 => ?_)
            · refine zw_bd (zw_eq (zu_call_at (zt_T n) (zm_257 n) (zdp_257 n) _ _ _ _ _ rfl (zr_257_0 n _ _ a0 2 m50)) ?_)
              generalize hmm54 : zu_up m50 a0 9 2 = m54
              have hIm54 := zi_up hmm54 hIm50 hc0 zb_3_9 (by omega) (by omega)
              have hFm54 := zfr_up hmm54 hFm50 hc0 rfl
              have hRTVm54 := zR_TV_fr (zdis_fr (zfr_up hmm54 (zfr_rf [(3, 10)] _) hc0 rfl) rfl) hRTVm50
              have r55 : 0 ≤ (m54 45 6) ∧ (m54 45 6) ≤ 700 := zi_rd hIm54 zq_45 zb_9_6
              generalize hmm56 : zu_up m54 a0 10 (m54 45 6) = m56
              have hIm56 := zi_up hmm56 hIm54 hc0 zb_3_10 (by omega) (by omega)
              have hFm56 := zfr_up hmm56 hFm54 hc0 rfl
              have hRTVm56 := zR_TV_fr (zdis_fr (zfr_up hmm56 (zfr_rf [(3, 11)] _) hc0 rfl) rfl) hRTVm54
              refine zw_b (by omega) ?_
              refine zw_some ?_
              refine zw_ite (fun h57 => ?_) (fun h57 => ?_)
              · refine zw_b (by omega) ?_
                refine zw_some ?_
                refine zw_ite (fun h58 => ?_) (fun h58 => ?_)
                · refine zw_b (by omega) ?_
                  exact zw_some ⟨hIm56, hFm56, ⟨by decide, by decide⟩⟩
                · exfalso; omega
              · exfalso; omega
            · refine zw_ite (fun h59 => ?_) (fun h59 => ?_)
              · refine zw_b (by omega) ?_
                refine zw_some ?_
                refine zw_ite (fun h60 => ?_) (fun h60 => ?_)
                · exfalso; omega
                · refine zw_bd (zw_eq (zu_call_at (zt_T n) (zm_269 n) (zdp_269 n) _ _ _ _ _ rfl (zr_269_0 n _ _ a0 (m0 45 5) m50)) ?_)
                  refine zw_ite (fun h61 => ?_) (fun h61 => ?_)
                  · refine zw_ite (fun h62 => ?_) (fun h62 => ?_)
                    · exfalso; omega
                    · generalize hmm63 : zu_up m50 6 3 (m50 a0 7) = m63
                      have hIm63 := zi_up hmm63 hIm50 zq_6 zb_4_3 (by omega) (by omega)
                      have hFm63 := zfr_up hmm63 hFm50 zq_6 rfl
                      have hRTVm63 := zR_TV_fr (zdis_fr (zfr_up hmm63 (zfr_rf [(4, 4)] _) zq_6 rfl) rfl) hRTVm50
                      refine zw_b (by omega) ?_
                      refine zw_some ?_
                      refine zw_ite (fun h64 => ?_) (fun h64 => ?_)
                      · exfalso; omega
                      · refine zw_b (by omega) ?_
                        exact zw_some ⟨hIm63, hFm63, ⟨by decide, by decide⟩⟩
                  · exfalso; omega
              · refine zw_bd (zw_eq (zu_call_at (zt_T n) (zm_257 n) (zdp_257 n) _ _ _ _ _ rfl (zr_257_0 n _ _ a0 2 m50)) ?_)
                generalize hmm65 : zu_up m50 a0 9 2 = m65
                have hIm65 := zi_up hmm65 hIm50 hc0 zb_3_9 (by omega) (by omega)
                have hFm65 := zfr_up hmm65 hFm50 hc0 rfl
                have hRTVm65 := zR_TV_fr (zdis_fr (zfr_up hmm65 (zfr_rf [(3, 10)] _) hc0 rfl) rfl) hRTVm50
                have r66 : 0 ≤ (m65 45 6) ∧ (m65 45 6) ≤ 700 := zi_rd hIm65 zq_45 zb_9_6
                generalize hmm67 : zu_up m65 a0 10 (m65 45 6) = m67
                have hIm67 := zi_up hmm67 hIm65 hc0 zb_3_10 (by omega) (by omega)
                have hFm67 := zfr_up hmm67 hFm65 hc0 rfl
                have hRTVm67 := zR_TV_fr (zdis_fr (zfr_up hmm67 (zfr_rf [(3, 11)] _) hc0 rfl) rfl) hRTVm65
                refine zw_b (by omega) ?_
                refine zw_some ?_
                refine zw_ite (fun h68 => ?_) (fun h68 => ?_)
                · refine zw_b (by omega) ?_
                  refine zw_some ?_
                  refine zw_ite (fun h69 => ?_) (fun h69 => ?_)
                  · refine zw_b (by omega) ?_
                    exact zw_some ⟨hIm67, hFm67, ⟨by decide, by decide⟩⟩
                  · exfalso; omega
                · exfalso; omega
          · refine zw_bd (zw_eq (zu_call_at (zt_T n) (zm_257 n) (zdp_257 n) _ _ _ _ _ rfl (zr_257_0 n _ _ a0 1 m44)) ?_)
            generalize hmm70 : zu_up m44 a0 9 1 = m70
            have hIm70 := zi_up hmm70 hIm44 hc0 zb_3_9 (by omega) (by omega)
            have hFm70 := zfr_up hmm70 hFm44 hc0 rfl
            have hRTVm70 := zR_TV_fr (zdis_fr (zfr_up hmm70 (zfr_rf [(3, 10)] _) hc0 rfl) rfl) hRTVm44
            have r71 : 0 ≤ (m70 45 6) ∧ (m70 45 6) ≤ 700 := zi_rd hIm70 zq_45 zb_9_6
            generalize hmm72 : zu_up m70 a0 10 (m70 45 6) = m72
            have hIm72 := zi_up hmm72 hIm70 hc0 zb_3_10 (by omega) (by omega)
            have hFm72 := zfr_up hmm72 hFm70 hc0 rfl
            have hRTVm72 := zR_TV_fr (zdis_fr (zfr_up hmm72 (zfr_rf [(3, 11)] _) hc0 rfl) rfl) hRTVm70
            refine zw_b (by omega) ?_
            refine zw_some ?_
            refine zw_b (by omega) ?_
            refine zw_some ?_
            refine zw_ite (fun h73 => ?_) (fun h73 => ?_)
            · refine zw_b (by omega) ?_
              exact zw_some ⟨hIm72, hFm72, ⟨by decide, by decide⟩⟩
            · exfalso; omega
        · refine zw_ite (fun h74 => ?_) (fun h74 => ?_)
          · refine zw_bd (zw_eq (zu_call_at (zt_T n) (zm_260 n) (zdp_260 n) _ _ _ _ _ rfl (zr_260_0 n _ _ a0 1 99 m7)) ?_)
            refine zw_bd (zw_mono (zk_18 n hIm7 zq_45) (fun v76 m75 hqm75 => ?_))
            obtain ⟨hIm75, hfm75, hvm75⟩ := hqm75
            have hFm75 := zfr_tr hFm7 hfm75 rfl
            obtain ⟨hRTVm75, hvm75⟩ := hvm75
            have s77 := hRTVm75 45 zq_45
            have r78 : 0 ≤ (m75 45 4) ∧ (m75 45 4) ≤ 5 := zi_rd hIm75 zq_45 zb_9_4
            refine zw_ite (fun h79 => ?_) (fun h79 => ?_)
            · have r80 : (-2147483648) ≤ (m75 45 5) ∧ (m75 45 5) ≤ 2147483647 := zi_rd hIm75 zq_45 zb_9_5
              generalize hmm81 : zu_up m75 a0 7 (m75 45 5) = m81
              have hIm81 := zi_up hmm81 hIm75 hc0 zb_3_7 (by omega) (by omega)
              have hFm81 := zfr_up hmm81 hFm75 hc0 rfl
              have hRTVm81 := zR_TV_fr (zdis_fr (zfr_up hmm81 (zfr_rf [(3, 8)] _) hc0 rfl) rfl) hRTVm75
              have r82 : (-2147483648) ≤ (m81 a0 7) ∧ (m81 a0 7) ≤ 2147483647 := zi_rd hIm81 hc0 zb_3_7
              have e83 : (m81 a0 7) = (m75 45 5) := (zs_eq hmm81)
              refine zw_ite (fun h84 => ?_) (fun h84 => ?_)
              · refine zw_bd (zw_eq (zu_call_at (zt_T n) (zm_257 n) (zdp_257 n) _ _ _ _ _ rfl (zr_257_0 n _ _ a0 2 m81)) ?_)
                generalize hmm85 : zu_up m81 a0 9 2 = m85
                have hIm85 := zi_up hmm85 hIm81 hc0 zb_3_9 (by omega) (by omega)
                have hFm85 := zfr_up hmm85 hFm81 hc0 rfl
                have hRTVm85 := zR_TV_fr (zdis_fr (zfr_up hmm85 (zfr_rf [(3, 10)] _) hc0 rfl) rfl) hRTVm81
                have r86 : 0 ≤ (m85 45 6) ∧ (m85 45 6) ≤ 700 := zi_rd hIm85 zq_45 zb_9_6
                generalize hmm87 : zu_up m85 a0 10 (m85 45 6) = m87
                have hIm87 := zi_up hmm87 hIm85 hc0 zb_3_10 (by omega) (by omega)
                have hFm87 := zfr_up hmm87 hFm85 hc0 rfl
                have hRTVm87 := zR_TV_fr (zdis_fr (zfr_up hmm87 (zfr_rf [(3, 11)] _) hc0 rfl) rfl) hRTVm85
                refine zw_b (by omega) ?_
                refine zw_some ?_
                refine zw_ite (fun h88 => ?_) (fun h88 => ?_)
                · refine zw_b (by omega) ?_
                  refine zw_some ?_
                  refine zw_ite (fun h89 => ?_) (fun h89 => ?_)
                  · refine zw_b (by omega) ?_
                    exact zw_some ⟨hIm87, hFm87, ⟨by decide, by decide⟩⟩
                  · exfalso; omega
                · exfalso; omega
              · refine zw_ite (fun h90 => ?_) (fun h90 => ?_)
                · refine zw_b (by omega) ?_
                  refine zw_some ?_
                  refine zw_ite (fun h91 => ?_) (fun h91 => ?_)
                  · exfalso; omega
                  · refine zw_bd (zw_eq (zu_call_at (zt_T n) (zm_269 n) (zdp_269 n) _ _ _ _ _ rfl (zr_269_0 n _ _ a0 (m0 45 5) m81)) ?_)
                    refine zw_ite (fun h92 => ?_) (fun h92 => ?_)
                    · refine zw_ite (fun h93 => ?_) (fun h93 => ?_)
                      · refine zw_ite (fun h94 => ?_) (fun h94 => ?_)
                        · exfalso; omega
                        · generalize hmm95 : zu_up m81 6 4 (m81 a0 7) = m95
                          have hIm95 := zi_up hmm95 hIm81 zq_6 zb_4_4 (by omega) (by omega)
                          have hFm95 := zfr_up hmm95 hFm81 zq_6 rfl
                          have hRTVm95 := zR_TV_fr (zdis_fr (zfr_up hmm95 (zfr_rf [(4, 5)] _) zq_6 rfl) rfl) hRTVm81
                          refine zw_b (by omega) ?_
                          refine zw_some ?_
                          refine zw_ite (fun h96 => ?_) (fun h96 => ?_)
                          · exfalso; omega
                          · refine zw_b (by omega) ?_
                            exact zw_some ⟨hIm95, hFm95, ⟨by decide, by decide⟩⟩
                      · exfalso; omega
                    · exfalso; omega
                · refine zw_bd (zw_eq (zu_call_at (zt_T n) (zm_257 n) (zdp_257 n) _ _ _ _ _ rfl (zr_257_0 n _ _ a0 2 m81)) ?_)
                  generalize hmm97 : zu_up m81 a0 9 2 = m97
                  have hIm97 := zi_up hmm97 hIm81 hc0 zb_3_9 (by omega) (by omega)
                  have hFm97 := zfr_up hmm97 hFm81 hc0 rfl
                  have hRTVm97 := zR_TV_fr (zdis_fr (zfr_up hmm97 (zfr_rf [(3, 10)] _) hc0 rfl) rfl) hRTVm81
                  have r98 : 0 ≤ (m97 45 6) ∧ (m97 45 6) ≤ 700 := zi_rd hIm97 zq_45 zb_9_6
                  generalize hmm99 : zu_up m97 a0 10 (m97 45 6) = m99
                  have hIm99 := zi_up hmm99 hIm97 hc0 zb_3_10 (by omega) (by omega)
                  have hFm99 := zfr_up hmm99 hFm97 hc0 rfl
                  have hRTVm99 := zR_TV_fr (zdis_fr (zfr_up hmm99 (zfr_rf [(3, 11)] _) hc0 rfl) rfl) hRTVm97
                  refine zw_b (by omega) ?_
                  refine zw_some ?_
                  refine zw_ite (fun h100 => ?_) (fun h100 => ?_)
                  · refine zw_b (by omega) ?_
                    refine zw_some ?_
                    refine zw_ite (fun h101 => ?_) (fun h101 => ?_)
                    · refine zw_b (by omega) ?_
                      exact zw_some ⟨hIm99, hFm99, ⟨by decide, by decide⟩⟩
                    · exfalso; omega
                  · exfalso; omega
            · refine zw_bd (zw_eq (zu_call_at (zt_T n) (zm_257 n) (zdp_257 n) _ _ _ _ _ rfl (zr_257_0 n _ _ a0 1 m75)) ?_)
              generalize hmm102 : zu_up m75 a0 9 1 = m102
              have hIm102 := zi_up hmm102 hIm75 hc0 zb_3_9 (by omega) (by omega)
              have hFm102 := zfr_up hmm102 hFm75 hc0 rfl
              have hRTVm102 := zR_TV_fr (zdis_fr (zfr_up hmm102 (zfr_rf [(3, 10)] _) hc0 rfl) rfl) hRTVm75
              have r103 : 0 ≤ (m102 45 6) ∧ (m102 45 6) ≤ 700 := zi_rd hIm102 zq_45 zb_9_6
              generalize hmm104 : zu_up m102 a0 10 (m102 45 6) = m104
              have hIm104 := zi_up hmm104 hIm102 hc0 zb_3_10 (by omega) (by omega)
              have hFm104 := zfr_up hmm104 hFm102 hc0 rfl
              have hRTVm104 := zR_TV_fr (zdis_fr (zfr_up hmm104 (zfr_rf [(3, 11)] _) hc0 rfl) rfl) hRTVm102
              refine zw_b (by omega) ?_
              refine zw_some ?_
              refine zw_b (by omega) ?_
              refine zw_some ?_
              refine zw_ite (fun h105 => ?_) (fun h105 => ?_)
              · refine zw_b (by omega) ?_
                exact zw_some ⟨hIm104, hFm104, ⟨by decide, by decide⟩⟩
              · exfalso; omega
          · refine zw_ite (fun h106 => ?_) (fun h106 => ?_)
            · refine zw_bd (zw_eq (zu_call_at (zt_T n) (zm_260 n) (zdp_260 n) _ _ _ _ _ rfl (zr_260_0 n _ _ a0 0 999 m7)) ?_)
              refine zw_bd (zw_mono (zk_18 n hIm7 zq_45) (fun v108 m107 hqm107 => ?_))
              obtain ⟨hIm107, hfm107, hvm107⟩ := hqm107
              have hFm107 := zfr_tr hFm7 hfm107 rfl
              obtain ⟨hRTVm107, hvm107⟩ := hvm107
              have s109 := hRTVm107 45 zq_45
              have r110 : 0 ≤ (m107 45 4) ∧ (m107 45 4) ≤ 5 := zi_rd hIm107 zq_45 zb_9_4
              refine zw_ite (fun h111 => ?_) (fun h111 => ?_)
              · have r112 : (-2147483648) ≤ (m107 45 5) ∧ (m107 45 5) ≤ 2147483647 := zi_rd hIm107 zq_45 zb_9_5
                generalize hmm113 : zu_up m107 a0 7 (m107 45 5) = m113
                have hIm113 := zi_up hmm113 hIm107 hc0 zb_3_7 (by omega) (by omega)
                have hFm113 := zfr_up hmm113 hFm107 hc0 rfl
                have hRTVm113 := zR_TV_fr (zdis_fr (zfr_up hmm113 (zfr_rf [(3, 8)] _) hc0 rfl) rfl) hRTVm107
                have r114 : (-2147483648) ≤ (m113 a0 7) ∧ (m113 a0 7) ≤ 2147483647 := zi_rd hIm113 hc0 zb_3_7
                have e115 : (m113 a0 7) = (m107 45 5) := (zs_eq hmm113)
                refine zw_ite (fun h116 => ?_) (fun h116 => ?_)
                · refine zw_bd (zw_eq (zu_call_at (zt_T n) (zm_257 n) (zdp_257 n) _ _ _ _ _ rfl (zr_257_0 n _ _ a0 2 m113)) ?_)
                  generalize hmm117 : zu_up m113 a0 9 2 = m117
                  have hIm117 := zi_up hmm117 hIm113 hc0 zb_3_9 (by omega) (by omega)
                  have hFm117 := zfr_up hmm117 hFm113 hc0 rfl
                  have hRTVm117 := zR_TV_fr (zdis_fr (zfr_up hmm117 (zfr_rf [(3, 10)] _) hc0 rfl) rfl) hRTVm113
                  have r118 : 0 ≤ (m117 45 6) ∧ (m117 45 6) ≤ 700 := zi_rd hIm117 zq_45 zb_9_6
                  generalize hmm119 : zu_up m117 a0 10 (m117 45 6) = m119
                  have hIm119 := zi_up hmm119 hIm117 hc0 zb_3_10 (by omega) (by omega)
                  have hFm119 := zfr_up hmm119 hFm117 hc0 rfl
                  have hRTVm119 := zR_TV_fr (zdis_fr (zfr_up hmm119 (zfr_rf [(3, 11)] _) hc0 rfl) rfl) hRTVm117
                  refine zw_b (by omega) ?_
                  refine zw_some ?_
                  refine zw_ite (fun h120 => ?_) (fun h120 => ?_)
                  · refine zw_b (by omega) ?_
                    refine zw_some ?_
                    refine zw_ite (fun h121 => ?_) (fun h121 => ?_)
                    · refine zw_b (by omega) ?_
                      exact zw_some ⟨hIm119, hFm119, ⟨by decide, by decide⟩⟩
                    · exfalso; omega
                  · exfalso; omega
                · refine zw_ite (fun h122 => ?_) (fun h122 => ?_)
                  · refine zw_b (by omega) ?_
                    refine zw_some ?_
                    refine zw_ite (fun h123 => ?_) (fun h123 => ?_)
                    · exfalso; omega
                    · refine zw_bd (zw_eq (zu_call_at (zt_T n) (zm_269 n) (zdp_269 n) _ _ _ _ _ rfl (zr_269_0 n _ _ a0 (m0 45 5) m113)) ?_)
                      refine zw_ite (fun h124 => ?_) (fun h124 => ?_)
                      · refine zw_ite (fun h125 => ?_) (fun h125 => ?_)
                        · refine zw_ite (fun h126 => ?_) (fun h126 => ?_)
                          · refine zw_ite (fun h127 => ?_) (fun h127 => ?_)
                            · exfalso; omega
                            · generalize hmm128 : zu_up m113 19 11 (m113 a0 7) = m128
                              have hIm128 := zi_up hmm128 hIm113 zq_19 zb_6_11 (by omega) (by omega)
                              have hFm128 := zfr_up hmm128 hFm113 zq_19 rfl
                              have hRTVm128 := zR_TV_fr (zdis_fr (zfr_up hmm128 (zfr_rf [(6, 12)] _) zq_19 rfl) rfl) hRTVm113
                              refine zw_b (by omega) ?_
                              refine zw_some ?_
                              refine zw_ite (fun h129 => ?_) (fun h129 => ?_)
                              · exfalso; omega
                              · refine zw_b (by omega) ?_
                                exact zw_some ⟨hIm128, hFm128, ⟨by decide, by decide⟩⟩
                          · exfalso; omega
                        · exfalso; omega
                      · exfalso; omega
                  · refine zw_bd (zw_eq (zu_call_at (zt_T n) (zm_257 n) (zdp_257 n) _ _ _ _ _ rfl (zr_257_0 n _ _ a0 2 m113)) ?_)
                    generalize hmm130 : zu_up m113 a0 9 2 = m130
                    have hIm130 := zi_up hmm130 hIm113 hc0 zb_3_9 (by omega) (by omega)
                    have hFm130 := zfr_up hmm130 hFm113 hc0 rfl
                    have hRTVm130 := zR_TV_fr (zdis_fr (zfr_up hmm130 (zfr_rf [(3, 10)] _) hc0 rfl) rfl) hRTVm113
                    have r131 : 0 ≤ (m130 45 6) ∧ (m130 45 6) ≤ 700 := zi_rd hIm130 zq_45 zb_9_6
                    generalize hmm132 : zu_up m130 a0 10 (m130 45 6) = m132
                    have hIm132 := zi_up hmm132 hIm130 hc0 zb_3_10 (by omega) (by omega)
                    have hFm132 := zfr_up hmm132 hFm130 hc0 rfl
                    have hRTVm132 := zR_TV_fr (zdis_fr (zfr_up hmm132 (zfr_rf [(3, 11)] _) hc0 rfl) rfl) hRTVm130
                    refine zw_b (by omega) ?_
                    refine zw_some ?_
                    refine zw_ite (fun h133 => ?_) (fun h133 => ?_)
                    · refine zw_b (by omega) ?_
                      refine zw_some ?_
                      refine zw_ite (fun h134 => ?_) (fun h134 => ?_)
                      · refine zw_b (by omega) ?_
                        exact zw_some ⟨hIm132, hFm132, ⟨by decide, by decide⟩⟩
                      · exfalso; omega
                    · exfalso; omega
              · refine zw_bd (zw_eq (zu_call_at (zt_T n) (zm_257 n) (zdp_257 n) _ _ _ _ _ rfl (zr_257_0 n _ _ a0 1 m107)) ?_)
                generalize hmm135 : zu_up m107 a0 9 1 = m135
                have hIm135 := zi_up hmm135 hIm107 hc0 zb_3_9 (by omega) (by omega)
                have hFm135 := zfr_up hmm135 hFm107 hc0 rfl
                have hRTVm135 := zR_TV_fr (zdis_fr (zfr_up hmm135 (zfr_rf [(3, 10)] _) hc0 rfl) rfl) hRTVm107
                have r136 : 0 ≤ (m135 45 6) ∧ (m135 45 6) ≤ 700 := zi_rd hIm135 zq_45 zb_9_6
                generalize hmm137 : zu_up m135 a0 10 (m135 45 6) = m137
                have hIm137 := zi_up hmm137 hIm135 hc0 zb_3_10 (by omega) (by omega)
                have hFm137 := zfr_up hmm137 hFm135 hc0 rfl
                have hRTVm137 := zR_TV_fr (zdis_fr (zfr_up hmm137 (zfr_rf [(3, 11)] _) hc0 rfl) rfl) hRTVm135
                refine zw_b (by omega) ?_
                refine zw_some ?_
                refine zw_b (by omega) ?_
                refine zw_some ?_
                refine zw_ite (fun h138 => ?_) (fun h138 => ?_)
                · refine zw_b (by omega) ?_
                  exact zw_some ⟨hIm137, hFm137, ⟨by decide, by decide⟩⟩
                · exfalso; omega
            · refine zw_bd (zw_eq (zu_call_at (zt_T n) (zm_260 n) (zdp_260 n) _ _ _ _ _ rfl (zr_260_0 n _ _ a0 0 99999 m7)) ?_)
              refine zw_bd (zw_mono (zk_18 n hIm7 zq_45) (fun v140 m139 hqm139 => ?_))
              obtain ⟨hIm139, hfm139, hvm139⟩ := hqm139
              have hFm139 := zfr_tr hFm7 hfm139 rfl
              obtain ⟨hRTVm139, hvm139⟩ := hvm139
              have s141 := hRTVm139 45 zq_45
              have r142 : 0 ≤ (m139 45 4) ∧ (m139 45 4) ≤ 5 := zi_rd hIm139 zq_45 zb_9_4
              refine zw_ite (fun h143 => ?_) (fun h143 => ?_)
              · have r144 : (-2147483648) ≤ (m139 45 5) ∧ (m139 45 5) ≤ 2147483647 := zi_rd hIm139 zq_45 zb_9_5
                generalize hmm145 : zu_up m139 a0 7 (m139 45 5) = m145
                have hIm145 := zi_up hmm145 hIm139 hc0 zb_3_7 (by omega) (by omega)
                have hFm145 := zfr_up hmm145 hFm139 hc0 rfl
                have hRTVm145 := zR_TV_fr (zdis_fr (zfr_up hmm145 (zfr_rf [(3, 8)] _) hc0 rfl) rfl) hRTVm139
                have r146 : (-2147483648) ≤ (m145 a0 7) ∧ (m145 a0 7) ≤ 2147483647 := zi_rd hIm145 hc0 zb_3_7
                have e147 : (m145 a0 7) = (m139 45 5) := (zs_eq hmm145)
                refine zw_ite (fun h148 => ?_) (fun h148 => ?_)
                · refine zw_bd (zw_eq (zu_call_at (zt_T n) (zm_257 n) (zdp_257 n) _ _ _ _ _ rfl (zr_257_0 n _ _ a0 2 m145)) ?_)
                  generalize hmm149 : zu_up m145 a0 9 2 = m149
                  have hIm149 := zi_up hmm149 hIm145 hc0 zb_3_9 (by omega) (by omega)
                  have hFm149 := zfr_up hmm149 hFm145 hc0 rfl
                  have hRTVm149 := zR_TV_fr (zdis_fr (zfr_up hmm149 (zfr_rf [(3, 10)] _) hc0 rfl) rfl) hRTVm145
                  have r150 : 0 ≤ (m149 45 6) ∧ (m149 45 6) ≤ 700 := zi_rd hIm149 zq_45 zb_9_6
                  generalize hmm151 : zu_up m149 a0 10 (m149 45 6) = m151
                  have hIm151 := zi_up hmm151 hIm149 hc0 zb_3_10 (by omega) (by omega)
                  have hFm151 := zfr_up hmm151 hFm149 hc0 rfl
                  have hRTVm151 := zR_TV_fr (zdis_fr (zfr_up hmm151 (zfr_rf [(3, 11)] _) hc0 rfl) rfl) hRTVm149
                  refine zw_b (by omega) ?_
                  refine zw_some ?_
                  refine zw_ite (fun h152 => ?_) (fun h152 => ?_)
                  · refine zw_b (by omega) ?_
                    refine zw_some ?_
                    refine zw_ite (fun h153 => ?_) (fun h153 => ?_)
                    · refine zw_b (by omega) ?_
                      exact zw_some ⟨hIm151, hFm151, ⟨by decide, by decide⟩⟩
                    · exfalso; omega
                  · exfalso; omega
                · refine zw_ite (fun h154 => ?_) (fun h154 => ?_)
                  · refine zw_b (by omega) ?_
                    refine zw_some ?_
                    refine zw_ite (fun h155 => ?_) (fun h155 => ?_)
                    · exfalso; omega
                    · refine zw_bd (zw_eq (zu_call_at (zt_T n) (zm_269 n) (zdp_269 n) _ _ _ _ _ rfl (zr_269_0 n _ _ a0 (m0 45 5) m145)) ?_)
                      refine zw_ite (fun h156 => ?_) (fun h156 => ?_)
                      · refine zw_ite (fun h157 => ?_) (fun h157 => ?_)
                        · refine zw_ite (fun h158 => ?_) (fun h158 => ?_)
                          · refine zw_ite (fun h159 => ?_) (fun h159 => ?_)
                            · refine zw_ite (fun h160 => ?_) (fun h160 => ?_)
                              · refine zw_b (by omega) ?_
                                refine zw_some ?_
                                refine zw_ite (fun h161 => ?_) (fun h161 => ?_)
                                · exfalso; omega
                                · refine zw_b (by omega) ?_
                                  exact zw_some ⟨hIm145, hFm145, ⟨by decide, by decide⟩⟩
                              · generalize hmm162 : zu_up m145 6 5 (m145 a0 7) = m162
                                have hIm162 := zi_up hmm162 hIm145 zq_6 zb_4_5 (by omega) (by omega)
                                have hFm162 := zfr_up hmm162 hFm145 zq_6 rfl
                                have hRTVm162 := zR_TV_fr (zdis_fr (zfr_up hmm162 (zfr_rf [(4, 6)] _) zq_6 rfl) rfl) hRTVm145
                                refine zw_b (by omega) ?_
                                refine zw_some ?_
                                refine zw_ite (fun h163 => ?_) (fun h163 => ?_)
                                · exfalso; omega
                                · refine zw_b (by omega) ?_
                                  exact zw_some ⟨hIm162, hFm162, ⟨by decide, by decide⟩⟩
                            · exfalso; omega
                          · exfalso; omega
                        · exfalso; omega
                      · exfalso; omega
                  · refine zw_bd (zw_eq (zu_call_at (zt_T n) (zm_257 n) (zdp_257 n) _ _ _ _ _ rfl (zr_257_0 n _ _ a0 2 m145)) ?_)
                    generalize hmm164 : zu_up m145 a0 9 2 = m164
                    have hIm164 := zi_up hmm164 hIm145 hc0 zb_3_9 (by omega) (by omega)
                    have hFm164 := zfr_up hmm164 hFm145 hc0 rfl
                    have hRTVm164 := zR_TV_fr (zdis_fr (zfr_up hmm164 (zfr_rf [(3, 10)] _) hc0 rfl) rfl) hRTVm145
                    have r165 : 0 ≤ (m164 45 6) ∧ (m164 45 6) ≤ 700 := zi_rd hIm164 zq_45 zb_9_6
                    generalize hmm166 : zu_up m164 a0 10 (m164 45 6) = m166
                    have hIm166 := zi_up hmm166 hIm164 hc0 zb_3_10 (by omega) (by omega)
                    have hFm166 := zfr_up hmm166 hFm164 hc0 rfl
                    have hRTVm166 := zR_TV_fr (zdis_fr (zfr_up hmm166 (zfr_rf [(3, 11)] _) hc0 rfl) rfl) hRTVm164
                    refine zw_b (by omega) ?_
                    refine zw_some ?_
                    refine zw_ite (fun h167 => ?_) (fun h167 => ?_)
                    · refine zw_b (by omega) ?_
                      refine zw_some ?_
                      refine zw_ite (fun h168 => ?_) (fun h168 => ?_)
                      · refine zw_b (by omega) ?_
                        exact zw_some ⟨hIm166, hFm166, ⟨by decide, by decide⟩⟩
                      · exfalso; omega
                    · exfalso; omega
              · refine zw_bd (zw_eq (zu_call_at (zt_T n) (zm_257 n) (zdp_257 n) _ _ _ _ _ rfl (zr_257_0 n _ _ a0 1 m139)) ?_)
                generalize hmm169 : zu_up m139 a0 9 1 = m169
                have hIm169 := zi_up hmm169 hIm139 hc0 zb_3_9 (by omega) (by omega)
                have hFm169 := zfr_up hmm169 hFm139 hc0 rfl
                have hRTVm169 := zR_TV_fr (zdis_fr (zfr_up hmm169 (zfr_rf [(3, 10)] _) hc0 rfl) rfl) hRTVm139
                have r170 : 0 ≤ (m169 45 6) ∧ (m169 45 6) ≤ 700 := zi_rd hIm169 zq_45 zb_9_6
                generalize hmm171 : zu_up m169 a0 10 (m169 45 6) = m171
                have hIm171 := zi_up hmm171 hIm169 hc0 zb_3_10 (by omega) (by omega)
                have hFm171 := zfr_up hmm171 hFm169 hc0 rfl
                have hRTVm171 := zR_TV_fr (zdis_fr (zfr_up hmm171 (zfr_rf [(3, 11)] _) hc0 rfl) rfl) hRTVm169
                refine zw_b (by omega) ?_
                refine zw_some ?_
                refine zw_b (by omega) ?_
                refine zw_some ?_
                refine zw_ite (fun h172 => ?_) (fun h172 => ?_)
                · refine zw_b (by omega) ?_
                  exact zw_some ⟨hIm171, hFm171, ⟨by decide, by decide⟩⟩
                · exfalso; omega
    · exfalso; omega
  · refine zw_bd (zw_eq (zu_call_at (zt_T n) (zm_257 n) (zdp_257 n) _ _ _ _ _ rfl (zr_257_0 n _ _ a0 3 m0)) ?_)
    generalize hmm173 : zu_up m0 a0 9 3 = m173
    have hIm173 := zi_up hmm173 hIm0 hc0 zb_3_9 (by omega) (by omega)
    have hFm173 := zfr_up hmm173 hFm0 hc0 rfl
    have r174 : 0 ≤ (m173 45 6) ∧ (m173 45 6) ≤ 700 := zi_rd hIm173 zq_45 zb_9_6
    generalize hmm175 : zu_up m173 a0 10 (m173 45 6) = m175
    have hIm175 := zi_up hmm175 hIm173 hc0 zb_3_10 (by omega) (by omega)
    have hFm175 := zfr_up hmm175 hFm173 hc0 rfl
    refine zw_b (by omega) ?_
    refine zw_some ?_
    refine zw_b (by omega) ?_
    refine zw_some ?_
    refine zw_ite (fun h176 => ?_) (fun h176 => ?_)
    · exfalso; omega
    · refine zw_b (by omega) ?_
      exact zw_some ⟨hIm175, hFm175, ⟨by decide, by decide⟩⟩
set_option maxHeartbeats 4000000 in
theorem zl_291 (n : Nat) {a0 a1 a2 : Int} {m0 : zu_m} (hc0 : zcls a0 = 24)   : ∀ k : Nat, (∀ (x3 x4 x5 : Int) (mh : zu_m), zi_I mh → zfr [(56, 0), (59, 1), (59, 2), (59, 3), (59, 4), (59, 5), (59, 6), (59, 7), (90, 0), (91, 0)] m0 mh → (0 ≤ a1 ∧ a1 ≤ 3) → (0 ≤ a2 ∧ a2 ≤ 17) → (0 ≤ x3 ∧ x3 ≤ 1) → (0 ≤ x4 ∧ x4 ≤ 255) → ((-2147483648) ≤ x5 ∧ x5 ≤ 2147483647) → (x3 ≠ 0 → a2 ≤ 15) → (zR_K54 mh) → 1 < (k : Int) → zw (zu_ex (zt_T n) 291 51 [(33, a0), (0, a1), (0, a2), (0, x3), (0, x4), (0, x5)] [] mh) (fun v m => zi_I m ∧ zfr [(56, 0), (59, 1), (59, 2), (59, 3), (59, 4), (59, 5), (59, 6), (59, 7), (90, 0), (91, 0)] m0 m ∧ zR_K54 m ∧ (0 ≤ v ∧ v ≤ 1))) ∧ (∀ (x3 x4 x5 : Int) (mh : zu_m), zi_I mh → zfr [(56, 0), (59, 1), (59, 2), (59, 3), (59, 4), (59, 5), (59, 6), (59, 7), (90, 0), (91, 0)] m0 mh → (0 ≤ a1 ∧ a1 ≤ 3) → (0 ≤ a2 ∧ a2 ≤ 17) → (0 ≤ x3 ∧ x3 ≤ 1) → (0 ≤ x4 ∧ x4 ≤ 255) → ((-2147483648) ≤ x5 ∧ x5 ≤ 2147483647) → (x3 ≠ 0 → a2 ≤ 15) → (zR_K54 mh) → 0 < (k : Int) → zw (zu_ex (zt_T n) 291 106 [(33, a0), (0, a1), (0, a2), (0, x3), (0, x4), (0, x5)] [] mh) (fun v m => zi_I m ∧ zfr [(56, 0), (59, 1), (59, 2), (59, 3), (59, 4), (59, 5), (59, 6), (59, 7), (90, 0), (91, 0)] m0 m ∧ zR_K54 m ∧ (0 ≤ v ∧ v ≤ 1))) := by
  intro k
  induction k with
  | zero => exact ⟨fun x3 x4 x5 mh hImh hFmh hba1 hba2 hbx3 hbx4 hbx5 hH0 hRK54mh hM => by exfalso; omega, fun x3 x4 x5 mh hImh hFmh hba1 hba2 hbx3 hbx4 hbx5 hH0 hRK54mh hM => by exfalso; omega⟩
  | succ k ih =>
    refine ⟨?_, ?_⟩
    · intro x3 x4 x5 mh hImh hFmh hba1 hba2 hbx3 hbx4 hbx5 hH0 hRK54mh hM
      refine zw_eq (zu_rega_at (zt_T n) (zm_291 n) (zdp_291 n) _ _ _ _ _ _ (zr_291_51 n _ _ a0 a1 a2 x3 x4 x5 mh)) ?_
      have b1 : 0 ≤ x4 ∧ x4 < 256 := by omega
      refine zw_if b1 ?_
      have r2 : (-2147483648) ≤ (mh 159 x4) ∧ (mh 159 x4) ≤ 2147483647 := zi_rd hImh zq_159 (zb_90 _)
      have b3 := zu_i32_rg 3 (mh 159 x4) x5
      refine zw_ite (fun h4 => ?_) (fun h4 => ?_)
      · have hM : 0 < (k : Int) := by omega
        exact ih.2 x3 x4 x5 mh hImh hFmh ⟨by omega, by omega⟩ ⟨by omega, by omega⟩ ⟨by omega, by omega⟩ ⟨by omega, by omega⟩ ⟨by omega, by omega⟩ (by omega) hRK54mh hM
      · have b5 : 0 ≤ x4 ∧ x4 < 256 := by omega
        refine zw_if b5 ?_
        have b6 := zu_i32_rg 4 (mh 159 x4) x5
        have b7 : 0 ≤ x4 ∧ x4 < 256 := by omega
        refine zw_if b7 ?_
        generalize hmm8 : zu_up mh 159 x4 (zu_i32 4 (mh 159 x4) x5) = m8
        have hIm8 := zi_up hmm8 hImh zq_159 (zb_90 _) (by omega) (by omega)
        have hFm8 := zfr_up hmm8 hFmh zq_159 rfl
        have hRK54m8 := zR_K54_fr (zdis_fr (zfr_up hmm8 (zfr_rf [(90, 0)] _) zq_159 rfl) rfl) hRK54mh
        refine zw_bd (zw_mono (zk_292 n hIm8 hc0 ⟨by omega, by omega⟩ ⟨by omega, by omega⟩) (fun v10 m9 hqm9 => ?_))
        obtain ⟨hIm9, hfm9, hvm9⟩ := hqm9
        have hFm9 := zfr_tr hFm8 hfm9 rfl
        have hRK54m9 := zR_K54_fr (zdis_fr hfm9 rfl) hRK54m8
        refine zw_bd (zw_mono (zk_250 n hIm9 zq_50 hRK54m9) (fun v12 m11 hqm11 => ?_))
        obtain ⟨hIm11, hfm11, hvm11⟩ := hqm11
        have hFm11 := zfr_tr hFm9 hfm11 rfl
        obtain ⟨hRK54m11, hvm11⟩ := hvm11
        refine zw_ite (fun h13 => ?_) (fun h13 => ?_)
        · have hM : 0 < (k : Int) := by omega
          exact ih.2 x3 x4 x5 m11 hIm11 hFm11 ⟨by omega, by omega⟩ ⟨by omega, by omega⟩ ⟨by omega, by omega⟩ ⟨by omega, by omega⟩ ⟨by omega, by omega⟩ (by omega) hRK54m11 hM
        · have b14 : 0 ≤ x4 ∧ x4 < 256 := by omega
          refine zw_if b14 ?_
          have r15 : (-2147483648) ≤ (m11 160 x4) ∧ (m11 160 x4) ≤ 2147483647 := zi_rd hIm11 zq_160 (zb_91 _)
          have b16 := zu_i32_rg 4 (m11 160 x4) x5
          have b17 : 0 ≤ x4 ∧ x4 < 256 := by omega
          refine zw_if b17 ?_
          generalize hmm18 : zu_up m11 160 x4 (zu_i32 4 (m11 160 x4) x5) = m18
          have hIm18 := zi_up hmm18 hIm11 zq_160 (zb_91 _) (by omega) (by omega)
          have hFm18 := zfr_up hmm18 hFm11 zq_160 rfl
          have hRK54m18 := zR_K54_fr (zdis_fr (zfr_up hmm18 (zfr_rf [(91, 0)] _) zq_160 rfl) rfl) hRK54m11
          have hM : 0 < (k : Int) := by omega
          exact ih.2 x3 x4 x5 m18 hIm18 hFm18 ⟨by omega, by omega⟩ ⟨by omega, by omega⟩ ⟨by omega, by omega⟩ ⟨by omega, by omega⟩ ⟨by omega, by omega⟩ (by omega) hRK54m18 hM
    · intro x3 x4 x5 mh hImh hFmh hba1 hba2 hbx3 hbx4 hbx5 hH0 hRK54mh hM
      refine zw_eq (zu_rega_at (zt_T n) (zm_291 n) (zdp_291 n) _ _ _ _ _ _ (zr_291_106 n _ _ a0 a1 a2 x3 x4 x5 mh)) ?_
      have b19 : 0 ≤ x4 ∧ x4 < 256 := by omega
      refine zw_if b19 ?_
      have r20 : (-2147483648) ≤ (mh 160 x4) ∧ (mh 160 x4) ≤ 2147483647 := zi_rd hImh zq_160 (zb_91 _)
      have b21 := zu_i32_rg 3 (mh 160 x4) x5
      refine zw_ite (fun h22 => ?_) (fun h22 => ?_)
      · refine zw_b (by omega) ?_
        exact zw_some ⟨hImh, hFmh, hRK54mh, ⟨by decide, by decide⟩⟩
      · refine zw_ite (fun h23 => ?_) (fun h23 => ?_)
        · have r24 : 0 ≤ (mh a0 13) ∧ (mh a0 13) ≤ 3 := zi_rd hImh hc0 zb_24_13
          refine zw_bd (zw_eq (zu_call_at (zt_T n) (zm_217 n) (zdp_217 n) _ _ _ _ _ rfl (zr_217_0 n _ _ 89 a1 (mh a0 13) mh)) ?_)
          have r25 : 0 ≤ (mh 89 10) ∧ (mh 89 10) ≤ 3 := zi_rd hImh zq_89 zb_16_10
          refine zw_ite (fun h26 => ?_) (fun h26 => ?_)
          · refine zw_b (by omega) ?_
            refine zw_some ?_
            refine zw_ite (fun h27 => ?_) (fun h27 => ?_)
            · exfalso; omega
            · refine zw_b (by omega) ?_
              exact zw_some ⟨hImh, hFmh, hRK54mh, ⟨by decide, by decide⟩⟩
          · refine zw_nif (by omega) ?_
            have d28 : Int.tmod a1 4 = a1 % 4 := Int.tmod_eq_emod_of_nonneg (by omega)
            refine zw_ite (fun h29 => ?_) (fun h29 => ?_)
            · refine zw_b (by omega) ?_
              refine zw_some ?_
              refine zw_ite (fun h30 => ?_) (fun h30 => ?_)
              · refine zw_b (by omega) ?_
                exact zw_some ⟨hImh, hFmh, hRK54mh, ⟨by decide, by decide⟩⟩
              · exfalso; omega
            · refine zw_b (by omega) ?_
              refine zw_some ?_
              refine zw_ite (fun h31 => ?_) (fun h31 => ?_)
              · exfalso; omega
              · refine zw_b (by omega) ?_
                exact zw_some ⟨hImh, hFmh, hRK54mh, ⟨by decide, by decide⟩⟩
        · have b32 : 0 ≤ a2 ∧ a2 < 16 := by omega
          refine zw_if b32 ?_
          have r33 : 0 ≤ (mh ((89 + 1) + 5 + a2) 1) ∧ (mh ((89 + 1) + 5 + a2) 1) ≤ 3 := zi_rd hImh (zc_65_e (zc_16_1 zq_89) b32) zb_17_1
          refine zw_bd (zw_eq (zu_call_at (zt_T n) (zm_217 n) (zdp_217 n) _ _ _ _ _ rfl (zr_217_0 n _ _ 89 a1 (mh ((89 + 1) + 5 + a2) 1) mh)) ?_)
          have r34 : 0 ≤ (mh 89 10) ∧ (mh 89 10) ≤ 3 := zi_rd hImh zq_89 zb_16_10
          refine zw_ite (fun h35 => ?_) (fun h35 => ?_)
          · refine zw_b (by omega) ?_
            refine zw_some ?_
            refine zw_ite (fun h36 => ?_) (fun h36 => ?_)
            · exfalso; omega
            · refine zw_b (by omega) ?_
              exact zw_some ⟨hImh, hFmh, hRK54mh, ⟨by decide, by decide⟩⟩
          · refine zw_nif (by omega) ?_
            have d37 : Int.tmod a1 4 = a1 % 4 := Int.tmod_eq_emod_of_nonneg (by omega)
            refine zw_ite (fun h38 => ?_) (fun h38 => ?_)
            · refine zw_b (by omega) ?_
              refine zw_some ?_
              refine zw_ite (fun h39 => ?_) (fun h39 => ?_)
              · refine zw_b (by omega) ?_
                exact zw_some ⟨hImh, hFmh, hRK54mh, ⟨by decide, by decide⟩⟩
              · exfalso; omega
            · refine zw_b (by omega) ?_
              refine zw_some ?_
              refine zw_ite (fun h40 => ?_) (fun h40 => ?_)
              · exfalso; omega
              · refine zw_b (by omega) ?_
                exact zw_some ⟨hImh, hFmh, hRK54mh, ⟨by decide, by decide⟩⟩
set_option maxHeartbeats 4000000 in
theorem zk_291 (n : Nat) {a0 a1 a2 : Int} {m0 : zu_m} (hIm0 : zi_I m0) (hc0 : zcls a0 = 24) (ha1 : 0 ≤ a1 ∧ a1 ≤ 3) (ha2 : 0 ≤ a2 ∧ a2 ≤ 17)    (hRK54m0 : zR_K54 m0) : zw (zu_call (zt_T n) 291 [(33, a0), (0, a1), (0, a2)] m0) (fun v m => zi_I m ∧ zfr [(56, 0), (59, 1), (59, 2), (59, 3), (59, 4), (59, 5), (59, 6), (59, 7), (90, 0), (91, 0)] m0 m ∧ zR_K54 m ∧ (0 ≤ v ∧ v ≤ 1)) := by
  have hFm0 : zfr [(56, 0), (59, 1), (59, 2), (59, 3), (59, 4), (59, 5), (59, 6), (59, 7), (90, 0), (91, 0)] m0 m0 := zfr_rf _ _
  refine zw_eq (zu_call_at (zt_T n) (zm_291 n) (zdp_291 n) _ _ _ _ _ rfl (zr_291_0 n _ _ a0 a1 a2 m0)) ?_
  have r41 : 0 ≤ (m0 89 2) ∧ (m0 89 2) ≤ 16 := zi_rd hIm0 zq_89 zb_16_2
  refine zw_ite (fun h42 => ?_) (fun h42 => ?_)
  · have w43 := zu_w32_id (z := a1 * 64) (by omega) (by omega)
    refine zw_ite (fun h44 => ?_) (fun h44 => ?_)
    · have b45 : 0 ≤ a2 ∧ a2 < 18 := by omega
      refine zw_if b45 ?_
      have r46 : 0 ≤ (m0 155 a2) ∧ (m0 155 a2) ≤ 47 := zi_rd hIm0 zq_155 (zb_86 _)
      have w47 := zu_w32_id (z := 16 + (m0 155 a2)) (by omega) (by omega)
      have w48 := zu_w32_id (z := (zu_w32 (a1 * 64)) + (zu_w32 (16 + (m0 155 a2)))) (by omega) (by omega)
      have b49 : 0 ≤ a1 ∧ a1 < 4 := by omega
      refine zw_if b49 ?_
      have r50 : (-2147483648) ≤ (m0 158 a1) ∧ (m0 158 a1) ≤ 2147483647 := zi_rd hIm0 zq_158 (zb_89 _)
      have b51 := zu_i32_rg 5 1 (m0 158 a1)
      have hM : 1 < ((2 : Nat) : Int) := by omega
      exact (zl_291 n (m0 := m0) hc0 2).1 0 (zu_w32 ((zu_w32 (a1 * 64)) + (zu_w32 (16 + (m0 155 a2))))) (zu_i32 5 1 (m0 158 a1)) m0 hIm0 hFm0 ⟨by omega, by omega⟩ ⟨by omega, by omega⟩ ⟨by omega, by omega⟩ ⟨by omega, by omega⟩ ⟨by omega, by omega⟩ (by omega) hRK54m0 hM
    · exfalso; omega
  · have w52 := zu_w32_id (z := a1 * 64) (by omega) (by omega)
    refine zw_ite (fun h53 => ?_) (fun h53 => ?_)
    · exfalso; omega
    · have w54 := zu_w32_id (z := (zu_w32 (a1 * 64)) + a2) (by omega) (by omega)
      have b55 : 0 ≤ a1 ∧ a1 < 4 := by omega
      refine zw_if b55 ?_
      have r56 : (-2147483648) ≤ (m0 158 a1) ∧ (m0 158 a1) ≤ 2147483647 := zi_rd hIm0 zq_158 (zb_89 _)
      have b57 := zu_i32_rg 5 1 (m0 158 a1)
      have hM : 1 < ((2 : Nat) : Int) := by omega
      exact (zl_291 n (m0 := m0) hc0 2).1 1 (zu_w32 ((zu_w32 (a1 * 64)) + a2)) (zu_i32 5 1 (m0 158 a1)) m0 hIm0 hFm0 ⟨by omega, by omega⟩ ⟨by omega, by omega⟩ ⟨by omega, by omega⟩ ⟨by omega, by omega⟩ ⟨by omega, by omega⟩ (by omega) hRK54m0 hM
set_option maxHeartbeats 4000000 in
theorem zk_19 (n : Nat) {a0 : Int} {m0 : zu_m} (hIm0 : zi_I m0) (hc0 : zcls a0 = 2)     (hRE19m0 : zE m0 19 6) (hRG6m0 : (m0 6 2 = m0 6 0 * m0 6 1)) (hRK10m0 : zR_K10 m0) : zw (zu_call (zt_T n) 19 [(5, a0)] m0) (fun v m => zi_I m ∧ zfr [(2, 10), (11, 1), (11, 2), (11, 3), (11, 4), (11, 5), (11, 6), (12, 6), (12, 7), (13, 3), (13, 5), (13, 9), (13, 10), (13, 11), (13, 12), (14, 1), (14, 2), (14, 3), (14, 4), (15, 1), (15, 2), (15, 3), (15, 4), (15, 5), (15, 6), (15, 7), (15, 8), (16, 3), (16, 5), (16, 9), (16, 10), (16, 11), (16, 12), (17, 1), (17, 2), (17, 3), (17, 4), (18, 1), (18, 2), (18, 3), (18, 4), (18, 5), (18, 6), (18, 7), (18, 8), (22, 7), (22, 8), (23, 5), (49, 0), (50, 0), (51, 0), (52, 0), (53, 0), (54, 0), (55, 0), (56, 0), (57, 0), (58, 0), (59, 1), (59, 2), (59, 3), (59, 4), (59, 5), (59, 6), (59, 7), (62, 0), (63, 0), (67, 0), (68, 0)] m0 m ∧ (m 3 9 = 1 → zE m 115 50) ∧ zE m 19 6 ∧ zE m 63 50 ∧ zE m 89 50 ∧ zgeo m 50 ∧ (m 6 2 = m 6 0 * m 6 1) ∧ zR_K10 m ∧ zR_K54 m ∧ zR_UN m ∧ zR_UW m ∧ True ∧ (0 ≤ m a0 9 ∧ m a0 9 ≤ 0)) := by
  have hFm0 : zfr [(2, 10), (11, 1), (11, 2), (11, 3), (11, 4), (11, 5), (11, 6), (12, 6), (12, 7), (13, 3), (13, 5), (13, 9), (13, 10), (13, 11), (13, 12), (14, 1), (14, 2), (14, 3), (14, 4), (15, 1), (15, 2), (15, 3), (15, 4), (15, 5), (15, 6), (15, 7), (15, 8), (16, 3), (16, 5), (16, 9), (16, 10), (16, 11), (16, 12), (17, 1), (17, 2), (17, 3), (17, 4), (18, 1), (18, 2), (18, 3), (18, 4), (18, 5), (18, 6), (18, 7), (18, 8), (22, 7), (22, 8), (23, 5), (49, 0), (50, 0), (51, 0), (52, 0), (53, 0), (54, 0), (55, 0), (56, 0), (57, 0), (58, 0), (59, 1), (59, 2), (59, 3), (59, 4), (59, 5), (59, 6), (59, 7), (62, 0), (63, 0), (67, 0), (68, 0)] m0 m0 := zfr_rf _ _
  refine zw_eq (zu_call_at (zt_T n) (zm_19 n) (zdp_19 n) _ _ _ _ _ rfl (zr_19_0 n _ _ a0 m0)) ?_
  refine zw_bd (zw_mono (zk_20 n hIm0 zq_50 zq_6 hRG6m0 hRK10m0) (fun v2 m1 hqm1 => ?_))
  obtain ⟨hIm1, hfm1, hvm1⟩ := hqm1
  have hFm1 := zfr_tr hFm0 hfm1 rfl
  obtain ⟨hRG5m1, hRG6m1, hRK10m1, hRK54m1, hvm1⟩ := hvm1
  have hRE19m1 := zR_E19_fr (zdis_fr hfm1 rfl) hRE19m0
  have r3 : 1 ≤ (m1 50 2) ∧ (m1 50 2) ≤ 48 := zi_rd hIm1 zq_50 zb_11_2
  have r4 : 1 ≤ (m1 6 2) ∧ (m1 6 2) ≤ 48 := zi_rd hIm1 zq_6 zb_4_2
  have hE1m1 : zE m1 19 50 := zE_P hRE19m1 (by omega)
  refine zw_bd (zw_mono (zk_22_13_6 n hIm1 zq_63 zq_19) (fun v6 m5 hqm5 => ?_))
  obtain ⟨hIm5, hfm5, hvm5⟩ := hqm5
  have hFm5 := zfr_tr hFm1 hfm5 rfl
  have hRE19m5 := zR_E19_fr (zdis_fr hfm5 rfl) hRE19m1
  have hRG5m5 := zR_G5_fr (zdis_fr hfm5 rfl) hRG5m1
  have hRG6m5 := zR_G6_fr (zdis_fr hfm5 rfl) hRG6m1
  have hRK10m5 := zR_K10_fr (zdis_fr hfm5 rfl) hRK10m1
  have hRK54m5 := zR_K54_fr (zdis_fr hfm5 rfl) hRK54m1
  have hRE63m5 : zE m5 63 50 := (hvm5.2) hE1m1
  refine zw_bd (zw_mono (zk_23 n hIm5 zq_50 zq_63 hRK54m5) (fun v8 m7 hqm7 => ?_))
  obtain ⟨hIm7, hfm7, hvm7⟩ := hqm7
  have hFm7 := zfr_tr hFm5 hfm7 rfl
  obtain ⟨hRK54m7, hvm7⟩ := hvm7
  have hRE19m7 := zR_E19_fr (zdis_fr hfm7 rfl) hRE19m5
  have hRE63m7 := zR_E63_fr (zdis_fr hfm7 rfl) hRE63m5
  have hRG5m7 := zR_G5_fr (zdis_fr hfm7 rfl) hRG5m5
  have hRG6m7 := zR_G6_fr (zdis_fr hfm7 rfl) hRG6m5
  have hRK10m7 := zR_K10_fr (zdis_fr hfm7 rfl) hRK10m5
  refine zw_bd (zw_mono (zk_22_16_13 n hIm7 zq_89 zq_63) (fun v10 m9 hqm9 => ?_))
  obtain ⟨hIm9, hfm9, hvm9⟩ := hqm9
  have hFm9 := zfr_tr hFm7 hfm9 rfl
  have hRE19m9 := zR_E19_fr (zdis_fr hfm9 rfl) hRE19m7
  have hRE63m9 := zR_E63_fr (zdis_fr hfm9 rfl) hRE63m7
  have hRG5m9 := zR_G5_fr (zdis_fr hfm9 rfl) hRG5m7
  have hRG6m9 := zR_G6_fr (zdis_fr hfm9 rfl) hRG6m7
  have hRK10m9 := zR_K10_fr (zdis_fr hfm9 rfl) hRK10m7
  have hRK54m9 := zR_K54_fr (zdis_fr hfm9 rfl) hRK54m7
  have hRE89m9 : zE m9 89 50 := (hvm9.2) hRE63m7
  refine zw_b (by omega) ?_
  generalize hmm11 : zu_up m9 a0 9 0 = m11
  have hIm11 := zi_up hmm11 hIm9 hc0 zb_2_9 (by omega) (by omega)
  have hFm11 := zfr_up hmm11 hFm9 hc0 rfl
  have hRE19m11 := zR_E19_fr (zdis_fr (zfr_up hmm11 (zfr_rf [(2, 10)] _) hc0 rfl) rfl) hRE19m9
  have hRE63m11 := zR_E63_fr (zdis_fr (zfr_up hmm11 (zfr_rf [(2, 10)] _) hc0 rfl) rfl) hRE63m9
  have hRE89m11 := zR_E89_fr (zdis_fr (zfr_up hmm11 (zfr_rf [(2, 10)] _) hc0 rfl) rfl) hRE89m9
  have hRG5m11 := zR_G5_fr (zdis_fr (zfr_up hmm11 (zfr_rf [(2, 10)] _) hc0 rfl) rfl) hRG5m9
  have hRG6m11 := zR_G6_fr (zdis_fr (zfr_up hmm11 (zfr_rf [(2, 10)] _) hc0 rfl) rfl) hRG6m9
  have hRK10m11 := zR_K10_fr (zdis_fr (zfr_up hmm11 (zfr_rf [(2, 10)] _) hc0 rfl) rfl) hRK10m9
  have hRK54m11 := zR_K54_fr (zdis_fr (zfr_up hmm11 (zfr_rf [(2, 10)] _) hc0 rfl) rfl) hRK54m9
  have hRE115m11 := zE5_z (zone_3 hc0) hmm11 rfl
  refine zw_bd (zw_mono (zk_27 n hIm11 zq_141) (fun v13 m12 hqm12 => ?_))
  obtain ⟨hIm12, hfm12, hvm12⟩ := hqm12
  have hFm12 := zfr_tr hFm11 hfm12 rfl
  have hRE115m12 := zR_E115_fr (zdis_fr hfm12 rfl) hRE115m11
  have hRE19m12 := zR_E19_fr (zdis_fr hfm12 rfl) hRE19m11
  have hRE63m12 := zR_E63_fr (zdis_fr hfm12 rfl) hRE63m11
  have hRE89m12 := zR_E89_fr (zdis_fr hfm12 rfl) hRE89m11
  have hRG5m12 := zR_G5_fr (zdis_fr hfm12 rfl) hRG5m11
  have hRG6m12 := zR_G6_fr (zdis_fr hfm12 rfl) hRG6m11
  have hRK10m12 := zR_K10_fr (zdis_fr hfm12 rfl) hRK10m11
  have hRK54m12 := zR_K54_fr (zdis_fr hfm12 rfl) hRK54m11
  refine zw_bd (zw_mono (zk_28 n hIm12 zq_148) (fun v15 m14 hqm14 => ?_))
  obtain ⟨hIm14, hfm14, hvm14⟩ := hqm14
  have hFm14 := zfr_tr hFm12 hfm14 rfl
  obtain ⟨hRUNm14, hRUWm14, hvm14⟩ := hvm14
  have hRE115m14 := zR_E115_fr (zdis_fr hfm14 rfl) hRE115m12
  have hRE19m14 := zR_E19_fr (zdis_fr hfm14 rfl) hRE19m12
  have hRE63m14 := zR_E63_fr (zdis_fr hfm14 rfl) hRE63m12
  have hRE89m14 := zR_E89_fr (zdis_fr hfm14 rfl) hRE89m12
  have hRG5m14 := zR_G5_fr (zdis_fr hfm14 rfl) hRG5m12
  have hRG6m14 := zR_G6_fr (zdis_fr hfm14 rfl) hRG6m12
  have hRK10m14 := zR_K10_fr (zdis_fr hfm14 rfl) hRK10m12
  have hRK54m14 := zR_K54_fr (zdis_fr hfm14 rfl) hRK54m12
  have r16 : 0 ≤ (m14 a0 9) ∧ (m14 a0 9) ≤ 1 := zi_rd hIm14 hc0 zb_2_9
  have e17 : (m14 a0 9) = 0 := (Eq.trans (zfr_ap hfm14 hc0 rfl) (Eq.trans (zfr_ap hfm12 hc0 rfl) (zs_eq hmm11)))
  exact zw_some ⟨hIm14, hFm14, hRE115m14, hRE19m14, hRE63m14, hRE89m14, hRG5m14, hRG6m14, hRK10m14, hRK54m14, hRUNm14, hRUWm14, trivial, ⟨by omega, by omega⟩⟩
set_option maxHeartbeats 4000000 in
theorem zk_37 (n : Nat) {a0 a1 : Int} {m0 : zu_m} (hIm0 : zi_I m0) (hc0 : zcls a0 = 28) (ha1 : 0 ≤ a1 ∧ a1 ≤ 47)    (hRKNm0 : zR_KN m0) (hRLTm0 : zR_LT m0) : zw (zu_call (zt_T n) 37 [(40, a0), (0, a1)] m0) (fun v m => zi_I m ∧ zfr [(28, 54), (122, 0), (123, 0)] m0 m ∧ zR_KN m ∧ zR_LT m ∧ (0 ≤ v ∧ v ≤ 999)) := by
  have hFm0 : zfr [(28, 54), (122, 0), (123, 0)] m0 m0 := zfr_rf _ _
  refine zw_eq (zu_call_at (zt_T n) (zm_37 n) (zdp_37 n) _ _ _ _ _ rfl (zr_37_0 n _ _ a0 a1 m0)) ?_
  refine zw_bd (zw_mono (zk_38 n hIm0 hc0 ⟨by decide, by decide⟩ ⟨by decide, by decide⟩ ⟨by omega, by omega⟩ ⟨by decide, by decide⟩ ⟨by decide, by decide⟩ ⟨by decide, by decide⟩) (fun v2 m1 hqm1 => ?_))
  obtain ⟨hIm1, hfm1, hvm1⟩ := hqm1
  have hFm1 := zfr_tr hFm0 hfm1 rfl
  have hRKNm1 := zR_KN_fr (zdis_fr hfm1 rfl) hRKNm0
  have hRLTm1 := zR_LT_fr (zdis_fr hfm1 rfl) hRLTm0
  have b3 : 0 ≤ a1 ∧ a1 < 96 := by omega
  refine zw_if b3 ?_
  have r4 : 0 ≤ (m1 195 a1) ∧ (m1 195 a1) ≤ 3 := zi_rd hIm1 zq_195 (zb_104 _)
  have w5 := zu_w32_id (z := 1 + (m1 195 a1)) (by omega) (by omega)
  refine zw_bd (zw_mono (zk_39 n hIm1 hc0 ⟨by decide, by decide⟩ ⟨by omega, by omega⟩ ⟨by decide, by decide⟩ hRKNm1 hRLTm1) (fun v7 m6 hqm6 => ?_))
  obtain ⟨hIm6, hfm6, hvm6⟩ := hqm6
  have hFm6 := zfr_tr hFm1 hfm6 rfl
  obtain ⟨hRKNm6, hRLTm6, hvm6⟩ := hvm6
  exact zw_some ⟨hIm6, hFm6, hRKNm6, hRLTm6, ⟨by omega, by omega⟩⟩
set_option maxHeartbeats 4000000 in
theorem zk_48 (n : Nat) {a0 a1 a2 : Int} {m0 : zu_m} (hIm0 : zi_I m0) (hc0 : zcls a0 = 2) (ha1 : (-2147483648) ≤ a1 ∧ a1 ≤ 2147483647) (ha2 : (-2147483648) ≤ a2 ∧ a2 ≤ 2147483647)    (hRK54m0 : zR_K54 m0) : zw (zu_call (zt_T n) 48 [(5, a0), (0, a1), (0, a2)] m0) (fun v m => zi_I m ∧ zfr [(56, 0), (59, 1), (59, 2), (59, 3), (59, 4), (59, 5), (59, 6), (59, 7)] m0 m ∧ zR_K54 m ∧ ((-1) ≤ v ∧ v ≤ 100)) := by
  have hFm0 : zfr [(56, 0), (59, 1), (59, 2), (59, 3), (59, 4), (59, 5), (59, 6), (59, 7)] m0 m0 := zfr_rf _ _
  refine zw_eq (zu_call_at (zt_T n) (zm_48 n) (zdp_48 n) _ _ _ _ _ rfl (zr_48_0 n _ _ a0 a1 a2 m0)) ?_
  refine zw_bd (zw_eq (zu_call_at (zt_T n) (zm_211 n) (zdp_211 n) _ _ _ _ _ rfl (zr_211_0 n _ _ 89 a1 m0)) ?_)
  refine zw_ite (fun h1 => ?_) (fun h1 => ?_)
  · refine zw_b (by omega) ?_
    refine zw_some ?_
    refine zw_ite (fun h2 => ?_) (fun h2 => ?_)
    · exact zw_some ⟨hIm0, hFm0, hRK54m0, ⟨by decide, by decide⟩⟩
    · exfalso; omega
  · have r3 : 0 ≤ (m0 89 4) ∧ (m0 89 4) ≤ 4 := zi_rd hIm0 zq_89 zb_16_4
    refine zw_ite (fun h4 => ?_) (fun h4 => ?_)
    · refine zw_b (by omega) ?_
      refine zw_some ?_
      refine zw_ite (fun h5 => ?_) (fun h5 => ?_)
      · exact zw_some ⟨hIm0, hFm0, hRK54m0, ⟨by decide, by decide⟩⟩
      · exfalso; omega
    · refine zw_b (by omega) ?_
      refine zw_some ?_
      refine zw_ite (fun h6 => ?_) (fun h6 => ?_)
      · exfalso; omega
      · refine zw_bd (zw_eq (zu_call_at (zt_T n) (zm_210 n) (zdp_210 n) _ _ _ _ _ rfl (zr_210_0 n _ _ 89 a2 m0)) ?_)
        refine zw_ite (fun h7 => ?_) (fun h7 => ?_)
        · refine zw_b (by omega) ?_
          refine zw_some ?_
          refine zw_ite (fun h8 => ?_) (fun h8 => ?_)
          · exfalso; omega
          · exact zw_some ⟨hIm0, hFm0, hRK54m0, ⟨by decide, by decide⟩⟩
        · have r9 : 0 ≤ (m0 89 2) ∧ (m0 89 2) ≤ 16 := zi_rd hIm0 zq_89 zb_16_2
          refine zw_ite (fun h10 => ?_) (fun h10 => ?_)
          · refine zw_b (by omega) ?_
            refine zw_some ?_
            refine zw_ite (fun h11 => ?_) (fun h11 => ?_)
            · exfalso; omega
            · exact zw_some ⟨hIm0, hFm0, hRK54m0, ⟨by decide, by decide⟩⟩
          · refine zw_b (by omega) ?_
            refine zw_some ?_
            refine zw_ite (fun h12 => ?_) (fun h12 => ?_)
            · refine zw_bd (zw_mono (zk_225 n hIm0 zq_89 ⟨by omega, by omega⟩ ⟨by omega, by omega⟩ hRK54m0) (fun v14 m13 hqm13 => ?_))
              obtain ⟨hIm13, hfm13, hvm13⟩ := hqm13
              have hFm13 := zfr_tr hFm0 hfm13 rfl
              obtain ⟨hRK54m13, hvm13⟩ := hvm13
              exact zw_some ⟨hIm13, hFm13, hRK54m13, ⟨by omega, by omega⟩⟩
            · exfalso; omega
set_option maxHeartbeats 4000000 in
theorem zk_49 (n : Nat) {a0 a1 a2 a3 : Int} {m0 : zu_m} (hIm0 : zi_I m0) (hc0 : zcls a0 = 2) (ha1 : (-2147483648) ≤ a1 ∧ a1 ≤ 2147483647) (ha2 : (-2147483648) ≤ a2 ∧ a2 ≤ 2147483647) (ha3 : (-2147483648) ≤ a3 ∧ a3 ≤ 2147483647)    (hRK54m0 : zR_K54 m0) : zw (zu_call (zt_T n) 49 [(5, a0), (0, a1), (0, a2), (0, a3)] m0) (fun v m => zi_I m ∧ zfr [(56, 0), (59, 1), (59, 2), (59, 3), (59, 4), (59, 5), (59, 6), (59, 7)] m0 m ∧ zR_K54 m ∧ ((-9223372036854775808) ≤ v ∧ v ≤ 9223372036854775807)) := by
  have hFm0 : zfr [(56, 0), (59, 1), (59, 2), (59, 3), (59, 4), (59, 5), (59, 6), (59, 7)] m0 m0 := zfr_rf _ _
  refine zw_eq (zu_call_at (zt_T n) (zm_49 n) (zdp_49 n) _ _ _ _ _ rfl (zr_49_0 n _ _ a0 a1 a2 a3 m0)) ?_
  refine zw_ite (fun h1 => ?_) (fun h1 => ?_)
  · refine zw_bd (zw_mono (zk_227 n hIm0 zq_89 ⟨by decide, by decide⟩ ⟨by omega, by omega⟩ ⟨by omega, by omega⟩ hRK54m0) (fun v3 m2 hqm2 => ?_))
    obtain ⟨hIm2, hfm2, hvm2⟩ := hqm2
    have hFm2 := zfr_tr hFm0 hfm2 rfl
    obtain ⟨hRK54m2, hvm2⟩ := hvm2
    exact zw_some ⟨hIm2, hFm2, hRK54m2, ⟨by omega, by omega⟩⟩
  · refine zw_ite (fun h4 => ?_) (fun h4 => ?_)
    · refine zw_bd (zw_mono (zk_227 n hIm0 zq_89 ⟨by decide, by decide⟩ ⟨by omega, by omega⟩ ⟨by omega, by omega⟩ hRK54m0) (fun v6 m5 hqm5 => ?_))
      obtain ⟨hIm5, hfm5, hvm5⟩ := hqm5
      have hFm5 := zfr_tr hFm0 hfm5 rfl
      obtain ⟨hRK54m5, hvm5⟩ := hvm5
      exact zw_some ⟨hIm5, hFm5, hRK54m5, ⟨by omega, by omega⟩⟩
    · refine zw_ite (fun h7 => ?_) (fun h7 => ?_)
      · refine zw_bd (zw_eq (zu_call_at (zt_T n) (zm_244 n) (zdp_244 n) _ _ _ _ _ rfl (zr_244_0 n _ _ 50 a2 m0)) ?_)
        refine zw_ite (fun h8 => ?_) (fun h8 => ?_)
        · refine zw_b (by omega) ?_
          refine zw_some ?_
          refine zw_ite (fun h9 => ?_) (fun h9 => ?_)
          · exact zw_some ⟨hIm0, hFm0, hRK54m0, ⟨by decide, by decide⟩⟩
          · exfalso; omega
        · have r10 : 1 ≤ (m0 50 2) ∧ (m0 50 2) ≤ 48 := zi_rd hIm0 zq_50 zb_11_2
          refine zw_ite (fun h11 => ?_) (fun h11 => ?_)
          · refine zw_b (by omega) ?_
            refine zw_some ?_
            refine zw_ite (fun h12 => ?_) (fun h12 => ?_)
            · exact zw_some ⟨hIm0, hFm0, hRK54m0, ⟨by decide, by decide⟩⟩
            · exfalso; omega
          · refine zw_b (by omega) ?_
            refine zw_some ?_
            refine zw_ite (fun h13 => ?_) (fun h13 => ?_)
            · exfalso; omega
            · refine zw_bd (zw_mono (zk_24 n hIm0 zq_50 ⟨by omega, by omega⟩ hRK54m0) (fun v15 m14 hqm14 => ?_))
              obtain ⟨hIm14, hfm14, hvm14⟩ := hqm14
              have hFm14 := zfr_tr hFm0 hfm14 rfl
              obtain ⟨hRK54m14, hvm14⟩ := hvm14
              exact zw_some ⟨hIm14, hFm14, hRK54m14, ⟨by omega, by omega⟩⟩
      · refine zw_ite (fun h16 => ?_) (fun h16 => ?_)
        · refine zw_bd (zw_eq (zu_call_at (zt_T n) (zm_210 n) (zdp_210 n) _ _ _ _ _ rfl (zr_210_0 n _ _ 89 a2 m0)) ?_)
          refine zw_ite (fun h17 => ?_) (fun h17 => ?_)
          · refine zw_b (by omega) ?_
            refine zw_some ?_
            refine zw_ite (fun h18 => ?_) (fun h18 => ?_)
            · exact zw_some ⟨hIm0, hFm0, hRK54m0, ⟨by decide, by decide⟩⟩
            · exfalso; omega
          · have r19 : 0 ≤ (m0 89 2) ∧ (m0 89 2) ≤ 16 := zi_rd hIm0 zq_89 zb_16_2
            refine zw_ite (fun h20 => ?_) (fun h20 => ?_)
            · refine zw_b (by omega) ?_
              refine zw_some ?_
              refine zw_ite (fun h21 => ?_) (fun h21 => ?_)
              · exact zw_some ⟨hIm0, hFm0, hRK54m0, ⟨by decide, by decide⟩⟩
              · exfalso; omega
            · refine zw_b (by omega) ?_
              refine zw_some ?_
              refine zw_ite (fun h22 => ?_) (fun h22 => ?_)
              · exfalso; omega
              · refine zw_bd (zw_mono (zk_229 n hIm0 zq_89 ⟨by omega, by omega⟩ hRK54m0) (fun v24 m23 hqm23 => ?_))
                obtain ⟨hIm23, hfm23, hvm23⟩ := hqm23
                have hFm23 := zfr_tr hFm0 hfm23 rfl
                obtain ⟨hRK54m23, hvm23⟩ := hvm23
                exact zw_some ⟨hIm23, hFm23, hRK54m23, ⟨by omega, by omega⟩⟩
        · exact zw_some ⟨hIm0, hFm0, hRK54m0, ⟨by decide, by decide⟩⟩
set_option maxHeartbeats 4000000 in
theorem zk_68 (n : Nat) {a0 : Int} {m0 : zu_m} (hIm0 : zi_I m0) (hc0 : zcls a0 = 2)     (hRK54m0 : zR_K54 m0) : zw (zu_call (zt_T n) 68 [(5, a0)] m0) (fun v m => zi_I m ∧ zfr [(56, 0), (59, 1), (59, 2), (59, 3), (59, 4), (59, 5), (59, 6), (59, 7)] m0 m ∧ zR_K54 m ∧ ((-2147483648) ≤ v ∧ v ≤ 2147483647)) := by
  have hFm0 : zfr [(56, 0), (59, 1), (59, 2), (59, 3), (59, 4), (59, 5), (59, 6), (59, 7)] m0 m0 := zfr_rf _ _
  refine zw_eq (zu_call_at (zt_T n) (zm_68 n) (zdp_68 n) _ _ _ _ _ rfl (zr_68_0 n _ _ a0 m0)) ?_
  refine zw_bd (zw_mono (zk_230 n hIm0 zq_89 hRK54m0) (fun v2 m1 hqm1 => ?_))
  obtain ⟨hIm1, hfm1, hvm1⟩ := hqm1
  have hFm1 := zfr_tr hFm0 hfm1 rfl
  obtain ⟨hRK54m1, hvm1⟩ := hvm1
  exact zw_some ⟨hIm1, hFm1, hRK54m1, ⟨by omega, by omega⟩⟩
set_option maxHeartbeats 4000000 in
theorem zk_69 (n : Nat) {a0 a1 a2 : Int} {m0 : zu_m} (hIm0 : zi_I m0) (hc0 : zcls a0 = 2) (ha1 : (-2147483648) ≤ a1 ∧ a1 ≤ 2147483647) (ha2 : (-2147483648) ≤ a2 ∧ a2 ≤ 2147483647)    (hRK54m0 : zR_K54 m0) : zw (zu_call (zt_T n) 69 [(5, a0), (0, a1), (0, a2)] m0) (fun v m => zi_I m ∧ zfr [(56, 0), (59, 1), (59, 2), (59, 3), (59, 4), (59, 5), (59, 6), (59, 7)] m0 m ∧ zR_K54 m ∧ ((-1) ≤ v ∧ v ≤ 999)) := by
  have hFm0 : zfr [(56, 0), (59, 1), (59, 2), (59, 3), (59, 4), (59, 5), (59, 6), (59, 7)] m0 m0 := zfr_rf _ _
  refine zw_eq (zu_call_at (zt_T n) (zm_69 n) (zdp_69 n) _ _ _ _ _ rfl (zr_69_0 n _ _ a0 a1 a2 m0)) ?_
  refine zw_bd (zw_eq (zu_call_at (zt_T n) (zm_211 n) (zdp_211 n) _ _ _ _ _ rfl (zr_211_0 n _ _ 89 a1 m0)) ?_)
  refine zw_ite (fun h1 => ?_) (fun h1 => ?_)
  · refine zw_b (by omega) ?_
    refine zw_some ?_
    refine zw_ite (fun h2 => ?_) (fun h2 => ?_)
    · exact zw_some ⟨hIm0, hFm0, hRK54m0, ⟨by decide, by decide⟩⟩
    · exfalso; omega
  · have r3 : 0 ≤ (m0 89 4) ∧ (m0 89 4) ≤ 4 := zi_rd hIm0 zq_89 zb_16_4
    refine zw_ite (fun h4 => ?_) (fun h4 => ?_)
    · refine zw_b (by omega) ?_
      refine zw_some ?_
      refine zw_ite (fun h5 => ?_) (fun h5 => ?_)
      · exact zw_some ⟨hIm0, hFm0, hRK54m0, ⟨by decide, by decide⟩⟩
      · exfalso; omega
    · refine zw_b (by omega) ?_
      refine zw_some ?_
      refine zw_ite (fun h6 => ?_) (fun h6 => ?_)
      · exfalso; omega
      · refine zw_bd (zw_eq (zu_call_at (zt_T n) (zm_210 n) (zdp_210 n) _ _ _ _ _ rfl (zr_210_0 n _ _ 89 a2 m0)) ?_)
        refine zw_ite (fun h7 => ?_) (fun h7 => ?_)
        · refine zw_b (by omega) ?_
          refine zw_some ?_
          refine zw_ite (fun h8 => ?_) (fun h8 => ?_)
          · exfalso; omega
          · exact zw_some ⟨hIm0, hFm0, hRK54m0, ⟨by decide, by decide⟩⟩
        · have r9 : 0 ≤ (m0 89 2) ∧ (m0 89 2) ≤ 16 := zi_rd hIm0 zq_89 zb_16_2
          refine zw_ite (fun h10 => ?_) (fun h10 => ?_)
          · refine zw_b (by omega) ?_
            refine zw_some ?_
            refine zw_ite (fun h11 => ?_) (fun h11 => ?_)
            · exfalso; omega
            · exact zw_some ⟨hIm0, hFm0, hRK54m0, ⟨by decide, by decide⟩⟩
          · refine zw_b (by omega) ?_
            refine zw_some ?_
            refine zw_ite (fun h12 => ?_) (fun h12 => ?_)
            · refine zw_bd (zw_mono (zk_226 n hIm0 zq_89 ⟨by omega, by omega⟩ ⟨by omega, by omega⟩ hRK54m0) (fun v14 m13 hqm13 => ?_))
              obtain ⟨hIm13, hfm13, hvm13⟩ := hqm13
              have hFm13 := zfr_tr hFm0 hfm13 rfl
              obtain ⟨hRK54m13, hvm13⟩ := hvm13
              exact zw_some ⟨hIm13, hFm13, hRK54m13, ⟨by omega, by omega⟩⟩
            · exfalso; omega

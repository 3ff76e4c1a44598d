set_option maxHeartbeats 4000000 in
theorem zk_105 (n : Nat) {a0 : Int} {m0 : zu_m} (hIm0 : zi_I m0) (hc0 : zcls a0 = 28)   (he0 : 1 ≤ m0 a0 8 ∧ m0 a0 8 ≤ 6) (hxp0 : (m0 a0 21) = (m0 a0 48)) (hxp1 : (m0 a0 4) = 0) (hRC0m0 : zR_C0 m0) (hRCRm0 : zR_CR m0) (hRKNm0 : zR_KN m0) (hRLRm0 : zR_LR m0) (hRLTm0 : zR_LT m0) (hRNSm0 : zR_NS m0) (hRTRm0 : zR_TR m0) (hRWDm0 : zR_WD m0) : zw (zu_call (zt_T n) 105 [(40, a0)] m0) (fun v m => zi_I m ∧ zfr [(28, 5), (28, 6), (28, 8), (28, 9), (28, 10), (28, 11), (28, 12), (28, 18), (28, 19), (28, 20), (28, 21), (28, 22), (28, 23), (28, 24), (28, 43), (28, 46), (28, 47), (28, 48), (28, 49), (28, 50), (28, 51), (102, 0), (103, 0), (104, 0), (105, 0), (106, 0), (107, 0), (108, 0), (109, 0), (110, 0), (111, 0), (112, 0), (113, 0), (114, 0), (115, 0), (116, 0), (117, 0), (118, 0), (119, 0), (120, 0), (121, 0)] m0 m ∧ zR_C0 m ∧ zR_CR m ∧ zR_KN m ∧ zR_LR m ∧ zR_LT m ∧ zR_NS m ∧ zR_TR m ∧ zR_WD m ∧ (0 ≤ v ∧ v ≤ 1) ∧ (v = 1 → (m0 a0 7) < (m a0 7)) ∧ (v = 1 → (m a0 21) = (m a0 48)) ∧ (v = 1 → (m a0 4) = (m0 a0 4))) := by
  have hFm0 : zfr [(28, 5), (28, 6), (28, 8), (28, 9), (28, 10), (28, 11), (28, 12), (28, 18), (28, 19), (28, 20), (28, 21), (28, 22), (28, 23), (28, 24), (28, 43), (28, 46), (28, 47), (28, 48), (28, 49), (28, 50), (28, 51), (102, 0), (103, 0), (104, 0), (105, 0), (106, 0), (107, 0), (108, 0), (109, 0), (110, 0), (111, 0), (112, 0), (113, 0), (114, 0), (115, 0), (116, 0), (117, 0), (118, 0), (119, 0), (120, 0), (121, 0)] m0 m0 := zfr_rf _ _
  have r1 : 0 ≤ (m0 a0 7) ∧ (m0 a0 7) ≤ 700 := zi_rd hIm0 hc0 zb_28_7
  have r2 : (-2147483648) ≤ (m0 a0 4) ∧ (m0 a0 4) ≤ 2147483647 := zi_rd hIm0 hc0 zb_28_4
  have r3 : 0 ≤ (m0 a0 21) ∧ (m0 a0 21) ≤ 64 := zi_rd hIm0 hc0 zb_28_21
  have r4 : 0 ≤ (m0 a0 48) ∧ (m0 a0 48) ≤ 64 := zi_rd hIm0 hc0 zb_28_48
  have s5 := hRNSm0 a0 hc0
  have s6 := hRTRm0 a0 hc0
  refine zw_eq (zu_call_at (zt_T n) (zm_105 n) (zdp_105 n) _ _ _ _ _ rfl (zr_105_0 n _ _ a0 m0)) ?_
  refine zw_ite (fun h7 => ?_) (fun h7 => ?_)
  · refine zw_bd (zw_eq (zu_call_at (zt_T n) (zm_85 n) (zdp_85 n) _ _ _ _ _ rfl (zr_85_0 n _ _ a0 1 m0)) ?_)
    generalize hmm8 : zu_up m0 a0 4 1 = m8
    have hIm8 := zi_up hmm8 hIm0 hc0 zb_28_4 (by omega) (by omega)
    have hFm8 := zfr_up hmm8 hFm0 hc0 rfl
    have hRC0m8 := zR_C0_fr (zdis_fr (zfr_up hmm8 (zfr_rf [(28, 5)] _) hc0 rfl) rfl) hRC0m0
    have hRCRm8 := zR_CR_fr (zdis_fr (zfr_up hmm8 (zfr_rf [(28, 5)] _) hc0 rfl) rfl) hRCRm0
    have hRKNm8 := zR_KN_fr (zdis_fr (zfr_up hmm8 (zfr_rf [(28, 5)] _) hc0 rfl) rfl) hRKNm0
    have hRLTm8 := zR_LT_fr (zdis_fr (zfr_up hmm8 (zfr_rf [(28, 5)] _) hc0 rfl) rfl) hRLTm0
    have hRNSm8 := zR_NS_fr (zdis_fr (zfr_up hmm8 (zfr_rf [(28, 5)] _) hc0 rfl) rfl) hRNSm0
    have hRTRm8 := zR_TR_fr (zdis_fr (zfr_up hmm8 (zfr_rf [(28, 5)] _) hc0 rfl) rfl) hRTRm0
    have hRWDm8 := zR_WD_fr (zdis_fr (zfr_up hmm8 (zfr_rf [(28, 5)] _) hc0 rfl) rfl) hRWDm0
    have hRLRm8 := zLR_wr (zone_190 hc0) hmm8 (by decide)
    have r9 : 0 ≤ (m8 a0 10) ∧ (m8 a0 10) ≤ 700 := zi_rd hIm8 hc0 zb_28_10
    generalize hmm10 : zu_up m8 a0 5 (m8 a0 10) = m10
    have hIm10 := zi_up hmm10 hIm8 hc0 zb_28_5 (by omega) (by omega)
    have hFm10 := zfr_up hmm10 hFm8 hc0 rfl
    have hRC0m10 := zR_C0_fr (zdis_fr (zfr_up hmm10 (zfr_rf [(28, 6)] _) hc0 rfl) rfl) hRC0m8
    have hRCRm10 := zR_CR_fr (zdis_fr (zfr_up hmm10 (zfr_rf [(28, 6)] _) hc0 rfl) rfl) hRCRm8
    have hRKNm10 := zR_KN_fr (zdis_fr (zfr_up hmm10 (zfr_rf [(28, 6)] _) hc0 rfl) rfl) hRKNm8
    have hRLRm10 := zR_LR_fr (zdis_fr (zfr_up hmm10 (zfr_rf [(28, 6)] _) hc0 rfl) rfl) hRLRm8
    have hRLTm10 := zR_LT_fr (zdis_fr (zfr_up hmm10 (zfr_rf [(28, 6)] _) hc0 rfl) rfl) hRLTm8
    have hRNSm10 := zR_NS_fr (zdis_fr (zfr_up hmm10 (zfr_rf [(28, 6)] _) hc0 rfl) rfl) hRNSm8
    have hRTRm10 := zR_TR_fr (zdis_fr (zfr_up hmm10 (zfr_rf [(28, 6)] _) hc0 rfl) rfl) hRTRm8
    have hRWDm10 := zR_WD_fr (zdis_fr (zfr_up hmm10 (zfr_rf [(28, 6)] _) hc0 rfl) rfl) hRWDm8
    refine zw_b (by omega) ?_
    refine zw_some ?_
    refine zw_b (by omega) ?_
    have r11 : 0 ≤ (m10 a0 7) ∧ (m10 a0 7) ≤ 700 := zi_rd hIm10 hc0 zb_28_7
    have e12 : (m10 a0 7) = (m0 a0 7) := (Eq.trans (zs_ne hmm10 (Or.inr (by decide))) (zs_ne hmm8 (Or.inr (by decide))))
    have r13 : 0 ≤ (m10 a0 21) ∧ (m10 a0 21) ≤ 64 := zi_rd hIm10 hc0 zb_28_21
    have e14 : (m10 a0 21) = (m0 a0 21) := (Eq.trans (zs_ne hmm10 (Or.inr (by decide))) (zs_ne hmm8 (Or.inr (by decide))))
    have r15 : 0 ≤ (m10 a0 48) ∧ (m10 a0 48) ≤ 64 := zi_rd hIm10 hc0 zb_28_48
    have e16 : (m10 a0 48) = (m0 a0 48) := (Eq.trans (zs_ne hmm10 (Or.inr (by decide))) (zs_ne hmm8 (Or.inr (by decide))))
    have r17 : (-2147483648) ≤ (m10 a0 4) ∧ (m10 a0 4) ≤ 2147483647 := zi_rd hIm10 hc0 zb_28_4
    have e18 : (m10 a0 4) = 1 := (Eq.trans (zs_ne hmm10 (Or.inr (by decide))) (zs_eq hmm8))
    exact zw_some ⟨hIm10, hFm10, hRC0m10, hRCRm10, hRKNm10, hRLRm10, hRLTm10, hRNSm10, hRTRm10, hRWDm10, ⟨by omega, by omega⟩, by omega, by omega, by omega⟩
  · refine zw_ite (fun h19 => ?_) (fun h19 => ?_)
    · refine zw_ite (fun h20 => ?_) (fun h20 => ?_)
      · refine zw_ite (fun h21 => ?_) (fun h21 => ?_)
        · refine zw_ite (fun h22 => ?_) (fun h22 => ?_)
          · refine zw_ite (fun h23 => ?_) (fun h23 => ?_)
            · refine zw_ite (fun h24 => ?_) (fun h24 => ?_)
              · refine zw_bd (zw_mono (zk_104 n hIm0 hc0 ⟨by omega, by omega⟩ hRLRm0 hRNSm0 hRTRm0 hRWDm0) (fun v26 m25 hqm25 => ?_))
                obtain ⟨hIm25, hfm25, hvm25⟩ := hqm25
                have hFm25 := zfr_tr hFm0 hfm25 rfl
                obtain ⟨hRLRm25, hRNSm25, hRTRm25, hRWDm25, hvm25⟩ := hvm25
                have hRC0m25 := zR_C0_fr (zdis_fr hfm25 rfl) hRC0m0
                have hRCRm25 := zR_CR_fr (zdis_fr hfm25 rfl) hRCRm0
                have hRKNm25 := zR_KN_fr (zdis_fr hfm25 rfl) hRKNm0
                have hRLTm25 := zR_LT_fr (zdis_fr hfm25 rfl) hRLTm0
                have s27 := hRNSm25 a0 hc0
                have s28 := hRTRm25 a0 hc0
                refine zw_ite (fun h29 => ?_) (fun h29 => ?_)
                · refine zw_bd (zw_eq (zu_call_at (zt_T n) (zm_93 n) (zdp_93 n) _ _ _ _ _ rfl (zr_93_0 n _ _ a0 59 m25)) ?_)
                  have r30 : 0 ≤ (m25 a0 8) ∧ (m25 a0 8) ≤ 6 := zi_rd hIm25 hc0 zb_28_8
                  refine zw_ite (fun h31 => ?_) (fun h31 => ?_)
                  · refine zw_b (by omega) ?_
                    refine zw_some ?_
                    refine zw_ite (fun h32 => ?_) (fun h32 => ?_)
                    · exfalso; omega
                    · refine zw_bd (zw_eq (zu_call_at (zt_T n) (zm_85 n) (zdp_85 n) _ _ _ _ _ rfl (zr_85_0 n _ _ a0 1 m25)) ?_)
                      generalize hmm33 : zu_up m25 a0 4 1 = m33
                      have hIm33 := zi_up hmm33 hIm25 hc0 zb_28_4 (by omega) (by omega)
                      have hFm33 := zfr_up hmm33 hFm25 hc0 rfl
                      have hRC0m33 := zR_C0_fr (zdis_fr (zfr_up hmm33 (zfr_rf [(28, 5)] _) hc0 rfl) rfl) hRC0m25
                      have hRCRm33 := zR_CR_fr (zdis_fr (zfr_up hmm33 (zfr_rf [(28, 5)] _) hc0 rfl) rfl) hRCRm25
                      have hRKNm33 := zR_KN_fr (zdis_fr (zfr_up hmm33 (zfr_rf [(28, 5)] _) hc0 rfl) rfl) hRKNm25
                      have hRLTm33 := zR_LT_fr (zdis_fr (zfr_up hmm33 (zfr_rf [(28, 5)] _) hc0 rfl) rfl) hRLTm25
                      have hRNSm33 := zR_NS_fr (zdis_fr (zfr_up hmm33 (zfr_rf [(28, 5)] _) hc0 rfl) rfl) hRNSm25
                      have hRTRm33 := zR_TR_fr (zdis_fr (zfr_up hmm33 (zfr_rf [(28, 5)] _) hc0 rfl) rfl) hRTRm25
                      have hRWDm33 := zR_WD_fr (zdis_fr (zfr_up hmm33 (zfr_rf [(28, 5)] _) hc0 rfl) rfl) hRWDm25
                      have hRLRm33 := zLR_wr (zone_190 hc0) hmm33 (by decide)
                      have r34 : 0 ≤ (m33 a0 10) ∧ (m33 a0 10) ≤ 700 := zi_rd hIm33 hc0 zb_28_10
                      generalize hmm35 : zu_up m33 a0 5 (m33 a0 10) = m35
                      have hIm35 := zi_up hmm35 hIm33 hc0 zb_28_5 (by omega) (by omega)
                      have hFm35 := zfr_up hmm35 hFm33 hc0 rfl
                      have hRC0m35 := zR_C0_fr (zdis_fr (zfr_up hmm35 (zfr_rf [(28, 6)] _) hc0 rfl) rfl) hRC0m33
                      have hRCRm35 := zR_CR_fr (zdis_fr (zfr_up hmm35 (zfr_rf [(28, 6)] _) hc0 rfl) rfl) hRCRm33
                      have hRKNm35 := zR_KN_fr (zdis_fr (zfr_up hmm35 (zfr_rf [(28, 6)] _) hc0 rfl) rfl) hRKNm33
                      have hRLRm35 := zR_LR_fr (zdis_fr (zfr_up hmm35 (zfr_rf [(28, 6)] _) hc0 rfl) rfl) hRLRm33
                      have hRLTm35 := zR_LT_fr (zdis_fr (zfr_up hmm35 (zfr_rf [(28, 6)] _) hc0 rfl) rfl) hRLTm33
                      have hRNSm35 := zR_NS_fr (zdis_fr (zfr_up hmm35 (zfr_rf [(28, 6)] _) hc0 rfl) rfl) hRNSm33
                      have hRTRm35 := zR_TR_fr (zdis_fr (zfr_up hmm35 (zfr_rf [(28, 6)] _) hc0 rfl) rfl) hRTRm33
                      have hRWDm35 := zR_WD_fr (zdis_fr (zfr_up hmm35 (zfr_rf [(28, 6)] _) hc0 rfl) rfl) hRWDm33
                      refine zw_b (by omega) ?_
                      refine zw_some ?_
                      refine zw_b (by omega) ?_
                      have r36 : 0 ≤ (m35 a0 7) ∧ (m35 a0 7) ≤ 700 := zi_rd hIm35 hc0 zb_28_7
                      have r37 : 0 ≤ (m35 a0 21) ∧ (m35 a0 21) ≤ 64 := zi_rd hIm35 hc0 zb_28_21
                      have e38 : (m35 a0 21) = (m0 a0 21) := (Eq.trans (zs_ne hmm35 (Or.inr (by decide))) (Eq.trans (zs_ne hmm33 (Or.inr (by decide))) (zfr_ap hfm25 hc0 rfl)))
                      have r39 : 0 ≤ (m35 a0 48) ∧ (m35 a0 48) ≤ 64 := zi_rd hIm35 hc0 zb_28_48
                      have e40 : (m35 a0 48) = (m0 a0 48) := (Eq.trans (zs_ne hmm35 (Or.inr (by decide))) (Eq.trans (zs_ne hmm33 (Or.inr (by decide))) (zfr_ap hfm25 hc0 rfl)))
                      have r41 : (-2147483648) ≤ (m35 a0 4) ∧ (m35 a0 4) ≤ 2147483647 := zi_rd hIm35 hc0 zb_28_4
                      have e42 : (m35 a0 4) = 1 := (Eq.trans (zs_ne hmm35 (Or.inr (by decide))) (zs_eq hmm33))
                      exact zw_some ⟨hIm35, hFm35, hRC0m35, hRCRm35, hRKNm35, hRLRm35, hRLTm35, hRNSm35, hRTRm35, hRWDm35, ⟨by omega, by omega⟩, by omega, by omega, by omega⟩
                  · have r43 : (-2147483648) ≤ (m25 a0 9) ∧ (m25 a0 9) ≤ 2147483647 := zi_rd hIm25 hc0 zb_28_9
                    refine zw_ite (fun h44 => ?_) (fun h44 => ?_)
                    · refine zw_b (by omega) ?_
                      refine zw_some ?_
                      refine zw_ite (fun h45 => ?_) (fun h45 => ?_)
                      · exfalso; omega
                      · refine zw_bd (zw_eq (zu_call_at (zt_T n) (zm_85 n) (zdp_85 n) _ _ _ _ _ rfl (zr_85_0 n _ _ a0 1 m25)) ?_)
                        generalize hmm46 : zu_up m25 a0 4 1 = m46
                        have hIm46 := zi_up hmm46 hIm25 hc0 zb_28_4 (by omega) (by omega)
                        have hFm46 := zfr_up hmm46 hFm25 hc0 rfl
                        have hRC0m46 := zR_C0_fr (zdis_fr (zfr_up hmm46 (zfr_rf [(28, 5)] _) hc0 rfl) rfl) hRC0m25
                        have hRCRm46 := zR_CR_fr (zdis_fr (zfr_up hmm46 (zfr_rf [(28, 5)] _) hc0 rfl) rfl) hRCRm25
                        have hRKNm46 := zR_KN_fr (zdis_fr (zfr_up hmm46 (zfr_rf [(28, 5)] _) hc0 rfl) rfl) hRKNm25
                        have hRLTm46 := zR_LT_fr (zdis_fr (zfr_up hmm46 (zfr_rf [(28, 5)] _) hc0 rfl) rfl) hRLTm25
                        have hRNSm46 := zR_NS_fr (zdis_fr (zfr_up hmm46 (zfr_rf [(28, 5)] _) hc0 rfl) rfl) hRNSm25
                        have hRTRm46 := zR_TR_fr (zdis_fr (zfr_up hmm46 (zfr_rf [(28, 5)] _) hc0 rfl) rfl) hRTRm25
                        have hRWDm46 := zR_WD_fr (zdis_fr (zfr_up hmm46 (zfr_rf [(28, 5)] _) hc0 rfl) rfl) hRWDm25
                        have hRLRm46 := zLR_wr (zone_190 hc0) hmm46 (by decide)
                        have r47 : 0 ≤ (m46 a0 10) ∧ (m46 a0 10) ≤ 700 := zi_rd hIm46 hc0 zb_28_10
                        generalize hmm48 : zu_up m46 a0 5 (m46 a0 10) = m48
                        have hIm48 := zi_up hmm48 hIm46 hc0 zb_28_5 (by omega) (by omega)
                        have hFm48 := zfr_up hmm48 hFm46 hc0 rfl
                        have hRC0m48 := zR_C0_fr (zdis_fr (zfr_up hmm48 (zfr_rf [(28, 6)] _) hc0 rfl) rfl) hRC0m46
                        have hRCRm48 := zR_CR_fr (zdis_fr (zfr_up hmm48 (zfr_rf [(28, 6)] _) hc0 rfl) rfl) hRCRm46
                        have hRKNm48 := zR_KN_fr (zdis_fr (zfr_up hmm48 (zfr_rf [(28, 6)] _) hc0 rfl) rfl) hRKNm46
                        have hRLRm48 := zR_LR_fr (zdis_fr (zfr_up hmm48 (zfr_rf [(28, 6)] _) hc0 rfl) rfl) hRLRm46
                        have hRLTm48 := zR_LT_fr (zdis_fr (zfr_up hmm48 (zfr_rf [(28, 6)] _) hc0 rfl) rfl) hRLTm46
                        have hRNSm48 := zR_NS_fr (zdis_fr (zfr_up hmm48 (zfr_rf [(28, 6)] _) hc0 rfl) rfl) hRNSm46
                        have hRTRm48 := zR_TR_fr (zdis_fr (zfr_up hmm48 (zfr_rf [(28, 6)] _) hc0 rfl) rfl) hRTRm46
                        have hRWDm48 := zR_WD_fr (zdis_fr (zfr_up hmm48 (zfr_rf [(28, 6)] _) hc0 rfl) rfl) hRWDm46
                        refine zw_b (by omega) ?_
                        refine zw_some ?_
                        refine zw_b (by omega) ?_
                        have r49 : 0 ≤ (m48 a0 7) ∧ (m48 a0 7) ≤ 700 := zi_rd hIm48 hc0 zb_28_7
                        have r50 : 0 ≤ (m48 a0 21) ∧ (m48 a0 21) ≤ 64 := zi_rd hIm48 hc0 zb_28_21
                        have e51 : (m48 a0 21) = (m0 a0 21) := (Eq.trans (zs_ne hmm48 (Or.inr (by decide))) (Eq.trans (zs_ne hmm46 (Or.inr (by decide))) (zfr_ap hfm25 hc0 rfl)))
                        have r52 : 0 ≤ (m48 a0 48) ∧ (m48 a0 48) ≤ 64 := zi_rd hIm48 hc0 zb_28_48
                        have e53 : (m48 a0 48) = (m0 a0 48) := (Eq.trans (zs_ne hmm48 (Or.inr (by decide))) (Eq.trans (zs_ne hmm46 (Or.inr (by decide))) (zfr_ap hfm25 hc0 rfl)))
                        have r54 : (-2147483648) ≤ (m48 a0 4) ∧ (m48 a0 4) ≤ 2147483647 := zi_rd hIm48 hc0 zb_28_4
                        have e55 : (m48 a0 4) = 1 := (Eq.trans (zs_ne hmm48 (Or.inr (by decide))) (zs_eq hmm46))
                        exact zw_some ⟨hIm48, hFm48, hRC0m48, hRCRm48, hRKNm48, hRLRm48, hRLTm48, hRNSm48, hRTRm48, hRWDm48, ⟨by omega, by omega⟩, by omega, by omega, by omega⟩
                    · refine zw_b (by omega) ?_
                      refine zw_some ?_
                      refine zw_ite (fun h56 => ?_) (fun h56 => ?_)
                      · refine zw_bd (zw_mono (zk_89 n hIm25 hc0 hRNSm25 hRWDm25) (fun v58 m57 hqm57 => ?_))
                        obtain ⟨hIm57, hfm57, hvm57⟩ := hqm57
                        have hFm57 := zfr_tr hFm25 hfm57 rfl
                        obtain ⟨hRNSm57, hRTRm57, hRWDm57, hvm57⟩ := hvm57
                        have hRC0m57 := zR_C0_fr (zdis_fr hfm57 rfl) hRC0m25
                        have hRCRm57 := zR_CR_fr (zdis_fr hfm57 rfl) hRCRm25
                        have hRKNm57 := zR_KN_fr (zdis_fr hfm57 rfl) hRKNm25
                        have hRLRm57 := zR_LR_fr (zdis_fr hfm57 rfl) hRLRm25
                        have hRLTm57 := zR_LT_fr (zdis_fr hfm57 rfl) hRLTm25
                        have s59 := hRNSm57 a0 hc0
                        have s60 := hRTRm57 a0 hc0
                        refine zw_b (by omega) ?_
                        have r61 : 0 ≤ (m57 a0 7) ∧ (m57 a0 7) ≤ 700 := zi_rd hIm57 hc0 zb_28_7
                        have r62 : 0 ≤ (m57 a0 21) ∧ (m57 a0 21) ≤ 64 := zi_rd hIm57 hc0 zb_28_21
                        have e63 : (m57 a0 21) = (m0 a0 21) := (Eq.trans (zfr_ap hfm57 hc0 rfl) (zfr_ap hfm25 hc0 rfl))
                        have r64 : 0 ≤ (m57 a0 48) ∧ (m57 a0 48) ≤ 64 := zi_rd hIm57 hc0 zb_28_48
                        have e65 : (m57 a0 48) = (m0 a0 48) := (Eq.trans (zfr_ap hfm57 hc0 rfl) (zfr_ap hfm25 hc0 rfl))
                        have r66 : (-2147483648) ≤ (m57 a0 4) ∧ (m57 a0 4) ≤ 2147483647 := zi_rd hIm57 hc0 zb_28_4
                        exact zw_some ⟨hIm57, hFm57, hRC0m57, hRCRm57, hRKNm57, hRLRm57, hRLTm57, hRNSm57, hRTRm57, hRWDm57, ⟨by omega, by omega⟩, by omega, by omega, by omega⟩
                      · exfalso; omega
                · refine zw_b (by omega) ?_
                  have r67 : 0 ≤ (m25 a0 7) ∧ (m25 a0 7) ≤ 700 := zi_rd hIm25 hc0 zb_28_7
                  have r68 : 0 ≤ (m25 a0 21) ∧ (m25 a0 21) ≤ 64 := zi_rd hIm25 hc0 zb_28_21
                  have e69 : (m25 a0 21) = (m0 a0 21) := (zfr_ap hfm25 hc0 rfl)
                  have r70 : 0 ≤ (m25 a0 48) ∧ (m25 a0 48) ≤ 64 := zi_rd hIm25 hc0 zb_28_48
                  have e71 : (m25 a0 48) = (m0 a0 48) := (zfr_ap hfm25 hc0 rfl)
                  have r72 : (-2147483648) ≤ (m25 a0 4) ∧ (m25 a0 4) ≤ 2147483647 := zi_rd hIm25 hc0 zb_28_4
                  exact zw_some ⟨hIm25, hFm25, hRC0m25, hRCRm25, hRKNm25, hRLRm25, hRLTm25, hRNSm25, hRTRm25, hRWDm25, ⟨by omega, by omega⟩, by omega, by omega, by omega⟩
              · refine zw_bd (zw_mono (zk_103 n hIm0 hc0 ⟨by omega, by omega⟩ ⟨by omega, by omega⟩ (by omega) (by omega) hRKNm0 hRLRm0 hRLTm0 hRNSm0 hRTRm0 hRWDm0) (fun v74 m73 hqm73 => ?_))
                obtain ⟨hIm73, hfm73, hvm73⟩ := hqm73
                have hFm73 := zfr_tr hFm0 hfm73 rfl
                obtain ⟨hRKNm73, hRLRm73, hRLTm73, hRNSm73, hRTRm73, hRWDm73, hvm73⟩ := hvm73
                have hRC0m73 := zR_C0_fr (zdis_fr hfm73 rfl) hRC0m0
                have hRCRm73 := zR_CR_fr (zdis_fr hfm73 rfl) hRCRm0
                have s75 := hRNSm73 a0 hc0
                have s76 := hRTRm73 a0 hc0
                refine zw_ite (fun h77 => ?_) (fun h77 => ?_)
                · refine zw_bd (zw_eq (zu_call_at (zt_T n) (zm_93 n) (zdp_93 n) _ _ _ _ _ rfl (zr_93_0 n _ _ a0 59 m73)) ?_)
                  have r78 : 0 ≤ (m73 a0 8) ∧ (m73 a0 8) ≤ 6 := zi_rd hIm73 hc0 zb_28_8
                  refine zw_ite (fun h79 => ?_) (fun h79 => ?_)
                  · refine zw_b (by omega) ?_
                    refine zw_some ?_
                    refine zw_ite (fun h80 => ?_) (fun h80 => ?_)
                    · exfalso; omega
                    · refine zw_bd (zw_eq (zu_call_at (zt_T n) (zm_85 n) (zdp_85 n) _ _ _ _ _ rfl (zr_85_0 n _ _ a0 1 m73)) ?_)
                      generalize hmm81 : zu_up m73 a0 4 1 = m81
                      have hIm81 := zi_up hmm81 hIm73 hc0 zb_28_4 (by omega) (by omega)
                      have hFm81 := zfr_up hmm81 hFm73 hc0 rfl
                      have hRC0m81 := zR_C0_fr (zdis_fr (zfr_up hmm81 (zfr_rf [(28, 5)] _) hc0 rfl) rfl) hRC0m73
                      have hRCRm81 := zR_CR_fr (zdis_fr (zfr_up hmm81 (zfr_rf [(28, 5)] _) hc0 rfl) rfl) hRCRm73
                      have hRKNm81 := zR_KN_fr (zdis_fr (zfr_up hmm81 (zfr_rf [(28, 5)] _) hc0 rfl) rfl) hRKNm73
                      have hRLTm81 := zR_LT_fr (zdis_fr (zfr_up hmm81 (zfr_rf [(28, 5)] _) hc0 rfl) rfl) hRLTm73
                      have hRNSm81 := zR_NS_fr (zdis_fr (zfr_up hmm81 (zfr_rf [(28, 5)] _) hc0 rfl) rfl) hRNSm73
                      have hRTRm81 := zR_TR_fr (zdis_fr (zfr_up hmm81 (zfr_rf [(28, 5)] _) hc0 rfl) rfl) hRTRm73
                      have hRWDm81 := zR_WD_fr (zdis_fr (zfr_up hmm81 (zfr_rf [(28, 5)] _) hc0 rfl) rfl) hRWDm73
                      have hRLRm81 := zLR_wr (zone_190 hc0) hmm81 (by decide)
                      have r82 : 0 ≤ (m81 a0 10) ∧ (m81 a0 10) ≤ 700 := zi_rd hIm81 hc0 zb_28_10
                      generalize hmm83 : zu_up m81 a0 5 (m81 a0 10) = m83
                      have hIm83 := zi_up hmm83 hIm81 hc0 zb_28_5 (by omega) (by omega)
                      have hFm83 := zfr_up hmm83 hFm81 hc0 rfl
                      have hRC0m83 := zR_C0_fr (zdis_fr (zfr_up hmm83 (zfr_rf [(28, 6)] _) hc0 rfl) rfl) hRC0m81
                      have hRCRm83 := zR_CR_fr (zdis_fr (zfr_up hmm83 (zfr_rf [(28, 6)] _) hc0 rfl) rfl) hRCRm81
                      have hRKNm83 := zR_KN_fr (zdis_fr (zfr_up hmm83 (zfr_rf [(28, 6)] _) hc0 rfl) rfl) hRKNm81
                      have hRLRm83 := zR_LR_fr (zdis_fr (zfr_up hmm83 (zfr_rf [(28, 6)] _) hc0 rfl) rfl) hRLRm81
                      have hRLTm83 := zR_LT_fr (zdis_fr (zfr_up hmm83 (zfr_rf [(28, 6)] _) hc0 rfl) rfl) hRLTm81
                      have hRNSm83 := zR_NS_fr (zdis_fr (zfr_up hmm83 (zfr_rf [(28, 6)] _) hc0 rfl) rfl) hRNSm81
                      have hRTRm83 := zR_TR_fr (zdis_fr (zfr_up hmm83 (zfr_rf [(28, 6)] _) hc0 rfl) rfl) hRTRm81
                      have hRWDm83 := zR_WD_fr (zdis_fr (zfr_up hmm83 (zfr_rf [(28, 6)] _) hc0 rfl) rfl) hRWDm81
                      refine zw_b (by omega) ?_
                      refine zw_some ?_
                      refine zw_b (by omega) ?_
                      have r84 : 0 ≤ (m83 a0 7) ∧ (m83 a0 7) ≤ 700 := zi_rd hIm83 hc0 zb_28_7
                      have r85 : 0 ≤ (m83 a0 21) ∧ (m83 a0 21) ≤ 64 := zi_rd hIm83 hc0 zb_28_21
                      have r86 : 0 ≤ (m83 a0 48) ∧ (m83 a0 48) ≤ 64 := zi_rd hIm83 hc0 zb_28_48
                      have r87 : (-2147483648) ≤ (m83 a0 4) ∧ (m83 a0 4) ≤ 2147483647 := zi_rd hIm83 hc0 zb_28_4
                      have e88 : (m83 a0 4) = 1 := (Eq.trans (zs_ne hmm83 (Or.inr (by decide))) (zs_eq hmm81))
                      exact zw_some ⟨hIm83, hFm83, hRC0m83, hRCRm83, hRKNm83, hRLRm83, hRLTm83, hRNSm83, hRTRm83, hRWDm83, ⟨by omega, by omega⟩, by omega, by omega, by omega⟩
                  · have r89 : (-2147483648) ≤ (m73 a0 9) ∧ (m73 a0 9) ≤ 2147483647 := zi_rd hIm73 hc0 zb_28_9
                    refine zw_ite (fun h90 => ?_) (fun h90 => ?_)
                    · refine zw_b (by omega) ?_
                      refine zw_some ?_
                      refine zw_ite (fun h91 => ?_) (fun h91 => ?_)
                      · exfalso; omega
                      · refine zw_bd (zw_eq (zu_call_at (zt_T n) (zm_85 n) (zdp_85 n) _ _ _ _ _ rfl (zr_85_0 n _ _ a0 1 m73)) ?_)
                        generalize hmm92 : zu_up m73 a0 4 1 = m92
                        have hIm92 := zi_up hmm92 hIm73 hc0 zb_28_4 (by omega) (by omega)
                        have hFm92 := zfr_up hmm92 hFm73 hc0 rfl
                        have hRC0m92 := zR_C0_fr (zdis_fr (zfr_up hmm92 (zfr_rf [(28, 5)] _) hc0 rfl) rfl) hRC0m73
                        have hRCRm92 := zR_CR_fr (zdis_fr (zfr_up hmm92 (zfr_rf [(28, 5)] _) hc0 rfl) rfl) hRCRm73
                        have hRKNm92 := zR_KN_fr (zdis_fr (zfr_up hmm92 (zfr_rf [(28, 5)] _) hc0 rfl) rfl) hRKNm73
                        have hRLTm92 := zR_LT_fr (zdis_fr (zfr_up hmm92 (zfr_rf [(28, 5)] _) hc0 rfl) rfl) hRLTm73
                        have hRNSm92 := zR_NS_fr (zdis_fr (zfr_up hmm92 (zfr_rf [(28, 5)] _) hc0 rfl) rfl) hRNSm73
                        have hRTRm92 := zR_TR_fr (zdis_fr (zfr_up hmm92 (zfr_rf [(28, 5)] _) hc0 rfl) rfl) hRTRm73
                        have hRWDm92 := zR_WD_fr (zdis_fr (zfr_up hmm92 (zfr_rf [(28, 5)] _) hc0 rfl) rfl) hRWDm73
                        have hRLRm92 := zLR_wr (zone_190 hc0) hmm92 (by decide)
                        have r93 : 0 ≤ (m92 a0 10) ∧ (m92 a0 10) ≤ 700 := zi_rd hIm92 hc0 zb_28_10
                        generalize hmm94 : zu_up m92 a0 5 (m92 a0 10) = m94
                        have hIm94 := zi_up hmm94 hIm92 hc0 zb_28_5 (by omega) (by omega)
                        have hFm94 := zfr_up hmm94 hFm92 hc0 rfl
                        have hRC0m94 := zR_C0_fr (zdis_fr (zfr_up hmm94 (zfr_rf [(28, 6)] _) hc0 rfl) rfl) hRC0m92
                        have hRCRm94 := zR_CR_fr (zdis_fr (zfr_up hmm94 (zfr_rf [(28, 6)] _) hc0 rfl) rfl) hRCRm92
                        have hRKNm94 := zR_KN_fr (zdis_fr (zfr_up hmm94 (zfr_rf [(28, 6)] _) hc0 rfl) rfl) hRKNm92
                        have hRLRm94 := zR_LR_fr (zdis_fr (zfr_up hmm94 (zfr_rf [(28, 6)] _) hc0 rfl) rfl) hRLRm92
                        have hRLTm94 := zR_LT_fr (zdis_fr (zfr_up hmm94 (zfr_rf [(28, 6)] _) hc0 rfl) rfl) hRLTm92
                        have hRNSm94 := zR_NS_fr (zdis_fr (zfr_up hmm94 (zfr_rf [(28, 6)] _) hc0 rfl) rfl) hRNSm92
                        have hRTRm94 := zR_TR_fr (zdis_fr (zfr_up hmm94 (zfr_rf [(28, 6)] _) hc0 rfl) rfl) hRTRm92
                        have hRWDm94 := zR_WD_fr (zdis_fr (zfr_up hmm94 (zfr_rf [(28, 6)] _) hc0 rfl) rfl) hRWDm92
                        refine zw_b (by omega) ?_
                        refine zw_some ?_
                        refine zw_b (by omega) ?_
                        have r95 : 0 ≤ (m94 a0 7) ∧ (m94 a0 7) ≤ 700 := zi_rd hIm94 hc0 zb_28_7
                        have r96 : 0 ≤ (m94 a0 21) ∧ (m94 a0 21) ≤ 64 := zi_rd hIm94 hc0 zb_28_21
                        have r97 : 0 ≤ (m94 a0 48) ∧ (m94 a0 48) ≤ 64 := zi_rd hIm94 hc0 zb_28_48
                        have r98 : (-2147483648) ≤ (m94 a0 4) ∧ (m94 a0 4) ≤ 2147483647 := zi_rd hIm94 hc0 zb_28_4
                        have e99 : (m94 a0 4) = 1 := (Eq.trans (zs_ne hmm94 (Or.inr (by decide))) (zs_eq hmm92))
                        exact zw_some ⟨hIm94, hFm94, hRC0m94, hRCRm94, hRKNm94, hRLRm94, hRLTm94, hRNSm94, hRTRm94, hRWDm94, ⟨by omega, by omega⟩, by omega, by omega, by omega⟩
                    · refine zw_b (by omega) ?_
                      refine zw_some ?_
                      refine zw_ite (fun h100 => ?_) (fun h100 => ?_)
                      · refine zw_bd (zw_mono (zk_89 n hIm73 hc0 hRNSm73 hRWDm73) (fun v102 m101 hqm101 => ?_))
                        obtain ⟨hIm101, hfm101, hvm101⟩ := hqm101
                        have hFm101 := zfr_tr hFm73 hfm101 rfl
                        obtain ⟨hRNSm101, hRTRm101, hRWDm101, hvm101⟩ := hvm101
                        have hRC0m101 := zR_C0_fr (zdis_fr hfm101 rfl) hRC0m73
                        have hRCRm101 := zR_CR_fr (zdis_fr hfm101 rfl) hRCRm73
                        have hRKNm101 := zR_KN_fr (zdis_fr hfm101 rfl) hRKNm73
                        have hRLRm101 := zR_LR_fr (zdis_fr hfm101 rfl) hRLRm73
                        have hRLTm101 := zR_LT_fr (zdis_fr hfm101 rfl) hRLTm73
                        have s103 := hRNSm101 a0 hc0
                        have s104 := hRTRm101 a0 hc0
                        refine zw_b (by omega) ?_
                        have r105 : 0 ≤ (m101 a0 7) ∧ (m101 a0 7) ≤ 700 := zi_rd hIm101 hc0 zb_28_7
                        have r106 : 0 ≤ (m101 a0 21) ∧ (m101 a0 21) ≤ 64 := zi_rd hIm101 hc0 zb_28_21
                        have r107 : 0 ≤ (m101 a0 48) ∧ (m101 a0 48) ≤ 64 := zi_rd hIm101 hc0 zb_28_48
                        have r108 : (-2147483648) ≤ (m101 a0 4) ∧ (m101 a0 4) ≤ 2147483647 := zi_rd hIm101 hc0 zb_28_4
                        exact zw_some ⟨hIm101, hFm101, hRC0m101, hRCRm101, hRKNm101, hRLRm101, hRLTm101, hRNSm101, hRTRm101, hRWDm101, ⟨by omega, by omega⟩, by omega, by omega, by omega⟩
                      · exfalso; omega
                · refine zw_b (by omega) ?_
                  have r109 : 0 ≤ (m73 a0 7) ∧ (m73 a0 7) ≤ 700 := zi_rd hIm73 hc0 zb_28_7
                  have r110 : 0 ≤ (m73 a0 21) ∧ (m73 a0 21) ≤ 64 := zi_rd hIm73 hc0 zb_28_21
                  have r111 : 0 ≤ (m73 a0 48) ∧ (m73 a0 48) ≤ 64 := zi_rd hIm73 hc0 zb_28_48
                  have r112 : (-2147483648) ≤ (m73 a0 4) ∧ (m73 a0 4) ≤ 2147483647 := zi_rd hIm73 hc0 zb_28_4
                  exact zw_some ⟨hIm73, hFm73, hRC0m73, hRCRm73, hRKNm73, hRLRm73, hRLTm73, hRNSm73, hRTRm73, hRWDm73, ⟨by omega, by omega⟩, by omega, by omega, by omega⟩
            · refine zw_bd (zw_mono (zk_102 n hIm0 hc0 ⟨by omega, by omega⟩ ⟨by omega, by omega⟩ hRC0m0 hRCRm0 hRLRm0 hRNSm0 hRTRm0 hRWDm0) (fun v114 m113 hqm113 => ?_))
              obtain ⟨hIm113, hfm113, hvm113⟩ := hqm113
              have hFm113 := zfr_tr hFm0 hfm113 rfl
              obtain ⟨hRC0m113, hRCRm113, hRLRm113, hRNSm113, hRTRm113, hRWDm113, hvm113⟩ := hvm113
              have hRKNm113 := zR_KN_fr (zdis_fr hfm113 rfl) hRKNm0
              have hRLTm113 := zR_LT_fr (zdis_fr hfm113 rfl) hRLTm0
              have s115 := hRNSm113 a0 hc0
              have s116 := hRTRm113 a0 hc0
              refine zw_ite (fun h117 => ?_) (fun h117 => ?_)
              · refine zw_bd (zw_eq (zu_call_at (zt_T n) (zm_93 n) (zdp_93 n) _ _ _ _ _ rfl (zr_93_0 n _ _ a0 59 m113)) ?_)
                have r118 : 0 ≤ (m113 a0 8) ∧ (m113 a0 8) ≤ 6 := zi_rd hIm113 hc0 zb_28_8
                refine zw_ite (fun h119 => ?_) (fun h119 => ?_)
                · refine zw_b (by omega) ?_
                  refine zw_some ?_
                  refine zw_ite (fun h120 => ?_) (fun h120 => ?_)
                  · exfalso; omega
                  · refine zw_bd (zw_eq (zu_call_at (zt_T n) (zm_85 n) (zdp_85 n) _ _ _ _ _ rfl (zr_85_0 n _ _ a0 1 m113)) ?_)
                    generalize hmm121 : zu_up m113 a0 4 1 = m121
                    have hIm121 := zi_up hmm121 hIm113 hc0 zb_28_4 (by omega) (by omega)
                    have hFm121 := zfr_up hmm121 hFm113 hc0 rfl
                    have hRC0m121 := zR_C0_fr (zdis_fr (zfr_up hmm121 (zfr_rf [(28, 5)] _) hc0 rfl) rfl) hRC0m113
                    have hRCRm121 := zR_CR_fr (zdis_fr (zfr_up hmm121 (zfr_rf [(28, 5)] _) hc0 rfl) rfl) hRCRm113
                    have hRKNm121 := zR_KN_fr (zdis_fr (zfr_up hmm121 (zfr_rf [(28, 5)] _) hc0 rfl) rfl) hRKNm113
                    have hRLTm121 := zR_LT_fr (zdis_fr (zfr_up hmm121 (zfr_rf [(28, 5)] _) hc0 rfl) rfl) hRLTm113
                    have hRNSm121 := zR_NS_fr (zdis_fr (zfr_up hmm121 (zfr_rf [(28, 5)] _) hc0 rfl) rfl) hRNSm113
                    have hRTRm121 := zR_TR_fr (zdis_fr (zfr_up hmm121 (zfr_rf [(28, 5)] _) hc0 rfl) rfl) hRTRm113
                    have hRWDm121 := zR_WD_fr (zdis_fr (zfr_up hmm121 (zfr_rf [(28, 5)] _) hc0 rfl) rfl) hRWDm113
                    have hRLRm121 := zLR_wr (zone_190 hc0) hmm121 (by decide)
                    have r122 : 0 ≤ (m121 a0 10) ∧ (m121 a0 10) ≤ 700 := zi_rd hIm121 hc0 zb_28_10
                    generalize hmm123 : zu_up m121 a0 5 (m121 a0 10) = m123
                    have hIm123 := zi_up hmm123 hIm121 hc0 zb_28_5 (by omega) (by omega)
                    have hFm123 := zfr_up hmm123 hFm121 hc0 rfl
                    have hRC0m123 := zR_C0_fr (zdis_fr (zfr_up hmm123 (zfr_rf [(28, 6)] _) hc0 rfl) rfl) hRC0m121
                    have hRCRm123 := zR_CR_fr (zdis_fr (zfr_up hmm123 (zfr_rf [(28, 6)] _) hc0 rfl) rfl) hRCRm121
                    have hRKNm123 := zR_KN_fr (zdis_fr (zfr_up hmm123 (zfr_rf [(28, 6)] _) hc0 rfl) rfl) hRKNm121
                    have hRLRm123 := zR_LR_fr (zdis_fr (zfr_up hmm123 (zfr_rf [(28, 6)] _) hc0 rfl) rfl) hRLRm121
                    have hRLTm123 := zR_LT_fr (zdis_fr (zfr_up hmm123 (zfr_rf [(28, 6)] _) hc0 rfl) rfl) hRLTm121
                    have hRNSm123 := zR_NS_fr (zdis_fr (zfr_up hmm123 (zfr_rf [(28, 6)] _) hc0 rfl) rfl) hRNSm121
                    have hRTRm123 := zR_TR_fr (zdis_fr (zfr_up hmm123 (zfr_rf [(28, 6)] _) hc0 rfl) rfl) hRTRm121
                    have hRWDm123 := zR_WD_fr (zdis_fr (zfr_up hmm123 (zfr_rf [(28, 6)] _) hc0 rfl) rfl) hRWDm121
                    refine zw_b (by omega) ?_
                    refine zw_some ?_
                    refine zw_b (by omega) ?_
                    have r124 : 0 ≤ (m123 a0 7) ∧ (m123 a0 7) ≤ 700 := zi_rd hIm123 hc0 zb_28_7
                    have r125 : 0 ≤ (m123 a0 21) ∧ (m123 a0 21) ≤ 64 := zi_rd hIm123 hc0 zb_28_21
                    have e126 : (m123 a0 21) = (m0 a0 21) := (Eq.trans (zs_ne hmm123 (Or.inr (by decide))) (Eq.trans (zs_ne hmm121 (Or.inr (by decide))) (zfr_ap hfm113 hc0 rfl)))
                    have r127 : 0 ≤ (m123 a0 48) ∧ (m123 a0 48) ≤ 64 := zi_rd hIm123 hc0 zb_28_48
                    have e128 : (m123 a0 48) = (m0 a0 48) := (Eq.trans (zs_ne hmm123 (Or.inr (by decide))) (Eq.trans (zs_ne hmm121 (Or.inr (by decide))) (zfr_ap hfm113 hc0 rfl)))
                    have r129 : (-2147483648) ≤ (m123 a0 4) ∧ (m123 a0 4) ≤ 2147483647 := zi_rd hIm123 hc0 zb_28_4
                    have e130 : (m123 a0 4) = 1 := (Eq.trans (zs_ne hmm123 (Or.inr (by decide))) (zs_eq hmm121))
                    exact zw_some ⟨hIm123, hFm123, hRC0m123, hRCRm123, hRKNm123, hRLRm123, hRLTm123, hRNSm123, hRTRm123, hRWDm123, ⟨by omega, by omega⟩, by omega, by omega, by omega⟩
                · have r131 : (-2147483648) ≤ (m113 a0 9) ∧ (m113 a0 9) ≤ 2147483647 := zi_rd hIm113 hc0 zb_28_9
                  refine zw_ite (fun h132 => ?_) (fun h132 => ?_)
                  · refine zw_b (by omega) ?_
                    refine zw_some ?_
                    refine zw_ite (fun h133 => ?_) (fun h133 => ?_)
                    · exfalso; omega
                    · refine zw_bd (zw_eq (zu_call_at (zt_T n) (zm_85 n) (zdp_85 n) _ _ _ _ _ rfl (zr_85_0 n _ _ a0 1 m113)) ?_)
                      generalize hmm134 : zu_up m113 a0 4 1 = m134
                      have hIm134 := zi_up hmm134 hIm113 hc0 zb_28_4 (by omega) (by omega)
                      have hFm134 := zfr_up hmm134 hFm113 hc0 rfl
                      have hRC0m134 := zR_C0_fr (zdis_fr (zfr_up hmm134 (zfr_rf [(28, 5)] _) hc0 rfl) rfl) hRC0m113
                      have hRCRm134 := zR_CR_fr (zdis_fr (zfr_up hmm134 (zfr_rf [(28, 5)] _) hc0 rfl) rfl) hRCRm113
                      have hRKNm134 := zR_KN_fr (zdis_fr (zfr_up hmm134 (zfr_rf [(28, 5)] _) hc0 rfl) rfl) hRKNm113
                      have hRLTm134 := zR_LT_fr (zdis_fr (zfr_up hmm134 (zfr_rf [(28, 5)] _) hc0 rfl) rfl) hRLTm113
                      have hRNSm134 := zR_NS_fr (zdis_fr (zfr_up hmm134 (zfr_rf [(28, 5)] _) hc0 rfl) rfl) hRNSm113
                      have hRTRm134 := zR_TR_fr (zdis_fr (zfr_up hmm134 (zfr_rf [(28, 5)] _) hc0 rfl) rfl) hRTRm113
                      have hRWDm134 := zR_WD_fr (zdis_fr (zfr_up hmm134 (zfr_rf [(28, 5)] _) hc0 rfl) rfl) hRWDm113
                      have hRLRm134 := zLR_wr (zone_190 hc0) hmm134 (by decide)
                      have r135 : 0 ≤ (m134 a0 10) ∧ (m134 a0 10) ≤ 700 := zi_rd hIm134 hc0 zb_28_10
                      generalize hmm136 : zu_up m134 a0 5 (m134 a0 10) = m136
                      have hIm136 := zi_up hmm136 hIm134 hc0 zb_28_5 (by omega) (by omega)
                      have hFm136 := zfr_up hmm136 hFm134 hc0 rfl
                      have hRC0m136 := zR_C0_fr (zdis_fr (zfr_up hmm136 (zfr_rf [(28, 6)] _) hc0 rfl) rfl) hRC0m134
                      have hRCRm136 := zR_CR_fr (zdis_fr (zfr_up hmm136 (zfr_rf [(28, 6)] _) hc0 rfl) rfl) hRCRm134
                      have hRKNm136 := zR_KN_fr (zdis_fr (zfr_up hmm136 (zfr_rf [(28, 6)] _) hc0 rfl) rfl) hRKNm134
                      have hRLRm136 := zR_LR_fr (zdis_fr (zfr_up hmm136 (zfr_rf [(28, 6)] _) hc0 rfl) rfl) hRLRm134
                      have hRLTm136 := zR_LT_fr (zdis_fr (zfr_up hmm136 (zfr_rf [(28, 6)] _) hc0 rfl) rfl) hRLTm134
                      have hRNSm136 := zR_NS_fr (zdis_fr (zfr_up hmm136 (zfr_rf [(28, 6)] _) hc0 rfl) rfl) hRNSm134
                      have hRTRm136 := zR_TR_fr (zdis_fr (zfr_up hmm136 (zfr_rf [(28, 6)] _) hc0 rfl) rfl) hRTRm134
                      have hRWDm136 := zR_WD_fr (zdis_fr (zfr_up hmm136 (zfr_rf [(28, 6)] _) hc0 rfl) rfl) hRWDm134
                      refine zw_b (by omega) ?_
                      refine zw_some ?_
                      refine zw_b (by omega) ?_
                      have r137 : 0 ≤ (m136 a0 7) ∧ (m136 a0 7) ≤ 700 := zi_rd hIm136 hc0 zb_28_7
                      have r138 : 0 ≤ (m136 a0 21) ∧ (m136 a0 21) ≤ 64 := zi_rd hIm136 hc0 zb_28_21
                      have e139 : (m136 a0 21) = (m0 a0 21) := (Eq.trans (zs_ne hmm136 (Or.inr (by decide))) (Eq.trans (zs_ne hmm134 (Or.inr (by decide))) (zfr_ap hfm113 hc0 rfl)))
                      have r140 : 0 ≤ (m136 a0 48) ∧ (m136 a0 48) ≤ 64 := zi_rd hIm136 hc0 zb_28_48
                      have e141 : (m136 a0 48) = (m0 a0 48) := (Eq.trans (zs_ne hmm136 (Or.inr (by decide))) (Eq.trans (zs_ne hmm134 (Or.inr (by decide))) (zfr_ap hfm113 hc0 rfl)))
                      have r142 : (-2147483648) ≤ (m136 a0 4) ∧ (m136 a0 4) ≤ 2147483647 := zi_rd hIm136 hc0 zb_28_4
                      have e143 : (m136 a0 4) = 1 := (Eq.trans (zs_ne hmm136 (Or.inr (by decide))) (zs_eq hmm134))
                      exact zw_some ⟨hIm136, hFm136, hRC0m136, hRCRm136, hRKNm136, hRLRm136, hRLTm136, hRNSm136, hRTRm136, hRWDm136, ⟨by omega, by omega⟩, by omega, by omega, by omega⟩
                  · refine zw_b (by omega) ?_
                    refine zw_some ?_
                    refine zw_ite (fun h144 => ?_) (fun h144 => ?_)
                    · refine zw_bd (zw_mono (zk_89 n hIm113 hc0 hRNSm113 hRWDm113) (fun v146 m145 hqm145 => ?_))
                      obtain ⟨hIm145, hfm145, hvm145⟩ := hqm145
                      have hFm145 := zfr_tr hFm113 hfm145 rfl
                      obtain ⟨hRNSm145, hRTRm145, hRWDm145, hvm145⟩ := hvm145
                      have hRC0m145 := zR_C0_fr (zdis_fr hfm145 rfl) hRC0m113
                      have hRCRm145 := zR_CR_fr (zdis_fr hfm145 rfl) hRCRm113
                      have hRKNm145 := zR_KN_fr (zdis_fr hfm145 rfl) hRKNm113
                      have hRLRm145 := zR_LR_fr (zdis_fr hfm145 rfl) hRLRm113
                      have hRLTm145 := zR_LT_fr (zdis_fr hfm145 rfl) hRLTm113
                      have s147 := hRNSm145 a0 hc0
                      have s148 := hRTRm145 a0 hc0
                      refine zw_b (by omega) ?_
                      have r149 : 0 ≤ (m145 a0 7) ∧ (m145 a0 7) ≤ 700 := zi_rd hIm145 hc0 zb_28_7
                      have r150 : 0 ≤ (m145 a0 21) ∧ (m145 a0 21) ≤ 64 := zi_rd hIm145 hc0 zb_28_21
                      have e151 : (m145 a0 21) = (m0 a0 21) := (Eq.trans (zfr_ap hfm145 hc0 rfl) (zfr_ap hfm113 hc0 rfl))
                      have r152 : 0 ≤ (m145 a0 48) ∧ (m145 a0 48) ≤ 64 := zi_rd hIm145 hc0 zb_28_48
                      have e153 : (m145 a0 48) = (m0 a0 48) := (Eq.trans (zfr_ap hfm145 hc0 rfl) (zfr_ap hfm113 hc0 rfl))
                      have r154 : (-2147483648) ≤ (m145 a0 4) ∧ (m145 a0 4) ≤ 2147483647 := zi_rd hIm145 hc0 zb_28_4
                      exact zw_some ⟨hIm145, hFm145, hRC0m145, hRCRm145, hRKNm145, hRLRm145, hRLTm145, hRNSm145, hRTRm145, hRWDm145, ⟨by omega, by omega⟩, by omega, by omega, by omega⟩
                    · exfalso; omega
              · refine zw_b (by omega) ?_
                have r155 : 0 ≤ (m113 a0 7) ∧ (m113 a0 7) ≤ 700 := zi_rd hIm113 hc0 zb_28_7
                have r156 : 0 ≤ (m113 a0 21) ∧ (m113 a0 21) ≤ 64 := zi_rd hIm113 hc0 zb_28_21
                have e157 : (m113 a0 21) = (m0 a0 21) := (zfr_ap hfm113 hc0 rfl)
                have r158 : 0 ≤ (m113 a0 48) ∧ (m113 a0 48) ≤ 64 := zi_rd hIm113 hc0 zb_28_48
                have e159 : (m113 a0 48) = (m0 a0 48) := (zfr_ap hfm113 hc0 rfl)
                have r160 : (-2147483648) ≤ (m113 a0 4) ∧ (m113 a0 4) ≤ 2147483647 := zi_rd hIm113 hc0 zb_28_4
                exact zw_some ⟨hIm113, hFm113, hRC0m113, hRCRm113, hRKNm113, hRLRm113, hRLTm113, hRNSm113, hRTRm113, hRWDm113, ⟨by omega, by omega⟩, by omega, by omega, by omega⟩
          · refine zw_bd (zw_mono (zk_101 n hIm0 hc0 ⟨by omega, by omega⟩ ⟨by omega, by omega⟩ hRCRm0 hRLRm0 hRNSm0 hRTRm0 hRWDm0) (fun v162 m161 hqm161 => ?_))
            obtain ⟨hIm161, hfm161, hvm161⟩ := hqm161
            have hFm161 := zfr_tr hFm0 hfm161 rfl
            obtain ⟨hRCRm161, hRLRm161, hRNSm161, hRTRm161, hRWDm161, hvm161⟩ := hvm161
            have hRC0m161 := zR_C0_fr (zdis_fr hfm161 rfl) hRC0m0
            have hRKNm161 := zR_KN_fr (zdis_fr hfm161 rfl) hRKNm0
            have hRLTm161 := zR_LT_fr (zdis_fr hfm161 rfl) hRLTm0
            have s163 := hRNSm161 a0 hc0
            have s164 := hRTRm161 a0 hc0
            refine zw_ite (fun h165 => ?_) (fun h165 => ?_)
            · refine zw_bd (zw_eq (zu_call_at (zt_T n) (zm_93 n) (zdp_93 n) _ _ _ _ _ rfl (zr_93_0 n _ _ a0 59 m161)) ?_)
              have r166 : 0 ≤ (m161 a0 8) ∧ (m161 a0 8) ≤ 6 := zi_rd hIm161 hc0 zb_28_8
              refine zw_ite (fun h167 => ?_) (fun h167 => ?_)
              · refine zw_b (by omega) ?_
                refine zw_some ?_
                refine zw_ite (fun h168 => ?_) (fun h168 => ?_)
                · exfalso; omega
                · refine zw_bd (zw_eq (zu_call_at (zt_T n) (zm_85 n) (zdp_85 n) _ _ _ _ _ rfl (zr_85_0 n _ _ a0 1 m161)) ?_)
                  generalize hmm169 : zu_up m161 a0 4 1 = m169
                  have hIm169 := zi_up hmm169 hIm161 hc0 zb_28_4 (by omega) (by omega)
                  have hFm169 := zfr_up hmm169 hFm161 hc0 rfl
                  have hRC0m169 := zR_C0_fr (zdis_fr (zfr_up hmm169 (zfr_rf [(28, 5)] _) hc0 rfl) rfl) hRC0m161
                  have hRCRm169 := zR_CR_fr (zdis_fr (zfr_up hmm169 (zfr_rf [(28, 5)] _) hc0 rfl) rfl) hRCRm161
                  have hRKNm169 := zR_KN_fr (zdis_fr (zfr_up hmm169 (zfr_rf [(28, 5)] _) hc0 rfl) rfl) hRKNm161
                  have hRLTm169 := zR_LT_fr (zdis_fr (zfr_up hmm169 (zfr_rf [(28, 5)] _) hc0 rfl) rfl) hRLTm161
                  have hRNSm169 := zR_NS_fr (zdis_fr (zfr_up hmm169 (zfr_rf [(28, 5)] _) hc0 rfl) rfl) hRNSm161
                  have hRTRm169 := zR_TR_fr (zdis_fr (zfr_up hmm169 (zfr_rf [(28, 5)] _) hc0 rfl) rfl) hRTRm161
                  have hRWDm169 := zR_WD_fr (zdis_fr (zfr_up hmm169 (zfr_rf [(28, 5)] _) hc0 rfl) rfl) hRWDm161
                  have hRLRm169 := zLR_wr (zone_190 hc0) hmm169 (by decide)
                  have r170 : 0 ≤ (m169 a0 10) ∧ (m169 a0 10) ≤ 700 := zi_rd hIm169 hc0 zb_28_10
                  generalize hmm171 : zu_up m169 a0 5 (m169 a0 10) = m171
                  have hIm171 := zi_up hmm171 hIm169 hc0 zb_28_5 (by omega) (by omega)
                  have hFm171 := zfr_up hmm171 hFm169 hc0 rfl
                  have hRC0m171 := zR_C0_fr (zdis_fr (zfr_up hmm171 (zfr_rf [(28, 6)] _) hc0 rfl) rfl) hRC0m169
                  have hRCRm171 := zR_CR_fr (zdis_fr (zfr_up hmm171 (zfr_rf [(28, 6)] _) hc0 rfl) rfl) hRCRm169
                  have hRKNm171 := zR_KN_fr (zdis_fr (zfr_up hmm171 (zfr_rf [(28, 6)] _) hc0 rfl) rfl) hRKNm169
                  have hRLRm171 := zR_LR_fr (zdis_fr (zfr_up hmm171 (zfr_rf [(28, 6)] _) hc0 rfl) rfl) hRLRm169
                  have hRLTm171 := zR_LT_fr (zdis_fr (zfr_up hmm171 (zfr_rf [(28, 6)] _) hc0 rfl) rfl) hRLTm169
                  have hRNSm171 := zR_NS_fr (zdis_fr (zfr_up hmm171 (zfr_rf [(28, 6)] _) hc0 rfl) rfl) hRNSm169
                  have hRTRm171 := zR_TR_fr (zdis_fr (zfr_up hmm171 (zfr_rf [(28, 6)] _) hc0 rfl) rfl) hRTRm169
                  have hRWDm171 := zR_WD_fr (zdis_fr (zfr_up hmm171 (zfr_rf [(28, 6)] _) hc0 rfl) rfl) hRWDm169
                  refine zw_b (by omega) ?_
                  refine zw_some ?_
                  refine zw_b (by omega) ?_
                  have r172 : 0 ≤ (m171 a0 7) ∧ (m171 a0 7) ≤ 700 := zi_rd hIm171 hc0 zb_28_7
                  have r173 : 0 ≤ (m171 a0 21) ∧ (m171 a0 21) ≤ 64 := zi_rd hIm171 hc0 zb_28_21
                  have e174 : (m171 a0 21) = (m0 a0 21) := (Eq.trans (zs_ne hmm171 (Or.inr (by decide))) (Eq.trans (zs_ne hmm169 (Or.inr (by decide))) (zfr_ap hfm161 hc0 rfl)))
                  have r175 : 0 ≤ (m171 a0 48) ∧ (m171 a0 48) ≤ 64 := zi_rd hIm171 hc0 zb_28_48
                  have e176 : (m171 a0 48) = (m0 a0 48) := (Eq.trans (zs_ne hmm171 (Or.inr (by decide))) (Eq.trans (zs_ne hmm169 (Or.inr (by decide))) (zfr_ap hfm161 hc0 rfl)))
                  have r177 : (-2147483648) ≤ (m171 a0 4) ∧ (m171 a0 4) ≤ 2147483647 := zi_rd hIm171 hc0 zb_28_4
                  have e178 : (m171 a0 4) = 1 := (Eq.trans (zs_ne hmm171 (Or.inr (by decide))) (zs_eq hmm169))
                  exact zw_some ⟨hIm171, hFm171, hRC0m171, hRCRm171, hRKNm171, hRLRm171, hRLTm171, hRNSm171, hRTRm171, hRWDm171, ⟨by omega, by omega⟩, by omega, by omega, by omega⟩
              · have r179 : (-2147483648) ≤ (m161 a0 9) ∧ (m161 a0 9) ≤ 2147483647 := zi_rd hIm161 hc0 zb_28_9
                refine zw_ite (fun h180 => ?_) (fun h180 => ?_)
                · refine zw_b (by omega) ?_
                  refine zw_some ?_
                  refine zw_ite (fun h181 => ?_) (fun h181 => ?_)
                  · exfalso; omega
                  · refine zw_bd (zw_eq (zu_call_at (zt_T n) (zm_85 n) (zdp_85 n) _ _ _ _ _ rfl (zr_85_0 n _ _ a0 1 m161)) ?_)
                    generalize hmm182 : zu_up m161 a0 4 1 = m182
                    have hIm182 := zi_up hmm182 hIm161 hc0 zb_28_4 (by omega) (by omega)
                    have hFm182 := zfr_up hmm182 hFm161 hc0 rfl
                    have hRC0m182 := zR_C0_fr (zdis_fr (zfr_up hmm182 (zfr_rf [(28, 5)] _) hc0 rfl) rfl) hRC0m161
                    have hRCRm182 := zR_CR_fr (zdis_fr (zfr_up hmm182 (zfr_rf [(28, 5)] _) hc0 rfl) rfl) hRCRm161
                    have hRKNm182 := zR_KN_fr (zdis_fr (zfr_up hmm182 (zfr_rf [(28, 5)] _) hc0 rfl) rfl) hRKNm161
                    have hRLTm182 := zR_LT_fr (zdis_fr (zfr_up hmm182 (zfr_rf [(28, 5)] _) hc0 rfl) rfl) hRLTm161
                    have hRNSm182 := zR_NS_fr (zdis_fr (zfr_up hmm182 (zfr_rf [(28, 5)] _) hc0 rfl) rfl) hRNSm161
                    have hRTRm182 := zR_TR_fr (zdis_fr (zfr_up hmm182 (zfr_rf [(28, 5)] _) hc0 rfl) rfl) hRTRm161
                    have hRWDm182 := zR_WD_fr (zdis_fr (zfr_up hmm182 (zfr_rf [(28, 5)] _) hc0 rfl) rfl) hRWDm161
                    have hRLRm182 := zLR_wr (zone_190 hc0) hmm182 (by decide)
                    have r183 : 0 ≤ (m182 a0 10) ∧ (m182 a0 10) ≤ 700 := zi_rd hIm182 hc0 zb_28_10
                    generalize hmm184 : zu_up m182 a0 5 (m182 a0 10) = m184
                    have hIm184 := zi_up hmm184 hIm182 hc0 zb_28_5 (by omega) (by omega)
                    have hFm184 := zfr_up hmm184 hFm182 hc0 rfl
                    have hRC0m184 := zR_C0_fr (zdis_fr (zfr_up hmm184 (zfr_rf [(28, 6)] _) hc0 rfl) rfl) hRC0m182
                    have hRCRm184 := zR_CR_fr (zdis_fr (zfr_up hmm184 (zfr_rf [(28, 6)] _) hc0 rfl) rfl) hRCRm182
                    have hRKNm184 := zR_KN_fr (zdis_fr (zfr_up hmm184 (zfr_rf [(28, 6)] _) hc0 rfl) rfl) hRKNm182
                    have hRLRm184 := zR_LR_fr (zdis_fr (zfr_up hmm184 (zfr_rf [(28, 6)] _) hc0 rfl) rfl) hRLRm182
                    have hRLTm184 := zR_LT_fr (zdis_fr (zfr_up hmm184 (zfr_rf [(28, 6)] _) hc0 rfl) rfl) hRLTm182
                    have hRNSm184 := zR_NS_fr (zdis_fr (zfr_up hmm184 (zfr_rf [(28, 6)] _) hc0 rfl) rfl) hRNSm182
                    have hRTRm184 := zR_TR_fr (zdis_fr (zfr_up hmm184 (zfr_rf [(28, 6)] _) hc0 rfl) rfl) hRTRm182
                    have hRWDm184 := zR_WD_fr (zdis_fr (zfr_up hmm184 (zfr_rf [(28, 6)] _) hc0 rfl) rfl) hRWDm182
                    refine zw_b (by omega) ?_
                    refine zw_some ?_
                    refine zw_b (by omega) ?_
                    have r185 : 0 ≤ (m184 a0 7) ∧ (m184 a0 7) ≤ 700 := zi_rd hIm184 hc0 zb_28_7
                    have r186 : 0 ≤ (m184 a0 21) ∧ (m184 a0 21) ≤ 64 := zi_rd hIm184 hc0 zb_28_21
                    have e187 : (m184 a0 21) = (m0 a0 21) := (Eq.trans (zs_ne hmm184 (Or.inr (by decide))) (Eq.trans (zs_ne hmm182 (Or.inr (by decide))) (zfr_ap hfm161 hc0 rfl)))
                    have r188 : 0 ≤ (m184 a0 48) ∧ (m184 a0 48) ≤ 64 := zi_rd hIm184 hc0 zb_28_48
                    have e189 : (m184 a0 48) = (m0 a0 48) := (Eq.trans (zs_ne hmm184 (Or.inr (by decide))) (Eq.trans (zs_ne hmm182 (Or.inr (by decide))) (zfr_ap hfm161 hc0 rfl)))
                    have r190 : (-2147483648) ≤ (m184 a0 4) ∧ (m184 a0 4) ≤ 2147483647 := zi_rd hIm184 hc0 zb_28_4
                    have e191 : (m184 a0 4) = 1 := (Eq.trans (zs_ne hmm184 (Or.inr (by decide))) (zs_eq hmm182))
                    exact zw_some ⟨hIm184, hFm184, hRC0m184, hRCRm184, hRKNm184, hRLRm184, hRLTm184, hRNSm184, hRTRm184, hRWDm184, ⟨by omega, by omega⟩, by omega, by omega, by omega⟩
                · refine zw_b (by omega) ?_
                  refine zw_some ?_
                  refine zw_ite (fun h192 => ?_) (fun h192 => ?_)
                  · refine zw_bd (zw_mono (zk_89 n hIm161 hc0 hRNSm161 hRWDm161) (fun v194 m193 hqm193 => ?_))
                    obtain ⟨hIm193, hfm193, hvm193⟩ := hqm193
                    have hFm193 := zfr_tr hFm161 hfm193 rfl
                    obtain ⟨hRNSm193, hRTRm193, hRWDm193, hvm193⟩ := hvm193
                    have hRC0m193 := zR_C0_fr (zdis_fr hfm193 rfl) hRC0m161
                    have hRCRm193 := zR_CR_fr (zdis_fr hfm193 rfl) hRCRm161
                    have hRKNm193 := zR_KN_fr (zdis_fr hfm193 rfl) hRKNm161
                    have hRLRm193 := zR_LR_fr (zdis_fr hfm193 rfl) hRLRm161
                    have hRLTm193 := zR_LT_fr (zdis_fr hfm193 rfl) hRLTm161
                    have s195 := hRNSm193 a0 hc0
                    have s196 := hRTRm193 a0 hc0
                    refine zw_b (by omega) ?_
                    have r197 : 0 ≤ (m193 a0 7) ∧ (m193 a0 7) ≤ 700 := zi_rd hIm193 hc0 zb_28_7
                    have r198 : 0 ≤ (m193 a0 21) ∧ (m193 a0 21) ≤ 64 := zi_rd hIm193 hc0 zb_28_21
                    have e199 : (m193 a0 21) = (m0 a0 21) := (Eq.trans (zfr_ap hfm193 hc0 rfl) (zfr_ap hfm161 hc0 rfl))
                    have r200 : 0 ≤ (m193 a0 48) ∧ (m193 a0 48) ≤ 64 := zi_rd hIm193 hc0 zb_28_48
                    have e201 : (m193 a0 48) = (m0 a0 48) := (Eq.trans (zfr_ap hfm193 hc0 rfl) (zfr_ap hfm161 hc0 rfl))
                    have r202 : (-2147483648) ≤ (m193 a0 4) ∧ (m193 a0 4) ≤ 2147483647 := zi_rd hIm193 hc0 zb_28_4
                    exact zw_some ⟨hIm193, hFm193, hRC0m193, hRCRm193, hRKNm193, hRLRm193, hRLTm193, hRNSm193, hRTRm193, hRWDm193, ⟨by omega, by omega⟩, by omega, by omega, by omega⟩
                  · exfalso; omega
            · refine zw_b (by omega) ?_
              have r203 : 0 ≤ (m161 a0 7) ∧ (m161 a0 7) ≤ 700 := zi_rd hIm161 hc0 zb_28_7
              have r204 : 0 ≤ (m161 a0 21) ∧ (m161 a0 21) ≤ 64 := zi_rd hIm161 hc0 zb_28_21
              have e205 : (m161 a0 21) = (m0 a0 21) := (zfr_ap hfm161 hc0 rfl)
              have r206 : 0 ≤ (m161 a0 48) ∧ (m161 a0 48) ≤ 64 := zi_rd hIm161 hc0 zb_28_48
              have e207 : (m161 a0 48) = (m0 a0 48) := (zfr_ap hfm161 hc0 rfl)
              have r208 : (-2147483648) ≤ (m161 a0 4) ∧ (m161 a0 4) ≤ 2147483647 := zi_rd hIm161 hc0 zb_28_4
              exact zw_some ⟨hIm161, hFm161, hRC0m161, hRCRm161, hRKNm161, hRLRm161, hRLTm161, hRNSm161, hRTRm161, hRWDm161, ⟨by omega, by omega⟩, by omega, by omega, by omega⟩
        · have w209 := zu_w32_id (z := (m0 a0 9) - 1) (by omega) (by omega)
          have w210 := zu_w32_id (z := (zu_w32 ((m0 a0 9) - 1)) + 1) (by omega) (by omega)
          refine zw_bd (zw_mono (zk_100 n hIm0 hc0 ⟨by omega, by omega⟩ ⟨by omega, by omega⟩ ⟨by omega, by omega⟩ hRCRm0 hRLRm0 hRNSm0 hRTRm0 hRWDm0) (fun v212 m211 hqm211 => ?_))
          obtain ⟨hIm211, hfm211, hvm211⟩ := hqm211
          have hFm211 := zfr_tr hFm0 hfm211 rfl
          obtain ⟨hRCRm211, hRLRm211, hRNSm211, hRTRm211, hRWDm211, hvm211⟩ := hvm211
          have hRC0m211 := zR_C0_fr (zdis_fr hfm211 rfl) hRC0m0
          have hRKNm211 := zR_KN_fr (zdis_fr hfm211 rfl) hRKNm0
          have hRLTm211 := zR_LT_fr (zdis_fr hfm211 rfl) hRLTm0
          have s213 := hRNSm211 a0 hc0
          have s214 := hRTRm211 a0 hc0
          refine zw_ite (fun h215 => ?_) (fun h215 => ?_)
          · refine zw_bd (zw_eq (zu_call_at (zt_T n) (zm_93 n) (zdp_93 n) _ _ _ _ _ rfl (zr_93_0 n _ _ a0 59 m211)) ?_)
            have r216 : 0 ≤ (m211 a0 8) ∧ (m211 a0 8) ≤ 6 := zi_rd hIm211 hc0 zb_28_8
            refine zw_ite (fun h217 => ?_) (fun h217 => ?_)
            · refine zw_b (by omega) ?_
              refine zw_some ?_
              refine zw_ite (fun h218 => ?_) (fun h218 => ?_)
              · exfalso; omega
              · refine zw_bd (zw_eq (zu_call_at (zt_T n) (zm_85 n) (zdp_85 n) _ _ _ _ _ rfl (zr_85_0 n _ _ a0 1 m211)) ?_)
                generalize hmm219 : zu_up m211 a0 4 1 = m219
                have hIm219 := zi_up hmm219 hIm211 hc0 zb_28_4 (by omega) (by omega)
                have hFm219 := zfr_up hmm219 hFm211 hc0 rfl
                have hRC0m219 := zR_C0_fr (zdis_fr (zfr_up hmm219 (zfr_rf [(28, 5)] _) hc0 rfl) rfl) hRC0m211
                have hRCRm219 := zR_CR_fr (zdis_fr (zfr_up hmm219 (zfr_rf [(28, 5)] _) hc0 rfl) rfl) hRCRm211
                have hRKNm219 := zR_KN_fr (zdis_fr (zfr_up hmm219 (zfr_rf [(28, 5)] _) hc0 rfl) rfl) hRKNm211
                have hRLTm219 := zR_LT_fr (zdis_fr (zfr_up hmm219 (zfr_rf [(28, 5)] _) hc0 rfl) rfl) hRLTm211
                have hRNSm219 := zR_NS_fr (zdis_fr (zfr_up hmm219 (zfr_rf [(28, 5)] _) hc0 rfl) rfl) hRNSm211
                have hRTRm219 := zR_TR_fr (zdis_fr (zfr_up hmm219 (zfr_rf [(28, 5)] _) hc0 rfl) rfl) hRTRm211
                have hRWDm219 := zR_WD_fr (zdis_fr (zfr_up hmm219 (zfr_rf [(28, 5)] _) hc0 rfl) rfl) hRWDm211
                have hRLRm219 := zLR_wr (zone_190 hc0) hmm219 (by decide)
                have r220 : 0 ≤ (m219 a0 10) ∧ (m219 a0 10) ≤ 700 := zi_rd hIm219 hc0 zb_28_10
                generalize hmm221 : zu_up m219 a0 5 (m219 a0 10) = m221
                have hIm221 := zi_up hmm221 hIm219 hc0 zb_28_5 (by omega) (by omega)
                have hFm221 := zfr_up hmm221 hFm219 hc0 rfl
                have hRC0m221 := zR_C0_fr (zdis_fr (zfr_up hmm221 (zfr_rf [(28, 6)] _) hc0 rfl) rfl) hRC0m219
                have hRCRm221 := zR_CR_fr (zdis_fr (zfr_up hmm221 (zfr_rf [(28, 6)] _) hc0 rfl) rfl) hRCRm219
                have hRKNm221 := zR_KN_fr (zdis_fr (zfr_up hmm221 (zfr_rf [(28, 6)] _) hc0 rfl) rfl) hRKNm219
                have hRLRm221 := zR_LR_fr (zdis_fr (zfr_up hmm221 (zfr_rf [(28, 6)] _) hc0 rfl) rfl) hRLRm219
                have hRLTm221 := zR_LT_fr (zdis_fr (zfr_up hmm221 (zfr_rf [(28, 6)] _) hc0 rfl) rfl) hRLTm219
                have hRNSm221 := zR_NS_fr (zdis_fr (zfr_up hmm221 (zfr_rf [(28, 6)] _) hc0 rfl) rfl) hRNSm219
                have hRTRm221 := zR_TR_fr (zdis_fr (zfr_up hmm221 (zfr_rf [(28, 6)] _) hc0 rfl) rfl) hRTRm219
                have hRWDm221 := zR_WD_fr (zdis_fr (zfr_up hmm221 (zfr_rf [(28, 6)] _) hc0 rfl) rfl) hRWDm219
                refine zw_b (by omega) ?_
                refine zw_some ?_
                refine zw_b (by omega) ?_
                have r222 : 0 ≤ (m221 a0 7) ∧ (m221 a0 7) ≤ 700 := zi_rd hIm221 hc0 zb_28_7
                have r223 : 0 ≤ (m221 a0 21) ∧ (m221 a0 21) ≤ 64 := zi_rd hIm221 hc0 zb_28_21
                have e224 : (m221 a0 21) = (m0 a0 21) := (Eq.trans (zs_ne hmm221 (Or.inr (by decide))) (Eq.trans (zs_ne hmm219 (Or.inr (by decide))) (zfr_ap hfm211 hc0 rfl)))
                have r225 : 0 ≤ (m221 a0 48) ∧ (m221 a0 48) ≤ 64 := zi_rd hIm221 hc0 zb_28_48
                have e226 : (m221 a0 48) = (m0 a0 48) := (Eq.trans (zs_ne hmm221 (Or.inr (by decide))) (Eq.trans (zs_ne hmm219 (Or.inr (by decide))) (zfr_ap hfm211 hc0 rfl)))
                have r227 : (-2147483648) ≤ (m221 a0 4) ∧ (m221 a0 4) ≤ 2147483647 := zi_rd hIm221 hc0 zb_28_4
                have e228 : (m221 a0 4) = 1 := (Eq.trans (zs_ne hmm221 (Or.inr (by decide))) (zs_eq hmm219))
                exact zw_some ⟨hIm221, hFm221, hRC0m221, hRCRm221, hRKNm221, hRLRm221, hRLTm221, hRNSm221, hRTRm221, hRWDm221, ⟨by omega, by omega⟩, by omega, by omega, by omega⟩
            · have r229 : (-2147483648) ≤ (m211 a0 9) ∧ (m211 a0 9) ≤ 2147483647 := zi_rd hIm211 hc0 zb_28_9
              refine zw_ite (fun h230 => ?_) (fun h230 => ?_)
              · refine zw_b (by omega) ?_
                refine zw_some ?_
                refine zw_ite (fun h231 => ?_) (fun h231 => ?_)
                · exfalso; omega
                · refine zw_bd (zw_eq (zu_call_at (zt_T n) (zm_85 n) (zdp_85 n) _ _ _ _ _ rfl (zr_85_0 n _ _ a0 1 m211)) ?_)
                  generalize hmm232 : zu_up m211 a0 4 1 = m232
                  have hIm232 := zi_up hmm232 hIm211 hc0 zb_28_4 (by omega) (by omega)
                  have hFm232 := zfr_up hmm232 hFm211 hc0 rfl
                  have hRC0m232 := zR_C0_fr (zdis_fr (zfr_up hmm232 (zfr_rf [(28, 5)] _) hc0 rfl) rfl) hRC0m211
                  have hRCRm232 := zR_CR_fr (zdis_fr (zfr_up hmm232 (zfr_rf [(28, 5)] _) hc0 rfl) rfl) hRCRm211
                  have hRKNm232 := zR_KN_fr (zdis_fr (zfr_up hmm232 (zfr_rf [(28, 5)] _) hc0 rfl) rfl) hRKNm211
                  have hRLTm232 := zR_LT_fr (zdis_fr (zfr_up hmm232 (zfr_rf [(28, 5)] _) hc0 rfl) rfl) hRLTm211
                  have hRNSm232 := zR_NS_fr (zdis_fr (zfr_up hmm232 (zfr_rf [(28, 5)] _) hc0 rfl) rfl) hRNSm211
                  have hRTRm232 := zR_TR_fr (zdis_fr (zfr_up hmm232 (zfr_rf [(28, 5)] _) hc0 rfl) rfl) hRTRm211
                  have hRWDm232 := zR_WD_fr (zdis_fr (zfr_up hmm232 (zfr_rf [(28, 5)] _) hc0 rfl) rfl) hRWDm211
                  have hRLRm232 := zLR_wr (zone_190 hc0) hmm232 (by decide)
                  have r233 : 0 ≤ (m232 a0 10) ∧ (m232 a0 10) ≤ 700 := zi_rd hIm232 hc0 zb_28_10
                  generalize hmm234 : zu_up m232 a0 5 (m232 a0 10) = m234
                  have hIm234 := zi_up hmm234 hIm232 hc0 zb_28_5 (by omega) (by omega)
                  have hFm234 := zfr_up hmm234 hFm232 hc0 rfl
                  have hRC0m234 := zR_C0_fr (zdis_fr (zfr_up hmm234 (zfr_rf [(28, 6)] _) hc0 rfl) rfl) hRC0m232
                  have hRCRm234 := zR_CR_fr (zdis_fr (zfr_up hmm234 (zfr_rf [(28, 6)] _) hc0 rfl) rfl) hRCRm232
                  have hRKNm234 := zR_KN_fr (zdis_fr (zfr_up hmm234 (zfr_rf [(28, 6)] _) hc0 rfl) rfl) hRKNm232
                  have hRLRm234 := zR_LR_fr (zdis_fr (zfr_up hmm234 (zfr_rf [(28, 6)] _) hc0 rfl) rfl) hRLRm232
                  have hRLTm234 := zR_LT_fr (zdis_fr (zfr_up hmm234 (zfr_rf [(28, 6)] _) hc0 rfl) rfl) hRLTm232
                  have hRNSm234 := zR_NS_fr (zdis_fr (zfr_up hmm234 (zfr_rf [(28, 6)] _) hc0 rfl) rfl) hRNSm232
                  have hRTRm234 := zR_TR_fr (zdis_fr (zfr_up hmm234 (zfr_rf [(28, 6)] _) hc0 rfl) rfl) hRTRm232
                  have hRWDm234 := zR_WD_fr (zdis_fr (zfr_up hmm234 (zfr_rf [(28, 6)] _) hc0 rfl) rfl) hRWDm232
                  refine zw_b (by omega) ?_
                  refine zw_some ?_
                  refine zw_b (by omega) ?_
                  have r235 : 0 ≤ (m234 a0 7) ∧ (m234 a0 7) ≤ 700 := zi_rd hIm234 hc0 zb_28_7
                  have r236 : 0 ≤ (m234 a0 21) ∧ (m234 a0 21) ≤ 64 := zi_rd hIm234 hc0 zb_28_21
                  have e237 : (m234 a0 21) = (m0 a0 21) := (Eq.trans (zs_ne hmm234 (Or.inr (by decide))) (Eq.trans (zs_ne hmm232 (Or.inr (by decide))) (zfr_ap hfm211 hc0 rfl)))
                  have r238 : 0 ≤ (m234 a0 48) ∧ (m234 a0 48) ≤ 64 := zi_rd hIm234 hc0 zb_28_48
                  have e239 : (m234 a0 48) = (m0 a0 48) := (Eq.trans (zs_ne hmm234 (Or.inr (by decide))) (Eq.trans (zs_ne hmm232 (Or.inr (by decide))) (zfr_ap hfm211 hc0 rfl)))
                  have r240 : (-2147483648) ≤ (m234 a0 4) ∧ (m234 a0 4) ≤ 2147483647 := zi_rd hIm234 hc0 zb_28_4
                  have e241 : (m234 a0 4) = 1 := (Eq.trans (zs_ne hmm234 (Or.inr (by decide))) (zs_eq hmm232))
                  exact zw_some ⟨hIm234, hFm234, hRC0m234, hRCRm234, hRKNm234, hRLRm234, hRLTm234, hRNSm234, hRTRm234, hRWDm234, ⟨by omega, by omega⟩, by omega, by omega, by omega⟩
              · refine zw_b (by omega) ?_
                refine zw_some ?_
                refine zw_ite (fun h242 => ?_) (fun h242 => ?_)
                · refine zw_bd (zw_mono (zk_89 n hIm211 hc0 hRNSm211 hRWDm211) (fun v244 m243 hqm243 => ?_))
                  obtain ⟨hIm243, hfm243, hvm243⟩ := hqm243
                  have hFm243 := zfr_tr hFm211 hfm243 rfl
                  obtain ⟨hRNSm243, hRTRm243, hRWDm243, hvm243⟩ := hvm243
                  have hRC0m243 := zR_C0_fr (zdis_fr hfm243 rfl) hRC0m211
                  have hRCRm243 := zR_CR_fr (zdis_fr hfm243 rfl) hRCRm211
                  have hRKNm243 := zR_KN_fr (zdis_fr hfm243 rfl) hRKNm211
                  have hRLRm243 := zR_LR_fr (zdis_fr hfm243 rfl) hRLRm211
                  have hRLTm243 := zR_LT_fr (zdis_fr hfm243 rfl) hRLTm211
                  have s245 := hRNSm243 a0 hc0
                  have s246 := hRTRm243 a0 hc0
                  refine zw_b (by omega) ?_
                  have r247 : 0 ≤ (m243 a0 7) ∧ (m243 a0 7) ≤ 700 := zi_rd hIm243 hc0 zb_28_7
                  have r248 : 0 ≤ (m243 a0 21) ∧ (m243 a0 21) ≤ 64 := zi_rd hIm243 hc0 zb_28_21
                  have e249 : (m243 a0 21) = (m0 a0 21) := (Eq.trans (zfr_ap hfm243 hc0 rfl) (zfr_ap hfm211 hc0 rfl))
                  have r250 : 0 ≤ (m243 a0 48) ∧ (m243 a0 48) ≤ 64 := zi_rd hIm243 hc0 zb_28_48
                  have e251 : (m243 a0 48) = (m0 a0 48) := (Eq.trans (zfr_ap hfm243 hc0 rfl) (zfr_ap hfm211 hc0 rfl))
                  have r252 : (-2147483648) ≤ (m243 a0 4) ∧ (m243 a0 4) ≤ 2147483647 := zi_rd hIm243 hc0 zb_28_4
                  exact zw_some ⟨hIm243, hFm243, hRC0m243, hRCRm243, hRKNm243, hRLRm243, hRLTm243, hRNSm243, hRTRm243, hRWDm243, ⟨by omega, by omega⟩, by omega, by omega, by omega⟩
                · exfalso; omega
          · refine zw_b (by omega) ?_
            have r253 : 0 ≤ (m211 a0 7) ∧ (m211 a0 7) ≤ 700 := zi_rd hIm211 hc0 zb_28_7
            have r254 : 0 ≤ (m211 a0 21) ∧ (m211 a0 21) ≤ 64 := zi_rd hIm211 hc0 zb_28_21
            have e255 : (m211 a0 21) = (m0 a0 21) := (zfr_ap hfm211 hc0 rfl)
            have r256 : 0 ≤ (m211 a0 48) ∧ (m211 a0 48) ≤ 64 := zi_rd hIm211 hc0 zb_28_48
            have e257 : (m211 a0 48) = (m0 a0 48) := (zfr_ap hfm211 hc0 rfl)
            have r258 : (-2147483648) ≤ (m211 a0 4) ∧ (m211 a0 4) ≤ 2147483647 := zi_rd hIm211 hc0 zb_28_4
            exact zw_some ⟨hIm211, hFm211, hRC0m211, hRCRm211, hRKNm211, hRLRm211, hRLTm211, hRNSm211, hRTRm211, hRWDm211, ⟨by omega, by omega⟩, by omega, by omega, by omega⟩
      · refine zw_bd (zw_mono (zk_99 n hIm0 hc0 hRCRm0 hRLRm0 hRNSm0 hRTRm0 hRWDm0) (fun v260 m259 hqm259 => ?_))
        obtain ⟨hIm259, hfm259, hvm259⟩ := hqm259
        have hFm259 := zfr_tr hFm0 hfm259 rfl
        obtain ⟨hRCRm259, hRLRm259, hRNSm259, hRTRm259, hRWDm259, hvm259⟩ := hvm259
        have hRC0m259 := zR_C0_fr (zdis_fr hfm259 rfl) hRC0m0
        have hRKNm259 := zR_KN_fr (zdis_fr hfm259 rfl) hRKNm0
        have hRLTm259 := zR_LT_fr (zdis_fr hfm259 rfl) hRLTm0
        have s261 := hRNSm259 a0 hc0
        have s262 := hRTRm259 a0 hc0
        refine zw_ite (fun h263 => ?_) (fun h263 => ?_)
        · refine zw_bd (zw_eq (zu_call_at (zt_T n) (zm_93 n) (zdp_93 n) _ _ _ _ _ rfl (zr_93_0 n _ _ a0 59 m259)) ?_)
          have r264 : 0 ≤ (m259 a0 8) ∧ (m259 a0 8) ≤ 6 := zi_rd hIm259 hc0 zb_28_8
          refine zw_ite (fun h265 => ?_) (fun h265 => ?_)
          · refine zw_b (by omega) ?_
            refine zw_some ?_
            refine zw_ite (fun h266 => ?_) (fun h266 => ?_)
            · exfalso; omega
            · refine zw_bd (zw_eq (zu_call_at (zt_T n) (zm_85 n) (zdp_85 n) _ _ _ _ _ rfl (zr_85_0 n _ _ a0 1 m259)) ?_)
              generalize hmm267 : zu_up m259 a0 4 1 = m267
              have hIm267 := zi_up hmm267 hIm259 hc0 zb_28_4 (by omega) (by omega)
              have hFm267 := zfr_up hmm267 hFm259 hc0 rfl
              have hRC0m267 := zR_C0_fr (zdis_fr (zfr_up hmm267 (zfr_rf [(28, 5)] _) hc0 rfl) rfl) hRC0m259
              have hRCRm267 := zR_CR_fr (zdis_fr (zfr_up hmm267 (zfr_rf [(28, 5)] _) hc0 rfl) rfl) hRCRm259
              have hRKNm267 := zR_KN_fr (zdis_fr (zfr_up hmm267 (zfr_rf [(28, 5)] _) hc0 rfl) rfl) hRKNm259
              have hRLTm267 := zR_LT_fr (zdis_fr (zfr_up hmm267 (zfr_rf [(28, 5)] _) hc0 rfl) rfl) hRLTm259
              have hRNSm267 := zR_NS_fr (zdis_fr (zfr_up hmm267 (zfr_rf [(28, 5)] _) hc0 rfl) rfl) hRNSm259
              have hRTRm267 := zR_TR_fr (zdis_fr (zfr_up hmm267 (zfr_rf [(28, 5)] _) hc0 rfl) rfl) hRTRm259
              have hRWDm267 := zR_WD_fr (zdis_fr (zfr_up hmm267 (zfr_rf [(28, 5)] _) hc0 rfl) rfl) hRWDm259
              have hRLRm267 := zLR_wr (zone_190 hc0) hmm267 (by decide)
              have r268 : 0 ≤ (m267 a0 10) ∧ (m267 a0 10) ≤ 700 := zi_rd hIm267 hc0 zb_28_10
              generalize hmm269 : zu_up m267 a0 5 (m267 a0 10) = m269
              have hIm269 := zi_up hmm269 hIm267 hc0 zb_28_5 (by omega) (by omega)
              have hFm269 := zfr_up hmm269 hFm267 hc0 rfl
              have hRC0m269 := zR_C0_fr (zdis_fr (zfr_up hmm269 (zfr_rf [(28, 6)] _) hc0 rfl) rfl) hRC0m267
              have hRCRm269 := zR_CR_fr (zdis_fr (zfr_up hmm269 (zfr_rf [(28, 6)] _) hc0 rfl) rfl) hRCRm267
              have hRKNm269 := zR_KN_fr (zdis_fr (zfr_up hmm269 (zfr_rf [(28, 6)] _) hc0 rfl) rfl) hRKNm267
              have hRLRm269 := zR_LR_fr (zdis_fr (zfr_up hmm269 (zfr_rf [(28, 6)] _) hc0 rfl) rfl) hRLRm267
              have hRLTm269 := zR_LT_fr (zdis_fr (zfr_up hmm269 (zfr_rf [(28, 6)] _) hc0 rfl) rfl) hRLTm267
              have hRNSm269 := zR_NS_fr (zdis_fr (zfr_up hmm269 (zfr_rf [(28, 6)] _) hc0 rfl) rfl) hRNSm267
              have hRTRm269 := zR_TR_fr (zdis_fr (zfr_up hmm269 (zfr_rf [(28, 6)] _) hc0 rfl) rfl) hRTRm267
              have hRWDm269 := zR_WD_fr (zdis_fr (zfr_up hmm269 (zfr_rf [(28, 6)] _) hc0 rfl) rfl) hRWDm267
              refine zw_b (by omega) ?_
              refine zw_some ?_
              refine zw_b (by omega) ?_
              have r270 : 0 ≤ (m269 a0 7) ∧ (m269 a0 7) ≤ 700 := zi_rd hIm269 hc0 zb_28_7
              have r271 : 0 ≤ (m269 a0 21) ∧ (m269 a0 21) ≤ 64 := zi_rd hIm269 hc0 zb_28_21
              have e272 : (m269 a0 21) = (m0 a0 21) := (Eq.trans (zs_ne hmm269 (Or.inr (by decide))) (Eq.trans (zs_ne hmm267 (Or.inr (by decide))) (zfr_ap hfm259 hc0 rfl)))
              have r273 : 0 ≤ (m269 a0 48) ∧ (m269 a0 48) ≤ 64 := zi_rd hIm269 hc0 zb_28_48
              have e274 : (m269 a0 48) = (m0 a0 48) := (Eq.trans (zs_ne hmm269 (Or.inr (by decide))) (Eq.trans (zs_ne hmm267 (Or.inr (by decide))) (zfr_ap hfm259 hc0 rfl)))
              have r275 : (-2147483648) ≤ (m269 a0 4) ∧ (m269 a0 4) ≤ 2147483647 := zi_rd hIm269 hc0 zb_28_4
              have e276 : (m269 a0 4) = 1 := (Eq.trans (zs_ne hmm269 (Or.inr (by decide))) (zs_eq hmm267))
              exact zw_some ⟨hIm269, hFm269, hRC0m269, hRCRm269, hRKNm269, hRLRm269, hRLTm269, hRNSm269, hRTRm269, hRWDm269, ⟨by omega, by omega⟩, by omega, by omega, by omega⟩
          · have r277 : (-2147483648) ≤ (m259 a0 9) ∧ (m259 a0 9) ≤ 2147483647 := zi_rd hIm259 hc0 zb_28_9
            refine zw_ite (fun h278 => ?_) (fun h278 => ?_)
            · refine zw_b (by omega) ?_
              refine zw_some ?_
              refine zw_ite (fun h279 => ?_) (fun h279 => ?_)
              · exfalso; omega
              · refine zw_bd (zw_eq (zu_call_at (zt_T n) (zm_85 n) (zdp_85 n) _ _ _ _ _ rfl (zr_85_0 n _ _ a0 1 m259)) ?_)
                generalize hmm280 : zu_up m259 a0 4 1 = m280
                have hIm280 := zi_up hmm280 hIm259 hc0 zb_28_4 (by omega) (by omega)
                have hFm280 := zfr_up hmm280 hFm259 hc0 rfl
                have hRC0m280 := zR_C0_fr (zdis_fr (zfr_up hmm280 (zfr_rf [(28, 5)] _) hc0 rfl) rfl) hRC0m259
                have hRCRm280 := zR_CR_fr (zdis_fr (zfr_up hmm280 (zfr_rf [(28, 5)] _) hc0 rfl) rfl) hRCRm259
                have hRKNm280 := zR_KN_fr (zdis_fr (zfr_up hmm280 (zfr_rf [(28, 5)] _) hc0 rfl) rfl) hRKNm259
                have hRLTm280 := zR_LT_fr (zdis_fr (zfr_up hmm280 (zfr_rf [(28, 5)] _) hc0 rfl) rfl) hRLTm259
                have hRNSm280 := zR_NS_fr (zdis_fr (zfr_up hmm280 (zfr_rf [(28, 5)] _) hc0 rfl) rfl) hRNSm259
                have hRTRm280 := zR_TR_fr (zdis_fr (zfr_up hmm280 (zfr_rf [(28, 5)] _) hc0 rfl) rfl) hRTRm259
                have hRWDm280 := zR_WD_fr (zdis_fr (zfr_up hmm280 (zfr_rf [(28, 5)] _) hc0 rfl) rfl) hRWDm259
                have hRLRm280 := zLR_wr (zone_190 hc0) hmm280 (by decide)
                have r281 : 0 ≤ (m280 a0 10) ∧ (m280 a0 10) ≤ 700 := zi_rd hIm280 hc0 zb_28_10
                generalize hmm282 : zu_up m280 a0 5 (m280 a0 10) = m282
                have hIm282 := zi_up hmm282 hIm280 hc0 zb_28_5 (by omega) (by omega)
                have hFm282 := zfr_up hmm282 hFm280 hc0 rfl
                have hRC0m282 := zR_C0_fr (zdis_fr (zfr_up hmm282 (zfr_rf [(28, 6)] _) hc0 rfl) rfl) hRC0m280
                have hRCRm282 := zR_CR_fr (zdis_fr (zfr_up hmm282 (zfr_rf [(28, 6)] _) hc0 rfl) rfl) hRCRm280
                have hRKNm282 := zR_KN_fr (zdis_fr (zfr_up hmm282 (zfr_rf [(28, 6)] _) hc0 rfl) rfl) hRKNm280
                have hRLRm282 := zR_LR_fr (zdis_fr (zfr_up hmm282 (zfr_rf [(28, 6)] _) hc0 rfl) rfl) hRLRm280
                have hRLTm282 := zR_LT_fr (zdis_fr (zfr_up hmm282 (zfr_rf [(28, 6)] _) hc0 rfl) rfl) hRLTm280
                have hRNSm282 := zR_NS_fr (zdis_fr (zfr_up hmm282 (zfr_rf [(28, 6)] _) hc0 rfl) rfl) hRNSm280
                have hRTRm282 := zR_TR_fr (zdis_fr (zfr_up hmm282 (zfr_rf [(28, 6)] _) hc0 rfl) rfl) hRTRm280
                have hRWDm282 := zR_WD_fr (zdis_fr (zfr_up hmm282 (zfr_rf [(28, 6)] _) hc0 rfl) rfl) hRWDm280
                refine zw_b (by omega) ?_
                refine zw_some ?_
                refine zw_b (by omega) ?_
                have r283 : 0 ≤ (m282 a0 7) ∧ (m282 a0 7) ≤ 700 := zi_rd hIm282 hc0 zb_28_7
                have r284 : 0 ≤ (m282 a0 21) ∧ (m282 a0 21) ≤ 64 := zi_rd hIm282 hc0 zb_28_21
                have e285 : (m282 a0 21) = (m0 a0 21) := (Eq.trans (zs_ne hmm282 (Or.inr (by decide))) (Eq.trans (zs_ne hmm280 (Or.inr (by decide))) (zfr_ap hfm259 hc0 rfl)))
                have r286 : 0 ≤ (m282 a0 48) ∧ (m282 a0 48) ≤ 64 := zi_rd hIm282 hc0 zb_28_48
                have e287 : (m282 a0 48) = (m0 a0 48) := (Eq.trans (zs_ne hmm282 (Or.inr (by decide))) (Eq.trans (zs_ne hmm280 (Or.inr (by decide))) (zfr_ap hfm259 hc0 rfl)))
                have r288 : (-2147483648) ≤ (m282 a0 4) ∧ (m282 a0 4) ≤ 2147483647 := zi_rd hIm282 hc0 zb_28_4
                have e289 : (m282 a0 4) = 1 := (Eq.trans (zs_ne hmm282 (Or.inr (by decide))) (zs_eq hmm280))
                exact zw_some ⟨hIm282, hFm282, hRC0m282, hRCRm282, hRKNm282, hRLRm282, hRLTm282, hRNSm282, hRTRm282, hRWDm282, ⟨by omega, by omega⟩, by omega, by omega, by omega⟩
            · refine zw_b (by omega) ?_
              refine zw_some ?_
              refine zw_ite (fun h290 => ?_) (fun h290 => ?_)
              · refine zw_bd (zw_mono (zk_89 n hIm259 hc0 hRNSm259 hRWDm259) (fun v292 m291 hqm291 => ?_))
                obtain ⟨hIm291, hfm291, hvm291⟩ := hqm291
                have hFm291 := zfr_tr hFm259 hfm291 rfl
                obtain ⟨hRNSm291, hRTRm291, hRWDm291, hvm291⟩ := hvm291
                have hRC0m291 := zR_C0_fr (zdis_fr hfm291 rfl) hRC0m259
                have hRCRm291 := zR_CR_fr (zdis_fr hfm291 rfl) hRCRm259
                have hRKNm291 := zR_KN_fr (zdis_fr hfm291 rfl) hRKNm259
                have hRLRm291 := zR_LR_fr (zdis_fr hfm291 rfl) hRLRm259
                have hRLTm291 := zR_LT_fr (zdis_fr hfm291 rfl) hRLTm259
                have s293 := hRNSm291 a0 hc0
                have s294 := hRTRm291 a0 hc0
                refine zw_b (by omega) ?_
                have r295 : 0 ≤ (m291 a0 7) ∧ (m291 a0 7) ≤ 700 := zi_rd hIm291 hc0 zb_28_7
                have r296 : 0 ≤ (m291 a0 21) ∧ (m291 a0 21) ≤ 64 := zi_rd hIm291 hc0 zb_28_21
                have e297 : (m291 a0 21) = (m0 a0 21) := (Eq.trans (zfr_ap hfm291 hc0 rfl) (zfr_ap hfm259 hc0 rfl))
                have r298 : 0 ≤ (m291 a0 48) ∧ (m291 a0 48) ≤ 64 := zi_rd hIm291 hc0 zb_28_48
                have e299 : (m291 a0 48) = (m0 a0 48) := (Eq.trans (zfr_ap hfm291 hc0 rfl) (zfr_ap hfm259 hc0 rfl))
                have r300 : (-2147483648) ≤ (m291 a0 4) ∧ (m291 a0 4) ≤ 2147483647 := zi_rd hIm291 hc0 zb_28_4
                exact zw_some ⟨hIm291, hFm291, hRC0m291, hRCRm291, hRKNm291, hRLRm291, hRLTm291, hRNSm291, hRTRm291, hRWDm291, ⟨by omega, by omega⟩, by omega, by omega, by omega⟩
              · exfalso; omega
        · refine zw_b (by omega) ?_
          have r301 : 0 ≤ (m259 a0 7) ∧ (m259 a0 7) ≤ 700 := zi_rd hIm259 hc0 zb_28_7
          have r302 : 0 ≤ (m259 a0 21) ∧ (m259 a0 21) ≤ 64 := zi_rd hIm259 hc0 zb_28_21
          have e303 : (m259 a0 21) = (m0 a0 21) := (zfr_ap hfm259 hc0 rfl)
          have r304 : 0 ≤ (m259 a0 48) ∧ (m259 a0 48) ≤ 64 := zi_rd hIm259 hc0 zb_28_48
          have e305 : (m259 a0 48) = (m0 a0 48) := (zfr_ap hfm259 hc0 rfl)
          have r306 : (-2147483648) ≤ (m259 a0 4) ∧ (m259 a0 4) ≤ 2147483647 := zi_rd hIm259 hc0 zb_28_4
          exact zw_some ⟨hIm259, hFm259, hRC0m259, hRCRm259, hRKNm259, hRLRm259, hRLTm259, hRNSm259, hRTRm259, hRWDm259, ⟨by omega, by omega⟩, by omega, by omega, by omega⟩
    · refine zw_bd (zw_eq (zu_call_at (zt_T n) (zm_85 n) (zdp_85 n) _ _ _ _ _ rfl (zr_85_0 n _ _ a0 1 m0)) ?_)
      generalize hmm307 : zu_up m0 a0 4 1 = m307
      have hIm307 := zi_up hmm307 hIm0 hc0 zb_28_4 (by omega) (by omega)
      have hFm307 := zfr_up hmm307 hFm0 hc0 rfl
      have hRC0m307 := zR_C0_fr (zdis_fr (zfr_up hmm307 (zfr_rf [(28, 5)] _) hc0 rfl) rfl) hRC0m0
      have hRCRm307 := zR_CR_fr (zdis_fr (zfr_up hmm307 (zfr_rf [(28, 5)] _) hc0 rfl) rfl) hRCRm0
      have hRKNm307 := zR_KN_fr (zdis_fr (zfr_up hmm307 (zfr_rf [(28, 5)] _) hc0 rfl) rfl) hRKNm0
      have hRLTm307 := zR_LT_fr (zdis_fr (zfr_up hmm307 (zfr_rf [(28, 5)] _) hc0 rfl) rfl) hRLTm0
      have hRNSm307 := zR_NS_fr (zdis_fr (zfr_up hmm307 (zfr_rf [(28, 5)] _) hc0 rfl) rfl) hRNSm0
      have hRTRm307 := zR_TR_fr (zdis_fr (zfr_up hmm307 (zfr_rf [(28, 5)] _) hc0 rfl) rfl) hRTRm0
      have hRWDm307 := zR_WD_fr (zdis_fr (zfr_up hmm307 (zfr_rf [(28, 5)] _) hc0 rfl) rfl) hRWDm0
      have hRLRm307 := zLR_wr (zone_190 hc0) hmm307 (by decide)
      have r308 : 0 ≤ (m307 a0 10) ∧ (m307 a0 10) ≤ 700 := zi_rd hIm307 hc0 zb_28_10
      generalize hmm309 : zu_up m307 a0 5 (m307 a0 10) = m309
      have hIm309 := zi_up hmm309 hIm307 hc0 zb_28_5 (by omega) (by omega)
      have hFm309 := zfr_up hmm309 hFm307 hc0 rfl
      have hRC0m309 := zR_C0_fr (zdis_fr (zfr_up hmm309 (zfr_rf [(28, 6)] _) hc0 rfl) rfl) hRC0m307
      have hRCRm309 := zR_CR_fr (zdis_fr (zfr_up hmm309 (zfr_rf [(28, 6)] _) hc0 rfl) rfl) hRCRm307
      have hRKNm309 := zR_KN_fr (zdis_fr (zfr_up hmm309 (zfr_rf [(28, 6)] _) hc0 rfl) rfl) hRKNm307
      have hRLRm309 := zR_LR_fr (zdis_fr (zfr_up hmm309 (zfr_rf [(28, 6)] _) hc0 rfl) rfl) hRLRm307
      have hRLTm309 := zR_LT_fr (zdis_fr (zfr_up hmm309 (zfr_rf [(28, 6)] _) hc0 rfl) rfl) hRLTm307
      have hRNSm309 := zR_NS_fr (zdis_fr (zfr_up hmm309 (zfr_rf [(28, 6)] _) hc0 rfl) rfl) hRNSm307
      have hRTRm309 := zR_TR_fr (zdis_fr (zfr_up hmm309 (zfr_rf [(28, 6)] _) hc0 rfl) rfl) hRTRm307
      have hRWDm309 := zR_WD_fr (zdis_fr (zfr_up hmm309 (zfr_rf [(28, 6)] _) hc0 rfl) rfl) hRWDm307
      refine zw_b (by omega) ?_
      refine zw_some ?_
      refine zw_b (by omega) ?_
      have r310 : 0 ≤ (m309 a0 7) ∧ (m309 a0 7) ≤ 700 := zi_rd hIm309 hc0 zb_28_7
      have e311 : (m309 a0 7) = (m0 a0 7) := (Eq.trans (zs_ne hmm309 (Or.inr (by decide))) (zs_ne hmm307 (Or.inr (by decide))))
      have r312 : 0 ≤ (m309 a0 21) ∧ (m309 a0 21) ≤ 64 := zi_rd hIm309 hc0 zb_28_21
      have e313 : (m309 a0 21) = (m0 a0 21) := (Eq.trans (zs_ne hmm309 (Or.inr (by decide))) (zs_ne hmm307 (Or.inr (by decide))))
      have r314 : 0 ≤ (m309 a0 48) ∧ (m309 a0 48) ≤ 64 := zi_rd hIm309 hc0 zb_28_48
      have e315 : (m309 a0 48) = (m0 a0 48) := (Eq.trans (zs_ne hmm309 (Or.inr (by decide))) (zs_ne hmm307 (Or.inr (by decide))))
      have r316 : (-2147483648) ≤ (m309 a0 4) ∧ (m309 a0 4) ≤ 2147483647 := zi_rd hIm309 hc0 zb_28_4
      have e317 : (m309 a0 4) = 1 := (Eq.trans (zs_ne hmm309 (Or.inr (by decide))) (zs_eq hmm307))
      exact zw_some ⟨hIm309, hFm309, hRC0m309, hRCRm309, hRKNm309, hRLRm309, hRLTm309, hRNSm309, hRTRm309, hRWDm309, ⟨by omega, by omega⟩, by omega, by omega, by omega⟩
set_option maxHeartbeats 4000000 in
theorem zk_131 (n : Nat) {a0 a1 a2 a3 : Int} {m0 : zu_m} (hIm0 : zi_I m0) (hc0 : zcls a0 = 28) (ha1 : 0 ≤ a1 ∧ a1 ≤ 1) (ha2 : 0 ≤ a2 ∧ a2 ≤ 3) (ha3 : 0 ≤ a3 ∧ a3 ≤ 17)    (hRKNm0 : zR_KN m0) (hRLTm0 : zR_LT m0) : zw (zu_call (zt_T n) 131 [(40, a0), (0, a1), (0, a2), (0, a3)] m0) (fun v m => zi_I m ∧ zfr [(28, 54), (122, 0), (123, 0)] m0 m ∧ zR_KN m ∧ zR_LT m ∧ ((-2147483648) ≤ v ∧ v ≤ 2147483647)) := by
  have hFm0 : zfr [(28, 54), (122, 0), (123, 0)] m0 m0 := zfr_rf _ _
  refine zw_eq (zu_call_at (zt_T n) (zm_131 n) (zdp_131 n) _ _ _ _ _ rfl (zr_131_0 n _ _ a0 a1 a2 a3 m0)) ?_
  have b1 : 0 ≤ a3 ∧ a3 < 36 := by omega
  refine zw_if b1 ?_
  have r2 : 0 ≤ (m0 198 a3) ∧ (m0 198 a3) ≤ 3 := zi_rd hIm0 zq_198 (zb_107 _)
  have b3 : 0 ≤ a3 ∧ a3 < 36 := by omega
  refine zw_if b3 ?_
  have r4 : 0 ≤ (m0 199 a3) ∧ (m0 199 a3) ≤ 9 := zi_rd hIm0 zq_199 (zb_108 _)
  have b5 : 0 ≤ a3 ∧ a3 < 36 := by omega
  refine zw_if b5 ?_
  have r6 : 0 ≤ (m0 197 a3) ∧ (m0 197 a3) ≤ 47 := zi_rd hIm0 zq_197 (zb_106 _)
  refine zw_bd (zw_mono (zk_130 n hIm0 hc0 ⟨by omega, by omega⟩ ⟨by omega, by omega⟩) (fun v8 m7 hqm7 => ?_))
  obtain ⟨hIm7, hfm7, hvm7⟩ := hqm7
  have hFm7 := zfr_tr hFm0 hfm7 rfl
  have hRKNm7 := zR_KN_fr (zdis_fr hfm7 rfl) hRKNm0
  have hRLTm7 := zR_LT_fr (zdis_fr hfm7 rfl) hRLTm0
  refine zw_bd (zw_mono (zk_129 n hIm7 hc0 ⟨by omega, by omega⟩ ⟨by omega, by omega⟩ ⟨by omega, by omega⟩ ⟨by omega, by omega⟩ ⟨by omega, by omega⟩ hRKNm7 hRLTm7) (fun v10 m9 hqm9 => ?_))
  obtain ⟨hIm9, hfm9, hvm9⟩ := hqm9
  have hFm9 := zfr_tr hFm7 hfm9 rfl
  obtain ⟨hRKNm9, hRLTm9, hvm9⟩ := hvm9
  exact zw_some ⟨hIm9, hFm9, hRKNm9, hRLTm9, ⟨by omega, by omega⟩⟩
set_option maxHeartbeats 4000000 in
theorem zk_138 (n : Nat) {a0 a1 a2 a3 : Int} {m0 : zu_m} (hIm0 : zi_I m0) (hc0 : zcls a0 = 28) (ha1 : 0 ≤ a1 ∧ a1 ≤ 3) (ha2 : 0 ≤ a2 ∧ a2 ≤ 47) (ha3 : (-2147483648) ≤ a3 ∧ a3 ≤ 2147483647)    (hRKNm0 : zR_KN m0) (hRLTm0 : zR_LT m0) : zw (zu_call (zt_T n) 138 [(40, a0), (0, a1), (0, a2), (0, a3)] m0) (fun v m => zi_I m ∧ zfr [(28, 54), (122, 0), (123, 0)] m0 m ∧ zR_KN m ∧ zR_LT m ∧ ((-2147483648) ≤ v ∧ v ≤ 2147483647)) := by
  have hFm0 : zfr [(28, 54), (122, 0), (123, 0)] m0 m0 := zfr_rf _ _
  refine zw_eq (zu_call_at (zt_T n) (zm_138 n) (zdp_138 n) _ _ _ _ _ rfl (zr_138_0 n _ _ a0 a1 a2 a3 m0)) ?_
  refine zw_bd (zw_mono (zk_129 n hIm0 hc0 ⟨by omega, by omega⟩ ⟨by omega, by omega⟩ ⟨by omega, by omega⟩ ⟨by omega, by omega⟩ ⟨by omega, by omega⟩ hRKNm0 hRLTm0) (fun v2 m1 hqm1 => ?_))
  obtain ⟨hIm1, hfm1, hvm1⟩ := hqm1
  have hFm1 := zfr_tr hFm0 hfm1 rfl
  obtain ⟨hRKNm1, hRLTm1, hvm1⟩ := hvm1
  have w3 := zu_w32_rg (100 - v2)
  have w4 := zu_w64_rg (a3 * (zu_w32 (100 - v2)))
  refine zw_nif (by omega) ?_
  have w5 := zu_w64_rg (Int.tdiv (zu_w64 (a3 * (zu_w32 (100 - v2)))) 100)
  have w6 := zu_w32_rg (zu_w64 (Int.tdiv (zu_w64 (a3 * (zu_w32 (100 - v2)))) 100))
  exact zw_some ⟨hIm1, hFm1, hRKNm1, hRLTm1, ⟨by omega, by omega⟩⟩
set_option maxHeartbeats 4000000 in
theorem zl_145 (n : Nat) {a0 a1 a2 : Int} {m0 : zu_m} (hc0 : zcls a0 = 28)   : ∀ k : Nat, (∀ (x3 x4 : Int) (mh : zu_m), zi_I mh → zfr [(28, 3), (28, 54), (122, 0), (123, 0)] m0 mh → (0 ≤ a1 ∧ a1 ≤ 3) → (2 ≤ a2 ∧ a2 ≤ 2) → ((-2147483648) ≤ x3 ∧ x3 ≤ 2147483647) → (0 ≤ x4 ∧ x4 ≤ 16) → (1 ≤ mh a0 15 ∧ mh a0 15 ≤ 4) → (0 ≤ mh a0 2 ∧ mh a0 2 ≤ 0) → (zR_KN mh) → (zR_LT mh) → (16 - x4) * 1 + 17 < (k : Int) → zw (zu_ex (zt_T n) 145 69 [(40, a0), (0, a1), (0, a2), (0, x3), (0, x4)] [] mh) (fun v m => zi_I m ∧ zfr [(28, 3), (28, 54), (122, 0), (123, 0)] m0 m ∧ zR_KN m ∧ zR_LT m ∧ ((-2147483648) ≤ v ∧ v ≤ 2147483647) ∧ (0 ≤ m a0 2 ∧ m a0 2 ≤ 0))) ∧ (∀ (x3 x4 : Int) (mh : zu_m), zi_I mh → zfr [(28, 3), (28, 54), (122, 0), (123, 0)] m0 mh → (0 ≤ a1 ∧ a1 ≤ 3) → (4 ≤ a2 ∧ a2 ≤ 4) → ((-2147483648) ≤ x3 ∧ x3 ≤ 2147483647) → (0 ≤ x4 ∧ x4 ≤ 16) → (1 ≤ mh a0 15 ∧ mh a0 15 ≤ 4) → (0 ≤ mh a0 2 ∧ mh a0 2 ≤ 0) → (zR_KN mh) → (zR_LT mh) → (16 - x4) * 1 + 0 < (k : Int) → zw (zu_ex (zt_T n) 145 120 [(40, a0), (0, a1), (0, a2), (0, x3), (0, x4)] [] mh) (fun v m => zi_I m ∧ zfr [(28, 3), (28, 54), (122, 0), (123, 0)] m0 m ∧ zR_KN m ∧ zR_LT m ∧ ((-2147483648) ≤ v ∧ v ≤ 2147483647) ∧ (0 ≤ m a0 2 ∧ m a0 2 ≤ 0))) := by
  intro k
  induction k with
  | zero => exact ⟨fun x3 x4 mh hImh hFmh hba1 hba2 hbx3 hbx4 hg4 hg5 hRKNmh hRLTmh hM => by exfalso; omega, fun x3 x4 mh hImh hFmh hba1 hba2 hbx3 hbx4 hg4 hg5 hRKNmh hRLTmh hM => by exfalso; omega⟩
  | succ k ih =>
    refine ⟨?_, ?_⟩
    · intro x3 x4 mh hImh hFmh hba1 hba2 hbx3 hbx4 hg4 hg5 hRKNmh hRLTmh hM
      refine zw_eq (zu_rega_at (zt_T n) (zm_145 n) (zdp_145 n) _ _ _ _ _ _ (zr_145_69 n _ _ a0 a1 a2 x3 x4 mh)) ?_
      have b1 : 0 ≤ (0 : Int) ∧ (0 : Int) < 2 := by omega
      refine zw_if b1 ?_
      have r2 : 0 ≤ (mh 216 0) ∧ (mh 216 0) ≤ 16 := zi_rdr (m := 2) (r0 := 0) (r1 := 0) hImh zq_216 (by omega) (by decide +kernel)
      refine zw_ite (fun h3 => ?_) (fun h3 => ?_)
      · exact zw_some ⟨hImh, hFmh, hRKNmh, hRLTmh, ⟨by omega, by omega⟩, ⟨by omega, by omega⟩⟩
      · have b4 : 0 ≤ x4 ∧ x4 < 36 := by omega
        refine zw_if b4 ?_
        have r5 : (-3) ≤ (mh 215 x4) ∧ (mh 215 x4) ≤ 3 := zi_rd hImh zq_215 (zb_124 _)
        refine zw_ite (fun h6 => ?_) (fun h6 => ?_)
        · have b7 := zu_i32_rg 4 x3 0
          have w8 := zu_w32_id (z := x4 + 1) (by omega) (by omega)
          have hM : (16 - (zu_w32 (x4 + 1))) * 1 + 17 < (k : Int) := by omega
          exact ih.1 (zu_i32 4 x3 0) (zu_w32 (x4 + 1)) mh hImh hFmh ⟨by omega, by omega⟩ ⟨by omega, by omega⟩ ⟨by omega, by omega⟩ ⟨by omega, by omega⟩ ⟨by omega, by omega⟩ ⟨by omega, by omega⟩ hRKNmh hRLTmh hM
        · have b9 := zu_i32_rg 5 1 x4
          have b10 := zu_i32_rg 4 x3 (zu_i32 5 1 x4)
          have w11 := zu_w32_id (z := x4 + 1) (by omega) (by omega)
          have hM : (16 - (zu_w32 (x4 + 1))) * 1 + 17 < (k : Int) := by omega
          exact ih.1 (zu_i32 4 x3 (zu_i32 5 1 x4)) (zu_w32 (x4 + 1)) mh hImh hFmh ⟨by omega, by omega⟩ ⟨by omega, by omega⟩ ⟨by omega, by omega⟩ ⟨by omega, by omega⟩ ⟨by omega, by omega⟩ ⟨by omega, by omega⟩ hRKNmh hRLTmh hM
    · intro x3 x4 mh hImh hFmh hba1 hba2 hbx3 hbx4 hg4 hg5 hRKNmh hRLTmh hM
      refine zw_eq (zu_rega_at (zt_T n) (zm_145 n) (zdp_145 n) _ _ _ _ _ _ (zr_145_120 n _ _ a0 a1 a2 x3 x4 mh)) ?_
      have b12 : 0 ≤ (0 : Int) ∧ (0 : Int) < 2 := by omega
      refine zw_if b12 ?_
      have r13 : 0 ≤ (mh 216 0) ∧ (mh 216 0) ≤ 16 := zi_rdr (m := 2) (r0 := 0) (r1 := 0) hImh zq_216 (by omega) (by decide +kernel)
      refine zw_ite (fun h14 => ?_) (fun h14 => ?_)
      · exact zw_some ⟨hImh, hFmh, hRKNmh, hRLTmh, ⟨by omega, by omega⟩, ⟨by omega, by omega⟩⟩
      · have b15 : 0 ≤ x4 ∧ x4 < 36 := by omega
        refine zw_if b15 ?_
        have r16 : (-3) ≤ (mh 215 x4) ∧ (mh 215 x4) ≤ 3 := zi_rd hImh zq_215 (zb_124 _)
        refine zw_ite (fun h17 => ?_) (fun h17 => ?_)
        · have w18 := zu_w32_id (z := x3 + 0) (by omega) (by omega)
          have w19 := zu_w32_id (z := x4 + 1) (by omega) (by omega)
          have hM : (16 - (zu_w32 (x4 + 1))) * 1 + 0 < (k : Int) := by omega
          exact ih.2 (zu_w32 (x3 + 0)) (zu_w32 (x4 + 1)) mh hImh hFmh ⟨by omega, by omega⟩ ⟨by omega, by omega⟩ ⟨by omega, by omega⟩ ⟨by omega, by omega⟩ ⟨by omega, by omega⟩ ⟨by omega, by omega⟩ hRKNmh hRLTmh hM
        · refine zw_bd (zw_mono (zk_132 n hImh hc0 ⟨by omega, by omega⟩ ⟨by omega, by omega⟩ hRKNmh hRLTmh) (fun v21 m20 hqm20 => ?_))
          obtain ⟨hIm20, hfm20, hvm20⟩ := hqm20
          have hFm20 := zfr_tr hFmh hfm20 rfl
          obtain ⟨hRKNm20, hRLTm20, hvm20⟩ := hvm20
          have w22 := zu_w32_rg (x3 + v21)
          have w23 := zu_w32_id (z := x4 + 1) (by omega) (by omega)
          have r24 : (-2147483648) ≤ (m20 a0 2) ∧ (m20 a0 2) ≤ 2147483647 := zi_rd hIm20 hc0 zb_28_2
          have e25 : (m20 a0 2) = (mh a0 2) := (zfr_ap hfm20 hc0 rfl)
          have r26 : 0 ≤ (m20 a0 15) ∧ (m20 a0 15) ≤ 4 := zi_rd hIm20 hc0 zb_28_15
          have e27 : (m20 a0 15) = (mh a0 15) := (zfr_ap hfm20 hc0 rfl)
          have hM : (16 - (zu_w32 (x4 + 1))) * 1 + 0 < (k : Int) := by omega
          exact ih.2 (zu_w32 (x3 + v21)) (zu_w32 (x4 + 1)) m20 hIm20 hFm20 ⟨by omega, by omega⟩ ⟨by omega, by omega⟩ ⟨by omega, by omega⟩ ⟨by omega, by omega⟩ ⟨by omega, by omega⟩ ⟨by omega, by omega⟩ hRKNm20 hRLTm20 hM
set_option maxHeartbeats 4000000 in
theorem zk_145 (n : Nat) {a0 a1 a2 : Int} {m0 : zu_m} (hIm0 : zi_I m0) (hc0 : zcls a0 = 28) (ha1 : (-2147483648) ≤ a1 ∧ a1 ≤ 2147483647) (ha2 : (-2147483648) ≤ a2 ∧ a2 ≤ 2147483647)    (hRKNm0 : zR_KN m0) (hRLTm0 : zR_LT m0) : zw (zu_call (zt_T n) 145 [(40, a0), (0, a1), (0, a2)] m0) (fun v m => zi_I m ∧ zfr [(28, 3), (28, 54), (122, 0), (123, 0)] m0 m ∧ zR_KN m ∧ zR_LT m ∧ ((-2147483648) ≤ v ∧ v ≤ 2147483647) ∧ (0 ≤ m a0 2 ∧ m a0 2 ≤ 0)) := by
  have hFm0 : zfr [(28, 3), (28, 54), (122, 0), (123, 0)] m0 m0 := zfr_rf _ _
  refine zw_eq (zu_call_at (zt_T n) (zm_145 n) (zdp_145 n) _ _ _ _ _ rfl (zr_145_0 n _ _ a0 a1 a2 m0)) ?_
  generalize hmm28 : zu_up m0 a0 2 0 = m28
  have hIm28 := zi_up hmm28 hIm0 hc0 zb_28_2 (by omega) (by omega)
  have hFm28 := zfr_up hmm28 hFm0 hc0 rfl
  have hRKNm28 := zR_KN_fr (zdis_fr (zfr_up hmm28 (zfr_rf [(28, 3)] _) hc0 rfl) rfl) hRKNm0
  have hRLTm28 := zR_LT_fr (zdis_fr (zfr_up hmm28 (zfr_rf [(28, 3)] _) hc0 rfl) rfl) hRLTm0
  refine zw_bd (zw_eq (zu_call_at (zt_T n) (zm_125 n) (zdp_125 n) _ _ _ _ _ rfl (zr_125_0 n _ _ a0 a1 m28)) ?_)
  refine zw_ite (fun h29 => ?_) (fun h29 => ?_)
  · refine zw_b (by omega) ?_
    refine zw_some ?_
    refine zw_ite (fun h30 => ?_) (fun h30 => ?_)
    · exfalso; omega
    · have r31 : (-2147483648) ≤ (m28 a0 2) ∧ (m28 a0 2) ≤ 2147483647 := zi_rd hIm28 hc0 zb_28_2
      have e32 : (m28 a0 2) = 0 := (zs_eq hmm28)
      exact zw_some ⟨hIm28, hFm28, hRKNm28, hRLTm28, ⟨by omega, by omega⟩, ⟨by omega, by omega⟩⟩
  · have r33 : 0 ≤ (m28 a0 15) ∧ (m28 a0 15) ≤ 4 := zi_rd hIm28 hc0 zb_28_15
    refine zw_ite (fun h34 => ?_) (fun h34 => ?_)
    · refine zw_b (by omega) ?_
      refine zw_some ?_
      refine zw_ite (fun h35 => ?_) (fun h35 => ?_)
      · exfalso; omega
      · have r36 : (-2147483648) ≤ (m28 a0 2) ∧ (m28 a0 2) ≤ 2147483647 := zi_rd hIm28 hc0 zb_28_2
        have e37 : (m28 a0 2) = 0 := (zs_eq hmm28)
        exact zw_some ⟨hIm28, hFm28, hRKNm28, hRLTm28, ⟨by omega, by omega⟩, ⟨by omega, by omega⟩⟩
    · refine zw_b (by omega) ?_
      refine zw_some ?_
      refine zw_ite (fun h38 => ?_) (fun h38 => ?_)
      · refine zw_ite (fun h39 => ?_) (fun h39 => ?_)
        · have b40 : 0 ≤ a1 ∧ a1 < 8 := by omega
          refine zw_if b40 ?_
          have r41 : 0 ≤ (m28 217 a1) ∧ (m28 217 a1) ≤ 47 := zi_rd hIm28 zq_217 (zb_126 _)
          have r42 : (-2147483648) ≤ (m28 a0 2) ∧ (m28 a0 2) ≤ 2147483647 := zi_rd hIm28 hc0 zb_28_2
          have e43 : (m28 a0 2) = 0 := (zs_eq hmm28)
          exact zw_some ⟨hIm28, hFm28, hRKNm28, hRLTm28, ⟨by omega, by omega⟩, ⟨by omega, by omega⟩⟩
        · refine zw_ite (fun h44 => ?_) (fun h44 => ?_)
          · refine zw_bd (zw_mono (zk_130 n hIm28 hc0 ⟨by omega, by omega⟩ ⟨by omega, by omega⟩) (fun v46 m45 hqm45 => ?_))
            obtain ⟨hIm45, hfm45, hvm45⟩ := hqm45
            have hFm45 := zfr_tr hFm28 hfm45 rfl
            have hRKNm45 := zR_KN_fr (zdis_fr hfm45 rfl) hRKNm28
            have hRLTm45 := zR_LT_fr (zdis_fr hfm45 rfl) hRLTm28
            have r47 : (-2147483648) ≤ (m45 a0 2) ∧ (m45 a0 2) ≤ 2147483647 := zi_rd hIm45 hc0 zb_28_2
            have e48 : (m45 a0 2) = 0 := (Eq.trans (zfr_ap hfm45 hc0 rfl) (zs_eq hmm28))
            exact zw_some ⟨hIm45, hFm45, hRKNm45, hRLTm45, ⟨by omega, by omega⟩, ⟨by omega, by omega⟩⟩
          · refine zw_ite (fun h49 => ?_) (fun h49 => ?_)
            · have r50 : (-2147483648) ≤ (m28 a0 2) ∧ (m28 a0 2) ≤ 2147483647 := zi_rd hIm28 hc0 zb_28_2
              have e51 : (m28 a0 2) = 0 := (zs_eq hmm28)
              have hM : (16 - 0) * 1 + 17 < ((34 : Nat) : Int) := by omega
              exact (zl_145 n (m0 := m0) hc0 34).1 0 0 m28 hIm28 hFm28 ⟨by omega, by omega⟩ ⟨by omega, by omega⟩ ⟨by omega, by omega⟩ ⟨by omega, by omega⟩ ⟨by omega, by omega⟩ ⟨by omega, by omega⟩ hRKNm28 hRLTm28 hM
            · refine zw_ite (fun h52 => ?_) (fun h52 => ?_)
              · have b53 : 0 ≤ a1 ∧ a1 < 4 := by omega
                refine zw_if b53 ?_
                have r54 : (-2147483648) ≤ (m28 219 a1) ∧ (m28 219 a1) ≤ 2147483647 := zi_rd hIm28 zq_219 (zb_128 _)
                have r55 : (-2147483648) ≤ (m28 a0 2) ∧ (m28 a0 2) ≤ 2147483647 := zi_rd hIm28 hc0 zb_28_2
                have e56 : (m28 a0 2) = 0 := (zs_eq hmm28)
                exact zw_some ⟨hIm28, hFm28, hRKNm28, hRLTm28, ⟨by omega, by omega⟩, ⟨by omega, by omega⟩⟩
              · refine zw_ite (fun h57 => ?_) (fun h57 => ?_)
                · have r58 : (-2147483648) ≤ (m28 a0 2) ∧ (m28 a0 2) ≤ 2147483647 := zi_rd hIm28 hc0 zb_28_2
                  have e59 : (m28 a0 2) = 0 := (zs_eq hmm28)
                  have hM : (16 - 0) * 1 + 0 < ((34 : Nat) : Int) := by omega
                  exact (zl_145 n (m0 := m0) hc0 34).2 0 0 m28 hIm28 hFm28 ⟨by omega, by omega⟩ ⟨by omega, by omega⟩ ⟨by omega, by omega⟩ ⟨by omega, by omega⟩ ⟨by omega, by omega⟩ ⟨by omega, by omega⟩ hRKNm28 hRLTm28 hM
                · have r60 : (-2147483648) ≤ (m28 a0 2) ∧ (m28 a0 2) ≤ 2147483647 := zi_rd hIm28 hc0 zb_28_2
                  have e61 : (m28 a0 2) = 0 := (zs_eq hmm28)
                  exact zw_some ⟨hIm28, hFm28, hRKNm28, hRLTm28, ⟨by omega, by omega⟩, ⟨by omega, by omega⟩⟩
      · exfalso; omega
set_option maxHeartbeats 4000000 in
theorem zl_172 (n : Nat) {a0 a1 : Int} {m0 : zu_m} (hc0 : zcls a0 = 28)   : ∀ k : Nat, (∀ (x2 x4 x6 : Int) (mh : zu_m), zi_I mh → zfr [(28, 3), (28, 54), (122, 0), (123, 0)] m0 mh → ((-2147483648) ≤ a1 ∧ a1 ≤ 2147483647) → (0 ≤ x2 ∧ x2 ≤ 47952) → (0 ≤ x4 ∧ x4 ≤ 47904048) → (0 ≤ x6 ∧ x6 ≤ 48) → (0 ≤ mh a0 2 ∧ mh a0 2 ≤ 0) → (x2 ≤ 999 * x6) → (x4 ≤ 998001 * x6) → (zR_KN mh) → (zR_LT mh) → (48 - x6) * 1 + 9223372036854775808 < (k : Int) → zw (zu_ex (zt_T n) 172 13 [(40, a0), (0, a1), (1, x2), (2, 0), (1, x4), (2, 0), (0, x6), (2, 0), (2, 0), (2, 0), (2, 0), (2, 0)] [] mh) (fun v m => zi_I m ∧ zfr [(28, 3), (28, 54), (122, 0), (123, 0)] m0 m ∧ zR_KN m ∧ zR_LT m ∧ ((-9223372036854775808) ≤ v ∧ v ≤ 9223372036854775807) ∧ (0 ≤ m a0 2 ∧ m a0 2 ≤ 0))) ∧ (∀ (x2 x4 x6 x8 : Int) (mh : zu_m), zi_I mh → zfr [(28, 3), (28, 54), (122, 0), (123, 0)] m0 mh → (0 ≤ a1 ∧ a1 ≤ 1) → (1 ≤ x2 ∧ x2 ≤ 47952) → (0 ≤ x4 ∧ x4 ≤ 47904048) → (0 ≤ x6 ∧ x6 ≤ 9223372036854775807) → (0 ≤ x8 ∧ x8 ≤ 2299394304) → (0 ≤ mh a0 2 ∧ mh a0 2 ≤ 0) → (x8 ≠ 0 ∨ x6 ≠ 0) → (zR_KN mh) → (zR_LT mh) → x8 * 1 + 0 < (k : Int) → zw (zu_ex (zt_T n) 172 80 [(40, a0), (0, a1), (1, x2), (2, 0), (1, x4), (2, 0), (1, x6), (2, 0), (1, x8), (2, 0), (2, 0), (2, 0)] [] mh) (fun v m => zi_I m ∧ zfr [(28, 3), (28, 54), (122, 0), (123, 0)] m0 m ∧ zR_KN m ∧ zR_LT m ∧ ((-9223372036854775808) ≤ v ∧ v ≤ 9223372036854775807) ∧ (0 ≤ m a0 2 ∧ m a0 2 ≤ 0))) := by
  intro k
  induction k with
  | zero => exact ⟨fun x2 x4 x6 mh hImh hFmh hba1 hbx2 hbx4 hbx6 hg4 hH0 hH1 hRKNmh hRLTmh hM => by exfalso; omega, fun x2 x4 x6 x8 mh hImh hFmh hba1 hbx2 hbx4 hbx6 hbx8 hg5 hH0 hRKNmh hRLTmh hM => by exfalso; omega⟩
  | succ k ih =>
    refine ⟨?_, ?_⟩
    · intro x2 x4 x6 mh hImh hFmh hba1 hbx2 hbx4 hbx6 hg4 hH0 hH1 hRKNmh hRLTmh hM
      refine zw_eq (zu_rega_at (zt_T n) (zm_172 n) (zdp_172 n) _ _ _ _ _ _ (zr_172_13 n _ _ a0 a1 x2 x4 x6 mh)) ?_
      refine zw_bd (zw_eq (zu_call_at (zt_T n) (zm_36 n) (zdp_36 n) _ _ _ _ _ rfl (zr_36_0 n _ _ a0 mh)) ?_)
      have r1 : 1 ≤ (mh a0 12) ∧ (mh a0 12) ≤ 8 := zi_rd hImh hc0 zb_28_12
      have r2 : 1 ≤ (mh a0 13) ∧ (mh a0 13) ≤ 6 := zi_rd hImh hc0 zb_28_13
      have p3 := zmul_bd (x := (mh a0 12)) (y := (mh a0 13)) (a := 1) (b := 1) (A := 8) (B := 6) (by omega) (by omega) (by omega) (by omega) (by omega) (by omega)
      have w4 := zu_w32_id (z := (mh a0 12) * (mh a0 13)) (by omega) (by omega)
      refine zw_some ?_
      refine zw_ite (fun h5 => ?_) (fun h5 => ?_)
      · refine zw_bd (zw_eq (zu_call_at (zt_T n) (zm_83 n) (zdp_83 n) _ _ _ _ _ rfl (zr_83_0 n _ _ a1 0 1 mh)) ?_)
        refine zw_ite (fun h6 => ?_) (fun h6 => ?_)
        · refine zw_b (by omega) ?_
          refine zw_some ?_
          refine zw_ite (fun h7 => ?_) (fun h7 => ?_)
          · exact zw_some ⟨hImh, hFmh, hRKNmh, hRLTmh, ⟨by omega, by omega⟩, ⟨by omega, by omega⟩⟩
          · exfalso; omega
        · refine zw_ite (fun h8 => ?_) (fun h8 => ?_)
          · refine zw_b (by omega) ?_
            refine zw_some ?_
            refine zw_ite (fun h9 => ?_) (fun h9 => ?_)
            · exact zw_some ⟨hImh, hFmh, hRKNmh, hRLTmh, ⟨by omega, by omega⟩, ⟨by omega, by omega⟩⟩
            · exfalso; omega
          · refine zw_b (by omega) ?_
            refine zw_some ?_
            refine zw_ite (fun h10 => ?_) (fun h10 => ?_)
            · exfalso; omega
            · have c11 := zu_lcmp_sp x2 0
              refine zw_ite (fun h12 => ?_) (fun h12 => ?_)
              · have p13 := zmul_bd (x := x2) (y := x2) (a := 1) (b := 1) (A := 47952) (B := 47952) (by omega) (by omega) (by omega) (by omega) (by omega) (by omega)
                have w14 := zu_w64_id (z := x2 * x2) (by omega) (by omega)
                have hM : (zu_w64 (x2 * x2)) * 1 + 0 < (k : Int) := by omega
                exact ih.2 x2 x4 x4 (zu_w64 (x2 * x2)) mh hImh hFmh ⟨by omega, by omega⟩ ⟨by omega, by omega⟩ ⟨by omega, by omega⟩ ⟨by omega, by omega⟩ ⟨by omega, by omega⟩ ⟨by omega, by omega⟩ (by omega) hRKNmh hRLTmh hM
              · exact zw_some ⟨hImh, hFmh, hRKNmh, hRLTmh, ⟨by omega, by omega⟩, ⟨by omega, by omega⟩⟩
      · refine zw_bd (zw_mono (zk_37 n hImh hc0 ⟨by omega, by omega⟩ hRKNmh hRLTmh) (fun v16 m15 hqm15 => ?_))
        obtain ⟨hIm15, hfm15, hvm15⟩ := hqm15
        have hFm15 := zfr_tr hFmh hfm15 rfl
        obtain ⟨hRKNm15, hRLTm15, hvm15⟩ := hvm15
        have w17 := zu_w64_id (z := x2 + v16) (by omega) (by omega)
        have w18 := zu_w64_rg (v16 * v16)
        have w19 := zu_w64_rg (x4 + (zu_w64 (v16 * v16)))
        have w20 := zu_w32_id (z := x6 + 1) (by omega) (by omega)
        have r21 : (-2147483648) ≤ (m15 a0 2) ∧ (m15 a0 2) ≤ 2147483647 := zi_rd hIm15 hc0 zb_28_2
        have e22 : (m15 a0 2) = (mh a0 2) := (zfr_ap hfm15 hc0 rfl)
        have hM : (48 - (zu_w32 (x6 + 1))) * 1 + 9223372036854775808 < (k : Int) := by omega
        exact zw_le (zu_forget (zu_lr_same (zu_lr_same (zu_lr_same (zu_lr_same (zu_lr_same (zu_lr_same (zu_lr_same (zu_lr_drop (zu_lr_same (zu_lr_same (zu_lr_same (zu_lr_same zu_lr_nil))))))))))))) (ih.1 (zu_w64 (x2 + v16)) (zu_w64 (x4 + (zu_w64 (v16 * v16)))) (zu_w32 (x6 + 1)) m15 hIm15 hFm15 ⟨by omega, by omega⟩ ⟨by omega, by omega⟩ ⟨by omega, by omega⟩ ⟨by omega, by omega⟩ ⟨by omega, by omega⟩ (by omega) (by omega) hRKNm15 hRLTm15 hM)
    · intro x2 x4 x6 x8 mh hImh hFmh hba1 hbx2 hbx4 hbx6 hbx8 hg5 hH0 hRKNmh hRLTmh hM
      refine zw_eq (zu_rega_at (zt_T n) (zm_172 n) (zdp_172 n) _ _ _ _ _ _ (zr_172_80 n _ _ a0 a1 x2 x4 x6 x8 mh)) ?_
      have c23 := zu_lcmp_sp x8 0
      refine zw_ite (fun h24 => ?_) (fun h24 => ?_)
      · refine zw_ite (fun h25 => ?_) (fun h25 => ?_)
        · have p26 := zmul_bd (x := x2) (y := x2) (a := 1) (b := 1) (A := 47952) (B := 47952) (by omega) (by omega) (by omega) (by omega) (by omega) (by omega)
          have w27 := zu_w64_id (z := x2 * x2) (by omega) (by omega)
          refine zw_nif (by omega) ?_
          have w28 := zu_w64_rg (Int.tdiv (zu_w64 (x2 * x2)) x6)
          exact zw_some ⟨hImh, hFmh, hRKNmh, hRLTmh, ⟨by omega, by omega⟩, ⟨by omega, by omega⟩⟩
        · refine zw_nif (by omega) ?_
          have w29 := zu_w64_rg (Int.tdiv x4 x6)
          exact zw_some ⟨hImh, hFmh, hRKNmh, hRLTmh, ⟨by omega, by omega⟩, ⟨by omega, by omega⟩⟩
      · refine zw_nif (by omega) ?_
        have d30 := ztmod_bd (x := x6) (y := x8) (by omega) (by omega)
        have hM : (Int.tmod x6 x8) * 1 + 0 < (k : Int) := by omega
        exact zw_le (zu_forget (zu_lr_same (zu_lr_same (zu_lr_same (zu_lr_same (zu_lr_same (zu_lr_same (zu_lr_same (zu_lr_same (zu_lr_same (zu_lr_same (zu_lr_drop (zu_lr_same zu_lr_nil))))))))))))) (ih.2 x2 x4 x8 (Int.tmod x6 x8) mh hImh hFmh ⟨by omega, by omega⟩ ⟨by omega, by omega⟩ ⟨by omega, by omega⟩ ⟨by omega, by omega⟩ ⟨by omega, by omega⟩ ⟨by omega, by omega⟩ (by omega) hRKNmh hRLTmh hM)
set_option maxHeartbeats 4000000 in
theorem zk_172 (n : Nat) {a0 a1 : Int} {m0 : zu_m} (hIm0 : zi_I m0) (hc0 : zcls a0 = 28) (ha1 : (-2147483648) ≤ a1 ∧ a1 ≤ 2147483647)    (hRKNm0 : zR_KN m0) (hRLTm0 : zR_LT m0) : zw (zu_call (zt_T n) 172 [(40, a0), (0, a1)] m0) (fun v m => zi_I m ∧ zfr [(28, 3), (28, 54), (122, 0), (123, 0)] m0 m ∧ zR_KN m ∧ zR_LT m ∧ ((-9223372036854775808) ≤ v ∧ v ≤ 9223372036854775807) ∧ (0 ≤ m a0 2 ∧ m a0 2 ≤ 0)) := by
  have hFm0 : zfr [(28, 3), (28, 54), (122, 0), (123, 0)] m0 m0 := zfr_rf _ _
  refine zw_eq (zu_call_at (zt_T n) (zm_172 n) (zdp_172 n) _ _ _ _ _ rfl (zr_172_0 n _ _ a0 a1 m0)) ?_
  generalize hmm31 : zu_up m0 a0 2 0 = m31
  have hIm31 := zi_up hmm31 hIm0 hc0 zb_28_2 (by omega) (by omega)
  have hFm31 := zfr_up hmm31 hFm0 hc0 rfl
  have hRKNm31 := zR_KN_fr (zdis_fr (zfr_up hmm31 (zfr_rf [(28, 3)] _) hc0 rfl) rfl) hRKNm0
  have hRLTm31 := zR_LT_fr (zdis_fr (zfr_up hmm31 (zfr_rf [(28, 3)] _) hc0 rfl) rfl) hRLTm0
  have r32 : (-2147483648) ≤ (m31 a0 2) ∧ (m31 a0 2) ≤ 2147483647 := zi_rd hIm31 hc0 zb_28_2
  have e33 : (m31 a0 2) = 0 := (zs_eq hmm31)
  have hM : (48 - 0) * 1 + 9223372036854775808 < ((9223372036854775857 : Nat) : Int) := by omega
  exact (zl_172 n (m0 := m0) hc0 9223372036854775857).1 0 0 0 m31 hIm31 hFm31 ⟨by omega, by omega⟩ ⟨by omega, by omega⟩ ⟨by omega, by omega⟩ ⟨by omega, by omega⟩ ⟨by omega, by omega⟩ (by omega) (by omega) hRKNm31 hRLTm31 hM
set_option maxHeartbeats 4000000 in
theorem zl_173 (n : Nat) {a0 : Int} {m0 : zu_m} (hc0 : zcls a0 = 28)   : ∀ k : Nat, (∀ (x1 x2 : Int) (mh : zu_m), zi_I mh → zfr [(28, 3), (28, 54), (122, 0), (123, 0)] m0 mh → ((-2147483648) ≤ x1 ∧ x1 ≤ 2147483647) → (0 ≤ x2 ∧ x2 ≤ 16) → (0 ≤ mh a0 2 ∧ mh a0 2 ≤ 0) → (zR_KN mh) → (zR_LT mh) → (16 - x2) * 1 + 0 < (k : Int) → zw (zu_ex (zt_T n) 173 9 [(40, a0), (0, x1), (0, x2)] [] mh) (fun v m => zi_I m ∧ zfr [(28, 3), (28, 54), (122, 0), (123, 0)] m0 m ∧ zR_KN m ∧ zR_LT m ∧ ((-2147483648) ≤ v ∧ v ≤ 2147483647) ∧ (0 ≤ m a0 2 ∧ m a0 2 ≤ 0))) := by
  intro k
  induction k with
  | zero => exact fun x1 x2 mh hImh hFmh hbx1 hbx2 hg2 hRKNmh hRLTmh hM => by exfalso; omega
  | succ k ih =>
    intro x1 x2 mh hImh hFmh hbx1 hbx2 hg2 hRKNmh hRLTmh hM
    refine zw_eq (zu_rega_at (zt_T n) (zm_173 n) (zdp_173 n) _ _ _ _ _ _ (zr_173_9 n _ _ a0 x1 x2 mh)) ?_
    have b1 : 0 ≤ (0 : Int) ∧ (0 : Int) < 2 := by omega
    refine zw_if b1 ?_
    have r2 : 0 ≤ (mh 216 0) ∧ (mh 216 0) ≤ 16 := zi_rdr (m := 2) (r0 := 0) (r1 := 0) hImh zq_216 (by omega) (by decide +kernel)
    refine zw_ite (fun h3 => ?_) (fun h3 => ?_)
    · exact zw_some ⟨hImh, hFmh, hRKNmh, hRLTmh, ⟨by omega, by omega⟩, ⟨by omega, by omega⟩⟩
    · have b4 : 0 ≤ x2 ∧ x2 < 36 := by omega
      refine zw_if b4 ?_
      have r5 : (-3) ≤ (mh 215 x2) ∧ (mh 215 x2) ≤ 3 := zi_rd hImh zq_215 (zb_124 _)
      refine zw_ite (fun h6 => ?_) (fun h6 => ?_)
      · have w7 := zu_w32_id (z := x1 + 0) (by omega) (by omega)
        have w8 := zu_w32_id (z := x2 + 1) (by omega) (by omega)
        have hM : (16 - (zu_w32 (x2 + 1))) * 1 + 0 < (k : Int) := by omega
        exact ih (zu_w32 (x1 + 0)) (zu_w32 (x2 + 1)) mh hImh hFmh ⟨by omega, by omega⟩ ⟨by omega, by omega⟩ ⟨by omega, by omega⟩ hRKNmh hRLTmh hM
      · refine zw_bd (zw_mono (zk_133 n hImh hc0 ⟨by omega, by omega⟩ hRKNmh hRLTmh) (fun v10 m9 hqm9 => ?_))
        obtain ⟨hIm9, hfm9, hvm9⟩ := hqm9
        have hFm9 := zfr_tr hFmh hfm9 rfl
        obtain ⟨hRKNm9, hRLTm9, hvm9⟩ := hvm9
        have w11 := zu_w32_rg (100 - v10)
        have w12 := zu_w32_rg (x1 + (zu_w32 (100 - v10)))
        have w13 := zu_w32_id (z := x2 + 1) (by omega) (by omega)
        have r14 : (-2147483648) ≤ (m9 a0 2) ∧ (m9 a0 2) ≤ 2147483647 := zi_rd hIm9 hc0 zb_28_2
        have e15 : (m9 a0 2) = (mh a0 2) := (zfr_ap hfm9 hc0 rfl)
        have hM : (16 - (zu_w32 (x2 + 1))) * 1 + 0 < (k : Int) := by omega
        exact ih (zu_w32 (x1 + (zu_w32 (100 - v10)))) (zu_w32 (x2 + 1)) m9 hIm9 hFm9 ⟨by omega, by omega⟩ ⟨by omega, by omega⟩ ⟨by omega, by omega⟩ hRKNm9 hRLTm9 hM
set_option maxHeartbeats 4000000 in
theorem zk_173 (n : Nat) {a0 : Int} {m0 : zu_m} (hIm0 : zi_I m0) (hc0 : zcls a0 = 28)     (hRKNm0 : zR_KN m0) (hRLTm0 : zR_LT m0) : zw (zu_call (zt_T n) 173 [(40, a0)] m0) (fun v m => zi_I m ∧ zfr [(28, 3), (28, 54), (122, 0), (123, 0)] m0 m ∧ zR_KN m ∧ zR_LT m ∧ ((-2147483648) ≤ v ∧ v ≤ 2147483647) ∧ (0 ≤ m a0 2 ∧ m a0 2 ≤ 0)) := by
  have hFm0 : zfr [(28, 3), (28, 54), (122, 0), (123, 0)] m0 m0 := zfr_rf _ _
  refine zw_eq (zu_call_at (zt_T n) (zm_173 n) (zdp_173 n) _ _ _ _ _ rfl (zr_173_0 n _ _ a0 m0)) ?_
  generalize hmm16 : zu_up m0 a0 2 0 = m16
  have hIm16 := zi_up hmm16 hIm0 hc0 zb_28_2 (by omega) (by omega)
  have hFm16 := zfr_up hmm16 hFm0 hc0 rfl
  have hRKNm16 := zR_KN_fr (zdis_fr (zfr_up hmm16 (zfr_rf [(28, 3)] _) hc0 rfl) rfl) hRKNm0
  have hRLTm16 := zR_LT_fr (zdis_fr (zfr_up hmm16 (zfr_rf [(28, 3)] _) hc0 rfl) rfl) hRLTm0
  have r17 : (-2147483648) ≤ (m16 a0 2) ∧ (m16 a0 2) ≤ 2147483647 := zi_rd hIm16 hc0 zb_28_2
  have e18 : (m16 a0 2) = 0 := (zs_eq hmm16)
  have hM : (16 - 0) * 1 + 0 < ((17 : Nat) : Int) := by omega
  exact (zl_173 n (m0 := m0) hc0 17) 0 0 m16 hIm16 hFm16 ⟨by omega, by omega⟩ ⟨by omega, by omega⟩ ⟨by omega, by omega⟩ hRKNm16 hRLTm16 hM
set_option maxHeartbeats 4000000 in
theorem zk_174 (n : Nat) {a0 a1 a2 : Int} {m0 : zu_m} (hIm0 : zi_I m0) (hc0 : zcls a0 = 28) (ha1 : (-2147483648) ≤ a1 ∧ a1 ≤ 2147483647) (ha2 : (-2147483648) ≤ a2 ∧ a2 ≤ 2147483647)    (hRKNm0 : zR_KN m0) (hRLTm0 : zR_LT m0) : zw (zu_call (zt_T n) 174 [(40, a0), (0, a1), (0, a2)] m0) (fun v m => zi_I m ∧ zfr [(28, 3), (28, 54), (122, 0), (123, 0)] m0 m ∧ zR_KN m ∧ zR_LT m ∧ ((-2147483648) ≤ v ∧ v ≤ 2147483647) ∧ (0 ≤ m a0 2 ∧ m a0 2 ≤ 0)) := by
  have hFm0 : zfr [(28, 3), (28, 54), (122, 0), (123, 0)] m0 m0 := zfr_rf _ _
  refine zw_eq (zu_call_at (zt_T n) (zm_174 n) (zdp_174 n) _ _ _ _ _ rfl (zr_174_0 n _ _ a0 a1 a2 m0)) ?_
  generalize hmm1 : zu_up m0 a0 2 0 = m1
  have hIm1 := zi_up hmm1 hIm0 hc0 zb_28_2 (by omega) (by omega)
  have hFm1 := zfr_up hmm1 hFm0 hc0 rfl
  have hRKNm1 := zR_KN_fr (zdis_fr (zfr_up hmm1 (zfr_rf [(28, 3)] _) hc0 rfl) rfl) hRKNm0
  have hRLTm1 := zR_LT_fr (zdis_fr (zfr_up hmm1 (zfr_rf [(28, 3)] _) hc0 rfl) rfl) hRLTm0
  refine zw_bd (zw_eq (zu_call_at (zt_T n) (zm_125 n) (zdp_125 n) _ _ _ _ _ rfl (zr_125_0 n _ _ a0 a1 m1)) ?_)
  refine zw_ite (fun h2 => ?_) (fun h2 => ?_)
  · refine zw_b (by omega) ?_
    refine zw_some ?_
    refine zw_ite (fun h3 => ?_) (fun h3 => ?_)
    · have r4 : (-2147483648) ≤ (m1 a0 2) ∧ (m1 a0 2) ≤ 2147483647 := zi_rd hIm1 hc0 zb_28_2
      have e5 : (m1 a0 2) = 0 := (zs_eq hmm1)
      exact zw_some ⟨hIm1, hFm1, hRKNm1, hRLTm1, ⟨by omega, by omega⟩, ⟨by omega, by omega⟩⟩
    · exfalso; omega
  · have r6 : 0 ≤ (m1 a0 15) ∧ (m1 a0 15) ≤ 4 := zi_rd hIm1 hc0 zb_28_15
    refine zw_ite (fun h7 => ?_) (fun h7 => ?_)
    · refine zw_b (by omega) ?_
      refine zw_some ?_
      refine zw_ite (fun h8 => ?_) (fun h8 => ?_)
      · have r9 : (-2147483648) ≤ (m1 a0 2) ∧ (m1 a0 2) ≤ 2147483647 := zi_rd hIm1 hc0 zb_28_2
        have e10 : (m1 a0 2) = 0 := (zs_eq hmm1)
        exact zw_some ⟨hIm1, hFm1, hRKNm1, hRLTm1, ⟨by omega, by omega⟩, ⟨by omega, by omega⟩⟩
      · exfalso; omega
    · refine zw_b (by omega) ?_
      refine zw_some ?_
      refine zw_ite (fun h11 => ?_) (fun h11 => ?_)
      · exfalso; omega
      · refine zw_bd (zw_eq (zu_call_at (zt_T n) (zm_124 n) (zdp_124 n) _ _ _ _ _ rfl (zr_124_0 n _ _ a0 a2 m1)) ?_)
        refine zw_ite (fun h12 => ?_) (fun h12 => ?_)
        · refine zw_b (by omega) ?_
          refine zw_some ?_
          refine zw_ite (fun h13 => ?_) (fun h13 => ?_)
          · have r14 : (-2147483648) ≤ (m1 a0 2) ∧ (m1 a0 2) ≤ 2147483647 := zi_rd hIm1 hc0 zb_28_2
            have e15 : (m1 a0 2) = 0 := (zs_eq hmm1)
            exact zw_some ⟨hIm1, hFm1, hRKNm1, hRLTm1, ⟨by omega, by omega⟩, ⟨by omega, by omega⟩⟩
          · exfalso; omega
        · have b16 : 0 ≤ (0 : Int) ∧ (0 : Int) < 2 := by omega
          refine zw_if b16 ?_
          have r17 : 0 ≤ (m1 216 0) ∧ (m1 216 0) ≤ 16 := zi_rdr (m := 2) (r0 := 0) (r1 := 0) hIm1 zq_216 (by omega) (by decide +kernel)
          refine zw_ite (fun h18 => ?_) (fun h18 => ?_)
          · refine zw_b (by omega) ?_
            refine zw_some ?_
            refine zw_ite (fun h19 => ?_) (fun h19 => ?_)
            · have r20 : (-2147483648) ≤ (m1 a0 2) ∧ (m1 a0 2) ≤ 2147483647 := zi_rd hIm1 hc0 zb_28_2
              have e21 : (m1 a0 2) = 0 := (zs_eq hmm1)
              exact zw_some ⟨hIm1, hFm1, hRKNm1, hRLTm1, ⟨by omega, by omega⟩, ⟨by omega, by omega⟩⟩
            · exfalso; omega
          · refine zw_b (by omega) ?_
            refine zw_some ?_
            refine zw_ite (fun h22 => ?_) (fun h22 => ?_)
            · exfalso; omega
            · refine zw_bd (zw_mono (zk_132 n hIm1 hc0 ⟨by omega, by omega⟩ ⟨by omega, by omega⟩ hRKNm1 hRLTm1) (fun v24 m23 hqm23 => ?_))
              obtain ⟨hIm23, hfm23, hvm23⟩ := hqm23
              have hFm23 := zfr_tr hFm1 hfm23 rfl
              obtain ⟨hRKNm23, hRLTm23, hvm23⟩ := hvm23
              have r25 : (-2147483648) ≤ (m23 a0 2) ∧ (m23 a0 2) ≤ 2147483647 := zi_rd hIm23 hc0 zb_28_2
              have e26 : (m23 a0 2) = 0 := (Eq.trans (zfr_ap hfm23 hc0 rfl) (zs_eq hmm1))
              exact zw_some ⟨hIm23, hFm23, hRKNm23, hRLTm23, ⟨by omega, by omega⟩, ⟨by omega, by omega⟩⟩
set_option maxHeartbeats 4000000 in
theorem zk_175 (n : Nat) {a0 a1 a2 a3 a4 : Int} {m0 : zu_m} (hIm0 : zi_I m0) (hc0 : zcls a0 = 28) (ha1 : 0 ≤ a1 ∧ a1 ≤ 3) (ha2 : 1 ≤ a2 ∧ a2 ≤ 3) (ha3 : 0 ≤ a3 ∧ a3 ≤ 15) (ha4 : 0 ≤ a4 ∧ a4 ≤ 15)    (hRKNm0 : zR_KN m0) (hRLTm0 : zR_LT m0) : zw (zu_call (zt_T n) 175 [(40, a0), (0, a1), (0, a2), (0, a3), (0, a4)] m0) (fun v m => zi_I m ∧ zfr [(28, 54), (122, 0), (123, 0)] m0 m ∧ zR_KN m ∧ zR_LT m ∧ (0 ≤ v ∧ v ≤ 1)) := by
  have hFm0 : zfr [(28, 54), (122, 0), (123, 0)] m0 m0 := zfr_rf _ _
  refine zw_eq (zu_call_at (zt_T n) (zm_175 n) (zdp_175 n) _ _ _ _ _ rfl (zr_175_0 n _ _ a0 a1 a2 a3 a4 m0)) ?_
  refine zw_bd (zw_mono (zk_132 n hIm0 hc0 ⟨by omega, by omega⟩ ⟨by omega, by omega⟩ hRKNm0 hRLTm0) (fun v2 m1 hqm1 => ?_))
  obtain ⟨hIm1, hfm1, hvm1⟩ := hqm1
  have hFm1 := zfr_tr hFm0 hfm1 rfl
  obtain ⟨hRKNm1, hRLTm1, hvm1⟩ := hvm1
  refine zw_bd (zw_mono (zk_132 n hIm1 hc0 ⟨by omega, by omega⟩ ⟨by omega, by omega⟩ hRKNm1 hRLTm1) (fun v4 m3 hqm3 => ?_))
  obtain ⟨hIm3, hfm3, hvm3⟩ := hqm3
  have hFm3 := zfr_tr hFm1 hfm3 rfl
  obtain ⟨hRKNm3, hRLTm3, hvm3⟩ := hvm3
  refine zw_ite (fun h5 => ?_) (fun h5 => ?_)
  · refine zw_b (by omega) ?_
    exact zw_some ⟨hIm3, hFm3, hRKNm3, hRLTm3, ⟨by omega, by omega⟩⟩
  · refine zw_bd (zw_mono (zk_132 n hIm3 hc0 ⟨by omega, by omega⟩ ⟨by omega, by omega⟩ hRKNm3 hRLTm3) (fun v7 m6 hqm6 => ?_))
    obtain ⟨hIm6, hfm6, hvm6⟩ := hqm6
    have hFm6 := zfr_tr hFm3 hfm6 rfl
    obtain ⟨hRKNm6, hRLTm6, hvm6⟩ := hvm6
    refine zw_bd (zw_mono (zk_132 n hIm6 hc0 ⟨by omega, by omega⟩ ⟨by omega, by omega⟩ hRKNm6 hRLTm6) (fun v9 m8 hqm8 => ?_))
    obtain ⟨hIm8, hfm8, hvm8⟩ := hqm8
    have hFm8 := zfr_tr hFm6 hfm8 rfl
    obtain ⟨hRKNm8, hRLTm8, hvm8⟩ := hvm8
    refine zw_ite (fun h10 => ?_) (fun h10 => ?_)
    · refine zw_b (by omega) ?_
      exact zw_some ⟨hIm8, hFm8, hRKNm8, hRLTm8, ⟨by omega, by omega⟩⟩
    · refine zw_b (by omega) ?_
      exact zw_some ⟨hIm8, hFm8, hRKNm8, hRLTm8, ⟨by omega, by omega⟩⟩

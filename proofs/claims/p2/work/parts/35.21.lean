set_option maxHeartbeats 4000000 in
theorem zk_105 (n : Nat) {a0 : Int} {m0 : zu_m} (hIm0 : zi_I m0) (hc0 : zcls a0 = 28)   (he0 : 1 ≤ m0 a0 8 ∧ m0 a0 8 ≤ 6) (hxp0 : (m0 a0 21) = (m0 a0 48)) (hxp1 : (m0 a0 4) = 0) (hRC0m0 : zR_C0 m0) (hRCRm0 : zR_CR m0) (hRKNm0 : zR_KN m0) (hRLRm0 : zR_LR m0) (hRLTm0 : zR_LT m0) (hRNSm0 : zR_NS m0) (hRTRm0 : zR_TR m0) (hRWDm0 : zR_WD m0) : zw (zu_call (zt_T n) 105 [(40, a0)] m0) (fun v m => zi_I m ∧ zfr [(28, 5), (28, 6), (28, 8), (28, 9), (28, 10), (28, 11), (28, 12), (28, 18), (28, 19), (28, 20), (28, 21), (28, 22), (28, 23), (28, 24), (28, 43), (28, 46), (28, 47), (28, 48), (28, 49), (28, 50), (28, 51), (102, 0), (103, 0), (104, 0), (105, 0), (106, 0), (107, 0), (108, 0), (109, 0), (110, 0), (111, 0), (112, 0), (113, 0), (114, 0), (115, 0), (116, 0), (117, 0), (118, 0), (119, 0), (120, 0), (121, 0)] m0 m ∧ zR_C0 m ∧ zR_CR m ∧ zR_KN m ∧ zR_LR m ∧ zR_LT m ∧ zR_NS m ∧ zR_TR m ∧ zR_WD m ∧ (0 ≤ v ∧ v ≤ 1) ∧ (v = 1 → (m0 a0 7) < (m a0 7)) ∧ (v = 1 → (m a0 21) = (m a0 48)) ∧ (v = 1 → (m a0 4) = (m0 a0 4))) := by
  have hFm0 : zfr [(28, 5), (28, 6), (28, 8), (28, 9), (28, 10), (28, 11), (28, 12), (28, 18), (28, 19), (28, 20), (28, 21), (28, 22), (28, 23), (28, 24), (28, 43), (28, 46), (28, 47), (28, 48), (28, 49), (28, 50), (28, 51), (102, 0), (103, 0), (104, 0), (105, 0), (106, 0), (107, 0), (108, 0), (109, 0), (110, 0), (111, 0), (112, 0), (113, 0), (114, 0), (115, 0), (116, 0), (117, 0), (118, 0), (119, 0), (120, 0), (121, 0)] m0 m0 := zfr_rf _ _
  have r1 : 0 ≤ (m0 a0 7) ∧ (m0 a0 7) ≤ 700 := zi_rd hIm0 hc0 zb_28_7
  have r2 : (-2147483648) ≤ (m0 a0 4) ∧ (m0 a0 4) ≤ 2147483647 := zi_rd hIm0 hc0 zb_28_4
  have r3 : 0 ≤ (m0 a0 21) ∧ (m0 a0 21) ≤ 64 := zi_rd hIm0 hc0 zb_28_21
  have r4 : 0 ≤ (m0 a0 48) ∧ (m0 a0 48) ≤ 64 := zi_rd hIm0 hc0 zb_28_48
  have s5 := hRNSm0 a0 hc0
  have s6 := hRTRm0 a0 hc0
  refine zw_eq (zu_call_at (zt_T n) (zm_105 n) (zdp_105 n) _ _ _ _ _ rfl (zr_105_0 n _ _ a0 m0)) ?_
  refine zw_ite (fun h7 => ?_) (fun h7 => ?_)
  · refine zw_bd (zw_eq (zu_call_at (zt_T n) (zm_85 n) (zdp_85 n) _ _ _ _ _ rfl (zr_85_0 n _ _ a0 1 m0)) ?_)
    generalize hmm8 : zu_up m0 a0 4 1 = m8
    have hIm8 := zi_up hmm8 hIm0 hc0 zb_28_4 (by omega) (by omega)
    have hFm8 := zfr_up hmm8 hFm0 hc0 rfl
    have hRC0m8 := zR_C0_fr (zdis_fr (zfr_up hmm8 (zfr_rf [(28, 5)] _) hc0 rfl) rfl) hRC0m0
    have hRCRm8 := zR_CR_fr (zdis_fr (zfr_up hmm8 (zfr_rf [(28, 5)] _) hc0 rfl) rfl) hRCRm0
    have hRKNm8 := zR_KN_fr (zdis_fr (zfr_up hmm8 (zfr_rf [(28, 5)] _) hc0 rfl) rfl) hRKNm0
    have hRLTm8 := zR_LT_fr (zdis_fr (zfr_up hmm8 (zfr_rf [(28, 5)] _) hc0 rfl) rfl) hRLTm0
    have hRNSm8 := zR_NS_fr (zdis_fr (zfr_up hmm8 (zfr_rf [(28, 5)] _) hc0 rfl) rfl) hRNSm0
    have hRTRm8 := zR_TR_fr (zdis_fr (zfr_up hmm8 (zfr_rf [(28, 5)] _) hc0 rfl) rfl) hRTRm0
    have hRWDm8 := zR_WD_fr (zdis_fr (zfr_up hmm8 (zfr_rf [(28, 5)] _) hc0 rfl) rfl) hRWDm0
    have hRLRm8 := zLR_wr (zone_190 hc0) hmm8 (by decide)
    have r9 : 0 ≤ (m8 a0 10) ∧ (m8 a0 10) ≤ 700 := zi_rd hIm8 hc0 zb_28_10
    generalize hmm10 : zu_up m8 a0 5 (m8 a0 10) = m10
    have hIm10 := zi_up hmm10 hIm8 hc0 zb_28_5 (by omega) (by omega)
    have hFm10 := zfr_up hmm10 hFm8 hc0 rfl
    have hRC0m10 := zR_C0_fr (zdis_fr (zfr_up hmm10 (zfr_rf [(28, 6)] _) hc0 rfl) rfl) hRC0m8
    have hRCRm10 := zR_CR_fr (zdis_fr (zfr_up hmm10 (zfr_rf [(28, 6)] _) hc0 rfl) rfl) hRCRm8
    have hRKNm10 := zR_KN_fr (zdis_fr (zfr_up hmm10 (zfr_rf [(28, 6)] _) hc0 rfl) rfl) hRKNm8
    have hRLRm10 := zR_LR_fr (zdis_fr (zfr_up hmm10 (zfr_rf [(28, 6)] _) hc0 rfl) rfl) hRLRm8
    have hRLTm10 := zR_LT_fr (zdis_fr (zfr_up hmm10 (zfr_rf [(28, 6)] _) hc0 rfl) rfl) hRLTm8
    have hRNSm10 := zR_NS_fr (zdis_fr (zfr_up hmm10 (zfr_rf [(28, 6)] _) hc0 rfl) rfl) hRNSm8
    have hRTRm10 := zR_TR_fr (zdis_fr (zfr_up hmm10 (zfr_rf [(28, 6)] _) hc0 rfl) rfl) hRTRm8
    have hRWDm10 := zR_WD_fr (zdis_fr (zfr_up hmm10 (zfr_rf [(28, 6)] _) hc0 rfl) rfl) hRWDm8
    refine zw_b (by omega) ?_
    refine zw_some ?_
    refine zw_b (by omega) ?_
    have r11 : 0 ≤ (m10 a0 7) ∧ (m10 a0 7) ≤ 700 := zi_rd hIm10 hc0 zb_28_7
    have e12 : (m10 a0 7) = (m0 a0 7) := (Eq.trans (zs_ne hmm10 (Or.inr (by decide))) (zs_ne hmm8 (Or.inr (by decide))))
    have r13 : 0 ≤ (m10 a0 21) ∧ (m10 a0 21) ≤ 64 := zi_rd hIm10 hc0 zb_28_21
    have e14 : (m10 a0 21) = (m0 a0 21) := (Eq.trans (zs_ne hmm10 (Or.inr (by decide))) (zs_ne hmm8 (Or.inr (by decide))))
    have r15 : 0 ≤ (m10 a0 48) ∧ (m10 a0 48) ≤ 64 := zi_rd hIm10 hc0 zb_28_48
    have e16 : (m10 a0 48) = (m0 a0 48) := (Eq.trans (zs_ne hmm10 (Or.inr (by decide))) (zs_ne hmm8 (Or.inr (by decide))))
    have r17 : (-2147483648) ≤ (m10 a0 4) ∧ (m10 a0 4) ≤ 2147483647 := zi_rd hIm10 hc0 zb_28_4
    have e18 : (m10 a0 4) = 1 := (Eq.trans (zs_ne hmm10 (Or.inr (by decide))) (zs_eq hmm8))
    exact zw_some ⟨hIm10, hFm10, hRC0m10, hRCRm10, hRKNm10, hRLRm10, hRLTm10, hRNSm10, hRTRm10, hRWDm10, ⟨by omega, by omega⟩, by omega, by omega, by omega⟩
  · refine zw_ite (fun h19 => ?_) (fun h19 => ?_)
    · refine zw_ite (fun h20 => ?_) (fun h20 => ?_)
      · refine zw_ite (fun h21 => ?_) (fun h21 => ?_)
        · refine zw_ite (fun h22 => ?_) (fun h22 => ?_)
          · refine zw_ite (fun h23 => ?_) (fun h23 => ?_)
            · refine zw_ite (fun h24 => ?_) (fun h24 => ?_)
              · refine zw_bd (zw_mono (zk_104 n hIm0 hc0 ⟨by omega, by omega⟩ hRLRm0 hRNSm0 hRTRm0 hRWDm0) (fun v26 m25 hqm25 => ?_))
                obtain ⟨hIm25, hfm25, hvm25⟩ := hqm25
                have hFm25 := zfr_tr hFm0 hfm25 rfl
                obtain ⟨hRLRm25, hRNSm25, hRTRm25, hRWDm25, hvm25⟩ := hvm25
                have hRC0m25 := zR_C0_fr (zdis_fr hfm25 rfl) hRC0m0
                have hRCRm25 := zR_CR_fr (zdis_fr hfm25 rfl) hRCRm0
                have hRKNm25 := zR_KN_fr (zdis_fr hfm25 rfl) hRKNm0
                have hRLTm25 := zR_LT_fr (zdis_fr hfm25 rfl) hRLTm0
                have s27 := hRNSm25 a0 hc0
                have s28 := hRTRm25 a0 hc0
                have r29 : 0 ≤ (m25 a0 7) ∧ (m25 a0 7) ≤ 700 := zi_rd hIm25 hc0 zb_28_7
                have r30 : 0 ≤ (m25 a0 8) ∧ (m25 a0 8) ≤ 6 := zi_rd hIm25 hc0 zb_28_8
                have r31 : (-2147483648) ≤ (m25 a0 4) ∧ (m25 a0 4) ≤ 2147483647 := zi_rd hIm25 hc0 zb_28_4
                refine zw_ite (fun h32 => ?_) (fun h32 => ?_)
                · refine zw_bd (zw_eq (zu_call_at (zt_T n) (zm_93 n) (zdp_93 n) _ _ _ _ _ rfl (zr_93_0 n _ _ a0 59 m25)) ?_)
                  refine zw_ite (fun h33 => ?_) (fun h33 => ?_)
                  · refine zw_b (by omega) ?_
                    refine zw_some ?_
                    refine zw_ite (fun h34 => ?_) (fun h34 => ?_)
                    · exfalso; omega
                    · refine zw_bd (zw_eq (zu_call_at (zt_T n) (zm_85 n) (zdp_85 n) _ _ _ _ _ rfl (zr_85_0 n _ _ a0 1 m25)) ?_)
                      generalize hmm35 : zu_up m25 a0 4 1 = m35
                      have hIm35 := zi_up hmm35 hIm25 hc0 zb_28_4 (by omega) (by omega)
                      have hFm35 := zfr_up hmm35 hFm25 hc0 rfl
                      have hRC0m35 := zR_C0_fr (zdis_fr (zfr_up hmm35 (zfr_rf [(28, 5)] _) hc0 rfl) rfl) hRC0m25
                      have hRCRm35 := zR_CR_fr (zdis_fr (zfr_up hmm35 (zfr_rf [(28, 5)] _) hc0 rfl) rfl) hRCRm25
                      have hRKNm35 := zR_KN_fr (zdis_fr (zfr_up hmm35 (zfr_rf [(28, 5)] _) hc0 rfl) rfl) hRKNm25
                      have hRLTm35 := zR_LT_fr (zdis_fr (zfr_up hmm35 (zfr_rf [(28, 5)] _) hc0 rfl) rfl) hRLTm25
                      have hRNSm35 := zR_NS_fr (zdis_fr (zfr_up hmm35 (zfr_rf [(28, 5)] _) hc0 rfl) rfl) hRNSm25
                      have hRTRm35 := zR_TR_fr (zdis_fr (zfr_up hmm35 (zfr_rf [(28, 5)] _) hc0 rfl) rfl) hRTRm25
                      have hRWDm35 := zR_WD_fr (zdis_fr (zfr_up hmm35 (zfr_rf [(28, 5)] _) hc0 rfl) rfl) hRWDm25
                      have hRLRm35 := zLR_wr (zone_190 hc0) hmm35 (by decide)
                      have r36 : 0 ≤ (m35 a0 10) ∧ (m35 a0 10) ≤ 700 := zi_rd hIm35 hc0 zb_28_10
                      generalize hmm37 : zu_up m35 a0 5 (m35 a0 10) = m37
                      have hIm37 := zi_up hmm37 hIm35 hc0 zb_28_5 (by omega) (by omega)
                      have hFm37 := zfr_up hmm37 hFm35 hc0 rfl
                      have hRC0m37 := zR_C0_fr (zdis_fr (zfr_up hmm37 (zfr_rf [(28, 6)] _) hc0 rfl) rfl) hRC0m35
                      have hRCRm37 := zR_CR_fr (zdis_fr (zfr_up hmm37 (zfr_rf [(28, 6)] _) hc0 rfl) rfl) hRCRm35
                      have hRKNm37 := zR_KN_fr (zdis_fr (zfr_up hmm37 (zfr_rf [(28, 6)] _) hc0 rfl) rfl) hRKNm35
                      have hRLRm37 := zR_LR_fr (zdis_fr (zfr_up hmm37 (zfr_rf [(28, 6)] _) hc0 rfl) rfl) hRLRm35
                      have hRLTm37 := zR_LT_fr (zdis_fr (zfr_up hmm37 (zfr_rf [(28, 6)] _) hc0 rfl) rfl) hRLTm35
                      have hRNSm37 := zR_NS_fr (zdis_fr (zfr_up hmm37 (zfr_rf [(28, 6)] _) hc0 rfl) rfl) hRNSm35
                      have hRTRm37 := zR_TR_fr (zdis_fr (zfr_up hmm37 (zfr_rf [(28, 6)] _) hc0 rfl) rfl) hRTRm35
                      have hRWDm37 := zR_WD_fr (zdis_fr (zfr_up hmm37 (zfr_rf [(28, 6)] _) hc0 rfl) rfl) hRWDm35
                      refine zw_b (by omega) ?_
                      refine zw_some ?_
                      refine zw_b (by omega) ?_
                      have r38 : 0 ≤ (m37 a0 7) ∧ (m37 a0 7) ≤ 700 := zi_rd hIm37 hc0 zb_28_7
                      have e39 : (m37 a0 7) = (m25 a0 7) := (Eq.trans (zs_ne hmm37 (Or.inr (by decide))) (zs_ne hmm35 (Or.inr (by decide))))
                      have r40 : 0 ≤ (m37 a0 21) ∧ (m37 a0 21) ≤ 64 := zi_rd hIm37 hc0 zb_28_21
                      have e41 : (m37 a0 21) = (m0 a0 21) := (Eq.trans (zs_ne hmm37 (Or.inr (by decide))) (Eq.trans (zs_ne hmm35 (Or.inr (by decide))) (zfr_ap hfm25 hc0 rfl)))
                      have r42 : 0 ≤ (m37 a0 48) ∧ (m37 a0 48) ≤ 64 := zi_rd hIm37 hc0 zb_28_48
                      have e43 : (m37 a0 48) = (m0 a0 48) := (Eq.trans (zs_ne hmm37 (Or.inr (by decide))) (Eq.trans (zs_ne hmm35 (Or.inr (by decide))) (zfr_ap hfm25 hc0 rfl)))
                      have r44 : (-2147483648) ≤ (m37 a0 4) ∧ (m37 a0 4) ≤ 2147483647 := zi_rd hIm37 hc0 zb_28_4
                      have e45 : (m37 a0 4) = 1 := (Eq.trans (zs_ne hmm37 (Or.inr (by decide))) (zs_eq hmm35))
                      exact zw_some ⟨hIm37, hFm37, hRC0m37, hRCRm37, hRKNm37, hRLRm37, hRLTm37, hRNSm37, hRTRm37, hRWDm37, ⟨by omega, by omega⟩, by omega, by omega, by omega⟩
                  · have r46 : (-2147483648) ≤ (m25 a0 9) ∧ (m25 a0 9) ≤ 2147483647 := zi_rd hIm25 hc0 zb_28_9
                    refine zw_ite (fun h47 => ?_) (fun h47 => ?_)
                    · refine zw_b (by omega) ?_
                      refine zw_some ?_
                      refine zw_ite (fun h48 => ?_) (fun h48 => ?_)
                      · exfalso; omega
                      · refine zw_bd (zw_eq (zu_call_at (zt_T n) (zm_85 n) (zdp_85 n) _ _ _ _ _ rfl (zr_85_0 n _ _ a0 1 m25)) ?_)
                        generalize hmm49 : zu_up m25 a0 4 1 = m49
                        have hIm49 := zi_up hmm49 hIm25 hc0 zb_28_4 (by omega) (by omega)
                        have hFm49 := zfr_up hmm49 hFm25 hc0 rfl
                        have hRC0m49 := zR_C0_fr (zdis_fr (zfr_up hmm49 (zfr_rf [(28, 5)] _) hc0 rfl) rfl) hRC0m25
                        have hRCRm49 := zR_CR_fr (zdis_fr (zfr_up hmm49 (zfr_rf [(28, 5)] _) hc0 rfl) rfl) hRCRm25
                        have hRKNm49 := zR_KN_fr (zdis_fr (zfr_up hmm49 (zfr_rf [(28, 5)] _) hc0 rfl) rfl) hRKNm25
                        have hRLTm49 := zR_LT_fr (zdis_fr (zfr_up hmm49 (zfr_rf [(28, 5)] _) hc0 rfl) rfl) hRLTm25
                        have hRNSm49 := zR_NS_fr (zdis_fr (zfr_up hmm49 (zfr_rf [(28, 5)] _) hc0 rfl) rfl) hRNSm25
                        have hRTRm49 := zR_TR_fr (zdis_fr (zfr_up hmm49 (zfr_rf [(28, 5)] _) hc0 rfl) rfl) hRTRm25
                        have hRWDm49 := zR_WD_fr (zdis_fr (zfr_up hmm49 (zfr_rf [(28, 5)] _) hc0 rfl) rfl) hRWDm25
                        have hRLRm49 := zLR_wr (zone_190 hc0) hmm49 (by decide)
                        have r50 : 0 ≤ (m49 a0 10) ∧ (m49 a0 10) ≤ 700 := zi_rd hIm49 hc0 zb_28_10
                        generalize hmm51 : zu_up m49 a0 5 (m49 a0 10) = m51
                        have hIm51 := zi_up hmm51 hIm49 hc0 zb_28_5 (by omega) (by omega)
                        have hFm51 := zfr_up hmm51 hFm49 hc0 rfl
                        have hRC0m51 := zR_C0_fr (zdis_fr (zfr_up hmm51 (zfr_rf [(28, 6)] _) hc0 rfl) rfl) hRC0m49
                        have hRCRm51 := zR_CR_fr (zdis_fr (zfr_up hmm51 (zfr_rf [(28, 6)] _) hc0 rfl) rfl) hRCRm49
                        have hRKNm51 := zR_KN_fr (zdis_fr (zfr_up hmm51 (zfr_rf [(28, 6)] _) hc0 rfl) rfl) hRKNm49
                        have hRLRm51 := zR_LR_fr (zdis_fr (zfr_up hmm51 (zfr_rf [(28, 6)] _) hc0 rfl) rfl) hRLRm49
                        have hRLTm51 := zR_LT_fr (zdis_fr (zfr_up hmm51 (zfr_rf [(28, 6)] _) hc0 rfl) rfl) hRLTm49
                        have hRNSm51 := zR_NS_fr (zdis_fr (zfr_up hmm51 (zfr_rf [(28, 6)] _) hc0 rfl) rfl) hRNSm49
                        have hRTRm51 := zR_TR_fr (zdis_fr (zfr_up hmm51 (zfr_rf [(28, 6)] _) hc0 rfl) rfl) hRTRm49
                        have hRWDm51 := zR_WD_fr (zdis_fr (zfr_up hmm51 (zfr_rf [(28, 6)] _) hc0 rfl) rfl) hRWDm49
                        refine zw_b (by omega) ?_
                        refine zw_some ?_
                        refine zw_b (by omega) ?_
                        have r52 : 0 ≤ (m51 a0 7) ∧ (m51 a0 7) ≤ 700 := zi_rd hIm51 hc0 zb_28_7
                        have e53 : (m51 a0 7) = (m25 a0 7) := (Eq.trans (zs_ne hmm51 (Or.inr (by decide))) (zs_ne hmm49 (Or.inr (by decide))))
                        have r54 : 0 ≤ (m51 a0 21) ∧ (m51 a0 21) ≤ 64 := zi_rd hIm51 hc0 zb_28_21
                        have e55 : (m51 a0 21) = (m0 a0 21) := (Eq.trans (zs_ne hmm51 (Or.inr (by decide))) (Eq.trans (zs_ne hmm49 (Or.inr (by decide))) (zfr_ap hfm25 hc0 rfl)))
                        have r56 : 0 ≤ (m51 a0 48) ∧ (m51 a0 48) ≤ 64 := zi_rd hIm51 hc0 zb_28_48
                        have e57 : (m51 a0 48) = (m0 a0 48) := (Eq.trans (zs_ne hmm51 (Or.inr (by decide))) (Eq.trans (zs_ne hmm49 (Or.inr (by decide))) (zfr_ap hfm25 hc0 rfl)))
                        have r58 : (-2147483648) ≤ (m51 a0 4) ∧ (m51 a0 4) ≤ 2147483647 := zi_rd hIm51 hc0 zb_28_4
                        have e59 : (m51 a0 4) = 1 := (Eq.trans (zs_ne hmm51 (Or.inr (by decide))) (zs_eq hmm49))
                        exact zw_some ⟨hIm51, hFm51, hRC0m51, hRCRm51, hRKNm51, hRLRm51, hRLTm51, hRNSm51, hRTRm51, hRWDm51, ⟨by omega, by omega⟩, by omega, by omega, by omega⟩
                    · refine zw_b (by omega) ?_
                      refine zw_some ?_
                      refine zw_ite (fun h60 => ?_) (fun h60 => ?_)
                      · refine zw_bd (zw_mono (zk_89 n hIm25 hc0 hRNSm25 hRWDm25) (fun v62 m61 hqm61 => ?_))
                        obtain ⟨hIm61, hfm61, hvm61⟩ := hqm61
                        have hFm61 := zfr_tr hFm25 hfm61 rfl
                        obtain ⟨hRNSm61, hRTRm61, hRWDm61, hvm61⟩ := hvm61
                        have hRC0m61 := zR_C0_fr (zdis_fr hfm61 rfl) hRC0m25
                        have hRCRm61 := zR_CR_fr (zdis_fr hfm61 rfl) hRCRm25
                        have hRKNm61 := zR_KN_fr (zdis_fr hfm61 rfl) hRKNm25
                        have hRLRm61 := zR_LR_fr (zdis_fr hfm61 rfl) hRLRm25
                        have hRLTm61 := zR_LT_fr (zdis_fr hfm61 rfl) hRLTm25
                        have s63 := hRNSm61 a0 hc0
                        have s64 := hRTRm61 a0 hc0
                        have r65 : 0 ≤ (m61 a0 7) ∧ (m61 a0 7) ≤ 700 := zi_rd hIm61 hc0 zb_28_7
                        have r66 : 0 ≤ (m61 a0 8) ∧ (m61 a0 8) ≤ 6 := zi_rd hIm61 hc0 zb_28_8
                        refine zw_b (by omega) ?_
                        have r67 : 0 ≤ (m61 a0 21) ∧ (m61 a0 21) ≤ 64 := zi_rd hIm61 hc0 zb_28_21
                        have e68 : (m61 a0 21) = (m0 a0 21) := (Eq.trans (zfr_ap hfm61 hc0 rfl) (zfr_ap hfm25 hc0 rfl))
                        have r69 : 0 ≤ (m61 a0 48) ∧ (m61 a0 48) ≤ 64 := zi_rd hIm61 hc0 zb_28_48
                        have e70 : (m61 a0 48) = (m0 a0 48) := (Eq.trans (zfr_ap hfm61 hc0 rfl) (zfr_ap hfm25 hc0 rfl))
                        have r71 : (-2147483648) ≤ (m61 a0 4) ∧ (m61 a0 4) ≤ 2147483647 := zi_rd hIm61 hc0 zb_28_4
                        have e72 : (m61 a0 4) = (m25 a0 4) := (zfr_ap hfm61 hc0 rfl)
                        exact zw_some ⟨hIm61, hFm61, hRC0m61, hRCRm61, hRKNm61, hRLRm61, hRLTm61, hRNSm61, hRTRm61, hRWDm61, ⟨by omega, by omega⟩, by omega, by omega, by omega⟩
                      · exfalso; omega
                · refine zw_b (by omega) ?_
                  have r73 : 0 ≤ (m25 a0 21) ∧ (m25 a0 21) ≤ 64 := zi_rd hIm25 hc0 zb_28_21
                  have e74 : (m25 a0 21) = (m0 a0 21) := (zfr_ap hfm25 hc0 rfl)
                  have r75 : 0 ≤ (m25 a0 48) ∧ (m25 a0 48) ≤ 64 := zi_rd hIm25 hc0 zb_28_48
                  have e76 : (m25 a0 48) = (m0 a0 48) := (zfr_ap hfm25 hc0 rfl)
                  exact zw_some ⟨hIm25, hFm25, hRC0m25, hRCRm25, hRKNm25, hRLRm25, hRLTm25, hRNSm25, hRTRm25, hRWDm25, ⟨by omega, by omega⟩, by omega, by omega, by omega⟩
              · refine zw_bd (zw_mono (zk_103 n hIm0 hc0 ⟨by omega, by omega⟩ ⟨by omega, by omega⟩ (by omega) (by omega) hRKNm0 hRLRm0 hRLTm0 hRNSm0 hRTRm0 hRWDm0) (fun v78 m77 hqm77 => ?_))
                obtain ⟨hIm77, hfm77, hvm77⟩ := hqm77
                have hFm77 := zfr_tr hFm0 hfm77 rfl
                obtain ⟨hRKNm77, hRLRm77, hRLTm77, hRNSm77, hRTRm77, hRWDm77, hvm77⟩ := hvm77
                have hRC0m77 := zR_C0_fr (zdis_fr hfm77 rfl) hRC0m0
                have hRCRm77 := zR_CR_fr (zdis_fr hfm77 rfl) hRCRm0
                have s79 := hRNSm77 a0 hc0
                have s80 := hRTRm77 a0 hc0
                have r81 : 0 ≤ (m77 a0 7) ∧ (m77 a0 7) ≤ 700 := zi_rd hIm77 hc0 zb_28_7
                have r82 : 0 ≤ (m77 a0 8) ∧ (m77 a0 8) ≤ 6 := zi_rd hIm77 hc0 zb_28_8
                have r83 : 0 ≤ (m77 a0 21) ∧ (m77 a0 21) ≤ 64 := zi_rd hIm77 hc0 zb_28_21
                have r84 : 0 ≤ (m77 a0 48) ∧ (m77 a0 48) ≤ 64 := zi_rd hIm77 hc0 zb_28_48
                have r85 : (-2147483648) ≤ (m77 a0 4) ∧ (m77 a0 4) ≤ 2147483647 := zi_rd hIm77 hc0 zb_28_4
                refine zw_ite (fun h86 => ?_) (fun h86 => ?_)
                · refine zw_bd (zw_eq (zu_call_at (zt_T n) (zm_93 n) (zdp_93 n) _ _ _ _ _ rfl (zr_93_0 n _ _ a0 59 m77)) ?_)
                  refine zw_ite (fun h87 => ?_) (fun h87 => ?_)
                  · refine zw_b (by omega) ?_
                    refine zw_some ?_
                    refine zw_ite (fun h88 => ?_) (fun h88 => ?_)
                    · exfalso; omega
                    · refine zw_bd (zw_eq (zu_call_at (zt_T n) (zm_85 n) (zdp_85 n) _ _ _ _ _ rfl (zr_85_0 n _ _ a0 1 m77)) ?_)
                      generalize hmm89 : zu_up m77 a0 4 1 = m89
                      have hIm89 := zi_up hmm89 hIm77 hc0 zb_28_4 (by omega) (by omega)
                      have hFm89 := zfr_up hmm89 hFm77 hc0 rfl
                      have hRC0m89 := zR_C0_fr (zdis_fr (zfr_up hmm89 (zfr_rf [(28, 5)] _) hc0 rfl) rfl) hRC0m77
                      have hRCRm89 := zR_CR_fr (zdis_fr (zfr_up hmm89 (zfr_rf [(28, 5)] _) hc0 rfl) rfl) hRCRm77
                      have hRKNm89 := zR_KN_fr (zdis_fr (zfr_up hmm89 (zfr_rf [(28, 5)] _) hc0 rfl) rfl) hRKNm77
                      have hRLTm89 := zR_LT_fr (zdis_fr (zfr_up hmm89 (zfr_rf [(28, 5)] _) hc0 rfl) rfl) hRLTm77
                      have hRNSm89 := zR_NS_fr (zdis_fr (zfr_up hmm89 (zfr_rf [(28, 5)] _) hc0 rfl) rfl) hRNSm77
                      have hRTRm89 := zR_TR_fr (zdis_fr (zfr_up hmm89 (zfr_rf [(28, 5)] _) hc0 rfl) rfl) hRTRm77
                      have hRWDm89 := zR_WD_fr (zdis_fr (zfr_up hmm89 (zfr_rf [(28, 5)] _) hc0 rfl) rfl) hRWDm77
                      have hRLRm89 := zLR_wr (zone_190 hc0) hmm89 (by decide)
                      have r90 : 0 ≤ (m89 a0 10) ∧ (m89 a0 10) ≤ 700 := zi_rd hIm89 hc0 zb_28_10
                      generalize hmm91 : zu_up m89 a0 5 (m89 a0 10) = m91
                      have hIm91 := zi_up hmm91 hIm89 hc0 zb_28_5 (by omega) (by omega)
                      have hFm91 := zfr_up hmm91 hFm89 hc0 rfl
                      have hRC0m91 := zR_C0_fr (zdis_fr (zfr_up hmm91 (zfr_rf [(28, 6)] _) hc0 rfl) rfl) hRC0m89
                      have hRCRm91 := zR_CR_fr (zdis_fr (zfr_up hmm91 (zfr_rf [(28, 6)] _) hc0 rfl) rfl) hRCRm89
                      have hRKNm91 := zR_KN_fr (zdis_fr (zfr_up hmm91 (zfr_rf [(28, 6)] _) hc0 rfl) rfl) hRKNm89
                      have hRLRm91 := zR_LR_fr (zdis_fr (zfr_up hmm91 (zfr_rf [(28, 6)] _) hc0 rfl) rfl) hRLRm89
                      have hRLTm91 := zR_LT_fr (zdis_fr (zfr_up hmm91 (zfr_rf [(28, 6)] _) hc0 rfl) rfl) hRLTm89
                      have hRNSm91 := zR_NS_fr (zdis_fr (zfr_up hmm91 (zfr_rf [(28, 6)] _) hc0 rfl) rfl) hRNSm89
                      have hRTRm91 := zR_TR_fr (zdis_fr (zfr_up hmm91 (zfr_rf [(28, 6)] _) hc0 rfl) rfl) hRTRm89
                      have hRWDm91 := zR_WD_fr (zdis_fr (zfr_up hmm91 (zfr_rf [(28, 6)] _) hc0 rfl) rfl) hRWDm89
                      refine zw_b (by omega) ?_
                      refine zw_some ?_
                      refine zw_b (by omega) ?_
                      have r92 : 0 ≤ (m91 a0 7) ∧ (m91 a0 7) ≤ 700 := zi_rd hIm91 hc0 zb_28_7
                      have e93 : (m91 a0 7) = (m77 a0 7) := (Eq.trans (zs_ne hmm91 (Or.inr (by decide))) (zs_ne hmm89 (Or.inr (by decide))))
                      have r94 : 0 ≤ (m91 a0 21) ∧ (m91 a0 21) ≤ 64 := zi_rd hIm91 hc0 zb_28_21
                      have e95 : (m91 a0 21) = (m77 a0 21) := (Eq.trans (zs_ne hmm91 (Or.inr (by decide))) (zs_ne hmm89 (Or.inr (by decide))))
                      have r96 : 0 ≤ (m91 a0 48) ∧ (m91 a0 48) ≤ 64 := zi_rd hIm91 hc0 zb_28_48
                      have e97 : (m91 a0 48) = (m77 a0 48) := (Eq.trans (zs_ne hmm91 (Or.inr (by decide))) (zs_ne hmm89 (Or.inr (by decide))))
                      have r98 : (-2147483648) ≤ (m91 a0 4) ∧ (m91 a0 4) ≤ 2147483647 := zi_rd hIm91 hc0 zb_28_4
                      have e99 : (m91 a0 4) = 1 := (Eq.trans (zs_ne hmm91 (Or.inr (by decide))) (zs_eq hmm89))
                      exact zw_some ⟨hIm91, hFm91, hRC0m91, hRCRm91, hRKNm91, hRLRm91, hRLTm91, hRNSm91, hRTRm91, hRWDm91, ⟨by omega, by omega⟩, by omega, by omega, by omega⟩
                  · have r100 : (-2147483648) ≤ (m77 a0 9) ∧ (m77 a0 9) ≤ 2147483647 := zi_rd hIm77 hc0 zb_28_9
                    refine zw_ite (fun h101 => ?_) (fun h101 => ?_)
                    · refine zw_b (by omega) ?_
                      refine zw_some ?_
                      refine zw_ite (fun h102 => ?_) (fun h102 => ?_)
                      · exfalso; omega
                      · refine zw_bd (zw_eq (zu_call_at (zt_T n) (zm_85 n) (zdp_85 n) _ _ _ _ _ rfl (zr_85_0 n _ _ a0 1 m77)) ?_)
                        generalize hmm103 : zu_up m77 a0 4 1 = m103
                        have hIm103 := zi_up hmm103 hIm77 hc0 zb_28_4 (by omega) (by omega)
                        have hFm103 := zfr_up hmm103 hFm77 hc0 rfl
                        have hRC0m103 := zR_C0_fr (zdis_fr (zfr_up hmm103 (zfr_rf [(28, 5)] _) hc0 rfl) rfl) hRC0m77
                        have hRCRm103 := zR_CR_fr (zdis_fr (zfr_up hmm103 (zfr_rf [(28, 5)] _) hc0 rfl) rfl) hRCRm77
                        have hRKNm103 := zR_KN_fr (zdis_fr (zfr_up hmm103 (zfr_rf [(28, 5)] _) hc0 rfl) rfl) hRKNm77
                        have hRLTm103 := zR_LT_fr (zdis_fr (zfr_up hmm103 (zfr_rf [(28, 5)] _) hc0 rfl) rfl) hRLTm77
                        have hRNSm103 := zR_NS_fr (zdis_fr (zfr_up hmm103 (zfr_rf [(28, 5)] _) hc0 rfl) rfl) hRNSm77
                        have hRTRm103 := zR_TR_fr (zdis_fr (zfr_up hmm103 (zfr_rf [(28, 5)] _) hc0 rfl) rfl) hRTRm77
                        have hRWDm103 := zR_WD_fr (zdis_fr (zfr_up hmm103 (zfr_rf [(28, 5)] _) hc0 rfl) rfl) hRWDm77
                        have hRLRm103 := zLR_wr (zone_190 hc0) hmm103 (by decide)
                        have r104 : 0 ≤ (m103 a0 10) ∧ (m103 a0 10) ≤ 700 := zi_rd hIm103 hc0 zb_28_10
                        generalize hmm105 : zu_up m103 a0 5 (m103 a0 10) = m105
                        have hIm105 := zi_up hmm105 hIm103 hc0 zb_28_5 (by omega) (by omega)
                        have hFm105 := zfr_up hmm105 hFm103 hc0 rfl
                        have hRC0m105 := zR_C0_fr (zdis_fr (zfr_up hmm105 (zfr_rf [(28, 6)] _) hc0 rfl) rfl) hRC0m103
                        have hRCRm105 := zR_CR_fr (zdis_fr (zfr_up hmm105 (zfr_rf [(28, 6)] _) hc0 rfl) rfl) hRCRm103
                        have hRKNm105 := zR_KN_fr (zdis_fr (zfr_up hmm105 (zfr_rf [(28, 6)] _) hc0 rfl) rfl) hRKNm103
                        have hRLRm105 := zR_LR_fr (zdis_fr (zfr_up hmm105 (zfr_rf [(28, 6)] _) hc0 rfl) rfl) hRLRm103
                        have hRLTm105 := zR_LT_fr (zdis_fr (zfr_up hmm105 (zfr_rf [(28, 6)] _) hc0 rfl) rfl) hRLTm103
                        have hRNSm105 := zR_NS_fr (zdis_fr (zfr_up hmm105 (zfr_rf [(28, 6)] _) hc0 rfl) rfl) hRNSm103
                        have hRTRm105 := zR_TR_fr (zdis_fr (zfr_up hmm105 (zfr_rf [(28, 6)] _) hc0 rfl) rfl) hRTRm103
                        have hRWDm105 := zR_WD_fr (zdis_fr (zfr_up hmm105 (zfr_rf [(28, 6)] _) hc0 rfl) rfl) hRWDm103
                        refine zw_b (by omega) ?_
                        refine zw_some ?_
                        refine zw_b (by omega) ?_
                        have r106 : 0 ≤ (m105 a0 7) ∧ (m105 a0 7) ≤ 700 := zi_rd hIm105 hc0 zb_28_7
                        have e107 : (m105 a0 7) = (m77 a0 7) := (Eq.trans (zs_ne hmm105 (Or.inr (by decide))) (zs_ne hmm103 (Or.inr (by decide))))
                        have r108 : 0 ≤ (m105 a0 21) ∧ (m105 a0 21) ≤ 64 := zi_rd hIm105 hc0 zb_28_21
                        have e109 : (m105 a0 21) = (m77 a0 21) := (Eq.trans (zs_ne hmm105 (Or.inr (by decide))) (zs_ne hmm103 (Or.inr (by decide))))
                        have r110 : 0 ≤ (m105 a0 48) ∧ (m105 a0 48) ≤ 64 := zi_rd hIm105 hc0 zb_28_48
                        have e111 : (m105 a0 48) = (m77 a0 48) := (Eq.trans (zs_ne hmm105 (Or.inr (by decide))) (zs_ne hmm103 (Or.inr (by decide))))
                        have r112 : (-2147483648) ≤ (m105 a0 4) ∧ (m105 a0 4) ≤ 2147483647 := zi_rd hIm105 hc0 zb_28_4
                        have e113 : (m105 a0 4) = 1 := (Eq.trans (zs_ne hmm105 (Or.inr (by decide))) (zs_eq hmm103))
                        exact zw_some ⟨hIm105, hFm105, hRC0m105, hRCRm105, hRKNm105, hRLRm105, hRLTm105, hRNSm105, hRTRm105, hRWDm105, ⟨by omega, by omega⟩, by omega, by omega, by omega⟩
                    · refine zw_b (by omega) ?_
                      refine zw_some ?_
                      refine zw_ite (fun h114 => ?_) (fun h114 => ?_)
                      · refine zw_bd (zw_mono (zk_89 n hIm77 hc0 hRNSm77 hRWDm77) (fun v116 m115 hqm115 => ?_))
                        obtain ⟨hIm115, hfm115, hvm115⟩ := hqm115
                        have hFm115 := zfr_tr hFm77 hfm115 rfl
                        obtain ⟨hRNSm115, hRTRm115, hRWDm115, hvm115⟩ := hvm115
                        have hRC0m115 := zR_C0_fr (zdis_fr hfm115 rfl) hRC0m77
                        have hRCRm115 := zR_CR_fr (zdis_fr hfm115 rfl) hRCRm77
                        have hRKNm115 := zR_KN_fr (zdis_fr hfm115 rfl) hRKNm77
                        have hRLRm115 := zR_LR_fr (zdis_fr hfm115 rfl) hRLRm77
                        have hRLTm115 := zR_LT_fr (zdis_fr hfm115 rfl) hRLTm77
                        have s117 := hRNSm115 a0 hc0
                        have s118 := hRTRm115 a0 hc0
                        have r119 : 0 ≤ (m115 a0 7) ∧ (m115 a0 7) ≤ 700 := zi_rd hIm115 hc0 zb_28_7
                        have r120 : 0 ≤ (m115 a0 8) ∧ (m115 a0 8) ≤ 6 := zi_rd hIm115 hc0 zb_28_8
                        refine zw_b (by omega) ?_
                        have r121 : 0 ≤ (m115 a0 21) ∧ (m115 a0 21) ≤ 64 := zi_rd hIm115 hc0 zb_28_21
                        have e122 : (m115 a0 21) = (m77 a0 21) := (zfr_ap hfm115 hc0 rfl)
                        have r123 : 0 ≤ (m115 a0 48) ∧ (m115 a0 48) ≤ 64 := zi_rd hIm115 hc0 zb_28_48
                        have e124 : (m115 a0 48) = (m77 a0 48) := (zfr_ap hfm115 hc0 rfl)
                        have r125 : (-2147483648) ≤ (m115 a0 4) ∧ (m115 a0 4) ≤ 2147483647 := zi_rd hIm115 hc0 zb_28_4
                        have e126 : (m115 a0 4) = (m77 a0 4) := (zfr_ap hfm115 hc0 rfl)
                        exact zw_some ⟨hIm115, hFm115, hRC0m115, hRCRm115, hRKNm115, hRLRm115, hRLTm115, hRNSm115, hRTRm115, hRWDm115, ⟨by omega, by omega⟩, by omega, by omega, by omega⟩
                      · exfalso; omega
                · refine zw_b (by omega) ?_
                  exact zw_some ⟨hIm77, hFm77, hRC0m77, hRCRm77, hRKNm77, hRLRm77, hRLTm77, hRNSm77, hRTRm77, hRWDm77, ⟨by omega, by omega⟩, by omega, by omega, by omega⟩
            · refine zw_bd (zw_mono (zk_102 n hIm0 hc0 ⟨by omega, by omega⟩ ⟨by omega, by omega⟩ hRC0m0 hRCRm0 hRLRm0 hRNSm0 hRTRm0 hRWDm0) (fun v128 m127 hqm127 => ?_))
              obtain ⟨hIm127, hfm127, hvm127⟩ := hqm127
              have hFm127 := zfr_tr hFm0 hfm127 rfl
              obtain ⟨hRC0m127, hRCRm127, hRLRm127, hRNSm127, hRTRm127, hRWDm127, hvm127⟩ := hvm127
              have hRKNm127 := zR_KN_fr (zdis_fr hfm127 rfl) hRKNm0
              have hRLTm127 := zR_LT_fr (zdis_fr hfm127 rfl) hRLTm0
              have s129 := hRNSm127 a0 hc0
              have s130 := hRTRm127 a0 hc0
              have r131 : 0 ≤ (m127 a0 7) ∧ (m127 a0 7) ≤ 700 := zi_rd hIm127 hc0 zb_28_7
              have r132 : 0 ≤ (m127 a0 8) ∧ (m127 a0 8) ≤ 6 := zi_rd hIm127 hc0 zb_28_8
              have r133 : (-2147483648) ≤ (m127 a0 4) ∧ (m127 a0 4) ≤ 2147483647 := zi_rd hIm127 hc0 zb_28_4
              refine zw_ite (fun h134 => ?_) (fun h134 => ?_)
              · refine zw_bd (zw_eq (zu_call_at (zt_T n) (zm_93 n) (zdp_93 n) _ _ _ _ _ rfl (zr_93_0 n _ _ a0 59 m127)) ?_)
                refine zw_ite (fun h135 => ?_) (fun h135 => ?_)
                · refine zw_b (by omega) ?_
                  refine zw_some ?_
                  refine zw_ite (fun h136 => ?_) (fun h136 => ?_)
                  · exfalso; omega
                  · refine zw_bd (zw_eq (zu_call_at (zt_T n) (zm_85 n) (zdp_85 n) _ _ _ _ _ rfl (zr_85_0 n _ _ a0 1 m127)) ?_)
                    generalize hmm137 : zu_up m127 a0 4 1 = m137
                    have hIm137 := zi_up hmm137 hIm127 hc0 zb_28_4 (by omega) (by omega)
                    have hFm137 := zfr_up hmm137 hFm127 hc0 rfl
                    have hRC0m137 := zR_C0_fr (zdis_fr (zfr_up hmm137 (zfr_rf [(28, 5)] _) hc0 rfl) rfl) hRC0m127
                    have hRCRm137 := zR_CR_fr (zdis_fr (zfr_up hmm137 (zfr_rf [(28, 5)] _) hc0 rfl) rfl) hRCRm127
                    have hRKNm137 := zR_KN_fr (zdis_fr (zfr_up hmm137 (zfr_rf [(28, 5)] _) hc0 rfl) rfl) hRKNm127
                    have hRLTm137 := zR_LT_fr (zdis_fr (zfr_up hmm137 (zfr_rf [(28, 5)] _) hc0 rfl) rfl) hRLTm127
                    have hRNSm137 := zR_NS_fr (zdis_fr (zfr_up hmm137 (zfr_rf [(28, 5)] _) hc0 rfl) rfl) hRNSm127
                    have hRTRm137 := zR_TR_fr (zdis_fr (zfr_up hmm137 (zfr_rf [(28, 5)] _) hc0 rfl) rfl) hRTRm127
                    have hRWDm137 := zR_WD_fr (zdis_fr (zfr_up hmm137 (zfr_rf [(28, 5)] _) hc0 rfl) rfl) hRWDm127
                    have hRLRm137 := zLR_wr (zone_190 hc0) hmm137 (by decide)
                    have r138 : 0 ≤ (m137 a0 10) ∧ (m137 a0 10) ≤ 700 := zi_rd hIm137 hc0 zb_28_10
                    generalize hmm139 : zu_up m137 a0 5 (m137 a0 10) = m139
                    have hIm139 := zi_up hmm139 hIm137 hc0 zb_28_5 (by omega) (by omega)
                    have hFm139 := zfr_up hmm139 hFm137 hc0 rfl
                    have hRC0m139 := zR_C0_fr (zdis_fr (zfr_up hmm139 (zfr_rf [(28, 6)] _) hc0 rfl) rfl) hRC0m137
                    have hRCRm139 := zR_CR_fr (zdis_fr (zfr_up hmm139 (zfr_rf [(28, 6)] _) hc0 rfl) rfl) hRCRm137
                    have hRKNm139 := zR_KN_fr (zdis_fr (zfr_up hmm139 (zfr_rf [(28, 6)] _) hc0 rfl) rfl) hRKNm137
                    have hRLRm139 := zR_LR_fr (zdis_fr (zfr_up hmm139 (zfr_rf [(28, 6)] _) hc0 rfl) rfl) hRLRm137
                    have hRLTm139 := zR_LT_fr (zdis_fr (zfr_up hmm139 (zfr_rf [(28, 6)] _) hc0 rfl) rfl) hRLTm137
                    have hRNSm139 := zR_NS_fr (zdis_fr (zfr_up hmm139 (zfr_rf [(28, 6)] _) hc0 rfl) rfl) hRNSm137
                    have hRTRm139 := zR_TR_fr (zdis_fr (zfr_up hmm139 (zfr_rf [(28, 6)] _) hc0 rfl) rfl) hRTRm137
                    have hRWDm139 := zR_WD_fr (zdis_fr (zfr_up hmm139 (zfr_rf [(28, 6)] _) hc0 rfl) rfl) hRWDm137
                    refine zw_b (by omega) ?_
                    refine zw_some ?_
                    refine zw_b (by omega) ?_
                    have r140 : 0 ≤ (m139 a0 7) ∧ (m139 a0 7) ≤ 700 := zi_rd hIm139 hc0 zb_28_7
                    have e141 : (m139 a0 7) = (m127 a0 7) := (Eq.trans (zs_ne hmm139 (Or.inr (by decide))) (zs_ne hmm137 (Or.inr (by decide))))
                    have r142 : 0 ≤ (m139 a0 21) ∧ (m139 a0 21) ≤ 64 := zi_rd hIm139 hc0 zb_28_21
                    have e143 : (m139 a0 21) = (m0 a0 21) := (Eq.trans (zs_ne hmm139 (Or.inr (by decide))) (Eq.trans (zs_ne hmm137 (Or.inr (by decide))) (zfr_ap hfm127 hc0 rfl)))
                    have r144 : 0 ≤ (m139 a0 48) ∧ (m139 a0 48) ≤ 64 := zi_rd hIm139 hc0 zb_28_48
                    have e145 : (m139 a0 48) = (m0 a0 48) := (Eq.trans (zs_ne hmm139 (Or.inr (by decide))) (Eq.trans (zs_ne hmm137 (Or.inr (by decide))) (zfr_ap hfm127 hc0 rfl)))
                    have r146 : (-2147483648) ≤ (m139 a0 4) ∧ (m139 a0 4) ≤ 2147483647 := zi_rd hIm139 hc0 zb_28_4
                    have e147 : (m139 a0 4) = 1 := (Eq.trans (zs_ne hmm139 (Or.inr (by decide))) (zs_eq hmm137))
                    exact zw_some ⟨hIm139, hFm139, hRC0m139, hRCRm139, hRKNm139, hRLRm139, hRLTm139, hRNSm139, hRTRm139, hRWDm139, ⟨by omega, by omega⟩, by omega, by omega, by omega⟩
                · have r148 : (-2147483648) ≤ (m127 a0 9) ∧ (m127 a0 9) ≤ 2147483647 := zi_rd hIm127 hc0 zb_28_9
                  refine zw_ite (fun h149 => ?_) (fun h149 => ?_)
                  · refine zw_b (by omega) ?_
                    refine zw_some ?_
                    refine zw_ite (fun h150 => ?_) (fun h150 => ?_)
                    · exfalso; omega
                    · refine zw_bd (zw_eq (zu_call_at (zt_T n) (zm_85 n) (zdp_85 n) _ _ _ _ _ rfl (zr_85_0 n _ _ a0 1 m127)) ?_)
                      generalize hmm151 : zu_up m127 a0 4 1 = m151
                      have hIm151 := zi_up hmm151 hIm127 hc0 zb_28_4 (by omega) (by omega)
                      have hFm151 := zfr_up hmm151 hFm127 hc0 rfl
                      have hRC0m151 := zR_C0_fr (zdis_fr (zfr_up hmm151 (zfr_rf [(28, 5)] _) hc0 rfl) rfl) hRC0m127
                      have hRCRm151 := zR_CR_fr (zdis_fr (zfr_up hmm151 (zfr_rf [(28, 5)] _) hc0 rfl) rfl) hRCRm127
                      have hRKNm151 := zR_KN_fr (zdis_fr (zfr_up hmm151 (zfr_rf [(28, 5)] _) hc0 rfl) rfl) hRKNm127
                      have hRLTm151 := zR_LT_fr (zdis_fr (zfr_up hmm151 (zfr_rf [(28, 5)] _) hc0 rfl) rfl) hRLTm127
                      have hRNSm151 := zR_NS_fr (zdis_fr (zfr_up hmm151 (zfr_rf [(28, 5)] _) hc0 rfl) rfl) hRNSm127
                      have hRTRm151 := zR_TR_fr (zdis_fr (zfr_up hmm151 (zfr_rf [(28, 5)] _) hc0 rfl) rfl) hRTRm127
                      have hRWDm151 := zR_WD_fr (zdis_fr (zfr_up hmm151 (zfr_rf [(28, 5)] _) hc0 rfl) rfl) hRWDm127
                      have hRLRm151 := zLR_wr (zone_190 hc0) hmm151 (by decide)
                      have r152 : 0 ≤ (m151 a0 10) ∧ (m151 a0 10) ≤ 700 := zi_rd hIm151 hc0 zb_28_10
                      generalize hmm153 : zu_up m151 a0 5 (m151 a0 10) = m153
                      have hIm153 := zi_up hmm153 hIm151 hc0 zb_28_5 (by omega) (by omega)
                      have hFm153 := zfr_up hmm153 hFm151 hc0 rfl
                      have hRC0m153 := zR_C0_fr (zdis_fr (zfr_up hmm153 (zfr_rf [(28, 6)] _) hc0 rfl) rfl) hRC0m151
                      have hRCRm153 := zR_CR_fr (zdis_fr (zfr_up hmm153 (zfr_rf [(28, 6)] _) hc0 rfl) rfl) hRCRm151
                      have hRKNm153 := zR_KN_fr (zdis_fr (zfr_up hmm153 (zfr_rf [(28, 6)] _) hc0 rfl) rfl) hRKNm151
                      have hRLRm153 := zR_LR_fr (zdis_fr (zfr_up hmm153 (zfr_rf [(28, 6)] _) hc0 rfl) rfl) hRLRm151
                      have hRLTm153 := zR_LT_fr (zdis_fr (zfr_up hmm153 (zfr_rf [(28, 6)] _) hc0 rfl) rfl) hRLTm151
                      have hRNSm153 := zR_NS_fr (zdis_fr (zfr_up hmm153 (zfr_rf [(28, 6)] _) hc0 rfl) rfl) hRNSm151
                      have hRTRm153 := zR_TR_fr (zdis_fr (zfr_up hmm153 (zfr_rf [(28, 6)] _) hc0 rfl) rfl) hRTRm151
                      have hRWDm153 := zR_WD_fr (zdis_fr (zfr_up hmm153 (zfr_rf [(28, 6)] _) hc0 rfl) rfl) hRWDm151
                      refine zw_b (by omega) ?_
                      refine zw_some ?_
                      refine zw_b (by omega) ?_
                      have r154 : 0 ≤ (m153 a0 7) ∧ (m153 a0 7) ≤ 700 := zi_rd hIm153 hc0 zb_28_7
                      have e155 : (m153 a0 7) = (m127 a0 7) := (Eq.trans (zs_ne hmm153 (Or.inr (by decide))) (zs_ne hmm151 (Or.inr (by decide))))
                      have r156 : 0 ≤ (m153 a0 21) ∧ (m153 a0 21) ≤ 64 := zi_rd hIm153 hc0 zb_28_21
                      have e157 : (m153 a0 21) = (m0 a0 21) := (Eq.trans (zs_ne hmm153 (Or.inr (by decide))) (Eq.trans (zs_ne hmm151 (Or.inr (by decide))) (zfr_ap hfm127 hc0 rfl)))
                      have r158 : 0 ≤ (m153 a0 48) ∧ (m153 a0 48) ≤ 64 := zi_rd hIm153 hc0 zb_28_48
                      have e159 : (m153 a0 48) = (m0 a0 48) := (Eq.trans (zs_ne hmm153 (Or.inr (by decide))) (Eq.trans (zs_ne hmm151 (Or.inr (by decide))) (zfr_ap hfm127 hc0 rfl)))
                      have r160 : (-2147483648) ≤ (m153 a0 4) ∧ (m153 a0 4) ≤ 2147483647 := zi_rd hIm153 hc0 zb_28_4
                      have e161 : (m153 a0 4) = 1 := (Eq.trans (zs_ne hmm153 (Or.inr (by decide))) (zs_eq hmm151))
                      exact zw_some ⟨hIm153, hFm153, hRC0m153, hRCRm153, hRKNm153, hRLRm153, hRLTm153, hRNSm153, hRTRm153, hRWDm153, ⟨by omega, by omega⟩, by omega, by omega, by omega⟩
                  · refine zw_b (by omega) ?_
                    refine zw_some ?_
                    refine zw_ite (fun h162 => ?_) (fun h162 => ?_)
                    · refine zw_bd (zw_mono (zk_89 n hIm127 hc0 hRNSm127 hRWDm127) (fun v164 m163 hqm163 => ?_))
                      obtain ⟨hIm163, hfm163, hvm163⟩ := hqm163
                      have hFm163 := zfr_tr hFm127 hfm163 rfl
                      obtain ⟨hRNSm163, hRTRm163, hRWDm163, hvm163⟩ := hvm163
                      have hRC0m163 := zR_C0_fr (zdis_fr hfm163 rfl) hRC0m127
                      have hRCRm163 := zR_CR_fr (zdis_fr hfm163 rfl) hRCRm127
                      have hRKNm163 := zR_KN_fr (zdis_fr hfm163 rfl) hRKNm127
                      have hRLRm163 := zR_LR_fr (zdis_fr hfm163 rfl) hRLRm127
                      have hRLTm163 := zR_LT_fr (zdis_fr hfm163 rfl) hRLTm127
                      have s165 := hRNSm163 a0 hc0
                      have s166 := hRTRm163 a0 hc0
                      have r167 : 0 ≤ (m163 a0 7) ∧ (m163 a0 7) ≤ 700 := zi_rd hIm163 hc0 zb_28_7
                      have r168 : 0 ≤ (m163 a0 8) ∧ (m163 a0 8) ≤ 6 := zi_rd hIm163 hc0 zb_28_8
                      refine zw_b (by omega) ?_
                      have r169 : 0 ≤ (m163 a0 21) ∧ (m163 a0 21) ≤ 64 := zi_rd hIm163 hc0 zb_28_21
                      have e170 : (m163 a0 21) = (m0 a0 21) := (Eq.trans (zfr_ap hfm163 hc0 rfl) (zfr_ap hfm127 hc0 rfl))
                      have r171 : 0 ≤ (m163 a0 48) ∧ (m163 a0 48) ≤ 64 := zi_rd hIm163 hc0 zb_28_48
                      have e172 : (m163 a0 48) = (m0 a0 48) := (Eq.trans (zfr_ap hfm163 hc0 rfl) (zfr_ap hfm127 hc0 rfl))
                      have r173 : (-2147483648) ≤ (m163 a0 4) ∧ (m163 a0 4) ≤ 2147483647 := zi_rd hIm163 hc0 zb_28_4
                      have e174 : (m163 a0 4) = (m127 a0 4) := (zfr_ap hfm163 hc0 rfl)
                      exact zw_some ⟨hIm163, hFm163, hRC0m163, hRCRm163, hRKNm163, hRLRm163, hRLTm163, hRNSm163, hRTRm163, hRWDm163, ⟨by omega, by omega⟩, by omega, by omega, by omega⟩
                    · exfalso; omega
              · refine zw_b (by omega) ?_
                have r175 : 0 ≤ (m127 a0 21) ∧ (m127 a0 21) ≤ 64 := zi_rd hIm127 hc0 zb_28_21
                have e176 : (m127 a0 21) = (m0 a0 21) := (zfr_ap hfm127 hc0 rfl)
                have r177 : 0 ≤ (m127 a0 48) ∧ (m127 a0 48) ≤ 64 := zi_rd hIm127 hc0 zb_28_48
                have e178 : (m127 a0 48) = (m0 a0 48) := (zfr_ap hfm127 hc0 rfl)
                exact zw_some ⟨hIm127, hFm127, hRC0m127, hRCRm127, hRKNm127, hRLRm127, hRLTm127, hRNSm127, hRTRm127, hRWDm127, ⟨by omega, by omega⟩, by omega, by omega, by omega⟩
          · refine zw_bd (zw_mono (zk_101 n hIm0 hc0 ⟨by omega, by omega⟩ ⟨by omega, by omega⟩ hRCRm0 hRLRm0 hRNSm0 hRTRm0 hRWDm0) (fun v180 m179 hqm179 => ?_))
            obtain ⟨hIm179, hfm179, hvm179⟩ := hqm179
            have hFm179 := zfr_tr hFm0 hfm179 rfl
            obtain ⟨hRCRm179, hRLRm179, hRNSm179, hRTRm179, hRWDm179, hvm179⟩ := hvm179
            have hRC0m179 := zR_C0_fr (zdis_fr hfm179 rfl) hRC0m0
            have hRKNm179 := zR_KN_fr (zdis_fr hfm179 rfl) hRKNm0
            have hRLTm179 := zR_LT_fr (zdis_fr hfm179 rfl) hRLTm0
            have s181 := hRNSm179 a0 hc0
            have s182 := hRTRm179 a0 hc0
            have r183 : 0 ≤ (m179 a0 7) ∧ (m179 a0 7) ≤ 700 := zi_rd hIm179 hc0 zb_28_7
            have r184 : 0 ≤ (m179 a0 8) ∧ (m179 a0 8) ≤ 6 := zi_rd hIm179 hc0 zb_28_8
            have r185 : (-2147483648) ≤ (m179 a0 4) ∧ (m179 a0 4) ≤ 2147483647 := zi_rd hIm179 hc0 zb_28_4
            refine zw_ite (fun h186 => ?_) (fun h186 => ?_)
            · refine zw_bd (zw_eq (zu_call_at (zt_T n) (zm_93 n) (zdp_93 n) _ _ _ _ _ rfl (zr_93_0 n _ _ a0 59 m179)) ?_)
              refine zw_ite (fun h187 => ?_) (fun h187 => ?_)
              · refine zw_b (by omega) ?_
                refine zw_some ?_
                refine zw_ite (fun h188 => ?_) (fun h188 => ?_)
                · exfalso; omega
                · refine zw_bd (zw_eq (zu_call_at (zt_T n) (zm_85 n) (zdp_85 n) _ _ _ _ _ rfl (zr_85_0 n _ _ a0 1 m179)) ?_)
                  generalize hmm189 : zu_up m179 a0 4 1 = m189
                  have hIm189 := zi_up hmm189 hIm179 hc0 zb_28_4 (by omega) (by omega)
                  have hFm189 := zfr_up hmm189 hFm179 hc0 rfl
                  have hRC0m189 := zR_C0_fr (zdis_fr (zfr_up hmm189 (zfr_rf [(28, 5)] _) hc0 rfl) rfl) hRC0m179
                  have hRCRm189 := zR_CR_fr (zdis_fr (zfr_up hmm189 (zfr_rf [(28, 5)] _) hc0 rfl) rfl) hRCRm179
                  have hRKNm189 := zR_KN_fr (zdis_fr (zfr_up hmm189 (zfr_rf [(28, 5)] _) hc0 rfl) rfl) hRKNm179
                  have hRLTm189 := zR_LT_fr (zdis_fr (zfr_up hmm189 (zfr_rf [(28, 5)] _) hc0 rfl) rfl) hRLTm179
                  have hRNSm189 := zR_NS_fr (zdis_fr (zfr_up hmm189 (zfr_rf [(28, 5)] _) hc0 rfl) rfl) hRNSm179
                  have hRTRm189 := zR_TR_fr (zdis_fr (zfr_up hmm189 (zfr_rf [(28, 5)] _) hc0 rfl) rfl) hRTRm179
                  have hRWDm189 := zR_WD_fr (zdis_fr (zfr_up hmm189 (zfr_rf [(28, 5)] _) hc0 rfl) rfl) hRWDm179
                  have hRLRm189 := zLR_wr (zone_190 hc0) hmm189 (by decide)
                  have r190 : 0 ≤ (m189 a0 10) ∧ (m189 a0 10) ≤ 700 := zi_rd hIm189 hc0 zb_28_10
                  generalize hmm191 : zu_up m189 a0 5 (m189 a0 10) = m191
                  have hIm191 := zi_up hmm191 hIm189 hc0 zb_28_5 (by omega) (by omega)
                  have hFm191 := zfr_up hmm191 hFm189 hc0 rfl
                  have hRC0m191 := zR_C0_fr (zdis_fr (zfr_up hmm191 (zfr_rf [(28, 6)] _) hc0 rfl) rfl) hRC0m189
                  have hRCRm191 := zR_CR_fr (zdis_fr (zfr_up hmm191 (zfr_rf [(28, 6)] _) hc0 rfl) rfl) hRCRm189
                  have hRKNm191 := zR_KN_fr (zdis_fr (zfr_up hmm191 (zfr_rf [(28, 6)] _) hc0 rfl) rfl) hRKNm189
                  have hRLRm191 := zR_LR_fr (zdis_fr (zfr_up hmm191 (zfr_rf [(28, 6)] _) hc0 rfl) rfl) hRLRm189
                  have hRLTm191 := zR_LT_fr (zdis_fr (zfr_up hmm191 (zfr_rf [(28, 6)] _) hc0 rfl) rfl) hRLTm189
                  have hRNSm191 := zR_NS_fr (zdis_fr (zfr_up hmm191 (zfr_rf [(28, 6)] _) hc0 rfl) rfl) hRNSm189
                  have hRTRm191 := zR_TR_fr (zdis_fr (zfr_up hmm191 (zfr_rf [(28, 6)] _) hc0 rfl) rfl) hRTRm189
                  have hRWDm191 := zR_WD_fr (zdis_fr (zfr_up hmm191 (zfr_rf [(28, 6)] _) hc0 rfl) rfl) hRWDm189
                  refine zw_b (by omega) ?_
                  refine zw_some ?_
                  refine zw_b (by omega) ?_
                  have r192 : 0 ≤ (m191 a0 7) ∧ (m191 a0 7) ≤ 700 := zi_rd hIm191 hc0 zb_28_7
                  have e193 : (m191 a0 7) = (m179 a0 7) := (Eq.trans (zs_ne hmm191 (Or.inr (by decide))) (zs_ne hmm189 (Or.inr (by decide))))
                  have r194 : 0 ≤ (m191 a0 21) ∧ (m191 a0 21) ≤ 64 := zi_rd hIm191 hc0 zb_28_21
                  have e195 : (m191 a0 21) = (m0 a0 21) := (Eq.trans (zs_ne hmm191 (Or.inr (by decide))) (Eq.trans (zs_ne hmm189 (Or.inr (by decide))) (zfr_ap hfm179 hc0 rfl)))
                  have r196 : 0 ≤ (m191 a0 48) ∧ (m191 a0 48) ≤ 64 := zi_rd hIm191 hc0 zb_28_48
                  have e197 : (m191 a0 48) = (m0 a0 48) := (Eq.trans (zs_ne hmm191 (Or.inr (by decide))) (Eq.trans (zs_ne hmm189 (Or.inr (by decide))) (zfr_ap hfm179 hc0 rfl)))
                  have r198 : (-2147483648) ≤ (m191 a0 4) ∧ (m191 a0 4) ≤ 2147483647 := zi_rd hIm191 hc0 zb_28_4
                  have e199 : (m191 a0 4) = 1 := (Eq.trans (zs_ne hmm191 (Or.inr (by decide))) (zs_eq hmm189))
                  exact zw_some ⟨hIm191, hFm191, hRC0m191, hRCRm191, hRKNm191, hRLRm191, hRLTm191, hRNSm191, hRTRm191, hRWDm191, ⟨by omega, by omega⟩, by omega, by omega, by omega⟩
              · have r200 : (-2147483648) ≤ (m179 a0 9) ∧ (m179 a0 9) ≤ 2147483647 := zi_rd hIm179 hc0 zb_28_9
                refine zw_ite (fun h201 => ?_) (fun h201 => ?_)
                · refine zw_b (by omega) ?_
                  refine zw_some ?_
                  refine zw_ite (fun h202 => ?_) (fun h202 => ?_)
                  · exfalso; omega
                  · refine zw_bd (zw_eq (zu_call_at (zt_T n) (zm_85 n) (zdp_85 n) _ _ _ _ _ rfl (zr_85_0 n _ _ a0 1 m179)) ?_)
                    generalize hmm203 : zu_up m179 a0 4 1 = m203
                    have hIm203 := zi_up hmm203 hIm179 hc0 zb_28_4 (by omega) (by omega)
                    have hFm203 := zfr_up hmm203 hFm179 hc0 rfl
                    have hRC0m203 := zR_C0_fr (zdis_fr (zfr_up hmm203 (zfr_rf [(28, 5)] _) hc0 rfl) rfl) hRC0m179
                    have hRCRm203 := zR_CR_fr (zdis_fr (zfr_up hmm203 (zfr_rf [(28, 5)] _) hc0 rfl) rfl) hRCRm179
                    have hRKNm203 := zR_KN_fr (zdis_fr (zfr_up hmm203 (zfr_rf [(28, 5)] _) hc0 rfl) rfl) hRKNm179
                    have hRLTm203 := zR_LT_fr (zdis_fr (zfr_up hmm203 (zfr_rf [(28, 5)] _) hc0 rfl) rfl) hRLTm179
                    have hRNSm203 := zR_NS_fr (zdis_fr (zfr_up hmm203 (zfr_rf [(28, 5)] _) hc0 rfl) rfl) hRNSm179
                    have hRTRm203 := zR_TR_fr (zdis_fr (zfr_up hmm203 (zfr_rf [(28, 5)] _) hc0 rfl) rfl) hRTRm179
                    have hRWDm203 := zR_WD_fr (zdis_fr (zfr_up hmm203 (zfr_rf [(28, 5)] _) hc0 rfl) rfl) hRWDm179
                    have hRLRm203 := zLR_wr (zone_190 hc0) hmm203 (by decide)
                    have r204 : 0 ≤ (m203 a0 10) ∧ (m203 a0 10) ≤ 700 := zi_rd hIm203 hc0 zb_28_10
                    generalize hmm205 : zu_up m203 a0 5 (m203 a0 10) = m205
                    have hIm205 := zi_up hmm205 hIm203 hc0 zb_28_5 (by omega) (by omega)
                    have hFm205 := zfr_up hmm205 hFm203 hc0 rfl
                    have hRC0m205 := zR_C0_fr (zdis_fr (zfr_up hmm205 (zfr_rf [(28, 6)] _) hc0 rfl) rfl) hRC0m203
                    have hRCRm205 := zR_CR_fr (zdis_fr (zfr_up hmm205 (zfr_rf [(28, 6)] _) hc0 rfl) rfl) hRCRm203
                    have hRKNm205 := zR_KN_fr (zdis_fr (zfr_up hmm205 (zfr_rf [(28, 6)] _) hc0 rfl) rfl) hRKNm203
                    have hRLRm205 := zR_LR_fr (zdis_fr (zfr_up hmm205 (zfr_rf [(28, 6)] _) hc0 rfl) rfl) hRLRm203
                    have hRLTm205 := zR_LT_fr (zdis_fr (zfr_up hmm205 (zfr_rf [(28, 6)] _) hc0 rfl) rfl) hRLTm203
                    have hRNSm205 := zR_NS_fr (zdis_fr (zfr_up hmm205 (zfr_rf [(28, 6)] _) hc0 rfl) rfl) hRNSm203
                    have hRTRm205 := zR_TR_fr (zdis_fr (zfr_up hmm205 (zfr_rf [(28, 6)] _) hc0 rfl) rfl) hRTRm203
                    have hRWDm205 := zR_WD_fr (zdis_fr (zfr_up hmm205 (zfr_rf [(28, 6)] _) hc0 rfl) rfl) hRWDm203
                    refine zw_b (by omega) ?_
                    refine zw_some ?_
                    refine zw_b (by omega) ?_
                    have r206 : 0 ≤ (m205 a0 7) ∧ (m205 a0 7) ≤ 700 := zi_rd hIm205 hc0 zb_28_7
                    have e207 : (m205 a0 7) = (m179 a0 7) := (Eq.trans (zs_ne hmm205 (Or.inr (by decide))) (zs_ne hmm203 (Or.inr (by decide))))
                    have r208 : 0 ≤ (m205 a0 21) ∧ (m205 a0 21) ≤ 64 := zi_rd hIm205 hc0 zb_28_21
                    have e209 : (m205 a0 21) = (m0 a0 21) := (Eq.trans (zs_ne hmm205 (Or.inr (by decide))) (Eq.trans (zs_ne hmm203 (Or.inr (by decide))) (zfr_ap hfm179 hc0 rfl)))
                    have r210 : 0 ≤ (m205 a0 48) ∧ (m205 a0 48) ≤ 64 := zi_rd hIm205 hc0 zb_28_48
                    have e211 : (m205 a0 48) = (m0 a0 48) := (Eq.trans (zs_ne hmm205 (Or.inr (by decide))) (Eq.trans (zs_ne hmm203 (Or.inr (by decide))) (zfr_ap hfm179 hc0 rfl)))
                    have r212 : (-2147483648) ≤ (m205 a0 4) ∧ (m205 a0 4) ≤ 2147483647 := zi_rd hIm205 hc0 zb_28_4
                    have e213 : (m205 a0 4) = 1 := (Eq.trans (zs_ne hmm205 (Or.inr (by decide))) (zs_eq hmm203))
                    exact zw_some ⟨hIm205, hFm205, hRC0m205, hRCRm205, hRKNm205, hRLRm205, hRLTm205, hRNSm205, hRTRm205, hRWDm205, ⟨by omega, by omega⟩, by omega, by omega, by omega⟩
                · refine zw_b (by omega) ?_
                  refine zw_some ?_
                  refine zw_ite (fun h214 => ?_) (fun h214 => ?_)
                  · refine zw_bd (zw_mono (zk_89 n hIm179 hc0 hRNSm179 hRWDm179) (fun v216 m215 hqm215 => ?_))
                    obtain ⟨hIm215, hfm215, hvm215⟩ := hqm215
                    have hFm215 := zfr_tr hFm179 hfm215 rfl
                    obtain ⟨hRNSm215, hRTRm215, hRWDm215, hvm215⟩ := hvm215
                    have hRC0m215 := zR_C0_fr (zdis_fr hfm215 rfl) hRC0m179
                    have hRCRm215 := zR_CR_fr (zdis_fr hfm215 rfl) hRCRm179
                    have hRKNm215 := zR_KN_fr (zdis_fr hfm215 rfl) hRKNm179
                    have hRLRm215 := zR_LR_fr (zdis_fr hfm215 rfl) hRLRm179
                    have hRLTm215 := zR_LT_fr (zdis_fr hfm215 rfl) hRLTm179
                    have s217 := hRNSm215 a0 hc0
                    have s218 := hRTRm215 a0 hc0
                    have r219 : 0 ≤ (m215 a0 7) ∧ (m215 a0 7) ≤ 700 := zi_rd hIm215 hc0 zb_28_7
                    have r220 : 0 ≤ (m215 a0 8) ∧ (m215 a0 8) ≤ 6 := zi_rd hIm215 hc0 zb_28_8
                    refine zw_b (by omega) ?_
                    have r221 : 0 ≤ (m215 a0 21) ∧ (m215 a0 21) ≤ 64 := zi_rd hIm215 hc0 zb_28_21
                    have e222 : (m215 a0 21) = (m0 a0 21) := (Eq.trans (zfr_ap hfm215 hc0 rfl) (zfr_ap hfm179 hc0 rfl))
                    have r223 : 0 ≤ (m215 a0 48) ∧ (m215 a0 48) ≤ 64 := zi_rd hIm215 hc0 zb_28_48
                    have e224 : (m215 a0 48) = (m0 a0 48) := (Eq.trans (zfr_ap hfm215 hc0 rfl) (zfr_ap hfm179 hc0 rfl))
                    have r225 : (-2147483648) ≤ (m215 a0 4) ∧ (m215 a0 4) ≤ 2147483647 := zi_rd hIm215 hc0 zb_28_4
                    have e226 : (m215 a0 4) = (m179 a0 4) := (zfr_ap hfm215 hc0 rfl)
                    exact zw_some ⟨hIm215, hFm215, hRC0m215, hRCRm215, hRKNm215, hRLRm215, hRLTm215, hRNSm215, hRTRm215, hRWDm215, ⟨by omega, by omega⟩, by omega, by omega, by omega⟩
                  · exfalso; omega
            · refine zw_b (by omega) ?_
              have r227 : 0 ≤ (m179 a0 21) ∧ (m179 a0 21) ≤ 64 := zi_rd hIm179 hc0 zb_28_21
              have e228 : (m179 a0 21) = (m0 a0 21) := (zfr_ap hfm179 hc0 rfl)
              have r229 : 0 ≤ (m179 a0 48) ∧ (m179 a0 48) ≤ 64 := zi_rd hIm179 hc0 zb_28_48
              have e230 : (m179 a0 48) = (m0 a0 48) := (zfr_ap hfm179 hc0 rfl)
              exact zw_some ⟨hIm179, hFm179, hRC0m179, hRCRm179, hRKNm179, hRLRm179, hRLTm179, hRNSm179, hRTRm179, hRWDm179, ⟨by omega, by omega⟩, by omega, by omega, by omega⟩
        · have w231 := zu_w32_id (z := (m0 a0 9) - 1) (by omega) (by omega)
          have w232 := zu_w32_id (z := (zu_w32 ((m0 a0 9) - 1)) + 1) (by omega) (by omega)
          refine zw_bd (zw_mono (zk_100 n hIm0 hc0 ⟨by omega, by omega⟩ ⟨by omega, by omega⟩ ⟨by omega, by omega⟩ hRCRm0 hRLRm0 hRNSm0 hRTRm0 hRWDm0) (fun v234 m233 hqm233 => ?_))
          obtain ⟨hIm233, hfm233, hvm233⟩ := hqm233
          have hFm233 := zfr_tr hFm0 hfm233 rfl
          obtain ⟨hRCRm233, hRLRm233, hRNSm233, hRTRm233, hRWDm233, hvm233⟩ := hvm233
          have hRC0m233 := zR_C0_fr (zdis_fr hfm233 rfl) hRC0m0
          have hRKNm233 := zR_KN_fr (zdis_fr hfm233 rfl) hRKNm0
          have hRLTm233 := zR_LT_fr (zdis_fr hfm233 rfl) hRLTm0
          have s235 := hRNSm233 a0 hc0
          have s236 := hRTRm233 a0 hc0
          have r237 : 0 ≤ (m233 a0 7) ∧ (m233 a0 7) ≤ 700 := zi_rd hIm233 hc0 zb_28_7
          have r238 : 0 ≤ (m233 a0 8) ∧ (m233 a0 8) ≤ 6 := zi_rd hIm233 hc0 zb_28_8
          have r239 : (-2147483648) ≤ (m233 a0 4) ∧ (m233 a0 4) ≤ 2147483647 := zi_rd hIm233 hc0 zb_28_4
          refine zw_ite (fun h240 => ?_) (fun h240 => ?_)
          · refine zw_bd (zw_eq (zu_call_at (zt_T n) (zm_93 n) (zdp_93 n) _ _ _ _ _ rfl (zr_93_0 n _ _ a0 59 m233)) ?_)
            refine zw_ite (fun h241 => ?_) (fun h241 => ?_)
            · refine zw_b (by omega) ?_
              refine zw_some ?_
              refine zw_ite (fun h242 => ?_) (fun h242 => ?_)
              · exfalso; omega
              · refine zw_bd (zw_eq (zu_call_at (zt_T n) (zm_85 n) (zdp_85 n) _ _ _ _ _ rfl (zr_85_0 n _ _ a0 1 m233)) ?_)
                generalize hmm243 : zu_up m233 a0 4 1 = m243
                have hIm243 := zi_up hmm243 hIm233 hc0 zb_28_4 (by omega) (by omega)
                have hFm243 := zfr_up hmm243 hFm233 hc0 rfl
                have hRC0m243 := zR_C0_fr (zdis_fr (zfr_up hmm243 (zfr_rf [(28, 5)] _) hc0 rfl) rfl) hRC0m233
                have hRCRm243 := zR_CR_fr (zdis_fr (zfr_up hmm243 (zfr_rf [(28, 5)] _) hc0 rfl) rfl) hRCRm233
                have hRKNm243 := zR_KN_fr (zdis_fr (zfr_up hmm243 (zfr_rf [(28, 5)] _) hc0 rfl) rfl) hRKNm233
                have hRLTm243 := zR_LT_fr (zdis_fr (zfr_up hmm243 (zfr_rf [(28, 5)] _) hc0 rfl) rfl) hRLTm233
                have hRNSm243 := zR_NS_fr (zdis_fr (zfr_up hmm243 (zfr_rf [(28, 5)] _) hc0 rfl) rfl) hRNSm233
                have hRTRm243 := zR_TR_fr (zdis_fr (zfr_up hmm243 (zfr_rf [(28, 5)] _) hc0 rfl) rfl) hRTRm233
                have hRWDm243 := zR_WD_fr (zdis_fr (zfr_up hmm243 (zfr_rf [(28, 5)] _) hc0 rfl) rfl) hRWDm233
                have hRLRm243 := zLR_wr (zone_190 hc0) hmm243 (by decide)
                have r244 : 0 ≤ (m243 a0 10) ∧ (m243 a0 10) ≤ 700 := zi_rd hIm243 hc0 zb_28_10
                generalize hmm245 : zu_up m243 a0 5 (m243 a0 10) = m245
                have hIm245 := zi_up hmm245 hIm243 hc0 zb_28_5 (by omega) (by omega)
                have hFm245 := zfr_up hmm245 hFm243 hc0 rfl
                have hRC0m245 := zR_C0_fr (zdis_fr (zfr_up hmm245 (zfr_rf [(28, 6)] _) hc0 rfl) rfl) hRC0m243
                have hRCRm245 := zR_CR_fr (zdis_fr (zfr_up hmm245 (zfr_rf [(28, 6)] _) hc0 rfl) rfl) hRCRm243
                have hRKNm245 := zR_KN_fr (zdis_fr (zfr_up hmm245 (zfr_rf [(28, 6)] _) hc0 rfl) rfl) hRKNm243
                have hRLRm245 := zR_LR_fr (zdis_fr (zfr_up hmm245 (zfr_rf [(28, 6)] _) hc0 rfl) rfl) hRLRm243
                have hRLTm245 := zR_LT_fr (zdis_fr (zfr_up hmm245 (zfr_rf [(28, 6)] _) hc0 rfl) rfl) hRLTm243
                have hRNSm245 := zR_NS_fr (zdis_fr (zfr_up hmm245 (zfr_rf [(28, 6)] _) hc0 rfl) rfl) hRNSm243
                have hRTRm245 := zR_TR_fr (zdis_fr (zfr_up hmm245 (zfr_rf [(28, 6)] _) hc0 rfl) rfl) hRTRm243
                have hRWDm245 := zR_WD_fr (zdis_fr (zfr_up hmm245 (zfr_rf [(28, 6)] _) hc0 rfl) rfl) hRWDm243
                refine zw_b (by omega) ?_
                refine zw_some ?_
                refine zw_b (by omega) ?_
                have r246 : 0 ≤ (m245 a0 7) ∧ (m245 a0 7) ≤ 700 := zi_rd hIm245 hc0 zb_28_7
                have e247 : (m245 a0 7) = (m233 a0 7) := (Eq.trans (zs_ne hmm245 (Or.inr (by decide))) (zs_ne hmm243 (Or.inr (by decide))))
                have r248 : 0 ≤ (m245 a0 21) ∧ (m245 a0 21) ≤ 64 := zi_rd hIm245 hc0 zb_28_21
                have e249 : (m245 a0 21) = (m0 a0 21) := (Eq.trans (zs_ne hmm245 (Or.inr (by decide))) (Eq.trans (zs_ne hmm243 (Or.inr (by decide))) (zfr_ap hfm233 hc0 rfl)))
                have r250 : 0 ≤ (m245 a0 48) ∧ (m245 a0 48) ≤ 64 := zi_rd hIm245 hc0 zb_28_48
                have e251 : (m245 a0 48) = (m0 a0 48) := (Eq.trans (zs_ne hmm245 (Or.inr (by decide))) (Eq.trans (zs_ne hmm243 (Or.inr (by decide))) (zfr_ap hfm233 hc0 rfl)))
                have r252 : (-2147483648) ≤ (m245 a0 4) ∧ (m245 a0 4) ≤ 2147483647 := zi_rd hIm245 hc0 zb_28_4
                have e253 : (m245 a0 4) = 1 := (Eq.trans (zs_ne hmm245 (Or.inr (by decide))) (zs_eq hmm243))
                exact zw_some ⟨hIm245, hFm245, hRC0m245, hRCRm245, hRKNm245, hRLRm245, hRLTm245, hRNSm245, hRTRm245, hRWDm245, ⟨by omega, by omega⟩, by omega, by omega, by omega⟩
            · have r254 : (-2147483648) ≤ (m233 a0 9) ∧ (m233 a0 9) ≤ 2147483647 := zi_rd hIm233 hc0 zb_28_9
              refine zw_ite (fun h255 => ?_) (fun h255 => ?_)
              · refine zw_b (by omega) ?_
                refine zw_some ?_
                refine zw_ite (fun h256 => ?_) (fun h256 => ?_)
                · exfalso; omega
                · refine zw_bd (zw_eq (zu_call_at (zt_T n) (zm_85 n) (zdp_85 n) _ _ _ _ _ rfl (zr_85_0 n _ _ a0 1 m233)) ?_)
                  generalize hmm257 : zu_up m233 a0 4 1 = m257
                  have hIm257 := zi_up hmm257 hIm233 hc0 zb_28_4 (by omega) (by omega)
                  have hFm257 := zfr_up hmm257 hFm233 hc0 rfl
                  have hRC0m257 := zR_C0_fr (zdis_fr (zfr_up hmm257 (zfr_rf [(28, 5)] _) hc0 rfl) rfl) hRC0m233
                  have hRCRm257 := zR_CR_fr (zdis_fr (zfr_up hmm257 (zfr_rf [(28, 5)] _) hc0 rfl) rfl) hRCRm233
                  have hRKNm257 := zR_KN_fr (zdis_fr (zfr_up hmm257 (zfr_rf [(28, 5)] _) hc0 rfl) rfl) hRKNm233
                  have hRLTm257 := zR_LT_fr (zdis_fr (zfr_up hmm257 (zfr_rf [(28, 5)] _) hc0 rfl) rfl) hRLTm233
                  have hRNSm257 := zR_NS_fr (zdis_fr (zfr_up hmm257 (zfr_rf [(28, 5)] _) hc0 rfl) rfl) hRNSm233
                  have hRTRm257 := zR_TR_fr (zdis_fr (zfr_up hmm257 (zfr_rf [(28, 5)] _) hc0 rfl) rfl) hRTRm233
                  have hRWDm257 := zR_WD_fr (zdis_fr (zfr_up hmm257 (zfr_rf [(28, 5)] _) hc0 rfl) rfl) hRWDm233
                  have hRLRm257 := zLR_wr (zone_190 hc0) hmm257 (by decide)
                  have r258 : 0 ≤ (m257 a0 10) ∧ (m257 a0 10) ≤ 700 := zi_rd hIm257 hc0 zb_28_10
                  generalize hmm259 : zu_up m257 a0 5 (m257 a0 10) = m259
                  have hIm259 := zi_up hmm259 hIm257 hc0 zb_28_5 (by omega) (by omega)
                  have hFm259 := zfr_up hmm259 hFm257 hc0 rfl
                  have hRC0m259 := zR_C0_fr (zdis_fr (zfr_up hmm259 (zfr_rf [(28, 6)] _) hc0 rfl) rfl) hRC0m257
                  have hRCRm259 := zR_CR_fr (zdis_fr (zfr_up hmm259 (zfr_rf [(28, 6)] _) hc0 rfl) rfl) hRCRm257
                  have hRKNm259 := zR_KN_fr (zdis_fr (zfr_up hmm259 (zfr_rf [(28, 6)] _) hc0 rfl) rfl) hRKNm257
                  have hRLRm259 := zR_LR_fr (zdis_fr (zfr_up hmm259 (zfr_rf [(28, 6)] _) hc0 rfl) rfl) hRLRm257
                  have hRLTm259 := zR_LT_fr (zdis_fr (zfr_up hmm259 (zfr_rf [(28, 6)] _) hc0 rfl) rfl) hRLTm257
                  have hRNSm259 := zR_NS_fr (zdis_fr (zfr_up hmm259 (zfr_rf [(28, 6)] _) hc0 rfl) rfl) hRNSm257
                  have hRTRm259 := zR_TR_fr (zdis_fr (zfr_up hmm259 (zfr_rf [(28, 6)] _) hc0 rfl) rfl) hRTRm257
                  have hRWDm259 := zR_WD_fr (zdis_fr (zfr_up hmm259 (zfr_rf [(28, 6)] _) hc0 rfl) rfl) hRWDm257
                  refine zw_b (by omega) ?_
                  refine zw_some ?_
                  refine zw_b (by omega) ?_
                  have r260 : 0 ≤ (m259 a0 7) ∧ (m259 a0 7) ≤ 700 := zi_rd hIm259 hc0 zb_28_7
                  have e261 : (m259 a0 7) = (m233 a0 7) := (Eq.trans (zs_ne hmm259 (Or.inr (by decide))) (zs_ne hmm257 (Or.inr (by decide))))
                  have r262 : 0 ≤ (m259 a0 21) ∧ (m259 a0 21) ≤ 64 := zi_rd hIm259 hc0 zb_28_21
                  have e263 : (m259 a0 21) = (m0 a0 21) := (Eq.trans (zs_ne hmm259 (Or.inr (by decide))) (Eq.trans (zs_ne hmm257 (Or.inr (by decide))) (zfr_ap hfm233 hc0 rfl)))
                  have r264 : 0 ≤ (m259 a0 48) ∧ (m259 a0 48) ≤ 64 := zi_rd hIm259 hc0 zb_28_48
                  have e265 : (m259 a0 48) = (m0 a0 48) := (Eq.trans (zs_ne hmm259 (Or.inr (by decide))) (Eq.trans (zs_ne hmm257 (Or.inr (by decide))) (zfr_ap hfm233 hc0 rfl)))
                  have r266 : (-2147483648) ≤ (m259 a0 4) ∧ (m259 a0 4) ≤ 2147483647 := zi_rd hIm259 hc0 zb_28_4
                  have e267 : (m259 a0 4) = 1 := (Eq.trans (zs_ne hmm259 (Or.inr (by decide))) (zs_eq hmm257))
                  exact zw_some ⟨hIm259, hFm259, hRC0m259, hRCRm259, hRKNm259, hRLRm259, hRLTm259, hRNSm259, hRTRm259, hRWDm259, ⟨by omega, by omega⟩, by omega, by omega, by omega⟩
              · refine zw_b (by omega) ?_
                refine zw_some ?_
                refine zw_ite (fun h268 => ?_) (fun h268 => ?_)
                · refine zw_bd (zw_mono (zk_89 n hIm233 hc0 hRNSm233 hRWDm233) (fun v270 m269 hqm269 => ?_))
                  obtain ⟨hIm269, hfm269, hvm269⟩ := hqm269
                  have hFm269 := zfr_tr hFm233 hfm269 rfl
                  obtain ⟨hRNSm269, hRTRm269, hRWDm269, hvm269⟩ := hvm269
                  have hRC0m269 := zR_C0_fr (zdis_fr hfm269 rfl) hRC0m233
                  have hRCRm269 := zR_CR_fr (zdis_fr hfm269 rfl) hRCRm233
                  have hRKNm269 := zR_KN_fr (zdis_fr hfm269 rfl) hRKNm233
                  have hRLRm269 := zR_LR_fr (zdis_fr hfm269 rfl) hRLRm233
                  have hRLTm269 := zR_LT_fr (zdis_fr hfm269 rfl) hRLTm233
                  have s271 := hRNSm269 a0 hc0
                  have s272 := hRTRm269 a0 hc0
                  have r273 : 0 ≤ (m269 a0 7) ∧ (m269 a0 7) ≤ 700 := zi_rd hIm269 hc0 zb_28_7
                  have r274 : 0 ≤ (m269 a0 8) ∧ (m269 a0 8) ≤ 6 := zi_rd hIm269 hc0 zb_28_8
                  refine zw_b (by omega) ?_
                  have r275 : 0 ≤ (m269 a0 21) ∧ (m269 a0 21) ≤ 64 := zi_rd hIm269 hc0 zb_28_21
                  have e276 : (m269 a0 21) = (m0 a0 21) := (Eq.trans (zfr_ap hfm269 hc0 rfl) (zfr_ap hfm233 hc0 rfl))
                  have r277 : 0 ≤ (m269 a0 48) ∧ (m269 a0 48) ≤ 64 := zi_rd hIm269 hc0 zb_28_48
                  have e278 : (m269 a0 48) = (m0 a0 48) := (Eq.trans (zfr_ap hfm269 hc0 rfl) (zfr_ap hfm233 hc0 rfl))
                  have r279 : (-2147483648) ≤ (m269 a0 4) ∧ (m269 a0 4) ≤ 2147483647 := zi_rd hIm269 hc0 zb_28_4
                  have e280 : (m269 a0 4) = (m233 a0 4) := (zfr_ap hfm269 hc0 rfl)
                  exact zw_some ⟨hIm269, hFm269, hRC0m269, hRCRm269, hRKNm269, hRLRm269, hRLTm269, hRNSm269, hRTRm269, hRWDm269, ⟨by omega, by omega⟩, by omega, by omega, by omega⟩
                · exfalso; omega
          · refine zw_b (by omega) ?_
            have r281 : 0 ≤ (m233 a0 21) ∧ (m233 a0 21) ≤ 64 := zi_rd hIm233 hc0 zb_28_21
            have e282 : (m233 a0 21) = (m0 a0 21) := (zfr_ap hfm233 hc0 rfl)
            have r283 : 0 ≤ (m233 a0 48) ∧ (m233 a0 48) ≤ 64 := zi_rd hIm233 hc0 zb_28_48
            have e284 : (m233 a0 48) = (m0 a0 48) := (zfr_ap hfm233 hc0 rfl)
            exact zw_some ⟨hIm233, hFm233, hRC0m233, hRCRm233, hRKNm233, hRLRm233, hRLTm233, hRNSm233, hRTRm233, hRWDm233, ⟨by omega, by omega⟩, by omega, by omega, by omega⟩
      · refine zw_bd (zw_mono (zk_99 n hIm0 hc0 hRCRm0 hRLRm0 hRNSm0 hRTRm0 hRWDm0) (fun v286 m285 hqm285 => ?_))
        obtain ⟨hIm285, hfm285, hvm285⟩ := hqm285
        have hFm285 := zfr_tr hFm0 hfm285 rfl
        obtain ⟨hRCRm285, hRLRm285, hRNSm285, hRTRm285, hRWDm285, hvm285⟩ := hvm285
        have hRC0m285 := zR_C0_fr (zdis_fr hfm285 rfl) hRC0m0
        have hRKNm285 := zR_KN_fr (zdis_fr hfm285 rfl) hRKNm0
        have hRLTm285 := zR_LT_fr (zdis_fr hfm285 rfl) hRLTm0
        have s287 := hRNSm285 a0 hc0
        have s288 := hRTRm285 a0 hc0
        have r289 : 0 ≤ (m285 a0 7) ∧ (m285 a0 7) ≤ 700 := zi_rd hIm285 hc0 zb_28_7
        have r290 : 0 ≤ (m285 a0 8) ∧ (m285 a0 8) ≤ 6 := zi_rd hIm285 hc0 zb_28_8
        have r291 : (-2147483648) ≤ (m285 a0 4) ∧ (m285 a0 4) ≤ 2147483647 := zi_rd hIm285 hc0 zb_28_4
        refine zw_ite (fun h292 => ?_) (fun h292 => ?_)
        · refine zw_bd (zw_eq (zu_call_at (zt_T n) (zm_93 n) (zdp_93 n) _ _ _ _ _ rfl (zr_93_0 n _ _ a0 59 m285)) ?_)
          refine zw_ite (fun h293 => ?_) (fun h293 => ?_)
          · refine zw_b (by omega) ?_
            refine zw_some ?_
            refine zw_ite (fun h294 => ?_) (fun h294 => ?_)
            · exfalso; omega
            · refine zw_bd (zw_eq (zu_call_at (zt_T n) (zm_85 n) (zdp_85 n) _ _ _ _ _ rfl (zr_85_0 n _ _ a0 1 m285)) ?_)
              generalize hmm295 : zu_up m285 a0 4 1 = m295
              have hIm295 := zi_up hmm295 hIm285 hc0 zb_28_4 (by omega) (by omega)
              have hFm295 := zfr_up hmm295 hFm285 hc0 rfl
              have hRC0m295 := zR_C0_fr (zdis_fr (zfr_up hmm295 (zfr_rf [(28, 5)] _) hc0 rfl) rfl) hRC0m285
              have hRCRm295 := zR_CR_fr (zdis_fr (zfr_up hmm295 (zfr_rf [(28, 5)] _) hc0 rfl) rfl) hRCRm285
              have hRKNm295 := zR_KN_fr (zdis_fr (zfr_up hmm295 (zfr_rf [(28, 5)] _) hc0 rfl) rfl) hRKNm285
              have hRLTm295 := zR_LT_fr (zdis_fr (zfr_up hmm295 (zfr_rf [(28, 5)] _) hc0 rfl) rfl) hRLTm285
              have hRNSm295 := zR_NS_fr (zdis_fr (zfr_up hmm295 (zfr_rf [(28, 5)] _) hc0 rfl) rfl) hRNSm285
              have hRTRm295 := zR_TR_fr (zdis_fr (zfr_up hmm295 (zfr_rf [(28, 5)] _) hc0 rfl) rfl) hRTRm285
              have hRWDm295 := zR_WD_fr (zdis_fr (zfr_up hmm295 (zfr_rf [(28, 5)] _) hc0 rfl) rfl) hRWDm285
              have hRLRm295 := zLR_wr (zone_190 hc0) hmm295 (by decide)
              have r296 : 0 ≤ (m295 a0 10) ∧ (m295 a0 10) ≤ 700 := zi_rd hIm295 hc0 zb_28_10
              generalize hmm297 : zu_up m295 a0 5 (m295 a0 10) = m297
              have hIm297 := zi_up hmm297 hIm295 hc0 zb_28_5 (by omega) (by omega)
              have hFm297 := zfr_up hmm297 hFm295 hc0 rfl
              have hRC0m297 := zR_C0_fr (zdis_fr (zfr_up hmm297 (zfr_rf [(28, 6)] _) hc0 rfl) rfl) hRC0m295
              have hRCRm297 := zR_CR_fr (zdis_fr (zfr_up hmm297 (zfr_rf [(28, 6)] _) hc0 rfl) rfl) hRCRm295
              have hRKNm297 := zR_KN_fr (zdis_fr (zfr_up hmm297 (zfr_rf [(28, 6)] _) hc0 rfl) rfl) hRKNm295
              have hRLRm297 := zR_LR_fr (zdis_fr (zfr_up hmm297 (zfr_rf [(28, 6)] _) hc0 rfl) rfl) hRLRm295
              have hRLTm297 := zR_LT_fr (zdis_fr (zfr_up hmm297 (zfr_rf [(28, 6)] _) hc0 rfl) rfl) hRLTm295
              have hRNSm297 := zR_NS_fr (zdis_fr (zfr_up hmm297 (zfr_rf [(28, 6)] _) hc0 rfl) rfl) hRNSm295
              have hRTRm297 := zR_TR_fr (zdis_fr (zfr_up hmm297 (zfr_rf [(28, 6)] _) hc0 rfl) rfl) hRTRm295
              have hRWDm297 := zR_WD_fr (zdis_fr (zfr_up hmm297 (zfr_rf [(28, 6)] _) hc0 rfl) rfl) hRWDm295
              refine zw_b (by omega) ?_
              refine zw_some ?_
              refine zw_b (by omega) ?_
              have r298 : 0 ≤ (m297 a0 7) ∧ (m297 a0 7) ≤ 700 := zi_rd hIm297 hc0 zb_28_7
              have e299 : (m297 a0 7) = (m285 a0 7) := (Eq.trans (zs_ne hmm297 (Or.inr (by decide))) (zs_ne hmm295 (Or.inr (by decide))))
              have r300 : 0 ≤ (m297 a0 21) ∧ (m297 a0 21) ≤ 64 := zi_rd hIm297 hc0 zb_28_21
              have e301 : (m297 a0 21) = (m0 a0 21) := (Eq.trans (zs_ne hmm297 (Or.inr (by decide))) (Eq.trans (zs_ne hmm295 (Or.inr (by decide))) (zfr_ap hfm285 hc0 rfl)))
              have r302 : 0 ≤ (m297 a0 48) ∧ (m297 a0 48) ≤ 64 := zi_rd hIm297 hc0 zb_28_48
              have e303 : (m297 a0 48) = (m0 a0 48) := (Eq.trans (zs_ne hmm297 (Or.inr (by decide))) (Eq.trans (zs_ne hmm295 (Or.inr (by decide))) (zfr_ap hfm285 hc0 rfl)))
              have r304 : (-2147483648) ≤ (m297 a0 4) ∧ (m297 a0 4) ≤ 2147483647 := zi_rd hIm297 hc0 zb_28_4
              have e305 : (m297 a0 4) = 1 := (Eq.trans (zs_ne hmm297 (Or.inr (by decide))) (zs_eq hmm295))
              exact zw_some ⟨hIm297, hFm297, hRC0m297, hRCRm297, hRKNm297, hRLRm297, hRLTm297, hRNSm297, hRTRm297, hRWDm297, ⟨by omega, by omega⟩, by omega, by omega, by omega⟩
          · have r306 : (-2147483648) ≤ (m285 a0 9) ∧ (m285 a0 9) ≤ 2147483647 := zi_rd hIm285 hc0 zb_28_9
            refine zw_ite (fun h307 => ?_) (fun h307 => ?_)
            · refine zw_b (by omega) ?_
              refine zw_some ?_
              refine zw_ite (fun h308 => ?_) (fun h308 => ?_)
              · exfalso; omega
              · refine zw_bd (zw_eq (zu_call_at (zt_T n) (zm_85 n) (zdp_85 n) _ _ _ _ _ rfl (zr_85_0 n _ _ a0 1 m285)) ?_)
                generalize hmm309 : zu_up m285 a0 4 1 = m309
                have hIm309 := zi_up hmm309 hIm285 hc0 zb_28_4 (by omega) (by omega)
                have hFm309 := zfr_up hmm309 hFm285 hc0 rfl
                have hRC0m309 := zR_C0_fr (zdis_fr (zfr_up hmm309 (zfr_rf [(28, 5)] _) hc0 rfl) rfl) hRC0m285
                have hRCRm309 := zR_CR_fr (zdis_fr (zfr_up hmm309 (zfr_rf [(28, 5)] _) hc0 rfl) rfl) hRCRm285
                have hRKNm309 := zR_KN_fr (zdis_fr (zfr_up hmm309 (zfr_rf [(28, 5)] _) hc0 rfl) rfl) hRKNm285
                have hRLTm309 := zR_LT_fr (zdis_fr (zfr_up hmm309 (zfr_rf [(28, 5)] _) hc0 rfl) rfl) hRLTm285
                have hRNSm309 := zR_NS_fr (zdis_fr (zfr_up hmm309 (zfr_rf [(28, 5)] _) hc0 rfl) rfl) hRNSm285
                have hRTRm309 := zR_TR_fr (zdis_fr (zfr_up hmm309 (zfr_rf [(28, 5)] _) hc0 rfl) rfl) hRTRm285
                have hRWDm309 := zR_WD_fr (zdis_fr (zfr_up hmm309 (zfr_rf [(28, 5)] _) hc0 rfl) rfl) hRWDm285
                have hRLRm309 := zLR_wr (zone_190 hc0) hmm309 (by decide)
                have r310 : 0 ≤ (m309 a0 10) ∧ (m309 a0 10) ≤ 700 := zi_rd hIm309 hc0 zb_28_10
                generalize hmm311 : zu_up m309 a0 5 (m309 a0 10) = m311
                have hIm311 := zi_up hmm311 hIm309 hc0 zb_28_5 (by omega) (by omega)
                have hFm311 := zfr_up hmm311 hFm309 hc0 rfl
                have hRC0m311 := zR_C0_fr (zdis_fr (zfr_up hmm311 (zfr_rf [(28, 6)] _) hc0 rfl) rfl) hRC0m309
                have hRCRm311 := zR_CR_fr (zdis_fr (zfr_up hmm311 (zfr_rf [(28, 6)] _) hc0 rfl) rfl) hRCRm309
                have hRKNm311 := zR_KN_fr (zdis_fr (zfr_up hmm311 (zfr_rf [(28, 6)] _) hc0 rfl) rfl) hRKNm309
                have hRLRm311 := zR_LR_fr (zdis_fr (zfr_up hmm311 (zfr_rf [(28, 6)] _) hc0 rfl) rfl) hRLRm309
                have hRLTm311 := zR_LT_fr (zdis_fr (zfr_up hmm311 (zfr_rf [(28, 6)] _) hc0 rfl) rfl) hRLTm309
                have hRNSm311 := zR_NS_fr (zdis_fr (zfr_up hmm311 (zfr_rf [(28, 6)] _) hc0 rfl) rfl) hRNSm309
                have hRTRm311 := zR_TR_fr (zdis_fr (zfr_up hmm311 (zfr_rf [(28, 6)] _) hc0 rfl) rfl) hRTRm309
                have hRWDm311 := zR_WD_fr (zdis_fr (zfr_up hmm311 (zfr_rf [(28, 6)] _) hc0 rfl) rfl) hRWDm309
                refine zw_b (by omega) ?_
                refine zw_some ?_
                refine zw_b (by omega) ?_
                have r312 : 0 ≤ (m311 a0 7) ∧ (m311 a0 7) ≤ 700 := zi_rd hIm311 hc0 zb_28_7
                have e313 : (m311 a0 7) = (m285 a0 7) := (Eq.trans (zs_ne hmm311 (Or.inr (by decide))) (zs_ne hmm309 (Or.inr (by decide))))
                have r314 : 0 ≤ (m311 a0 21) ∧ (m311 a0 21) ≤ 64 := zi_rd hIm311 hc0 zb_28_21
                have e315 : (m311 a0 21) = (m0 a0 21) := (Eq.trans (zs_ne hmm311 (Or.inr (by decide))) (Eq.trans (zs_ne hmm309 (Or.inr (by decide))) (zfr_ap hfm285 hc0 rfl)))
                have r316 : 0 ≤ (m311 a0 48) ∧ (m311 a0 48) ≤ 64 := zi_rd hIm311 hc0 zb_28_48
                have e317 : (m311 a0 48) = (m0 a0 48) := (Eq.trans (zs_ne hmm311 (Or.inr (by decide))) (Eq.trans (zs_ne hmm309 (Or.inr (by decide))) (zfr_ap hfm285 hc0 rfl)))
                have r318 : (-2147483648) ≤ (m311 a0 4) ∧ (m311 a0 4) ≤ 2147483647 := zi_rd hIm311 hc0 zb_28_4
                have e319 : (m311 a0 4) = 1 := (Eq.trans (zs_ne hmm311 (Or.inr (by decide))) (zs_eq hmm309))
                exact zw_some ⟨hIm311, hFm311, hRC0m311, hRCRm311, hRKNm311, hRLRm311, hRLTm311, hRNSm311, hRTRm311, hRWDm311, ⟨by omega, by omega⟩, by omega, by omega, by omega⟩
            · refine zw_b (by omega) ?_
              refine zw_some ?_
              refine zw_ite (fun h320 => ?_) (fun h320 => ?_)
              · refine zw_bd (zw_mono (zk_89 n hIm285 hc0 hRNSm285 hRWDm285) (fun v322 m321 hqm321 => ?_))
                obtain ⟨hIm321, hfm321, hvm321⟩ := hqm321
                have hFm321 := zfr_tr hFm285 hfm321 rfl
                obtain ⟨hRNSm321, hRTRm321, hRWDm321, hvm321⟩ := hvm321
                have hRC0m321 := zR_C0_fr (zdis_fr hfm321 rfl) hRC0m285
                have hRCRm321 := zR_CR_fr (zdis_fr hfm321 rfl) hRCRm285
                have hRKNm321 := zR_KN_fr (zdis_fr hfm321 rfl) hRKNm285
                have hRLRm321 := zR_LR_fr (zdis_fr hfm321 rfl) hRLRm285
                have hRLTm321 := zR_LT_fr (zdis_fr hfm321 rfl) hRLTm285
                have s323 := hRNSm321 a0 hc0
                have s324 := hRTRm321 a0 hc0
                have r325 : 0 ≤ (m321 a0 7) ∧ (m321 a0 7) ≤ 700 := zi_rd hIm321 hc0 zb_28_7
                have r326 : 0 ≤ (m321 a0 8) ∧ (m321 a0 8) ≤ 6 := zi_rd hIm321 hc0 zb_28_8
                refine zw_b (by omega) ?_
                have r327 : 0 ≤ (m321 a0 21) ∧ (m321 a0 21) ≤ 64 := zi_rd hIm321 hc0 zb_28_21
                have e328 : (m321 a0 21) = (m0 a0 21) := (Eq.trans (zfr_ap hfm321 hc0 rfl) (zfr_ap hfm285 hc0 rfl))
                have r329 : 0 ≤ (m321 a0 48) ∧ (m321 a0 48) ≤ 64 := zi_rd hIm321 hc0 zb_28_48
                have e330 : (m321 a0 48) = (m0 a0 48) := (Eq.trans (zfr_ap hfm321 hc0 rfl) (zfr_ap hfm285 hc0 rfl))
                have r331 : (-2147483648) ≤ (m321 a0 4) ∧ (m321 a0 4) ≤ 2147483647 := zi_rd hIm321 hc0 zb_28_4
                have e332 : (m321 a0 4) = (m285 a0 4) := (zfr_ap hfm321 hc0 rfl)
                exact zw_some ⟨hIm321, hFm321, hRC0m321, hRCRm321, hRKNm321, hRLRm321, hRLTm321, hRNSm321, hRTRm321, hRWDm321, ⟨by omega, by omega⟩, by omega, by omega, by omega⟩
              · exfalso; omega
        · refine zw_b (by omega) ?_
          have r333 : 0 ≤ (m285 a0 21) ∧ (m285 a0 21) ≤ 64 := zi_rd hIm285 hc0 zb_28_21
          have e334 : (m285 a0 21) = (m0 a0 21) := (zfr_ap hfm285 hc0 rfl)
          have r335 : 0 ≤ (m285 a0 48) ∧ (m285 a0 48) ≤ 64 := zi_rd hIm285 hc0 zb_28_48
          have e336 : (m285 a0 48) = (m0 a0 48) := (zfr_ap hfm285 hc0 rfl)
          exact zw_some ⟨hIm285, hFm285, hRC0m285, hRCRm285, hRKNm285, hRLRm285, hRLTm285, hRNSm285, hRTRm285, hRWDm285, ⟨by omega, by omega⟩, by omega, by omega, by omega⟩
    · refine zw_bd (zw_eq (zu_call_at (zt_T n) (zm_85 n) (zdp_85 n) _ _ _ _ _ rfl (zr_85_0 n _ _ a0 1 m0)) ?_)
      generalize hmm337 : zu_up m0 a0 4 1 = m337
      have hIm337 := zi_up hmm337 hIm0 hc0 zb_28_4 (by omega) (by omega)
      have hFm337 := zfr_up hmm337 hFm0 hc0 rfl
      have hRC0m337 := zR_C0_fr (zdis_fr (zfr_up hmm337 (zfr_rf [(28, 5)] _) hc0 rfl) rfl) hRC0m0
      have hRCRm337 := zR_CR_fr (zdis_fr (zfr_up hmm337 (zfr_rf [(28, 5)] _) hc0 rfl) rfl) hRCRm0
      have hRKNm337 := zR_KN_fr (zdis_fr (zfr_up hmm337 (zfr_rf [(28, 5)] _) hc0 rfl) rfl) hRKNm0
      have hRLTm337 := zR_LT_fr (zdis_fr (zfr_up hmm337 (zfr_rf [(28, 5)] _) hc0 rfl) rfl) hRLTm0
      have hRNSm337 := zR_NS_fr (zdis_fr (zfr_up hmm337 (zfr_rf [(28, 5)] _) hc0 rfl) rfl) hRNSm0
      have hRTRm337 := zR_TR_fr (zdis_fr (zfr_up hmm337 (zfr_rf [(28, 5)] _) hc0 rfl) rfl) hRTRm0
      have hRWDm337 := zR_WD_fr (zdis_fr (zfr_up hmm337 (zfr_rf [(28, 5)] _) hc0 rfl) rfl) hRWDm0
      have hRLRm337 := zLR_wr (zone_190 hc0) hmm337 (by decide)
      have r338 : 0 ≤ (m337 a0 10) ∧ (m337 a0 10) ≤ 700 := zi_rd hIm337 hc0 zb_28_10
      generalize hmm339 : zu_up m337 a0 5 (m337 a0 10) = m339
      have hIm339 := zi_up hmm339 hIm337 hc0 zb_28_5 (by omega) (by omega)
      have hFm339 := zfr_up hmm339 hFm337 hc0 rfl
      have hRC0m339 := zR_C0_fr (zdis_fr (zfr_up hmm339 (zfr_rf [(28, 6)] _) hc0 rfl) rfl) hRC0m337
      have hRCRm339 := zR_CR_fr (zdis_fr (zfr_up hmm339 (zfr_rf [(28, 6)] _) hc0 rfl) rfl) hRCRm337
      have hRKNm339 := zR_KN_fr (zdis_fr (zfr_up hmm339 (zfr_rf [(28, 6)] _) hc0 rfl) rfl) hRKNm337
      have hRLRm339 := zR_LR_fr (zdis_fr (zfr_up hmm339 (zfr_rf [(28, 6)] _) hc0 rfl) rfl) hRLRm337
      have hRLTm339 := zR_LT_fr (zdis_fr (zfr_up hmm339 (zfr_rf [(28, 6)] _) hc0 rfl) rfl) hRLTm337
      have hRNSm339 := zR_NS_fr (zdis_fr (zfr_up hmm339 (zfr_rf [(28, 6)] _) hc0 rfl) rfl) hRNSm337
      have hRTRm339 := zR_TR_fr (zdis_fr (zfr_up hmm339 (zfr_rf [(28, 6)] _) hc0 rfl) rfl) hRTRm337
      have hRWDm339 := zR_WD_fr (zdis_fr (zfr_up hmm339 (zfr_rf [(28, 6)] _) hc0 rfl) rfl) hRWDm337
      refine zw_b (by omega) ?_
      refine zw_some ?_
      refine zw_b (by omega) ?_
      have r340 : 0 ≤ (m339 a0 7) ∧ (m339 a0 7) ≤ 700 := zi_rd hIm339 hc0 zb_28_7
      have e341 : (m339 a0 7) = (m0 a0 7) := (Eq.trans (zs_ne hmm339 (Or.inr (by decide))) (zs_ne hmm337 (Or.inr (by decide))))
      have r342 : 0 ≤ (m339 a0 21) ∧ (m339 a0 21) ≤ 64 := zi_rd hIm339 hc0 zb_28_21
      have e343 : (m339 a0 21) = (m0 a0 21) := (Eq.trans (zs_ne hmm339 (Or.inr (by decide))) (zs_ne hmm337 (Or.inr (by decide))))
      have r344 : 0 ≤ (m339 a0 48) ∧ (m339 a0 48) ≤ 64 := zi_rd hIm339 hc0 zb_28_48
      have e345 : (m339 a0 48) = (m0 a0 48) := (Eq.trans (zs_ne hmm339 (Or.inr (by decide))) (zs_ne hmm337 (Or.inr (by decide))))
      have r346 : (-2147483648) ≤ (m339 a0 4) ∧ (m339 a0 4) ≤ 2147483647 := zi_rd hIm339 hc0 zb_28_4
      have e347 : (m339 a0 4) = 1 := (Eq.trans (zs_ne hmm339 (Or.inr (by decide))) (zs_eq hmm337))
      exact zw_some ⟨hIm339, hFm339, hRC0m339, hRCRm339, hRKNm339, hRLRm339, hRLTm339, hRNSm339, hRTRm339, hRWDm339, ⟨by omega, by omega⟩, by omega, by omega, by omega⟩
set_option maxHeartbeats 4000000 in
theorem zk_131 (n : Nat) {a0 a1 a2 a3 : Int} {m0 : zu_m} (hIm0 : zi_I m0) (hc0 : zcls a0 = 28) (ha1 : 0 ≤ a1 ∧ a1 ≤ 1) (ha2 : 0 ≤ a2 ∧ a2 ≤ 3) (ha3 : 0 ≤ a3 ∧ a3 ≤ 17)    (hRKNm0 : zR_KN m0) (hRLTm0 : zR_LT m0) : zw (zu_call (zt_T n) 131 [(40, a0), (0, a1), (0, a2), (0, a3)] m0) (fun v m => zi_I m ∧ zfr [(28, 54), (122, 0), (123, 0)] m0 m ∧ zR_KN m ∧ zR_LT m ∧ ((-2147483648) ≤ v ∧ v ≤ 2147483647)) := by
  have hFm0 : zfr [(28, 54), (122, 0), (123, 0)] m0 m0 := zfr_rf _ _
  refine zw_eq (zu_call_at (zt_T n) (zm_131 n) (zdp_131 n) _ _ _ _ _ rfl (zr_131_0 n _ _ a0 a1 a2 a3 m0)) ?_
  have b1 : 0 ≤ a3 ∧ a3 < 36 := by omega
  refine zw_if b1 ?_
  have r2 : 0 ≤ (m0 198 a3) ∧ (m0 198 a3) ≤ 3 := zi_rd hIm0 zq_198 (zb_107 _)
  have b3 : 0 ≤ a3 ∧ a3 < 36 := by omega
  refine zw_if b3 ?_
  have r4 : 0 ≤ (m0 199 a3) ∧ (m0 199 a3) ≤ 9 := zi_rd hIm0 zq_199 (zb_108 _)
  have b5 : 0 ≤ a3 ∧ a3 < 36 := by omega
  refine zw_if b5 ?_
  have r6 : 0 ≤ (m0 197 a3) ∧ (m0 197 a3) ≤ 47 := zi_rd hIm0 zq_197 (zb_106 _)
  refine zw_bd (zw_mono (zk_130 n hIm0 hc0 ⟨by omega, by omega⟩ ⟨by omega, by omega⟩) (fun v8 m7 hqm7 => ?_))
  obtain ⟨hIm7, hfm7, hvm7⟩ := hqm7
  have hFm7 := zfr_tr hFm0 hfm7 rfl
  have hRKNm7 := zR_KN_fr (zdis_fr hfm7 rfl) hRKNm0
  have hRLTm7 := zR_LT_fr (zdis_fr hfm7 rfl) hRLTm0
  refine zw_bd (zw_mono (zk_129 n hIm7 hc0 ⟨by omega, by omega⟩ ⟨by omega, by omega⟩ ⟨by omega, by omega⟩ ⟨by omega, by omega⟩ ⟨by omega, by omega⟩ hRKNm7 hRLTm7) (fun v10 m9 hqm9 => ?_))
  obtain ⟨hIm9, hfm9, hvm9⟩ := hqm9
  have hFm9 := zfr_tr hFm7 hfm9 rfl
  obtain ⟨hRKNm9, hRLTm9, hvm9⟩ := hvm9
  exact zw_some ⟨hIm9, hFm9, hRKNm9, hRLTm9, ⟨by omega, by omega⟩⟩
set_option maxHeartbeats 4000000 in
theorem zk_138 (n : Nat) {a0 a1 a2 a3 : Int} {m0 : zu_m} (hIm0 : zi_I m0) (hc0 : zcls a0 = 28) (ha1 : 0 ≤ a1 ∧ a1 ≤ 3) (ha2 : 0 ≤ a2 ∧ a2 ≤ 47) (ha3 : (-2147483648) ≤ a3 ∧ a3 ≤ 2147483647)    (hRKNm0 : zR_KN m0) (hRLTm0 : zR_LT m0) : zw (zu_call (zt_T n) 138 [(40, a0), (0, a1), (0, a2), (0, a3)] m0) (fun v m => zi_I m ∧ zfr [(28, 54), (122, 0), (123, 0)] m0 m ∧ zR_KN m ∧ zR_LT m ∧ ((-2147483648) ≤ v ∧ v ≤ 2147483647)) := by
  have hFm0 : zfr [(28, 54), (122, 0), (123, 0)] m0 m0 := zfr_rf _ _
  refine zw_eq (zu_call_at (zt_T n) (zm_138 n) (zdp_138 n) _ _ _ _ _ rfl (zr_138_0 n _ _ a0 a1 a2 a3 m0)) ?_
  refine zw_bd (zw_mono (zk_129 n hIm0 hc0 ⟨by omega, by omega⟩ ⟨by omega, by omega⟩ ⟨by omega, by omega⟩ ⟨by omega, by omega⟩ ⟨by omega, by omega⟩ hRKNm0 hRLTm0) (fun v2 m1 hqm1 => ?_))
  obtain ⟨hIm1, hfm1, hvm1⟩ := hqm1
  have hFm1 := zfr_tr hFm0 hfm1 rfl
  obtain ⟨hRKNm1, hRLTm1, hvm1⟩ := hvm1
  have w3 := zu_w32_rg (100 - v2)
  have w4 := zu_w64_rg (a3 * (zu_w32 (100 - v2)))
  refine zw_nif (by omega) ?_
  have w5 := zu_w64_rg (Int.tdiv (zu_w64 (a3 * (zu_w32 (100 - v2)))) 100)
  have w6 := zu_w32_rg (zu_w64 (Int.tdiv (zu_w64 (a3 * (zu_w32 (100 - v2)))) 100))
  exact zw_some ⟨hIm1, hFm1, hRKNm1, hRLTm1, ⟨by omega, by omega⟩⟩
set_option maxHeartbeats 4000000 in
theorem zl_145 (n : Nat) {a0 a1 a2 : Int} {m0 : zu_m} (hc0 : zcls a0 = 28)   : ∀ k : Nat, (∀ (x3 x4 : Int) (mh : zu_m), zi_I mh → zfr [(28, 3), (28, 54), (122, 0), (123, 0)] m0 mh → (0 ≤ a1 ∧ a1 ≤ 3) → (2 ≤ a2 ∧ a2 ≤ 2) → ((-2147483648) ≤ x3 ∧ x3 ≤ 2147483647) → (0 ≤ x4 ∧ x4 ≤ 16) → (1 ≤ mh a0 15 ∧ mh a0 15 ≤ 4) → (0 ≤ mh a0 2 ∧ mh a0 2 ≤ 0) → (zR_KN mh) → (zR_LT mh) → (16 - x4) * 1 + 17 < (k : Int) → zw (zu_ex (zt_T n) 145 69 [(40, a0), (0, a1), (0, a2), (0, x3), (0, x4)] [] mh) (fun v m => zi_I m ∧ zfr [(28, 3), (28, 54), (122, 0), (123, 0)] m0 m ∧ zR_KN m ∧ zR_LT m ∧ ((-2147483648) ≤ v ∧ v ≤ 2147483647) ∧ (0 ≤ m a0 2 ∧ m a0 2 ≤ 0))) ∧ (∀ (x3 x4 : Int) (mh : zu_m), zi_I mh → zfr [(28, 3), (28, 54), (122, 0), (123, 0)] m0 mh → (0 ≤ a1 ∧ a1 ≤ 3) → (4 ≤ a2 ∧ a2 ≤ 4) → ((-2147483648) ≤ x3 ∧ x3 ≤ 2147483647) → (0 ≤ x4 ∧ x4 ≤ 16) → (1 ≤ mh a0 15 ∧ mh a0 15 ≤ 4) → (0 ≤ mh a0 2 ∧ mh a0 2 ≤ 0) → (zR_KN mh) → (zR_LT mh) → (16 - x4) * 1 + 0 < (k : Int) → zw (zu_ex (zt_T n) 145 120 [(40, a0), (0, a1), (0, a2), (0, x3), (0, x4)] [] mh) (fun v m => zi_I m ∧ zfr [(28, 3), (28, 54), (122, 0), (123, 0)] m0 m ∧ zR_KN m ∧ zR_LT m ∧ ((-2147483648) ≤ v ∧ v ≤ 2147483647) ∧ (0 ≤ m a0 2 ∧ m a0 2 ≤ 0))) := by
  intro k
  induction k with
  | zero => exact ⟨fun x3 x4 mh hImh hFmh hba1 hba2 hbx3 hbx4 hg4 hg5 hRKNmh hRLTmh hM => by exfalso; omega, fun x3 x4 mh hImh hFmh hba1 hba2 hbx3 hbx4 hg4 hg5 hRKNmh hRLTmh hM => by exfalso; omega⟩
  | succ k ih =>
    refine ⟨?_, ?_⟩
    · intro x3 x4 mh hImh hFmh hba1 hba2 hbx3 hbx4 hg4 hg5 hRKNmh hRLTmh hM
      refine zw_eq (zu_rega_at (zt_T n) (zm_145 n) (zdp_145 n) _ _ _ _ _ _ (zr_145_69 n _ _ a0 a1 a2 x3 x4 mh)) ?_
      have b1 : 0 ≤ (0 : Int) ∧ (0 : Int) < 2 := by omega
      refine zw_if b1 ?_
      have r2 : 0 ≤ (mh 216 0) ∧ (mh 216 0) ≤ 16 := zi_rdr (m := 2) (r0 := 0) (r1 := 0) hImh zq_216 (by omega) (by decide +kernel)
      refine zw_ite (fun h3 => ?_) (fun h3 => ?_)
      · exact zw_some ⟨hImh, hFmh, hRKNmh, hRLTmh, ⟨by omega, by omega⟩, ⟨by omega, by omega⟩⟩
      · have b4 : 0 ≤ x4 ∧ x4 < 36 := by omega
        refine zw_if b4 ?_
        have r5 : (-3) ≤ (mh 215 x4) ∧ (mh 215 x4) ≤ 3 := zi_rd hImh zq_215 (zb_124 _)
        refine zw_ite (fun h6 => ?_) (fun h6 => ?_)
        · have b7 := zu_i32_rg 4 x3 0
          have w8 := zu_w32_id (z := x4 + 1) (by omega) (by omega)
          have hM : (16 - (zu_w32 (x4 + 1))) * 1 + 17 < (k : Int) := by omega
          exact ih.1 (zu_i32 4 x3 0) (zu_w32 (x4 + 1)) mh hImh hFmh ⟨by omega, by omega⟩ ⟨by omega, by omega⟩ ⟨by omega, by omega⟩ ⟨by omega, by omega⟩ ⟨by omega, by omega⟩ ⟨by omega, by omega⟩ hRKNmh hRLTmh hM
        · have b9 := zu_i32_rg 5 1 x4
          have b10 := zu_i32_rg 4 x3 (zu_i32 5 1 x4)
          have w11 := zu_w32_id (z := x4 + 1) (by omega) (by omega)
          have hM : (16 - (zu_w32 (x4 + 1))) * 1 + 17 < (k : Int) := by omega
          exact ih.1 (zu_i32 4 x3 (zu_i32 5 1 x4)) (zu_w32 (x4 + 1)) mh hImh hFmh ⟨by omega, by omega⟩ ⟨by omega, by omega⟩ ⟨by omega, by omega⟩ ⟨by omega, by omega⟩ ⟨by omega, by omega⟩ ⟨by omega, by omega⟩ hRKNmh hRLTmh hM
    · intro x3 x4 mh hImh hFmh hba1 hba2 hbx3 hbx4 hg4 hg5 hRKNmh hRLTmh hM
      refine zw_eq (zu_rega_at (zt_T n) (zm_145 n) (zdp_145 n) _ _ _ _ _ _ (zr_145_120 n _ _ a0 a1 a2 x3 x4 mh)) ?_
      have b12 : 0 ≤ (0 : Int) ∧ (0 : Int) < 2 := by omega
      refine zw_if b12 ?_
      have r13 : 0 ≤ (mh 216 0) ∧ (mh 216 0) ≤ 16 := zi_rdr (m := 2) (r0 := 0) (r1 := 0) hImh zq_216 (by omega) (by decide +kernel)
      refine zw_ite (fun h14 => ?_) (fun h14 => ?_)
      · exact zw_some ⟨hImh, hFmh, hRKNmh, hRLTmh, ⟨by omega, by omega⟩, ⟨by omega, by omega⟩⟩
      · have b15 : 0 ≤ x4 ∧ x4 < 36 := by omega
        refine zw_if b15 ?_
        have r16 : (-3) ≤ (mh 215 x4) ∧ (mh 215 x4) ≤ 3 := zi_rd hImh zq_215 (zb_124 _)
        refine zw_ite (fun h17 => ?_) (fun h17 => ?_)
        · have w18 := zu_w32_id (z := x3 + 0) (by omega) (by omega)
          have w19 := zu_w32_id (z := x4 + 1) (by omega) (by omega)
          have hM : (16 - (zu_w32 (x4 + 1))) * 1 + 0 < (k : Int) := by omega
          exact ih.2 (zu_w32 (x3 + 0)) (zu_w32 (x4 + 1)) mh hImh hFmh ⟨by omega, by omega⟩ ⟨by omega, by omega⟩ ⟨by omega, by omega⟩ ⟨by omega, by omega⟩ ⟨by omega, by omega⟩ ⟨by omega, by omega⟩ hRKNmh hRLTmh hM
        · refine zw_bd (zw_mono (zk_132 n hImh hc0 ⟨by omega, by omega⟩ ⟨by omega, by omega⟩ hRKNmh hRLTmh) (fun v21 m20 hqm20 => ?_))
          obtain ⟨hIm20, hfm20, hvm20⟩ := hqm20
          have hFm20 := zfr_tr hFmh hfm20 rfl
          obtain ⟨hRKNm20, hRLTm20, hvm20⟩ := hvm20
          have w22 := zu_w32_rg (x3 + v21)
          have w23 := zu_w32_id (z := x4 + 1) (by omega) (by omega)
          have r24 : (-2147483648) ≤ (m20 a0 2) ∧ (m20 a0 2) ≤ 2147483647 := zi_rd hIm20 hc0 zb_28_2
          have e25 : (m20 a0 2) = (mh a0 2) := (zfr_ap hfm20 hc0 rfl)
          have r26 : 0 ≤ (m20 a0 15) ∧ (m20 a0 15) ≤ 4 := zi_rd hIm20 hc0 zb_28_15
          have e27 : (m20 a0 15) = (mh a0 15) := (zfr_ap hfm20 hc0 rfl)
          have hM : (16 - (zu_w32 (x4 + 1))) * 1 + 0 < (k : Int) := by omega
          exact ih.2 (zu_w32 (x3 + v21)) (zu_w32 (x4 + 1)) m20 hIm20 hFm20 ⟨by omega, by omega⟩ ⟨by omega, by omega⟩ ⟨by omega, by omega⟩ ⟨by omega, by omega⟩ ⟨by omega, by omega⟩ ⟨by omega, by omega⟩ hRKNm20 hRLTm20 hM
set_option maxHeartbeats 4000000 in
theorem zk_145 (n : Nat) {a0 a1 a2 : Int} {m0 : zu_m} (hIm0 : zi_I m0) (hc0 : zcls a0 = 28) (ha1 : (-2147483648) ≤ a1 ∧ a1 ≤ 2147483647) (ha2 : (-2147483648) ≤ a2 ∧ a2 ≤ 2147483647)    (hRKNm0 : zR_KN m0) (hRLTm0 : zR_LT m0) : zw (zu_call (zt_T n) 145 [(40, a0), (0, a1), (0, a2)] m0) (fun v m => zi_I m ∧ zfr [(28, 3), (28, 54), (122, 0), (123, 0)] m0 m ∧ zR_KN m ∧ zR_LT m ∧ ((-2147483648) ≤ v ∧ v ≤ 2147483647) ∧ (0 ≤ m a0 2 ∧ m a0 2 ≤ 0)) := by
  have hFm0 : zfr [(28, 3), (28, 54), (122, 0), (123, 0)] m0 m0 := zfr_rf _ _
  refine zw_eq (zu_call_at (zt_T n) (zm_145 n) (zdp_145 n) _ _ _ _ _ rfl (zr_145_0 n _ _ a0 a1 a2 m0)) ?_
  generalize hmm28 : zu_up m0 a0 2 0 = m28
  have hIm28 := zi_up hmm28 hIm0 hc0 zb_28_2 (by omega) (by omega)
  have hFm28 := zfr_up hmm28 hFm0 hc0 rfl
  have hRKNm28 := zR_KN_fr (zdis_fr (zfr_up hmm28 (zfr_rf [(28, 3)] _) hc0 rfl) rfl) hRKNm0
  have hRLTm28 := zR_LT_fr (zdis_fr (zfr_up hmm28 (zfr_rf [(28, 3)] _) hc0 rfl) rfl) hRLTm0
  refine zw_bd (zw_eq (zu_call_at (zt_T n) (zm_125 n) (zdp_125 n) _ _ _ _ _ rfl (zr_125_0 n _ _ a0 a1 m28)) ?_)
  refine zw_ite (fun h29 => ?_) (fun h29 => ?_)
  · refine zw_b (by omega) ?_
    refine zw_some ?_
    refine zw_ite (fun h30 => ?_) (fun h30 => ?_)
    · exfalso; omega
    · have r31 : (-2147483648) ≤ (m28 a0 2) ∧ (m28 a0 2) ≤ 2147483647 := zi_rd hIm28 hc0 zb_28_2
      have e32 : (m28 a0 2) = 0 := (zs_eq hmm28)
      exact zw_some ⟨hIm28, hFm28, hRKNm28, hRLTm28, ⟨by omega, by omega⟩, ⟨by omega, by omega⟩⟩
  · have r33 : 0 ≤ (m28 a0 15) ∧ (m28 a0 15) ≤ 4 := zi_rd hIm28 hc0 zb_28_15
    refine zw_ite (fun h34 => ?_) (fun h34 => ?_)
    · refine zw_b (by omega) ?_
      refine zw_some ?_
      refine zw_ite (fun h35 => ?_) (fun h35 => ?_)
      · exfalso; omega
      · have r36 : (-2147483648) ≤ (m28 a0 2) ∧ (m28 a0 2) ≤ 2147483647 := zi_rd hIm28 hc0 zb_28_2
        have e37 : (m28 a0 2) = 0 := (zs_eq hmm28)
        exact zw_some ⟨hIm28, hFm28, hRKNm28, hRLTm28, ⟨by omega, by omega⟩, ⟨by omega, by omega⟩⟩
    · refine zw_b (by omega) ?_
      refine zw_some ?_
      refine zw_ite (fun h38 => ?_) (fun h38 => ?_)
      · refine zw_ite (fun h39 => ?_) (fun h39 => ?_)
        · have b40 : 0 ≤ a1 ∧ a1 < 8 := by omega
          refine zw_if b40 ?_
          have r41 : 0 ≤ (m28 217 a1) ∧ (m28 217 a1) ≤ 47 := zi_rd hIm28 zq_217 (zb_126 _)
          have r42 : (-2147483648) ≤ (m28 a0 2) ∧ (m28 a0 2) ≤ 2147483647 := zi_rd hIm28 hc0 zb_28_2
          have e43 : (m28 a0 2) = 0 := (zs_eq hmm28)
          exact zw_some ⟨hIm28, hFm28, hRKNm28, hRLTm28, ⟨by omega, by omega⟩, ⟨by omega, by omega⟩⟩
        · refine zw_ite (fun h44 => ?_) (fun h44 => ?_)
          · refine zw_bd (zw_mono (zk_130 n hIm28 hc0 ⟨by omega, by omega⟩ ⟨by omega, by omega⟩) (fun v46 m45 hqm45 => ?_))
            obtain ⟨hIm45, hfm45, hvm45⟩ := hqm45
            have hFm45 := zfr_tr hFm28 hfm45 rfl
            have hRKNm45 := zR_KN_fr (zdis_fr hfm45 rfl) hRKNm28
            have hRLTm45 := zR_LT_fr (zdis_fr hfm45 rfl) hRLTm28
            have r47 : (-2147483648) ≤ (m45 a0 2) ∧ (m45 a0 2) ≤ 2147483647 := zi_rd hIm45 hc0 zb_28_2
            have e48 : (m45 a0 2) = 0 := (Eq.trans (zfr_ap hfm45 hc0 rfl) (zs_eq hmm28))
            exact zw_some ⟨hIm45, hFm45, hRKNm45, hRLTm45, ⟨by omega, by omega⟩, ⟨by omega, by omega⟩⟩
          · refine zw_ite (fun h49 => ?_) (fun h49 => ?_)
            · have r50 : (-2147483648) ≤ (m28 a0 2) ∧ (m28 a0 2) ≤ 2147483647 := zi_rd hIm28 hc0 zb_28_2
              have e51 : (m28 a0 2) = 0 := (zs_eq hmm28)
              have hM : (16 - 0) * 1 + 17 < ((34 : Nat) : Int) := by omega
              exact (zl_145 n (m0 := m0) hc0 34).1 0 0 m28 hIm28 hFm28 ⟨by omega, by omega⟩ ⟨by omega, by omega⟩ ⟨by omega, by omega⟩ ⟨by omega, by omega⟩ ⟨by omega, by omega⟩ ⟨by omega, by omega⟩ hRKNm28 hRLTm28 hM
            · refine zw_ite (fun h52 => ?_) (fun h52 => ?_)
              · have b53 : 0 ≤ a1 ∧ a1 < 4 := by omega
                refine zw_if b53 ?_
                have r54 : (-2147483648) ≤ (m28 219 a1) ∧ (m28 219 a1) ≤ 2147483647 := zi_rd hIm28 zq_219 (zb_128 _)
                have r55 : (-2147483648) ≤ (m28 a0 2) ∧ (m28 a0 2) ≤ 2147483647 := zi_rd hIm28 hc0 zb_28_2
                have e56 : (m28 a0 2) = 0 := (zs_eq hmm28)
                exact zw_some ⟨hIm28, hFm28, hRKNm28, hRLTm28, ⟨by omega, by omega⟩, ⟨by omega, by omega⟩⟩
              · refine zw_ite (fun h57 => ?_) (fun h57 => ?_)
                · have r58 : (-2147483648) ≤ (m28 a0 2) ∧ (m28 a0 2) ≤ 2147483647 := zi_rd hIm28 hc0 zb_28_2
                  have e59 : (m28 a0 2) = 0 := (zs_eq hmm28)
                  have hM : (16 - 0) * 1 + 0 < ((34 : Nat) : Int) := by omega
                  exact (zl_145 n (m0 := m0) hc0 34).2 0 0 m28 hIm28 hFm28 ⟨by omega, by omega⟩ ⟨by omega, by omega⟩ ⟨by omega, by omega⟩ ⟨by omega, by omega⟩ ⟨by omega, by omega⟩ ⟨by omega, by omega⟩ hRKNm28 hRLTm28 hM
                · have r60 : (-2147483648) ≤ (m28 a0 2) ∧ (m28 a0 2) ≤ 2147483647 := zi_rd hIm28 hc0 zb_28_2
                  have e61 : (m28 a0 2) = 0 := (zs_eq hmm28)
                  exact zw_some ⟨hIm28, hFm28, hRKNm28, hRLTm28, ⟨by omega, by omega⟩, ⟨by omega, by omega⟩⟩
      · exfalso; omega
set_option maxHeartbeats 4000000 in
theorem zl_172 (n : Nat) {a0 a1 : Int} {m0 : zu_m} (hc0 : zcls a0 = 28)   : ∀ k : Nat, (∀ (x2 x4 x6 : Int) (mh : zu_m), zi_I mh → zfr [(28, 3), (28, 54), (122, 0), (123, 0)] m0 mh → ((-2147483648) ≤ a1 ∧ a1 ≤ 2147483647) → (0 ≤ x2 ∧ x2 ≤ 47952) → (0 ≤ x4 ∧ x4 ≤ 47904048) → (0 ≤ x6 ∧ x6 ≤ 48) → (0 ≤ mh a0 2 ∧ mh a0 2 ≤ 0) → (x2 ≤ 999 * x6) → (x4 ≤ 998001 * x6) → (zR_KN mh) → (zR_LT mh) → (48 - x6) * 1 + 9223372036854775808 < (k : Int) → zw (zu_ex (zt_T n) 172 13 [(40, a0), (0, a1), (1, x2), (2, 0), (1, x4), (2, 0), (0, x6), (2, 0), (2, 0), (2, 0), (2, 0), (2, 0)] [] mh) (fun v m => zi_I m ∧ zfr [(28, 3), (28, 54), (122, 0), (123, 0)] m0 m ∧ zR_KN m ∧ zR_LT m ∧ ((-9223372036854775808) ≤ v ∧ v ≤ 9223372036854775807) ∧ (0 ≤ m a0 2 ∧ m a0 2 ≤ 0))) ∧ (∀ (x2 x4 x6 x8 : Int) (mh : zu_m), zi_I mh → zfr [(28, 3), (28, 54), (122, 0), (123, 0)] m0 mh → (0 ≤ a1 ∧ a1 ≤ 1) → (1 ≤ x2 ∧ x2 ≤ 47952) → (0 ≤ x4 ∧ x4 ≤ 47904048) → (0 ≤ x6 ∧ x6 ≤ 9223372036854775807) → (0 ≤ x8 ∧ x8 ≤ 2299394304) → (0 ≤ mh a0 2 ∧ mh a0 2 ≤ 0) → (x8 ≠ 0 ∨ x6 ≠ 0) → (zR_KN mh) → (zR_LT mh) → x8 * 1 + 0 < (k : Int) → zw (zu_ex (zt_T n) 172 80 [(40, a0), (0, a1), (1, x2), (2, 0), (1, x4), (2, 0), (1, x6), (2, 0), (1, x8), (2, 0), (2, 0), (2, 0)] [] mh) (fun v m => zi_I m ∧ zfr [(28, 3), (28, 54), (122, 0), (123, 0)] m0 m ∧ zR_KN m ∧ zR_LT m ∧ ((-9223372036854775808) ≤ v ∧ v ≤ 9223372036854775807) ∧ (0 ≤ m a0 2 ∧ m a0 2 ≤ 0))) := by
  intro k
  induction k with
  | zero => exact ⟨fun x2 x4 x6 mh hImh hFmh hba1 hbx2 hbx4 hbx6 hg4 hH0 hH1 hRKNmh hRLTmh hM => by exfalso; omega, fun x2 x4 x6 x8 mh hImh hFmh hba1 hbx2 hbx4 hbx6 hbx8 hg5 hH0 hRKNmh hRLTmh hM => by exfalso; omega⟩
  | succ k ih =>
    refine ⟨?_, ?_⟩
    · intro x2 x4 x6 mh hImh hFmh hba1 hbx2 hbx4 hbx6 hg4 hH0 hH1 hRKNmh hRLTmh hM
      refine zw_eq (zu_rega_at (zt_T n) (zm_172 n) (zdp_172 n) _ _ _ _ _ _ (zr_172_13 n _ _ a0 a1 x2 x4 x6 mh)) ?_
      refine zw_bd (zw_eq (zu_call_at (zt_T n) (zm_36 n) (zdp_36 n) _ _ _ _ _ rfl (zr_36_0 n _ _ a0 mh)) ?_)
      have r1 : 1 ≤ (mh a0 12) ∧ (mh a0 12) ≤ 8 := zi_rd hImh hc0 zb_28_12
      have r2 : 1 ≤ (mh a0 13) ∧ (mh a0 13) ≤ 6 := zi_rd hImh hc0 zb_28_13
      have p3 := zmul_bd (x := (mh a0 12)) (y := (mh a0 13)) (a := 1) (b := 1) (A := 8) (B := 6) (by omega) (by omega) (by omega) (by omega) (by omega) (by omega)
      have w4 := zu_w32_id (z := (mh a0 12) * (mh a0 13)) (by omega) (by omega)
      refine zw_some ?_
      refine zw_ite (fun h5 => ?_) (fun h5 => ?_)
      · refine zw_bd (zw_eq (zu_call_at (zt_T n) (zm_83 n) (zdp_83 n) _ _ _ _ _ rfl (zr_83_0 n _ _ a1 0 1 mh)) ?_)
        refine zw_ite (fun h6 => ?_) (fun h6 => ?_)
        · refine zw_b (by omega) ?_
          refine zw_some ?_
          refine zw_ite (fun h7 => ?_) (fun h7 => ?_)
          · exact zw_some ⟨hImh, hFmh, hRKNmh, hRLTmh, ⟨by omega, by omega⟩, ⟨by omega, by omega⟩⟩
          · exfalso; omega
        · refine zw_ite (fun h8 => ?_) (fun h8 => ?_)
          · refine zw_b (by omega) ?_
            refine zw_some ?_
            refine zw_ite (fun h9 => ?_) (fun h9 => ?_)
            · exact zw_some ⟨hImh, hFmh, hRKNmh, hRLTmh, ⟨by omega, by omega⟩, ⟨by omega, by omega⟩⟩
            · exfalso; omega
          · refine zw_b (by omega) ?_
            refine zw_some ?_
            refine zw_ite (fun h10 => ?_) (fun h10 => ?_)
            · exfalso; omega
            · have c11 := zu_lcmp_sp x2 0
              refine zw_ite (fun h12 => ?_) (fun h12 => ?_)
              · have p13 := zmul_bd (x := x2) (y := x2) (a := 1) (b := 1) (A := 47952) (B := 47952) (by omega) (by omega) (by omega) (by omega) (by omega) (by omega)
                have w14 := zu_w64_id (z := x2 * x2) (by omega) (by omega)
                have hM : (zu_w64 (x2 * x2)) * 1 + 0 < (k : Int) := by omega
                exact ih.2 x2 x4 x4 (zu_w64 (x2 * x2)) mh hImh hFmh ⟨by omega, by omega⟩ ⟨by omega, by omega⟩ ⟨by omega, by omega⟩ ⟨by omega, by omega⟩ ⟨by omega, by omega⟩ ⟨by omega, by omega⟩ (by omega) hRKNmh hRLTmh hM
              · exact zw_some ⟨hImh, hFmh, hRKNmh, hRLTmh, ⟨by omega, by omega⟩, ⟨by omega, by omega⟩⟩
      · refine zw_bd (zw_mono (zk_37 n hImh hc0 ⟨by omega, by omega⟩ hRKNmh hRLTmh) (fun v16 m15 hqm15 => ?_))
        obtain ⟨hIm15, hfm15, hvm15⟩ := hqm15
        have hFm15 := zfr_tr hFmh hfm15 rfl
        obtain ⟨hRKNm15, hRLTm15, hvm15⟩ := hvm15
        have w17 := zu_w64_id (z := x2 + v16) (by omega) (by omega)
        have w18 := zu_w64_rg (v16 * v16)
        have w19 := zu_w64_rg (x4 + (zu_w64 (v16 * v16)))
        have w20 := zu_w32_id (z := x6 + 1) (by omega) (by omega)
        have r21 : (-2147483648) ≤ (m15 a0 2) ∧ (m15 a0 2) ≤ 2147483647 := zi_rd hIm15 hc0 zb_28_2
        have e22 : (m15 a0 2) = (mh a0 2) := (zfr_ap hfm15 hc0 rfl)
        have hM : (48 - (zu_w32 (x6 + 1))) * 1 + 9223372036854775808 < (k : Int) := by omega
        exact zw_le (zu_forget (zu_lr_same (zu_lr_same (zu_lr_same (zu_lr_same (zu_lr_same (zu_lr_same (zu_lr_same (zu_lr_drop (zu_lr_same (zu_lr_same (zu_lr_same (zu_lr_same zu_lr_nil))))))))))))) (ih.1 (zu_w64 (x2 + v16)) (zu_w64 (x4 + (zu_w64 (v16 * v16)))) (zu_w32 (x6 + 1)) m15 hIm15 hFm15 ⟨by omega, by omega⟩ ⟨by omega, by omega⟩ ⟨by omega, by omega⟩ ⟨by omega, by omega⟩ ⟨by omega, by omega⟩ (by omega) (by omega) hRKNm15 hRLTm15 hM)
    · intro x2 x4 x6 x8 mh hImh hFmh hba1 hbx2 hbx4 hbx6 hbx8 hg5 hH0 hRKNmh hRLTmh hM
      refine zw_eq (zu_rega_at (zt_T n) (zm_172 n) (zdp_172 n) _ _ _ _ _ _ (zr_172_80 n _ _ a0 a1 x2 x4 x6 x8 mh)) ?_
      have c23 := zu_lcmp_sp x8 0
      refine zw_ite (fun h24 => ?_) (fun h24 => ?_)
      · refine zw_ite (fun h25 => ?_) (fun h25 => ?_)
        · have p26 := zmul_bd (x := x2) (y := x2) (a := 1) (b := 1) (A := 47952) (B := 47952) (by omega) (by omega) (by omega) (by omega) (by omega) (by omega)
          have w27 := zu_w64_id (z := x2 * x2) (by omega) (by omega)
          refine zw_nif (by omega) ?_
          have w28 := zu_w64_rg (Int.tdiv (zu_w64 (x2 * x2)) x6)
          exact zw_some ⟨hImh, hFmh, hRKNmh, hRLTmh, ⟨by omega, by omega⟩, ⟨by omega, by omega⟩⟩
        · refine zw_nif (by omega) ?_
          have w29 := zu_w64_rg (Int.tdiv x4 x6)
          exact zw_some ⟨hImh, hFmh, hRKNmh, hRLTmh, ⟨by omega, by omega⟩, ⟨by omega, by omega⟩⟩
      · refine zw_nif (by omega) ?_
        have d30 := ztmod_bd (x := x6) (y := x8) (by omega) (by omega)
        have hM : (Int.tmod x6 x8) * 1 + 0 < (k : Int) := by omega
        exact zw_le (zu_forget (zu_lr_same (zu_lr_same (zu_lr_same (zu_lr_same (zu_lr_same (zu_lr_same (zu_lr_same (zu_lr_same (zu_lr_same (zu_lr_same (zu_lr_drop (zu_lr_same zu_lr_nil))))))))))))) (ih.2 x2 x4 x8 (Int.tmod x6 x8) mh hImh hFmh ⟨by omega, by omega⟩ ⟨by omega, by omega⟩ ⟨by omega, by omega⟩ ⟨by omega, by omega⟩ ⟨by omega, by omega⟩ ⟨by omega, by omega⟩ (by omega) hRKNmh hRLTmh hM)
set_option maxHeartbeats 4000000 in
theorem zk_172 (n : Nat) {a0 a1 : Int} {m0 : zu_m} (hIm0 : zi_I m0) (hc0 : zcls a0 = 28) (ha1 : (-2147483648) ≤ a1 ∧ a1 ≤ 2147483647)    (hRKNm0 : zR_KN m0) (hRLTm0 : zR_LT m0) : zw (zu_call (zt_T n) 172 [(40, a0), (0, a1)] m0) (fun v m => zi_I m ∧ zfr [(28, 3), (28, 54), (122, 0), (123, 0)] m0 m ∧ zR_KN m ∧ zR_LT m ∧ ((-9223372036854775808) ≤ v ∧ v ≤ 9223372036854775807) ∧ (0 ≤ m a0 2 ∧ m a0 2 ≤ 0)) := by
  have hFm0 : zfr [(28, 3), (28, 54), (122, 0), (123, 0)] m0 m0 := zfr_rf _ _
  refine zw_eq (zu_call_at (zt_T n) (zm_172 n) (zdp_172 n) _ _ _ _ _ rfl (zr_172_0 n _ _ a0 a1 m0)) ?_
  generalize hmm31 : zu_up m0 a0 2 0 = m31
  have hIm31 := zi_up hmm31 hIm0 hc0 zb_28_2 (by omega) (by omega)
  have hFm31 := zfr_up hmm31 hFm0 hc0 rfl
  have hRKNm31 := zR_KN_fr (zdis_fr (zfr_up hmm31 (zfr_rf [(28, 3)] _) hc0 rfl) rfl) hRKNm0
  have hRLTm31 := zR_LT_fr (zdis_fr (zfr_up hmm31 (zfr_rf [(28, 3)] _) hc0 rfl) rfl) hRLTm0
  have r32 : (-2147483648) ≤ (m31 a0 2) ∧ (m31 a0 2) ≤ 2147483647 := zi_rd hIm31 hc0 zb_28_2
  have e33 : (m31 a0 2) = 0 := (zs_eq hmm31)
  have hM : (48 - 0) * 1 + 9223372036854775808 < ((9223372036854775857 : Nat) : Int) := by omega
  exact (zl_172 n (m0 := m0) hc0 9223372036854775857).1 0 0 0 m31 hIm31 hFm31 ⟨by omega, by omega⟩ ⟨by omega, by omega⟩ ⟨by omega, by omega⟩ ⟨by omega, by omega⟩ ⟨by omega, by omega⟩ (by omega) (by omega) hRKNm31 hRLTm31 hM
set_option maxHeartbeats 4000000 in
theorem zl_173 (n : Nat) {a0 : Int} {m0 : zu_m} (hc0 : zcls a0 = 28)   : ∀ k : Nat, (∀ (x1 x2 : Int) (mh : zu_m), zi_I mh → zfr [(28, 3), (28, 54), (122, 0), (123, 0)] m0 mh → ((-2147483648) ≤ x1 ∧ x1 ≤ 2147483647) → (0 ≤ x2 ∧ x2 ≤ 16) → (0 ≤ mh a0 2 ∧ mh a0 2 ≤ 0) → (zR_KN mh) → (zR_LT mh) → (16 - x2) * 1 + 0 < (k : Int) → zw (zu_ex (zt_T n) 173 9 [(40, a0), (0, x1), (0, x2)] [] mh) (fun v m => zi_I m ∧ zfr [(28, 3), (28, 54), (122, 0), (123, 0)] m0 m ∧ zR_KN m ∧ zR_LT m ∧ ((-2147483648) ≤ v ∧ v ≤ 2147483647) ∧ (0 ≤ m a0 2 ∧ m a0 2 ≤ 0))) := by
  intro k
  induction k with
  | zero => exact fun x1 x2 mh hImh hFmh hbx1 hbx2 hg2 hRKNmh hRLTmh hM => by exfalso; omega
  | succ k ih =>
    intro x1 x2 mh hImh hFmh hbx1 hbx2 hg2 hRKNmh hRLTmh hM
    refine zw_eq (zu_rega_at (zt_T n) (zm_173 n) (zdp_173 n) _ _ _ _ _ _ (zr_173_9 n _ _ a0 x1 x2 mh)) ?_
    have b1 : 0 ≤ (0 : Int) ∧ (0 : Int) < 2 := by omega
    refine zw_if b1 ?_
    have r2 : 0 ≤ (mh 216 0) ∧ (mh 216 0) ≤ 16 := zi_rdr (m := 2) (r0 := 0) (r1 := 0) hImh zq_216 (by omega) (by decide +kernel)
    refine zw_ite (fun h3 => ?_) (fun h3 => ?_)
    · exact zw_some ⟨hImh, hFmh, hRKNmh, hRLTmh, ⟨by omega, by omega⟩, ⟨by omega, by omega⟩⟩
    · have b4 : 0 ≤ x2 ∧ x2 < 36 := by omega
      refine zw_if b4 ?_
      have r5 : (-3) ≤ (mh 215 x2) ∧ (mh 215 x2) ≤ 3 := zi_rd hImh zq_215 (zb_124 _)
      refine zw_ite (fun h6 => ?_) (fun h6 => ?_)
      · have w7 := zu_w32_id (z := x1 + 0) (by omega) (by omega)
        have w8 := zu_w32_id (z := x2 + 1) (by omega) (by omega)
        have hM : (16 - (zu_w32 (x2 + 1))) * 1 + 0 < (k : Int) := by omega
        exact ih (zu_w32 (x1 + 0)) (zu_w32 (x2 + 1)) mh hImh hFmh ⟨by omega, by omega⟩ ⟨by omega, by omega⟩ ⟨by omega, by omega⟩ hRKNmh hRLTmh hM
      · refine zw_bd (zw_mono (zk_133 n hImh hc0 ⟨by omega, by omega⟩ hRKNmh hRLTmh) (fun v10 m9 hqm9 => ?_))
        obtain ⟨hIm9, hfm9, hvm9⟩ := hqm9
        have hFm9 := zfr_tr hFmh hfm9 rfl
        obtain ⟨hRKNm9, hRLTm9, hvm9⟩ := hvm9
        have w11 := zu_w32_rg (100 - v10)
        have w12 := zu_w32_rg (x1 + (zu_w32 (100 - v10)))
        have w13 := zu_w32_id (z := x2 + 1) (by omega) (by omega)
        have r14 : (-2147483648) ≤ (m9 a0 2) ∧ (m9 a0 2) ≤ 2147483647 := zi_rd hIm9 hc0 zb_28_2
        have e15 : (m9 a0 2) = (mh a0 2) := (zfr_ap hfm9 hc0 rfl)
        have hM : (16 - (zu_w32 (x2 + 1))) * 1 + 0 < (k : Int) := by omega
        exact ih (zu_w32 (x1 + (zu_w32 (100 - v10)))) (zu_w32 (x2 + 1)) m9 hIm9 hFm9 ⟨by omega, by omega⟩ ⟨by omega, by omega⟩ ⟨by omega, by omega⟩ hRKNm9 hRLTm9 hM
set_option maxHeartbeats 4000000 in
theorem zk_173 (n : Nat) {a0 : Int} {m0 : zu_m} (hIm0 : zi_I m0) (hc0 : zcls a0 = 28)     (hRKNm0 : zR_KN m0) (hRLTm0 : zR_LT m0) : zw (zu_call (zt_T n) 173 [(40, a0)] m0) (fun v m => zi_I m ∧ zfr [(28, 3), (28, 54), (122, 0), (123, 0)] m0 m ∧ zR_KN m ∧ zR_LT m ∧ ((-2147483648) ≤ v ∧ v ≤ 2147483647) ∧ (0 ≤ m a0 2 ∧ m a0 2 ≤ 0)) := by
  have hFm0 : zfr [(28, 3), (28, 54), (122, 0), (123, 0)] m0 m0 := zfr_rf _ _
  refine zw_eq (zu_call_at (zt_T n) (zm_173 n) (zdp_173 n) _ _ _ _ _ rfl (zr_173_0 n _ _ a0 m0)) ?_
  generalize hmm16 : zu_up m0 a0 2 0 = m16
  have hIm16 := zi_up hmm16 hIm0 hc0 zb_28_2 (by omega) (by omega)
  have hFm16 := zfr_up hmm16 hFm0 hc0 rfl
  have hRKNm16 := zR_KN_fr (zdis_fr (zfr_up hmm16 (zfr_rf [(28, 3)] _) hc0 rfl) rfl) hRKNm0
  have hRLTm16 := zR_LT_fr (zdis_fr (zfr_up hmm16 (zfr_rf [(28, 3)] _) hc0 rfl) rfl) hRLTm0
  have r17 : (-2147483648) ≤ (m16 a0 2) ∧ (m16 a0 2) ≤ 2147483647 := zi_rd hIm16 hc0 zb_28_2
  have e18 : (m16 a0 2) = 0 := (zs_eq hmm16)
  have hM : (16 - 0) * 1 + 0 < ((17 : Nat) : Int) := by omega
  exact (zl_173 n (m0 := m0) hc0 17) 0 0 m16 hIm16 hFm16 ⟨by omega, by omega⟩ ⟨by omega, by omega⟩ ⟨by omega, by omega⟩ hRKNm16 hRLTm16 hM
set_option maxHeartbeats 4000000 in
theorem zk_174 (n : Nat) {a0 a1 a2 : Int} {m0 : zu_m} (hIm0 : zi_I m0) (hc0 : zcls a0 = 28) (ha1 : (-2147483648) ≤ a1 ∧ a1 ≤ 2147483647) (ha2 : (-2147483648) ≤ a2 ∧ a2 ≤ 2147483647)    (hRKNm0 : zR_KN m0) (hRLTm0 : zR_LT m0) : zw (zu_call (zt_T n) 174 [(40, a0), (0, a1), (0, a2)] m0) (fun v m => zi_I m ∧ zfr [(28, 3), (28, 54), (122, 0), (123, 0)] m0 m ∧ zR_KN m ∧ zR_LT m ∧ ((-2147483648) ≤ v ∧ v ≤ 2147483647) ∧ (0 ≤ m a0 2 ∧ m a0 2 ≤ 0)) := by
  have hFm0 : zfr [(28, 3), (28, 54), (122, 0), (123, 0)] m0 m0 := zfr_rf _ _
  refine zw_eq (zu_call_at (zt_T n) (zm_174 n) (zdp_174 n) _ _ _ _ _ rfl (zr_174_0 n _ _ a0 a1 a2 m0)) ?_
  generalize hmm1 : zu_up m0 a0 2 0 = m1
  have hIm1 := zi_up hmm1 hIm0 hc0 zb_28_2 (by omega) (by omega)
  have hFm1 := zfr_up hmm1 hFm0 hc0 rfl
  have hRKNm1 := zR_KN_fr (zdis_fr (zfr_up hmm1 (zfr_rf [(28, 3)] _) hc0 rfl) rfl) hRKNm0
  have hRLTm1 := zR_LT_fr (zdis_fr (zfr_up hmm1 (zfr_rf [(28, 3)] _) hc0 rfl) rfl) hRLTm0
  refine zw_bd (zw_eq (zu_call_at (zt_T n) (zm_125 n) (zdp_125 n) _ _ _ _ _ rfl (zr_125_0 n _ _ a0 a1 m1)) ?_)
  refine zw_ite (fun h2 => ?_) (fun h2 => ?_)
  · refine zw_b (by omega) ?_
    refine zw_some ?_
    refine zw_ite (fun h3 => ?_) (fun h3 => ?_)
    · have r4 : (-2147483648) ≤ (m1 a0 2) ∧ (m1 a0 2) ≤ 2147483647 := zi_rd hIm1 hc0 zb_28_2
      have e5 : (m1 a0 2) = 0 := (zs_eq hmm1)
      exact zw_some ⟨hIm1, hFm1, hRKNm1, hRLTm1, ⟨by omega, by omega⟩, ⟨by omega, by omega⟩⟩
    · exfalso; omega
  · have r6 : 0 ≤ (m1 a0 15) ∧ (m1 a0 15) ≤ 4 := zi_rd hIm1 hc0 zb_28_15
    refine zw_ite (fun h7 => ?_) (fun h7 => ?_)
    · refine zw_b (by omega) ?_
      refine zw_some ?_
      refine zw_ite (fun h8 => ?_) (fun h8 => ?_)
      · have r9 : (-2147483648) ≤ (m1 a0 2) ∧ (m1 a0 2) ≤ 2147483647 := zi_rd hIm1 hc0 zb_28_2
        have e10 : (m1 a0 2) = 0 := (zs_eq hmm1)
        exact zw_some ⟨hIm1, hFm1, hRKNm1, hRLTm1, ⟨by omega, by omega⟩, ⟨by omega, by omega⟩⟩
      · exfalso; omega
    · refine zw_b (by omega) ?_
      refine zw_some ?_
      refine zw_ite (fun h11 => ?_) (fun h11 => ?_)
      · exfalso; omega
      · refine zw_bd (zw_eq (zu_call_at (zt_T n) (zm_124 n) (zdp_124 n) _ _ _ _ _ rfl (zr_124_0 n _ _ a0 a2 m1)) ?_)
        refine zw_ite (fun h12 => ?_) (fun h12 => ?_)
        · refine zw_b (by omega) ?_
          refine zw_some ?_
          refine zw_ite (fun h13 => ?_) (fun h13 => ?_)
          · have r14 : (-2147483648) ≤ (m1 a0 2) ∧ (m1 a0 2) ≤ 2147483647 := zi_rd hIm1 hc0 zb_28_2
            have e15 : (m1 a0 2) = 0 := (zs_eq hmm1)
            exact zw_some ⟨hIm1, hFm1, hRKNm1, hRLTm1, ⟨by omega, by omega⟩, ⟨by omega, by omega⟩⟩
          · exfalso; omega
        · have b16 : 0 ≤ (0 : Int) ∧ (0 : Int) < 2 := by omega
          refine zw_if b16 ?_
          have r17 : 0 ≤ (m1 216 0) ∧ (m1 216 0) ≤ 16 := zi_rdr (m := 2) (r0 := 0) (r1 := 0) hIm1 zq_216 (by omega) (by decide +kernel)
          refine zw_ite (fun h18 => ?_) (fun h18 => ?_)
          · refine zw_b (by omega) ?_
            refine zw_some ?_
            refine zw_ite (fun h19 => ?_) (fun h19 => ?_)
            · have r20 : (-2147483648) ≤ (m1 a0 2) ∧ (m1 a0 2) ≤ 2147483647 := zi_rd hIm1 hc0 zb_28_2
              have e21 : (m1 a0 2) = 0 := (zs_eq hmm1)
              exact zw_some ⟨hIm1, hFm1, hRKNm1, hRLTm1, ⟨by omega, by omega⟩, ⟨by omega, by omega⟩⟩
            · exfalso; omega
          · refine zw_b (by omega) ?_
            refine zw_some ?_
            refine zw_ite (fun h22 => ?_) (fun h22 => ?_)
            · exfalso; omega
            · refine zw_bd (zw_mono (zk_132 n hIm1 hc0 ⟨by omega, by omega⟩ ⟨by omega, by omega⟩ hRKNm1 hRLTm1) (fun v24 m23 hqm23 => ?_))
              obtain ⟨hIm23, hfm23, hvm23⟩ := hqm23
              have hFm23 := zfr_tr hFm1 hfm23 rfl
              obtain ⟨hRKNm23, hRLTm23, hvm23⟩ := hvm23
              have r25 : (-2147483648) ≤ (m23 a0 2) ∧ (m23 a0 2) ≤ 2147483647 := zi_rd hIm23 hc0 zb_28_2
              have e26 : (m23 a0 2) = 0 := (Eq.trans (zfr_ap hfm23 hc0 rfl) (zs_eq hmm1))
              exact zw_some ⟨hIm23, hFm23, hRKNm23, hRLTm23, ⟨by omega, by omega⟩, ⟨by omega, by omega⟩⟩
set_option maxHeartbeats 4000000 in
theorem zk_175 (n : Nat) {a0 a1 a2 a3 a4 : Int} {m0 : zu_m} (hIm0 : zi_I m0) (hc0 : zcls a0 = 28) (ha1 : 0 ≤ a1 ∧ a1 ≤ 3) (ha2 : 1 ≤ a2 ∧ a2 ≤ 3) (ha3 : 0 ≤ a3 ∧ a3 ≤ 15) (ha4 : 0 ≤ a4 ∧ a4 ≤ 15)    (hRKNm0 : zR_KN m0) (hRLTm0 : zR_LT m0) : zw (zu_call (zt_T n) 175 [(40, a0), (0, a1), (0, a2), (0, a3), (0, a4)] m0) (fun v m => zi_I m ∧ zfr [(28, 54), (122, 0), (123, 0)] m0 m ∧ zR_KN m ∧ zR_LT m ∧ (0 ≤ v ∧ v ≤ 1)) := by
  have hFm0 : zfr [(28, 54), (122, 0), (123, 0)] m0 m0 := zfr_rf _ _
  refine zw_eq (zu_call_at (zt_T n) (zm_175 n) (zdp_175 n) _ _ _ _ _ rfl (zr_175_0 n _ _ a0 a1 a2 a3 a4 m0)) ?_
  refine zw_bd (zw_mono (zk_132 n hIm0 hc0 ⟨by omega, by omega⟩ ⟨by omega, by omega⟩ hRKNm0 hRLTm0) (fun v2 m1 hqm1 => ?_))
  obtain ⟨hIm1, hfm1, hvm1⟩ := hqm1
  have hFm1 := zfr_tr hFm0 hfm1 rfl
  obtain ⟨hRKNm1, hRLTm1, hvm1⟩ := hvm1
  refine zw_bd (zw_mono (zk_132 n hIm1 hc0 ⟨by omega, by omega⟩ ⟨by omega, by omega⟩ hRKNm1 hRLTm1) (fun v4 m3 hqm3 => ?_))
  obtain ⟨hIm3, hfm3, hvm3⟩ := hqm3
  have hFm3 := zfr_tr hFm1 hfm3 rfl
  obtain ⟨hRKNm3, hRLTm3, hvm3⟩ := hvm3
  refine zw_ite (fun h5 => ?_) (fun h5 => ?_)
  · refine zw_b (by omega) ?_
    exact zw_some ⟨hIm3, hFm3, hRKNm3, hRLTm3, ⟨by omega, by omega⟩⟩
  · refine zw_bd (zw_mono (zk_132 n hIm3 hc0 ⟨by omega, by omega⟩ ⟨by omega, by omega⟩ hRKNm3 hRLTm3) (fun v7 m6 hqm6 => ?_))
    obtain ⟨hIm6, hfm6, hvm6⟩ := hqm6
    have hFm6 := zfr_tr hFm3 hfm6 rfl
    obtain ⟨hRKNm6, hRLTm6, hvm6⟩ := hvm6
    refine zw_bd (zw_mono (zk_132 n hIm6 hc0 ⟨by omega, by omega⟩ ⟨by omega, by omega⟩ hRKNm6 hRLTm6) (fun v9 m8 hqm8 => ?_))
    obtain ⟨hIm8, hfm8, hvm8⟩ := hqm8
    have hFm8 := zfr_tr hFm6 hfm8 rfl
    obtain ⟨hRKNm8, hRLTm8, hvm8⟩ := hvm8
    refine zw_ite (fun h10 => ?_) (fun h10 => ?_)
    · refine zw_b (by omega) ?_
      exact zw_some ⟨hIm8, hFm8, hRKNm8, hRLTm8, ⟨by omega, by omega⟩⟩
    · refine zw_b (by omega) ?_
      exact zw_some ⟨hIm8, hFm8, hRKNm8, hRLTm8, ⟨by omega, by omega⟩⟩

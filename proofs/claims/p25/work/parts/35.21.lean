set_option maxHeartbeats 4000000 in
theorem zk_105 (n : Nat) {a0 : Int} {m0 : zu_m} (hIm0 : zi_I m0) (hc0 : zcls a0 = 28)   (he0 : 1 ≤ m0 a0 8 ∧ m0 a0 8 ≤ 6) (hxp0 : (m0 a0 21) = (m0 a0 48)) (hxp1 : (m0 a0 4) = 0) (hRC0m0 : zR_C0 m0) (hRCRm0 : zR_CR m0) (hRKNm0 : zR_KN m0) (hRLRm0 : zR_LR m0) (hRLTm0 : zR_LT m0) (hRNSm0 : zR_NS m0) (hRTRm0 : zR_TR m0) (hRWDm0 : zR_WD m0) : zw (zu_call (zt_T n) 105 [(40, a0)] m0) (fun v m => zi_I m ∧ zfr [(28, 5), (28, 6), (28, 8), (28, 9), (28, 10), (28, 11), (28, 12), (28, 18), (28, 19), (28, 20), (28, 21), (28, 22), (28, 23), (28, 24), (28, 43), (28, 46), (28, 47), (28, 48), (28, 49), (28, 50), (28, 51), (102, 0), (103, 0), (104, 0), (105, 0), (106, 0), (107, 0), (108, 0), (109, 0), (110, 0), (111, 0), (112, 0), (113, 0), (114, 0), (115, 0), (116, 0), (117, 0), (118, 0), (119, 0), (120, 0), (121, 0)] m0 m ∧ zR_C0 m ∧ zR_CR m ∧ zR_KN m ∧ zR_LR m ∧ zR_LT m ∧ zR_NS m ∧ zR_TR m ∧ zR_WD m ∧ (0 ≤ v ∧ v ≤ 1) ∧ (v = 1 → (m0 a0 7) < (m a0 7)) ∧ (v = 1 → (m a0 21) = (m a0 48)) ∧ (v = 1 → (m a0 4) = (m0 a0 4))) := by
  have hFm0 : zfr [(28, 5), (28, 6), (28, 8), (28, 9), (28, 10), (28, 11), (28, 12), (28, 18), (28, 19), (28, 20), (28, 21), (28, 22), (28, 23), (28, 24), (28, 43), (28, 46), (28, 47), (28, 48), (28, 49), (28, 50), (28, 51), (102, 0), (103, 0), (104, 0), (105, 0), (106, 0), (107, 0), (108, 0), (109, 0), (110, 0), (111, 0), (112, 0), (113, 0), (114, 0), (115, 0), (116, 0), (117, 0), (118, 0), (119, 0), (120, 0), (121, 0)] m0 m0 := zfr_rf _ _
  have r1 : 0 ≤ (m0 a0 7) ∧ (m0 a0 7) ≤ 700 := zi_rd hIm0 hc0 zb_28_7
  have r2 : (-2147483648) ≤ (m0 a0 4) ∧ (m0 a0 4) ≤ 2147483647 := zi_rd hIm0 hc0 zb_28_4
  have r3 : 0 ≤ (m0 a0 21) ∧ (m0 a0 21) ≤ 64 := zi_rd hIm0 hc0 zb_28_21
  have r4 : 0 ≤ (m0 a0 48) ∧ (m0 a0 48) ≤ 64 := zi_rd hIm0 hc0 zb_28_48
  have s5 := hRNSm0 a0 hc0
  refine zw_eq (zu_call_at (zt_T n) (zm_105 n) (zdp_105 n) _ _ _ _ _ rfl (zr_105_0 n _ _ a0 m0)) ?_
  refine zw_ite (fun h6 => ?_) (fun h6 => ?_)
  · refine zw_bd (zw_eq (zu_call_at (zt_T n) (zm_85 n) (zdp_85 n) _ _ _ _ _ rfl (zr_85_0 n _ _ a0 1 m0)) ?_)
    generalize hmm8 : zu_up m0 a0 4 1 = m8
    have hIm8 := zi_up hmm8 hIm0 hc0 zb_28_4 (by omega) (by omega)
    have hFm8 := zfr_up hmm8 hFm0 hc0 rfl
    have hRC0m8 := zR_C0_fr (zdis_fr (zfr_up hmm8 (zfr_rf [(28, 5)] _) hc0 rfl) rfl) hRC0m0
    have hRCRm8 := zR_CR_fr (zdis_fr (zfr_up hmm8 (zfr_rf [(28, 5)] _) hc0 rfl) rfl) hRCRm0
    have hRKNm8 := zR_KN_fr (zdis_fr (zfr_up hmm8 (zfr_rf [(28, 5)] _) hc0 rfl) rfl) hRKNm0
    have hRLTm8 := zR_LT_fr (zdis_fr (zfr_up hmm8 (zfr_rf [(28, 5)] _) hc0 rfl) rfl) hRLTm0
    have hRNSm8 := zR_NS_fr (zdis_fr (zfr_up hmm8 (zfr_rf [(28, 5)] _) hc0 rfl) rfl) hRNSm0
    have hRTRm8 := zR_TR_fr (zdis_fr (zfr_up hmm8 (zfr_rf [(28, 5)] _) hc0 rfl) rfl) hRTRm0
    have hRWDm8 := zR_WD_fr (zdis_fr (zfr_up hmm8 (zfr_rf [(28, 5)] _) hc0 rfl) rfl) hRWDm0
    have hRLRm8 := zLR_wr (zone_190 hc0) hmm8 (by decide)
    have r9 : 0 ≤ (m8 a0 10) ∧ (m8 a0 10) ≤ 700 := zi_rd hIm8 hc0 zb_28_10
    generalize hmm10 : zu_up m8 a0 5 (m8 a0 10) = m10
    have hIm10 := zi_up hmm10 hIm8 hc0 zb_28_5 (by omega) (by omega)
    have hFm10 := zfr_up hmm10 hFm8 hc0 rfl
    have hRC0m10 := zR_C0_fr (zdis_fr (zfr_up hmm10 (zfr_rf [(28, 6)] _) hc0 rfl) rfl) hRC0m8
    have hRCRm10 := zR_CR_fr (zdis_fr (zfr_up hmm10 (zfr_rf [(28, 6)] _) hc0 rfl) rfl) hRCRm8
    have hRKNm10 := zR_KN_fr (zdis_fr (zfr_up hmm10 (zfr_rf [(28, 6)] _) hc0 rfl) rfl) hRKNm8
    have hRLRm10 := zR_LR_fr (zdis_fr (zfr_up hmm10 (zfr_rf [(28, 6)] _) hc0 rfl) rfl) hRLRm8
    have hRLTm10 := zR_LT_fr (zdis_fr (zfr_up hmm10 (zfr_rf [(28, 6)] _) hc0 rfl) rfl) hRLTm8
    have hRNSm10 := zR_NS_fr (zdis_fr (zfr_up hmm10 (zfr_rf [(28, 6)] _) hc0 rfl) rfl) hRNSm8
    have hRTRm10 := zR_TR_fr (zdis_fr (zfr_up hmm10 (zfr_rf [(28, 6)] _) hc0 rfl) rfl) hRTRm8
    have hRWDm10 := zR_WD_fr (zdis_fr (zfr_up hmm10 (zfr_rf [(28, 6)] _) hc0 rfl) rfl) hRWDm8
    refine zw_b (by omega) ?_
    refine zw_some ?_
    refine zw_b (by omega) ?_
    have r11 : 0 ≤ (m10 a0 7) ∧ (m10 a0 7) ≤ 700 := zi_rd hIm10 hc0 zb_28_7
    have e12 : (m10 a0 7) = (m0 a0 7) := (Eq.trans (zs_ne hmm10 (Or.inr (by decide))) (zs_ne hmm8 (Or.inr (by decide))))
    have r13 : 0 ≤ (m10 a0 21) ∧ (m10 a0 21) ≤ 64 := zi_rd hIm10 hc0 zb_28_21
    have e14 : (m10 a0 21) = (m0 a0 21) := (Eq.trans (zs_ne hmm10 (Or.inr (by decide))) (zs_ne hmm8 (Or.inr (by decide))))
    have r15 : 0 ≤ (m10 a0 48) ∧ (m10 a0 48) ≤ 64 := zi_rd hIm10 hc0 zb_28_48
    have e16 : (m10 a0 48) = (m0 a0 48) := (Eq.trans (zs_ne hmm10 (Or.inr (by decide))) (zs_ne hmm8 (Or.inr (by decide))))
    have r17 : (-2147483648) ≤ (m10 a0 4) ∧ (m10 a0 4) ≤ 2147483647 := zi_rd hIm10 hc0 zb_28_4
    have e18 : (m10 a0 4) = 1 := (Eq.trans (zs_ne hmm10 (Or.inr (by decide))) (zs_eq hmm8))
    exact zw_some ⟨hIm10, hFm10, hRC0m10, hRCRm10, hRKNm10, hRLRm10, hRLTm10, hRNSm10, hRTRm10, hRWDm10, ⟨by decide, by decide⟩, fun h => absurd h (by decide), fun h => absurd h (by decide), fun h => absurd h (by decide)⟩
  · have s7 := (hRTRm0 a0 hc0).2.1 (by omega)
    refine zw_ite (fun h19 => ?_) (fun h19 => ?_)
    · refine zw_ite (fun h20 => ?_) (fun h20 => ?_)
      · refine zw_ite (fun h21 => ?_) (fun h21 => ?_)
        · refine zw_ite (fun h22 => ?_) (fun h22 => ?_)
          · refine zw_ite (fun h23 => ?_) (fun h23 => ?_)
            · refine zw_ite (fun h24 => ?_) (fun h24 => ?_)
              · refine zw_bd (zw_mono (zk_104 n hIm0 hc0 ⟨by omega, by omega⟩ hRLRm0 hRNSm0 hRTRm0 hRWDm0) (fun v26 m25 hqm25 => ?_))
                obtain ⟨hIm25, hfm25, hvm25⟩ := hqm25
                have hFm25 := zfr_tr hFm0 hfm25 rfl
                obtain ⟨hRLRm25, hRNSm25, hRTRm25, hRWDm25, hvm25⟩ := hvm25
                have hRC0m25 := zR_C0_fr (zdis_fr hfm25 rfl) hRC0m0
                have hRCRm25 := zR_CR_fr (zdis_fr hfm25 rfl) hRCRm0
                have hRKNm25 := zR_KN_fr (zdis_fr hfm25 rfl) hRKNm0
                have hRLTm25 := zR_LT_fr (zdis_fr hfm25 rfl) hRLTm0
                have s27 := hRNSm25 a0 hc0
                have r28 : 0 ≤ (m25 a0 7) ∧ (m25 a0 7) ≤ 700 := zi_rd hIm25 hc0 zb_28_7
                have r29 : 0 ≤ (m25 a0 8) ∧ (m25 a0 8) ≤ 6 := zi_rd hIm25 hc0 zb_28_8
                have r30 : (-2147483648) ≤ (m25 a0 4) ∧ (m25 a0 4) ≤ 2147483647 := zi_rd hIm25 hc0 zb_28_4
                have y31 := (hvm25.1)
                have y32 := (hvm25.2.1)
                have y33 := zhid_mk (hvm25.2.2.1)
                have y34 := zhid_mk (hvm25.2.2.2)
                clear hvm25
                refine zw_ite (fun h35 => ?_) (fun h35 => ?_)
                · have s36 := (zhid_of y33) (by omega)
                  have s37 := (zhid_of y34) (by omega)
                  refine zw_bd (zw_eq (zu_call_at (zt_T n) (zm_93 n) (zdp_93 n) _ _ _ _ _ rfl (zr_93_0 n _ _ a0 59 m25)) ?_)
                  refine zw_ite (fun h38 => ?_) (fun h38 => ?_)
                  · refine zw_b (by omega) ?_
                    refine zw_some ?_
                    refine zw_ite (fun h39 => ?_) (fun h39 => ?_)
                    · exfalso; omega
                    · refine zw_bd (zw_eq (zu_call_at (zt_T n) (zm_85 n) (zdp_85 n) _ _ _ _ _ rfl (zr_85_0 n _ _ a0 1 m25)) ?_)
                      generalize hmm40 : zu_up m25 a0 4 1 = m40
                      have hIm40 := zi_up hmm40 hIm25 hc0 zb_28_4 (by omega) (by omega)
                      have hFm40 := zfr_up hmm40 hFm25 hc0 rfl
                      have hRC0m40 := zR_C0_fr (zdis_fr (zfr_up hmm40 (zfr_rf [(28, 5)] _) hc0 rfl) rfl) hRC0m25
                      have hRCRm40 := zR_CR_fr (zdis_fr (zfr_up hmm40 (zfr_rf [(28, 5)] _) hc0 rfl) rfl) hRCRm25
                      have hRKNm40 := zR_KN_fr (zdis_fr (zfr_up hmm40 (zfr_rf [(28, 5)] _) hc0 rfl) rfl) hRKNm25
                      have hRLTm40 := zR_LT_fr (zdis_fr (zfr_up hmm40 (zfr_rf [(28, 5)] _) hc0 rfl) rfl) hRLTm25
                      have hRNSm40 := zR_NS_fr (zdis_fr (zfr_up hmm40 (zfr_rf [(28, 5)] _) hc0 rfl) rfl) hRNSm25
                      have hRTRm40 := zR_TR_fr (zdis_fr (zfr_up hmm40 (zfr_rf [(28, 5)] _) hc0 rfl) rfl) hRTRm25
                      have hRWDm40 := zR_WD_fr (zdis_fr (zfr_up hmm40 (zfr_rf [(28, 5)] _) hc0 rfl) rfl) hRWDm25
                      have hRLRm40 := zLR_wr (zone_190 hc0) hmm40 (by decide)
                      have r41 : 0 ≤ (m40 a0 10) ∧ (m40 a0 10) ≤ 700 := zi_rd hIm40 hc0 zb_28_10
                      generalize hmm42 : zu_up m40 a0 5 (m40 a0 10) = m42
                      have hIm42 := zi_up hmm42 hIm40 hc0 zb_28_5 (by omega) (by omega)
                      have hFm42 := zfr_up hmm42 hFm40 hc0 rfl
                      have hRC0m42 := zR_C0_fr (zdis_fr (zfr_up hmm42 (zfr_rf [(28, 6)] _) hc0 rfl) rfl) hRC0m40
                      have hRCRm42 := zR_CR_fr (zdis_fr (zfr_up hmm42 (zfr_rf [(28, 6)] _) hc0 rfl) rfl) hRCRm40
                      have hRKNm42 := zR_KN_fr (zdis_fr (zfr_up hmm42 (zfr_rf [(28, 6)] _) hc0 rfl) rfl) hRKNm40
                      have hRLRm42 := zR_LR_fr (zdis_fr (zfr_up hmm42 (zfr_rf [(28, 6)] _) hc0 rfl) rfl) hRLRm40
                      have hRLTm42 := zR_LT_fr (zdis_fr (zfr_up hmm42 (zfr_rf [(28, 6)] _) hc0 rfl) rfl) hRLTm40
                      have hRNSm42 := zR_NS_fr (zdis_fr (zfr_up hmm42 (zfr_rf [(28, 6)] _) hc0 rfl) rfl) hRNSm40
                      have hRTRm42 := zR_TR_fr (zdis_fr (zfr_up hmm42 (zfr_rf [(28, 6)] _) hc0 rfl) rfl) hRTRm40
                      have hRWDm42 := zR_WD_fr (zdis_fr (zfr_up hmm42 (zfr_rf [(28, 6)] _) hc0 rfl) rfl) hRWDm40
                      refine zw_b (by omega) ?_
                      refine zw_some ?_
                      refine zw_b (by omega) ?_
                      have r43 : 0 ≤ (m42 a0 7) ∧ (m42 a0 7) ≤ 700 := zi_rd hIm42 hc0 zb_28_7
                      have e44 : (m42 a0 7) = (m25 a0 7) := (Eq.trans (zs_ne hmm42 (Or.inr (by decide))) (zs_ne hmm40 (Or.inr (by decide))))
                      have r45 : 0 ≤ (m42 a0 21) ∧ (m42 a0 21) ≤ 64 := zi_rd hIm42 hc0 zb_28_21
                      have e46 : (m42 a0 21) = (m0 a0 21) := (Eq.trans (zs_ne hmm42 (Or.inr (by decide))) (Eq.trans (zs_ne hmm40 (Or.inr (by decide))) (zfr_ap hfm25 hc0 rfl)))
                      have r47 : 0 ≤ (m42 a0 48) ∧ (m42 a0 48) ≤ 64 := zi_rd hIm42 hc0 zb_28_48
                      have e48 : (m42 a0 48) = (m0 a0 48) := (Eq.trans (zs_ne hmm42 (Or.inr (by decide))) (Eq.trans (zs_ne hmm40 (Or.inr (by decide))) (zfr_ap hfm25 hc0 rfl)))
                      have r49 : (-2147483648) ≤ (m42 a0 4) ∧ (m42 a0 4) ≤ 2147483647 := zi_rd hIm42 hc0 zb_28_4
                      have e50 : (m42 a0 4) = 1 := (Eq.trans (zs_ne hmm42 (Or.inr (by decide))) (zs_eq hmm40))
                      exact zw_some ⟨hIm42, hFm42, hRC0m42, hRCRm42, hRKNm42, hRLRm42, hRLTm42, hRNSm42, hRTRm42, hRWDm42, ⟨by decide, by decide⟩, fun h => absurd h (by decide), fun h => absurd h (by decide), fun h => absurd h (by decide)⟩
                  · have r51 : (-2147483648) ≤ (m25 a0 9) ∧ (m25 a0 9) ≤ 2147483647 := zi_rd hIm25 hc0 zb_28_9
                    refine zw_ite (fun h52 => ?_) (fun h52 => ?_)
                    · refine zw_b (by omega) ?_
                      refine zw_some ?_
                      refine zw_ite (fun h53 => ?_) (fun h53 => ?_)
                      · exfalso; omega
                      · refine zw_bd (zw_eq (zu_call_at (zt_T n) (zm_85 n) (zdp_85 n) _ _ _ _ _ rfl (zr_85_0 n _ _ a0 1 m25)) ?_)
                        generalize hmm54 : zu_up m25 a0 4 1 = m54
                        have hIm54 := zi_up hmm54 hIm25 hc0 zb_28_4 (by omega) (by omega)
                        have hFm54 := zfr_up hmm54 hFm25 hc0 rfl
                        have hRC0m54 := zR_C0_fr (zdis_fr (zfr_up hmm54 (zfr_rf [(28, 5)] _) hc0 rfl) rfl) hRC0m25
                        have hRCRm54 := zR_CR_fr (zdis_fr (zfr_up hmm54 (zfr_rf [(28, 5)] _) hc0 rfl) rfl) hRCRm25
                        have hRKNm54 := zR_KN_fr (zdis_fr (zfr_up hmm54 (zfr_rf [(28, 5)] _) hc0 rfl) rfl) hRKNm25
                        have hRLTm54 := zR_LT_fr (zdis_fr (zfr_up hmm54 (zfr_rf [(28, 5)] _) hc0 rfl) rfl) hRLTm25
                        have hRNSm54 := zR_NS_fr (zdis_fr (zfr_up hmm54 (zfr_rf [(28, 5)] _) hc0 rfl) rfl) hRNSm25
                        have hRTRm54 := zR_TR_fr (zdis_fr (zfr_up hmm54 (zfr_rf [(28, 5)] _) hc0 rfl) rfl) hRTRm25
                        have hRWDm54 := zR_WD_fr (zdis_fr (zfr_up hmm54 (zfr_rf [(28, 5)] _) hc0 rfl) rfl) hRWDm25
                        have hRLRm54 := zLR_wr (zone_190 hc0) hmm54 (by decide)
                        have r55 : 0 ≤ (m54 a0 10) ∧ (m54 a0 10) ≤ 700 := zi_rd hIm54 hc0 zb_28_10
                        generalize hmm56 : zu_up m54 a0 5 (m54 a0 10) = m56
                        have hIm56 := zi_up hmm56 hIm54 hc0 zb_28_5 (by omega) (by omega)
                        have hFm56 := zfr_up hmm56 hFm54 hc0 rfl
                        have hRC0m56 := zR_C0_fr (zdis_fr (zfr_up hmm56 (zfr_rf [(28, 6)] _) hc0 rfl) rfl) hRC0m54
                        have hRCRm56 := zR_CR_fr (zdis_fr (zfr_up hmm56 (zfr_rf [(28, 6)] _) hc0 rfl) rfl) hRCRm54
                        have hRKNm56 := zR_KN_fr (zdis_fr (zfr_up hmm56 (zfr_rf [(28, 6)] _) hc0 rfl) rfl) hRKNm54
                        have hRLRm56 := zR_LR_fr (zdis_fr (zfr_up hmm56 (zfr_rf [(28, 6)] _) hc0 rfl) rfl) hRLRm54
                        have hRLTm56 := zR_LT_fr (zdis_fr (zfr_up hmm56 (zfr_rf [(28, 6)] _) hc0 rfl) rfl) hRLTm54
                        have hRNSm56 := zR_NS_fr (zdis_fr (zfr_up hmm56 (zfr_rf [(28, 6)] _) hc0 rfl) rfl) hRNSm54
                        have hRTRm56 := zR_TR_fr (zdis_fr (zfr_up hmm56 (zfr_rf [(28, 6)] _) hc0 rfl) rfl) hRTRm54
                        have hRWDm56 := zR_WD_fr (zdis_fr (zfr_up hmm56 (zfr_rf [(28, 6)] _) hc0 rfl) rfl) hRWDm54
                        refine zw_b (by omega) ?_
                        refine zw_some ?_
                        refine zw_b (by omega) ?_
                        have r57 : 0 ≤ (m56 a0 7) ∧ (m56 a0 7) ≤ 700 := zi_rd hIm56 hc0 zb_28_7
                        have e58 : (m56 a0 7) = (m25 a0 7) := (Eq.trans (zs_ne hmm56 (Or.inr (by decide))) (zs_ne hmm54 (Or.inr (by decide))))
                        have r59 : 0 ≤ (m56 a0 21) ∧ (m56 a0 21) ≤ 64 := zi_rd hIm56 hc0 zb_28_21
                        have e60 : (m56 a0 21) = (m0 a0 21) := (Eq.trans (zs_ne hmm56 (Or.inr (by decide))) (Eq.trans (zs_ne hmm54 (Or.inr (by decide))) (zfr_ap hfm25 hc0 rfl)))
                        have r61 : 0 ≤ (m56 a0 48) ∧ (m56 a0 48) ≤ 64 := zi_rd hIm56 hc0 zb_28_48
                        have e62 : (m56 a0 48) = (m0 a0 48) := (Eq.trans (zs_ne hmm56 (Or.inr (by decide))) (Eq.trans (zs_ne hmm54 (Or.inr (by decide))) (zfr_ap hfm25 hc0 rfl)))
                        have r63 : (-2147483648) ≤ (m56 a0 4) ∧ (m56 a0 4) ≤ 2147483647 := zi_rd hIm56 hc0 zb_28_4
                        have e64 : (m56 a0 4) = 1 := (Eq.trans (zs_ne hmm56 (Or.inr (by decide))) (zs_eq hmm54))
                        exact zw_some ⟨hIm56, hFm56, hRC0m56, hRCRm56, hRKNm56, hRLRm56, hRLTm56, hRNSm56, hRTRm56, hRWDm56, ⟨by decide, by decide⟩, fun h => absurd h (by decide), fun h => absurd h (by decide), fun h => absurd h (by decide)⟩
                    · refine zw_b (by omega) ?_
                      refine zw_some ?_
                      refine zw_ite (fun h65 => ?_) (fun h65 => ?_)
                      · refine zw_bd (zw_mono (zk_89 n hIm25 hc0 hRNSm25 hRWDm25) (fun v67 m66 hqm66 => ?_))
                        obtain ⟨hIm66, hfm66, hvm66⟩ := hqm66
                        have hFm66 := zfr_tr hFm25 hfm66 rfl
                        obtain ⟨hRNSm66, hRTRm66, hRWDm66, hvm66⟩ := hvm66
                        have hRC0m66 := zR_C0_fr (zdis_fr hfm66 rfl) hRC0m25
                        have hRCRm66 := zR_CR_fr (zdis_fr hfm66 rfl) hRCRm25
                        have hRKNm66 := zR_KN_fr (zdis_fr hfm66 rfl) hRKNm25
                        have hRLRm66 := zR_LR_fr (zdis_fr hfm66 rfl) hRLRm25
                        have hRLTm66 := zR_LT_fr (zdis_fr hfm66 rfl) hRLTm25
                        have s68 := hRNSm66 a0 hc0
                        have r69 : 0 ≤ (m66 a0 7) ∧ (m66 a0 7) ≤ 700 := zi_rd hIm66 hc0 zb_28_7
                        have r70 : 0 ≤ (m66 a0 8) ∧ (m66 a0 8) ≤ 6 := zi_rd hIm66 hc0 zb_28_8
                        refine zw_b (by omega) ?_
                        have r71 : 0 ≤ (m66 a0 21) ∧ (m66 a0 21) ≤ 64 := zi_rd hIm66 hc0 zb_28_21
                        have e72 : (m66 a0 21) = (m0 a0 21) := (Eq.trans (zfr_ap hfm66 hc0 rfl) (zfr_ap hfm25 hc0 rfl))
                        have r73 : 0 ≤ (m66 a0 48) ∧ (m66 a0 48) ≤ 64 := zi_rd hIm66 hc0 zb_28_48
                        have e74 : (m66 a0 48) = (m0 a0 48) := (Eq.trans (zfr_ap hfm66 hc0 rfl) (zfr_ap hfm25 hc0 rfl))
                        have r75 : (-2147483648) ≤ (m66 a0 4) ∧ (m66 a0 4) ≤ 2147483647 := zi_rd hIm66 hc0 zb_28_4
                        have e76 : (m66 a0 4) = (m25 a0 4) := (zfr_ap hfm66 hc0 rfl)
                        exact zw_some ⟨hIm66, hFm66, hRC0m66, hRCRm66, hRKNm66, hRLRm66, hRLTm66, hRNSm66, hRTRm66, hRWDm66, ⟨by decide, by decide⟩, fun _ => by omega, fun _ => by omega, fun _ => by omega⟩
                      · exfalso; omega
                · refine zw_b (by omega) ?_
                  have r77 : 0 ≤ (m25 a0 21) ∧ (m25 a0 21) ≤ 64 := zi_rd hIm25 hc0 zb_28_21
                  have e78 : (m25 a0 21) = (m0 a0 21) := (zfr_ap hfm25 hc0 rfl)
                  have r79 : 0 ≤ (m25 a0 48) ∧ (m25 a0 48) ≤ 64 := zi_rd hIm25 hc0 zb_28_48
                  have e80 : (m25 a0 48) = (m0 a0 48) := (zfr_ap hfm25 hc0 rfl)
                  exact zw_some ⟨hIm25, hFm25, hRC0m25, hRCRm25, hRKNm25, hRLRm25, hRLTm25, hRNSm25, hRTRm25, hRWDm25, ⟨by decide, by decide⟩, fun h => absurd h (by decide), fun h => absurd h (by decide), fun h => absurd h (by decide)⟩
              · refine zw_bd (zw_mono (zk_103 n hIm0 hc0 ⟨by omega, by omega⟩ ⟨by omega, by omega⟩ (by omega) (by omega) hRKNm0 hRLRm0 hRLTm0 hRNSm0 hRTRm0 hRWDm0) (fun v82 m81 hqm81 => ?_))
                obtain ⟨hIm81, hfm81, hvm81⟩ := hqm81
                have hFm81 := zfr_tr hFm0 hfm81 rfl
                obtain ⟨hRKNm81, hRLRm81, hRLTm81, hRNSm81, hRTRm81, hRWDm81, hvm81⟩ := hvm81
                have hRC0m81 := zR_C0_fr (zdis_fr hfm81 rfl) hRC0m0
                have hRCRm81 := zR_CR_fr (zdis_fr hfm81 rfl) hRCRm0
                have s83 := hRNSm81 a0 hc0
                have r84 : 0 ≤ (m81 a0 7) ∧ (m81 a0 7) ≤ 700 := zi_rd hIm81 hc0 zb_28_7
                have r85 : 0 ≤ (m81 a0 8) ∧ (m81 a0 8) ≤ 6 := zi_rd hIm81 hc0 zb_28_8
                have r86 : 0 ≤ (m81 a0 21) ∧ (m81 a0 21) ≤ 64 := zi_rd hIm81 hc0 zb_28_21
                have r87 : 0 ≤ (m81 a0 48) ∧ (m81 a0 48) ≤ 64 := zi_rd hIm81 hc0 zb_28_48
                have r88 : (-2147483648) ≤ (m81 a0 4) ∧ (m81 a0 4) ≤ 2147483647 := zi_rd hIm81 hc0 zb_28_4
                have y89 := (hvm81.1)
                have y90 := (hvm81.2.1)
                have y91 := zhid_mk (hvm81.2.2.1)
                have y92 := zhid_mk (hvm81.2.2.2.1)
                have y93 := zhid_mk (hvm81.2.2.2.2)
                clear hvm81
                refine zw_ite (fun h94 => ?_) (fun h94 => ?_)
                · have s95 := (zhid_of y91) (by omega)
                  have s96 := (zhid_of y92) (by omega)
                  have s97 := (zhid_of y93) (by omega)
                  refine zw_bd (zw_eq (zu_call_at (zt_T n) (zm_93 n) (zdp_93 n) _ _ _ _ _ rfl (zr_93_0 n _ _ a0 59 m81)) ?_)
                  refine zw_ite (fun h98 => ?_) (fun h98 => ?_)
                  · refine zw_b (by omega) ?_
                    refine zw_some ?_
                    refine zw_ite (fun h99 => ?_) (fun h99 => ?_)
                    · exfalso; omega
                    · refine zw_bd (zw_eq (zu_call_at (zt_T n) (zm_85 n) (zdp_85 n) _ _ _ _ _ rfl (zr_85_0 n _ _ a0 1 m81)) ?_)
                      generalize hmm100 : zu_up m81 a0 4 1 = m100
                      have hIm100 := zi_up hmm100 hIm81 hc0 zb_28_4 (by omega) (by omega)
                      have hFm100 := zfr_up hmm100 hFm81 hc0 rfl
                      have hRC0m100 := zR_C0_fr (zdis_fr (zfr_up hmm100 (zfr_rf [(28, 5)] _) hc0 rfl) rfl) hRC0m81
                      have hRCRm100 := zR_CR_fr (zdis_fr (zfr_up hmm100 (zfr_rf [(28, 5)] _) hc0 rfl) rfl) hRCRm81
                      have hRKNm100 := zR_KN_fr (zdis_fr (zfr_up hmm100 (zfr_rf [(28, 5)] _) hc0 rfl) rfl) hRKNm81
                      have hRLTm100 := zR_LT_fr (zdis_fr (zfr_up hmm100 (zfr_rf [(28, 5)] _) hc0 rfl) rfl) hRLTm81
                      have hRNSm100 := zR_NS_fr (zdis_fr (zfr_up hmm100 (zfr_rf [(28, 5)] _) hc0 rfl) rfl) hRNSm81
                      have hRTRm100 := zR_TR_fr (zdis_fr (zfr_up hmm100 (zfr_rf [(28, 5)] _) hc0 rfl) rfl) hRTRm81
                      have hRWDm100 := zR_WD_fr (zdis_fr (zfr_up hmm100 (zfr_rf [(28, 5)] _) hc0 rfl) rfl) hRWDm81
                      have hRLRm100 := zLR_wr (zone_190 hc0) hmm100 (by decide)
                      have r101 : 0 ≤ (m100 a0 10) ∧ (m100 a0 10) ≤ 700 := zi_rd hIm100 hc0 zb_28_10
                      generalize hmm102 : zu_up m100 a0 5 (m100 a0 10) = m102
                      have hIm102 := zi_up hmm102 hIm100 hc0 zb_28_5 (by omega) (by omega)
                      have hFm102 := zfr_up hmm102 hFm100 hc0 rfl
                      have hRC0m102 := zR_C0_fr (zdis_fr (zfr_up hmm102 (zfr_rf [(28, 6)] _) hc0 rfl) rfl) hRC0m100
                      have hRCRm102 := zR_CR_fr (zdis_fr (zfr_up hmm102 (zfr_rf [(28, 6)] _) hc0 rfl) rfl) hRCRm100
                      have hRKNm102 := zR_KN_fr (zdis_fr (zfr_up hmm102 (zfr_rf [(28, 6)] _) hc0 rfl) rfl) hRKNm100
                      have hRLRm102 := zR_LR_fr (zdis_fr (zfr_up hmm102 (zfr_rf [(28, 6)] _) hc0 rfl) rfl) hRLRm100
                      have hRLTm102 := zR_LT_fr (zdis_fr (zfr_up hmm102 (zfr_rf [(28, 6)] _) hc0 rfl) rfl) hRLTm100
                      have hRNSm102 := zR_NS_fr (zdis_fr (zfr_up hmm102 (zfr_rf [(28, 6)] _) hc0 rfl) rfl) hRNSm100
                      have hRTRm102 := zR_TR_fr (zdis_fr (zfr_up hmm102 (zfr_rf [(28, 6)] _) hc0 rfl) rfl) hRTRm100
                      have hRWDm102 := zR_WD_fr (zdis_fr (zfr_up hmm102 (zfr_rf [(28, 6)] _) hc0 rfl) rfl) hRWDm100
                      refine zw_b (by omega) ?_
                      refine zw_some ?_
                      refine zw_b (by omega) ?_
                      have r103 : 0 ≤ (m102 a0 7) ∧ (m102 a0 7) ≤ 700 := zi_rd hIm102 hc0 zb_28_7
                      have e104 : (m102 a0 7) = (m81 a0 7) := (Eq.trans (zs_ne hmm102 (Or.inr (by decide))) (zs_ne hmm100 (Or.inr (by decide))))
                      have r105 : 0 ≤ (m102 a0 21) ∧ (m102 a0 21) ≤ 64 := zi_rd hIm102 hc0 zb_28_21
                      have e106 : (m102 a0 21) = (m81 a0 21) := (Eq.trans (zs_ne hmm102 (Or.inr (by decide))) (zs_ne hmm100 (Or.inr (by decide))))
                      have r107 : 0 ≤ (m102 a0 48) ∧ (m102 a0 48) ≤ 64 := zi_rd hIm102 hc0 zb_28_48
                      have e108 : (m102 a0 48) = (m81 a0 48) := (Eq.trans (zs_ne hmm102 (Or.inr (by decide))) (zs_ne hmm100 (Or.inr (by decide))))
                      have r109 : (-2147483648) ≤ (m102 a0 4) ∧ (m102 a0 4) ≤ 2147483647 := zi_rd hIm102 hc0 zb_28_4
                      have e110 : (m102 a0 4) = 1 := (Eq.trans (zs_ne hmm102 (Or.inr (by decide))) (zs_eq hmm100))
                      exact zw_some ⟨hIm102, hFm102, hRC0m102, hRCRm102, hRKNm102, hRLRm102, hRLTm102, hRNSm102, hRTRm102, hRWDm102, ⟨by decide, by decide⟩, fun h => absurd h (by decide), fun h => absurd h (by decide), fun h => absurd h (by decide)⟩
                  · have r111 : (-2147483648) ≤ (m81 a0 9) ∧ (m81 a0 9) ≤ 2147483647 := zi_rd hIm81 hc0 zb_28_9
                    refine zw_ite (fun h112 => ?_) (fun h112 => ?_)
                    · refine zw_b (by omega) ?_
                      refine zw_some ?_
                      refine zw_ite (fun h113 => ?_) (fun h113 => ?_)
                      · exfalso; omega
                      · refine zw_bd (zw_eq (zu_call_at (zt_T n) (zm_85 n) (zdp_85 n) _ _ _ _ _ rfl (zr_85_0 n _ _ a0 1 m81)) ?_)
                        generalize hmm114 : zu_up m81 a0 4 1 = m114
                        have hIm114 := zi_up hmm114 hIm81 hc0 zb_28_4 (by omega) (by omega)
                        have hFm114 := zfr_up hmm114 hFm81 hc0 rfl
                        have hRC0m114 := zR_C0_fr (zdis_fr (zfr_up hmm114 (zfr_rf [(28, 5)] _) hc0 rfl) rfl) hRC0m81
                        have hRCRm114 := zR_CR_fr (zdis_fr (zfr_up hmm114 (zfr_rf [(28, 5)] _) hc0 rfl) rfl) hRCRm81
                        have hRKNm114 := zR_KN_fr (zdis_fr (zfr_up hmm114 (zfr_rf [(28, 5)] _) hc0 rfl) rfl) hRKNm81
                        have hRLTm114 := zR_LT_fr (zdis_fr (zfr_up hmm114 (zfr_rf [(28, 5)] _) hc0 rfl) rfl) hRLTm81
                        have hRNSm114 := zR_NS_fr (zdis_fr (zfr_up hmm114 (zfr_rf [(28, 5)] _) hc0 rfl) rfl) hRNSm81
                        have hRTRm114 := zR_TR_fr (zdis_fr (zfr_up hmm114 (zfr_rf [(28, 5)] _) hc0 rfl) rfl) hRTRm81
                        have hRWDm114 := zR_WD_fr (zdis_fr (zfr_up hmm114 (zfr_rf [(28, 5)] _) hc0 rfl) rfl) hRWDm81
                        have hRLRm114 := zLR_wr (zone_190 hc0) hmm114 (by decide)
                        have r115 : 0 ≤ (m114 a0 10) ∧ (m114 a0 10) ≤ 700 := zi_rd hIm114 hc0 zb_28_10
                        generalize hmm116 : zu_up m114 a0 5 (m114 a0 10) = m116
                        have hIm116 := zi_up hmm116 hIm114 hc0 zb_28_5 (by omega) (by omega)
                        have hFm116 := zfr_up hmm116 hFm114 hc0 rfl
                        have hRC0m116 := zR_C0_fr (zdis_fr (zfr_up hmm116 (zfr_rf [(28, 6)] _) hc0 rfl) rfl) hRC0m114
                        have hRCRm116 := zR_CR_fr (zdis_fr (zfr_up hmm116 (zfr_rf [(28, 6)] _) hc0 rfl) rfl) hRCRm114
                        have hRKNm116 := zR_KN_fr (zdis_fr (zfr_up hmm116 (zfr_rf [(28, 6)] _) hc0 rfl) rfl) hRKNm114
                        have hRLRm116 := zR_LR_fr (zdis_fr (zfr_up hmm116 (zfr_rf [(28, 6)] _) hc0 rfl) rfl) hRLRm114
                        have hRLTm116 := zR_LT_fr (zdis_fr (zfr_up hmm116 (zfr_rf [(28, 6)] _) hc0 rfl) rfl) hRLTm114
                        have hRNSm116 := zR_NS_fr (zdis_fr (zfr_up hmm116 (zfr_rf [(28, 6)] _) hc0 rfl) rfl) hRNSm114
                        have hRTRm116 := zR_TR_fr (zdis_fr (zfr_up hmm116 (zfr_rf [(28, 6)] _) hc0 rfl) rfl) hRTRm114
                        have hRWDm116 := zR_WD_fr (zdis_fr (zfr_up hmm116 (zfr_rf [(28, 6)] _) hc0 rfl) rfl) hRWDm114
                        refine zw_b (by omega) ?_
                        refine zw_some ?_
                        refine zw_b (by omega) ?_
                        have r117 : 0 ≤ (m116 a0 7) ∧ (m116 a0 7) ≤ 700 := zi_rd hIm116 hc0 zb_28_7
                        have e118 : (m116 a0 7) = (m81 a0 7) := (Eq.trans (zs_ne hmm116 (Or.inr (by decide))) (zs_ne hmm114 (Or.inr (by decide))))
                        have r119 : 0 ≤ (m116 a0 21) ∧ (m116 a0 21) ≤ 64 := zi_rd hIm116 hc0 zb_28_21
                        have e120 : (m116 a0 21) = (m81 a0 21) := (Eq.trans (zs_ne hmm116 (Or.inr (by decide))) (zs_ne hmm114 (Or.inr (by decide))))
                        have r121 : 0 ≤ (m116 a0 48) ∧ (m116 a0 48) ≤ 64 := zi_rd hIm116 hc0 zb_28_48
                        have e122 : (m116 a0 48) = (m81 a0 48) := (Eq.trans (zs_ne hmm116 (Or.inr (by decide))) (zs_ne hmm114 (Or.inr (by decide))))
                        have r123 : (-2147483648) ≤ (m116 a0 4) ∧ (m116 a0 4) ≤ 2147483647 := zi_rd hIm116 hc0 zb_28_4
                        have e124 : (m116 a0 4) = 1 := (Eq.trans (zs_ne hmm116 (Or.inr (by decide))) (zs_eq hmm114))
                        exact zw_some ⟨hIm116, hFm116, hRC0m116, hRCRm116, hRKNm116, hRLRm116, hRLTm116, hRNSm116, hRTRm116, hRWDm116, ⟨by decide, by decide⟩, fun h => absurd h (by decide), fun h => absurd h (by decide), fun h => absurd h (by decide)⟩
                    · refine zw_b (by omega) ?_
                      refine zw_some ?_
                      refine zw_ite (fun h125 => ?_) (fun h125 => ?_)
                      · refine zw_bd (zw_mono (zk_89 n hIm81 hc0 hRNSm81 hRWDm81) (fun v127 m126 hqm126 => ?_))
                        obtain ⟨hIm126, hfm126, hvm126⟩ := hqm126
                        have hFm126 := zfr_tr hFm81 hfm126 rfl
                        obtain ⟨hRNSm126, hRTRm126, hRWDm126, hvm126⟩ := hvm126
                        have hRC0m126 := zR_C0_fr (zdis_fr hfm126 rfl) hRC0m81
                        have hRCRm126 := zR_CR_fr (zdis_fr hfm126 rfl) hRCRm81
                        have hRKNm126 := zR_KN_fr (zdis_fr hfm126 rfl) hRKNm81
                        have hRLRm126 := zR_LR_fr (zdis_fr hfm126 rfl) hRLRm81
                        have hRLTm126 := zR_LT_fr (zdis_fr hfm126 rfl) hRLTm81
                        have s128 := hRNSm126 a0 hc0
                        have r129 : 0 ≤ (m126 a0 7) ∧ (m126 a0 7) ≤ 700 := zi_rd hIm126 hc0 zb_28_7
                        have r130 : 0 ≤ (m126 a0 8) ∧ (m126 a0 8) ≤ 6 := zi_rd hIm126 hc0 zb_28_8
                        refine zw_b (by omega) ?_
                        have r131 : 0 ≤ (m126 a0 21) ∧ (m126 a0 21) ≤ 64 := zi_rd hIm126 hc0 zb_28_21
                        have e132 : (m126 a0 21) = (m81 a0 21) := (zfr_ap hfm126 hc0 rfl)
                        have r133 : 0 ≤ (m126 a0 48) ∧ (m126 a0 48) ≤ 64 := zi_rd hIm126 hc0 zb_28_48
                        have e134 : (m126 a0 48) = (m81 a0 48) := (zfr_ap hfm126 hc0 rfl)
                        have r135 : (-2147483648) ≤ (m126 a0 4) ∧ (m126 a0 4) ≤ 2147483647 := zi_rd hIm126 hc0 zb_28_4
                        have e136 : (m126 a0 4) = (m81 a0 4) := (zfr_ap hfm126 hc0 rfl)
                        exact zw_some ⟨hIm126, hFm126, hRC0m126, hRCRm126, hRKNm126, hRLRm126, hRLTm126, hRNSm126, hRTRm126, hRWDm126, ⟨by decide, by decide⟩, fun _ => by omega, fun _ => by omega, fun _ => by omega⟩
                      · exfalso; omega
                · refine zw_b (by omega) ?_
                  exact zw_some ⟨hIm81, hFm81, hRC0m81, hRCRm81, hRKNm81, hRLRm81, hRLTm81, hRNSm81, hRTRm81, hRWDm81, ⟨by decide, by decide⟩, fun h => absurd h (by decide), fun h => absurd h (by decide), fun h => absurd h (by decide)⟩
            · refine zw_bd (zw_mono (zk_102 n hIm0 hc0 ⟨by omega, by omega⟩ ⟨by omega, by omega⟩ hRC0m0 hRCRm0 hRLRm0 hRNSm0 hRTRm0 hRWDm0) (fun v138 m137 hqm137 => ?_))
              obtain ⟨hIm137, hfm137, hvm137⟩ := hqm137
              have hFm137 := zfr_tr hFm0 hfm137 rfl
              obtain ⟨hRC0m137, hRCRm137, hRLRm137, hRNSm137, hRTRm137, hRWDm137, hvm137⟩ := hvm137
              have hRKNm137 := zR_KN_fr (zdis_fr hfm137 rfl) hRKNm0
              have hRLTm137 := zR_LT_fr (zdis_fr hfm137 rfl) hRLTm0
              have s139 := hRNSm137 a0 hc0
              have r140 : 0 ≤ (m137 a0 7) ∧ (m137 a0 7) ≤ 700 := zi_rd hIm137 hc0 zb_28_7
              have r141 : 0 ≤ (m137 a0 8) ∧ (m137 a0 8) ≤ 6 := zi_rd hIm137 hc0 zb_28_8
              have r142 : (-2147483648) ≤ (m137 a0 4) ∧ (m137 a0 4) ≤ 2147483647 := zi_rd hIm137 hc0 zb_28_4
              have y143 := (hvm137.1)
              have y144 := (hvm137.2.1)
              have y145 := zhid_mk (hvm137.2.2.1)
              have y146 := zhid_mk (hvm137.2.2.2)
              clear hvm137
              refine zw_ite (fun h147 => ?_) (fun h147 => ?_)
              · have s148 := (zhid_of y145) (by omega)
                have s149 := (zhid_of y146) (by omega)
                refine zw_bd (zw_eq (zu_call_at (zt_T n) (zm_93 n) (zdp_93 n) _ _ _ _ _ rfl (zr_93_0 n _ _ a0 59 m137)) ?_)
                refine zw_ite (fun h150 => ?_) (fun h150 => ?_)
                · refine zw_b (by omega) ?_
                  refine zw_some ?_
                  refine zw_ite (fun h151 => ?_) (fun h151 => ?_)
                  · exfalso; omega
                  · refine zw_bd (zw_eq (zu_call_at (zt_T n) (zm_85 n) (zdp_85 n) _ _ _ _ _ rfl (zr_85_0 n _ _ a0 1 m137)) ?_)
                    generalize hmm152 : zu_up m137 a0 4 1 = m152
                    have hIm152 := zi_up hmm152 hIm137 hc0 zb_28_4 (by omega) (by omega)
                    have hFm152 := zfr_up hmm152 hFm137 hc0 rfl
                    have hRC0m152 := zR_C0_fr (zdis_fr (zfr_up hmm152 (zfr_rf [(28, 5)] _) hc0 rfl) rfl) hRC0m137
                    have hRCRm152 := zR_CR_fr (zdis_fr (zfr_up hmm152 (zfr_rf [(28, 5)] _) hc0 rfl) rfl) hRCRm137
                    have hRKNm152 := zR_KN_fr (zdis_fr (zfr_up hmm152 (zfr_rf [(28, 5)] _) hc0 rfl) rfl) hRKNm137
                    have hRLTm152 := zR_LT_fr (zdis_fr (zfr_up hmm152 (zfr_rf [(28, 5)] _) hc0 rfl) rfl) hRLTm137
                    have hRNSm152 := zR_NS_fr (zdis_fr (zfr_up hmm152 (zfr_rf [(28, 5)] _) hc0 rfl) rfl) hRNSm137
                    have hRTRm152 := zR_TR_fr (zdis_fr (zfr_up hmm152 (zfr_rf [(28, 5)] _) hc0 rfl) rfl) hRTRm137
                    have hRWDm152 := zR_WD_fr (zdis_fr (zfr_up hmm152 (zfr_rf [(28, 5)] _) hc0 rfl) rfl) hRWDm137
                    have hRLRm152 := zLR_wr (zone_190 hc0) hmm152 (by decide)
                    have r153 : 0 ≤ (m152 a0 10) ∧ (m152 a0 10) ≤ 700 := zi_rd hIm152 hc0 zb_28_10
                    generalize hmm154 : zu_up m152 a0 5 (m152 a0 10) = m154
                    have hIm154 := zi_up hmm154 hIm152 hc0 zb_28_5 (by omega) (by omega)
                    have hFm154 := zfr_up hmm154 hFm152 hc0 rfl
                    have hRC0m154 := zR_C0_fr (zdis_fr (zfr_up hmm154 (zfr_rf [(28, 6)] _) hc0 rfl) rfl) hRC0m152
                    have hRCRm154 := zR_CR_fr (zdis_fr (zfr_up hmm154 (zfr_rf [(28, 6)] _) hc0 rfl) rfl) hRCRm152
                    have hRKNm154 := zR_KN_fr (zdis_fr (zfr_up hmm154 (zfr_rf [(28, 6)] _) hc0 rfl) rfl) hRKNm152
                    have hRLRm154 := zR_LR_fr (zdis_fr (zfr_up hmm154 (zfr_rf [(28, 6)] _) hc0 rfl) rfl) hRLRm152
                    have hRLTm154 := zR_LT_fr (zdis_fr (zfr_up hmm154 (zfr_rf [(28, 6)] _) hc0 rfl) rfl) hRLTm152
                    have hRNSm154 := zR_NS_fr (zdis_fr (zfr_up hmm154 (zfr_rf [(28, 6)] _) hc0 rfl) rfl) hRNSm152
                    have hRTRm154 := zR_TR_fr (zdis_fr (zfr_up hmm154 (zfr_rf [(28, 6)] _) hc0 rfl) rfl) hRTRm152
                    have hRWDm154 := zR_WD_fr (zdis_fr (zfr_up hmm154 (zfr_rf [(28, 6)] _) hc0 rfl) rfl) hRWDm152
                    refine zw_b (by omega) ?_
                    refine zw_some ?_
                    refine zw_b (by omega) ?_
                    have r155 : 0 ≤ (m154 a0 7) ∧ (m154 a0 7) ≤ 700 := zi_rd hIm154 hc0 zb_28_7
                    have e156 : (m154 a0 7) = (m137 a0 7) := (Eq.trans (zs_ne hmm154 (Or.inr (by decide))) (zs_ne hmm152 (Or.inr (by decide))))
                    have r157 : 0 ≤ (m154 a0 21) ∧ (m154 a0 21) ≤ 64 := zi_rd hIm154 hc0 zb_28_21
                    have e158 : (m154 a0 21) = (m0 a0 21) := (Eq.trans (zs_ne hmm154 (Or.inr (by decide))) (Eq.trans (zs_ne hmm152 (Or.inr (by decide))) (zfr_ap hfm137 hc0 rfl)))
                    have r159 : 0 ≤ (m154 a0 48) ∧ (m154 a0 48) ≤ 64 := zi_rd hIm154 hc0 zb_28_48
                    have e160 : (m154 a0 48) = (m0 a0 48) := (Eq.trans (zs_ne hmm154 (Or.inr (by decide))) (Eq.trans (zs_ne hmm152 (Or.inr (by decide))) (zfr_ap hfm137 hc0 rfl)))
                    have r161 : (-2147483648) ≤ (m154 a0 4) ∧ (m154 a0 4) ≤ 2147483647 := zi_rd hIm154 hc0 zb_28_4
                    have e162 : (m154 a0 4) = 1 := (Eq.trans (zs_ne hmm154 (Or.inr (by decide))) (zs_eq hmm152))
                    exact zw_some ⟨hIm154, hFm154, hRC0m154, hRCRm154, hRKNm154, hRLRm154, hRLTm154, hRNSm154, hRTRm154, hRWDm154, ⟨by decide, by decide⟩, fun h => absurd h (by decide), fun h => absurd h (by decide), fun h => absurd h (by decide)⟩
                · have r163 : (-2147483648) ≤ (m137 a0 9) ∧ (m137 a0 9) ≤ 2147483647 := zi_rd hIm137 hc0 zb_28_9
                  refine zw_ite (fun h164 => ?_) (fun h164 => ?_)
                  · refine zw_b (by omega) ?_
                    refine zw_some ?_
                    refine zw_ite (fun h165 => ?_) (fun h165 => ?_)
                    · exfalso; omega
                    · refine zw_bd (zw_eq (zu_call_at (zt_T n) (zm_85 n) (zdp_85 n) _ _ _ _ _ rfl (zr_85_0 n _ _ a0 1 m137)) ?_)
                      generalize hmm166 : zu_up m137 a0 4 1 = m166
                      have hIm166 := zi_up hmm166 hIm137 hc0 zb_28_4 (by omega) (by omega)
                      have hFm166 := zfr_up hmm166 hFm137 hc0 rfl
                      have hRC0m166 := zR_C0_fr (zdis_fr (zfr_up hmm166 (zfr_rf [(28, 5)] _) hc0 rfl) rfl) hRC0m137
                      have hRCRm166 := zR_CR_fr (zdis_fr (zfr_up hmm166 (zfr_rf [(28, 5)] _) hc0 rfl) rfl) hRCRm137
                      have hRKNm166 := zR_KN_fr (zdis_fr (zfr_up hmm166 (zfr_rf [(28, 5)] _) hc0 rfl) rfl) hRKNm137
                      have hRLTm166 := zR_LT_fr (zdis_fr (zfr_up hmm166 (zfr_rf [(28, 5)] _) hc0 rfl) rfl) hRLTm137
                      have hRNSm166 := zR_NS_fr (zdis_fr (zfr_up hmm166 (zfr_rf [(28, 5)] _) hc0 rfl) rfl) hRNSm137
                      have hRTRm166 := zR_TR_fr (zdis_fr (zfr_up hmm166 (zfr_rf [(28, 5)] _) hc0 rfl) rfl) hRTRm137
                      have hRWDm166 := zR_WD_fr (zdis_fr (zfr_up hmm166 (zfr_rf [(28, 5)] _) hc0 rfl) rfl) hRWDm137
                      have hRLRm166 := zLR_wr (zone_190 hc0) hmm166 (by decide)
                      have r167 : 0 ≤ (m166 a0 10) ∧ (m166 a0 10) ≤ 700 := zi_rd hIm166 hc0 zb_28_10
                      generalize hmm168 : zu_up m166 a0 5 (m166 a0 10) = m168
                      have hIm168 := zi_up hmm168 hIm166 hc0 zb_28_5 (by omega) (by omega)
                      have hFm168 := zfr_up hmm168 hFm166 hc0 rfl
                      have hRC0m168 := zR_C0_fr (zdis_fr (zfr_up hmm168 (zfr_rf [(28, 6)] _) hc0 rfl) rfl) hRC0m166
                      have hRCRm168 := zR_CR_fr (zdis_fr (zfr_up hmm168 (zfr_rf [(28, 6)] _) hc0 rfl) rfl) hRCRm166
                      have hRKNm168 := zR_KN_fr (zdis_fr (zfr_up hmm168 (zfr_rf [(28, 6)] _) hc0 rfl) rfl) hRKNm166
                      have hRLRm168 := zR_LR_fr (zdis_fr (zfr_up hmm168 (zfr_rf [(28, 6)] _) hc0 rfl) rfl) hRLRm166
                      have hRLTm168 := zR_LT_fr (zdis_fr (zfr_up hmm168 (zfr_rf [(28, 6)] _) hc0 rfl) rfl) hRLTm166
                      have hRNSm168 := zR_NS_fr (zdis_fr (zfr_up hmm168 (zfr_rf [(28, 6)] _) hc0 rfl) rfl) hRNSm166
                      have hRTRm168 := zR_TR_fr (zdis_fr (zfr_up hmm168 (zfr_rf [(28, 6)] _) hc0 rfl) rfl) hRTRm166
                      have hRWDm168 := zR_WD_fr (zdis_fr (zfr_up hmm168 (zfr_rf [(28, 6)] _) hc0 rfl) rfl) hRWDm166
                      refine zw_b (by omega) ?_
                      refine zw_some ?_
                      refine zw_b (by omega) ?_
                      have r169 : 0 ≤ (m168 a0 7) ∧ (m168 a0 7) ≤ 700 := zi_rd hIm168 hc0 zb_28_7
                      have e170 : (m168 a0 7) = (m137 a0 7) := (Eq.trans (zs_ne hmm168 (Or.inr (by decide))) (zs_ne hmm166 (Or.inr (by decide))))
                      have r171 : 0 ≤ (m168 a0 21) ∧ (m168 a0 21) ≤ 64 := zi_rd hIm168 hc0 zb_28_21
                      have e172 : (m168 a0 21) = (m0 a0 21) := (Eq.trans (zs_ne hmm168 (Or.inr (by decide))) (Eq.trans (zs_ne hmm166 (Or.inr (by decide))) (zfr_ap hfm137 hc0 rfl)))
                      have r173 : 0 ≤ (m168 a0 48) ∧ (m168 a0 48) ≤ 64 := zi_rd hIm168 hc0 zb_28_48
                      have e174 : (m168 a0 48) = (m0 a0 48) := (Eq.trans (zs_ne hmm168 (Or.inr (by decide))) (Eq.trans (zs_ne hmm166 (Or.inr (by decide))) (zfr_ap hfm137 hc0 rfl)))
                      have r175 : (-2147483648) ≤ (m168 a0 4) ∧ (m168 a0 4) ≤ 2147483647 := zi_rd hIm168 hc0 zb_28_4
                      have e176 : (m168 a0 4) = 1 := (Eq.trans (zs_ne hmm168 (Or.inr (by decide))) (zs_eq hmm166))
                      exact zw_some ⟨hIm168, hFm168, hRC0m168, hRCRm168, hRKNm168, hRLRm168, hRLTm168, hRNSm168, hRTRm168, hRWDm168, ⟨by decide, by decide⟩, fun h => absurd h (by decide), fun h => absurd h (by decide), fun h => absurd h (by decide)⟩
                  · refine zw_b (by omega) ?_
                    refine zw_some ?_
                    refine zw_ite (fun h177 => ?_) (fun h177 => ?_)
                    · refine zw_bd (zw_mono (zk_89 n hIm137 hc0 hRNSm137 hRWDm137) (fun v179 m178 hqm178 => ?_))
                      obtain ⟨hIm178, hfm178, hvm178⟩ := hqm178
                      have hFm178 := zfr_tr hFm137 hfm178 rfl
                      obtain ⟨hRNSm178, hRTRm178, hRWDm178, hvm178⟩ := hvm178
                      have hRC0m178 := zR_C0_fr (zdis_fr hfm178 rfl) hRC0m137
                      have hRCRm178 := zR_CR_fr (zdis_fr hfm178 rfl) hRCRm137
                      have hRKNm178 := zR_KN_fr (zdis_fr hfm178 rfl) hRKNm137
                      have hRLRm178 := zR_LR_fr (zdis_fr hfm178 rfl) hRLRm137
                      have hRLTm178 := zR_LT_fr (zdis_fr hfm178 rfl) hRLTm137
                      have s180 := hRNSm178 a0 hc0
                      have r181 : 0 ≤ (m178 a0 7) ∧ (m178 a0 7) ≤ 700 := zi_rd hIm178 hc0 zb_28_7
                      have r182 : 0 ≤ (m178 a0 8) ∧ (m178 a0 8) ≤ 6 := zi_rd hIm178 hc0 zb_28_8
                      refine zw_b (by omega) ?_
                      have r183 : 0 ≤ (m178 a0 21) ∧ (m178 a0 21) ≤ 64 := zi_rd hIm178 hc0 zb_28_21
                      have e184 : (m178 a0 21) = (m0 a0 21) := (Eq.trans (zfr_ap hfm178 hc0 rfl) (zfr_ap hfm137 hc0 rfl))
                      have r185 : 0 ≤ (m178 a0 48) ∧ (m178 a0 48) ≤ 64 := zi_rd hIm178 hc0 zb_28_48
                      have e186 : (m178 a0 48) = (m0 a0 48) := (Eq.trans (zfr_ap hfm178 hc0 rfl) (zfr_ap hfm137 hc0 rfl))
                      have r187 : (-2147483648) ≤ (m178 a0 4) ∧ (m178 a0 4) ≤ 2147483647 := zi_rd hIm178 hc0 zb_28_4
                      have e188 : (m178 a0 4) = (m137 a0 4) := (zfr_ap hfm178 hc0 rfl)
                      exact zw_some ⟨hIm178, hFm178, hRC0m178, hRCRm178, hRKNm178, hRLRm178, hRLTm178, hRNSm178, hRTRm178, hRWDm178, ⟨by decide, by decide⟩, fun _ => by omega, fun _ => by omega, fun _ => by omega⟩
                    · exfalso; omega
              · refine zw_b (by omega) ?_
                have r189 : 0 ≤ (m137 a0 21) ∧ (m137 a0 21) ≤ 64 := zi_rd hIm137 hc0 zb_28_21
                have e190 : (m137 a0 21) = (m0 a0 21) := (zfr_ap hfm137 hc0 rfl)
                have r191 : 0 ≤ (m137 a0 48) ∧ (m137 a0 48) ≤ 64 := zi_rd hIm137 hc0 zb_28_48
                have e192 : (m137 a0 48) = (m0 a0 48) := (zfr_ap hfm137 hc0 rfl)
                exact zw_some ⟨hIm137, hFm137, hRC0m137, hRCRm137, hRKNm137, hRLRm137, hRLTm137, hRNSm137, hRTRm137, hRWDm137, ⟨by decide, by decide⟩, fun h => absurd h (by decide), fun h => absurd h (by decide), fun h => absurd h (by decide)⟩
          · refine zw_bd (zw_mono (zk_101 n hIm0 hc0 ⟨by omega, by omega⟩ ⟨by omega, by omega⟩ hRCRm0 hRLRm0 hRNSm0 hRTRm0 hRWDm0) (fun v194 m193 hqm193 => ?_))
            obtain ⟨hIm193, hfm193, hvm193⟩ := hqm193
            have hFm193 := zfr_tr hFm0 hfm193 rfl
            obtain ⟨hRCRm193, hRLRm193, hRNSm193, hRTRm193, hRWDm193, hvm193⟩ := hvm193
            have hRC0m193 := zR_C0_fr (zdis_fr hfm193 rfl) hRC0m0
            have hRKNm193 := zR_KN_fr (zdis_fr hfm193 rfl) hRKNm0
            have hRLTm193 := zR_LT_fr (zdis_fr hfm193 rfl) hRLTm0
            have s195 := hRNSm193 a0 hc0
            have r196 : 0 ≤ (m193 a0 7) ∧ (m193 a0 7) ≤ 700 := zi_rd hIm193 hc0 zb_28_7
            have r197 : 0 ≤ (m193 a0 8) ∧ (m193 a0 8) ≤ 6 := zi_rd hIm193 hc0 zb_28_8
            have r198 : (-2147483648) ≤ (m193 a0 4) ∧ (m193 a0 4) ≤ 2147483647 := zi_rd hIm193 hc0 zb_28_4
            have y199 := (hvm193.1)
            have y200 := (hvm193.2.1)
            have y201 := zhid_mk (hvm193.2.2.1)
            have y202 := zhid_mk (hvm193.2.2.2)
            clear hvm193
            refine zw_ite (fun h203 => ?_) (fun h203 => ?_)
            · have s204 := (zhid_of y201) (by omega)
              have s205 := (zhid_of y202) (by omega)
              refine zw_bd (zw_eq (zu_call_at (zt_T n) (zm_93 n) (zdp_93 n) _ _ _ _ _ rfl (zr_93_0 n _ _ a0 59 m193)) ?_)
              refine zw_ite (fun h206 => ?_) (fun h206 => ?_)
              · refine zw_b (by omega) ?_
                refine zw_some ?_
                refine zw_ite (fun h207 => ?_) (fun h207 => ?_)
                · exfalso; omega
                · refine zw_bd (zw_eq (zu_call_at (zt_T n) (zm_85 n) (zdp_85 n) _ _ _ _ _ rfl (zr_85_0 n _ _ a0 1 m193)) ?_)
                  generalize hmm208 : zu_up m193 a0 4 1 = m208
                  have hIm208 := zi_up hmm208 hIm193 hc0 zb_28_4 (by omega) (by omega)
                  have hFm208 := zfr_up hmm208 hFm193 hc0 rfl
                  have hRC0m208 := zR_C0_fr (zdis_fr (zfr_up hmm208 (zfr_rf [(28, 5)] _) hc0 rfl) rfl) hRC0m193
                  have hRCRm208 := zR_CR_fr (zdis_fr (zfr_up hmm208 (zfr_rf [(28, 5)] _) hc0 rfl) rfl) hRCRm193
                  have hRKNm208 := zR_KN_fr (zdis_fr (zfr_up hmm208 (zfr_rf [(28, 5)] _) hc0 rfl) rfl) hRKNm193
                  have hRLTm208 := zR_LT_fr (zdis_fr (zfr_up hmm208 (zfr_rf [(28, 5)] _) hc0 rfl) rfl) hRLTm193
                  have hRNSm208 := zR_NS_fr (zdis_fr (zfr_up hmm208 (zfr_rf [(28, 5)] _) hc0 rfl) rfl) hRNSm193
                  have hRTRm208 := zR_TR_fr (zdis_fr (zfr_up hmm208 (zfr_rf [(28, 5)] _) hc0 rfl) rfl) hRTRm193
                  have hRWDm208 := zR_WD_fr (zdis_fr (zfr_up hmm208 (zfr_rf [(28, 5)] _) hc0 rfl) rfl) hRWDm193
                  have hRLRm208 := zLR_wr (zone_190 hc0) hmm208 (by decide)
                  have r209 : 0 ≤ (m208 a0 10) ∧ (m208 a0 10) ≤ 700 := zi_rd hIm208 hc0 zb_28_10
                  generalize hmm210 : zu_up m208 a0 5 (m208 a0 10) = m210
                  have hIm210 := zi_up hmm210 hIm208 hc0 zb_28_5 (by omega) (by omega)
                  have hFm210 := zfr_up hmm210 hFm208 hc0 rfl
                  have hRC0m210 := zR_C0_fr (zdis_fr (zfr_up hmm210 (zfr_rf [(28, 6)] _) hc0 rfl) rfl) hRC0m208
                  have hRCRm210 := zR_CR_fr (zdis_fr (zfr_up hmm210 (zfr_rf [(28, 6)] _) hc0 rfl) rfl) hRCRm208
                  have hRKNm210 := zR_KN_fr (zdis_fr (zfr_up hmm210 (zfr_rf [(28, 6)] _) hc0 rfl) rfl) hRKNm208
                  have hRLRm210 := zR_LR_fr (zdis_fr (zfr_up hmm210 (zfr_rf [(28, 6)] _) hc0 rfl) rfl) hRLRm208
                  have hRLTm210 := zR_LT_fr (zdis_fr (zfr_up hmm210 (zfr_rf [(28, 6)] _) hc0 rfl) rfl) hRLTm208
                  have hRNSm210 := zR_NS_fr (zdis_fr (zfr_up hmm210 (zfr_rf [(28, 6)] _) hc0 rfl) rfl) hRNSm208
                  have hRTRm210 := zR_TR_fr (zdis_fr (zfr_up hmm210 (zfr_rf [(28, 6)] _) hc0 rfl) rfl) hRTRm208
                  have hRWDm210 := zR_WD_fr (zdis_fr (zfr_up hmm210 (zfr_rf [(28, 6)] _) hc0 rfl) rfl) hRWDm208
                  refine zw_b (by omega) ?_
                  refine zw_some ?_
                  refine zw_b (by omega) ?_
                  have r211 : 0 ≤ (m210 a0 7) ∧ (m210 a0 7) ≤ 700 := zi_rd hIm210 hc0 zb_28_7
                  have e212 : (m210 a0 7) = (m193 a0 7) := (Eq.trans (zs_ne hmm210 (Or.inr (by decide))) (zs_ne hmm208 (Or.inr (by decide))))
                  have r213 : 0 ≤ (m210 a0 21) ∧ (m210 a0 21) ≤ 64 := zi_rd hIm210 hc0 zb_28_21
                  have e214 : (m210 a0 21) = (m0 a0 21) := (Eq.trans (zs_ne hmm210 (Or.inr (by decide))) (Eq.trans (zs_ne hmm208 (Or.inr (by decide))) (zfr_ap hfm193 hc0 rfl)))
                  have r215 : 0 ≤ (m210 a0 48) ∧ (m210 a0 48) ≤ 64 := zi_rd hIm210 hc0 zb_28_48
                  have e216 : (m210 a0 48) = (m0 a0 48) := (Eq.trans (zs_ne hmm210 (Or.inr (by decide))) (Eq.trans (zs_ne hmm208 (Or.inr (by decide))) (zfr_ap hfm193 hc0 rfl)))
                  have r217 : (-2147483648) ≤ (m210 a0 4) ∧ (m210 a0 4) ≤ 2147483647 := zi_rd hIm210 hc0 zb_28_4
                  have e218 : (m210 a0 4) = 1 := (Eq.trans (zs_ne hmm210 (Or.inr (by decide))) (zs_eq hmm208))
                  exact zw_some ⟨hIm210, hFm210, hRC0m210, hRCRm210, hRKNm210, hRLRm210, hRLTm210, hRNSm210, hRTRm210, hRWDm210, ⟨by decide, by decide⟩, fun h => absurd h (by decide), fun h => absurd h (by decide), fun h => absurd h (by decide)⟩
              · have r219 : (-2147483648) ≤ (m193 a0 9) ∧ (m193 a0 9) ≤ 2147483647 := zi_rd hIm193 hc0 zb_28_9
                refine zw_ite (fun h220 => ?_) (fun h220 => ?_)
                · refine zw_b (by omega) ?_
                  refine zw_some ?_
                  refine zw_ite (fun h221 => ?_) (fun h221 => ?_)
                  · exfalso; omega
                  · refine zw_bd (zw_eq (zu_call_at (zt_T n) (zm_85 n) (zdp_85 n) _ _ _ _ _ rfl (zr_85_0 n _ _ a0 1 m193)) ?_)
                    generalize hmm222 : zu_up m193 a0 4 1 = m222
                    have hIm222 := zi_up hmm222 hIm193 hc0 zb_28_4 (by omega) (by omega)
                    have hFm222 := zfr_up hmm222 hFm193 hc0 rfl
                    have hRC0m222 := zR_C0_fr (zdis_fr (zfr_up hmm222 (zfr_rf [(28, 5)] _) hc0 rfl) rfl) hRC0m193
                    have hRCRm222 := zR_CR_fr (zdis_fr (zfr_up hmm222 (zfr_rf [(28, 5)] _) hc0 rfl) rfl) hRCRm193
                    have hRKNm222 := zR_KN_fr (zdis_fr (zfr_up hmm222 (zfr_rf [(28, 5)] _) hc0 rfl) rfl) hRKNm193
                    have hRLTm222 := zR_LT_fr (zdis_fr (zfr_up hmm222 (zfr_rf [(28, 5)] _) hc0 rfl) rfl) hRLTm193
                    have hRNSm222 := zR_NS_fr (zdis_fr (zfr_up hmm222 (zfr_rf [(28, 5)] _) hc0 rfl) rfl) hRNSm193
                    have hRTRm222 := zR_TR_fr (zdis_fr (zfr_up hmm222 (zfr_rf [(28, 5)] _) hc0 rfl) rfl) hRTRm193
                    have hRWDm222 := zR_WD_fr (zdis_fr (zfr_up hmm222 (zfr_rf [(28, 5)] _) hc0 rfl) rfl) hRWDm193
                    have hRLRm222 := zLR_wr (zone_190 hc0) hmm222 (by decide)
                    have r223 : 0 ≤ (m222 a0 10) ∧ (m222 a0 10) ≤ 700 := zi_rd hIm222 hc0 zb_28_10
                    generalize hmm224 : zu_up m222 a0 5 (m222 a0 10) = m224
                    have hIm224 := zi_up hmm224 hIm222 hc0 zb_28_5 (by omega) (by omega)
                    have hFm224 := zfr_up hmm224 hFm222 hc0 rfl
                    have hRC0m224 := zR_C0_fr (zdis_fr (zfr_up hmm224 (zfr_rf [(28, 6)] _) hc0 rfl) rfl) hRC0m222
                    have hRCRm224 := zR_CR_fr (zdis_fr (zfr_up hmm224 (zfr_rf [(28, 6)] _) hc0 rfl) rfl) hRCRm222
                    have hRKNm224 := zR_KN_fr (zdis_fr (zfr_up hmm224 (zfr_rf [(28, 6)] _) hc0 rfl) rfl) hRKNm222
                    have hRLRm224 := zR_LR_fr (zdis_fr (zfr_up hmm224 (zfr_rf [(28, 6)] _) hc0 rfl) rfl) hRLRm222
                    have hRLTm224 := zR_LT_fr (zdis_fr (zfr_up hmm224 (zfr_rf [(28, 6)] _) hc0 rfl) rfl) hRLTm222
                    have hRNSm224 := zR_NS_fr (zdis_fr (zfr_up hmm224 (zfr_rf [(28, 6)] _) hc0 rfl) rfl) hRNSm222
                    have hRTRm224 := zR_TR_fr (zdis_fr (zfr_up hmm224 (zfr_rf [(28, 6)] _) hc0 rfl) rfl) hRTRm222
                    have hRWDm224 := zR_WD_fr (zdis_fr (zfr_up hmm224 (zfr_rf [(28, 6)] _) hc0 rfl) rfl) hRWDm222
                    refine zw_b (by omega) ?_
                    refine zw_some ?_
                    refine zw_b (by omega) ?_
                    have r225 : 0 ≤ (m224 a0 7) ∧ (m224 a0 7) ≤ 700 := zi_rd hIm224 hc0 zb_28_7
                    have e226 : (m224 a0 7) = (m193 a0 7) := (Eq.trans (zs_ne hmm224 (Or.inr (by decide))) (zs_ne hmm222 (Or.inr (by decide))))
                    have r227 : 0 ≤ (m224 a0 21) ∧ (m224 a0 21) ≤ 64 := zi_rd hIm224 hc0 zb_28_21
                    have e228 : (m224 a0 21) = (m0 a0 21) := (Eq.trans (zs_ne hmm224 (Or.inr (by decide))) (Eq.trans (zs_ne hmm222 (Or.inr (by decide))) (zfr_ap hfm193 hc0 rfl)))
                    have r229 : 0 ≤ (m224 a0 48) ∧ (m224 a0 48) ≤ 64 := zi_rd hIm224 hc0 zb_28_48
                    have e230 : (m224 a0 48) = (m0 a0 48) := (Eq.trans (zs_ne hmm224 (Or.inr (by decide))) (Eq.trans (zs_ne hmm222 (Or.inr (by decide))) (zfr_ap hfm193 hc0 rfl)))
                    have r231 : (-2147483648) ≤ (m224 a0 4) ∧ (m224 a0 4) ≤ 2147483647 := zi_rd hIm224 hc0 zb_28_4
                    have e232 : (m224 a0 4) = 1 := (Eq.trans (zs_ne hmm224 (Or.inr (by decide))) (zs_eq hmm222))
                    exact zw_some ⟨hIm224, hFm224, hRC0m224, hRCRm224, hRKNm224, hRLRm224, hRLTm224, hRNSm224, hRTRm224, hRWDm224, ⟨by decide, by decide⟩, fun h => absurd h (by decide), fun h => absurd h (by decide), fun h => absurd h (by decide)⟩
                · refine zw_b (by omega) ?_
                  refine zw_some ?_
                  refine zw_ite (fun h233 => ?_) (fun h233 => ?_)
                  · refine zw_bd (zw_mono (zk_89 n hIm193 hc0 hRNSm193 hRWDm193) (fun v235 m234 hqm234 => ?_))
                    obtain ⟨hIm234, hfm234, hvm234⟩ := hqm234
                    have hFm234 := zfr_tr hFm193 hfm234 rfl
                    obtain ⟨hRNSm234, hRTRm234, hRWDm234, hvm234⟩ := hvm234
                    have hRC0m234 := zR_C0_fr (zdis_fr hfm234 rfl) hRC0m193
                    have hRCRm234 := zR_CR_fr (zdis_fr hfm234 rfl) hRCRm193
                    have hRKNm234 := zR_KN_fr (zdis_fr hfm234 rfl) hRKNm193
                    have hRLRm234 := zR_LR_fr (zdis_fr hfm234 rfl) hRLRm193
                    have hRLTm234 := zR_LT_fr (zdis_fr hfm234 rfl) hRLTm193
                    have s236 := hRNSm234 a0 hc0
                    have r237 : 0 ≤ (m234 a0 7) ∧ (m234 a0 7) ≤ 700 := zi_rd hIm234 hc0 zb_28_7
                    have r238 : 0 ≤ (m234 a0 8) ∧ (m234 a0 8) ≤ 6 := zi_rd hIm234 hc0 zb_28_8
                    refine zw_b (by omega) ?_
                    have r239 : 0 ≤ (m234 a0 21) ∧ (m234 a0 21) ≤ 64 := zi_rd hIm234 hc0 zb_28_21
                    have e240 : (m234 a0 21) = (m0 a0 21) := (Eq.trans (zfr_ap hfm234 hc0 rfl) (zfr_ap hfm193 hc0 rfl))
                    have r241 : 0 ≤ (m234 a0 48) ∧ (m234 a0 48) ≤ 64 := zi_rd hIm234 hc0 zb_28_48
                    have e242 : (m234 a0 48) = (m0 a0 48) := (Eq.trans (zfr_ap hfm234 hc0 rfl) (zfr_ap hfm193 hc0 rfl))
                    have r243 : (-2147483648) ≤ (m234 a0 4) ∧ (m234 a0 4) ≤ 2147483647 := zi_rd hIm234 hc0 zb_28_4
                    have e244 : (m234 a0 4) = (m193 a0 4) := (zfr_ap hfm234 hc0 rfl)
                    exact zw_some ⟨hIm234, hFm234, hRC0m234, hRCRm234, hRKNm234, hRLRm234, hRLTm234, hRNSm234, hRTRm234, hRWDm234, ⟨by decide, by decide⟩, fun _ => by omega, fun _ => by omega, fun _ => by omega⟩
                  · exfalso; omega
            · refine zw_b (by omega) ?_
              have r245 : 0 ≤ (m193 a0 21) ∧ (m193 a0 21) ≤ 64 := zi_rd hIm193 hc0 zb_28_21
              have e246 : (m193 a0 21) = (m0 a0 21) := (zfr_ap hfm193 hc0 rfl)
              have r247 : 0 ≤ (m193 a0 48) ∧ (m193 a0 48) ≤ 64 := zi_rd hIm193 hc0 zb_28_48
              have e248 : (m193 a0 48) = (m0 a0 48) := (zfr_ap hfm193 hc0 rfl)
              exact zw_some ⟨hIm193, hFm193, hRC0m193, hRCRm193, hRKNm193, hRLRm193, hRLTm193, hRNSm193, hRTRm193, hRWDm193, ⟨by decide, by decide⟩, fun h => absurd h (by decide), fun h => absurd h (by decide), fun h => absurd h (by decide)⟩
        · have w249 := zu_w32_id (z := (m0 a0 9) - 1) (by omega) (by omega)
          have w250 := zu_w32_id (z := (zu_w32 ((m0 a0 9) - 1)) + 1) (by omega) (by omega)
          refine zw_bd (zw_mono (zk_100 n hIm0 hc0 ⟨by omega, by omega⟩ ⟨by omega, by omega⟩ ⟨by omega, by omega⟩ hRCRm0 hRLRm0 hRNSm0 hRTRm0 hRWDm0) (fun v252 m251 hqm251 => ?_))
          obtain ⟨hIm251, hfm251, hvm251⟩ := hqm251
          have hFm251 := zfr_tr hFm0 hfm251 rfl
          obtain ⟨hRCRm251, hRLRm251, hRNSm251, hRTRm251, hRWDm251, hvm251⟩ := hvm251
          have hRC0m251 := zR_C0_fr (zdis_fr hfm251 rfl) hRC0m0
          have hRKNm251 := zR_KN_fr (zdis_fr hfm251 rfl) hRKNm0
          have hRLTm251 := zR_LT_fr (zdis_fr hfm251 rfl) hRLTm0
          have s253 := hRNSm251 a0 hc0
          have r254 : 0 ≤ (m251 a0 7) ∧ (m251 a0 7) ≤ 700 := zi_rd hIm251 hc0 zb_28_7
          have r255 : 0 ≤ (m251 a0 8) ∧ (m251 a0 8) ≤ 6 := zi_rd hIm251 hc0 zb_28_8
          have r256 : (-2147483648) ≤ (m251 a0 4) ∧ (m251 a0 4) ≤ 2147483647 := zi_rd hIm251 hc0 zb_28_4
          have y257 := (hvm251.1)
          have y258 := (hvm251.2.1)
          have y259 := zhid_mk (hvm251.2.2.1)
          have y260 := zhid_mk (hvm251.2.2.2)
          clear hvm251
          refine zw_ite (fun h261 => ?_) (fun h261 => ?_)
          · have s262 := (zhid_of y259) (by omega)
            have s263 := (zhid_of y260) (by omega)
            refine zw_bd (zw_eq (zu_call_at (zt_T n) (zm_93 n) (zdp_93 n) _ _ _ _ _ rfl (zr_93_0 n _ _ a0 59 m251)) ?_)
            refine zw_ite (fun h264 => ?_) (fun h264 => ?_)
            · refine zw_b (by omega) ?_
              refine zw_some ?_
              refine zw_ite (fun h265 => ?_) (fun h265 => ?_)
              · exfalso; omega
              · refine zw_bd (zw_eq (zu_call_at (zt_T n) (zm_85 n) (zdp_85 n) _ _ _ _ _ rfl (zr_85_0 n _ _ a0 1 m251)) ?_)
                generalize hmm266 : zu_up m251 a0 4 1 = m266
                have hIm266 := zi_up hmm266 hIm251 hc0 zb_28_4 (by omega) (by omega)
                have hFm266 := zfr_up hmm266 hFm251 hc0 rfl
                have hRC0m266 := zR_C0_fr (zdis_fr (zfr_up hmm266 (zfr_rf [(28, 5)] _) hc0 rfl) rfl) hRC0m251
                have hRCRm266 := zR_CR_fr (zdis_fr (zfr_up hmm266 (zfr_rf [(28, 5)] _) hc0 rfl) rfl) hRCRm251
                have hRKNm266 := zR_KN_fr (zdis_fr (zfr_up hmm266 (zfr_rf [(28, 5)] _) hc0 rfl) rfl) hRKNm251
                have hRLTm266 := zR_LT_fr (zdis_fr (zfr_up hmm266 (zfr_rf [(28, 5)] _) hc0 rfl) rfl) hRLTm251
                have hRNSm266 := zR_NS_fr (zdis_fr (zfr_up hmm266 (zfr_rf [(28, 5)] _) hc0 rfl) rfl) hRNSm251
                have hRTRm266 := zR_TR_fr (zdis_fr (zfr_up hmm266 (zfr_rf [(28, 5)] _) hc0 rfl) rfl) hRTRm251
                have hRWDm266 := zR_WD_fr (zdis_fr (zfr_up hmm266 (zfr_rf [(28, 5)] _) hc0 rfl) rfl) hRWDm251
                have hRLRm266 := zLR_wr (zone_190 hc0) hmm266 (by decide)
                have r267 : 0 ≤ (m266 a0 10) ∧ (m266 a0 10) ≤ 700 := zi_rd hIm266 hc0 zb_28_10
                generalize hmm268 : zu_up m266 a0 5 (m266 a0 10) = m268
                have hIm268 := zi_up hmm268 hIm266 hc0 zb_28_5 (by omega) (by omega)
                have hFm268 := zfr_up hmm268 hFm266 hc0 rfl
                have hRC0m268 := zR_C0_fr (zdis_fr (zfr_up hmm268 (zfr_rf [(28, 6)] _) hc0 rfl) rfl) hRC0m266
                have hRCRm268 := zR_CR_fr (zdis_fr (zfr_up hmm268 (zfr_rf [(28, 6)] _) hc0 rfl) rfl) hRCRm266
                have hRKNm268 := zR_KN_fr (zdis_fr (zfr_up hmm268 (zfr_rf [(28, 6)] _) hc0 rfl) rfl) hRKNm266
                have hRLRm268 := zR_LR_fr (zdis_fr (zfr_up hmm268 (zfr_rf [(28, 6)] _) hc0 rfl) rfl) hRLRm266
                have hRLTm268 := zR_LT_fr (zdis_fr (zfr_up hmm268 (zfr_rf [(28, 6)] _) hc0 rfl) rfl) hRLTm266
                have hRNSm268 := zR_NS_fr (zdis_fr (zfr_up hmm268 (zfr_rf [(28, 6)] _) hc0 rfl) rfl) hRNSm266
                have hRTRm268 := zR_TR_fr (zdis_fr (zfr_up hmm268 (zfr_rf [(28, 6)] _) hc0 rfl) rfl) hRTRm266
                have hRWDm268 := zR_WD_fr (zdis_fr (zfr_up hmm268 (zfr_rf [(28, 6)] _) hc0 rfl) rfl) hRWDm266
                refine zw_b (by omega) ?_
                refine zw_some ?_
                refine zw_b (by omega) ?_
                have r269 : 0 ≤ (m268 a0 7) ∧ (m268 a0 7) ≤ 700 := zi_rd hIm268 hc0 zb_28_7
                have e270 : (m268 a0 7) = (m251 a0 7) := (Eq.trans (zs_ne hmm268 (Or.inr (by decide))) (zs_ne hmm266 (Or.inr (by decide))))
                have r271 : 0 ≤ (m268 a0 21) ∧ (m268 a0 21) ≤ 64 := zi_rd hIm268 hc0 zb_28_21
                have e272 : (m268 a0 21) = (m0 a0 21) := (Eq.trans (zs_ne hmm268 (Or.inr (by decide))) (Eq.trans (zs_ne hmm266 (Or.inr (by decide))) (zfr_ap hfm251 hc0 rfl)))
                have r273 : 0 ≤ (m268 a0 48) ∧ (m268 a0 48) ≤ 64 := zi_rd hIm268 hc0 zb_28_48
                have e274 : (m268 a0 48) = (m0 a0 48) := (Eq.trans (zs_ne hmm268 (Or.inr (by decide))) (Eq.trans (zs_ne hmm266 (Or.inr (by decide))) (zfr_ap hfm251 hc0 rfl)))
                have r275 : (-2147483648) ≤ (m268 a0 4) ∧ (m268 a0 4) ≤ 2147483647 := zi_rd hIm268 hc0 zb_28_4
                have e276 : (m268 a0 4) = 1 := (Eq.trans (zs_ne hmm268 (Or.inr (by decide))) (zs_eq hmm266))
                exact zw_some ⟨hIm268, hFm268, hRC0m268, hRCRm268, hRKNm268, hRLRm268, hRLTm268, hRNSm268, hRTRm268, hRWDm268, ⟨by decide, by decide⟩, fun h => absurd h (by decide), fun h => absurd h (by decide), fun h => absurd h (by decide)⟩
            · have r277 : (-2147483648) ≤ (m251 a0 9) ∧ (m251 a0 9) ≤ 2147483647 := zi_rd hIm251 hc0 zb_28_9
              refine zw_ite (fun h278 => ?_) (fun h278 => ?_)
              · refine zw_b (by omega) ?_
                refine zw_some ?_
                refine zw_ite (fun h279 => ?_) (fun h279 => ?_)
                · exfalso; omega
                · refine zw_bd (zw_eq (zu_call_at (zt_T n) (zm_85 n) (zdp_85 n) _ _ _ _ _ rfl (zr_85_0 n _ _ a0 1 m251)) ?_)
                  generalize hmm280 : zu_up m251 a0 4 1 = m280
                  have hIm280 := zi_up hmm280 hIm251 hc0 zb_28_4 (by omega) (by omega)
                  have hFm280 := zfr_up hmm280 hFm251 hc0 rfl
                  have hRC0m280 := zR_C0_fr (zdis_fr (zfr_up hmm280 (zfr_rf [(28, 5)] _) hc0 rfl) rfl) hRC0m251
                  have hRCRm280 := zR_CR_fr (zdis_fr (zfr_up hmm280 (zfr_rf [(28, 5)] _) hc0 rfl) rfl) hRCRm251
                  have hRKNm280 := zR_KN_fr (zdis_fr (zfr_up hmm280 (zfr_rf [(28, 5)] _) hc0 rfl) rfl) hRKNm251
                  have hRLTm280 := zR_LT_fr (zdis_fr (zfr_up hmm280 (zfr_rf [(28, 5)] _) hc0 rfl) rfl) hRLTm251
                  have hRNSm280 := zR_NS_fr (zdis_fr (zfr_up hmm280 (zfr_rf [(28, 5)] _) hc0 rfl) rfl) hRNSm251
                  have hRTRm280 := zR_TR_fr (zdis_fr (zfr_up hmm280 (zfr_rf [(28, 5)] _) hc0 rfl) rfl) hRTRm251
                  have hRWDm280 := zR_WD_fr (zdis_fr (zfr_up hmm280 (zfr_rf [(28, 5)] _) hc0 rfl) rfl) hRWDm251
                  have hRLRm280 := zLR_wr (zone_190 hc0) hmm280 (by decide)
                  have r281 : 0 ≤ (m280 a0 10) ∧ (m280 a0 10) ≤ 700 := zi_rd hIm280 hc0 zb_28_10
                  generalize hmm282 : zu_up m280 a0 5 (m280 a0 10) = m282
                  have hIm282 := zi_up hmm282 hIm280 hc0 zb_28_5 (by omega) (by omega)
                  have hFm282 := zfr_up hmm282 hFm280 hc0 rfl
                  have hRC0m282 := zR_C0_fr (zdis_fr (zfr_up hmm282 (zfr_rf [(28, 6)] _) hc0 rfl) rfl) hRC0m280
                  have hRCRm282 := zR_CR_fr (zdis_fr (zfr_up hmm282 (zfr_rf [(28, 6)] _) hc0 rfl) rfl) hRCRm280
                  have hRKNm282 := zR_KN_fr (zdis_fr (zfr_up hmm282 (zfr_rf [(28, 6)] _) hc0 rfl) rfl) hRKNm280
                  have hRLRm282 := zR_LR_fr (zdis_fr (zfr_up hmm282 (zfr_rf [(28, 6)] _) hc0 rfl) rfl) hRLRm280
                  have hRLTm282 := zR_LT_fr (zdis_fr (zfr_up hmm282 (zfr_rf [(28, 6)] _) hc0 rfl) rfl) hRLTm280
                  have hRNSm282 := zR_NS_fr (zdis_fr (zfr_up hmm282 (zfr_rf [(28, 6)] _) hc0 rfl) rfl) hRNSm280
                  have hRTRm282 := zR_TR_fr (zdis_fr (zfr_up hmm282 (zfr_rf [(28, 6)] _) hc0 rfl) rfl) hRTRm280
                  have hRWDm282 := zR_WD_fr (zdis_fr (zfr_up hmm282 (zfr_rf [(28, 6)] _) hc0 rfl) rfl) hRWDm280
                  refine zw_b (by omega) ?_
                  refine zw_some ?_
                  refine zw_b (by omega) ?_
                  have r283 : 0 ≤ (m282 a0 7) ∧ (m282 a0 7) ≤ 700 := zi_rd hIm282 hc0 zb_28_7
                  have e284 : (m282 a0 7) = (m251 a0 7) := (Eq.trans (zs_ne hmm282 (Or.inr (by decide))) (zs_ne hmm280 (Or.inr (by decide))))
                  have r285 : 0 ≤ (m282 a0 21) ∧ (m282 a0 21) ≤ 64 := zi_rd hIm282 hc0 zb_28_21
                  have e286 : (m282 a0 21) = (m0 a0 21) := (Eq.trans (zs_ne hmm282 (Or.inr (by decide))) (Eq.trans (zs_ne hmm280 (Or.inr (by decide))) (zfr_ap hfm251 hc0 rfl)))
                  have r287 : 0 ≤ (m282 a0 48) ∧ (m282 a0 48) ≤ 64 := zi_rd hIm282 hc0 zb_28_48
                  have e288 : (m282 a0 48) = (m0 a0 48) := (Eq.trans (zs_ne hmm282 (Or.inr (by decide))) (Eq.trans (zs_ne hmm280 (Or.inr (by decide))) (zfr_ap hfm251 hc0 rfl)))
                  have r289 : (-2147483648) ≤ (m282 a0 4) ∧ (m282 a0 4) ≤ 2147483647 := zi_rd hIm282 hc0 zb_28_4
                  have e290 : (m282 a0 4) = 1 := (Eq.trans (zs_ne hmm282 (Or.inr (by decide))) (zs_eq hmm280))
                  exact zw_some ⟨hIm282, hFm282, hRC0m282, hRCRm282, hRKNm282, hRLRm282, hRLTm282, hRNSm282, hRTRm282, hRWDm282, ⟨by decide, by decide⟩, fun h => absurd h (by decide), fun h => absurd h (by decide), fun h => absurd h (by decide)⟩
              · refine zw_b (by omega) ?_
                refine zw_some ?_
                refine zw_ite (fun h291 => ?_) (fun h291 => ?_)
                · refine zw_bd (zw_mono (zk_89 n hIm251 hc0 hRNSm251 hRWDm251) (fun v293 m292 hqm292 => ?_))
                  obtain ⟨hIm292, hfm292, hvm292⟩ := hqm292
                  have hFm292 := zfr_tr hFm251 hfm292 rfl
                  obtain ⟨hRNSm292, hRTRm292, hRWDm292, hvm292⟩ := hvm292
                  have hRC0m292 := zR_C0_fr (zdis_fr hfm292 rfl) hRC0m251
                  have hRCRm292 := zR_CR_fr (zdis_fr hfm292 rfl) hRCRm251
                  have hRKNm292 := zR_KN_fr (zdis_fr hfm292 rfl) hRKNm251
                  have hRLRm292 := zR_LR_fr (zdis_fr hfm292 rfl) hRLRm251
                  have hRLTm292 := zR_LT_fr (zdis_fr hfm292 rfl) hRLTm251
                  have s294 := hRNSm292 a0 hc0
                  have r295 : 0 ≤ (m292 a0 7) ∧ (m292 a0 7) ≤ 700 := zi_rd hIm292 hc0 zb_28_7
                  have r296 : 0 ≤ (m292 a0 8) ∧ (m292 a0 8) ≤ 6 := zi_rd hIm292 hc0 zb_28_8
                  refine zw_b (by omega) ?_
                  have r297 : 0 ≤ (m292 a0 21) ∧ (m292 a0 21) ≤ 64 := zi_rd hIm292 hc0 zb_28_21
                  have e298 : (m292 a0 21) = (m0 a0 21) := (Eq.trans (zfr_ap hfm292 hc0 rfl) (zfr_ap hfm251 hc0 rfl))
                  have r299 : 0 ≤ (m292 a0 48) ∧ (m292 a0 48) ≤ 64 := zi_rd hIm292 hc0 zb_28_48
                  have e300 : (m292 a0 48) = (m0 a0 48) := (Eq.trans (zfr_ap hfm292 hc0 rfl) (zfr_ap hfm251 hc0 rfl))
                  have r301 : (-2147483648) ≤ (m292 a0 4) ∧ (m292 a0 4) ≤ 2147483647 := zi_rd hIm292 hc0 zb_28_4
                  have e302 : (m292 a0 4) = (m251 a0 4) := (zfr_ap hfm292 hc0 rfl)
                  exact zw_some ⟨hIm292, hFm292, hRC0m292, hRCRm292, hRKNm292, hRLRm292, hRLTm292, hRNSm292, hRTRm292, hRWDm292, ⟨by decide, by decide⟩, fun _ => by omega, fun _ => by omega, fun _ => by omega⟩
                · exfalso; omega
          · refine zw_b (by omega) ?_
            have r303 : 0 ≤ (m251 a0 21) ∧ (m251 a0 21) ≤ 64 := zi_rd hIm251 hc0 zb_28_21
            have e304 : (m251 a0 21) = (m0 a0 21) := (zfr_ap hfm251 hc0 rfl)
            have r305 : 0 ≤ (m251 a0 48) ∧ (m251 a0 48) ≤ 64 := zi_rd hIm251 hc0 zb_28_48
            have e306 : (m251 a0 48) = (m0 a0 48) := (zfr_ap hfm251 hc0 rfl)
            exact zw_some ⟨hIm251, hFm251, hRC0m251, hRCRm251, hRKNm251, hRLRm251, hRLTm251, hRNSm251, hRTRm251, hRWDm251, ⟨by decide, by decide⟩, fun h => absurd h (by decide), fun h => absurd h (by decide), fun h => absurd h (by decide)⟩
      · refine zw_bd (zw_mono (zk_99 n hIm0 hc0 hRCRm0 hRLRm0 hRNSm0 hRTRm0 hRWDm0) (fun v308 m307 hqm307 => ?_))
        obtain ⟨hIm307, hfm307, hvm307⟩ := hqm307
        have hFm307 := zfr_tr hFm0 hfm307 rfl
        obtain ⟨hRCRm307, hRLRm307, hRNSm307, hRTRm307, hRWDm307, hvm307⟩ := hvm307
        have hRC0m307 := zR_C0_fr (zdis_fr hfm307 rfl) hRC0m0
        have hRKNm307 := zR_KN_fr (zdis_fr hfm307 rfl) hRKNm0
        have hRLTm307 := zR_LT_fr (zdis_fr hfm307 rfl) hRLTm0
        have s309 := hRNSm307 a0 hc0
        have r310 : 0 ≤ (m307 a0 7) ∧ (m307 a0 7) ≤ 700 := zi_rd hIm307 hc0 zb_28_7
        have r311 : 0 ≤ (m307 a0 8) ∧ (m307 a0 8) ≤ 6 := zi_rd hIm307 hc0 zb_28_8
        have r312 : (-2147483648) ≤ (m307 a0 4) ∧ (m307 a0 4) ≤ 2147483647 := zi_rd hIm307 hc0 zb_28_4
        have y313 := (hvm307.1)
        have y314 := (hvm307.2.1)
        have y315 := zhid_mk (hvm307.2.2.1)
        have y316 := zhid_mk (hvm307.2.2.2)
        clear hvm307
        refine zw_ite (fun h317 => ?_) (fun h317 => ?_)
        · have s318 := (zhid_of y315) (by omega)
          have s319 := (zhid_of y316) (by omega)
          refine zw_bd (zw_eq (zu_call_at (zt_T n) (zm_93 n) (zdp_93 n) _ _ _ _ _ rfl (zr_93_0 n _ _ a0 59 m307)) ?_)
          refine zw_ite (fun h320 => ?_) (fun h320 => ?_)
          · refine zw_b (by omega) ?_
            refine zw_some ?_
            refine zw_ite (fun h321 => ?_) (fun h321 => ?_)
            · exfalso; omega
            · refine zw_bd (zw_eq (zu_call_at (zt_T n) (zm_85 n) (zdp_85 n) _ _ _ _ _ rfl (zr_85_0 n _ _ a0 1 m307)) ?_)
              generalize hmm322 : zu_up m307 a0 4 1 = m322
              have hIm322 := zi_up hmm322 hIm307 hc0 zb_28_4 (by omega) (by omega)
              have hFm322 := zfr_up hmm322 hFm307 hc0 rfl
              have hRC0m322 := zR_C0_fr (zdis_fr (zfr_up hmm322 (zfr_rf [(28, 5)] _) hc0 rfl) rfl) hRC0m307
              have hRCRm322 := zR_CR_fr (zdis_fr (zfr_up hmm322 (zfr_rf [(28, 5)] _) hc0 rfl) rfl) hRCRm307
              have hRKNm322 := zR_KN_fr (zdis_fr (zfr_up hmm322 (zfr_rf [(28, 5)] _) hc0 rfl) rfl) hRKNm307
              have hRLTm322 := zR_LT_fr (zdis_fr (zfr_up hmm322 (zfr_rf [(28, 5)] _) hc0 rfl) rfl) hRLTm307
              have hRNSm322 := zR_NS_fr (zdis_fr (zfr_up hmm322 (zfr_rf [(28, 5)] _) hc0 rfl) rfl) hRNSm307
              have hRTRm322 := zR_TR_fr (zdis_fr (zfr_up hmm322 (zfr_rf [(28, 5)] _) hc0 rfl) rfl) hRTRm307
              have hRWDm322 := zR_WD_fr (zdis_fr (zfr_up hmm322 (zfr_rf [(28, 5)] _) hc0 rfl) rfl) hRWDm307
              have hRLRm322 := zLR_wr (zone_190 hc0) hmm322 (by decide)
              have r323 : 0 ≤ (m322 a0 10) ∧ (m322 a0 10) ≤ 700 := zi_rd hIm322 hc0 zb_28_10
              generalize hmm324 : zu_up m322 a0 5 (m322 a0 10) = m324
              have hIm324 := zi_up hmm324 hIm322 hc0 zb_28_5 (by omega) (by omega)
              have hFm324 := zfr_up hmm324 hFm322 hc0 rfl
              have hRC0m324 := zR_C0_fr (zdis_fr (zfr_up hmm324 (zfr_rf [(28, 6)] _) hc0 rfl) rfl) hRC0m322
              have hRCRm324 := zR_CR_fr (zdis_fr (zfr_up hmm324 (zfr_rf [(28, 6)] _) hc0 rfl) rfl) hRCRm322
              have hRKNm324 := zR_KN_fr (zdis_fr (zfr_up hmm324 (zfr_rf [(28, 6)] _) hc0 rfl) rfl) hRKNm322
              have hRLRm324 := zR_LR_fr (zdis_fr (zfr_up hmm324 (zfr_rf [(28, 6)] _) hc0 rfl) rfl) hRLRm322
              have hRLTm324 := zR_LT_fr (zdis_fr (zfr_up hmm324 (zfr_rf [(28, 6)] _) hc0 rfl) rfl) hRLTm322
              have hRNSm324 := zR_NS_fr (zdis_fr (zfr_up hmm324 (zfr_rf [(28, 6)] _) hc0 rfl) rfl) hRNSm322
              have hRTRm324 := zR_TR_fr (zdis_fr (zfr_up hmm324 (zfr_rf [(28, 6)] _) hc0 rfl) rfl) hRTRm322
              have hRWDm324 := zR_WD_fr (zdis_fr (zfr_up hmm324 (zfr_rf [(28, 6)] _) hc0 rfl) rfl) hRWDm322
              refine zw_b (by omega) ?_
              refine zw_some ?_
              refine zw_b (by omega) ?_
              have r325 : 0 ≤ (m324 a0 7) ∧ (m324 a0 7) ≤ 700 := zi_rd hIm324 hc0 zb_28_7
              have e326 : (m324 a0 7) = (m307 a0 7) := (Eq.trans (zs_ne hmm324 (Or.inr (by decide))) (zs_ne hmm322 (Or.inr (by decide))))
              have r327 : 0 ≤ (m324 a0 21) ∧ (m324 a0 21) ≤ 64 := zi_rd hIm324 hc0 zb_28_21
              have e328 : (m324 a0 21) = (m0 a0 21) := (Eq.trans (zs_ne hmm324 (Or.inr (by decide))) (Eq.trans (zs_ne hmm322 (Or.inr (by decide))) (zfr_ap hfm307 hc0 rfl)))
              have r329 : 0 ≤ (m324 a0 48) ∧ (m324 a0 48) ≤ 64 := zi_rd hIm324 hc0 zb_28_48
              have e330 : (m324 a0 48) = (m0 a0 48) := (Eq.trans (zs_ne hmm324 (Or.inr (by decide))) (Eq.trans (zs_ne hmm322 (Or.inr (by decide))) (zfr_ap hfm307 hc0 rfl)))
              have r331 : (-2147483648) ≤ (m324 a0 4) ∧ (m324 a0 4) ≤ 2147483647 := zi_rd hIm324 hc0 zb_28_4
              have e332 : (m324 a0 4) = 1 := (Eq.trans (zs_ne hmm324 (Or.inr (by decide))) (zs_eq hmm322))
              exact zw_some ⟨hIm324, hFm324, hRC0m324, hRCRm324, hRKNm324, hRLRm324, hRLTm324, hRNSm324, hRTRm324, hRWDm324, ⟨by decide, by decide⟩, fun h => absurd h (by decide), fun h => absurd h (by decide), fun h => absurd h (by decide)⟩
          · have r333 : (-2147483648) ≤ (m307 a0 9) ∧ (m307 a0 9) ≤ 2147483647 := zi_rd hIm307 hc0 zb_28_9
            refine zw_ite (fun h334 => ?_) (fun h334 => ?_)
            · refine zw_b (by omega) ?_
              refine zw_some ?_
              refine zw_ite (fun h335 => ?_) (fun h335 => ?_)
              · exfalso; omega
              · refine zw_bd (zw_eq (zu_call_at (zt_T n) (zm_85 n) (zdp_85 n) _ _ _ _ _ rfl (zr_85_0 n _ _ a0 1 m307)) ?_)
                generalize hmm336 : zu_up m307 a0 4 1 = m336
                have hIm336 := zi_up hmm336 hIm307 hc0 zb_28_4 (by omega) (by omega)
                have hFm336 := zfr_up hmm336 hFm307 hc0 rfl
                have hRC0m336 := zR_C0_fr (zdis_fr (zfr_up hmm336 (zfr_rf [(28, 5)] _) hc0 rfl) rfl) hRC0m307
                have hRCRm336 := zR_CR_fr (zdis_fr (zfr_up hmm336 (zfr_rf [(28, 5)] _) hc0 rfl) rfl) hRCRm307
                have hRKNm336 := zR_KN_fr (zdis_fr (zfr_up hmm336 (zfr_rf [(28, 5)] _) hc0 rfl) rfl) hRKNm307
                have hRLTm336 := zR_LT_fr (zdis_fr (zfr_up hmm336 (zfr_rf [(28, 5)] _) hc0 rfl) rfl) hRLTm307
                have hRNSm336 := zR_NS_fr (zdis_fr (zfr_up hmm336 (zfr_rf [(28, 5)] _) hc0 rfl) rfl) hRNSm307
                have hRTRm336 := zR_TR_fr (zdis_fr (zfr_up hmm336 (zfr_rf [(28, 5)] _) hc0 rfl) rfl) hRTRm307
                have hRWDm336 := zR_WD_fr (zdis_fr (zfr_up hmm336 (zfr_rf [(28, 5)] _) hc0 rfl) rfl) hRWDm307
                have hRLRm336 := zLR_wr (zone_190 hc0) hmm336 (by decide)
                have r337 : 0 ≤ (m336 a0 10) ∧ (m336 a0 10) ≤ 700 := zi_rd hIm336 hc0 zb_28_10
                generalize hmm338 : zu_up m336 a0 5 (m336 a0 10) = m338
                have hIm338 := zi_up hmm338 hIm336 hc0 zb_28_5 (by omega) (by omega)
                have hFm338 := zfr_up hmm338 hFm336 hc0 rfl
                have hRC0m338 := zR_C0_fr (zdis_fr (zfr_up hmm338 (zfr_rf [(28, 6)] _) hc0 rfl) rfl) hRC0m336
                have hRCRm338 := zR_CR_fr (zdis_fr (zfr_up hmm338 (zfr_rf [(28, 6)] _) hc0 rfl) rfl) hRCRm336
                have hRKNm338 := zR_KN_fr (zdis_fr (zfr_up hmm338 (zfr_rf [(28, 6)] _) hc0 rfl) rfl) hRKNm336
                have hRLRm338 := zR_LR_fr (zdis_fr (zfr_up hmm338 (zfr_rf [(28, 6)] _) hc0 rfl) rfl) hRLRm336
                have hRLTm338 := zR_LT_fr (zdis_fr (zfr_up hmm338 (zfr_rf [(28, 6)] _) hc0 rfl) rfl) hRLTm336
                have hRNSm338 := zR_NS_fr (zdis_fr (zfr_up hmm338 (zfr_rf [(28, 6)] _) hc0 rfl) rfl) hRNSm336
                have hRTRm338 := zR_TR_fr (zdis_fr (zfr_up hmm338 (zfr_rf [(28, 6)] _) hc0 rfl) rfl) hRTRm336
                have hRWDm338 := zR_WD_fr (zdis_fr (zfr_up hmm338 (zfr_rf [(28, 6)] _) hc0 rfl) rfl) hRWDm336
                refine zw_b (by omega) ?_
                refine zw_some ?_
                refine zw_b (by omega) ?_
                have r339 : 0 ≤ (m338 a0 7) ∧ (m338 a0 7) ≤ 700 := zi_rd hIm338 hc0 zb_28_7
                have e340 : (m338 a0 7) = (m307 a0 7) := (Eq.trans (zs_ne hmm338 (Or.inr (by decide))) (zs_ne hmm336 (Or.inr (by decide))))
                have r341 : 0 ≤ (m338 a0 21) ∧ (m338 a0 21) ≤ 64 := zi_rd hIm338 hc0 zb_28_21
                have e342 : (m338 a0 21) = (m0 a0 21) := (Eq.trans (zs_ne hmm338 (Or.inr (by decide))) (Eq.trans (zs_ne hmm336 (Or.inr (by decide))) (zfr_ap hfm307 hc0 rfl)))
                have r343 : 0 ≤ (m338 a0 48) ∧ (m338 a0 48) ≤ 64 := zi_rd hIm338 hc0 zb_28_48
                have e344 : (m338 a0 48) = (m0 a0 48) := (Eq.trans (zs_ne hmm338 (Or.inr (by decide))) (Eq.trans (zs_ne hmm336 (Or.inr (by decide))) (zfr_ap hfm307 hc0 rfl)))
                have r345 : (-2147483648) ≤ (m338 a0 4) ∧ (m338 a0 4) ≤ 2147483647 := zi_rd hIm338 hc0 zb_28_4
                have e346 : (m338 a0 4) = 1 := (Eq.trans (zs_ne hmm338 (Or.inr (by decide))) (zs_eq hmm336))
                exact zw_some ⟨hIm338, hFm338, hRC0m338, hRCRm338, hRKNm338, hRLRm338, hRLTm338, hRNSm338, hRTRm338, hRWDm338, ⟨by decide, by decide⟩, fun h => absurd h (by decide), fun h => absurd h (by decide), fun h => absurd h (by decide)⟩
            · refine zw_b (by omega) ?_
              refine zw_some ?_
              refine zw_ite (fun h347 => ?_) (fun h347 => ?_)
              · refine zw_bd (zw_mono (zk_89 n hIm307 hc0 hRNSm307 hRWDm307) (fun v349 m348 hqm348 => ?_))
                obtain ⟨hIm348, hfm348, hvm348⟩ := hqm348
                have hFm348 := zfr_tr hFm307 hfm348 rfl
                obtain ⟨hRNSm348, hRTRm348, hRWDm348, hvm348⟩ := hvm348
                have hRC0m348 := zR_C0_fr (zdis_fr hfm348 rfl) hRC0m307
                have hRCRm348 := zR_CR_fr (zdis_fr hfm348 rfl) hRCRm307
                have hRKNm348 := zR_KN_fr (zdis_fr hfm348 rfl) hRKNm307
                have hRLRm348 := zR_LR_fr (zdis_fr hfm348 rfl) hRLRm307
                have hRLTm348 := zR_LT_fr (zdis_fr hfm348 rfl) hRLTm307
                have s350 := hRNSm348 a0 hc0
                have r351 : 0 ≤ (m348 a0 7) ∧ (m348 a0 7) ≤ 700 := zi_rd hIm348 hc0 zb_28_7
                have r352 : 0 ≤ (m348 a0 8) ∧ (m348 a0 8) ≤ 6 := zi_rd hIm348 hc0 zb_28_8
                refine zw_b (by omega) ?_
                have r353 : 0 ≤ (m348 a0 21) ∧ (m348 a0 21) ≤ 64 := zi_rd hIm348 hc0 zb_28_21
                have e354 : (m348 a0 21) = (m0 a0 21) := (Eq.trans (zfr_ap hfm348 hc0 rfl) (zfr_ap hfm307 hc0 rfl))
                have r355 : 0 ≤ (m348 a0 48) ∧ (m348 a0 48) ≤ 64 := zi_rd hIm348 hc0 zb_28_48
                have e356 : (m348 a0 48) = (m0 a0 48) := (Eq.trans (zfr_ap hfm348 hc0 rfl) (zfr_ap hfm307 hc0 rfl))
                have r357 : (-2147483648) ≤ (m348 a0 4) ∧ (m348 a0 4) ≤ 2147483647 := zi_rd hIm348 hc0 zb_28_4
                have e358 : (m348 a0 4) = (m307 a0 4) := (zfr_ap hfm348 hc0 rfl)
                exact zw_some ⟨hIm348, hFm348, hRC0m348, hRCRm348, hRKNm348, hRLRm348, hRLTm348, hRNSm348, hRTRm348, hRWDm348, ⟨by decide, by decide⟩, fun _ => by omega, fun _ => by omega, fun _ => by omega⟩
              · exfalso; omega
        · refine zw_b (by omega) ?_
          have r359 : 0 ≤ (m307 a0 21) ∧ (m307 a0 21) ≤ 64 := zi_rd hIm307 hc0 zb_28_21
          have e360 : (m307 a0 21) = (m0 a0 21) := (zfr_ap hfm307 hc0 rfl)
          have r361 : 0 ≤ (m307 a0 48) ∧ (m307 a0 48) ≤ 64 := zi_rd hIm307 hc0 zb_28_48
          have e362 : (m307 a0 48) = (m0 a0 48) := (zfr_ap hfm307 hc0 rfl)
          exact zw_some ⟨hIm307, hFm307, hRC0m307, hRCRm307, hRKNm307, hRLRm307, hRLTm307, hRNSm307, hRTRm307, hRWDm307, ⟨by decide, by decide⟩, fun h => absurd h (by decide), fun h => absurd h (by decide), fun h => absurd h (by decide)⟩
    · refine zw_bd (zw_eq (zu_call_at (zt_T n) (zm_85 n) (zdp_85 n) _ _ _ _ _ rfl (zr_85_0 n _ _ a0 1 m0)) ?_)
      generalize hmm363 : zu_up m0 a0 4 1 = m363
      have hIm363 := zi_up hmm363 hIm0 hc0 zb_28_4 (by omega) (by omega)
      have hFm363 := zfr_up hmm363 hFm0 hc0 rfl
      have hRC0m363 := zR_C0_fr (zdis_fr (zfr_up hmm363 (zfr_rf [(28, 5)] _) hc0 rfl) rfl) hRC0m0
      have hRCRm363 := zR_CR_fr (zdis_fr (zfr_up hmm363 (zfr_rf [(28, 5)] _) hc0 rfl) rfl) hRCRm0
      have hRKNm363 := zR_KN_fr (zdis_fr (zfr_up hmm363 (zfr_rf [(28, 5)] _) hc0 rfl) rfl) hRKNm0
      have hRLTm363 := zR_LT_fr (zdis_fr (zfr_up hmm363 (zfr_rf [(28, 5)] _) hc0 rfl) rfl) hRLTm0
      have hRNSm363 := zR_NS_fr (zdis_fr (zfr_up hmm363 (zfr_rf [(28, 5)] _) hc0 rfl) rfl) hRNSm0
      have hRTRm363 := zR_TR_fr (zdis_fr (zfr_up hmm363 (zfr_rf [(28, 5)] _) hc0 rfl) rfl) hRTRm0
      have hRWDm363 := zR_WD_fr (zdis_fr (zfr_up hmm363 (zfr_rf [(28, 5)] _) hc0 rfl) rfl) hRWDm0
      have hRLRm363 := zLR_wr (zone_190 hc0) hmm363 (by decide)
      have r364 : 0 ≤ (m363 a0 10) ∧ (m363 a0 10) ≤ 700 := zi_rd hIm363 hc0 zb_28_10
      generalize hmm365 : zu_up m363 a0 5 (m363 a0 10) = m365
      have hIm365 := zi_up hmm365 hIm363 hc0 zb_28_5 (by omega) (by omega)
      have hFm365 := zfr_up hmm365 hFm363 hc0 rfl
      have hRC0m365 := zR_C0_fr (zdis_fr (zfr_up hmm365 (zfr_rf [(28, 6)] _) hc0 rfl) rfl) hRC0m363
      have hRCRm365 := zR_CR_fr (zdis_fr (zfr_up hmm365 (zfr_rf [(28, 6)] _) hc0 rfl) rfl) hRCRm363
      have hRKNm365 := zR_KN_fr (zdis_fr (zfr_up hmm365 (zfr_rf [(28, 6)] _) hc0 rfl) rfl) hRKNm363
      have hRLRm365 := zR_LR_fr (zdis_fr (zfr_up hmm365 (zfr_rf [(28, 6)] _) hc0 rfl) rfl) hRLRm363
      have hRLTm365 := zR_LT_fr (zdis_fr (zfr_up hmm365 (zfr_rf [(28, 6)] _) hc0 rfl) rfl) hRLTm363
      have hRNSm365 := zR_NS_fr (zdis_fr (zfr_up hmm365 (zfr_rf [(28, 6)] _) hc0 rfl) rfl) hRNSm363
      have hRTRm365 := zR_TR_fr (zdis_fr (zfr_up hmm365 (zfr_rf [(28, 6)] _) hc0 rfl) rfl) hRTRm363
      have hRWDm365 := zR_WD_fr (zdis_fr (zfr_up hmm365 (zfr_rf [(28, 6)] _) hc0 rfl) rfl) hRWDm363
      refine zw_b (by omega) ?_
      refine zw_some ?_
      refine zw_b (by omega) ?_
      have r366 : 0 ≤ (m365 a0 7) ∧ (m365 a0 7) ≤ 700 := zi_rd hIm365 hc0 zb_28_7
      have e367 : (m365 a0 7) = (m0 a0 7) := (Eq.trans (zs_ne hmm365 (Or.inr (by decide))) (zs_ne hmm363 (Or.inr (by decide))))
      have r368 : 0 ≤ (m365 a0 21) ∧ (m365 a0 21) ≤ 64 := zi_rd hIm365 hc0 zb_28_21
      have e369 : (m365 a0 21) = (m0 a0 21) := (Eq.trans (zs_ne hmm365 (Or.inr (by decide))) (zs_ne hmm363 (Or.inr (by decide))))
      have r370 : 0 ≤ (m365 a0 48) ∧ (m365 a0 48) ≤ 64 := zi_rd hIm365 hc0 zb_28_48
      have e371 : (m365 a0 48) = (m0 a0 48) := (Eq.trans (zs_ne hmm365 (Or.inr (by decide))) (zs_ne hmm363 (Or.inr (by decide))))
      have r372 : (-2147483648) ≤ (m365 a0 4) ∧ (m365 a0 4) ≤ 2147483647 := zi_rd hIm365 hc0 zb_28_4
      have e373 : (m365 a0 4) = 1 := (Eq.trans (zs_ne hmm365 (Or.inr (by decide))) (zs_eq hmm363))
      exact zw_some ⟨hIm365, hFm365, hRC0m365, hRCRm365, hRKNm365, hRLRm365, hRLTm365, hRNSm365, hRTRm365, hRWDm365, ⟨by decide, by decide⟩, fun h => absurd h (by decide), fun h => absurd h (by decide), fun h => absurd h (by decide)⟩
set_option maxHeartbeats 4000000 in
theorem zk_131 (n : Nat) {a0 a1 a2 a3 : Int} {m0 : zu_m} (hIm0 : zi_I m0) (hc0 : zcls a0 = 28) (ha1 : 0 ≤ a1 ∧ a1 ≤ 1) (ha2 : 0 ≤ a2 ∧ a2 ≤ 3) (ha3 : 0 ≤ a3 ∧ a3 ≤ 17)    (hRKNm0 : zR_KN m0) (hRLTm0 : zR_LT m0) : zw (zu_call (zt_T n) 131 [(40, a0), (0, a1), (0, a2), (0, a3)] m0) (fun v m => zi_I m ∧ zfr [(28, 54), (122, 0), (123, 0)] m0 m ∧ zR_KN m ∧ zR_LT m ∧ (0 ≤ v ∧ v ≤ 999)) := by
  have hFm0 : zfr [(28, 54), (122, 0), (123, 0)] m0 m0 := zfr_rf _ _
  refine zw_eq (zu_call_at (zt_T n) (zm_131 n) (zdp_131 n) _ _ _ _ _ rfl (zr_131_0 n _ _ a0 a1 a2 a3 m0)) ?_
  have b1 : 0 ≤ a3 ∧ a3 < 36 := by omega
  refine zw_if b1 ?_
  have r2 : 0 ≤ (m0 198 a3) ∧ (m0 198 a3) ≤ 3 := zi_rd hIm0 zq_198 (zb_107 _)
  have b3 : 0 ≤ a3 ∧ a3 < 36 := by omega
  refine zw_if b3 ?_
  have r4 : 0 ≤ (m0 199 a3) ∧ (m0 199 a3) ≤ 9 := zi_rd hIm0 zq_199 (zb_108 _)
  have b5 : 0 ≤ a3 ∧ a3 < 36 := by omega
  refine zw_if b5 ?_
  have r6 : 0 ≤ (m0 197 a3) ∧ (m0 197 a3) ≤ 47 := zi_rd hIm0 zq_197 (zb_106 _)
  refine zw_bd (zw_mono (zk_130 n hIm0 hc0 ⟨by omega, by omega⟩ ⟨by omega, by omega⟩) (fun v8 m7 hqm7 => ?_))
  obtain ⟨hIm7, hfm7, hvm7⟩ := hqm7
  have hFm7 := zfr_tr hFm0 hfm7 rfl
  have hRKNm7 := zR_KN_fr (zdis_fr hfm7 rfl) hRKNm0
  have hRLTm7 := zR_LT_fr (zdis_fr hfm7 rfl) hRLTm0
  refine zw_bd (zw_mono (zk_129 n hIm7 hc0 ⟨by omega, by omega⟩ ⟨by omega, by omega⟩ ⟨by omega, by omega⟩ ⟨by omega, by omega⟩ ⟨by omega, by omega⟩ hRKNm7 hRLTm7) (fun v10 m9 hqm9 => ?_))
  obtain ⟨hIm9, hfm9, hvm9⟩ := hqm9
  have hFm9 := zfr_tr hFm7 hfm9 rfl
  obtain ⟨hRKNm9, hRLTm9, hvm9⟩ := hvm9
  exact zw_some ⟨hIm9, hFm9, hRKNm9, hRLTm9, ⟨by omega, by omega⟩⟩
set_option maxHeartbeats 4000000 in
theorem zk_138 (n : Nat) {a0 a1 a2 a3 : Int} {m0 : zu_m} (hIm0 : zi_I m0) (hc0 : zcls a0 = 28) (ha1 : 0 ≤ a1 ∧ a1 ≤ 3) (ha2 : 0 ≤ a2 ∧ a2 ≤ 47) (ha3 : (-2147483648) ≤ a3 ∧ a3 ≤ 2147483647)    (hRKNm0 : zR_KN m0) (hRLTm0 : zR_LT m0) : zw (zu_call (zt_T n) 138 [(40, a0), (0, a1), (0, a2), (0, a3)] m0) (fun v m => zi_I m ∧ zfr [(28, 54), (122, 0), (123, 0)] m0 m ∧ zR_KN m ∧ zR_LT m ∧ ((-2147483648) ≤ v ∧ v ≤ 2147483647)) := by
  have hFm0 : zfr [(28, 54), (122, 0), (123, 0)] m0 m0 := zfr_rf _ _
  refine zw_eq (zu_call_at (zt_T n) (zm_138 n) (zdp_138 n) _ _ _ _ _ rfl (zr_138_0 n _ _ a0 a1 a2 a3 m0)) ?_
  refine zw_bd (zw_mono (zk_129 n hIm0 hc0 ⟨by omega, by omega⟩ ⟨by decide, by decide⟩ ⟨by decide, by decide⟩ ⟨by omega, by omega⟩ ⟨by decide, by decide⟩ hRKNm0 hRLTm0) (fun v2 m1 hqm1 => ?_))
  obtain ⟨hIm1, hfm1, hvm1⟩ := hqm1
  have hFm1 := zfr_tr hFm0 hfm1 rfl
  obtain ⟨hRKNm1, hRLTm1, hvm1⟩ := hvm1
  have w3 := zu_w32_id (z := 100 - v2) (by omega) (by omega)
  have w4 := zu_w64_rg (a3 * (zu_w32 (100 - v2)))
  refine zw_nif (by omega) ?_
  have w5 := zu_w64_rg (Int.tdiv (zu_w64 (a3 * (zu_w32 (100 - v2)))) 100)
  have w6 := zu_w32_rg (zu_w64 (Int.tdiv (zu_w64 (a3 * (zu_w32 (100 - v2)))) 100))
  exact zw_some ⟨hIm1, hFm1, hRKNm1, hRLTm1, ⟨by omega, by omega⟩⟩
set_option maxHeartbeats 4000000 in
theorem zl_145 (n : Nat) {a0 a1 a2 : Int} {m0 : zu_m} (hc0 : zcls a0 = 28)   : ∀ k : Nat, (∀ (x3 x4 : Int) (mh : zu_m), zi_I mh → zfr [(28, 3), (28, 54), (122, 0), (123, 0)] m0 mh → (0 ≤ a1 ∧ a1 ≤ 3) → (2 ≤ a2 ∧ a2 ≤ 2) → ((-2147483648) ≤ x3 ∧ x3 ≤ 2147483647) → (0 ≤ x4 ∧ x4 ≤ 16) → (1 ≤ mh a0 15 ∧ mh a0 15 ≤ 4) → (0 ≤ mh a0 2 ∧ mh a0 2 ≤ 0) → (zR_KN mh) → (zR_LT mh) → (16 - x4) * 1 + 17 < (k : Int) → zw (zu_ex (zt_T n) 145 69 [(40, a0), (0, a1), (0, a2), (0, x3), (0, x4)] [] mh) (fun v m => zi_I m ∧ zfr [(28, 3), (28, 54), (122, 0), (123, 0)] m0 m ∧ zR_KN m ∧ zR_LT m ∧ ((-2147483648) ≤ v ∧ v ≤ 2147483647) ∧ (0 ≤ m a0 2 ∧ m a0 2 ≤ 0))) ∧ (∀ (x3 x4 : Int) (mh : zu_m), zi_I mh → zfr [(28, 3), (28, 54), (122, 0), (123, 0)] m0 mh → (0 ≤ a1 ∧ a1 ≤ 3) → (4 ≤ a2 ∧ a2 ≤ 4) → ((-2147483648) ≤ x3 ∧ x3 ≤ 2147483647) → (0 ≤ x4 ∧ x4 ≤ 16) → (1 ≤ mh a0 15 ∧ mh a0 15 ≤ 4) → (0 ≤ mh a0 2 ∧ mh a0 2 ≤ 0) → (zR_KN mh) → (zR_LT mh) → (16 - x4) * 1 + 0 < (k : Int) → zw (zu_ex (zt_T n) 145 120 [(40, a0), (0, a1), (0, a2), (0, x3), (0, x4)] [] mh) (fun v m => zi_I m ∧ zfr [(28, 3), (28, 54), (122, 0), (123, 0)] m0 m ∧ zR_KN m ∧ zR_LT m ∧ ((-2147483648) ≤ v ∧ v ≤ 2147483647) ∧ (0 ≤ m a0 2 ∧ m a0 2 ≤ 0))) := by
  intro k
  induction k with
  | zero => exact ⟨fun x3 x4 mh hImh hFmh hba1 hba2 hbx3 hbx4 hg4 hg5 hRKNmh hRLTmh hM => by exfalso; omega, fun x3 x4 mh hImh hFmh hba1 hba2 hbx3 hbx4 hg4 hg5 hRKNmh hRLTmh hM => by exfalso; omega⟩
  | succ k ih =>
    refine ⟨?_, ?_⟩
    · intro x3 x4 mh hImh hFmh hba1 hba2 hbx3 hbx4 hg4 hg5 hRKNmh hRLTmh hM
      refine zw_eq (zu_rega_at (zt_T n) (zm_145 n) (zdp_145 n) _ _ _ _ _ _ (zr_145_69 n _ _ a0 a1 a2 x3 x4 mh)) ?_
      have b1 : 0 ≤ (0 : Int) ∧ (0 : Int) < 2 := by omega
      refine zw_if b1 ?_
      have r2 : 0 ≤ (mh 216 0) ∧ (mh 216 0) ≤ 16 := zi_rdr (m := 2) (r0 := 0) (r1 := 0) hImh zq_216 (by omega) (by decide +kernel)
      refine zw_ite (fun h3 => ?_) (fun h3 => ?_)
      · exact zw_some ⟨hImh, hFmh, hRKNmh, hRLTmh, ⟨by omega, by omega⟩, ⟨by omega, by omega⟩⟩
      · have b4 : 0 ≤ x4 ∧ x4 < 36 := by omega
        refine zw_if b4 ?_
        have r5 : (-3) ≤ (mh 215 x4) ∧ (mh 215 x4) ≤ 3 := zi_rd hImh zq_215 (zb_124 _)
        refine zw_ite (fun h6 => ?_) (fun h6 => ?_)
        · have b7 := zu_i32_rg 4 x3 0
          have w8 := zu_w32_id (z := x4 + 1) (by omega) (by omega)
          have hM : (16 - (zu_w32 (x4 + 1))) * 1 + 17 < (k : Int) := by omega
          exact ih.1 (zu_i32 4 x3 0) (zu_w32 (x4 + 1)) mh hImh hFmh ⟨by omega, by omega⟩ ⟨by omega, by omega⟩ ⟨by omega, by omega⟩ ⟨by omega, by omega⟩ ⟨by omega, by omega⟩ ⟨by omega, by omega⟩ hRKNmh hRLTmh hM
        · have b9 := zu_i32_rg 5 1 x4
          have b10 := zu_i32_rg 4 x3 (zu_i32 5 1 x4)
          have w11 := zu_w32_id (z := x4 + 1) (by omega) (by omega)
          have hM : (16 - (zu_w32 (x4 + 1))) * 1 + 17 < (k : Int) := by omega
          exact ih.1 (zu_i32 4 x3 (zu_i32 5 1 x4)) (zu_w32 (x4 + 1)) mh hImh hFmh ⟨by omega, by omega⟩ ⟨by omega, by omega⟩ ⟨by omega, by omega⟩ ⟨by omega, by omega⟩ ⟨by omega, by omega⟩ ⟨by omega, by omega⟩ hRKNmh hRLTmh hM
    · intro x3 x4 mh hImh hFmh hba1 hba2 hbx3 hbx4 hg4 hg5 hRKNmh hRLTmh hM
      refine zw_eq (zu_rega_at (zt_T n) (zm_145 n) (zdp_145 n) _ _ _ _ _ _ (zr_145_120 n _ _ a0 a1 a2 x3 x4 mh)) ?_
      have b12 : 0 ≤ (0 : Int) ∧ (0 : Int) < 2 := by omega
      refine zw_if b12 ?_
      have r13 : 0 ≤ (mh 216 0) ∧ (mh 216 0) ≤ 16 := zi_rdr (m := 2) (r0 := 0) (r1 := 0) hImh zq_216 (by omega) (by decide +kernel)
      refine zw_ite (fun h14 => ?_) (fun h14 => ?_)
      · exact zw_some ⟨hImh, hFmh, hRKNmh, hRLTmh, ⟨by omega, by omega⟩, ⟨by omega, by omega⟩⟩
      · have b15 : 0 ≤ x4 ∧ x4 < 36 := by omega
        refine zw_if b15 ?_
        have r16 : (-3) ≤ (mh 215 x4) ∧ (mh 215 x4) ≤ 3 := zi_rd hImh zq_215 (zb_124 _)
        refine zw_ite (fun h17 => ?_) (fun h17 => ?_)
        · have w18 := zu_w32_id (z := x3 + 0) (by omega) (by omega)
          have w19 := zu_w32_id (z := x4 + 1) (by omega) (by omega)
          have hM : (16 - (zu_w32 (x4 + 1))) * 1 + 0 < (k : Int) := by omega
          exact ih.2 (zu_w32 (x3 + 0)) (zu_w32 (x4 + 1)) mh hImh hFmh ⟨by omega, by omega⟩ ⟨by omega, by omega⟩ ⟨by omega, by omega⟩ ⟨by omega, by omega⟩ ⟨by omega, by omega⟩ ⟨by omega, by omega⟩ hRKNmh hRLTmh hM
        · refine zw_bd (zw_mono (zk_132 n hImh hc0 ⟨by omega, by omega⟩ ⟨by omega, by omega⟩ hRKNmh hRLTmh) (fun v21 m20 hqm20 => ?_))
          obtain ⟨hIm20, hfm20, hvm20⟩ := hqm20
          have hFm20 := zfr_tr hFmh hfm20 rfl
          obtain ⟨hRKNm20, hRLTm20, hvm20⟩ := hvm20
          have w22 := zu_w32_rg (x3 + v21)
          have w23 := zu_w32_id (z := x4 + 1) (by omega) (by omega)
          have r24 : (-2147483648) ≤ (m20 a0 2) ∧ (m20 a0 2) ≤ 2147483647 := zi_rd hIm20 hc0 zb_28_2
          have e25 : (m20 a0 2) = (mh a0 2) := (zfr_ap hfm20 hc0 rfl)
          have r26 : 0 ≤ (m20 a0 15) ∧ (m20 a0 15) ≤ 4 := zi_rd hIm20 hc0 zb_28_15
          have e27 : (m20 a0 15) = (mh a0 15) := (zfr_ap hfm20 hc0 rfl)
          have hM : (16 - (zu_w32 (x4 + 1))) * 1 + 0 < (k : Int) := by omega
          exact ih.2 (zu_w32 (x3 + v21)) (zu_w32 (x4 + 1)) m20 hIm20 hFm20 ⟨by omega, by omega⟩ ⟨by omega, by omega⟩ ⟨by omega, by omega⟩ ⟨by omega, by omega⟩ ⟨by omega, by omega⟩ ⟨by omega, by omega⟩ hRKNm20 hRLTm20 hM
set_option maxHeartbeats 4000000 in
theorem zk_145 (n : Nat) {a0 a1 a2 : Int} {m0 : zu_m} (hIm0 : zi_I m0) (hc0 : zcls a0 = 28) (ha1 : (-2147483648) ≤ a1 ∧ a1 ≤ 2147483647) (ha2 : (-2147483648) ≤ a2 ∧ a2 ≤ 2147483647)    (hRKNm0 : zR_KN m0) (hRLTm0 : zR_LT m0) : zw (zu_call (zt_T n) 145 [(40, a0), (0, a1), (0, a2)] m0) (fun v m => zi_I m ∧ zfr [(28, 3), (28, 54), (122, 0), (123, 0)] m0 m ∧ zR_KN m ∧ zR_LT m ∧ ((-2147483648) ≤ v ∧ v ≤ 2147483647) ∧ (0 ≤ m a0 2 ∧ m a0 2 ≤ 0)) := by
  have hFm0 : zfr [(28, 3), (28, 54), (122, 0), (123, 0)] m0 m0 := zfr_rf _ _
  refine zw_eq (zu_call_at (zt_T n) (zm_145 n) (zdp_145 n) _ _ _ _ _ rfl (zr_145_0 n _ _ a0 a1 a2 m0)) ?_
  generalize hmm28 : zu_up m0 a0 2 0 = m28
  have hIm28 := zi_up hmm28 hIm0 hc0 zb_28_2 (by omega) (by omega)
  have hFm28 := zfr_up hmm28 hFm0 hc0 rfl
  have hRKNm28 := zR_KN_fr (zdis_fr (zfr_up hmm28 (zfr_rf [(28, 3)] _) hc0 rfl) rfl) hRKNm0
  have hRLTm28 := zR_LT_fr (zdis_fr (zfr_up hmm28 (zfr_rf [(28, 3)] _) hc0 rfl) rfl) hRLTm0
  refine zw_bd (zw_eq (zu_call_at (zt_T n) (zm_125 n) (zdp_125 n) _ _ _ _ _ rfl (zr_125_0 n _ _ a0 a1 m28)) ?_)
  refine zw_ite (fun h29 => ?_) (fun h29 => ?_)
  · refine zw_b (by omega) ?_
    refine zw_some ?_
    refine zw_ite (fun h30 => ?_) (fun h30 => ?_)
    · exfalso; omega
    · have r31 : (-2147483648) ≤ (m28 a0 2) ∧ (m28 a0 2) ≤ 2147483647 := zi_rd hIm28 hc0 zb_28_2
      have e32 : (m28 a0 2) = 0 := (zs_eq hmm28)
      exact zw_some ⟨hIm28, hFm28, hRKNm28, hRLTm28, ⟨by decide, by decide⟩, ⟨by omega, by omega⟩⟩
  · have r33 : 0 ≤ (m28 a0 15) ∧ (m28 a0 15) ≤ 4 := zi_rd hIm28 hc0 zb_28_15
    refine zw_ite (fun h34 => ?_) (fun h34 => ?_)
    · refine zw_b (by omega) ?_
      refine zw_some ?_
      refine zw_ite (fun h35 => ?_) (fun h35 => ?_)
      · exfalso; omega
      · have r36 : (-2147483648) ≤ (m28 a0 2) ∧ (m28 a0 2) ≤ 2147483647 := zi_rd hIm28 hc0 zb_28_2
        have e37 : (m28 a0 2) = 0 := (zs_eq hmm28)
        exact zw_some ⟨hIm28, hFm28, hRKNm28, hRLTm28, ⟨by decide, by decide⟩, ⟨by omega, by omega⟩⟩
    · refine zw_b (by omega) ?_
      refine zw_some ?_
      refine zw_ite (fun h38 => ?_) (fun h38 => ?_)
      · refine zw_ite (fun h39 => ?_) (fun h39 => ?_)
        · have b40 : 0 ≤ a1 ∧ a1 < 8 := by omega
          refine zw_if b40 ?_
          have r41 : 0 ≤ (m28 217 a1) ∧ (m28 217 a1) ≤ 47 := zi_rd hIm28 zq_217 (zb_126 _)
          have r42 : (-2147483648) ≤ (m28 a0 2) ∧ (m28 a0 2) ≤ 2147483647 := zi_rd hIm28 hc0 zb_28_2
          have e43 : (m28 a0 2) = 0 := (zs_eq hmm28)
          exact zw_some ⟨hIm28, hFm28, hRKNm28, hRLTm28, ⟨by omega, by omega⟩, ⟨by omega, by omega⟩⟩
        · refine zw_ite (fun h44 => ?_) (fun h44 => ?_)
          · refine zw_bd (zw_mono (zk_130 n hIm28 hc0 ⟨by decide, by decide⟩ ⟨by omega, by omega⟩) (fun v46 m45 hqm45 => ?_))
            obtain ⟨hIm45, hfm45, hvm45⟩ := hqm45
            have hFm45 := zfr_tr hFm28 hfm45 rfl
            have hRKNm45 := zR_KN_fr (zdis_fr hfm45 rfl) hRKNm28
            have hRLTm45 := zR_LT_fr (zdis_fr hfm45 rfl) hRLTm28
            have r47 : (-2147483648) ≤ (m45 a0 2) ∧ (m45 a0 2) ≤ 2147483647 := zi_rd hIm45 hc0 zb_28_2
            have e48 : (m45 a0 2) = 0 := (Eq.trans (zfr_ap hfm45 hc0 rfl) (zs_eq hmm28))
            exact zw_some ⟨hIm45, hFm45, hRKNm45, hRLTm45, ⟨by omega, by omega⟩, ⟨by omega, by omega⟩⟩
          · refine zw_ite (fun h49 => ?_) (fun h49 => ?_)
            · have r50 : (-2147483648) ≤ (m28 a0 2) ∧ (m28 a0 2) ≤ 2147483647 := zi_rd hIm28 hc0 zb_28_2
              have e51 : (m28 a0 2) = 0 := (zs_eq hmm28)
              have hM : (16 - 0) * 1 + 17 < ((34 : Nat) : Int) := by omega
              exact (zl_145 n (m0 := m0) hc0 34).1 0 0 m28 hIm28 hFm28 ⟨by omega, by omega⟩ ⟨by omega, by omega⟩ ⟨by omega, by omega⟩ ⟨by omega, by omega⟩ ⟨by omega, by omega⟩ ⟨by omega, by omega⟩ hRKNm28 hRLTm28 hM
            · refine zw_ite (fun h52 => ?_) (fun h52 => ?_)
              · have b53 : 0 ≤ a1 ∧ a1 < 4 := by omega
                refine zw_if b53 ?_
                have r54 : (-2147483648) ≤ (m28 219 a1) ∧ (m28 219 a1) ≤ 2147483647 := zi_rd hIm28 zq_219 (zb_128 _)
                have r55 : (-2147483648) ≤ (m28 a0 2) ∧ (m28 a0 2) ≤ 2147483647 := zi_rd hIm28 hc0 zb_28_2
                have e56 : (m28 a0 2) = 0 := (zs_eq hmm28)
                exact zw_some ⟨hIm28, hFm28, hRKNm28, hRLTm28, ⟨by omega, by omega⟩, ⟨by omega, by omega⟩⟩
              · refine zw_ite (fun h57 => ?_) (fun h57 => ?_)
                · have r58 : (-2147483648) ≤ (m28 a0 2) ∧ (m28 a0 2) ≤ 2147483647 := zi_rd hIm28 hc0 zb_28_2
                  have e59 : (m28 a0 2) = 0 := (zs_eq hmm28)
                  have hM : (16 - 0) * 1 + 0 < ((34 : Nat) : Int) := by omega
                  exact (zl_145 n (m0 := m0) hc0 34).2 0 0 m28 hIm28 hFm28 ⟨by omega, by omega⟩ ⟨by omega, by omega⟩ ⟨by omega, by omega⟩ ⟨by omega, by omega⟩ ⟨by omega, by omega⟩ ⟨by omega, by omega⟩ hRKNm28 hRLTm28 hM
                · have r60 : (-2147483648) ≤ (m28 a0 2) ∧ (m28 a0 2) ≤ 2147483647 := zi_rd hIm28 hc0 zb_28_2
                  have e61 : (m28 a0 2) = 0 := (zs_eq hmm28)
                  exact zw_some ⟨hIm28, hFm28, hRKNm28, hRLTm28, ⟨by decide, by decide⟩, ⟨by omega, by omega⟩⟩
      · exfalso; omega
set_option maxHeartbeats 4000000 in
theorem zl_172 (n : Nat) {a0 a1 : Int} {m0 : zu_m} (hc0 : zcls a0 = 28)   : ∀ k : Nat, (∀ (x2 x4 x6 : Int) (mh : zu_m), zi_I mh → zfr [(28, 3), (28, 54), (122, 0), (123, 0)] m0 mh → ((-2147483648) ≤ a1 ∧ a1 ≤ 2147483647) → (0 ≤ x2 ∧ x2 ≤ 47952) → (0 ≤ x4 ∧ x4 ≤ 47904048) → (0 ≤ x6 ∧ x6 ≤ 48) → (0 ≤ mh a0 2 ∧ mh a0 2 ≤ 0) → (x2 ≤ 999 * x6) → (x4 ≤ 998001 * x6) → (zR_KN mh) → (zR_LT mh) → (48 - x6) * 1 + 9223372036854775808 < (k : Int) → zw (zu_ex (zt_T n) 172 13 [(40, a0), (0, a1), (1, x2), (2, 0), (1, x4), (2, 0), (0, x6), (2, 0), (2, 0), (2, 0), (2, 0), (2, 0)] [] mh) (fun v m => zi_I m ∧ zfr [(28, 3), (28, 54), (122, 0), (123, 0)] m0 m ∧ zR_KN m ∧ zR_LT m ∧ ((-9223372036854775808) ≤ v ∧ v ≤ 9223372036854775807) ∧ (0 ≤ m a0 2 ∧ m a0 2 ≤ 0))) ∧ (∀ (x2 x4 x6 x8 : Int) (mh : zu_m), zi_I mh → zfr [(28, 3), (28, 54), (122, 0), (123, 0)] m0 mh → (0 ≤ a1 ∧ a1 ≤ 1) → (1 ≤ x2 ∧ x2 ≤ 47952) → (0 ≤ x4 ∧ x4 ≤ 47904048) → (0 ≤ x6 ∧ x6 ≤ 9223372036854775807) → (0 ≤ x8 ∧ x8 ≤ 2299394304) → (0 ≤ mh a0 2 ∧ mh a0 2 ≤ 0) → (x8 ≠ 0 ∨ x6 ≠ 0) → (zR_KN mh) → (zR_LT mh) → x8 * 1 + 0 < (k : Int) → zw (zu_ex (zt_T n) 172 80 [(40, a0), (0, a1), (1, x2), (2, 0), (1, x4), (2, 0), (1, x6), (2, 0), (1, x8), (2, 0), (2, 0), (2, 0)] [] mh) (fun v m => zi_I m ∧ zfr [(28, 3), (28, 54), (122, 0), (123, 0)] m0 m ∧ zR_KN m ∧ zR_LT m ∧ ((-9223372036854775808) ≤ v ∧ v ≤ 9223372036854775807) ∧ (0 ≤ m a0 2 ∧ m a0 2 ≤ 0))) := by
  intro k
  induction k with
  | zero => exact ⟨fun x2 x4 x6 mh hImh hFmh hba1 hbx2 hbx4 hbx6 hg4 hH0 hH1 hRKNmh hRLTmh hM => by exfalso; omega, fun x2 x4 x6 x8 mh hImh hFmh hba1 hbx2 hbx4 hbx6 hbx8 hg5 hH0 hRKNmh hRLTmh hM => by exfalso; omega⟩
  | succ k ih =>
    refine ⟨?_, ?_⟩
    · intro x2 x4 x6 mh hImh hFmh hba1 hbx2 hbx4 hbx6 hg4 hH0 hH1 hRKNmh hRLTmh hM
      refine zw_eq (zu_rega_at (zt_T n) (zm_172 n) (zdp_172 n) _ _ _ _ _ _ (zr_172_13 n _ _ a0 a1 x2 x4 x6 mh)) ?_
      refine zw_bd (zw_eq (zu_call_at (zt_T n) (zm_36 n) (zdp_36 n) _ _ _ _ _ rfl (zr_36_0 n _ _ a0 mh)) ?_)
      have r1 : 1 ≤ (mh a0 12) ∧ (mh a0 12) ≤ 8 := zi_rd hImh hc0 zb_28_12
      have r2 : 1 ≤ (mh a0 13) ∧ (mh a0 13) ≤ 6 := zi_rd hImh hc0 zb_28_13
      have p3 := zmul_bd (x := (mh a0 12)) (y := (mh a0 13)) (a := 1) (b := 1) (A := 8) (B := 6) (by omega) (by omega) (by omega) (by omega) (by omega) (by omega)
      have w4 := zu_w32_id (z := (mh a0 12) * (mh a0 13)) (by omega) (by omega)
      refine zw_some ?_
      refine zw_ite (fun h5 => ?_) (fun h5 => ?_)
      · refine zw_bd (zw_eq (zu_call_at (zt_T n) (zm_83 n) (zdp_83 n) _ _ _ _ _ rfl (zr_83_0 n _ _ a1 0 1 mh)) ?_)
        refine zw_ite (fun h6 => ?_) (fun h6 => ?_)
        · refine zw_b (by omega) ?_
          refine zw_some ?_
          refine zw_ite (fun h7 => ?_) (fun h7 => ?_)
          · exact zw_some ⟨hImh, hFmh, hRKNmh, hRLTmh, ⟨by decide, by decide⟩, ⟨by omega, by omega⟩⟩
          · exfalso; omega
        · refine zw_ite (fun h8 => ?_) (fun h8 => ?_)
          · refine zw_b (by omega) ?_
            refine zw_some ?_
            refine zw_ite (fun h9 => ?_) (fun h9 => ?_)
            · exact zw_some ⟨hImh, hFmh, hRKNmh, hRLTmh, ⟨by decide, by decide⟩, ⟨by omega, by omega⟩⟩
            · exfalso; omega
          · refine zw_b (by omega) ?_
            refine zw_some ?_
            refine zw_ite (fun h10 => ?_) (fun h10 => ?_)
            · exfalso; omega
            · have c11 := zu_lcmp_sp x2 0
              refine zw_ite (fun h12 => ?_) (fun h12 => ?_)
              · have p13 := zmul_bd (x := x2) (y := x2) (a := 1) (b := 1) (A := 47952) (B := 47952) (by omega) (by omega) (by omega) (by omega) (by omega) (by omega)
                have w14 := zu_w64_id (z := x2 * x2) (by omega) (by omega)
                have hM : (zu_w64 (x2 * x2)) * 1 + 0 < (k : Int) := by omega
                exact ih.2 x2 x4 x4 (zu_w64 (x2 * x2)) mh hImh hFmh ⟨by omega, by omega⟩ ⟨by omega, by omega⟩ ⟨by omega, by omega⟩ ⟨by omega, by omega⟩ ⟨by omega, by omega⟩ ⟨by omega, by omega⟩ (by omega) hRKNmh hRLTmh hM
              · exact zw_some ⟨hImh, hFmh, hRKNmh, hRLTmh, ⟨by decide, by decide⟩, ⟨by omega, by omega⟩⟩
      · refine zw_bd (zw_mono (zk_37 n hImh hc0 ⟨by omega, by omega⟩ hRKNmh hRLTmh) (fun v16 m15 hqm15 => ?_))
        obtain ⟨hIm15, hfm15, hvm15⟩ := hqm15
        have hFm15 := zfr_tr hFmh hfm15 rfl
        obtain ⟨hRKNm15, hRLTm15, hvm15⟩ := hvm15
        have w17 := zu_w64_id (z := x2 + v16) (by omega) (by omega)
        have p18 := zmul_bd (x := v16) (y := v16) (a := 0) (b := 0) (A := 999) (B := 999) (by omega) (by omega) (by omega) (by omega) (by omega) (by omega)
        have w19 := zu_w64_id (z := v16 * v16) (by omega) (by omega)
        have w20 := zu_w64_id (z := x4 + (zu_w64 (v16 * v16))) (by omega) (by omega)
        have w21 := zu_w32_id (z := x6 + 1) (by omega) (by omega)
        have r22 : (-2147483648) ≤ (m15 a0 2) ∧ (m15 a0 2) ≤ 2147483647 := zi_rd hIm15 hc0 zb_28_2
        have e23 : (m15 a0 2) = (mh a0 2) := (zfr_ap hfm15 hc0 rfl)
        have hM : (48 - (zu_w32 (x6 + 1))) * 1 + 9223372036854775808 < (k : Int) := by omega
        exact zw_le (zu_forget (zu_lr_same (zu_lr_same (zu_lr_same (zu_lr_same (zu_lr_same (zu_lr_same (zu_lr_same (zu_lr_drop (zu_lr_same (zu_lr_same (zu_lr_same (zu_lr_same zu_lr_nil))))))))))))) (ih.1 (zu_w64 (x2 + v16)) (zu_w64 (x4 + (zu_w64 (v16 * v16)))) (zu_w32 (x6 + 1)) m15 hIm15 hFm15 ⟨by omega, by omega⟩ ⟨by omega, by omega⟩ ⟨by omega, by omega⟩ ⟨by omega, by omega⟩ ⟨by omega, by omega⟩ (by omega) (by omega) hRKNm15 hRLTm15 hM)
    · intro x2 x4 x6 x8 mh hImh hFmh hba1 hbx2 hbx4 hbx6 hbx8 hg5 hH0 hRKNmh hRLTmh hM
      refine zw_eq (zu_rega_at (zt_T n) (zm_172 n) (zdp_172 n) _ _ _ _ _ _ (zr_172_80 n _ _ a0 a1 x2 x4 x6 x8 mh)) ?_
      have c24 := zu_lcmp_sp x8 0
      refine zw_ite (fun h25 => ?_) (fun h25 => ?_)
      · refine zw_ite (fun h26 => ?_) (fun h26 => ?_)
        · have p27 := zmul_bd (x := x2) (y := x2) (a := 1) (b := 1) (A := 47952) (B := 47952) (by omega) (by omega) (by omega) (by omega) (by omega) (by omega)
          have w28 := zu_w64_id (z := x2 * x2) (by omega) (by omega)
          refine zw_nif (by omega) ?_
          have w29 := zu_w64_rg (Int.tdiv (zu_w64 (x2 * x2)) x6)
          exact zw_some ⟨hImh, hFmh, hRKNmh, hRLTmh, ⟨by omega, by omega⟩, ⟨by omega, by omega⟩⟩
        · refine zw_nif (by omega) ?_
          have w30 := zu_w64_rg (Int.tdiv x4 x6)
          exact zw_some ⟨hImh, hFmh, hRKNmh, hRLTmh, ⟨by omega, by omega⟩, ⟨by omega, by omega⟩⟩
      · refine zw_nif (by omega) ?_
        have d31 := ztmod_bd (x := x6) (y := x8) (by omega) (by omega)
        have hM : (Int.tmod x6 x8) * 1 + 0 < (k : Int) := by omega
        exact zw_le (zu_forget (zu_lr_same (zu_lr_same (zu_lr_same (zu_lr_same (zu_lr_same (zu_lr_same (zu_lr_same (zu_lr_same (zu_lr_same (zu_lr_same (zu_lr_drop (zu_lr_same zu_lr_nil))))))))))))) (ih.2 x2 x4 x8 (Int.tmod x6 x8) mh hImh hFmh ⟨by omega, by omega⟩ ⟨by omega, by omega⟩ ⟨by omega, by omega⟩ ⟨by omega, by omega⟩ ⟨by omega, by omega⟩ ⟨by omega, by omega⟩ (by omega) hRKNmh hRLTmh hM)
set_option maxHeartbeats 4000000 in
theorem zk_172 (n : Nat) {a0 a1 : Int} {m0 : zu_m} (hIm0 : zi_I m0) (hc0 : zcls a0 = 28) (ha1 : (-2147483648) ≤ a1 ∧ a1 ≤ 2147483647)    (hRKNm0 : zR_KN m0) (hRLTm0 : zR_LT m0) : zw (zu_call (zt_T n) 172 [(40, a0), (0, a1)] m0) (fun v m => zi_I m ∧ zfr [(28, 3), (28, 54), (122, 0), (123, 0)] m0 m ∧ zR_KN m ∧ zR_LT m ∧ ((-9223372036854775808) ≤ v ∧ v ≤ 9223372036854775807) ∧ (0 ≤ m a0 2 ∧ m a0 2 ≤ 0)) := by
  have hFm0 : zfr [(28, 3), (28, 54), (122, 0), (123, 0)] m0 m0 := zfr_rf _ _
  refine zw_eq (zu_call_at (zt_T n) (zm_172 n) (zdp_172 n) _ _ _ _ _ rfl (zr_172_0 n _ _ a0 a1 m0)) ?_
  generalize hmm32 : zu_up m0 a0 2 0 = m32
  have hIm32 := zi_up hmm32 hIm0 hc0 zb_28_2 (by omega) (by omega)
  have hFm32 := zfr_up hmm32 hFm0 hc0 rfl
  have hRKNm32 := zR_KN_fr (zdis_fr (zfr_up hmm32 (zfr_rf [(28, 3)] _) hc0 rfl) rfl) hRKNm0
  have hRLTm32 := zR_LT_fr (zdis_fr (zfr_up hmm32 (zfr_rf [(28, 3)] _) hc0 rfl) rfl) hRLTm0
  have r33 : (-2147483648) ≤ (m32 a0 2) ∧ (m32 a0 2) ≤ 2147483647 := zi_rd hIm32 hc0 zb_28_2
  have e34 : (m32 a0 2) = 0 := (zs_eq hmm32)
  have hM : (48 - 0) * 1 + 9223372036854775808 < ((9223372036854775857 : Nat) : Int) := by omega
  exact (zl_172 n (m0 := m0) hc0 9223372036854775857).1 0 0 0 m32 hIm32 hFm32 ⟨by omega, by omega⟩ ⟨by omega, by omega⟩ ⟨by omega, by omega⟩ ⟨by omega, by omega⟩ ⟨by omega, by omega⟩ (by omega) (by omega) hRKNm32 hRLTm32 hM
set_option maxHeartbeats 4000000 in
theorem zl_173 (n : Nat) {a0 : Int} {m0 : zu_m} (hc0 : zcls a0 = 28)   : ∀ k : Nat, (∀ (x1 x2 : Int) (mh : zu_m), zi_I mh → zfr [(28, 3), (28, 54), (122, 0), (123, 0)] m0 mh → ((-2147483648) ≤ x1 ∧ x1 ≤ 2147483647) → (0 ≤ x2 ∧ x2 ≤ 16) → (0 ≤ mh a0 2 ∧ mh a0 2 ≤ 0) → (zR_KN mh) → (zR_LT mh) → (16 - x2) * 1 + 0 < (k : Int) → zw (zu_ex (zt_T n) 173 9 [(40, a0), (0, x1), (0, x2)] [] mh) (fun v m => zi_I m ∧ zfr [(28, 3), (28, 54), (122, 0), (123, 0)] m0 m ∧ zR_KN m ∧ zR_LT m ∧ ((-2147483648) ≤ v ∧ v ≤ 2147483647) ∧ (0 ≤ m a0 2 ∧ m a0 2 ≤ 0))) := by
  intro k
  induction k with
  | zero => exact fun x1 x2 mh hImh hFmh hbx1 hbx2 hg2 hRKNmh hRLTmh hM => by exfalso; omega
  | succ k ih =>
    intro x1 x2 mh hImh hFmh hbx1 hbx2 hg2 hRKNmh hRLTmh hM
    refine zw_eq (zu_rega_at (zt_T n) (zm_173 n) (zdp_173 n) _ _ _ _ _ _ (zr_173_9 n _ _ a0 x1 x2 mh)) ?_
    have b1 : 0 ≤ (0 : Int) ∧ (0 : Int) < 2 := by omega
    refine zw_if b1 ?_
    have r2 : 0 ≤ (mh 216 0) ∧ (mh 216 0) ≤ 16 := zi_rdr (m := 2) (r0 := 0) (r1 := 0) hImh zq_216 (by omega) (by decide +kernel)
    refine zw_ite (fun h3 => ?_) (fun h3 => ?_)
    · exact zw_some ⟨hImh, hFmh, hRKNmh, hRLTmh, ⟨by omega, by omega⟩, ⟨by omega, by omega⟩⟩
    · have b4 : 0 ≤ x2 ∧ x2 < 36 := by omega
      refine zw_if b4 ?_
      have r5 : (-3) ≤ (mh 215 x2) ∧ (mh 215 x2) ≤ 3 := zi_rd hImh zq_215 (zb_124 _)
      refine zw_ite (fun h6 => ?_) (fun h6 => ?_)
      · have w7 := zu_w32_id (z := x1 + 0) (by omega) (by omega)
        have w8 := zu_w32_id (z := x2 + 1) (by omega) (by omega)
        have hM : (16 - (zu_w32 (x2 + 1))) * 1 + 0 < (k : Int) := by omega
        exact ih (zu_w32 (x1 + 0)) (zu_w32 (x2 + 1)) mh hImh hFmh ⟨by omega, by omega⟩ ⟨by omega, by omega⟩ ⟨by omega, by omega⟩ hRKNmh hRLTmh hM
      · refine zw_bd (zw_mono (zk_133 n hImh hc0 ⟨by omega, by omega⟩ hRKNmh hRLTmh) (fun v10 m9 hqm9 => ?_))
        obtain ⟨hIm9, hfm9, hvm9⟩ := hqm9
        have hFm9 := zfr_tr hFmh hfm9 rfl
        obtain ⟨hRKNm9, hRLTm9, hvm9⟩ := hvm9
        have w11 := zu_w32_id (z := 100 - v10) (by omega) (by omega)
        have w12 := zu_w32_rg (x1 + (zu_w32 (100 - v10)))
        have w13 := zu_w32_id (z := x2 + 1) (by omega) (by omega)
        have r14 : (-2147483648) ≤ (m9 a0 2) ∧ (m9 a0 2) ≤ 2147483647 := zi_rd hIm9 hc0 zb_28_2
        have e15 : (m9 a0 2) = (mh a0 2) := (zfr_ap hfm9 hc0 rfl)
        have hM : (16 - (zu_w32 (x2 + 1))) * 1 + 0 < (k : Int) := by omega
        exact ih (zu_w32 (x1 + (zu_w32 (100 - v10)))) (zu_w32 (x2 + 1)) m9 hIm9 hFm9 ⟨by omega, by omega⟩ ⟨by omega, by omega⟩ ⟨by omega, by omega⟩ hRKNm9 hRLTm9 hM
set_option maxHeartbeats 4000000 in
theorem zk_173 (n : Nat) {a0 : Int} {m0 : zu_m} (hIm0 : zi_I m0) (hc0 : zcls a0 = 28)     (hRKNm0 : zR_KN m0) (hRLTm0 : zR_LT m0) : zw (zu_call (zt_T n) 173 [(40, a0)] m0) (fun v m => zi_I m ∧ zfr [(28, 3), (28, 54), (122, 0), (123, 0)] m0 m ∧ zR_KN m ∧ zR_LT m ∧ ((-2147483648) ≤ v ∧ v ≤ 2147483647) ∧ (0 ≤ m a0 2 ∧ m a0 2 ≤ 0)) := by
  have hFm0 : zfr [(28, 3), (28, 54), (122, 0), (123, 0)] m0 m0 := zfr_rf _ _
  refine zw_eq (zu_call_at (zt_T n) (zm_173 n) (zdp_173 n) _ _ _ _ _ rfl (zr_173_0 n _ _ a0 m0)) ?_
  generalize hmm16 : zu_up m0 a0 2 0 = m16
  have hIm16 := zi_up hmm16 hIm0 hc0 zb_28_2 (by omega) (by omega)
  have hFm16 := zfr_up hmm16 hFm0 hc0 rfl
  have hRKNm16 := zR_KN_fr (zdis_fr (zfr_up hmm16 (zfr_rf [(28, 3)] _) hc0 rfl) rfl) hRKNm0
  have hRLTm16 := zR_LT_fr (zdis_fr (zfr_up hmm16 (zfr_rf [(28, 3)] _) hc0 rfl) rfl) hRLTm0
  have r17 : (-2147483648) ≤ (m16 a0 2) ∧ (m16 a0 2) ≤ 2147483647 := zi_rd hIm16 hc0 zb_28_2
  have e18 : (m16 a0 2) = 0 := (zs_eq hmm16)
  have hM : (16 - 0) * 1 + 0 < ((17 : Nat) : Int) := by omega
  exact (zl_173 n (m0 := m0) hc0 17) 0 0 m16 hIm16 hFm16 ⟨by omega, by omega⟩ ⟨by omega, by omega⟩ ⟨by omega, by omega⟩ hRKNm16 hRLTm16 hM
set_option maxHeartbeats 4000000 in
theorem zk_174 (n : Nat) {a0 a1 a2 : Int} {m0 : zu_m} (hIm0 : zi_I m0) (hc0 : zcls a0 = 28) (ha1 : (-2147483648) ≤ a1 ∧ a1 ≤ 2147483647) (ha2 : (-2147483648) ≤ a2 ∧ a2 ≤ 2147483647)    (hRKNm0 : zR_KN m0) (hRLTm0 : zR_LT m0) : zw (zu_call (zt_T n) 174 [(40, a0), (0, a1), (0, a2)] m0) (fun v m => zi_I m ∧ zfr [(28, 3), (28, 54), (122, 0), (123, 0)] m0 m ∧ zR_KN m ∧ zR_LT m ∧ ((-1) ≤ v ∧ v ≤ 999) ∧ (0 ≤ m a0 2 ∧ m a0 2 ≤ 0)) := by
  have hFm0 : zfr [(28, 3), (28, 54), (122, 0), (123, 0)] m0 m0 := zfr_rf _ _
  refine zw_eq (zu_call_at (zt_T n) (zm_174 n) (zdp_174 n) _ _ _ _ _ rfl (zr_174_0 n _ _ a0 a1 a2 m0)) ?_
  generalize hmm1 : zu_up m0 a0 2 0 = m1
  have hIm1 := zi_up hmm1 hIm0 hc0 zb_28_2 (by omega) (by omega)
  have hFm1 := zfr_up hmm1 hFm0 hc0 rfl
  have hRKNm1 := zR_KN_fr (zdis_fr (zfr_up hmm1 (zfr_rf [(28, 3)] _) hc0 rfl) rfl) hRKNm0
  have hRLTm1 := zR_LT_fr (zdis_fr (zfr_up hmm1 (zfr_rf [(28, 3)] _) hc0 rfl) rfl) hRLTm0
  refine zw_bd (zw_eq (zu_call_at (zt_T n) (zm_125 n) (zdp_125 n) _ _ _ _ _ rfl (zr_125_0 n _ _ a0 a1 m1)) ?_)
  refine zw_ite (fun h2 => ?_) (fun h2 => ?_)
  · refine zw_b (by omega) ?_
    refine zw_some ?_
    refine zw_ite (fun h3 => ?_) (fun h3 => ?_)
    · have r4 : (-2147483648) ≤ (m1 a0 2) ∧ (m1 a0 2) ≤ 2147483647 := zi_rd hIm1 hc0 zb_28_2
      have e5 : (m1 a0 2) = 0 := (zs_eq hmm1)
      exact zw_some ⟨hIm1, hFm1, hRKNm1, hRLTm1, ⟨by decide, by decide⟩, ⟨by omega, by omega⟩⟩
    · exfalso; omega
  · have r6 : 0 ≤ (m1 a0 15) ∧ (m1 a0 15) ≤ 4 := zi_rd hIm1 hc0 zb_28_15
    refine zw_ite (fun h7 => ?_) (fun h7 => ?_)
    · refine zw_b (by omega) ?_
      refine zw_some ?_
      refine zw_ite (fun h8 => ?_) (fun h8 => ?_)
      · have r9 : (-2147483648) ≤ (m1 a0 2) ∧ (m1 a0 2) ≤ 2147483647 := zi_rd hIm1 hc0 zb_28_2
        have e10 : (m1 a0 2) = 0 := (zs_eq hmm1)
        exact zw_some ⟨hIm1, hFm1, hRKNm1, hRLTm1, ⟨by decide, by decide⟩, ⟨by omega, by omega⟩⟩
      · exfalso; omega
    · refine zw_b (by omega) ?_
      refine zw_some ?_
      refine zw_ite (fun h11 => ?_) (fun h11 => ?_)
      · exfalso; omega
      · refine zw_bd (zw_eq (zu_call_at (zt_T n) (zm_124 n) (zdp_124 n) _ _ _ _ _ rfl (zr_124_0 n _ _ a0 a2 m1)) ?_)
        refine zw_ite (fun h12 => ?_) (fun h12 => ?_)
        · refine zw_b (by omega) ?_
          refine zw_some ?_
          refine zw_ite (fun h13 => ?_) (fun h13 => ?_)
          · have r14 : (-2147483648) ≤ (m1 a0 2) ∧ (m1 a0 2) ≤ 2147483647 := zi_rd hIm1 hc0 zb_28_2
            have e15 : (m1 a0 2) = 0 := (zs_eq hmm1)
            exact zw_some ⟨hIm1, hFm1, hRKNm1, hRLTm1, ⟨by decide, by decide⟩, ⟨by omega, by omega⟩⟩
          · exfalso; omega
        · have b16 : 0 ≤ (0 : Int) ∧ (0 : Int) < 2 := by omega
          refine zw_if b16 ?_
          have r17 : 0 ≤ (m1 216 0) ∧ (m1 216 0) ≤ 16 := zi_rdr (m := 2) (r0 := 0) (r1 := 0) hIm1 zq_216 (by omega) (by decide +kernel)
          refine zw_ite (fun h18 => ?_) (fun h18 => ?_)
          · refine zw_b (by omega) ?_
            refine zw_some ?_
            refine zw_ite (fun h19 => ?_) (fun h19 => ?_)
            · have r20 : (-2147483648) ≤ (m1 a0 2) ∧ (m1 a0 2) ≤ 2147483647 := zi_rd hIm1 hc0 zb_28_2
              have e21 : (m1 a0 2) = 0 := (zs_eq hmm1)
              exact zw_some ⟨hIm1, hFm1, hRKNm1, hRLTm1, ⟨by decide, by decide⟩, ⟨by omega, by omega⟩⟩
            · exfalso; omega
          · refine zw_b (by omega) ?_
            refine zw_some ?_
            refine zw_ite (fun h22 => ?_) (fun h22 => ?_)
            · exfalso; omega
            · refine zw_bd (zw_mono (zk_132 n hIm1 hc0 ⟨by omega, by omega⟩ ⟨by omega, by omega⟩ hRKNm1 hRLTm1) (fun v24 m23 hqm23 => ?_))
              obtain ⟨hIm23, hfm23, hvm23⟩ := hqm23
              have hFm23 := zfr_tr hFm1 hfm23 rfl
              obtain ⟨hRKNm23, hRLTm23, hvm23⟩ := hvm23
              have r25 : (-2147483648) ≤ (m23 a0 2) ∧ (m23 a0 2) ≤ 2147483647 := zi_rd hIm23 hc0 zb_28_2
              have e26 : (m23 a0 2) = 0 := (Eq.trans (zfr_ap hfm23 hc0 rfl) (zs_eq hmm1))
              exact zw_some ⟨hIm23, hFm23, hRKNm23, hRLTm23, ⟨by omega, by omega⟩, ⟨by omega, by omega⟩⟩
set_option maxHeartbeats 4000000 in
theorem zk_175 (n : Nat) {a0 a1 a2 a3 a4 : Int} {m0 : zu_m} (hIm0 : zi_I m0) (hc0 : zcls a0 = 28) (ha1 : 0 ≤ a1 ∧ a1 ≤ 3) (ha2 : 1 ≤ a2 ∧ a2 ≤ 3) (ha3 : 0 ≤ a3 ∧ a3 ≤ 15) (ha4 : 0 ≤ a4 ∧ a4 ≤ 15)    (hRKNm0 : zR_KN m0) (hRLTm0 : zR_LT m0) : zw (zu_call (zt_T n) 175 [(40, a0), (0, a1), (0, a2), (0, a3), (0, a4)] m0) (fun v m => zi_I m ∧ zfr [(28, 54), (122, 0), (123, 0)] m0 m ∧ zR_KN m ∧ zR_LT m ∧ (0 ≤ v ∧ v ≤ 1)) := by
  have hFm0 : zfr [(28, 54), (122, 0), (123, 0)] m0 m0 := zfr_rf _ _
  refine zw_eq (zu_call_at (zt_T n) (zm_175 n) (zdp_175 n) _ _ _ _ _ rfl (zr_175_0 n _ _ a0 a1 a2 a3 a4 m0)) ?_
  refine zw_bd (zw_mono (zk_132 n hIm0 hc0 ⟨by omega, by omega⟩ ⟨by omega, by omega⟩ hRKNm0 hRLTm0) (fun v2 m1 hqm1 => ?_))
  obtain ⟨hIm1, hfm1, hvm1⟩ := hqm1
  have hFm1 := zfr_tr hFm0 hfm1 rfl
  obtain ⟨hRKNm1, hRLTm1, hvm1⟩ := hvm1
  refine zw_bd (zw_mono (zk_132 n hIm1 hc0 ⟨by omega, by omega⟩ ⟨by omega, by omega⟩ hRKNm1 hRLTm1) (fun v4 m3 hqm3 => ?_))
  obtain ⟨hIm3, hfm3, hvm3⟩ := hqm3
  have hFm3 := zfr_tr hFm1 hfm3 rfl
  obtain ⟨hRKNm3, hRLTm3, hvm3⟩ := hvm3
  refine zw_ite (fun h5 => ?_) (fun h5 => ?_)
  · refine zw_b (by omega) ?_
    exact zw_some ⟨hIm3, hFm3, hRKNm3, hRLTm3, ⟨by decide, by decide⟩⟩
  · refine zw_bd (zw_mono (zk_132 n hIm3 hc0 ⟨by omega, by omega⟩ ⟨by omega, by omega⟩ hRKNm3 hRLTm3) (fun v7 m6 hqm6 => ?_))
    obtain ⟨hIm6, hfm6, hvm6⟩ := hqm6
    have hFm6 := zfr_tr hFm3 hfm6 rfl
    obtain ⟨hRKNm6, hRLTm6, hvm6⟩ := hvm6
    refine zw_bd (zw_mono (zk_132 n hIm6 hc0 ⟨by omega, by omega⟩ ⟨by omega, by omega⟩ hRKNm6 hRLTm6) (fun v9 m8 hqm8 => ?_))
    obtain ⟨hIm8, hfm8, hvm8⟩ := hqm8
    have hFm8 := zfr_tr hFm6 hfm8 rfl
    obtain ⟨hRKNm8, hRLTm8, hvm8⟩ := hvm8
    refine zw_ite (fun h10 => ?_) (fun h10 => ?_)
    · refine zw_b (by omega) ?_
      exact zw_some ⟨hIm8, hFm8, hRKNm8, hRLTm8, ⟨by decide, by decide⟩⟩
    · refine zw_b (by omega) ?_
      exact zw_some ⟨hIm8, hFm8, hRKNm8, hRLTm8, ⟨by decide, by decide⟩⟩

set_option maxHeartbeats 4000000 in
theorem zk_116 (n : Nat) {a0 : Int} {m0 : zu_m} (hIm0 : zi_I m0) (hc0 : zcls a0 = 28)   (he0 : 1 ≤ m0 a0 49 ∧ m0 a0 49 ≤ 1) (hxp0 : (m0 a0 21) + znz m0 = (m0 a0 48)) (hxp1 : (m0 a0 45) = znz m0 + (m0 a0 47)) (hxp2 : (m0 a0 46) = zbi m0) (hxp3 : (m0 a0 49) = 1) (hRKNm0 : zR_KN m0) (hRNSm0 : zR_NS m0) (hRTRm0 : zR_TR m0) (hRWDm0 : zR_WD m0) : zw (zu_call (zt_T n) 116 [(40, a0)] m0) (fun v m => zi_I m ∧ zfr [(28, 5), (28, 6), (28, 8), (28, 9), (28, 10), (28, 11), (28, 22), (28, 46), (28, 47), (28, 48), (28, 49), (28, 50), (28, 51), (117, 0), (118, 0), (119, 0), (120, 0), (121, 0)] m0 m ∧ zR_KN m ∧ zR_NS m ∧ zR_TR m ∧ zR_WD m ∧ (0 ≤ v ∧ v ≤ 1) ∧ ((m0 a0 7) ≤ (m a0 7)) ∧ (v = 1 → ((m0 a0 8) ≠ 0 ∧ ((m a0 8) = 0 ∨ (m0 a0 7) < (m a0 7)))) ∧ (v = 1 → (m a0 21) + znz m = (m a0 48)) ∧ (v = 1 → (m a0 46) + (m a0 49) = zbi m + 1) ∧ (v = 1 → (m a0 45) = znz m + (m a0 47)) ∧ (v = 1 → ((m a0 49) = 0 → 1 ≤ (m a0 21)))) := by
  have hFm0 : zfr [(28, 5), (28, 6), (28, 8), (28, 9), (28, 10), (28, 11), (28, 22), (28, 46), (28, 47), (28, 48), (28, 49), (28, 50), (28, 51), (117, 0), (118, 0), (119, 0), (120, 0), (121, 0)] m0 m0 := zfr_rf _ _
  have r1 : 0 ≤ (m0 a0 21) ∧ (m0 a0 21) ≤ 64 := zi_rd hIm0 hc0 zb_28_21
  have r2 : 0 ≤ (m0 a0 48) ∧ (m0 a0 48) ≤ 64 := zi_rd hIm0 hc0 zb_28_48
  have r3 : 0 ≤ (m0 a0 45) ∧ (m0 a0 45) ≤ 96 := zi_rd hIm0 hc0 zb_28_45
  have r4 : 0 ≤ (m0 a0 47) ∧ (m0 a0 47) ≤ 8 := zi_rd hIm0 hc0 zb_28_47
  have r5 : 0 ≤ (m0 a0 46) ∧ (m0 a0 46) ≤ 96 := zi_rd hIm0 hc0 zb_28_46
  have g6 := zwt_bd hIm0 hc0
  have s7 := hRNSm0 a0 hc0
  have s8 := hRTRm0 a0 hc0
  refine zw_eq (zu_call_at (zt_T n) (zm_116 n) (zdp_116 n) _ _ _ _ _ rfl (zr_116_0 n _ _ a0 m0)) ?_
  refine zw_bd (zw_eq (zu_call_at (zt_T n) (zm_93 n) (zdp_93 n) _ _ _ _ _ rfl (zr_93_0 n _ _ a0 40 m0)) ?_)
  have r9 : 0 ≤ (m0 a0 8) ∧ (m0 a0 8) ≤ 6 := zi_rd hIm0 hc0 zb_28_8
  refine zw_ite (fun h10 => ?_) (fun h10 => ?_)
  · refine zw_b (by omega) ?_
    refine zw_some ?_
    refine zw_ite (fun h11 => ?_) (fun h11 => ?_)
    · refine zw_bd (zw_eq (zu_call_at (zt_T n) (zm_92 n) (zdp_92 n) _ _ _ _ _ rfl (zr_92_0 n _ _ a0 25 m0)) ?_)
      refine zw_ite (fun h12 => ?_) (fun h12 => ?_)
      · refine zw_b (by omega) ?_
        refine zw_some ?_
        refine zw_ite (fun h13 => ?_) (fun h13 => ?_)
        · refine zw_bd (zw_eq (zu_call_at (zt_T n) (zm_115 n) (zdp_115 n) _ _ _ _ _ rfl (zr_115_0 n _ _ a0 m0)) ?_)
          refine zw_ite (fun h14 => ?_) (fun h14 => ?_)
          · refine zw_some ?_
            refine zw_ite (fun h15 => ?_) (fun h15 => ?_)
            · exfalso; omega
            · refine zw_ite (fun h16 => ?_) (fun h16 => ?_)
              · refine zw_ite (fun h17 => ?_) (fun h17 => ?_)
                · exfalso; omega
                · refine zw_ite (fun h18 => ?_) (fun h18 => ?_)
                  · refine zw_bd (zw_eq (zu_call_at (zt_T n) (zm_113 n) (zdp_113 n) _ _ _ _ _ rfl (zr_113_0 n _ _ a0 m0)) ?_)
                    refine zw_ite (fun h19 => ?_) (fun h19 => ?_)
                    · have w20 := zu_w32_id (z := (m0 a0 48) + 1) (by omega) (by omega)
                      generalize hmm21 : zu_up m0 a0 48 (zu_w32 ((m0 a0 48) + 1)) = m21
                      have hIm21 := zi_up hmm21 hIm0 hc0 zb_28_48 (by omega) (by omega)
                      have hFm21 := zfr_up hmm21 hFm0 hc0 rfl
                      have g22 := zwt_fr (zdis_fr (zfr_up hmm21 (zfr_rf [(28, 49)] _) hc0 rfl) rfl)
                      have hRKNm21 := zR_KN_fr (zdis_fr (zfr_up hmm21 (zfr_rf [(28, 49)] _) hc0 rfl) rfl) hRKNm0
                      have hRNSm21 := zR_NS_fr (zdis_fr (zfr_up hmm21 (zfr_rf [(28, 49)] _) hc0 rfl) rfl) hRNSm0
                      have hRTRm21 := zR_TR_fr (zdis_fr (zfr_up hmm21 (zfr_rf [(28, 49)] _) hc0 rfl) rfl) hRTRm0
                      have hRWDm21 := zR_WD_fr (zdis_fr (zfr_up hmm21 (zfr_rf [(28, 49)] _) hc0 rfl) rfl) hRWDm0
                      refine zw_b (by omega) ?_
                      refine zw_some ?_
                      refine zw_ite (fun h23 => ?_) (fun h23 => ?_)
                      · refine zw_ite (fun h24 => ?_) (fun h24 => ?_)
                        · refine zw_ite (fun h25 => ?_) (fun h25 => ?_)
                          · have r26 : (-2147483648) ≤ (m21 a0 9) ∧ (m21 a0 9) ≤ 2147483647 := zi_rd hIm21 hc0 zb_28_9
                            have e27 : (m21 a0 9) = (m0 a0 9) := (zs_ne hmm21 (Or.inr (by decide)))
                            have r28 : 0 ≤ (m21 a0 21) ∧ (m21 a0 21) ≤ 64 := zi_rd hIm21 hc0 zb_28_21
                            have e29 : (m21 a0 21) = (m0 a0 21) := (zs_ne hmm21 (Or.inr (by decide)))
                            have r30 : 0 ≤ (m21 a0 46) ∧ (m21 a0 46) ≤ 96 := zi_rd hIm21 hc0 zb_28_46
                            have e31 : (m21 a0 46) = (m0 a0 46) := (zs_ne hmm21 (Or.inr (by decide)))
                            refine zw_bd (zw_mono (zk_110 n hIm21 hc0 ⟨by omega, by omega⟩ ⟨by omega, by omega⟩ ⟨by omega, by omega⟩ (by omega) (by omega) (by omega) (by omega) (by omega) hRKNm21) (fun v33 m32 hqm32 => ?_))
                            obtain ⟨hIm32, hfm32, hvm32⟩ := hqm32
                            have hFm32 := zfr_tr hFm21 hfm32 rfl
                            obtain ⟨hRKNm32, hvm32⟩ := hvm32
                            have g34 := zwt_fr (zdis_fr hfm32 rfl)
                            have hRNSm32 := zR_NS_fr (zdis_fr hfm32 rfl) hRNSm21
                            have hRTRm32 := zR_TR_fr (zdis_fr hfm32 rfl) hRTRm21
                            have hRWDm32 := zR_WD_fr (zdis_fr hfm32 rfl) hRWDm21
                            have g35 := zwt_bd hIm32 hc0
                            have s36 := hRNSm32 a0 hc0
                            have s37 := hRTRm32 a0 hc0
                            refine zw_b (by omega) ?_
                            generalize hmm38 : zu_up m32 a0 49 0 = m38
                            have hIm38 := zi_up hmm38 hIm32 hc0 zb_28_49 (by omega) (by omega)
                            have hFm38 := zfr_up hmm38 hFm32 hc0 rfl
                            have g39 := zwt_fr (zdis_fr (zfr_up hmm38 (zfr_rf [(28, 50)] _) hc0 rfl) rfl)
                            have hRKNm38 := zR_KN_fr (zdis_fr (zfr_up hmm38 (zfr_rf [(28, 50)] _) hc0 rfl) rfl) hRKNm32
                            have hRNSm38 := zR_NS_fr (zdis_fr (zfr_up hmm38 (zfr_rf [(28, 50)] _) hc0 rfl) rfl) hRNSm32
                            have hRTRm38 := zR_TR_fr (zdis_fr (zfr_up hmm38 (zfr_rf [(28, 50)] _) hc0 rfl) rfl) hRTRm32
                            have hRWDm38 := zR_WD_fr (zdis_fr (zfr_up hmm38 (zfr_rf [(28, 50)] _) hc0 rfl) rfl) hRWDm32
                            refine zw_bd (zw_mono (zk_89 n hIm38 hc0 hRNSm38 hRWDm38) (fun v41 m40 hqm40 => ?_))
                            obtain ⟨hIm40, hfm40, hvm40⟩ := hqm40
                            have hFm40 := zfr_tr hFm38 hfm40 rfl
                            obtain ⟨hRNSm40, hRTRm40, hRWDm40, hvm40⟩ := hvm40
                            have g42 := zwt_fr (zdis_fr hfm40 rfl)
                            have hRKNm40 := zR_KN_fr (zdis_fr hfm40 rfl) hRKNm38
                            have g43 := zwt_bd hIm40 hc0
                            have s44 := hRNSm40 a0 hc0
                            have s45 := hRTRm40 a0 hc0
                            refine zw_b (by omega) ?_
                            have r46 : 0 ≤ (m40 a0 7) ∧ (m40 a0 7) ≤ 700 := zi_rd hIm40 hc0 zb_28_7
                            have r47 : 0 ≤ (m40 a0 8) ∧ (m40 a0 8) ≤ 6 := zi_rd hIm40 hc0 zb_28_8
                            have r48 : 0 ≤ (m40 a0 21) ∧ (m40 a0 21) ≤ 64 := zi_rd hIm40 hc0 zb_28_21
                            have e49 : (m40 a0 21) = (m32 a0 21) := (Eq.trans (zfr_ap hfm40 hc0 rfl) (zs_ne hmm38 (Or.inr (by decide))))
                            have r50 : 0 ≤ (m40 a0 48) ∧ (m40 a0 48) ≤ 64 := zi_rd hIm40 hc0 zb_28_48
                            have e51 : (m40 a0 48) = (zu_w32 ((m0 a0 48) + 1)) := (Eq.trans (zfr_ap hfm40 hc0 rfl) (Eq.trans (zs_ne hmm38 (Or.inr (by decide))) (Eq.trans (zfr_ap hfm32 hc0 rfl) (zs_eq hmm21))))
                            have r52 : 0 ≤ (m40 a0 46) ∧ (m40 a0 46) ≤ 96 := zi_rd hIm40 hc0 zb_28_46
                            have e53 : (m40 a0 46) = (m32 a0 46) := (Eq.trans (zfr_ap hfm40 hc0 rfl) (zs_ne hmm38 (Or.inr (by decide))))
                            have r54 : 0 ≤ (m40 a0 49) ∧ (m40 a0 49) ≤ 1 := zi_rd hIm40 hc0 zb_28_49
                            have e55 : (m40 a0 49) = 0 := (Eq.trans (zfr_ap hfm40 hc0 rfl) (zs_eq hmm38))
                            have r56 : 0 ≤ (m40 a0 45) ∧ (m40 a0 45) ≤ 96 := zi_rd hIm40 hc0 zb_28_45
                            have e57 : (m40 a0 45) = (m0 a0 45) := (Eq.trans (zfr_ap hfm40 hc0 rfl) (Eq.trans (zs_ne hmm38 (Or.inr (by decide))) (Eq.trans (zfr_ap hfm32 hc0 rfl) (zs_ne hmm21 (Or.inr (by decide))))))
                            have r58 : 0 ≤ (m40 a0 47) ∧ (m40 a0 47) ≤ 8 := zi_rd hIm40 hc0 zb_28_47
                            have e59 : (m40 a0 47) = (m0 a0 47) := (Eq.trans (zfr_ap hfm40 hc0 rfl) (Eq.trans (zs_ne hmm38 (Or.inr (by decide))) (Eq.trans (zfr_ap hfm32 hc0 rfl) (zs_ne hmm21 (Or.inr (by decide))))))
                            exact zw_some ⟨hIm40, hFm40, hRKNm40, hRNSm40, hRTRm40, hRWDm40, ⟨by omega, by omega⟩, by omega, by omega, by omega, by omega, by omega, by omega⟩
                          · exfalso; omega
                        · exfalso; omega
                      · exfalso; omega
                    · refine zw_bd (zw_eq (zu_call_at (zt_T n) (zm_85 n) (zdp_85 n) _ _ _ _ _ rfl (zr_85_0 n _ _ a0 2 m0)) ?_)
                      generalize hmm60 : zu_up m0 a0 4 2 = m60
                      have hIm60 := zi_up hmm60 hIm0 hc0 zb_28_4 (by omega) (by omega)
                      have hFm60 := zfr_up hmm60 hFm0 hc0 rfl
                      have g61 := zwt_fr (zdis_fr (zfr_up hmm60 (zfr_rf [(28, 5)] _) hc0 rfl) rfl)
                      have hRKNm60 := zR_KN_fr (zdis_fr (zfr_up hmm60 (zfr_rf [(28, 5)] _) hc0 rfl) rfl) hRKNm0
                      have hRNSm60 := zR_NS_fr (zdis_fr (zfr_up hmm60 (zfr_rf [(28, 5)] _) hc0 rfl) rfl) hRNSm0
                      have hRTRm60 := zR_TR_fr (zdis_fr (zfr_up hmm60 (zfr_rf [(28, 5)] _) hc0 rfl) rfl) hRTRm0
                      have hRWDm60 := zR_WD_fr (zdis_fr (zfr_up hmm60 (zfr_rf [(28, 5)] _) hc0 rfl) rfl) hRWDm0
                      have r62 : 0 ≤ (m60 a0 10) ∧ (m60 a0 10) ≤ 700 := zi_rd hIm60 hc0 zb_28_10
                      generalize hmm63 : zu_up m60 a0 5 (m60 a0 10) = m63
                      have hIm63 := zi_up hmm63 hIm60 hc0 zb_28_5 (by omega) (by omega)
                      have hFm63 := zfr_up hmm63 hFm60 hc0 rfl
                      have g64 := zwt_fr (zdis_fr (zfr_up hmm63 (zfr_rf [(28, 6)] _) hc0 rfl) rfl)
                      have hRKNm63 := zR_KN_fr (zdis_fr (zfr_up hmm63 (zfr_rf [(28, 6)] _) hc0 rfl) rfl) hRKNm60
                      have hRNSm63 := zR_NS_fr (zdis_fr (zfr_up hmm63 (zfr_rf [(28, 6)] _) hc0 rfl) rfl) hRNSm60
                      have hRTRm63 := zR_TR_fr (zdis_fr (zfr_up hmm63 (zfr_rf [(28, 6)] _) hc0 rfl) rfl) hRTRm60
                      have hRWDm63 := zR_WD_fr (zdis_fr (zfr_up hmm63 (zfr_rf [(28, 6)] _) hc0 rfl) rfl) hRWDm60
                      refine zw_b (by omega) ?_
                      refine zw_some ?_
                      refine zw_b (by omega) ?_
                      refine zw_some ?_
                      refine zw_ite (fun h65 => ?_) (fun h65 => ?_)
                      · exfalso; omega
                      · refine zw_b (by omega) ?_
                        have r66 : 0 ≤ (m63 a0 7) ∧ (m63 a0 7) ≤ 700 := zi_rd hIm63 hc0 zb_28_7
                        have r67 : 0 ≤ (m63 a0 8) ∧ (m63 a0 8) ≤ 6 := zi_rd hIm63 hc0 zb_28_8
                        have e68 : (m63 a0 8) = (m0 a0 8) := (Eq.trans (zs_ne hmm63 (Or.inr (by decide))) (zs_ne hmm60 (Or.inr (by decide))))
                        have r69 : 0 ≤ (m63 a0 21) ∧ (m63 a0 21) ≤ 64 := zi_rd hIm63 hc0 zb_28_21
                        have e70 : (m63 a0 21) = (m0 a0 21) := (Eq.trans (zs_ne hmm63 (Or.inr (by decide))) (zs_ne hmm60 (Or.inr (by decide))))
                        have r71 : 0 ≤ (m63 a0 48) ∧ (m63 a0 48) ≤ 64 := zi_rd hIm63 hc0 zb_28_48
                        have e72 : (m63 a0 48) = (m0 a0 48) := (Eq.trans (zs_ne hmm63 (Or.inr (by decide))) (zs_ne hmm60 (Or.inr (by decide))))
                        have r73 : 0 ≤ (m63 a0 46) ∧ (m63 a0 46) ≤ 96 := zi_rd hIm63 hc0 zb_28_46
                        have e74 : (m63 a0 46) = (m0 a0 46) := (Eq.trans (zs_ne hmm63 (Or.inr (by decide))) (zs_ne hmm60 (Or.inr (by decide))))
                        have r75 : 0 ≤ (m63 a0 49) ∧ (m63 a0 49) ≤ 1 := zi_rd hIm63 hc0 zb_28_49
                        have e76 : (m63 a0 49) = (m0 a0 49) := (Eq.trans (zs_ne hmm63 (Or.inr (by decide))) (zs_ne hmm60 (Or.inr (by decide))))
                        have r77 : 0 ≤ (m63 a0 45) ∧ (m63 a0 45) ≤ 96 := zi_rd hIm63 hc0 zb_28_45
                        have e78 : (m63 a0 45) = (m0 a0 45) := (Eq.trans (zs_ne hmm63 (Or.inr (by decide))) (zs_ne hmm60 (Or.inr (by decide))))
                        have r79 : 0 ≤ (m63 a0 47) ∧ (m63 a0 47) ≤ 8 := zi_rd hIm63 hc0 zb_28_47
                        have e80 : (m63 a0 47) = (m0 a0 47) := (Eq.trans (zs_ne hmm63 (Or.inr (by decide))) (zs_ne hmm60 (Or.inr (by decide))))
                        exact zw_some ⟨hIm63, hFm63, hRKNm63, hRNSm63, hRTRm63, hRWDm63, ⟨by omega, by omega⟩, by omega, by omega, by omega, by omega, by omega, by omega⟩
                  · refine zw_bd (zw_eq (zu_call_at (zt_T n) (zm_85 n) (zdp_85 n) _ _ _ _ _ rfl (zr_85_0 n _ _ a0 2 m0)) ?_)
                    generalize hmm81 : zu_up m0 a0 4 2 = m81
                    have hIm81 := zi_up hmm81 hIm0 hc0 zb_28_4 (by omega) (by omega)
                    have hFm81 := zfr_up hmm81 hFm0 hc0 rfl
                    have g82 := zwt_fr (zdis_fr (zfr_up hmm81 (zfr_rf [(28, 5)] _) hc0 rfl) rfl)
                    have hRKNm81 := zR_KN_fr (zdis_fr (zfr_up hmm81 (zfr_rf [(28, 5)] _) hc0 rfl) rfl) hRKNm0
                    have hRNSm81 := zR_NS_fr (zdis_fr (zfr_up hmm81 (zfr_rf [(28, 5)] _) hc0 rfl) rfl) hRNSm0
                    have hRTRm81 := zR_TR_fr (zdis_fr (zfr_up hmm81 (zfr_rf [(28, 5)] _) hc0 rfl) rfl) hRTRm0
                    have hRWDm81 := zR_WD_fr (zdis_fr (zfr_up hmm81 (zfr_rf [(28, 5)] _) hc0 rfl) rfl) hRWDm0
                    have r83 : 0 ≤ (m81 a0 10) ∧ (m81 a0 10) ≤ 700 := zi_rd hIm81 hc0 zb_28_10
                    generalize hmm84 : zu_up m81 a0 5 (m81 a0 10) = m84
                    have hIm84 := zi_up hmm84 hIm81 hc0 zb_28_5 (by omega) (by omega)
                    have hFm84 := zfr_up hmm84 hFm81 hc0 rfl
                    have g85 := zwt_fr (zdis_fr (zfr_up hmm84 (zfr_rf [(28, 6)] _) hc0 rfl) rfl)
                    have hRKNm84 := zR_KN_fr (zdis_fr (zfr_up hmm84 (zfr_rf [(28, 6)] _) hc0 rfl) rfl) hRKNm81
                    have hRNSm84 := zR_NS_fr (zdis_fr (zfr_up hmm84 (zfr_rf [(28, 6)] _) hc0 rfl) rfl) hRNSm81
                    have hRTRm84 := zR_TR_fr (zdis_fr (zfr_up hmm84 (zfr_rf [(28, 6)] _) hc0 rfl) rfl) hRTRm81
                    have hRWDm84 := zR_WD_fr (zdis_fr (zfr_up hmm84 (zfr_rf [(28, 6)] _) hc0 rfl) rfl) hRWDm81
                    refine zw_b (by omega) ?_
                    refine zw_some ?_
                    refine zw_b (by omega) ?_
                    have r86 : 0 ≤ (m84 a0 7) ∧ (m84 a0 7) ≤ 700 := zi_rd hIm84 hc0 zb_28_7
                    have r87 : 0 ≤ (m84 a0 8) ∧ (m84 a0 8) ≤ 6 := zi_rd hIm84 hc0 zb_28_8
                    have e88 : (m84 a0 8) = (m0 a0 8) := (Eq.trans (zs_ne hmm84 (Or.inr (by decide))) (zs_ne hmm81 (Or.inr (by decide))))
                    have r89 : 0 ≤ (m84 a0 21) ∧ (m84 a0 21) ≤ 64 := zi_rd hIm84 hc0 zb_28_21
                    have e90 : (m84 a0 21) = (m0 a0 21) := (Eq.trans (zs_ne hmm84 (Or.inr (by decide))) (zs_ne hmm81 (Or.inr (by decide))))
                    have r91 : 0 ≤ (m84 a0 48) ∧ (m84 a0 48) ≤ 64 := zi_rd hIm84 hc0 zb_28_48
                    have e92 : (m84 a0 48) = (m0 a0 48) := (Eq.trans (zs_ne hmm84 (Or.inr (by decide))) (zs_ne hmm81 (Or.inr (by decide))))
                    have r93 : 0 ≤ (m84 a0 46) ∧ (m84 a0 46) ≤ 96 := zi_rd hIm84 hc0 zb_28_46
                    have e94 : (m84 a0 46) = (m0 a0 46) := (Eq.trans (zs_ne hmm84 (Or.inr (by decide))) (zs_ne hmm81 (Or.inr (by decide))))
                    have r95 : 0 ≤ (m84 a0 49) ∧ (m84 a0 49) ≤ 1 := zi_rd hIm84 hc0 zb_28_49
                    have e96 : (m84 a0 49) = (m0 a0 49) := (Eq.trans (zs_ne hmm84 (Or.inr (by decide))) (zs_ne hmm81 (Or.inr (by decide))))
                    have r97 : 0 ≤ (m84 a0 45) ∧ (m84 a0 45) ≤ 96 := zi_rd hIm84 hc0 zb_28_45
                    have e98 : (m84 a0 45) = (m0 a0 45) := (Eq.trans (zs_ne hmm84 (Or.inr (by decide))) (zs_ne hmm81 (Or.inr (by decide))))
                    have r99 : 0 ≤ (m84 a0 47) ∧ (m84 a0 47) ≤ 8 := zi_rd hIm84 hc0 zb_28_47
                    have e100 : (m84 a0 47) = (m0 a0 47) := (Eq.trans (zs_ne hmm84 (Or.inr (by decide))) (zs_ne hmm81 (Or.inr (by decide))))
                    exact zw_some ⟨hIm84, hFm84, hRKNm84, hRNSm84, hRTRm84, hRWDm84, ⟨by omega, by omega⟩, by omega, by omega, by omega, by omega, by omega, by omega⟩
              · refine zw_bd (zw_eq (zu_call_at (zt_T n) (zm_85 n) (zdp_85 n) _ _ _ _ _ rfl (zr_85_0 n _ _ a0 1 m0)) ?_)
                generalize hmm101 : zu_up m0 a0 4 1 = m101
                have hIm101 := zi_up hmm101 hIm0 hc0 zb_28_4 (by omega) (by omega)
                have hFm101 := zfr_up hmm101 hFm0 hc0 rfl
                have g102 := zwt_fr (zdis_fr (zfr_up hmm101 (zfr_rf [(28, 5)] _) hc0 rfl) rfl)
                have hRKNm101 := zR_KN_fr (zdis_fr (zfr_up hmm101 (zfr_rf [(28, 5)] _) hc0 rfl) rfl) hRKNm0
                have hRNSm101 := zR_NS_fr (zdis_fr (zfr_up hmm101 (zfr_rf [(28, 5)] _) hc0 rfl) rfl) hRNSm0
                have hRTRm101 := zR_TR_fr (zdis_fr (zfr_up hmm101 (zfr_rf [(28, 5)] _) hc0 rfl) rfl) hRTRm0
                have hRWDm101 := zR_WD_fr (zdis_fr (zfr_up hmm101 (zfr_rf [(28, 5)] _) hc0 rfl) rfl) hRWDm0
                have r103 : 0 ≤ (m101 a0 10) ∧ (m101 a0 10) ≤ 700 := zi_rd hIm101 hc0 zb_28_10
                generalize hmm104 : zu_up m101 a0 5 (m101 a0 10) = m104
                have hIm104 := zi_up hmm104 hIm101 hc0 zb_28_5 (by omega) (by omega)
                have hFm104 := zfr_up hmm104 hFm101 hc0 rfl
                have g105 := zwt_fr (zdis_fr (zfr_up hmm104 (zfr_rf [(28, 6)] _) hc0 rfl) rfl)
                have hRKNm104 := zR_KN_fr (zdis_fr (zfr_up hmm104 (zfr_rf [(28, 6)] _) hc0 rfl) rfl) hRKNm101
                have hRNSm104 := zR_NS_fr (zdis_fr (zfr_up hmm104 (zfr_rf [(28, 6)] _) hc0 rfl) rfl) hRNSm101
                have hRTRm104 := zR_TR_fr (zdis_fr (zfr_up hmm104 (zfr_rf [(28, 6)] _) hc0 rfl) rfl) hRTRm101
                have hRWDm104 := zR_WD_fr (zdis_fr (zfr_up hmm104 (zfr_rf [(28, 6)] _) hc0 rfl) rfl) hRWDm101
                refine zw_b (by omega) ?_
                refine zw_some ?_
                refine zw_b (by omega) ?_
                have r106 : 0 ≤ (m104 a0 7) ∧ (m104 a0 7) ≤ 700 := zi_rd hIm104 hc0 zb_28_7
                have r107 : 0 ≤ (m104 a0 8) ∧ (m104 a0 8) ≤ 6 := zi_rd hIm104 hc0 zb_28_8
                have e108 : (m104 a0 8) = (m0 a0 8) := (Eq.trans (zs_ne hmm104 (Or.inr (by decide))) (zs_ne hmm101 (Or.inr (by decide))))
                have r109 : 0 ≤ (m104 a0 21) ∧ (m104 a0 21) ≤ 64 := zi_rd hIm104 hc0 zb_28_21
                have e110 : (m104 a0 21) = (m0 a0 21) := (Eq.trans (zs_ne hmm104 (Or.inr (by decide))) (zs_ne hmm101 (Or.inr (by decide))))
                have r111 : 0 ≤ (m104 a0 48) ∧ (m104 a0 48) ≤ 64 := zi_rd hIm104 hc0 zb_28_48
                have e112 : (m104 a0 48) = (m0 a0 48) := (Eq.trans (zs_ne hmm104 (Or.inr (by decide))) (zs_ne hmm101 (Or.inr (by decide))))
                have r113 : 0 ≤ (m104 a0 46) ∧ (m104 a0 46) ≤ 96 := zi_rd hIm104 hc0 zb_28_46
                have e114 : (m104 a0 46) = (m0 a0 46) := (Eq.trans (zs_ne hmm104 (Or.inr (by decide))) (zs_ne hmm101 (Or.inr (by decide))))
                have r115 : 0 ≤ (m104 a0 49) ∧ (m104 a0 49) ≤ 1 := zi_rd hIm104 hc0 zb_28_49
                have e116 : (m104 a0 49) = (m0 a0 49) := (Eq.trans (zs_ne hmm104 (Or.inr (by decide))) (zs_ne hmm101 (Or.inr (by decide))))
                have r117 : 0 ≤ (m104 a0 45) ∧ (m104 a0 45) ≤ 96 := zi_rd hIm104 hc0 zb_28_45
                have e118 : (m104 a0 45) = (m0 a0 45) := (Eq.trans (zs_ne hmm104 (Or.inr (by decide))) (zs_ne hmm101 (Or.inr (by decide))))
                have r119 : 0 ≤ (m104 a0 47) ∧ (m104 a0 47) ≤ 8 := zi_rd hIm104 hc0 zb_28_47
                have e120 : (m104 a0 47) = (m0 a0 47) := (Eq.trans (zs_ne hmm104 (Or.inr (by decide))) (zs_ne hmm101 (Or.inr (by decide))))
                exact zw_some ⟨hIm104, hFm104, hRKNm104, hRNSm104, hRTRm104, hRWDm104, ⟨by omega, by omega⟩, by omega, by omega, by omega, by omega, by omega, by omega⟩
          · exfalso; omega
        · exfalso; omega
      · refine zw_ite (fun h121 => ?_) (fun h121 => ?_)
        · refine zw_b (by omega) ?_
          refine zw_some ?_
          refine zw_ite (fun h122 => ?_) (fun h122 => ?_)
          · refine zw_bd (zw_eq (zu_call_at (zt_T n) (zm_115 n) (zdp_115 n) _ _ _ _ _ rfl (zr_115_0 n _ _ a0 m0)) ?_)
            refine zw_ite (fun h123 => ?_) (fun h123 => ?_)
            · exfalso; omega
            · refine zw_ite (fun h124 => ?_) (fun h124 => ?_)
              · refine zw_some ?_
                refine zw_ite (fun h125 => ?_) (fun h125 => ?_)
                · exfalso; omega
                · refine zw_ite (fun h126 => ?_) (fun h126 => ?_)
                  · exfalso; omega
                  · refine zw_bd (zw_eq (zu_call_at (zt_T n) (zm_85 n) (zdp_85 n) _ _ _ _ _ rfl (zr_85_0 n _ _ a0 1 m0)) ?_)
                    generalize hmm127 : zu_up m0 a0 4 1 = m127
                    have hIm127 := zi_up hmm127 hIm0 hc0 zb_28_4 (by omega) (by omega)
                    have hFm127 := zfr_up hmm127 hFm0 hc0 rfl
                    have g128 := zwt_fr (zdis_fr (zfr_up hmm127 (zfr_rf [(28, 5)] _) hc0 rfl) rfl)
                    have hRKNm127 := zR_KN_fr (zdis_fr (zfr_up hmm127 (zfr_rf [(28, 5)] _) hc0 rfl) rfl) hRKNm0
                    have hRNSm127 := zR_NS_fr (zdis_fr (zfr_up hmm127 (zfr_rf [(28, 5)] _) hc0 rfl) rfl) hRNSm0
                    have hRTRm127 := zR_TR_fr (zdis_fr (zfr_up hmm127 (zfr_rf [(28, 5)] _) hc0 rfl) rfl) hRTRm0
                    have hRWDm127 := zR_WD_fr (zdis_fr (zfr_up hmm127 (zfr_rf [(28, 5)] _) hc0 rfl) rfl) hRWDm0
                    have r129 : 0 ≤ (m127 a0 10) ∧ (m127 a0 10) ≤ 700 := zi_rd hIm127 hc0 zb_28_10
                    generalize hmm130 : zu_up m127 a0 5 (m127 a0 10) = m130
                    have hIm130 := zi_up hmm130 hIm127 hc0 zb_28_5 (by omega) (by omega)
                    have hFm130 := zfr_up hmm130 hFm127 hc0 rfl
                    have g131 := zwt_fr (zdis_fr (zfr_up hmm130 (zfr_rf [(28, 6)] _) hc0 rfl) rfl)
                    have hRKNm130 := zR_KN_fr (zdis_fr (zfr_up hmm130 (zfr_rf [(28, 6)] _) hc0 rfl) rfl) hRKNm127
                    have hRNSm130 := zR_NS_fr (zdis_fr (zfr_up hmm130 (zfr_rf [(28, 6)] _) hc0 rfl) rfl) hRNSm127
                    have hRTRm130 := zR_TR_fr (zdis_fr (zfr_up hmm130 (zfr_rf [(28, 6)] _) hc0 rfl) rfl) hRTRm127
                    have hRWDm130 := zR_WD_fr (zdis_fr (zfr_up hmm130 (zfr_rf [(28, 6)] _) hc0 rfl) rfl) hRWDm127
                    refine zw_b (by omega) ?_
                    refine zw_some ?_
                    refine zw_b (by omega) ?_
                    have r132 : 0 ≤ (m130 a0 7) ∧ (m130 a0 7) ≤ 700 := zi_rd hIm130 hc0 zb_28_7
                    have r133 : 0 ≤ (m130 a0 8) ∧ (m130 a0 8) ≤ 6 := zi_rd hIm130 hc0 zb_28_8
                    have e134 : (m130 a0 8) = (m0 a0 8) := (Eq.trans (zs_ne hmm130 (Or.inr (by decide))) (zs_ne hmm127 (Or.inr (by decide))))
                    have r135 : 0 ≤ (m130 a0 21) ∧ (m130 a0 21) ≤ 64 := zi_rd hIm130 hc0 zb_28_21
                    have e136 : (m130 a0 21) = (m0 a0 21) := (Eq.trans (zs_ne hmm130 (Or.inr (by decide))) (zs_ne hmm127 (Or.inr (by decide))))
                    have r137 : 0 ≤ (m130 a0 48) ∧ (m130 a0 48) ≤ 64 := zi_rd hIm130 hc0 zb_28_48
                    have e138 : (m130 a0 48) = (m0 a0 48) := (Eq.trans (zs_ne hmm130 (Or.inr (by decide))) (zs_ne hmm127 (Or.inr (by decide))))
                    have r139 : 0 ≤ (m130 a0 46) ∧ (m130 a0 46) ≤ 96 := zi_rd hIm130 hc0 zb_28_46
                    have e140 : (m130 a0 46) = (m0 a0 46) := (Eq.trans (zs_ne hmm130 (Or.inr (by decide))) (zs_ne hmm127 (Or.inr (by decide))))
                    have r141 : 0 ≤ (m130 a0 49) ∧ (m130 a0 49) ≤ 1 := zi_rd hIm130 hc0 zb_28_49
                    have e142 : (m130 a0 49) = (m0 a0 49) := (Eq.trans (zs_ne hmm130 (Or.inr (by decide))) (zs_ne hmm127 (Or.inr (by decide))))
                    have r143 : 0 ≤ (m130 a0 45) ∧ (m130 a0 45) ≤ 96 := zi_rd hIm130 hc0 zb_28_45
                    have e144 : (m130 a0 45) = (m0 a0 45) := (Eq.trans (zs_ne hmm130 (Or.inr (by decide))) (zs_ne hmm127 (Or.inr (by decide))))
                    have r145 : 0 ≤ (m130 a0 47) ∧ (m130 a0 47) ≤ 8 := zi_rd hIm130 hc0 zb_28_47
                    have e146 : (m130 a0 47) = (m0 a0 47) := (Eq.trans (zs_ne hmm130 (Or.inr (by decide))) (zs_ne hmm127 (Or.inr (by decide))))
                    exact zw_some ⟨hIm130, hFm130, hRKNm130, hRNSm130, hRTRm130, hRWDm130, ⟨by omega, by omega⟩, by omega, by omega, by omega, by omega, by omega, by omega⟩
              · have w147 := zu_w32_id (z := (m0 a0 9) - 26) (by omega) (by omega)
                refine zw_some ?_
                refine zw_ite (fun h148 => ?_) (fun h148 => ?_)
                · refine zw_ite (fun h149 => ?_) (fun h149 => ?_)
                  · refine zw_bd (zw_eq (zu_call_at (zt_T n) (zm_113 n) (zdp_113 n) _ _ _ _ _ rfl (zr_113_0 n _ _ a0 m0)) ?_)
                    refine zw_ite (fun h150 => ?_) (fun h150 => ?_)
                    · have w151 := zu_w32_id (z := (m0 a0 48) + 1) (by omega) (by omega)
                      generalize hmm152 : zu_up m0 a0 48 (zu_w32 ((m0 a0 48) + 1)) = m152
                      have hIm152 := zi_up hmm152 hIm0 hc0 zb_28_48 (by omega) (by omega)
                      have hFm152 := zfr_up hmm152 hFm0 hc0 rfl
                      have g153 := zwt_fr (zdis_fr (zfr_up hmm152 (zfr_rf [(28, 49)] _) hc0 rfl) rfl)
                      have hRKNm152 := zR_KN_fr (zdis_fr (zfr_up hmm152 (zfr_rf [(28, 49)] _) hc0 rfl) rfl) hRKNm0
                      have hRNSm152 := zR_NS_fr (zdis_fr (zfr_up hmm152 (zfr_rf [(28, 49)] _) hc0 rfl) rfl) hRNSm0
                      have hRTRm152 := zR_TR_fr (zdis_fr (zfr_up hmm152 (zfr_rf [(28, 49)] _) hc0 rfl) rfl) hRTRm0
                      have hRWDm152 := zR_WD_fr (zdis_fr (zfr_up hmm152 (zfr_rf [(28, 49)] _) hc0 rfl) rfl) hRWDm0
                      refine zw_b (by omega) ?_
                      refine zw_some ?_
                      refine zw_ite (fun h154 => ?_) (fun h154 => ?_)
                      · refine zw_ite (fun h155 => ?_) (fun h155 => ?_)
                        · exfalso; omega
                        · refine zw_ite (fun h156 => ?_) (fun h156 => ?_)
                          · exfalso; omega
                          · have r157 : 0 ≤ (m152 a0 21) ∧ (m152 a0 21) ≤ 64 := zi_rd hIm152 hc0 zb_28_21
                            have e158 : (m152 a0 21) = (m0 a0 21) := (zs_ne hmm152 (Or.inr (by decide)))
                            have r159 : 0 ≤ (m152 a0 46) ∧ (m152 a0 46) ≤ 96 := zi_rd hIm152 hc0 zb_28_46
                            have e160 : (m152 a0 46) = (m0 a0 46) := (zs_ne hmm152 (Or.inr (by decide)))
                            refine zw_bd (zw_mono (zk_110 n hIm152 hc0 ⟨by omega, by omega⟩ ⟨by omega, by omega⟩ ⟨by omega, by omega⟩ (by omega) (by omega) (by omega) (by omega) (by omega) hRKNm152) (fun v162 m161 hqm161 => ?_))
                            obtain ⟨hIm161, hfm161, hvm161⟩ := hqm161
                            have hFm161 := zfr_tr hFm152 hfm161 rfl
                            obtain ⟨hRKNm161, hvm161⟩ := hvm161
                            have g163 := zwt_fr (zdis_fr hfm161 rfl)
                            have hRNSm161 := zR_NS_fr (zdis_fr hfm161 rfl) hRNSm152
                            have hRTRm161 := zR_TR_fr (zdis_fr hfm161 rfl) hRTRm152
                            have hRWDm161 := zR_WD_fr (zdis_fr hfm161 rfl) hRWDm152
                            have g164 := zwt_bd hIm161 hc0
                            have s165 := hRNSm161 a0 hc0
                            have s166 := hRTRm161 a0 hc0
                            refine zw_b (by omega) ?_
                            generalize hmm167 : zu_up m161 a0 49 0 = m167
                            have hIm167 := zi_up hmm167 hIm161 hc0 zb_28_49 (by omega) (by omega)
                            have hFm167 := zfr_up hmm167 hFm161 hc0 rfl
                            have g168 := zwt_fr (zdis_fr (zfr_up hmm167 (zfr_rf [(28, 50)] _) hc0 rfl) rfl)
                            have hRKNm167 := zR_KN_fr (zdis_fr (zfr_up hmm167 (zfr_rf [(28, 50)] _) hc0 rfl) rfl) hRKNm161
                            have hRNSm167 := zR_NS_fr (zdis_fr (zfr_up hmm167 (zfr_rf [(28, 50)] _) hc0 rfl) rfl) hRNSm161
                            have hRTRm167 := zR_TR_fr (zdis_fr (zfr_up hmm167 (zfr_rf [(28, 50)] _) hc0 rfl) rfl) hRTRm161
                            have hRWDm167 := zR_WD_fr (zdis_fr (zfr_up hmm167 (zfr_rf [(28, 50)] _) hc0 rfl) rfl) hRWDm161
                            refine zw_bd (zw_mono (zk_89 n hIm167 hc0 hRNSm167 hRWDm167) (fun v170 m169 hqm169 => ?_))
                            obtain ⟨hIm169, hfm169, hvm169⟩ := hqm169
                            have hFm169 := zfr_tr hFm167 hfm169 rfl
                            obtain ⟨hRNSm169, hRTRm169, hRWDm169, hvm169⟩ := hvm169
                            have g171 := zwt_fr (zdis_fr hfm169 rfl)
                            have hRKNm169 := zR_KN_fr (zdis_fr hfm169 rfl) hRKNm167
                            have g172 := zwt_bd hIm169 hc0
                            have s173 := hRNSm169 a0 hc0
                            have s174 := hRTRm169 a0 hc0
                            refine zw_b (by omega) ?_
                            have r175 : 0 ≤ (m169 a0 7) ∧ (m169 a0 7) ≤ 700 := zi_rd hIm169 hc0 zb_28_7
                            have r176 : 0 ≤ (m169 a0 8) ∧ (m169 a0 8) ≤ 6 := zi_rd hIm169 hc0 zb_28_8
                            have r177 : 0 ≤ (m169 a0 21) ∧ (m169 a0 21) ≤ 64 := zi_rd hIm169 hc0 zb_28_21
                            have e178 : (m169 a0 21) = (m161 a0 21) := (Eq.trans (zfr_ap hfm169 hc0 rfl) (zs_ne hmm167 (Or.inr (by decide))))
                            have r179 : 0 ≤ (m169 a0 48) ∧ (m169 a0 48) ≤ 64 := zi_rd hIm169 hc0 zb_28_48
                            have e180 : (m169 a0 48) = (zu_w32 ((m0 a0 48) + 1)) := (Eq.trans (zfr_ap hfm169 hc0 rfl) (Eq.trans (zs_ne hmm167 (Or.inr (by decide))) (Eq.trans (zfr_ap hfm161 hc0 rfl) (zs_eq hmm152))))
                            have r181 : 0 ≤ (m169 a0 46) ∧ (m169 a0 46) ≤ 96 := zi_rd hIm169 hc0 zb_28_46
                            have e182 : (m169 a0 46) = (m161 a0 46) := (Eq.trans (zfr_ap hfm169 hc0 rfl) (zs_ne hmm167 (Or.inr (by decide))))
                            have r183 : 0 ≤ (m169 a0 49) ∧ (m169 a0 49) ≤ 1 := zi_rd hIm169 hc0 zb_28_49
                            have e184 : (m169 a0 49) = 0 := (Eq.trans (zfr_ap hfm169 hc0 rfl) (zs_eq hmm167))
                            have r185 : 0 ≤ (m169 a0 45) ∧ (m169 a0 45) ≤ 96 := zi_rd hIm169 hc0 zb_28_45
                            have e186 : (m169 a0 45) = (m0 a0 45) := (Eq.trans (zfr_ap hfm169 hc0 rfl) (Eq.trans (zs_ne hmm167 (Or.inr (by decide))) (Eq.trans (zfr_ap hfm161 hc0 rfl) (zs_ne hmm152 (Or.inr (by decide))))))
                            have r187 : 0 ≤ (m169 a0 47) ∧ (m169 a0 47) ≤ 8 := zi_rd hIm169 hc0 zb_28_47
                            have e188 : (m169 a0 47) = (m0 a0 47) := (Eq.trans (zfr_ap hfm169 hc0 rfl) (Eq.trans (zs_ne hmm167 (Or.inr (by decide))) (Eq.trans (zfr_ap hfm161 hc0 rfl) (zs_ne hmm152 (Or.inr (by decide))))))
                            exact zw_some ⟨hIm169, hFm169, hRKNm169, hRNSm169, hRTRm169, hRWDm169, ⟨by omega, by omega⟩, by omega, by omega, by omega, by omega, by omega, by omega⟩
                      · exfalso; omega
                    · refine zw_bd (zw_eq (zu_call_at (zt_T n) (zm_85 n) (zdp_85 n) _ _ _ _ _ rfl (zr_85_0 n _ _ a0 2 m0)) ?_)
                      generalize hmm189 : zu_up m0 a0 4 2 = m189
                      have hIm189 := zi_up hmm189 hIm0 hc0 zb_28_4 (by omega) (by omega)
                      have hFm189 := zfr_up hmm189 hFm0 hc0 rfl
                      have g190 := zwt_fr (zdis_fr (zfr_up hmm189 (zfr_rf [(28, 5)] _) hc0 rfl) rfl)
                      have hRKNm189 := zR_KN_fr (zdis_fr (zfr_up hmm189 (zfr_rf [(28, 5)] _) hc0 rfl) rfl) hRKNm0
                      have hRNSm189 := zR_NS_fr (zdis_fr (zfr_up hmm189 (zfr_rf [(28, 5)] _) hc0 rfl) rfl) hRNSm0
                      have hRTRm189 := zR_TR_fr (zdis_fr (zfr_up hmm189 (zfr_rf [(28, 5)] _) hc0 rfl) rfl) hRTRm0
                      have hRWDm189 := zR_WD_fr (zdis_fr (zfr_up hmm189 (zfr_rf [(28, 5)] _) hc0 rfl) rfl) hRWDm0
                      have r191 : 0 ≤ (m189 a0 10) ∧ (m189 a0 10) ≤ 700 := zi_rd hIm189 hc0 zb_28_10
                      generalize hmm192 : zu_up m189 a0 5 (m189 a0 10) = m192
                      have hIm192 := zi_up hmm192 hIm189 hc0 zb_28_5 (by omega) (by omega)
                      have hFm192 := zfr_up hmm192 hFm189 hc0 rfl
                      have g193 := zwt_fr (zdis_fr (zfr_up hmm192 (zfr_rf [(28, 6)] _) hc0 rfl) rfl)
                      have hRKNm192 := zR_KN_fr (zdis_fr (zfr_up hmm192 (zfr_rf [(28, 6)] _) hc0 rfl) rfl) hRKNm189
                      have hRNSm192 := zR_NS_fr (zdis_fr (zfr_up hmm192 (zfr_rf [(28, 6)] _) hc0 rfl) rfl) hRNSm189
                      have hRTRm192 := zR_TR_fr (zdis_fr (zfr_up hmm192 (zfr_rf [(28, 6)] _) hc0 rfl) rfl) hRTRm189
                      have hRWDm192 := zR_WD_fr (zdis_fr (zfr_up hmm192 (zfr_rf [(28, 6)] _) hc0 rfl) rfl) hRWDm189
                      refine zw_b (by omega) ?_
                      refine zw_some ?_
                      refine zw_b (by omega) ?_
                      refine zw_some ?_
                      refine zw_ite (fun h194 => ?_) (fun h194 => ?_)
                      · exfalso; omega
                      · refine zw_b (by omega) ?_
                        have r195 : 0 ≤ (m192 a0 7) ∧ (m192 a0 7) ≤ 700 := zi_rd hIm192 hc0 zb_28_7
                        have r196 : 0 ≤ (m192 a0 8) ∧ (m192 a0 8) ≤ 6 := zi_rd hIm192 hc0 zb_28_8
                        have e197 : (m192 a0 8) = (m0 a0 8) := (Eq.trans (zs_ne hmm192 (Or.inr (by decide))) (zs_ne hmm189 (Or.inr (by decide))))
                        have r198 : 0 ≤ (m192 a0 21) ∧ (m192 a0 21) ≤ 64 := zi_rd hIm192 hc0 zb_28_21
                        have e199 : (m192 a0 21) = (m0 a0 21) := (Eq.trans (zs_ne hmm192 (Or.inr (by decide))) (zs_ne hmm189 (Or.inr (by decide))))
                        have r200 : 0 ≤ (m192 a0 48) ∧ (m192 a0 48) ≤ 64 := zi_rd hIm192 hc0 zb_28_48
                        have e201 : (m192 a0 48) = (m0 a0 48) := (Eq.trans (zs_ne hmm192 (Or.inr (by decide))) (zs_ne hmm189 (Or.inr (by decide))))
                        have r202 : 0 ≤ (m192 a0 46) ∧ (m192 a0 46) ≤ 96 := zi_rd hIm192 hc0 zb_28_46
                        have e203 : (m192 a0 46) = (m0 a0 46) := (Eq.trans (zs_ne hmm192 (Or.inr (by decide))) (zs_ne hmm189 (Or.inr (by decide))))
                        have r204 : 0 ≤ (m192 a0 49) ∧ (m192 a0 49) ≤ 1 := zi_rd hIm192 hc0 zb_28_49
                        have e205 : (m192 a0 49) = (m0 a0 49) := (Eq.trans (zs_ne hmm192 (Or.inr (by decide))) (zs_ne hmm189 (Or.inr (by decide))))
                        have r206 : 0 ≤ (m192 a0 45) ∧ (m192 a0 45) ≤ 96 := zi_rd hIm192 hc0 zb_28_45
                        have e207 : (m192 a0 45) = (m0 a0 45) := (Eq.trans (zs_ne hmm192 (Or.inr (by decide))) (zs_ne hmm189 (Or.inr (by decide))))
                        have r208 : 0 ≤ (m192 a0 47) ∧ (m192 a0 47) ≤ 8 := zi_rd hIm192 hc0 zb_28_47
                        have e209 : (m192 a0 47) = (m0 a0 47) := (Eq.trans (zs_ne hmm192 (Or.inr (by decide))) (zs_ne hmm189 (Or.inr (by decide))))
                        exact zw_some ⟨hIm192, hFm192, hRKNm192, hRNSm192, hRTRm192, hRWDm192, ⟨by omega, by omega⟩, by omega, by omega, by omega, by omega, by omega, by omega⟩
                  · exfalso; omega
                · exfalso; omega
          · exfalso; omega
        · refine zw_b (by omega) ?_
          refine zw_some ?_
          refine zw_ite (fun h210 => ?_) (fun h210 => ?_)
          · exfalso; omega
          · have r211 : 0 ≤ (m0 a0 50) ∧ (m0 a0 50) ≤ 1 := zi_rd hIm0 hc0 zb_28_50
            refine zw_ite (fun h212 => ?_) (fun h212 => ?_)
            · refine zw_bd (zw_eq (zu_call_at (zt_T n) (zm_115 n) (zdp_115 n) _ _ _ _ _ rfl (zr_115_0 n _ _ a0 m0)) ?_)
              refine zw_ite (fun h213 => ?_) (fun h213 => ?_)
              · exfalso; omega
              · refine zw_ite (fun h214 => ?_) (fun h214 => ?_)
                · refine zw_some ?_
                  refine zw_ite (fun h215 => ?_) (fun h215 => ?_)
                  · exfalso; omega
                  · refine zw_ite (fun h216 => ?_) (fun h216 => ?_)
                    · exfalso; omega
                    · refine zw_bd (zw_eq (zu_call_at (zt_T n) (zm_85 n) (zdp_85 n) _ _ _ _ _ rfl (zr_85_0 n _ _ a0 1 m0)) ?_)
                      generalize hmm217 : zu_up m0 a0 4 1 = m217
                      have hIm217 := zi_up hmm217 hIm0 hc0 zb_28_4 (by omega) (by omega)
                      have hFm217 := zfr_up hmm217 hFm0 hc0 rfl
                      have g218 := zwt_fr (zdis_fr (zfr_up hmm217 (zfr_rf [(28, 5)] _) hc0 rfl) rfl)
                      have hRKNm217 := zR_KN_fr (zdis_fr (zfr_up hmm217 (zfr_rf [(28, 5)] _) hc0 rfl) rfl) hRKNm0
                      have hRNSm217 := zR_NS_fr (zdis_fr (zfr_up hmm217 (zfr_rf [(28, 5)] _) hc0 rfl) rfl) hRNSm0
                      have hRTRm217 := zR_TR_fr (zdis_fr (zfr_up hmm217 (zfr_rf [(28, 5)] _) hc0 rfl) rfl) hRTRm0
                      have hRWDm217 := zR_WD_fr (zdis_fr (zfr_up hmm217 (zfr_rf [(28, 5)] _) hc0 rfl) rfl) hRWDm0
                      have r219 : 0 ≤ (m217 a0 10) ∧ (m217 a0 10) ≤ 700 := zi_rd hIm217 hc0 zb_28_10
                      generalize hmm220 : zu_up m217 a0 5 (m217 a0 10) = m220
                      have hIm220 := zi_up hmm220 hIm217 hc0 zb_28_5 (by omega) (by omega)
                      have hFm220 := zfr_up hmm220 hFm217 hc0 rfl
                      have g221 := zwt_fr (zdis_fr (zfr_up hmm220 (zfr_rf [(28, 6)] _) hc0 rfl) rfl)
                      have hRKNm220 := zR_KN_fr (zdis_fr (zfr_up hmm220 (zfr_rf [(28, 6)] _) hc0 rfl) rfl) hRKNm217
                      have hRNSm220 := zR_NS_fr (zdis_fr (zfr_up hmm220 (zfr_rf [(28, 6)] _) hc0 rfl) rfl) hRNSm217
                      have hRTRm220 := zR_TR_fr (zdis_fr (zfr_up hmm220 (zfr_rf [(28, 6)] _) hc0 rfl) rfl) hRTRm217
                      have hRWDm220 := zR_WD_fr (zdis_fr (zfr_up hmm220 (zfr_rf [(28, 6)] _) hc0 rfl) rfl) hRWDm217
                      refine zw_b (by omega) ?_
                      refine zw_some ?_
                      refine zw_b (by omega) ?_
                      have r222 : 0 ≤ (m220 a0 7) ∧ (m220 a0 7) ≤ 700 := zi_rd hIm220 hc0 zb_28_7
                      have r223 : 0 ≤ (m220 a0 8) ∧ (m220 a0 8) ≤ 6 := zi_rd hIm220 hc0 zb_28_8
                      have e224 : (m220 a0 8) = (m0 a0 8) := (Eq.trans (zs_ne hmm220 (Or.inr (by decide))) (zs_ne hmm217 (Or.inr (by decide))))
                      have r225 : 0 ≤ (m220 a0 21) ∧ (m220 a0 21) ≤ 64 := zi_rd hIm220 hc0 zb_28_21
                      have e226 : (m220 a0 21) = (m0 a0 21) := (Eq.trans (zs_ne hmm220 (Or.inr (by decide))) (zs_ne hmm217 (Or.inr (by decide))))
                      have r227 : 0 ≤ (m220 a0 48) ∧ (m220 a0 48) ≤ 64 := zi_rd hIm220 hc0 zb_28_48
                      have e228 : (m220 a0 48) = (m0 a0 48) := (Eq.trans (zs_ne hmm220 (Or.inr (by decide))) (zs_ne hmm217 (Or.inr (by decide))))
                      have r229 : 0 ≤ (m220 a0 46) ∧ (m220 a0 46) ≤ 96 := zi_rd hIm220 hc0 zb_28_46
                      have e230 : (m220 a0 46) = (m0 a0 46) := (Eq.trans (zs_ne hmm220 (Or.inr (by decide))) (zs_ne hmm217 (Or.inr (by decide))))
                      have r231 : 0 ≤ (m220 a0 49) ∧ (m220 a0 49) ≤ 1 := zi_rd hIm220 hc0 zb_28_49
                      have e232 : (m220 a0 49) = (m0 a0 49) := (Eq.trans (zs_ne hmm220 (Or.inr (by decide))) (zs_ne hmm217 (Or.inr (by decide))))
                      have r233 : 0 ≤ (m220 a0 45) ∧ (m220 a0 45) ≤ 96 := zi_rd hIm220 hc0 zb_28_45
                      have e234 : (m220 a0 45) = (m0 a0 45) := (Eq.trans (zs_ne hmm220 (Or.inr (by decide))) (zs_ne hmm217 (Or.inr (by decide))))
                      have r235 : 0 ≤ (m220 a0 47) ∧ (m220 a0 47) ≤ 8 := zi_rd hIm220 hc0 zb_28_47
                      have e236 : (m220 a0 47) = (m0 a0 47) := (Eq.trans (zs_ne hmm220 (Or.inr (by decide))) (zs_ne hmm217 (Or.inr (by decide))))
                      exact zw_some ⟨hIm220, hFm220, hRKNm220, hRNSm220, hRTRm220, hRWDm220, ⟨by omega, by omega⟩, by omega, by omega, by omega, by omega, by omega, by omega⟩
                · exfalso; omega
            · refine zw_bd (zw_eq (zu_call_at (zt_T n) (zm_113 n) (zdp_113 n) _ _ _ _ _ rfl (zr_113_0 n _ _ a0 m0)) ?_)
              refine zw_ite (fun h237 => ?_) (fun h237 => ?_)
              · have w238 := zu_w32_id (z := (m0 a0 48) + 1) (by omega) (by omega)
                generalize hmm239 : zu_up m0 a0 48 (zu_w32 ((m0 a0 48) + 1)) = m239
                have hIm239 := zi_up hmm239 hIm0 hc0 zb_28_48 (by omega) (by omega)
                have hFm239 := zfr_up hmm239 hFm0 hc0 rfl
                have g240 := zwt_fr (zdis_fr (zfr_up hmm239 (zfr_rf [(28, 49)] _) hc0 rfl) rfl)
                have hRKNm239 := zR_KN_fr (zdis_fr (zfr_up hmm239 (zfr_rf [(28, 49)] _) hc0 rfl) rfl) hRKNm0
                have hRNSm239 := zR_NS_fr (zdis_fr (zfr_up hmm239 (zfr_rf [(28, 49)] _) hc0 rfl) rfl) hRNSm0
                have hRTRm239 := zR_TR_fr (zdis_fr (zfr_up hmm239 (zfr_rf [(28, 49)] _) hc0 rfl) rfl) hRTRm0
                have hRWDm239 := zR_WD_fr (zdis_fr (zfr_up hmm239 (zfr_rf [(28, 49)] _) hc0 rfl) rfl) hRWDm0
                refine zw_b (by omega) ?_
                refine zw_some ?_
                refine zw_ite (fun h241 => ?_) (fun h241 => ?_)
                · refine zw_bd (zw_eq (zu_call_at (zt_T n) (zm_114 n) (zdp_114 n) _ _ _ _ _ rfl (zr_114_0 n _ _ a0 2 m239)) ?_)
                  have r242 : 0 ≤ (m239 a0 45) ∧ (m239 a0 45) ≤ 96 := zi_rd hIm239 hc0 zb_28_45
                  have e243 : (m239 a0 45) = (m0 a0 45) := (zs_ne hmm239 (Or.inr (by decide)))
                  have b244 : 0 ≤ (m239 a0 45) ∧ (m239 a0 45) < 96 := by omega
                  refine zw_if b244 ?_
                  generalize hmm245 : zu_up m239 211 (m239 a0 45) 2 = m245
                  have hIm245 := zi_up hmm245 hIm239 zq_211 (zb_120 _) (by omega) (by omega)
                  have hFm245 := zfr_up hmm245 hFm239 zq_211 rfl
                  have hRKNm245 := zR_KN_fr (zdis_fr (zfr_up hmm245 (zfr_rf [(120, 0)] _) zq_211 rfl) rfl) hRKNm239
                  have hRNSm245 := zR_NS_fr (zdis_fr (zfr_up hmm245 (zfr_rf [(120, 0)] _) zq_211 rfl) rfl) hRNSm239
                  have hRTRm245 := zR_TR_fr (zdis_fr (zfr_up hmm245 (zfr_rf [(120, 0)] _) zq_211 rfl) rfl) hRTRm239
                  have hRWDm245 := zR_WD_fr (zdis_fr (zfr_up hmm245 (zfr_rf [(120, 0)] _) zq_211 rfl) rfl) hRWDm239
                  have r246 : 0 ≤ (m245 a0 45) ∧ (m245 a0 45) ≤ 96 := zi_rd hIm245 hc0 zb_28_45
                  have e247 : (m245 a0 45) = (m239 a0 45) := (zs_ne hmm245 (Or.inl (zc_ne hc0 zq_211 (by decide))))
                  have w248 := zu_w32_id (z := (m245 a0 45) + 1) (by omega) (by omega)
                  generalize hmm249 : zu_up m245 a0 45 (zu_w32 ((m245 a0 45) + 1)) = m249
                  have hIm249 := zi_up hmm249 hIm245 hc0 zb_28_45 (by omega) (by omega)
                  have hFm249 := zfr_up hmm249 hFm245 hc0 rfl
                  have hRKNm249 := zR_KN_fr (zdis_fr (zfr_up hmm249 (zfr_rf [(28, 46)] _) hc0 rfl) rfl) hRKNm245
                  have hRNSm249 := zR_NS_fr (zdis_fr (zfr_up hmm249 (zfr_rf [(28, 46)] _) hc0 rfl) rfl) hRNSm245
                  have hRTRm249 := zR_TR_fr (zdis_fr (zfr_up hmm249 (zfr_rf [(28, 46)] _) hc0 rfl) rfl) hRTRm245
                  have hRWDm249 := zR_WD_fr (zdis_fr (zfr_up hmm249 (zfr_rf [(28, 46)] _) hc0 rfl) rfl) hRWDm245
                  have g250 := zwt_push hmm245 hmm249 hc0 (by omega) (by omega) (by omega)
                  have g251 := zwt_bd hIm249 hc0
                  refine zw_some ?_
                  refine zw_bd (zw_mono (zk_89 n hIm249 hc0 hRNSm249 hRWDm249) (fun v253 m252 hqm252 => ?_))
                  obtain ⟨hIm252, hfm252, hvm252⟩ := hqm252
                  have hFm252 := zfr_tr hFm249 hfm252 rfl
                  obtain ⟨hRNSm252, hRTRm252, hRWDm252, hvm252⟩ := hvm252
                  have g254 := zwt_fr (zdis_fr hfm252 rfl)
                  have hRKNm252 := zR_KN_fr (zdis_fr hfm252 rfl) hRKNm249
                  have g255 := zwt_bd hIm252 hc0
                  have s256 := hRNSm252 a0 hc0
                  have s257 := hRTRm252 a0 hc0
                  refine zw_b (by omega) ?_
                  have r258 : 0 ≤ (m252 a0 7) ∧ (m252 a0 7) ≤ 700 := zi_rd hIm252 hc0 zb_28_7
                  have r259 : 0 ≤ (m252 a0 8) ∧ (m252 a0 8) ≤ 6 := zi_rd hIm252 hc0 zb_28_8
                  have r260 : 0 ≤ (m252 a0 21) ∧ (m252 a0 21) ≤ 64 := zi_rd hIm252 hc0 zb_28_21
                  have e261 : (m252 a0 21) = (m0 a0 21) := (Eq.trans (zfr_ap hfm252 hc0 rfl) (Eq.trans (zs_ne hmm249 (Or.inr (by decide))) (Eq.trans (zs_ne hmm245 (Or.inl (zc_ne hc0 zq_211 (by decide)))) (zs_ne hmm239 (Or.inr (by decide))))))
                  have r262 : 0 ≤ (m252 a0 48) ∧ (m252 a0 48) ≤ 64 := zi_rd hIm252 hc0 zb_28_48
                  have e263 : (m252 a0 48) = (zu_w32 ((m0 a0 48) + 1)) := (Eq.trans (zfr_ap hfm252 hc0 rfl) (Eq.trans (zs_ne hmm249 (Or.inr (by decide))) (Eq.trans (zs_ne hmm245 (Or.inl (zc_ne hc0 zq_211 (by decide)))) (zs_eq hmm239))))
                  have r264 : 0 ≤ (m252 a0 46) ∧ (m252 a0 46) ≤ 96 := zi_rd hIm252 hc0 zb_28_46
                  have e265 : (m252 a0 46) = (m0 a0 46) := (Eq.trans (zfr_ap hfm252 hc0 rfl) (Eq.trans (zs_ne hmm249 (Or.inr (by decide))) (Eq.trans (zs_ne hmm245 (Or.inl (zc_ne hc0 zq_211 (by decide)))) (zs_ne hmm239 (Or.inr (by decide))))))
                  have r266 : 0 ≤ (m252 a0 49) ∧ (m252 a0 49) ≤ 1 := zi_rd hIm252 hc0 zb_28_49
                  have e267 : (m252 a0 49) = (m0 a0 49) := (Eq.trans (zfr_ap hfm252 hc0 rfl) (Eq.trans (zs_ne hmm249 (Or.inr (by decide))) (Eq.trans (zs_ne hmm245 (Or.inl (zc_ne hc0 zq_211 (by decide)))) (zs_ne hmm239 (Or.inr (by decide))))))
                  have r268 : 0 ≤ (m252 a0 45) ∧ (m252 a0 45) ≤ 96 := zi_rd hIm252 hc0 zb_28_45
                  have e269 : (m252 a0 45) = (zu_w32 ((m245 a0 45) + 1)) := (Eq.trans (zfr_ap hfm252 hc0 rfl) (zs_eq hmm249))
                  have r270 : 0 ≤ (m252 a0 47) ∧ (m252 a0 47) ≤ 8 := zi_rd hIm252 hc0 zb_28_47
                  have e271 : (m252 a0 47) = (m0 a0 47) := (Eq.trans (zfr_ap hfm252 hc0 rfl) (Eq.trans (zs_ne hmm249 (Or.inr (by decide))) (Eq.trans (zs_ne hmm245 (Or.inl (zc_ne hc0 zq_211 (by decide)))) (zs_ne hmm239 (Or.inr (by decide))))))
                  exact zw_some ⟨hIm252, hFm252, hRKNm252, hRNSm252, hRTRm252, hRWDm252, ⟨by omega, by omega⟩, by omega, by omega, by omega, by omega, by omega, by omega⟩
                · exfalso; omega
              · refine zw_bd (zw_eq (zu_call_at (zt_T n) (zm_85 n) (zdp_85 n) _ _ _ _ _ rfl (zr_85_0 n _ _ a0 2 m0)) ?_)
                generalize hmm272 : zu_up m0 a0 4 2 = m272
                have hIm272 := zi_up hmm272 hIm0 hc0 zb_28_4 (by omega) (by omega)
                have hFm272 := zfr_up hmm272 hFm0 hc0 rfl
                have g273 := zwt_fr (zdis_fr (zfr_up hmm272 (zfr_rf [(28, 5)] _) hc0 rfl) rfl)
                have hRKNm272 := zR_KN_fr (zdis_fr (zfr_up hmm272 (zfr_rf [(28, 5)] _) hc0 rfl) rfl) hRKNm0
                have hRNSm272 := zR_NS_fr (zdis_fr (zfr_up hmm272 (zfr_rf [(28, 5)] _) hc0 rfl) rfl) hRNSm0
                have hRTRm272 := zR_TR_fr (zdis_fr (zfr_up hmm272 (zfr_rf [(28, 5)] _) hc0 rfl) rfl) hRTRm0
                have hRWDm272 := zR_WD_fr (zdis_fr (zfr_up hmm272 (zfr_rf [(28, 5)] _) hc0 rfl) rfl) hRWDm0
                have r274 : 0 ≤ (m272 a0 10) ∧ (m272 a0 10) ≤ 700 := zi_rd hIm272 hc0 zb_28_10
                generalize hmm275 : zu_up m272 a0 5 (m272 a0 10) = m275
                have hIm275 := zi_up hmm275 hIm272 hc0 zb_28_5 (by omega) (by omega)
                have hFm275 := zfr_up hmm275 hFm272 hc0 rfl
                have g276 := zwt_fr (zdis_fr (zfr_up hmm275 (zfr_rf [(28, 6)] _) hc0 rfl) rfl)
                have hRKNm275 := zR_KN_fr (zdis_fr (zfr_up hmm275 (zfr_rf [(28, 6)] _) hc0 rfl) rfl) hRKNm272
                have hRNSm275 := zR_NS_fr (zdis_fr (zfr_up hmm275 (zfr_rf [(28, 6)] _) hc0 rfl) rfl) hRNSm272
                have hRTRm275 := zR_TR_fr (zdis_fr (zfr_up hmm275 (zfr_rf [(28, 6)] _) hc0 rfl) rfl) hRTRm272
                have hRWDm275 := zR_WD_fr (zdis_fr (zfr_up hmm275 (zfr_rf [(28, 6)] _) hc0 rfl) rfl) hRWDm272
                refine zw_b (by omega) ?_
                refine zw_some ?_
                refine zw_b (by omega) ?_
                refine zw_some ?_
                refine zw_ite (fun h277 => ?_) (fun h277 => ?_)
                · exfalso; omega
                · refine zw_b (by omega) ?_
                  have r278 : 0 ≤ (m275 a0 7) ∧ (m275 a0 7) ≤ 700 := zi_rd hIm275 hc0 zb_28_7
                  have r279 : 0 ≤ (m275 a0 8) ∧ (m275 a0 8) ≤ 6 := zi_rd hIm275 hc0 zb_28_8
                  have e280 : (m275 a0 8) = (m0 a0 8) := (Eq.trans (zs_ne hmm275 (Or.inr (by decide))) (zs_ne hmm272 (Or.inr (by decide))))
                  have r281 : 0 ≤ (m275 a0 21) ∧ (m275 a0 21) ≤ 64 := zi_rd hIm275 hc0 zb_28_21
                  have e282 : (m275 a0 21) = (m0 a0 21) := (Eq.trans (zs_ne hmm275 (Or.inr (by decide))) (zs_ne hmm272 (Or.inr (by decide))))
                  have r283 : 0 ≤ (m275 a0 48) ∧ (m275 a0 48) ≤ 64 := zi_rd hIm275 hc0 zb_28_48
                  have e284 : (m275 a0 48) = (m0 a0 48) := (Eq.trans (zs_ne hmm275 (Or.inr (by decide))) (zs_ne hmm272 (Or.inr (by decide))))
                  have r285 : 0 ≤ (m275 a0 46) ∧ (m275 a0 46) ≤ 96 := zi_rd hIm275 hc0 zb_28_46
                  have e286 : (m275 a0 46) = (m0 a0 46) := (Eq.trans (zs_ne hmm275 (Or.inr (by decide))) (zs_ne hmm272 (Or.inr (by decide))))
                  have r287 : 0 ≤ (m275 a0 49) ∧ (m275 a0 49) ≤ 1 := zi_rd hIm275 hc0 zb_28_49
                  have e288 : (m275 a0 49) = (m0 a0 49) := (Eq.trans (zs_ne hmm275 (Or.inr (by decide))) (zs_ne hmm272 (Or.inr (by decide))))
                  have r289 : 0 ≤ (m275 a0 45) ∧ (m275 a0 45) ≤ 96 := zi_rd hIm275 hc0 zb_28_45
                  have e290 : (m275 a0 45) = (m0 a0 45) := (Eq.trans (zs_ne hmm275 (Or.inr (by decide))) (zs_ne hmm272 (Or.inr (by decide))))
                  have r291 : 0 ≤ (m275 a0 47) ∧ (m275 a0 47) ≤ 8 := zi_rd hIm275 hc0 zb_28_47
                  have e292 : (m275 a0 47) = (m0 a0 47) := (Eq.trans (zs_ne hmm275 (Or.inr (by decide))) (zs_ne hmm272 (Or.inr (by decide))))
                  exact zw_some ⟨hIm275, hFm275, hRKNm275, hRNSm275, hRTRm275, hRWDm275, ⟨by omega, by omega⟩, by omega, by omega, by omega, by omega, by omega, by omega⟩
    · exfalso; omega
  · have r293 : (-2147483648) ≤ (m0 a0 9) ∧ (m0 a0 9) ≤ 2147483647 := zi_rd hIm0 hc0 zb_28_9
    refine zw_ite (fun h294 => ?_) (fun h294 => ?_)
    · refine zw_b (by omega) ?_
      refine zw_some ?_
      refine zw_ite (fun h295 => ?_) (fun h295 => ?_)
      · refine zw_bd (zw_eq (zu_call_at (zt_T n) (zm_92 n) (zdp_92 n) _ _ _ _ _ rfl (zr_92_0 n _ _ a0 25 m0)) ?_)
        refine zw_ite (fun h296 => ?_) (fun h296 => ?_)
        · refine zw_b (by omega) ?_
          refine zw_some ?_
          refine zw_ite (fun h297 => ?_) (fun h297 => ?_)
          · refine zw_bd (zw_eq (zu_call_at (zt_T n) (zm_115 n) (zdp_115 n) _ _ _ _ _ rfl (zr_115_0 n _ _ a0 m0)) ?_)
            refine zw_ite (fun h298 => ?_) (fun h298 => ?_)
            · refine zw_some ?_
              refine zw_ite (fun h299 => ?_) (fun h299 => ?_)
              · exfalso; omega
              · refine zw_ite (fun h300 => ?_) (fun h300 => ?_)
                · exfalso; omega
                · refine zw_bd (zw_eq (zu_call_at (zt_T n) (zm_85 n) (zdp_85 n) _ _ _ _ _ rfl (zr_85_0 n _ _ a0 1 m0)) ?_)
                  generalize hmm301 : zu_up m0 a0 4 1 = m301
                  have hIm301 := zi_up hmm301 hIm0 hc0 zb_28_4 (by omega) (by omega)
                  have hFm301 := zfr_up hmm301 hFm0 hc0 rfl
                  have g302 := zwt_fr (zdis_fr (zfr_up hmm301 (zfr_rf [(28, 5)] _) hc0 rfl) rfl)
                  have hRKNm301 := zR_KN_fr (zdis_fr (zfr_up hmm301 (zfr_rf [(28, 5)] _) hc0 rfl) rfl) hRKNm0
                  have hRNSm301 := zR_NS_fr (zdis_fr (zfr_up hmm301 (zfr_rf [(28, 5)] _) hc0 rfl) rfl) hRNSm0
                  have hRTRm301 := zR_TR_fr (zdis_fr (zfr_up hmm301 (zfr_rf [(28, 5)] _) hc0 rfl) rfl) hRTRm0
                  have hRWDm301 := zR_WD_fr (zdis_fr (zfr_up hmm301 (zfr_rf [(28, 5)] _) hc0 rfl) rfl) hRWDm0
                  have r303 : 0 ≤ (m301 a0 10) ∧ (m301 a0 10) ≤ 700 := zi_rd hIm301 hc0 zb_28_10
                  generalize hmm304 : zu_up m301 a0 5 (m301 a0 10) = m304
                  have hIm304 := zi_up hmm304 hIm301 hc0 zb_28_5 (by omega) (by omega)
                  have hFm304 := zfr_up hmm304 hFm301 hc0 rfl
                  have g305 := zwt_fr (zdis_fr (zfr_up hmm304 (zfr_rf [(28, 6)] _) hc0 rfl) rfl)
                  have hRKNm304 := zR_KN_fr (zdis_fr (zfr_up hmm304 (zfr_rf [(28, 6)] _) hc0 rfl) rfl) hRKNm301
                  have hRNSm304 := zR_NS_fr (zdis_fr (zfr_up hmm304 (zfr_rf [(28, 6)] _) hc0 rfl) rfl) hRNSm301
                  have hRTRm304 := zR_TR_fr (zdis_fr (zfr_up hmm304 (zfr_rf [(28, 6)] _) hc0 rfl) rfl) hRTRm301
                  have hRWDm304 := zR_WD_fr (zdis_fr (zfr_up hmm304 (zfr_rf [(28, 6)] _) hc0 rfl) rfl) hRWDm301
                  refine zw_b (by omega) ?_
                  refine zw_some ?_
                  refine zw_b (by omega) ?_
                  have r306 : 0 ≤ (m304 a0 7) ∧ (m304 a0 7) ≤ 700 := zi_rd hIm304 hc0 zb_28_7
                  have r307 : 0 ≤ (m304 a0 8) ∧ (m304 a0 8) ≤ 6 := zi_rd hIm304 hc0 zb_28_8
                  have e308 : (m304 a0 8) = (m0 a0 8) := (Eq.trans (zs_ne hmm304 (Or.inr (by decide))) (zs_ne hmm301 (Or.inr (by decide))))
                  have r309 : 0 ≤ (m304 a0 21) ∧ (m304 a0 21) ≤ 64 := zi_rd hIm304 hc0 zb_28_21
                  have e310 : (m304 a0 21) = (m0 a0 21) := (Eq.trans (zs_ne hmm304 (Or.inr (by decide))) (zs_ne hmm301 (Or.inr (by decide))))
                  have r311 : 0 ≤ (m304 a0 48) ∧ (m304 a0 48) ≤ 64 := zi_rd hIm304 hc0 zb_28_48
                  have e312 : (m304 a0 48) = (m0 a0 48) := (Eq.trans (zs_ne hmm304 (Or.inr (by decide))) (zs_ne hmm301 (Or.inr (by decide))))
                  have r313 : 0 ≤ (m304 a0 46) ∧ (m304 a0 46) ≤ 96 := zi_rd hIm304 hc0 zb_28_46
                  have e314 : (m304 a0 46) = (m0 a0 46) := (Eq.trans (zs_ne hmm304 (Or.inr (by decide))) (zs_ne hmm301 (Or.inr (by decide))))
                  have r315 : 0 ≤ (m304 a0 49) ∧ (m304 a0 49) ≤ 1 := zi_rd hIm304 hc0 zb_28_49
                  have e316 : (m304 a0 49) = (m0 a0 49) := (Eq.trans (zs_ne hmm304 (Or.inr (by decide))) (zs_ne hmm301 (Or.inr (by decide))))
                  have r317 : 0 ≤ (m304 a0 45) ∧ (m304 a0 45) ≤ 96 := zi_rd hIm304 hc0 zb_28_45
                  have e318 : (m304 a0 45) = (m0 a0 45) := (Eq.trans (zs_ne hmm304 (Or.inr (by decide))) (zs_ne hmm301 (Or.inr (by decide))))
                  have r319 : 0 ≤ (m304 a0 47) ∧ (m304 a0 47) ≤ 8 := zi_rd hIm304 hc0 zb_28_47
                  have e320 : (m304 a0 47) = (m0 a0 47) := (Eq.trans (zs_ne hmm304 (Or.inr (by decide))) (zs_ne hmm301 (Or.inr (by decide))))
                  exact zw_some ⟨hIm304, hFm304, hRKNm304, hRNSm304, hRTRm304, hRWDm304, ⟨by omega, by omega⟩, by omega, by omega, by omega, by omega, by omega, by omega⟩
            · exfalso; omega
          · exfalso; omega
        · exfalso; omega
      · exfalso; omega
    · refine zw_b (by omega) ?_
      refine zw_some ?_
      refine zw_ite (fun h321 => ?_) (fun h321 => ?_)
      · exfalso; omega
      · refine zw_ite (fun h322 => ?_) (fun h322 => ?_)
        · have w323 := zu_w32_id (z := (m0 a0 47) + 1) (by omega) (by omega)
          generalize hmm324 : zu_up m0 a0 47 (zu_w32 ((m0 a0 47) + 1)) = m324
          have hIm324 := zi_up hmm324 hIm0 hc0 zb_28_47 (by omega) (by omega)
          have hFm324 := zfr_up hmm324 hFm0 hc0 rfl
          have g325 := zwt_fr (zdis_fr (zfr_up hmm324 (zfr_rf [(28, 48)] _) hc0 rfl) rfl)
          have hRKNm324 := zR_KN_fr (zdis_fr (zfr_up hmm324 (zfr_rf [(28, 48)] _) hc0 rfl) rfl) hRKNm0
          have hRNSm324 := zR_NS_fr (zdis_fr (zfr_up hmm324 (zfr_rf [(28, 48)] _) hc0 rfl) rfl) hRNSm0
          have hRTRm324 := zR_TR_fr (zdis_fr (zfr_up hmm324 (zfr_rf [(28, 48)] _) hc0 rfl) rfl) hRTRm0
          have hRWDm324 := zR_WD_fr (zdis_fr (zfr_up hmm324 (zfr_rf [(28, 48)] _) hc0 rfl) rfl) hRWDm0
          refine zw_bd (zw_eq (zu_call_at (zt_T n) (zm_114 n) (zdp_114 n) _ _ _ _ _ rfl (zr_114_0 n _ _ a0 0 m324)) ?_)
          have r326 : 0 ≤ (m324 a0 45) ∧ (m324 a0 45) ≤ 96 := zi_rd hIm324 hc0 zb_28_45
          have e327 : (m324 a0 45) = (m0 a0 45) := (zs_ne hmm324 (Or.inr (by decide)))
          have b328 : 0 ≤ (m324 a0 45) ∧ (m324 a0 45) < 96 := by omega
          refine zw_if b328 ?_
          generalize hmm329 : zu_up m324 211 (m324 a0 45) 0 = m329
          have hIm329 := zi_up hmm329 hIm324 zq_211 (zb_120 _) (by omega) (by omega)
          have hFm329 := zfr_up hmm329 hFm324 zq_211 rfl
          have hRKNm329 := zR_KN_fr (zdis_fr (zfr_up hmm329 (zfr_rf [(120, 0)] _) zq_211 rfl) rfl) hRKNm324
          have hRNSm329 := zR_NS_fr (zdis_fr (zfr_up hmm329 (zfr_rf [(120, 0)] _) zq_211 rfl) rfl) hRNSm324
          have hRTRm329 := zR_TR_fr (zdis_fr (zfr_up hmm329 (zfr_rf [(120, 0)] _) zq_211 rfl) rfl) hRTRm324
          have hRWDm329 := zR_WD_fr (zdis_fr (zfr_up hmm329 (zfr_rf [(120, 0)] _) zq_211 rfl) rfl) hRWDm324
          have r330 : 0 ≤ (m329 a0 45) ∧ (m329 a0 45) ≤ 96 := zi_rd hIm329 hc0 zb_28_45
          have e331 : (m329 a0 45) = (m324 a0 45) := (zs_ne hmm329 (Or.inl (zc_ne hc0 zq_211 (by decide))))
          have w332 := zu_w32_id (z := (m329 a0 45) + 1) (by omega) (by omega)
          generalize hmm333 : zu_up m329 a0 45 (zu_w32 ((m329 a0 45) + 1)) = m333
          have hIm333 := zi_up hmm333 hIm329 hc0 zb_28_45 (by omega) (by omega)
          have hFm333 := zfr_up hmm333 hFm329 hc0 rfl
          have hRKNm333 := zR_KN_fr (zdis_fr (zfr_up hmm333 (zfr_rf [(28, 46)] _) hc0 rfl) rfl) hRKNm329
          have hRNSm333 := zR_NS_fr (zdis_fr (zfr_up hmm333 (zfr_rf [(28, 46)] _) hc0 rfl) rfl) hRNSm329
          have hRTRm333 := zR_TR_fr (zdis_fr (zfr_up hmm333 (zfr_rf [(28, 46)] _) hc0 rfl) rfl) hRTRm329
          have hRWDm333 := zR_WD_fr (zdis_fr (zfr_up hmm333 (zfr_rf [(28, 46)] _) hc0 rfl) rfl) hRWDm329
          have g334 := zwt_push hmm329 hmm333 hc0 (by omega) (by omega) (by omega)
          have g335 := zwt_bd hIm333 hc0
          refine zw_some ?_
          refine zw_b (by omega) ?_
          generalize hmm336 : zu_up m333 a0 50 1 = m336
          have hIm336 := zi_up hmm336 hIm333 hc0 zb_28_50 (by omega) (by omega)
          have hFm336 := zfr_up hmm336 hFm333 hc0 rfl
          have g337 := zwt_fr (zdis_fr (zfr_up hmm336 (zfr_rf [(28, 51)] _) hc0 rfl) rfl)
          have hRKNm336 := zR_KN_fr (zdis_fr (zfr_up hmm336 (zfr_rf [(28, 51)] _) hc0 rfl) rfl) hRKNm333
          have hRNSm336 := zR_NS_fr (zdis_fr (zfr_up hmm336 (zfr_rf [(28, 51)] _) hc0 rfl) rfl) hRNSm333
          have hRTRm336 := zR_TR_fr (zdis_fr (zfr_up hmm336 (zfr_rf [(28, 51)] _) hc0 rfl) rfl) hRTRm333
          have hRWDm336 := zR_WD_fr (zdis_fr (zfr_up hmm336 (zfr_rf [(28, 51)] _) hc0 rfl) rfl) hRWDm333
          refine zw_bd (zw_mono (zk_89 n hIm336 hc0 hRNSm336 hRWDm336) (fun v339 m338 hqm338 => ?_))
          obtain ⟨hIm338, hfm338, hvm338⟩ := hqm338
          have hFm338 := zfr_tr hFm336 hfm338 rfl
          obtain ⟨hRNSm338, hRTRm338, hRWDm338, hvm338⟩ := hvm338
          have g340 := zwt_fr (zdis_fr hfm338 rfl)
          have hRKNm338 := zR_KN_fr (zdis_fr hfm338 rfl) hRKNm336
          have g341 := zwt_bd hIm338 hc0
          have s342 := hRNSm338 a0 hc0
          have s343 := hRTRm338 a0 hc0
          refine zw_b (by omega) ?_
          have r344 : 0 ≤ (m338 a0 7) ∧ (m338 a0 7) ≤ 700 := zi_rd hIm338 hc0 zb_28_7
          have r345 : 0 ≤ (m338 a0 8) ∧ (m338 a0 8) ≤ 6 := zi_rd hIm338 hc0 zb_28_8
          have r346 : 0 ≤ (m338 a0 21) ∧ (m338 a0 21) ≤ 64 := zi_rd hIm338 hc0 zb_28_21
          have e347 : (m338 a0 21) = (m0 a0 21) := (Eq.trans (zfr_ap hfm338 hc0 rfl) (Eq.trans (zs_ne hmm336 (Or.inr (by decide))) (Eq.trans (zs_ne hmm333 (Or.inr (by decide))) (Eq.trans (zs_ne hmm329 (Or.inl (zc_ne hc0 zq_211 (by decide)))) (zs_ne hmm324 (Or.inr (by decide)))))))
          have r348 : 0 ≤ (m338 a0 48) ∧ (m338 a0 48) ≤ 64 := zi_rd hIm338 hc0 zb_28_48
          have e349 : (m338 a0 48) = (m0 a0 48) := (Eq.trans (zfr_ap hfm338 hc0 rfl) (Eq.trans (zs_ne hmm336 (Or.inr (by decide))) (Eq.trans (zs_ne hmm333 (Or.inr (by decide))) (Eq.trans (zs_ne hmm329 (Or.inl (zc_ne hc0 zq_211 (by decide)))) (zs_ne hmm324 (Or.inr (by decide)))))))
          have r350 : 0 ≤ (m338 a0 46) ∧ (m338 a0 46) ≤ 96 := zi_rd hIm338 hc0 zb_28_46
          have e351 : (m338 a0 46) = (m0 a0 46) := (Eq.trans (zfr_ap hfm338 hc0 rfl) (Eq.trans (zs_ne hmm336 (Or.inr (by decide))) (Eq.trans (zs_ne hmm333 (Or.inr (by decide))) (Eq.trans (zs_ne hmm329 (Or.inl (zc_ne hc0 zq_211 (by decide)))) (zs_ne hmm324 (Or.inr (by decide)))))))
          have r352 : 0 ≤ (m338 a0 49) ∧ (m338 a0 49) ≤ 1 := zi_rd hIm338 hc0 zb_28_49
          have e353 : (m338 a0 49) = (m0 a0 49) := (Eq.trans (zfr_ap hfm338 hc0 rfl) (Eq.trans (zs_ne hmm336 (Or.inr (by decide))) (Eq.trans (zs_ne hmm333 (Or.inr (by decide))) (Eq.trans (zs_ne hmm329 (Or.inl (zc_ne hc0 zq_211 (by decide)))) (zs_ne hmm324 (Or.inr (by decide)))))))
          have r354 : 0 ≤ (m338 a0 45) ∧ (m338 a0 45) ≤ 96 := zi_rd hIm338 hc0 zb_28_45
          have e355 : (m338 a0 45) = (zu_w32 ((m329 a0 45) + 1)) := (Eq.trans (zfr_ap hfm338 hc0 rfl) (Eq.trans (zs_ne hmm336 (Or.inr (by decide))) (zs_eq hmm333)))
          have r356 : 0 ≤ (m338 a0 47) ∧ (m338 a0 47) ≤ 8 := zi_rd hIm338 hc0 zb_28_47
          have e357 : (m338 a0 47) = (zu_w32 ((m0 a0 47) + 1)) := (Eq.trans (zfr_ap hfm338 hc0 rfl) (Eq.trans (zs_ne hmm336 (Or.inr (by decide))) (Eq.trans (zs_ne hmm333 (Or.inr (by decide))) (Eq.trans (zs_ne hmm329 (Or.inl (zc_ne hc0 zq_211 (by decide)))) (zs_eq hmm324)))))
          exact zw_some ⟨hIm338, hFm338, hRKNm338, hRNSm338, hRTRm338, hRWDm338, ⟨by omega, by omega⟩, by omega, by omega, by omega, by omega, by omega, by omega⟩
        · refine zw_bd (zw_eq (zu_call_at (zt_T n) (zm_85 n) (zdp_85 n) _ _ _ _ _ rfl (zr_85_0 n _ _ a0 2 m0)) ?_)
          generalize hmm358 : zu_up m0 a0 4 2 = m358
          have hIm358 := zi_up hmm358 hIm0 hc0 zb_28_4 (by omega) (by omega)
          have hFm358 := zfr_up hmm358 hFm0 hc0 rfl
          have g359 := zwt_fr (zdis_fr (zfr_up hmm358 (zfr_rf [(28, 5)] _) hc0 rfl) rfl)
          have hRKNm358 := zR_KN_fr (zdis_fr (zfr_up hmm358 (zfr_rf [(28, 5)] _) hc0 rfl) rfl) hRKNm0
          have hRNSm358 := zR_NS_fr (zdis_fr (zfr_up hmm358 (zfr_rf [(28, 5)] _) hc0 rfl) rfl) hRNSm0
          have hRTRm358 := zR_TR_fr (zdis_fr (zfr_up hmm358 (zfr_rf [(28, 5)] _) hc0 rfl) rfl) hRTRm0
          have hRWDm358 := zR_WD_fr (zdis_fr (zfr_up hmm358 (zfr_rf [(28, 5)] _) hc0 rfl) rfl) hRWDm0
          have r360 : 0 ≤ (m358 a0 10) ∧ (m358 a0 10) ≤ 700 := zi_rd hIm358 hc0 zb_28_10
          generalize hmm361 : zu_up m358 a0 5 (m358 a0 10) = m361
          have hIm361 := zi_up hmm361 hIm358 hc0 zb_28_5 (by omega) (by omega)
          have hFm361 := zfr_up hmm361 hFm358 hc0 rfl
          have g362 := zwt_fr (zdis_fr (zfr_up hmm361 (zfr_rf [(28, 6)] _) hc0 rfl) rfl)
          have hRKNm361 := zR_KN_fr (zdis_fr (zfr_up hmm361 (zfr_rf [(28, 6)] _) hc0 rfl) rfl) hRKNm358
          have hRNSm361 := zR_NS_fr (zdis_fr (zfr_up hmm361 (zfr_rf [(28, 6)] _) hc0 rfl) rfl) hRNSm358
          have hRTRm361 := zR_TR_fr (zdis_fr (zfr_up hmm361 (zfr_rf [(28, 6)] _) hc0 rfl) rfl) hRTRm358
          have hRWDm361 := zR_WD_fr (zdis_fr (zfr_up hmm361 (zfr_rf [(28, 6)] _) hc0 rfl) rfl) hRWDm358
          refine zw_b (by omega) ?_
          refine zw_some ?_
          refine zw_b (by omega) ?_
          have r363 : 0 ≤ (m361 a0 7) ∧ (m361 a0 7) ≤ 700 := zi_rd hIm361 hc0 zb_28_7
          have r364 : 0 ≤ (m361 a0 8) ∧ (m361 a0 8) ≤ 6 := zi_rd hIm361 hc0 zb_28_8
          have e365 : (m361 a0 8) = (m0 a0 8) := (Eq.trans (zs_ne hmm361 (Or.inr (by decide))) (zs_ne hmm358 (Or.inr (by decide))))
          have r366 : 0 ≤ (m361 a0 21) ∧ (m361 a0 21) ≤ 64 := zi_rd hIm361 hc0 zb_28_21
          have e367 : (m361 a0 21) = (m0 a0 21) := (Eq.trans (zs_ne hmm361 (Or.inr (by decide))) (zs_ne hmm358 (Or.inr (by decide))))
          have r368 : 0 ≤ (m361 a0 48) ∧ (m361 a0 48) ≤ 64 := zi_rd hIm361 hc0 zb_28_48
          have e369 : (m361 a0 48) = (m0 a0 48) := (Eq.trans (zs_ne hmm361 (Or.inr (by decide))) (zs_ne hmm358 (Or.inr (by decide))))
          have r370 : 0 ≤ (m361 a0 46) ∧ (m361 a0 46) ≤ 96 := zi_rd hIm361 hc0 zb_28_46
          have e371 : (m361 a0 46) = (m0 a0 46) := (Eq.trans (zs_ne hmm361 (Or.inr (by decide))) (zs_ne hmm358 (Or.inr (by decide))))
          have r372 : 0 ≤ (m361 a0 49) ∧ (m361 a0 49) ≤ 1 := zi_rd hIm361 hc0 zb_28_49
          have e373 : (m361 a0 49) = (m0 a0 49) := (Eq.trans (zs_ne hmm361 (Or.inr (by decide))) (zs_ne hmm358 (Or.inr (by decide))))
          have r374 : 0 ≤ (m361 a0 45) ∧ (m361 a0 45) ≤ 96 := zi_rd hIm361 hc0 zb_28_45
          have e375 : (m361 a0 45) = (m0 a0 45) := (Eq.trans (zs_ne hmm361 (Or.inr (by decide))) (zs_ne hmm358 (Or.inr (by decide))))
          have r376 : 0 ≤ (m361 a0 47) ∧ (m361 a0 47) ≤ 8 := zi_rd hIm361 hc0 zb_28_47
          have e377 : (m361 a0 47) = (m0 a0 47) := (Eq.trans (zs_ne hmm361 (Or.inr (by decide))) (zs_ne hmm358 (Or.inr (by decide))))
          exact zw_some ⟨hIm361, hFm361, hRKNm361, hRNSm361, hRTRm361, hRWDm361, ⟨by omega, by omega⟩, by omega, by omega, by omega, by omega, by omega, by omega⟩

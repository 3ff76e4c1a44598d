set_option maxHeartbeats 4000000 in
theorem zk_116 (n : Nat) {a0 : Int} {m0 : zu_m} (hIm0 : zi_I m0) (hc0 : zcls a0 = 28)   (he0 : 1 ≤ m0 a0 49 ∧ m0 a0 49 ≤ 1) (hxp0 : (m0 a0 21) + znz m0 = (m0 a0 48)) (hxp1 : (m0 a0 45) = znz m0 + (m0 a0 47)) (hxp2 : (m0 a0 46) = zbi m0) (hxp3 : (m0 a0 49) = 1) (hRKNm0 : zR_KN m0) (hRNSm0 : zR_NS m0) (hRTRm0 : zR_TR m0) (hRWDm0 : zR_WD m0) : zw (zu_call (zt_T n) 116 [(40, a0)] m0) (fun v m => zi_I m ∧ zfr [(28, 5), (28, 6), (28, 8), (28, 9), (28, 10), (28, 11), (28, 22), (28, 46), (28, 47), (28, 48), (28, 49), (28, 50), (28, 51), (117, 0), (118, 0), (119, 0), (120, 0), (121, 0)] m0 m ∧ zR_KN m ∧ zR_NS m ∧ zR_TR m ∧ zR_WD m ∧ (0 ≤ v ∧ v ≤ 1) ∧ ((m0 a0 7) ≤ (m a0 7)) ∧ (v = 1 → ((m0 a0 8) ≠ 0 ∧ ((m a0 8) = 0 ∨ (m0 a0 7) < (m a0 7)))) ∧ (v = 1 → (m a0 21) + znz m = (m a0 48)) ∧ (v = 1 → (m a0 46) + (m a0 49) = zbi m + 1) ∧ (v = 1 → (m a0 45) = znz m + (m a0 47)) ∧ (v = 1 → ((m a0 49) = 0 → 1 ≤ (m a0 21))) ∧ (v = 1 → (m a0 4) = (m0 a0 4)) ∧ (v = 0 → (m a0 4) ≠ 0)) := by
  have hFm0 : zfr [(28, 5), (28, 6), (28, 8), (28, 9), (28, 10), (28, 11), (28, 22), (28, 46), (28, 47), (28, 48), (28, 49), (28, 50), (28, 51), (117, 0), (118, 0), (119, 0), (120, 0), (121, 0)] m0 m0 := zfr_rf _ _
  have r1 : 0 ≤ (m0 a0 21) ∧ (m0 a0 21) ≤ 64 := zi_rd hIm0 hc0 zb_28_21
  have r2 : 0 ≤ (m0 a0 48) ∧ (m0 a0 48) ≤ 64 := zi_rd hIm0 hc0 zb_28_48
  have r3 : 0 ≤ (m0 a0 45) ∧ (m0 a0 45) ≤ 96 := zi_rd hIm0 hc0 zb_28_45
  have r4 : 0 ≤ (m0 a0 47) ∧ (m0 a0 47) ≤ 8 := zi_rd hIm0 hc0 zb_28_47
  have r5 : 0 ≤ (m0 a0 46) ∧ (m0 a0 46) ≤ 96 := zi_rd hIm0 hc0 zb_28_46
  have g6 := zwt_bd hIm0 hc0
  have s7 := hRNSm0 a0 hc0
  have s8 := hRTRm0 a0 hc0
  refine zw_eq (zu_call_at (zt_T n) (zm_116 n) (zdp_116 n) _ _ _ _ _ rfl (zr_116_0 n _ _ a0 m0)) ?_
  refine zw_bd (zw_eq (zu_call_at (zt_T n) (zm_93 n) (zdp_93 n) _ _ _ _ _ rfl (zr_93_0 n _ _ a0 40 m0)) ?_)
  have r9 : 0 ≤ (m0 a0 8) ∧ (m0 a0 8) ≤ 6 := zi_rd hIm0 hc0 zb_28_8
  refine zw_ite (fun h10 => ?_) (fun h10 => ?_)
  · refine zw_b (by omega) ?_
    refine zw_some ?_
    refine zw_ite (fun h11 => ?_) (fun h11 => ?_)
    · refine zw_bd (zw_eq (zu_call_at (zt_T n) (zm_92 n) (zdp_92 n) _ _ _ _ _ rfl (zr_92_0 n _ _ a0 25 m0)) ?_)
      refine zw_ite (fun h12 => ?_) (fun h12 => ?_)
      · refine zw_b (by omega) ?_
        refine zw_some ?_
        refine zw_ite (fun h13 => ?_) (fun h13 => ?_)
        · refine zw_bd (zw_eq (zu_call_at (zt_T n) (zm_115 n) (zdp_115 n) _ _ _ _ _ rfl (zr_115_0 n _ _ a0 m0)) ?_)
          refine zw_ite (fun h14 => ?_) (fun h14 => ?_)
          · refine zw_some ?_
            refine zw_ite (fun h15 => ?_) (fun h15 => ?_)
            · exfalso; omega
            · refine zw_ite (fun h16 => ?_) (fun h16 => ?_)
              · refine zw_ite (fun h17 => ?_) (fun h17 => ?_)
                · exfalso; omega
                · refine zw_ite (fun h18 => ?_) (fun h18 => ?_)
                  · refine zw_bd (zw_eq (zu_call_at (zt_T n) (zm_113 n) (zdp_113 n) _ _ _ _ _ rfl (zr_113_0 n _ _ a0 m0)) ?_)
                    refine zw_ite (fun h19 => ?_) (fun h19 => ?_)
                    · have w20 := zu_w32_id (z := (m0 a0 48) + 1) (by omega) (by omega)
                      generalize hmm21 : zu_up m0 a0 48 (zu_w32 ((m0 a0 48) + 1)) = m21
                      have hIm21 := zi_up hmm21 hIm0 hc0 zb_28_48 (by omega) (by omega)
                      have hFm21 := zfr_up hmm21 hFm0 hc0 rfl
                      have g22 := zwt_fr (zdis_fr (zfr_up hmm21 (zfr_rf [(28, 49)] _) hc0 rfl) rfl)
                      have hRKNm21 := zR_KN_fr (zdis_fr (zfr_up hmm21 (zfr_rf [(28, 49)] _) hc0 rfl) rfl) hRKNm0
                      have hRNSm21 := zR_NS_fr (zdis_fr (zfr_up hmm21 (zfr_rf [(28, 49)] _) hc0 rfl) rfl) hRNSm0
                      have hRTRm21 := zR_TR_fr (zdis_fr (zfr_up hmm21 (zfr_rf [(28, 49)] _) hc0 rfl) rfl) hRTRm0
                      have hRWDm21 := zR_WD_fr (zdis_fr (zfr_up hmm21 (zfr_rf [(28, 49)] _) hc0 rfl) rfl) hRWDm0
                      refine zw_b (by omega) ?_
                      refine zw_some ?_
                      refine zw_ite (fun h23 => ?_) (fun h23 => ?_)
                      · refine zw_ite (fun h24 => ?_) (fun h24 => ?_)
                        · refine zw_ite (fun h25 => ?_) (fun h25 => ?_)
                          · have r26 : (-2147483648) ≤ (m21 a0 9) ∧ (m21 a0 9) ≤ 2147483647 := zi_rd hIm21 hc0 zb_28_9
                            have e27 : (m21 a0 9) = (m0 a0 9) := (zs_ne hmm21 (Or.inr (by decide)))
                            have r28 : 0 ≤ (m21 a0 21) ∧ (m21 a0 21) ≤ 64 := zi_rd hIm21 hc0 zb_28_21
                            have e29 : (m21 a0 21) = (m0 a0 21) := (zs_ne hmm21 (Or.inr (by decide)))
                            have r30 : 0 ≤ (m21 a0 46) ∧ (m21 a0 46) ≤ 96 := zi_rd hIm21 hc0 zb_28_46
                            have e31 : (m21 a0 46) = (m0 a0 46) := (zs_ne hmm21 (Or.inr (by decide)))
                            refine zw_bd (zw_mono (zk_110 n hIm21 hc0 ⟨by omega, by omega⟩ ⟨by omega, by omega⟩ ⟨by omega, by omega⟩ (by omega) (by omega) (by omega) (by omega) (by omega) hRKNm21) (fun v33 m32 hqm32 => ?_))
                            obtain ⟨hIm32, hfm32, hvm32⟩ := hqm32
                            have hFm32 := zfr_tr hFm21 hfm32 rfl
                            obtain ⟨hRKNm32, hvm32⟩ := hvm32
                            have g34 := zwt_fr (zdis_fr hfm32 rfl)
                            have hRNSm32 := zR_NS_fr (zdis_fr hfm32 rfl) hRNSm21
                            have hRTRm32 := zR_TR_fr (zdis_fr hfm32 rfl) hRTRm21
                            have hRWDm32 := zR_WD_fr (zdis_fr hfm32 rfl) hRWDm21
                            have g35 := zwt_bd hIm32 hc0
                            have s36 := hRNSm32 a0 hc0
                            have s37 := hRTRm32 a0 hc0
                            refine zw_b (by omega) ?_
                            generalize hmm38 : zu_up m32 a0 49 0 = m38
                            have hIm38 := zi_up hmm38 hIm32 hc0 zb_28_49 (by omega) (by omega)
                            have hFm38 := zfr_up hmm38 hFm32 hc0 rfl
                            have g39 := zwt_fr (zdis_fr (zfr_up hmm38 (zfr_rf [(28, 50)] _) hc0 rfl) rfl)
                            have hRKNm38 := zR_KN_fr (zdis_fr (zfr_up hmm38 (zfr_rf [(28, 50)] _) hc0 rfl) rfl) hRKNm32
                            have hRNSm38 := zR_NS_fr (zdis_fr (zfr_up hmm38 (zfr_rf [(28, 50)] _) hc0 rfl) rfl) hRNSm32
                            have hRTRm38 := zR_TR_fr (zdis_fr (zfr_up hmm38 (zfr_rf [(28, 50)] _) hc0 rfl) rfl) hRTRm32
                            have hRWDm38 := zR_WD_fr (zdis_fr (zfr_up hmm38 (zfr_rf [(28, 50)] _) hc0 rfl) rfl) hRWDm32
                            refine zw_bd (zw_mono (zk_89 n hIm38 hc0 hRNSm38 hRWDm38) (fun v41 m40 hqm40 => ?_))
                            obtain ⟨hIm40, hfm40, hvm40⟩ := hqm40
                            have hFm40 := zfr_tr hFm38 hfm40 rfl
                            obtain ⟨hRNSm40, hRTRm40, hRWDm40, hvm40⟩ := hvm40
                            have g42 := zwt_fr (zdis_fr hfm40 rfl)
                            have hRKNm40 := zR_KN_fr (zdis_fr hfm40 rfl) hRKNm38
                            have g43 := zwt_bd hIm40 hc0
                            have s44 := hRNSm40 a0 hc0
                            have s45 := hRTRm40 a0 hc0
                            refine zw_b (by omega) ?_
                            have r46 : 0 ≤ (m40 a0 7) ∧ (m40 a0 7) ≤ 700 := zi_rd hIm40 hc0 zb_28_7
                            have r47 : 0 ≤ (m40 a0 8) ∧ (m40 a0 8) ≤ 6 := zi_rd hIm40 hc0 zb_28_8
                            have r48 : 0 ≤ (m40 a0 21) ∧ (m40 a0 21) ≤ 64 := zi_rd hIm40 hc0 zb_28_21
                            have e49 : (m40 a0 21) = (m32 a0 21) := (Eq.trans (zfr_ap hfm40 hc0 rfl) (zs_ne hmm38 (Or.inr (by decide))))
                            have r50 : 0 ≤ (m40 a0 48) ∧ (m40 a0 48) ≤ 64 := zi_rd hIm40 hc0 zb_28_48
                            have e51 : (m40 a0 48) = (zu_w32 ((m0 a0 48) + 1)) := (Eq.trans (zfr_ap hfm40 hc0 rfl) (Eq.trans (zs_ne hmm38 (Or.inr (by decide))) (Eq.trans (zfr_ap hfm32 hc0 rfl) (zs_eq hmm21))))
                            have r52 : 0 ≤ (m40 a0 46) ∧ (m40 a0 46) ≤ 96 := zi_rd hIm40 hc0 zb_28_46
                            have e53 : (m40 a0 46) = (m32 a0 46) := (Eq.trans (zfr_ap hfm40 hc0 rfl) (zs_ne hmm38 (Or.inr (by decide))))
                            have r54 : 0 ≤ (m40 a0 49) ∧ (m40 a0 49) ≤ 1 := zi_rd hIm40 hc0 zb_28_49
                            have e55 : (m40 a0 49) = 0 := (Eq.trans (zfr_ap hfm40 hc0 rfl) (zs_eq hmm38))
                            have r56 : 0 ≤ (m40 a0 45) ∧ (m40 a0 45) ≤ 96 := zi_rd hIm40 hc0 zb_28_45
                            have e57 : (m40 a0 45) = (m0 a0 45) := (Eq.trans (zfr_ap hfm40 hc0 rfl) (Eq.trans (zs_ne hmm38 (Or.inr (by decide))) (Eq.trans (zfr_ap hfm32 hc0 rfl) (zs_ne hmm21 (Or.inr (by decide))))))
                            have r58 : 0 ≤ (m40 a0 47) ∧ (m40 a0 47) ≤ 8 := zi_rd hIm40 hc0 zb_28_47
                            have e59 : (m40 a0 47) = (m0 a0 47) := (Eq.trans (zfr_ap hfm40 hc0 rfl) (Eq.trans (zs_ne hmm38 (Or.inr (by decide))) (Eq.trans (zfr_ap hfm32 hc0 rfl) (zs_ne hmm21 (Or.inr (by decide))))))
                            have r60 : (-2147483648) ≤ (m40 a0 4) ∧ (m40 a0 4) ≤ 2147483647 := zi_rd hIm40 hc0 zb_28_4
                            exact zw_some ⟨hIm40, hFm40, hRKNm40, hRNSm40, hRTRm40, hRWDm40, ⟨by omega, by omega⟩, by omega, by omega, by omega, by omega, by omega, by omega, by omega, by omega⟩
                          · exfalso; omega
                        · exfalso; omega
                      · exfalso; omega
                    · refine zw_bd (zw_eq (zu_call_at (zt_T n) (zm_85 n) (zdp_85 n) _ _ _ _ _ rfl (zr_85_0 n _ _ a0 2 m0)) ?_)
                      generalize hmm61 : zu_up m0 a0 4 2 = m61
                      have hIm61 := zi_up hmm61 hIm0 hc0 zb_28_4 (by omega) (by omega)
                      have hFm61 := zfr_up hmm61 hFm0 hc0 rfl
                      have g62 := zwt_fr (zdis_fr (zfr_up hmm61 (zfr_rf [(28, 5)] _) hc0 rfl) rfl)
                      have hRKNm61 := zR_KN_fr (zdis_fr (zfr_up hmm61 (zfr_rf [(28, 5)] _) hc0 rfl) rfl) hRKNm0
                      have hRNSm61 := zR_NS_fr (zdis_fr (zfr_up hmm61 (zfr_rf [(28, 5)] _) hc0 rfl) rfl) hRNSm0
                      have hRTRm61 := zR_TR_fr (zdis_fr (zfr_up hmm61 (zfr_rf [(28, 5)] _) hc0 rfl) rfl) hRTRm0
                      have hRWDm61 := zR_WD_fr (zdis_fr (zfr_up hmm61 (zfr_rf [(28, 5)] _) hc0 rfl) rfl) hRWDm0
                      have hRLRm61 := zLR_wr (zone_190 hc0) hmm61 (by decide)
                      have r63 : 0 ≤ (m61 a0 10) ∧ (m61 a0 10) ≤ 700 := zi_rd hIm61 hc0 zb_28_10
                      generalize hmm64 : zu_up m61 a0 5 (m61 a0 10) = m64
                      have hIm64 := zi_up hmm64 hIm61 hc0 zb_28_5 (by omega) (by omega)
                      have hFm64 := zfr_up hmm64 hFm61 hc0 rfl
                      have g65 := zwt_fr (zdis_fr (zfr_up hmm64 (zfr_rf [(28, 6)] _) hc0 rfl) rfl)
                      have hRKNm64 := zR_KN_fr (zdis_fr (zfr_up hmm64 (zfr_rf [(28, 6)] _) hc0 rfl) rfl) hRKNm61
                      have hRLRm64 := zR_LR_fr (zdis_fr (zfr_up hmm64 (zfr_rf [(28, 6)] _) hc0 rfl) rfl) hRLRm61
                      have hRNSm64 := zR_NS_fr (zdis_fr (zfr_up hmm64 (zfr_rf [(28, 6)] _) hc0 rfl) rfl) hRNSm61
                      have hRTRm64 := zR_TR_fr (zdis_fr (zfr_up hmm64 (zfr_rf [(28, 6)] _) hc0 rfl) rfl) hRTRm61
                      have hRWDm64 := zR_WD_fr (zdis_fr (zfr_up hmm64 (zfr_rf [(28, 6)] _) hc0 rfl) rfl) hRWDm61
                      refine zw_b (by omega) ?_
                      refine zw_some ?_
                      refine zw_b (by omega) ?_
                      refine zw_some ?_
                      refine zw_ite (fun h66 => ?_) (fun h66 => ?_)
                      · exfalso; omega
                      · refine zw_b (by omega) ?_
                        have r67 : 0 ≤ (m64 a0 7) ∧ (m64 a0 7) ≤ 700 := zi_rd hIm64 hc0 zb_28_7
                        have r68 : 0 ≤ (m64 a0 8) ∧ (m64 a0 8) ≤ 6 := zi_rd hIm64 hc0 zb_28_8
                        have e69 : (m64 a0 8) = (m0 a0 8) := (Eq.trans (zs_ne hmm64 (Or.inr (by decide))) (zs_ne hmm61 (Or.inr (by decide))))
                        have r70 : 0 ≤ (m64 a0 21) ∧ (m64 a0 21) ≤ 64 := zi_rd hIm64 hc0 zb_28_21
                        have e71 : (m64 a0 21) = (m0 a0 21) := (Eq.trans (zs_ne hmm64 (Or.inr (by decide))) (zs_ne hmm61 (Or.inr (by decide))))
                        have r72 : 0 ≤ (m64 a0 48) ∧ (m64 a0 48) ≤ 64 := zi_rd hIm64 hc0 zb_28_48
                        have e73 : (m64 a0 48) = (m0 a0 48) := (Eq.trans (zs_ne hmm64 (Or.inr (by decide))) (zs_ne hmm61 (Or.inr (by decide))))
                        have r74 : 0 ≤ (m64 a0 46) ∧ (m64 a0 46) ≤ 96 := zi_rd hIm64 hc0 zb_28_46
                        have e75 : (m64 a0 46) = (m0 a0 46) := (Eq.trans (zs_ne hmm64 (Or.inr (by decide))) (zs_ne hmm61 (Or.inr (by decide))))
                        have r76 : 0 ≤ (m64 a0 49) ∧ (m64 a0 49) ≤ 1 := zi_rd hIm64 hc0 zb_28_49
                        have e77 : (m64 a0 49) = (m0 a0 49) := (Eq.trans (zs_ne hmm64 (Or.inr (by decide))) (zs_ne hmm61 (Or.inr (by decide))))
                        have r78 : 0 ≤ (m64 a0 45) ∧ (m64 a0 45) ≤ 96 := zi_rd hIm64 hc0 zb_28_45
                        have e79 : (m64 a0 45) = (m0 a0 45) := (Eq.trans (zs_ne hmm64 (Or.inr (by decide))) (zs_ne hmm61 (Or.inr (by decide))))
                        have r80 : 0 ≤ (m64 a0 47) ∧ (m64 a0 47) ≤ 8 := zi_rd hIm64 hc0 zb_28_47
                        have e81 : (m64 a0 47) = (m0 a0 47) := (Eq.trans (zs_ne hmm64 (Or.inr (by decide))) (zs_ne hmm61 (Or.inr (by decide))))
                        have r82 : (-2147483648) ≤ (m64 a0 4) ∧ (m64 a0 4) ≤ 2147483647 := zi_rd hIm64 hc0 zb_28_4
                        have e83 : (m64 a0 4) = 2 := (Eq.trans (zs_ne hmm64 (Or.inr (by decide))) (zs_eq hmm61))
                        exact zw_some ⟨hIm64, hFm64, hRKNm64, hRNSm64, hRTRm64, hRWDm64, ⟨by omega, by omega⟩, by omega, by omega, by omega, by omega, by omega, by omega, by omega, by omega⟩
                  · refine zw_bd (zw_eq (zu_call_at (zt_T n) (zm_85 n) (zdp_85 n) _ _ _ _ _ rfl (zr_85_0 n _ _ a0 2 m0)) ?_)
                    generalize hmm84 : zu_up m0 a0 4 2 = m84
                    have hIm84 := zi_up hmm84 hIm0 hc0 zb_28_4 (by omega) (by omega)
                    have hFm84 := zfr_up hmm84 hFm0 hc0 rfl
                    have g85 := zwt_fr (zdis_fr (zfr_up hmm84 (zfr_rf [(28, 5)] _) hc0 rfl) rfl)
                    have hRKNm84 := zR_KN_fr (zdis_fr (zfr_up hmm84 (zfr_rf [(28, 5)] _) hc0 rfl) rfl) hRKNm0
                    have hRNSm84 := zR_NS_fr (zdis_fr (zfr_up hmm84 (zfr_rf [(28, 5)] _) hc0 rfl) rfl) hRNSm0
                    have hRTRm84 := zR_TR_fr (zdis_fr (zfr_up hmm84 (zfr_rf [(28, 5)] _) hc0 rfl) rfl) hRTRm0
                    have hRWDm84 := zR_WD_fr (zdis_fr (zfr_up hmm84 (zfr_rf [(28, 5)] _) hc0 rfl) rfl) hRWDm0
                    have hRLRm84 := zLR_wr (zone_190 hc0) hmm84 (by decide)
                    have r86 : 0 ≤ (m84 a0 10) ∧ (m84 a0 10) ≤ 700 := zi_rd hIm84 hc0 zb_28_10
                    generalize hmm87 : zu_up m84 a0 5 (m84 a0 10) = m87
                    have hIm87 := zi_up hmm87 hIm84 hc0 zb_28_5 (by omega) (by omega)
                    have hFm87 := zfr_up hmm87 hFm84 hc0 rfl
                    have g88 := zwt_fr (zdis_fr (zfr_up hmm87 (zfr_rf [(28, 6)] _) hc0 rfl) rfl)
                    have hRKNm87 := zR_KN_fr (zdis_fr (zfr_up hmm87 (zfr_rf [(28, 6)] _) hc0 rfl) rfl) hRKNm84
                    have hRLRm87 := zR_LR_fr (zdis_fr (zfr_up hmm87 (zfr_rf [(28, 6)] _) hc0 rfl) rfl) hRLRm84
                    have hRNSm87 := zR_NS_fr (zdis_fr (zfr_up hmm87 (zfr_rf [(28, 6)] _) hc0 rfl) rfl) hRNSm84
                    have hRTRm87 := zR_TR_fr (zdis_fr (zfr_up hmm87 (zfr_rf [(28, 6)] _) hc0 rfl) rfl) hRTRm84
                    have hRWDm87 := zR_WD_fr (zdis_fr (zfr_up hmm87 (zfr_rf [(28, 6)] _) hc0 rfl) rfl) hRWDm84
                    refine zw_b (by omega) ?_
                    refine zw_some ?_
                    refine zw_b (by omega) ?_
                    have r89 : 0 ≤ (m87 a0 7) ∧ (m87 a0 7) ≤ 700 := zi_rd hIm87 hc0 zb_28_7
                    have r90 : 0 ≤ (m87 a0 8) ∧ (m87 a0 8) ≤ 6 := zi_rd hIm87 hc0 zb_28_8
                    have e91 : (m87 a0 8) = (m0 a0 8) := (Eq.trans (zs_ne hmm87 (Or.inr (by decide))) (zs_ne hmm84 (Or.inr (by decide))))
                    have r92 : 0 ≤ (m87 a0 21) ∧ (m87 a0 21) ≤ 64 := zi_rd hIm87 hc0 zb_28_21
                    have e93 : (m87 a0 21) = (m0 a0 21) := (Eq.trans (zs_ne hmm87 (Or.inr (by decide))) (zs_ne hmm84 (Or.inr (by decide))))
                    have r94 : 0 ≤ (m87 a0 48) ∧ (m87 a0 48) ≤ 64 := zi_rd hIm87 hc0 zb_28_48
                    have e95 : (m87 a0 48) = (m0 a0 48) := (Eq.trans (zs_ne hmm87 (Or.inr (by decide))) (zs_ne hmm84 (Or.inr (by decide))))
                    have r96 : 0 ≤ (m87 a0 46) ∧ (m87 a0 46) ≤ 96 := zi_rd hIm87 hc0 zb_28_46
                    have e97 : (m87 a0 46) = (m0 a0 46) := (Eq.trans (zs_ne hmm87 (Or.inr (by decide))) (zs_ne hmm84 (Or.inr (by decide))))
                    have r98 : 0 ≤ (m87 a0 49) ∧ (m87 a0 49) ≤ 1 := zi_rd hIm87 hc0 zb_28_49
                    have e99 : (m87 a0 49) = (m0 a0 49) := (Eq.trans (zs_ne hmm87 (Or.inr (by decide))) (zs_ne hmm84 (Or.inr (by decide))))
                    have r100 : 0 ≤ (m87 a0 45) ∧ (m87 a0 45) ≤ 96 := zi_rd hIm87 hc0 zb_28_45
                    have e101 : (m87 a0 45) = (m0 a0 45) := (Eq.trans (zs_ne hmm87 (Or.inr (by decide))) (zs_ne hmm84 (Or.inr (by decide))))
                    have r102 : 0 ≤ (m87 a0 47) ∧ (m87 a0 47) ≤ 8 := zi_rd hIm87 hc0 zb_28_47
                    have e103 : (m87 a0 47) = (m0 a0 47) := (Eq.trans (zs_ne hmm87 (Or.inr (by decide))) (zs_ne hmm84 (Or.inr (by decide))))
                    have r104 : (-2147483648) ≤ (m87 a0 4) ∧ (m87 a0 4) ≤ 2147483647 := zi_rd hIm87 hc0 zb_28_4
                    have e105 : (m87 a0 4) = 2 := (Eq.trans (zs_ne hmm87 (Or.inr (by decide))) (zs_eq hmm84))
                    exact zw_some ⟨hIm87, hFm87, hRKNm87, hRNSm87, hRTRm87, hRWDm87, ⟨by omega, by omega⟩, by omega, by omega, by omega, by omega, by omega, by omega, by omega, by omega⟩
              · refine zw_bd (zw_eq (zu_call_at (zt_T n) (zm_85 n) (zdp_85 n) _ _ _ _ _ rfl (zr_85_0 n _ _ a0 1 m0)) ?_)
                generalize hmm106 : zu_up m0 a0 4 1 = m106
                have hIm106 := zi_up hmm106 hIm0 hc0 zb_28_4 (by omega) (by omega)
                have hFm106 := zfr_up hmm106 hFm0 hc0 rfl
                have g107 := zwt_fr (zdis_fr (zfr_up hmm106 (zfr_rf [(28, 5)] _) hc0 rfl) rfl)
                have hRKNm106 := zR_KN_fr (zdis_fr (zfr_up hmm106 (zfr_rf [(28, 5)] _) hc0 rfl) rfl) hRKNm0
                have hRNSm106 := zR_NS_fr (zdis_fr (zfr_up hmm106 (zfr_rf [(28, 5)] _) hc0 rfl) rfl) hRNSm0
                have hRTRm106 := zR_TR_fr (zdis_fr (zfr_up hmm106 (zfr_rf [(28, 5)] _) hc0 rfl) rfl) hRTRm0
                have hRWDm106 := zR_WD_fr (zdis_fr (zfr_up hmm106 (zfr_rf [(28, 5)] _) hc0 rfl) rfl) hRWDm0
                have hRLRm106 := zLR_wr (zone_190 hc0) hmm106 (by decide)
                have r108 : 0 ≤ (m106 a0 10) ∧ (m106 a0 10) ≤ 700 := zi_rd hIm106 hc0 zb_28_10
                generalize hmm109 : zu_up m106 a0 5 (m106 a0 10) = m109
                have hIm109 := zi_up hmm109 hIm106 hc0 zb_28_5 (by omega) (by omega)
                have hFm109 := zfr_up hmm109 hFm106 hc0 rfl
                have g110 := zwt_fr (zdis_fr (zfr_up hmm109 (zfr_rf [(28, 6)] _) hc0 rfl) rfl)
                have hRKNm109 := zR_KN_fr (zdis_fr (zfr_up hmm109 (zfr_rf [(28, 6)] _) hc0 rfl) rfl) hRKNm106
                have hRLRm109 := zR_LR_fr (zdis_fr (zfr_up hmm109 (zfr_rf [(28, 6)] _) hc0 rfl) rfl) hRLRm106
                have hRNSm109 := zR_NS_fr (zdis_fr (zfr_up hmm109 (zfr_rf [(28, 6)] _) hc0 rfl) rfl) hRNSm106
                have hRTRm109 := zR_TR_fr (zdis_fr (zfr_up hmm109 (zfr_rf [(28, 6)] _) hc0 rfl) rfl) hRTRm106
                have hRWDm109 := zR_WD_fr (zdis_fr (zfr_up hmm109 (zfr_rf [(28, 6)] _) hc0 rfl) rfl) hRWDm106
                refine zw_b (by omega) ?_
                refine zw_some ?_
                refine zw_b (by omega) ?_
                have r111 : 0 ≤ (m109 a0 7) ∧ (m109 a0 7) ≤ 700 := zi_rd hIm109 hc0 zb_28_7
                have r112 : 0 ≤ (m109 a0 8) ∧ (m109 a0 8) ≤ 6 := zi_rd hIm109 hc0 zb_28_8
                have e113 : (m109 a0 8) = (m0 a0 8) := (Eq.trans (zs_ne hmm109 (Or.inr (by decide))) (zs_ne hmm106 (Or.inr (by decide))))
                have r114 : 0 ≤ (m109 a0 21) ∧ (m109 a0 21) ≤ 64 := zi_rd hIm109 hc0 zb_28_21
                have e115 : (m109 a0 21) = (m0 a0 21) := (Eq.trans (zs_ne hmm109 (Or.inr (by decide))) (zs_ne hmm106 (Or.inr (by decide))))
                have r116 : 0 ≤ (m109 a0 48) ∧ (m109 a0 48) ≤ 64 := zi_rd hIm109 hc0 zb_28_48
                have e117 : (m109 a0 48) = (m0 a0 48) := (Eq.trans (zs_ne hmm109 (Or.inr (by decide))) (zs_ne hmm106 (Or.inr (by decide))))
                have r118 : 0 ≤ (m109 a0 46) ∧ (m109 a0 46) ≤ 96 := zi_rd hIm109 hc0 zb_28_46
                have e119 : (m109 a0 46) = (m0 a0 46) := (Eq.trans (zs_ne hmm109 (Or.inr (by decide))) (zs_ne hmm106 (Or.inr (by decide))))
                have r120 : 0 ≤ (m109 a0 49) ∧ (m109 a0 49) ≤ 1 := zi_rd hIm109 hc0 zb_28_49
                have e121 : (m109 a0 49) = (m0 a0 49) := (Eq.trans (zs_ne hmm109 (Or.inr (by decide))) (zs_ne hmm106 (Or.inr (by decide))))
                have r122 : 0 ≤ (m109 a0 45) ∧ (m109 a0 45) ≤ 96 := zi_rd hIm109 hc0 zb_28_45
                have e123 : (m109 a0 45) = (m0 a0 45) := (Eq.trans (zs_ne hmm109 (Or.inr (by decide))) (zs_ne hmm106 (Or.inr (by decide))))
                have r124 : 0 ≤ (m109 a0 47) ∧ (m109 a0 47) ≤ 8 := zi_rd hIm109 hc0 zb_28_47
                have e125 : (m109 a0 47) = (m0 a0 47) := (Eq.trans (zs_ne hmm109 (Or.inr (by decide))) (zs_ne hmm106 (Or.inr (by decide))))
                have r126 : (-2147483648) ≤ (m109 a0 4) ∧ (m109 a0 4) ≤ 2147483647 := zi_rd hIm109 hc0 zb_28_4
                have e127 : (m109 a0 4) = 1 := (Eq.trans (zs_ne hmm109 (Or.inr (by decide))) (zs_eq hmm106))
                exact zw_some ⟨hIm109, hFm109, hRKNm109, hRNSm109, hRTRm109, hRWDm109, ⟨by omega, by omega⟩, by omega, by omega, by omega, by omega, by omega, by omega, by omega, by omega⟩
          · exfalso; omega
        · exfalso; omega
      · refine zw_ite (fun h128 => ?_) (fun h128 => ?_)
        · refine zw_b (by omega) ?_
          refine zw_some ?_
          refine zw_ite (fun h129 => ?_) (fun h129 => ?_)
          · refine zw_bd (zw_eq (zu_call_at (zt_T n) (zm_115 n) (zdp_115 n) _ _ _ _ _ rfl (zr_115_0 n _ _ a0 m0)) ?_)
            refine zw_ite (fun h130 => ?_) (fun h130 => ?_)
            · exfalso; omega
            · refine zw_ite (fun h131 => ?_) (fun h131 => ?_)
              · refine zw_some ?_
                refine zw_ite (fun h132 => ?_) (fun h132 => ?_)
                · exfalso; omega
                · refine zw_ite (fun h133 => ?_) (fun h133 => ?_)
                  · exfalso; omega
                  · refine zw_bd (zw_eq (zu_call_at (zt_T n) (zm_85 n) (zdp_85 n) _ _ _ _ _ rfl (zr_85_0 n _ _ a0 1 m0)) ?_)
                    generalize hmm134 : zu_up m0 a0 4 1 = m134
                    have hIm134 := zi_up hmm134 hIm0 hc0 zb_28_4 (by omega) (by omega)
                    have hFm134 := zfr_up hmm134 hFm0 hc0 rfl
                    have g135 := zwt_fr (zdis_fr (zfr_up hmm134 (zfr_rf [(28, 5)] _) hc0 rfl) rfl)
                    have hRKNm134 := zR_KN_fr (zdis_fr (zfr_up hmm134 (zfr_rf [(28, 5)] _) hc0 rfl) rfl) hRKNm0
                    have hRNSm134 := zR_NS_fr (zdis_fr (zfr_up hmm134 (zfr_rf [(28, 5)] _) hc0 rfl) rfl) hRNSm0
                    have hRTRm134 := zR_TR_fr (zdis_fr (zfr_up hmm134 (zfr_rf [(28, 5)] _) hc0 rfl) rfl) hRTRm0
                    have hRWDm134 := zR_WD_fr (zdis_fr (zfr_up hmm134 (zfr_rf [(28, 5)] _) hc0 rfl) rfl) hRWDm0
                    have hRLRm134 := zLR_wr (zone_190 hc0) hmm134 (by decide)
                    have r136 : 0 ≤ (m134 a0 10) ∧ (m134 a0 10) ≤ 700 := zi_rd hIm134 hc0 zb_28_10
                    generalize hmm137 : zu_up m134 a0 5 (m134 a0 10) = m137
                    have hIm137 := zi_up hmm137 hIm134 hc0 zb_28_5 (by omega) (by omega)
                    have hFm137 := zfr_up hmm137 hFm134 hc0 rfl
                    have g138 := zwt_fr (zdis_fr (zfr_up hmm137 (zfr_rf [(28, 6)] _) hc0 rfl) rfl)
                    have hRKNm137 := zR_KN_fr (zdis_fr (zfr_up hmm137 (zfr_rf [(28, 6)] _) hc0 rfl) rfl) hRKNm134
                    have hRLRm137 := zR_LR_fr (zdis_fr (zfr_up hmm137 (zfr_rf [(28, 6)] _) hc0 rfl) rfl) hRLRm134
                    have hRNSm137 := zR_NS_fr (zdis_fr (zfr_up hmm137 (zfr_rf [(28, 6)] _) hc0 rfl) rfl) hRNSm134
                    have hRTRm137 := zR_TR_fr (zdis_fr (zfr_up hmm137 (zfr_rf [(28, 6)] _) hc0 rfl) rfl) hRTRm134
                    have hRWDm137 := zR_WD_fr (zdis_fr (zfr_up hmm137 (zfr_rf [(28, 6)] _) hc0 rfl) rfl) hRWDm134
                    refine zw_b (by omega) ?_
                    refine zw_some ?_
                    refine zw_b (by omega) ?_
                    have r139 : 0 ≤ (m137 a0 7) ∧ (m137 a0 7) ≤ 700 := zi_rd hIm137 hc0 zb_28_7
                    have r140 : 0 ≤ (m137 a0 8) ∧ (m137 a0 8) ≤ 6 := zi_rd hIm137 hc0 zb_28_8
                    have e141 : (m137 a0 8) = (m0 a0 8) := (Eq.trans (zs_ne hmm137 (Or.inr (by decide))) (zs_ne hmm134 (Or.inr (by decide))))
                    have r142 : 0 ≤ (m137 a0 21) ∧ (m137 a0 21) ≤ 64 := zi_rd hIm137 hc0 zb_28_21
                    have e143 : (m137 a0 21) = (m0 a0 21) := (Eq.trans (zs_ne hmm137 (Or.inr (by decide))) (zs_ne hmm134 (Or.inr (by decide))))
                    have r144 : 0 ≤ (m137 a0 48) ∧ (m137 a0 48) ≤ 64 := zi_rd hIm137 hc0 zb_28_48
                    have e145 : (m137 a0 48) = (m0 a0 48) := (Eq.trans (zs_ne hmm137 (Or.inr (by decide))) (zs_ne hmm134 (Or.inr (by decide))))
                    have r146 : 0 ≤ (m137 a0 46) ∧ (m137 a0 46) ≤ 96 := zi_rd hIm137 hc0 zb_28_46
                    have e147 : (m137 a0 46) = (m0 a0 46) := (Eq.trans (zs_ne hmm137 (Or.inr (by decide))) (zs_ne hmm134 (Or.inr (by decide))))
                    have r148 : 0 ≤ (m137 a0 49) ∧ (m137 a0 49) ≤ 1 := zi_rd hIm137 hc0 zb_28_49
                    have e149 : (m137 a0 49) = (m0 a0 49) := (Eq.trans (zs_ne hmm137 (Or.inr (by decide))) (zs_ne hmm134 (Or.inr (by decide))))
                    have r150 : 0 ≤ (m137 a0 45) ∧ (m137 a0 45) ≤ 96 := zi_rd hIm137 hc0 zb_28_45
                    have e151 : (m137 a0 45) = (m0 a0 45) := (Eq.trans (zs_ne hmm137 (Or.inr (by decide))) (zs_ne hmm134 (Or.inr (by decide))))
                    have r152 : 0 ≤ (m137 a0 47) ∧ (m137 a0 47) ≤ 8 := zi_rd hIm137 hc0 zb_28_47
                    have e153 : (m137 a0 47) = (m0 a0 47) := (Eq.trans (zs_ne hmm137 (Or.inr (by decide))) (zs_ne hmm134 (Or.inr (by decide))))
                    have r154 : (-2147483648) ≤ (m137 a0 4) ∧ (m137 a0 4) ≤ 2147483647 := zi_rd hIm137 hc0 zb_28_4
                    have e155 : (m137 a0 4) = 1 := (Eq.trans (zs_ne hmm137 (Or.inr (by decide))) (zs_eq hmm134))
                    exact zw_some ⟨hIm137, hFm137, hRKNm137, hRNSm137, hRTRm137, hRWDm137, ⟨by omega, by omega⟩, by omega, by omega, by omega, by omega, by omega, by omega, by omega, by omega⟩
              · have w156 := zu_w32_id (z := (m0 a0 9) - 26) (by omega) (by omega)
                refine zw_some ?_
                refine zw_ite (fun h157 => ?_) (fun h157 => ?_)
                · refine zw_ite (fun h158 => ?_) (fun h158 => ?_)
                  · refine zw_bd (zw_eq (zu_call_at (zt_T n) (zm_113 n) (zdp_113 n) _ _ _ _ _ rfl (zr_113_0 n _ _ a0 m0)) ?_)
                    refine zw_ite (fun h159 => ?_) (fun h159 => ?_)
                    · have w160 := zu_w32_id (z := (m0 a0 48) + 1) (by omega) (by omega)
                      generalize hmm161 : zu_up m0 a0 48 (zu_w32 ((m0 a0 48) + 1)) = m161
                      have hIm161 := zi_up hmm161 hIm0 hc0 zb_28_48 (by omega) (by omega)
                      have hFm161 := zfr_up hmm161 hFm0 hc0 rfl
                      have g162 := zwt_fr (zdis_fr (zfr_up hmm161 (zfr_rf [(28, 49)] _) hc0 rfl) rfl)
                      have hRKNm161 := zR_KN_fr (zdis_fr (zfr_up hmm161 (zfr_rf [(28, 49)] _) hc0 rfl) rfl) hRKNm0
                      have hRNSm161 := zR_NS_fr (zdis_fr (zfr_up hmm161 (zfr_rf [(28, 49)] _) hc0 rfl) rfl) hRNSm0
                      have hRTRm161 := zR_TR_fr (zdis_fr (zfr_up hmm161 (zfr_rf [(28, 49)] _) hc0 rfl) rfl) hRTRm0
                      have hRWDm161 := zR_WD_fr (zdis_fr (zfr_up hmm161 (zfr_rf [(28, 49)] _) hc0 rfl) rfl) hRWDm0
                      refine zw_b (by omega) ?_
                      refine zw_some ?_
                      refine zw_ite (fun h163 => ?_) (fun h163 => ?_)
                      · refine zw_ite (fun h164 => ?_) (fun h164 => ?_)
                        · exfalso; omega
                        · refine zw_ite (fun h165 => ?_) (fun h165 => ?_)
                          · exfalso; omega
                          · have r166 : 0 ≤ (m161 a0 21) ∧ (m161 a0 21) ≤ 64 := zi_rd hIm161 hc0 zb_28_21
                            have e167 : (m161 a0 21) = (m0 a0 21) := (zs_ne hmm161 (Or.inr (by decide)))
                            have r168 : 0 ≤ (m161 a0 46) ∧ (m161 a0 46) ≤ 96 := zi_rd hIm161 hc0 zb_28_46
                            have e169 : (m161 a0 46) = (m0 a0 46) := (zs_ne hmm161 (Or.inr (by decide)))
                            refine zw_bd (zw_mono (zk_110 n hIm161 hc0 ⟨by omega, by omega⟩ ⟨by omega, by omega⟩ ⟨by omega, by omega⟩ (by omega) (by omega) (by omega) (by omega) (by omega) hRKNm161) (fun v171 m170 hqm170 => ?_))
                            obtain ⟨hIm170, hfm170, hvm170⟩ := hqm170
                            have hFm170 := zfr_tr hFm161 hfm170 rfl
                            obtain ⟨hRKNm170, hvm170⟩ := hvm170
                            have g172 := zwt_fr (zdis_fr hfm170 rfl)
                            have hRNSm170 := zR_NS_fr (zdis_fr hfm170 rfl) hRNSm161
                            have hRTRm170 := zR_TR_fr (zdis_fr hfm170 rfl) hRTRm161
                            have hRWDm170 := zR_WD_fr (zdis_fr hfm170 rfl) hRWDm161
                            have g173 := zwt_bd hIm170 hc0
                            have s174 := hRNSm170 a0 hc0
                            have s175 := hRTRm170 a0 hc0
                            refine zw_b (by omega) ?_
                            generalize hmm176 : zu_up m170 a0 49 0 = m176
                            have hIm176 := zi_up hmm176 hIm170 hc0 zb_28_49 (by omega) (by omega)
                            have hFm176 := zfr_up hmm176 hFm170 hc0 rfl
                            have g177 := zwt_fr (zdis_fr (zfr_up hmm176 (zfr_rf [(28, 50)] _) hc0 rfl) rfl)
                            have hRKNm176 := zR_KN_fr (zdis_fr (zfr_up hmm176 (zfr_rf [(28, 50)] _) hc0 rfl) rfl) hRKNm170
                            have hRNSm176 := zR_NS_fr (zdis_fr (zfr_up hmm176 (zfr_rf [(28, 50)] _) hc0 rfl) rfl) hRNSm170
                            have hRTRm176 := zR_TR_fr (zdis_fr (zfr_up hmm176 (zfr_rf [(28, 50)] _) hc0 rfl) rfl) hRTRm170
                            have hRWDm176 := zR_WD_fr (zdis_fr (zfr_up hmm176 (zfr_rf [(28, 50)] _) hc0 rfl) rfl) hRWDm170
                            refine zw_bd (zw_mono (zk_89 n hIm176 hc0 hRNSm176 hRWDm176) (fun v179 m178 hqm178 => ?_))
                            obtain ⟨hIm178, hfm178, hvm178⟩ := hqm178
                            have hFm178 := zfr_tr hFm176 hfm178 rfl
                            obtain ⟨hRNSm178, hRTRm178, hRWDm178, hvm178⟩ := hvm178
                            have g180 := zwt_fr (zdis_fr hfm178 rfl)
                            have hRKNm178 := zR_KN_fr (zdis_fr hfm178 rfl) hRKNm176
                            have g181 := zwt_bd hIm178 hc0
                            have s182 := hRNSm178 a0 hc0
                            have s183 := hRTRm178 a0 hc0
                            refine zw_b (by omega) ?_
                            have r184 : 0 ≤ (m178 a0 7) ∧ (m178 a0 7) ≤ 700 := zi_rd hIm178 hc0 zb_28_7
                            have r185 : 0 ≤ (m178 a0 8) ∧ (m178 a0 8) ≤ 6 := zi_rd hIm178 hc0 zb_28_8
                            have r186 : 0 ≤ (m178 a0 21) ∧ (m178 a0 21) ≤ 64 := zi_rd hIm178 hc0 zb_28_21
                            have e187 : (m178 a0 21) = (m170 a0 21) := (Eq.trans (zfr_ap hfm178 hc0 rfl) (zs_ne hmm176 (Or.inr (by decide))))
                            have r188 : 0 ≤ (m178 a0 48) ∧ (m178 a0 48) ≤ 64 := zi_rd hIm178 hc0 zb_28_48
                            have e189 : (m178 a0 48) = (zu_w32 ((m0 a0 48) + 1)) := (Eq.trans (zfr_ap hfm178 hc0 rfl) (Eq.trans (zs_ne hmm176 (Or.inr (by decide))) (Eq.trans (zfr_ap hfm170 hc0 rfl) (zs_eq hmm161))))
                            have r190 : 0 ≤ (m178 a0 46) ∧ (m178 a0 46) ≤ 96 := zi_rd hIm178 hc0 zb_28_46
                            have e191 : (m178 a0 46) = (m170 a0 46) := (Eq.trans (zfr_ap hfm178 hc0 rfl) (zs_ne hmm176 (Or.inr (by decide))))
                            have r192 : 0 ≤ (m178 a0 49) ∧ (m178 a0 49) ≤ 1 := zi_rd hIm178 hc0 zb_28_49
                            have e193 : (m178 a0 49) = 0 := (Eq.trans (zfr_ap hfm178 hc0 rfl) (zs_eq hmm176))
                            have r194 : 0 ≤ (m178 a0 45) ∧ (m178 a0 45) ≤ 96 := zi_rd hIm178 hc0 zb_28_45
                            have e195 : (m178 a0 45) = (m0 a0 45) := (Eq.trans (zfr_ap hfm178 hc0 rfl) (Eq.trans (zs_ne hmm176 (Or.inr (by decide))) (Eq.trans (zfr_ap hfm170 hc0 rfl) (zs_ne hmm161 (Or.inr (by decide))))))
                            have r196 : 0 ≤ (m178 a0 47) ∧ (m178 a0 47) ≤ 8 := zi_rd hIm178 hc0 zb_28_47
                            have e197 : (m178 a0 47) = (m0 a0 47) := (Eq.trans (zfr_ap hfm178 hc0 rfl) (Eq.trans (zs_ne hmm176 (Or.inr (by decide))) (Eq.trans (zfr_ap hfm170 hc0 rfl) (zs_ne hmm161 (Or.inr (by decide))))))
                            have r198 : (-2147483648) ≤ (m178 a0 4) ∧ (m178 a0 4) ≤ 2147483647 := zi_rd hIm178 hc0 zb_28_4
                            exact zw_some ⟨hIm178, hFm178, hRKNm178, hRNSm178, hRTRm178, hRWDm178, ⟨by omega, by omega⟩, by omega, by omega, by omega, by omega, by omega, by omega, by omega, by omega⟩
                      · exfalso; omega
                    · refine zw_bd (zw_eq (zu_call_at (zt_T n) (zm_85 n) (zdp_85 n) _ _ _ _ _ rfl (zr_85_0 n _ _ a0 2 m0)) ?_)
                      generalize hmm199 : zu_up m0 a0 4 2 = m199
                      have hIm199 := zi_up hmm199 hIm0 hc0 zb_28_4 (by omega) (by omega)
                      have hFm199 := zfr_up hmm199 hFm0 hc0 rfl
                      have g200 := zwt_fr (zdis_fr (zfr_up hmm199 (zfr_rf [(28, 5)] _) hc0 rfl) rfl)
                      have hRKNm199 := zR_KN_fr (zdis_fr (zfr_up hmm199 (zfr_rf [(28, 5)] _) hc0 rfl) rfl) hRKNm0
                      have hRNSm199 := zR_NS_fr (zdis_fr (zfr_up hmm199 (zfr_rf [(28, 5)] _) hc0 rfl) rfl) hRNSm0
                      have hRTRm199 := zR_TR_fr (zdis_fr (zfr_up hmm199 (zfr_rf [(28, 5)] _) hc0 rfl) rfl) hRTRm0
                      have hRWDm199 := zR_WD_fr (zdis_fr (zfr_up hmm199 (zfr_rf [(28, 5)] _) hc0 rfl) rfl) hRWDm0
                      have hRLRm199 := zLR_wr (zone_190 hc0) hmm199 (by decide)
                      have r201 : 0 ≤ (m199 a0 10) ∧ (m199 a0 10) ≤ 700 := zi_rd hIm199 hc0 zb_28_10
                      generalize hmm202 : zu_up m199 a0 5 (m199 a0 10) = m202
                      have hIm202 := zi_up hmm202 hIm199 hc0 zb_28_5 (by omega) (by omega)
                      have hFm202 := zfr_up hmm202 hFm199 hc0 rfl
                      have g203 := zwt_fr (zdis_fr (zfr_up hmm202 (zfr_rf [(28, 6)] _) hc0 rfl) rfl)
                      have hRKNm202 := zR_KN_fr (zdis_fr (zfr_up hmm202 (zfr_rf [(28, 6)] _) hc0 rfl) rfl) hRKNm199
                      have hRLRm202 := zR_LR_fr (zdis_fr (zfr_up hmm202 (zfr_rf [(28, 6)] _) hc0 rfl) rfl) hRLRm199
                      have hRNSm202 := zR_NS_fr (zdis_fr (zfr_up hmm202 (zfr_rf [(28, 6)] _) hc0 rfl) rfl) hRNSm199
                      have hRTRm202 := zR_TR_fr (zdis_fr (zfr_up hmm202 (zfr_rf [(28, 6)] _) hc0 rfl) rfl) hRTRm199
                      have hRWDm202 := zR_WD_fr (zdis_fr (zfr_up hmm202 (zfr_rf [(28, 6)] _) hc0 rfl) rfl) hRWDm199
                      refine zw_b (by omega) ?_
                      refine zw_some ?_
                      refine zw_b (by omega) ?_
                      refine zw_some ?_
                      refine zw_ite (fun h204 => ?_) (fun h204 => ?_)
                      · exfalso; omega
                      · refine zw_b (by omega) ?_
                        have r205 : 0 ≤ (m202 a0 7) ∧ (m202 a0 7) ≤ 700 := zi_rd hIm202 hc0 zb_28_7
                        have r206 : 0 ≤ (m202 a0 8) ∧ (m202 a0 8) ≤ 6 := zi_rd hIm202 hc0 zb_28_8
                        have e207 : (m202 a0 8) = (m0 a0 8) := (Eq.trans (zs_ne hmm202 (Or.inr (by decide))) (zs_ne hmm199 (Or.inr (by decide))))
                        have r208 : 0 ≤ (m202 a0 21) ∧ (m202 a0 21) ≤ 64 := zi_rd hIm202 hc0 zb_28_21
                        have e209 : (m202 a0 21) = (m0 a0 21) := (Eq.trans (zs_ne hmm202 (Or.inr (by decide))) (zs_ne hmm199 (Or.inr (by decide))))
                        have r210 : 0 ≤ (m202 a0 48) ∧ (m202 a0 48) ≤ 64 := zi_rd hIm202 hc0 zb_28_48
                        have e211 : (m202 a0 48) = (m0 a0 48) := (Eq.trans (zs_ne hmm202 (Or.inr (by decide))) (zs_ne hmm199 (Or.inr (by decide))))
                        have r212 : 0 ≤ (m202 a0 46) ∧ (m202 a0 46) ≤ 96 := zi_rd hIm202 hc0 zb_28_46
                        have e213 : (m202 a0 46) = (m0 a0 46) := (Eq.trans (zs_ne hmm202 (Or.inr (by decide))) (zs_ne hmm199 (Or.inr (by decide))))
                        have r214 : 0 ≤ (m202 a0 49) ∧ (m202 a0 49) ≤ 1 := zi_rd hIm202 hc0 zb_28_49
                        have e215 : (m202 a0 49) = (m0 a0 49) := (Eq.trans (zs_ne hmm202 (Or.inr (by decide))) (zs_ne hmm199 (Or.inr (by decide))))
                        have r216 : 0 ≤ (m202 a0 45) ∧ (m202 a0 45) ≤ 96 := zi_rd hIm202 hc0 zb_28_45
                        have e217 : (m202 a0 45) = (m0 a0 45) := (Eq.trans (zs_ne hmm202 (Or.inr (by decide))) (zs_ne hmm199 (Or.inr (by decide))))
                        have r218 : 0 ≤ (m202 a0 47) ∧ (m202 a0 47) ≤ 8 := zi_rd hIm202 hc0 zb_28_47
                        have e219 : (m202 a0 47) = (m0 a0 47) := (Eq.trans (zs_ne hmm202 (Or.inr (by decide))) (zs_ne hmm199 (Or.inr (by decide))))
                        have r220 : (-2147483648) ≤ (m202 a0 4) ∧ (m202 a0 4) ≤ 2147483647 := zi_rd hIm202 hc0 zb_28_4
                        have e221 : (m202 a0 4) = 2 := (Eq.trans (zs_ne hmm202 (Or.inr (by decide))) (zs_eq hmm199))
                        exact zw_some ⟨hIm202, hFm202, hRKNm202, hRNSm202, hRTRm202, hRWDm202, ⟨by omega, by omega⟩, by omega, by omega, by omega, by omega, by omega, by omega, by omega, by omega⟩
                  · exfalso; omega
                · exfalso; omega
          · exfalso; omega
        · refine zw_b (by omega) ?_
          refine zw_some ?_
          refine zw_ite (fun h222 => ?_) (fun h222 => ?_)
          · exfalso; omega
          · have r223 : 0 ≤ (m0 a0 50) ∧ (m0 a0 50) ≤ 1 := zi_rd hIm0 hc0 zb_28_50
            refine zw_ite (fun h224 => ?_) (fun h224 => ?_)
            · refine zw_bd (zw_eq (zu_call_at (zt_T n) (zm_115 n) (zdp_115 n) _ _ _ _ _ rfl (zr_115_0 n _ _ a0 m0)) ?_)
              refine zw_ite (fun h225 => ?_) (fun h225 => ?_)
              · exfalso; omega
              · refine zw_ite (fun h226 => ?_) (fun h226 => ?_)
                · refine zw_some ?_
                  refine zw_ite (fun h227 => ?_) (fun h227 => ?_)
                  · exfalso; omega
                  · refine zw_ite (fun h228 => ?_) (fun h228 => ?_)
                    · exfalso; omega
                    · refine zw_bd (zw_eq (zu_call_at (zt_T n) (zm_85 n) (zdp_85 n) _ _ _ _ _ rfl (zr_85_0 n _ _ a0 1 m0)) ?_)
                      generalize hmm229 : zu_up m0 a0 4 1 = m229
                      have hIm229 := zi_up hmm229 hIm0 hc0 zb_28_4 (by omega) (by omega)
                      have hFm229 := zfr_up hmm229 hFm0 hc0 rfl
                      have g230 := zwt_fr (zdis_fr (zfr_up hmm229 (zfr_rf [(28, 5)] _) hc0 rfl) rfl)
                      have hRKNm229 := zR_KN_fr (zdis_fr (zfr_up hmm229 (zfr_rf [(28, 5)] _) hc0 rfl) rfl) hRKNm0
                      have hRNSm229 := zR_NS_fr (zdis_fr (zfr_up hmm229 (zfr_rf [(28, 5)] _) hc0 rfl) rfl) hRNSm0
                      have hRTRm229 := zR_TR_fr (zdis_fr (zfr_up hmm229 (zfr_rf [(28, 5)] _) hc0 rfl) rfl) hRTRm0
                      have hRWDm229 := zR_WD_fr (zdis_fr (zfr_up hmm229 (zfr_rf [(28, 5)] _) hc0 rfl) rfl) hRWDm0
                      have hRLRm229 := zLR_wr (zone_190 hc0) hmm229 (by decide)
                      have r231 : 0 ≤ (m229 a0 10) ∧ (m229 a0 10) ≤ 700 := zi_rd hIm229 hc0 zb_28_10
                      generalize hmm232 : zu_up m229 a0 5 (m229 a0 10) = m232
                      have hIm232 := zi_up hmm232 hIm229 hc0 zb_28_5 (by omega) (by omega)
                      have hFm232 := zfr_up hmm232 hFm229 hc0 rfl
                      have g233 := zwt_fr (zdis_fr (zfr_up hmm232 (zfr_rf [(28, 6)] _) hc0 rfl) rfl)
                      have hRKNm232 := zR_KN_fr (zdis_fr (zfr_up hmm232 (zfr_rf [(28, 6)] _) hc0 rfl) rfl) hRKNm229
                      have hRLRm232 := zR_LR_fr (zdis_fr (zfr_up hmm232 (zfr_rf [(28, 6)] _) hc0 rfl) rfl) hRLRm229
                      have hRNSm232 := zR_NS_fr (zdis_fr (zfr_up hmm232 (zfr_rf [(28, 6)] _) hc0 rfl) rfl) hRNSm229
                      have hRTRm232 := zR_TR_fr (zdis_fr (zfr_up hmm232 (zfr_rf [(28, 6)] _) hc0 rfl) rfl) hRTRm229
                      have hRWDm232 := zR_WD_fr (zdis_fr (zfr_up hmm232 (zfr_rf [(28, 6)] _) hc0 rfl) rfl) hRWDm229
                      refine zw_b (by omega) ?_
                      refine zw_some ?_
                      refine zw_b (by omega) ?_
                      have r234 : 0 ≤ (m232 a0 7) ∧ (m232 a0 7) ≤ 700 := zi_rd hIm232 hc0 zb_28_7
                      have r235 : 0 ≤ (m232 a0 8) ∧ (m232 a0 8) ≤ 6 := zi_rd hIm232 hc0 zb_28_8
                      have e236 : (m232 a0 8) = (m0 a0 8) := (Eq.trans (zs_ne hmm232 (Or.inr (by decide))) (zs_ne hmm229 (Or.inr (by decide))))
                      have r237 : 0 ≤ (m232 a0 21) ∧ (m232 a0 21) ≤ 64 := zi_rd hIm232 hc0 zb_28_21
                      have e238 : (m232 a0 21) = (m0 a0 21) := (Eq.trans (zs_ne hmm232 (Or.inr (by decide))) (zs_ne hmm229 (Or.inr (by decide))))
                      have r239 : 0 ≤ (m232 a0 48) ∧ (m232 a0 48) ≤ 64 := zi_rd hIm232 hc0 zb_28_48
                      have e240 : (m232 a0 48) = (m0 a0 48) := (Eq.trans (zs_ne hmm232 (Or.inr (by decide))) (zs_ne hmm229 (Or.inr (by decide))))
                      have r241 : 0 ≤ (m232 a0 46) ∧ (m232 a0 46) ≤ 96 := zi_rd hIm232 hc0 zb_28_46
                      have e242 : (m232 a0 46) = (m0 a0 46) := (Eq.trans (zs_ne hmm232 (Or.inr (by decide))) (zs_ne hmm229 (Or.inr (by decide))))
                      have r243 : 0 ≤ (m232 a0 49) ∧ (m232 a0 49) ≤ 1 := zi_rd hIm232 hc0 zb_28_49
                      have e244 : (m232 a0 49) = (m0 a0 49) := (Eq.trans (zs_ne hmm232 (Or.inr (by decide))) (zs_ne hmm229 (Or.inr (by decide))))
                      have r245 : 0 ≤ (m232 a0 45) ∧ (m232 a0 45) ≤ 96 := zi_rd hIm232 hc0 zb_28_45
                      have e246 : (m232 a0 45) = (m0 a0 45) := (Eq.trans (zs_ne hmm232 (Or.inr (by decide))) (zs_ne hmm229 (Or.inr (by decide))))
                      have r247 : 0 ≤ (m232 a0 47) ∧ (m232 a0 47) ≤ 8 := zi_rd hIm232 hc0 zb_28_47
                      have e248 : (m232 a0 47) = (m0 a0 47) := (Eq.trans (zs_ne hmm232 (Or.inr (by decide))) (zs_ne hmm229 (Or.inr (by decide))))
                      have r249 : (-2147483648) ≤ (m232 a0 4) ∧ (m232 a0 4) ≤ 2147483647 := zi_rd hIm232 hc0 zb_28_4
                      have e250 : (m232 a0 4) = 1 := (Eq.trans (zs_ne hmm232 (Or.inr (by decide))) (zs_eq hmm229))
                      exact zw_some ⟨hIm232, hFm232, hRKNm232, hRNSm232, hRTRm232, hRWDm232, ⟨by omega, by omega⟩, by omega, by omega, by omega, by omega, by omega, by omega, by omega, by omega⟩
                · exfalso; omega
            · refine zw_bd (zw_eq (zu_call_at (zt_T n) (zm_113 n) (zdp_113 n) _ _ _ _ _ rfl (zr_113_0 n _ _ a0 m0)) ?_)
              refine zw_ite (fun h251 => ?_) (fun h251 => ?_)
              · have w252 := zu_w32_id (z := (m0 a0 48) + 1) (by omega) (by omega)
                generalize hmm253 : zu_up m0 a0 48 (zu_w32 ((m0 a0 48) + 1)) = m253
                have hIm253 := zi_up hmm253 hIm0 hc0 zb_28_48 (by omega) (by omega)
                have hFm253 := zfr_up hmm253 hFm0 hc0 rfl
                have g254 := zwt_fr (zdis_fr (zfr_up hmm253 (zfr_rf [(28, 49)] _) hc0 rfl) rfl)
                have hRKNm253 := zR_KN_fr (zdis_fr (zfr_up hmm253 (zfr_rf [(28, 49)] _) hc0 rfl) rfl) hRKNm0
                have hRNSm253 := zR_NS_fr (zdis_fr (zfr_up hmm253 (zfr_rf [(28, 49)] _) hc0 rfl) rfl) hRNSm0
                have hRTRm253 := zR_TR_fr (zdis_fr (zfr_up hmm253 (zfr_rf [(28, 49)] _) hc0 rfl) rfl) hRTRm0
                have hRWDm253 := zR_WD_fr (zdis_fr (zfr_up hmm253 (zfr_rf [(28, 49)] _) hc0 rfl) rfl) hRWDm0
                refine zw_b (by omega) ?_
                refine zw_some ?_
                refine zw_ite (fun h255 => ?_) (fun h255 => ?_)
                · refine zw_bd (zw_eq (zu_call_at (zt_T n) (zm_114 n) (zdp_114 n) _ _ _ _ _ rfl (zr_114_0 n _ _ a0 2 m253)) ?_)
                  have r256 : 0 ≤ (m253 a0 45) ∧ (m253 a0 45) ≤ 96 := zi_rd hIm253 hc0 zb_28_45
                  have e257 : (m253 a0 45) = (m0 a0 45) := (zs_ne hmm253 (Or.inr (by decide)))
                  have b258 : 0 ≤ (m253 a0 45) ∧ (m253 a0 45) < 96 := by omega
                  refine zw_if b258 ?_
                  generalize hmm259 : zu_up m253 211 (m253 a0 45) 2 = m259
                  have hIm259 := zi_up hmm259 hIm253 zq_211 (zb_120 _) (by omega) (by omega)
                  have hFm259 := zfr_up hmm259 hFm253 zq_211 rfl
                  have hRKNm259 := zR_KN_fr (zdis_fr (zfr_up hmm259 (zfr_rf [(120, 0)] _) zq_211 rfl) rfl) hRKNm253
                  have hRNSm259 := zR_NS_fr (zdis_fr (zfr_up hmm259 (zfr_rf [(120, 0)] _) zq_211 rfl) rfl) hRNSm253
                  have hRTRm259 := zR_TR_fr (zdis_fr (zfr_up hmm259 (zfr_rf [(120, 0)] _) zq_211 rfl) rfl) hRTRm253
                  have hRWDm259 := zR_WD_fr (zdis_fr (zfr_up hmm259 (zfr_rf [(120, 0)] _) zq_211 rfl) rfl) hRWDm253
                  have r260 : 0 ≤ (m259 a0 45) ∧ (m259 a0 45) ≤ 96 := zi_rd hIm259 hc0 zb_28_45
                  have e261 : (m259 a0 45) = (m253 a0 45) := (zs_ne hmm259 (Or.inl (zc_ne hc0 zq_211 (by decide))))
                  have w262 := zu_w32_id (z := (m259 a0 45) + 1) (by omega) (by omega)
                  generalize hmm263 : zu_up m259 a0 45 (zu_w32 ((m259 a0 45) + 1)) = m263
                  have hIm263 := zi_up hmm263 hIm259 hc0 zb_28_45 (by omega) (by omega)
                  have hFm263 := zfr_up hmm263 hFm259 hc0 rfl
                  have hRKNm263 := zR_KN_fr (zdis_fr (zfr_up hmm263 (zfr_rf [(28, 46)] _) hc0 rfl) rfl) hRKNm259
                  have hRNSm263 := zR_NS_fr (zdis_fr (zfr_up hmm263 (zfr_rf [(28, 46)] _) hc0 rfl) rfl) hRNSm259
                  have hRTRm263 := zR_TR_fr (zdis_fr (zfr_up hmm263 (zfr_rf [(28, 46)] _) hc0 rfl) rfl) hRTRm259
                  have hRWDm263 := zR_WD_fr (zdis_fr (zfr_up hmm263 (zfr_rf [(28, 46)] _) hc0 rfl) rfl) hRWDm259
                  have g264 := zwt_push hmm259 hmm263 hc0 (by omega) (by omega) (by omega)
                  have g265 := zwt_bd hIm263 hc0
                  refine zw_some ?_
                  refine zw_bd (zw_mono (zk_89 n hIm263 hc0 hRNSm263 hRWDm263) (fun v267 m266 hqm266 => ?_))
                  obtain ⟨hIm266, hfm266, hvm266⟩ := hqm266
                  have hFm266 := zfr_tr hFm263 hfm266 rfl
                  obtain ⟨hRNSm266, hRTRm266, hRWDm266, hvm266⟩ := hvm266
                  have g268 := zwt_fr (zdis_fr hfm266 rfl)
                  have hRKNm266 := zR_KN_fr (zdis_fr hfm266 rfl) hRKNm263
                  have g269 := zwt_bd hIm266 hc0
                  have s270 := hRNSm266 a0 hc0
                  have s271 := hRTRm266 a0 hc0
                  refine zw_b (by omega) ?_
                  have r272 : 0 ≤ (m266 a0 7) ∧ (m266 a0 7) ≤ 700 := zi_rd hIm266 hc0 zb_28_7
                  have r273 : 0 ≤ (m266 a0 8) ∧ (m266 a0 8) ≤ 6 := zi_rd hIm266 hc0 zb_28_8
                  have r274 : 0 ≤ (m266 a0 21) ∧ (m266 a0 21) ≤ 64 := zi_rd hIm266 hc0 zb_28_21
                  have e275 : (m266 a0 21) = (m0 a0 21) := (Eq.trans (zfr_ap hfm266 hc0 rfl) (Eq.trans (zs_ne hmm263 (Or.inr (by decide))) (Eq.trans (zs_ne hmm259 (Or.inl (zc_ne hc0 zq_211 (by decide)))) (zs_ne hmm253 (Or.inr (by decide))))))
                  have r276 : 0 ≤ (m266 a0 48) ∧ (m266 a0 48) ≤ 64 := zi_rd hIm266 hc0 zb_28_48
                  have e277 : (m266 a0 48) = (zu_w32 ((m0 a0 48) + 1)) := (Eq.trans (zfr_ap hfm266 hc0 rfl) (Eq.trans (zs_ne hmm263 (Or.inr (by decide))) (Eq.trans (zs_ne hmm259 (Or.inl (zc_ne hc0 zq_211 (by decide)))) (zs_eq hmm253))))
                  have r278 : 0 ≤ (m266 a0 46) ∧ (m266 a0 46) ≤ 96 := zi_rd hIm266 hc0 zb_28_46
                  have e279 : (m266 a0 46) = (m0 a0 46) := (Eq.trans (zfr_ap hfm266 hc0 rfl) (Eq.trans (zs_ne hmm263 (Or.inr (by decide))) (Eq.trans (zs_ne hmm259 (Or.inl (zc_ne hc0 zq_211 (by decide)))) (zs_ne hmm253 (Or.inr (by decide))))))
                  have r280 : 0 ≤ (m266 a0 49) ∧ (m266 a0 49) ≤ 1 := zi_rd hIm266 hc0 zb_28_49
                  have e281 : (m266 a0 49) = (m0 a0 49) := (Eq.trans (zfr_ap hfm266 hc0 rfl) (Eq.trans (zs_ne hmm263 (Or.inr (by decide))) (Eq.trans (zs_ne hmm259 (Or.inl (zc_ne hc0 zq_211 (by decide)))) (zs_ne hmm253 (Or.inr (by decide))))))
                  have r282 : 0 ≤ (m266 a0 45) ∧ (m266 a0 45) ≤ 96 := zi_rd hIm266 hc0 zb_28_45
                  have e283 : (m266 a0 45) = (zu_w32 ((m259 a0 45) + 1)) := (Eq.trans (zfr_ap hfm266 hc0 rfl) (zs_eq hmm263))
                  have r284 : 0 ≤ (m266 a0 47) ∧ (m266 a0 47) ≤ 8 := zi_rd hIm266 hc0 zb_28_47
                  have e285 : (m266 a0 47) = (m0 a0 47) := (Eq.trans (zfr_ap hfm266 hc0 rfl) (Eq.trans (zs_ne hmm263 (Or.inr (by decide))) (Eq.trans (zs_ne hmm259 (Or.inl (zc_ne hc0 zq_211 (by decide)))) (zs_ne hmm253 (Or.inr (by decide))))))
                  have r286 : (-2147483648) ≤ (m266 a0 4) ∧ (m266 a0 4) ≤ 2147483647 := zi_rd hIm266 hc0 zb_28_4
                  exact zw_some ⟨hIm266, hFm266, hRKNm266, hRNSm266, hRTRm266, hRWDm266, ⟨by omega, by omega⟩, by omega, by omega, by omega, by omega, by omega, by omega, by omega, by omega⟩
                · exfalso; omega
              · refine zw_bd (zw_eq (zu_call_at (zt_T n) (zm_85 n) (zdp_85 n) _ _ _ _ _ rfl (zr_85_0 n _ _ a0 2 m0)) ?_)
                generalize hmm287 : zu_up m0 a0 4 2 = m287
                have hIm287 := zi_up hmm287 hIm0 hc0 zb_28_4 (by omega) (by omega)
                have hFm287 := zfr_up hmm287 hFm0 hc0 rfl
                have g288 := zwt_fr (zdis_fr (zfr_up hmm287 (zfr_rf [(28, 5)] _) hc0 rfl) rfl)
                have hRKNm287 := zR_KN_fr (zdis_fr (zfr_up hmm287 (zfr_rf [(28, 5)] _) hc0 rfl) rfl) hRKNm0
                have hRNSm287 := zR_NS_fr (zdis_fr (zfr_up hmm287 (zfr_rf [(28, 5)] _) hc0 rfl) rfl) hRNSm0
                have hRTRm287 := zR_TR_fr (zdis_fr (zfr_up hmm287 (zfr_rf [(28, 5)] _) hc0 rfl) rfl) hRTRm0
                have hRWDm287 := zR_WD_fr (zdis_fr (zfr_up hmm287 (zfr_rf [(28, 5)] _) hc0 rfl) rfl) hRWDm0
                have hRLRm287 := zLR_wr (zone_190 hc0) hmm287 (by decide)
                have r289 : 0 ≤ (m287 a0 10) ∧ (m287 a0 10) ≤ 700 := zi_rd hIm287 hc0 zb_28_10
                generalize hmm290 : zu_up m287 a0 5 (m287 a0 10) = m290
                have hIm290 := zi_up hmm290 hIm287 hc0 zb_28_5 (by omega) (by omega)
                have hFm290 := zfr_up hmm290 hFm287 hc0 rfl
                have g291 := zwt_fr (zdis_fr (zfr_up hmm290 (zfr_rf [(28, 6)] _) hc0 rfl) rfl)
                have hRKNm290 := zR_KN_fr (zdis_fr (zfr_up hmm290 (zfr_rf [(28, 6)] _) hc0 rfl) rfl) hRKNm287
                have hRLRm290 := zR_LR_fr (zdis_fr (zfr_up hmm290 (zfr_rf [(28, 6)] _) hc0 rfl) rfl) hRLRm287
                have hRNSm290 := zR_NS_fr (zdis_fr (zfr_up hmm290 (zfr_rf [(28, 6)] _) hc0 rfl) rfl) hRNSm287
                have hRTRm290 := zR_TR_fr (zdis_fr (zfr_up hmm290 (zfr_rf [(28, 6)] _) hc0 rfl) rfl) hRTRm287
                have hRWDm290 := zR_WD_fr (zdis_fr (zfr_up hmm290 (zfr_rf [(28, 6)] _) hc0 rfl) rfl) hRWDm287
                refine zw_b (by omega) ?_
                refine zw_some ?_
                refine zw_b (by omega) ?_
                refine zw_some ?_
                refine zw_ite (fun h292 => ?_) (fun h292 => ?_)
                · exfalso; omega
                · refine zw_b (by omega) ?_
                  have r293 : 0 ≤ (m290 a0 7) ∧ (m290 a0 7) ≤ 700 := zi_rd hIm290 hc0 zb_28_7
                  have r294 : 0 ≤ (m290 a0 8) ∧ (m290 a0 8) ≤ 6 := zi_rd hIm290 hc0 zb_28_8
                  have e295 : (m290 a0 8) = (m0 a0 8) := (Eq.trans (zs_ne hmm290 (Or.inr (by decide))) (zs_ne hmm287 (Or.inr (by decide))))
                  have r296 : 0 ≤ (m290 a0 21) ∧ (m290 a0 21) ≤ 64 := zi_rd hIm290 hc0 zb_28_21
                  have e297 : (m290 a0 21) = (m0 a0 21) := (Eq.trans (zs_ne hmm290 (Or.inr (by decide))) (zs_ne hmm287 (Or.inr (by decide))))
                  have r298 : 0 ≤ (m290 a0 48) ∧ (m290 a0 48) ≤ 64 := zi_rd hIm290 hc0 zb_28_48
                  have e299 : (m290 a0 48) = (m0 a0 48) := (Eq.trans (zs_ne hmm290 (Or.inr (by decide))) (zs_ne hmm287 (Or.inr (by decide))))
                  have r300 : 0 ≤ (m290 a0 46) ∧ (m290 a0 46) ≤ 96 := zi_rd hIm290 hc0 zb_28_46
                  have e301 : (m290 a0 46) = (m0 a0 46) := (Eq.trans (zs_ne hmm290 (Or.inr (by decide))) (zs_ne hmm287 (Or.inr (by decide))))
                  have r302 : 0 ≤ (m290 a0 49) ∧ (m290 a0 49) ≤ 1 := zi_rd hIm290 hc0 zb_28_49
                  have e303 : (m290 a0 49) = (m0 a0 49) := (Eq.trans (zs_ne hmm290 (Or.inr (by decide))) (zs_ne hmm287 (Or.inr (by decide))))
                  have r304 : 0 ≤ (m290 a0 45) ∧ (m290 a0 45) ≤ 96 := zi_rd hIm290 hc0 zb_28_45
                  have e305 : (m290 a0 45) = (m0 a0 45) := (Eq.trans (zs_ne hmm290 (Or.inr (by decide))) (zs_ne hmm287 (Or.inr (by decide))))
                  have r306 : 0 ≤ (m290 a0 47) ∧ (m290 a0 47) ≤ 8 := zi_rd hIm290 hc0 zb_28_47
                  have e307 : (m290 a0 47) = (m0 a0 47) := (Eq.trans (zs_ne hmm290 (Or.inr (by decide))) (zs_ne hmm287 (Or.inr (by decide))))
                  have r308 : (-2147483648) ≤ (m290 a0 4) ∧ (m290 a0 4) ≤ 2147483647 := zi_rd hIm290 hc0 zb_28_4
                  have e309 : (m290 a0 4) = 2 := (Eq.trans (zs_ne hmm290 (Or.inr (by decide))) (zs_eq hmm287))
                  exact zw_some ⟨hIm290, hFm290, hRKNm290, hRNSm290, hRTRm290, hRWDm290, ⟨by omega, by omega⟩, by omega, by omega, by omega, by omega, by omega, by omega, by omega, by omega⟩
    · exfalso; omega
  · have r310 : (-2147483648) ≤ (m0 a0 9) ∧ (m0 a0 9) ≤ 2147483647 := zi_rd hIm0 hc0 zb_28_9
    refine zw_ite (fun h311 => ?_) (fun h311 => ?_)
    · refine zw_b (by omega) ?_
      refine zw_some ?_
      refine zw_ite (fun h312 => ?_) (fun h312 => ?_)
      · refine zw_bd (zw_eq (zu_call_at (zt_T n) (zm_92 n) (zdp_92 n) _ _ _ _ _ rfl (zr_92_0 n _ _ a0 25 m0)) ?_)
        refine zw_ite (fun h313 => ?_) (fun h313 => ?_)
        · refine zw_b (by omega) ?_
          refine zw_some ?_
          refine zw_ite (fun h314 => ?_) (fun h314 => ?_)
          · refine zw_bd (zw_eq (zu_call_at (zt_T n) (zm_115 n) (zdp_115 n) _ _ _ _ _ rfl (zr_115_0 n _ _ a0 m0)) ?_)
            refine zw_ite (fun h315 => ?_) (fun h315 => ?_)
            · refine zw_some ?_
              refine zw_ite (fun h316 => ?_) (fun h316 => ?_)
              · exfalso; omega
              · refine zw_ite (fun h317 => ?_) (fun h317 => ?_)
                · exfalso; omega
                · refine zw_bd (zw_eq (zu_call_at (zt_T n) (zm_85 n) (zdp_85 n) _ _ _ _ _ rfl (zr_85_0 n _ _ a0 1 m0)) ?_)
                  generalize hmm318 : zu_up m0 a0 4 1 = m318
                  have hIm318 := zi_up hmm318 hIm0 hc0 zb_28_4 (by omega) (by omega)
                  have hFm318 := zfr_up hmm318 hFm0 hc0 rfl
                  have g319 := zwt_fr (zdis_fr (zfr_up hmm318 (zfr_rf [(28, 5)] _) hc0 rfl) rfl)
                  have hRKNm318 := zR_KN_fr (zdis_fr (zfr_up hmm318 (zfr_rf [(28, 5)] _) hc0 rfl) rfl) hRKNm0
                  have hRNSm318 := zR_NS_fr (zdis_fr (zfr_up hmm318 (zfr_rf [(28, 5)] _) hc0 rfl) rfl) hRNSm0
                  have hRTRm318 := zR_TR_fr (zdis_fr (zfr_up hmm318 (zfr_rf [(28, 5)] _) hc0 rfl) rfl) hRTRm0
                  have hRWDm318 := zR_WD_fr (zdis_fr (zfr_up hmm318 (zfr_rf [(28, 5)] _) hc0 rfl) rfl) hRWDm0
                  have hRLRm318 := zLR_wr (zone_190 hc0) hmm318 (by decide)
                  have r320 : 0 ≤ (m318 a0 10) ∧ (m318 a0 10) ≤ 700 := zi_rd hIm318 hc0 zb_28_10
                  generalize hmm321 : zu_up m318 a0 5 (m318 a0 10) = m321
                  have hIm321 := zi_up hmm321 hIm318 hc0 zb_28_5 (by omega) (by omega)
                  have hFm321 := zfr_up hmm321 hFm318 hc0 rfl
                  have g322 := zwt_fr (zdis_fr (zfr_up hmm321 (zfr_rf [(28, 6)] _) hc0 rfl) rfl)
                  have hRKNm321 := zR_KN_fr (zdis_fr (zfr_up hmm321 (zfr_rf [(28, 6)] _) hc0 rfl) rfl) hRKNm318
                  have hRLRm321 := zR_LR_fr (zdis_fr (zfr_up hmm321 (zfr_rf [(28, 6)] _) hc0 rfl) rfl) hRLRm318
                  have hRNSm321 := zR_NS_fr (zdis_fr (zfr_up hmm321 (zfr_rf [(28, 6)] _) hc0 rfl) rfl) hRNSm318
                  have hRTRm321 := zR_TR_fr (zdis_fr (zfr_up hmm321 (zfr_rf [(28, 6)] _) hc0 rfl) rfl) hRTRm318
                  have hRWDm321 := zR_WD_fr (zdis_fr (zfr_up hmm321 (zfr_rf [(28, 6)] _) hc0 rfl) rfl) hRWDm318
                  refine zw_b (by omega) ?_
                  refine zw_some ?_
                  refine zw_b (by omega) ?_
                  have r323 : 0 ≤ (m321 a0 7) ∧ (m321 a0 7) ≤ 700 := zi_rd hIm321 hc0 zb_28_7
                  have r324 : 0 ≤ (m321 a0 8) ∧ (m321 a0 8) ≤ 6 := zi_rd hIm321 hc0 zb_28_8
                  have e325 : (m321 a0 8) = (m0 a0 8) := (Eq.trans (zs_ne hmm321 (Or.inr (by decide))) (zs_ne hmm318 (Or.inr (by decide))))
                  have r326 : 0 ≤ (m321 a0 21) ∧ (m321 a0 21) ≤ 64 := zi_rd hIm321 hc0 zb_28_21
                  have e327 : (m321 a0 21) = (m0 a0 21) := (Eq.trans (zs_ne hmm321 (Or.inr (by decide))) (zs_ne hmm318 (Or.inr (by decide))))
                  have r328 : 0 ≤ (m321 a0 48) ∧ (m321 a0 48) ≤ 64 := zi_rd hIm321 hc0 zb_28_48
                  have e329 : (m321 a0 48) = (m0 a0 48) := (Eq.trans (zs_ne hmm321 (Or.inr (by decide))) (zs_ne hmm318 (Or.inr (by decide))))
                  have r330 : 0 ≤ (m321 a0 46) ∧ (m321 a0 46) ≤ 96 := zi_rd hIm321 hc0 zb_28_46
                  have e331 : (m321 a0 46) = (m0 a0 46) := (Eq.trans (zs_ne hmm321 (Or.inr (by decide))) (zs_ne hmm318 (Or.inr (by decide))))
                  have r332 : 0 ≤ (m321 a0 49) ∧ (m321 a0 49) ≤ 1 := zi_rd hIm321 hc0 zb_28_49
                  have e333 : (m321 a0 49) = (m0 a0 49) := (Eq.trans (zs_ne hmm321 (Or.inr (by decide))) (zs_ne hmm318 (Or.inr (by decide))))
                  have r334 : 0 ≤ (m321 a0 45) ∧ (m321 a0 45) ≤ 96 := zi_rd hIm321 hc0 zb_28_45
                  have e335 : (m321 a0 45) = (m0 a0 45) := (Eq.trans (zs_ne hmm321 (Or.inr (by decide))) (zs_ne hmm318 (Or.inr (by decide))))
                  have r336 : 0 ≤ (m321 a0 47) ∧ (m321 a0 47) ≤ 8 := zi_rd hIm321 hc0 zb_28_47
                  have e337 : (m321 a0 47) = (m0 a0 47) := (Eq.trans (zs_ne hmm321 (Or.inr (by decide))) (zs_ne hmm318 (Or.inr (by decide))))
                  have r338 : (-2147483648) ≤ (m321 a0 4) ∧ (m321 a0 4) ≤ 2147483647 := zi_rd hIm321 hc0 zb_28_4
                  have e339 : (m321 a0 4) = 1 := (Eq.trans (zs_ne hmm321 (Or.inr (by decide))) (zs_eq hmm318))
                  exact zw_some ⟨hIm321, hFm321, hRKNm321, hRNSm321, hRTRm321, hRWDm321, ⟨by omega, by omega⟩, by omega, by omega, by omega, by omega, by omega, by omega, by omega, by omega⟩
            · exfalso; omega
          · exfalso; omega
        · exfalso; omega
      · exfalso; omega
    · refine zw_b (by omega) ?_
      refine zw_some ?_
      refine zw_ite (fun h340 => ?_) (fun h340 => ?_)
      · exfalso; omega
      · refine zw_ite (fun h341 => ?_) (fun h341 => ?_)
        · have w342 := zu_w32_id (z := (m0 a0 47) + 1) (by omega) (by omega)
          generalize hmm343 : zu_up m0 a0 47 (zu_w32 ((m0 a0 47) + 1)) = m343
          have hIm343 := zi_up hmm343 hIm0 hc0 zb_28_47 (by omega) (by omega)
          have hFm343 := zfr_up hmm343 hFm0 hc0 rfl
          have g344 := zwt_fr (zdis_fr (zfr_up hmm343 (zfr_rf [(28, 48)] _) hc0 rfl) rfl)
          have hRKNm343 := zR_KN_fr (zdis_fr (zfr_up hmm343 (zfr_rf [(28, 48)] _) hc0 rfl) rfl) hRKNm0
          have hRNSm343 := zR_NS_fr (zdis_fr (zfr_up hmm343 (zfr_rf [(28, 48)] _) hc0 rfl) rfl) hRNSm0
          have hRTRm343 := zR_TR_fr (zdis_fr (zfr_up hmm343 (zfr_rf [(28, 48)] _) hc0 rfl) rfl) hRTRm0
          have hRWDm343 := zR_WD_fr (zdis_fr (zfr_up hmm343 (zfr_rf [(28, 48)] _) hc0 rfl) rfl) hRWDm0
          refine zw_bd (zw_eq (zu_call_at (zt_T n) (zm_114 n) (zdp_114 n) _ _ _ _ _ rfl (zr_114_0 n _ _ a0 0 m343)) ?_)
          have r345 : 0 ≤ (m343 a0 45) ∧ (m343 a0 45) ≤ 96 := zi_rd hIm343 hc0 zb_28_45
          have e346 : (m343 a0 45) = (m0 a0 45) := (zs_ne hmm343 (Or.inr (by decide)))
          have b347 : 0 ≤ (m343 a0 45) ∧ (m343 a0 45) < 96 := by omega
          refine zw_if b347 ?_
          generalize hmm348 : zu_up m343 211 (m343 a0 45) 0 = m348
          have hIm348 := zi_up hmm348 hIm343 zq_211 (zb_120 _) (by omega) (by omega)
          have hFm348 := zfr_up hmm348 hFm343 zq_211 rfl
          have hRKNm348 := zR_KN_fr (zdis_fr (zfr_up hmm348 (zfr_rf [(120, 0)] _) zq_211 rfl) rfl) hRKNm343
          have hRNSm348 := zR_NS_fr (zdis_fr (zfr_up hmm348 (zfr_rf [(120, 0)] _) zq_211 rfl) rfl) hRNSm343
          have hRTRm348 := zR_TR_fr (zdis_fr (zfr_up hmm348 (zfr_rf [(120, 0)] _) zq_211 rfl) rfl) hRTRm343
          have hRWDm348 := zR_WD_fr (zdis_fr (zfr_up hmm348 (zfr_rf [(120, 0)] _) zq_211 rfl) rfl) hRWDm343
          have r349 : 0 ≤ (m348 a0 45) ∧ (m348 a0 45) ≤ 96 := zi_rd hIm348 hc0 zb_28_45
          have e350 : (m348 a0 45) = (m343 a0 45) := (zs_ne hmm348 (Or.inl (zc_ne hc0 zq_211 (by decide))))
          have w351 := zu_w32_id (z := (m348 a0 45) + 1) (by omega) (by omega)
          generalize hmm352 : zu_up m348 a0 45 (zu_w32 ((m348 a0 45) + 1)) = m352
          have hIm352 := zi_up hmm352 hIm348 hc0 zb_28_45 (by omega) (by omega)
          have hFm352 := zfr_up hmm352 hFm348 hc0 rfl
          have hRKNm352 := zR_KN_fr (zdis_fr (zfr_up hmm352 (zfr_rf [(28, 46)] _) hc0 rfl) rfl) hRKNm348
          have hRNSm352 := zR_NS_fr (zdis_fr (zfr_up hmm352 (zfr_rf [(28, 46)] _) hc0 rfl) rfl) hRNSm348
          have hRTRm352 := zR_TR_fr (zdis_fr (zfr_up hmm352 (zfr_rf [(28, 46)] _) hc0 rfl) rfl) hRTRm348
          have hRWDm352 := zR_WD_fr (zdis_fr (zfr_up hmm352 (zfr_rf [(28, 46)] _) hc0 rfl) rfl) hRWDm348
          have g353 := zwt_push hmm348 hmm352 hc0 (by omega) (by omega) (by omega)
          have g354 := zwt_bd hIm352 hc0
          refine zw_some ?_
          refine zw_b (by omega) ?_
          generalize hmm355 : zu_up m352 a0 50 1 = m355
          have hIm355 := zi_up hmm355 hIm352 hc0 zb_28_50 (by omega) (by omega)
          have hFm355 := zfr_up hmm355 hFm352 hc0 rfl
          have g356 := zwt_fr (zdis_fr (zfr_up hmm355 (zfr_rf [(28, 51)] _) hc0 rfl) rfl)
          have hRKNm355 := zR_KN_fr (zdis_fr (zfr_up hmm355 (zfr_rf [(28, 51)] _) hc0 rfl) rfl) hRKNm352
          have hRNSm355 := zR_NS_fr (zdis_fr (zfr_up hmm355 (zfr_rf [(28, 51)] _) hc0 rfl) rfl) hRNSm352
          have hRTRm355 := zR_TR_fr (zdis_fr (zfr_up hmm355 (zfr_rf [(28, 51)] _) hc0 rfl) rfl) hRTRm352
          have hRWDm355 := zR_WD_fr (zdis_fr (zfr_up hmm355 (zfr_rf [(28, 51)] _) hc0 rfl) rfl) hRWDm352
          refine zw_bd (zw_mono (zk_89 n hIm355 hc0 hRNSm355 hRWDm355) (fun v358 m357 hqm357 => ?_))
          obtain ⟨hIm357, hfm357, hvm357⟩ := hqm357
          have hFm357 := zfr_tr hFm355 hfm357 rfl
          obtain ⟨hRNSm357, hRTRm357, hRWDm357, hvm357⟩ := hvm357
          have g359 := zwt_fr (zdis_fr hfm357 rfl)
          have hRKNm357 := zR_KN_fr (zdis_fr hfm357 rfl) hRKNm355
          have g360 := zwt_bd hIm357 hc0
          have s361 := hRNSm357 a0 hc0
          have s362 := hRTRm357 a0 hc0
          refine zw_b (by omega) ?_
          have r363 : 0 ≤ (m357 a0 7) ∧ (m357 a0 7) ≤ 700 := zi_rd hIm357 hc0 zb_28_7
          have r364 : 0 ≤ (m357 a0 8) ∧ (m357 a0 8) ≤ 6 := zi_rd hIm357 hc0 zb_28_8
          have r365 : 0 ≤ (m357 a0 21) ∧ (m357 a0 21) ≤ 64 := zi_rd hIm357 hc0 zb_28_21
          have e366 : (m357 a0 21) = (m0 a0 21) := (Eq.trans (zfr_ap hfm357 hc0 rfl) (Eq.trans (zs_ne hmm355 (Or.inr (by decide))) (Eq.trans (zs_ne hmm352 (Or.inr (by decide))) (Eq.trans (zs_ne hmm348 (Or.inl (zc_ne hc0 zq_211 (by decide)))) (zs_ne hmm343 (Or.inr (by decide)))))))
          have r367 : 0 ≤ (m357 a0 48) ∧ (m357 a0 48) ≤ 64 := zi_rd hIm357 hc0 zb_28_48
          have e368 : (m357 a0 48) = (m0 a0 48) := (Eq.trans (zfr_ap hfm357 hc0 rfl) (Eq.trans (zs_ne hmm355 (Or.inr (by decide))) (Eq.trans (zs_ne hmm352 (Or.inr (by decide))) (Eq.trans (zs_ne hmm348 (Or.inl (zc_ne hc0 zq_211 (by decide)))) (zs_ne hmm343 (Or.inr (by decide)))))))
          have r369 : 0 ≤ (m357 a0 46) ∧ (m357 a0 46) ≤ 96 := zi_rd hIm357 hc0 zb_28_46
          have e370 : (m357 a0 46) = (m0 a0 46) := (Eq.trans (zfr_ap hfm357 hc0 rfl) (Eq.trans (zs_ne hmm355 (Or.inr (by decide))) (Eq.trans (zs_ne hmm352 (Or.inr (by decide))) (Eq.trans (zs_ne hmm348 (Or.inl (zc_ne hc0 zq_211 (by decide)))) (zs_ne hmm343 (Or.inr (by decide)))))))
          have r371 : 0 ≤ (m357 a0 49) ∧ (m357 a0 49) ≤ 1 := zi_rd hIm357 hc0 zb_28_49
          have e372 : (m357 a0 49) = (m0 a0 49) := (Eq.trans (zfr_ap hfm357 hc0 rfl) (Eq.trans (zs_ne hmm355 (Or.inr (by decide))) (Eq.trans (zs_ne hmm352 (Or.inr (by decide))) (Eq.trans (zs_ne hmm348 (Or.inl (zc_ne hc0 zq_211 (by decide)))) (zs_ne hmm343 (Or.inr (by decide)))))))
          have r373 : 0 ≤ (m357 a0 45) ∧ (m357 a0 45) ≤ 96 := zi_rd hIm357 hc0 zb_28_45
          have e374 : (m357 a0 45) = (zu_w32 ((m348 a0 45) + 1)) := (Eq.trans (zfr_ap hfm357 hc0 rfl) (Eq.trans (zs_ne hmm355 (Or.inr (by decide))) (zs_eq hmm352)))
          have r375 : 0 ≤ (m357 a0 47) ∧ (m357 a0 47) ≤ 8 := zi_rd hIm357 hc0 zb_28_47
          have e376 : (m357 a0 47) = (zu_w32 ((m0 a0 47) + 1)) := (Eq.trans (zfr_ap hfm357 hc0 rfl) (Eq.trans (zs_ne hmm355 (Or.inr (by decide))) (Eq.trans (zs_ne hmm352 (Or.inr (by decide))) (Eq.trans (zs_ne hmm348 (Or.inl (zc_ne hc0 zq_211 (by decide)))) (zs_eq hmm343)))))
          have r377 : (-2147483648) ≤ (m357 a0 4) ∧ (m357 a0 4) ≤ 2147483647 := zi_rd hIm357 hc0 zb_28_4
          exact zw_some ⟨hIm357, hFm357, hRKNm357, hRNSm357, hRTRm357, hRWDm357, ⟨by omega, by omega⟩, by omega, by omega, by omega, by omega, by omega, by omega, by omega, by omega⟩
        · refine zw_bd (zw_eq (zu_call_at (zt_T n) (zm_85 n) (zdp_85 n) _ _ _ _ _ rfl (zr_85_0 n _ _ a0 2 m0)) ?_)
          generalize hmm378 : zu_up m0 a0 4 2 = m378
          have hIm378 := zi_up hmm378 hIm0 hc0 zb_28_4 (by omega) (by omega)
          have hFm378 := zfr_up hmm378 hFm0 hc0 rfl
          have g379 := zwt_fr (zdis_fr (zfr_up hmm378 (zfr_rf [(28, 5)] _) hc0 rfl) rfl)
          have hRKNm378 := zR_KN_fr (zdis_fr (zfr_up hmm378 (zfr_rf [(28, 5)] _) hc0 rfl) rfl) hRKNm0
          have hRNSm378 := zR_NS_fr (zdis_fr (zfr_up hmm378 (zfr_rf [(28, 5)] _) hc0 rfl) rfl) hRNSm0
          have hRTRm378 := zR_TR_fr (zdis_fr (zfr_up hmm378 (zfr_rf [(28, 5)] _) hc0 rfl) rfl) hRTRm0
          have hRWDm378 := zR_WD_fr (zdis_fr (zfr_up hmm378 (zfr_rf [(28, 5)] _) hc0 rfl) rfl) hRWDm0
          have hRLRm378 := zLR_wr (zone_190 hc0) hmm378 (by decide)
          have r380 : 0 ≤ (m378 a0 10) ∧ (m378 a0 10) ≤ 700 := zi_rd hIm378 hc0 zb_28_10
          generalize hmm381 : zu_up m378 a0 5 (m378 a0 10) = m381
          have hIm381 := zi_up hmm381 hIm378 hc0 zb_28_5 (by omega) (by omega)
          have hFm381 := zfr_up hmm381 hFm378 hc0 rfl
          have g382 := zwt_fr (zdis_fr (zfr_up hmm381 (zfr_rf [(28, 6)] _) hc0 rfl) rfl)
          have hRKNm381 := zR_KN_fr (zdis_fr (zfr_up hmm381 (zfr_rf [(28, 6)] _) hc0 rfl) rfl) hRKNm378
          have hRLRm381 := zR_LR_fr (zdis_fr (zfr_up hmm381 (zfr_rf [(28, 6)] _) hc0 rfl) rfl) hRLRm378
          have hRNSm381 := zR_NS_fr (zdis_fr (zfr_up hmm381 (zfr_rf [(28, 6)] _) hc0 rfl) rfl) hRNSm378
          have hRTRm381 := zR_TR_fr (zdis_fr (zfr_up hmm381 (zfr_rf [(28, 6)] _) hc0 rfl) rfl) hRTRm378
          have hRWDm381 := zR_WD_fr (zdis_fr (zfr_up hmm381 (zfr_rf [(28, 6)] _) hc0 rfl) rfl) hRWDm378
          refine zw_b (by omega) ?_
          refine zw_some ?_
          refine zw_b (by omega) ?_
          have r383 : 0 ≤ (m381 a0 7) ∧ (m381 a0 7) ≤ 700 := zi_rd hIm381 hc0 zb_28_7
          have r384 : 0 ≤ (m381 a0 8) ∧ (m381 a0 8) ≤ 6 := zi_rd hIm381 hc0 zb_28_8
          have e385 : (m381 a0 8) = (m0 a0 8) := (Eq.trans (zs_ne hmm381 (Or.inr (by decide))) (zs_ne hmm378 (Or.inr (by decide))))
          have r386 : 0 ≤ (m381 a0 21) ∧ (m381 a0 21) ≤ 64 := zi_rd hIm381 hc0 zb_28_21
          have e387 : (m381 a0 21) = (m0 a0 21) := (Eq.trans (zs_ne hmm381 (Or.inr (by decide))) (zs_ne hmm378 (Or.inr (by decide))))
          have r388 : 0 ≤ (m381 a0 48) ∧ (m381 a0 48) ≤ 64 := zi_rd hIm381 hc0 zb_28_48
          have e389 : (m381 a0 48) = (m0 a0 48) := (Eq.trans (zs_ne hmm381 (Or.inr (by decide))) (zs_ne hmm378 (Or.inr (by decide))))
          have r390 : 0 ≤ (m381 a0 46) ∧ (m381 a0 46) ≤ 96 := zi_rd hIm381 hc0 zb_28_46
          have e391 : (m381 a0 46) = (m0 a0 46) := (Eq.trans (zs_ne hmm381 (Or.inr (by decide))) (zs_ne hmm378 (Or.inr (by decide))))
          have r392 : 0 ≤ (m381 a0 49) ∧ (m381 a0 49) ≤ 1 := zi_rd hIm381 hc0 zb_28_49
          have e393 : (m381 a0 49) = (m0 a0 49) := (Eq.trans (zs_ne hmm381 (Or.inr (by decide))) (zs_ne hmm378 (Or.inr (by decide))))
          have r394 : 0 ≤ (m381 a0 45) ∧ (m381 a0 45) ≤ 96 := zi_rd hIm381 hc0 zb_28_45
          have e395 : (m381 a0 45) = (m0 a0 45) := (Eq.trans (zs_ne hmm381 (Or.inr (by decide))) (zs_ne hmm378 (Or.inr (by decide))))
          have r396 : 0 ≤ (m381 a0 47) ∧ (m381 a0 47) ≤ 8 := zi_rd hIm381 hc0 zb_28_47
          have e397 : (m381 a0 47) = (m0 a0 47) := (Eq.trans (zs_ne hmm381 (Or.inr (by decide))) (zs_ne hmm378 (Or.inr (by decide))))
          have r398 : (-2147483648) ≤ (m381 a0 4) ∧ (m381 a0 4) ≤ 2147483647 := zi_rd hIm381 hc0 zb_28_4
          have e399 : (m381 a0 4) = 2 := (Eq.trans (zs_ne hmm381 (Or.inr (by decide))) (zs_eq hmm378))
          exact zw_some ⟨hIm381, hFm381, hRKNm381, hRNSm381, hRTRm381, hRWDm381, ⟨by omega, by omega⟩, by omega, by omega, by omega, by omega, by omega, by omega, by omega, by omega⟩

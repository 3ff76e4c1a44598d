set_option maxHeartbeats 4000000 in
theorem zk_100 (n : Nat) {a0 a1 : Int} {m0 : zu_m} (hIm0 : zi_I m0) (hc0 : zcls a0 = 28) (ha1 : 1 ≤ a1 ∧ a1 ≤ 3)  (he0 : 1 ≤ m0 a0 8 ∧ m0 a0 8 ≤ 1) (he1 : 1 ≤ m0 a0 9 ∧ m0 a0 9 ≤ 3)  (hRCRm0 : zR_CR m0) (hRLRm0 : zR_LR m0) (hRNSm0 : zR_NS m0) (hRTRm0 : zR_TR m0) (hRWDm0 : zR_WD m0) : zw (zu_call (zt_T n) 100 [(40, a0), (0, a1)] m0) (fun v m => zi_I m ∧ zfr [(28, 5), (28, 6), (28, 8), (28, 9), (28, 10), (28, 11), (28, 12), (28, 23), (28, 24), (28, 43), (104, 0), (105, 0)] m0 m ∧ zR_CR m ∧ zR_LR m ∧ zR_NS m ∧ zR_TR m ∧ zR_WD m ∧ (0 ≤ v ∧ v ≤ 1) ∧ ((m0 a0 7) ≤ (m a0 7)) ∧ (v = 1 → ((m a0 8) = 0 ∨ (m0 a0 7) < (m a0 7))) ∧ (v = 1 → (m a0 4) = (m0 a0 4))) := by
  have hFm0 : zfr [(28, 5), (28, 6), (28, 8), (28, 9), (28, 10), (28, 11), (28, 12), (28, 23), (28, 24), (28, 43), (104, 0), (105, 0)] m0 m0 := zfr_rf _ _
  have r1 : 0 ≤ (m0 a0 7) ∧ (m0 a0 7) ≤ 700 := zi_rd hIm0 hc0 zb_28_7
  have r2 : (-2147483648) ≤ (m0 a0 4) ∧ (m0 a0 4) ≤ 2147483647 := zi_rd hIm0 hc0 zb_28_4
  have s3 := hRNSm0 a0 hc0
  have s4 := hRTRm0 a0 hc0
  refine zw_eq (zu_call_at (zt_T n) (zm_100 n) (zdp_100 n) _ _ _ _ _ rfl (zr_100_0 n _ _ a0 a1 m0)) ?_
  have r5 : 0 ≤ (m0 a0 22) ∧ (m0 a0 22) ≤ 16 := zi_rd hIm0 hc0 zb_28_22
  refine zw_ite (fun h6 => ?_) (fun h6 => ?_)
  · refine zw_bd (zw_mono (zk_89 n hIm0 hc0 hRNSm0 hRWDm0) (fun v8 m7 hqm7 => ?_))
    obtain ⟨hIm7, hfm7, hvm7⟩ := hqm7
    have hFm7 := zfr_tr hFm0 hfm7 rfl
    obtain ⟨hRNSm7, hRTRm7, hRWDm7, hvm7⟩ := hvm7
    have hRCRm7 := zR_CR_fr (zdis_fr hfm7 rfl) hRCRm0
    have hRLRm7 := zR_LR_fr (zdis_fr hfm7 rfl) hRLRm0
    have s9 := hRNSm7 a0 hc0
    have s10 := hRTRm7 a0 hc0
    have r11 : 0 ≤ (m7 a0 7) ∧ (m7 a0 7) ≤ 700 := zi_rd hIm7 hc0 zb_28_7
    have r12 : 0 ≤ (m7 a0 8) ∧ (m7 a0 8) ≤ 6 := zi_rd hIm7 hc0 zb_28_8
    refine zw_bd (zw_eq (zu_call_at (zt_T n) (zm_96 n) (zdp_96 n) _ _ _ _ _ rfl (zr_96_0 n _ _ a0 m7)) ?_)
    refine zw_b (by omega) ?_
    generalize hmm13 : zu_up m7 a0 23 1 = m13
    have hIm13 := zi_up hmm13 hIm7 hc0 zb_28_23 (by omega) (by omega)
    have hFm13 := zfr_up hmm13 hFm7 hc0 rfl
    have hRLRm13 := zR_LR_fr (zdis_fr (zfr_up hmm13 (zfr_rf [(28, 24)] _) hc0 rfl) rfl) hRLRm7
    have hRNSm13 := zR_NS_fr (zdis_fr (zfr_up hmm13 (zfr_rf [(28, 24)] _) hc0 rfl) rfl) hRNSm7
    have hRTRm13 := zR_TR_fr (zdis_fr (zfr_up hmm13 (zfr_rf [(28, 24)] _) hc0 rfl) rfl) hRTRm7
    have hRWDm13 := zR_WD_fr (zdis_fr (zfr_up hmm13 (zfr_rf [(28, 24)] _) hc0 rfl) rfl) hRWDm7
    have hRCRm13 := zCR_cells (zone_190 hc0) hmm13 rfl hRCRm7
    have r14 : 1 ≤ (m13 a0 17) ∧ (m13 a0 17) ≤ 8 := zi_rd hIm13 hc0 zb_28_17
    have w15 := zu_w32_id (z := (m13 a0 17) - 1) (by omega) (by omega)
    refine zw_bd (zw_eq (zu_call_at (zt_T n) (zm_94 n) (zdp_94 n) _ _ _ _ _ rfl (zr_94_0 n _ _ a0 0 (zu_w32 ((m13 a0 17) - 1)) m13)) ?_)
    have r16 : 0 ≤ (m13 a0 8) ∧ (m13 a0 8) ≤ 6 := zi_rd hIm13 hc0 zb_28_8
    have e17 : (m13 a0 8) = (m7 a0 8) := (zs_ne hmm13 (Or.inr (by decide)))
    refine zw_ite (fun h18 => ?_) (fun h18 => ?_)
    · have r19 : (-2147483648) ≤ (m13 a0 9) ∧ (m13 a0 9) ≤ 2147483647 := zi_rd hIm13 hc0 zb_28_9
      have e20 : (m13 a0 9) = (m7 a0 9) := (zs_ne hmm13 (Or.inr (by decide)))
      refine zw_bd (zw_eq (zu_call_at (zt_T n) (zm_83 n) (zdp_83 n) _ _ _ _ _ rfl (zr_83_0 n _ _ (m13 a0 9) 0 (zu_w32 ((m13 a0 17) - 1)) m13)) ?_)
      refine zw_ite (fun h21 => ?_) (fun h21 => ?_)
      · exfalso; omega
      · refine zw_ite (fun h22 => ?_) (fun h22 => ?_)
        · refine zw_b (by omega) ?_
          refine zw_some ?_
          refine zw_ite (fun h23 => ?_) (fun h23 => ?_)
          · exfalso; omega
          · refine zw_bd (zw_eq (zu_call_at (zt_T n) (zm_85 n) (zdp_85 n) _ _ _ _ _ rfl (zr_85_0 n _ _ a0 2 m13)) ?_)
            generalize hmm24 : zu_up m13 a0 4 2 = m24
            have hIm24 := zi_up hmm24 hIm13 hc0 zb_28_4 (by omega) (by omega)
            have hFm24 := zfr_up hmm24 hFm13 hc0 rfl
            have hRCRm24 := zR_CR_fr (zdis_fr (zfr_up hmm24 (zfr_rf [(28, 5)] _) hc0 rfl) rfl) hRCRm13
            have hRNSm24 := zR_NS_fr (zdis_fr (zfr_up hmm24 (zfr_rf [(28, 5)] _) hc0 rfl) rfl) hRNSm13
            have hRTRm24 := zR_TR_fr (zdis_fr (zfr_up hmm24 (zfr_rf [(28, 5)] _) hc0 rfl) rfl) hRTRm13
            have hRWDm24 := zR_WD_fr (zdis_fr (zfr_up hmm24 (zfr_rf [(28, 5)] _) hc0 rfl) rfl) hRWDm13
            have hRLRm24 := zLR_wr (zone_190 hc0) hmm24 (by decide)
            have r25 : 0 ≤ (m24 a0 10) ∧ (m24 a0 10) ≤ 700 := zi_rd hIm24 hc0 zb_28_10
            generalize hmm26 : zu_up m24 a0 5 (m24 a0 10) = m26
            have hIm26 := zi_up hmm26 hIm24 hc0 zb_28_5 (by omega) (by omega)
            have hFm26 := zfr_up hmm26 hFm24 hc0 rfl
            have hRCRm26 := zR_CR_fr (zdis_fr (zfr_up hmm26 (zfr_rf [(28, 6)] _) hc0 rfl) rfl) hRCRm24
            have hRLRm26 := zR_LR_fr (zdis_fr (zfr_up hmm26 (zfr_rf [(28, 6)] _) hc0 rfl) rfl) hRLRm24
            have hRNSm26 := zR_NS_fr (zdis_fr (zfr_up hmm26 (zfr_rf [(28, 6)] _) hc0 rfl) rfl) hRNSm24
            have hRTRm26 := zR_TR_fr (zdis_fr (zfr_up hmm26 (zfr_rf [(28, 6)] _) hc0 rfl) rfl) hRTRm24
            have hRWDm26 := zR_WD_fr (zdis_fr (zfr_up hmm26 (zfr_rf [(28, 6)] _) hc0 rfl) rfl) hRWDm24
            refine zw_b (by omega) ?_
            refine zw_some ?_
            refine zw_b (by omega) ?_
            refine zw_some ?_
            refine zw_ite (fun h27 => ?_) (fun h27 => ?_)
            · exfalso; omega
            · refine zw_b (by omega) ?_
              refine zw_some ?_
              refine zw_ite (fun h28 => ?_) (fun h28 => ?_)
              · exfalso; omega
              · refine zw_b (by omega) ?_
                have r29 : 0 ≤ (m26 a0 7) ∧ (m26 a0 7) ≤ 700 := zi_rd hIm26 hc0 zb_28_7
                have e30 : (m26 a0 7) = (m7 a0 7) := (Eq.trans (zs_ne hmm26 (Or.inr (by decide))) (Eq.trans (zs_ne hmm24 (Or.inr (by decide))) (zs_ne hmm13 (Or.inr (by decide)))))
                have r31 : 0 ≤ (m26 a0 8) ∧ (m26 a0 8) ≤ 6 := zi_rd hIm26 hc0 zb_28_8
                have e32 : (m26 a0 8) = (m13 a0 8) := (Eq.trans (zs_ne hmm26 (Or.inr (by decide))) (zs_ne hmm24 (Or.inr (by decide))))
                have r33 : (-2147483648) ≤ (m26 a0 4) ∧ (m26 a0 4) ≤ 2147483647 := zi_rd hIm26 hc0 zb_28_4
                have e34 : (m26 a0 4) = 2 := (Eq.trans (zs_ne hmm26 (Or.inr (by decide))) (zs_eq hmm24))
                exact zw_some ⟨hIm26, hFm26, hRCRm26, hRLRm26, hRNSm26, hRTRm26, hRWDm26, ⟨by omega, by omega⟩, by omega, by omega, by omega⟩
        · refine zw_b (by omega) ?_
          refine zw_some ?_
          refine zw_ite (fun h35 => ?_) (fun h35 => ?_)
          · generalize hmm36 : zu_up m13 a0 11 (m13 a0 9) = m36
            have hIm36 := zi_up hmm36 hIm13 hc0 zb_28_11 (by omega) (by omega)
            have hFm36 := zfr_up hmm36 hFm13 hc0 rfl
            have hRCRm36 := zR_CR_fr (zdis_fr (zfr_up hmm36 (zfr_rf [(28, 12)] _) hc0 rfl) rfl) hRCRm13
            have hRLRm36 := zR_LR_fr (zdis_fr (zfr_up hmm36 (zfr_rf [(28, 12)] _) hc0 rfl) rfl) hRLRm13
            have hRNSm36 := zR_NS_fr (zdis_fr (zfr_up hmm36 (zfr_rf [(28, 12)] _) hc0 rfl) rfl) hRNSm13
            have hRTRm36 := zR_TR_fr (zdis_fr (zfr_up hmm36 (zfr_rf [(28, 12)] _) hc0 rfl) rfl) hRTRm13
            have hRWDm36 := zR_WD_fr (zdis_fr (zfr_up hmm36 (zfr_rf [(28, 12)] _) hc0 rfl) rfl) hRWDm13
            have r39 : 0 ≤ (m36 a0 7) ∧ (m36 a0 7) ≤ 700 := zi_rd hIm36 hc0 zb_28_7
            have e40 : (m36 a0 7) = (m7 a0 7) := (Eq.trans (zs_ne hmm36 (Or.inr (by decide))) (zs_ne hmm13 (Or.inr (by decide))))
            refine zw_bd (zw_mono (zk_89 n hIm36 hc0 hRNSm36 hRWDm36) (fun v38 m37 hqm37 => ?_))
            obtain ⟨hIm37, hfm37, hvm37⟩ := hqm37
            have hFm37 := zfr_tr hFm36 hfm37 rfl
            obtain ⟨hRNSm37, hRTRm37, hRWDm37, hvm37⟩ := hvm37
            have hRCRm37 := zR_CR_fr (zdis_fr hfm37 rfl) hRCRm36
            have hRLRm37 := zR_LR_fr (zdis_fr hfm37 rfl) hRLRm36
            have s41 := hRNSm37 a0 hc0
            have s42 := hRTRm37 a0 hc0
            have r43 : 0 ≤ (m37 a0 7) ∧ (m37 a0 7) ≤ 700 := zi_rd hIm37 hc0 zb_28_7
            have r44 : 0 ≤ (m37 a0 8) ∧ (m37 a0 8) ≤ 6 := zi_rd hIm37 hc0 zb_28_8
            refine zw_b (by omega) ?_
            refine zw_some ?_
            refine zw_ite (fun h45 => ?_) (fun h45 => ?_)
            · have r46 : (-2147483648) ≤ (m37 a0 11) ∧ (m37 a0 11) ≤ 2147483647 := zi_rd hIm37 hc0 zb_28_11
              have e47 : (m37 a0 11) = (m13 a0 9) := (Eq.trans (zfr_ap hfm37 hc0 rfl) (zs_eq hmm36))
              have r48 : 0 ≤ (m37 a0 10) ∧ (m37 a0 10) ≤ 700 := zi_rd hIm37 hc0 zb_28_10
              generalize hmm49 : zu_up m37 a0 42 (m37 a0 10) = m49
              have hIm49 := zi_up hmm49 hIm37 hc0 zb_28_42 (by omega) (by omega)
              have hFm49 := zfr_up hmm49 hFm37 hc0 rfl
              have hRCRm49 := zR_CR_fr (zdis_fr (zfr_up hmm49 (zfr_rf [(28, 43)] _) hc0 rfl) rfl) hRCRm37
              have hRLRm49 := zR_LR_fr (zdis_fr (zfr_up hmm49 (zfr_rf [(28, 43)] _) hc0 rfl) rfl) hRLRm37
              have hRNSm49 := zR_NS_fr (zdis_fr (zfr_up hmm49 (zfr_rf [(28, 43)] _) hc0 rfl) rfl) hRNSm37
              have hRTRm49 := zR_TR_fr (zdis_fr (zfr_up hmm49 (zfr_rf [(28, 43)] _) hc0 rfl) rfl) hRTRm37
              have hRWDm49 := zR_WD_fr (zdis_fr (zfr_up hmm49 (zfr_rf [(28, 43)] _) hc0 rfl) rfl) hRWDm37
              have r50 : 1 ≤ (m49 a0 18) ∧ (m49 a0 18) ≤ 6 := zi_rd hIm49 hc0 zb_28_18
              have w51 := zu_w32_id (z := (m49 a0 18) - 1) (by omega) (by omega)
              refine zw_bd (zw_eq (zu_call_at (zt_T n) (zm_94 n) (zdp_94 n) _ _ _ _ _ rfl (zr_94_0 n _ _ a0 0 (zu_w32 ((m49 a0 18) - 1)) m49)) ?_)
              have r52 : 0 ≤ (m49 a0 8) ∧ (m49 a0 8) ≤ 6 := zi_rd hIm49 hc0 zb_28_8
              have e53 : (m49 a0 8) = (m37 a0 8) := (zs_ne hmm49 (Or.inr (by decide)))
              refine zw_ite (fun h54 => ?_) (fun h54 => ?_)
              · have r55 : (-2147483648) ≤ (m49 a0 9) ∧ (m49 a0 9) ≤ 2147483647 := zi_rd hIm49 hc0 zb_28_9
                have e56 : (m49 a0 9) = (m37 a0 9) := (zs_ne hmm49 (Or.inr (by decide)))
                refine zw_bd (zw_eq (zu_call_at (zt_T n) (zm_83 n) (zdp_83 n) _ _ _ _ _ rfl (zr_83_0 n _ _ (m49 a0 9) 0 (zu_w32 ((m49 a0 18) - 1)) m49)) ?_)
                refine zw_ite (fun h57 => ?_) (fun h57 => ?_)
                · exfalso; omega
                · refine zw_ite (fun h58 => ?_) (fun h58 => ?_)
                  · refine zw_b (by omega) ?_
                    refine zw_some ?_
                    refine zw_ite (fun h59 => ?_) (fun h59 => ?_)
                    · exfalso; omega
                    · refine zw_bd (zw_eq (zu_call_at (zt_T n) (zm_85 n) (zdp_85 n) _ _ _ _ _ rfl (zr_85_0 n _ _ a0 2 m49)) ?_)
                      generalize hmm60 : zu_up m49 a0 4 2 = m60
                      have hIm60 := zi_up hmm60 hIm49 hc0 zb_28_4 (by omega) (by omega)
                      have hFm60 := zfr_up hmm60 hFm49 hc0 rfl
                      have hRCRm60 := zR_CR_fr (zdis_fr (zfr_up hmm60 (zfr_rf [(28, 5)] _) hc0 rfl) rfl) hRCRm49
                      have hRNSm60 := zR_NS_fr (zdis_fr (zfr_up hmm60 (zfr_rf [(28, 5)] _) hc0 rfl) rfl) hRNSm49
                      have hRTRm60 := zR_TR_fr (zdis_fr (zfr_up hmm60 (zfr_rf [(28, 5)] _) hc0 rfl) rfl) hRTRm49
                      have hRWDm60 := zR_WD_fr (zdis_fr (zfr_up hmm60 (zfr_rf [(28, 5)] _) hc0 rfl) rfl) hRWDm49
                      have hRLRm60 := zLR_wr (zone_190 hc0) hmm60 (by decide)
                      have r61 : 0 ≤ (m60 a0 10) ∧ (m60 a0 10) ≤ 700 := zi_rd hIm60 hc0 zb_28_10
                      have e62 : (m60 a0 10) = (m37 a0 10) := (Eq.trans (zs_ne hmm60 (Or.inr (by decide))) (zs_ne hmm49 (Or.inr (by decide))))
                      generalize hmm63 : zu_up m60 a0 5 (m60 a0 10) = m63
                      have hIm63 := zi_up hmm63 hIm60 hc0 zb_28_5 (by omega) (by omega)
                      have hFm63 := zfr_up hmm63 hFm60 hc0 rfl
                      have hRCRm63 := zR_CR_fr (zdis_fr (zfr_up hmm63 (zfr_rf [(28, 6)] _) hc0 rfl) rfl) hRCRm60
                      have hRLRm63 := zR_LR_fr (zdis_fr (zfr_up hmm63 (zfr_rf [(28, 6)] _) hc0 rfl) rfl) hRLRm60
                      have hRNSm63 := zR_NS_fr (zdis_fr (zfr_up hmm63 (zfr_rf [(28, 6)] _) hc0 rfl) rfl) hRNSm60
                      have hRTRm63 := zR_TR_fr (zdis_fr (zfr_up hmm63 (zfr_rf [(28, 6)] _) hc0 rfl) rfl) hRTRm60
                      have hRWDm63 := zR_WD_fr (zdis_fr (zfr_up hmm63 (zfr_rf [(28, 6)] _) hc0 rfl) rfl) hRWDm60
                      refine zw_b (by omega) ?_
                      refine zw_some ?_
                      refine zw_b (by omega) ?_
                      refine zw_some ?_
                      refine zw_ite (fun h64 => ?_) (fun h64 => ?_)
                      · exfalso; omega
                      · refine zw_b (by omega) ?_
                        refine zw_some ?_
                        refine zw_ite (fun h65 => ?_) (fun h65 => ?_)
                        · exfalso; omega
                        · refine zw_b (by omega) ?_
                          have r66 : 0 ≤ (m63 a0 7) ∧ (m63 a0 7) ≤ 700 := zi_rd hIm63 hc0 zb_28_7
                          have e67 : (m63 a0 7) = (m37 a0 7) := (Eq.trans (zs_ne hmm63 (Or.inr (by decide))) (Eq.trans (zs_ne hmm60 (Or.inr (by decide))) (zs_ne hmm49 (Or.inr (by decide)))))
                          have r68 : 0 ≤ (m63 a0 8) ∧ (m63 a0 8) ≤ 6 := zi_rd hIm63 hc0 zb_28_8
                          have e69 : (m63 a0 8) = (m49 a0 8) := (Eq.trans (zs_ne hmm63 (Or.inr (by decide))) (zs_ne hmm60 (Or.inr (by decide))))
                          have r70 : (-2147483648) ≤ (m63 a0 4) ∧ (m63 a0 4) ≤ 2147483647 := zi_rd hIm63 hc0 zb_28_4
                          have e71 : (m63 a0 4) = 2 := (Eq.trans (zs_ne hmm63 (Or.inr (by decide))) (zs_eq hmm60))
                          exact zw_some ⟨hIm63, hFm63, hRCRm63, hRLRm63, hRNSm63, hRTRm63, hRWDm63, ⟨by omega, by omega⟩, by omega, by omega, by omega⟩
                  · refine zw_b (by omega) ?_
                    refine zw_some ?_
                    refine zw_ite (fun h72 => ?_) (fun h72 => ?_)
                    · generalize hmm73 : zu_up m49 a0 11 (m49 a0 9) = m73
                      have hIm73 := zi_up hmm73 hIm49 hc0 zb_28_11 (by omega) (by omega)
                      have hFm73 := zfr_up hmm73 hFm49 hc0 rfl
                      have hRCRm73 := zR_CR_fr (zdis_fr (zfr_up hmm73 (zfr_rf [(28, 12)] _) hc0 rfl) rfl) hRCRm49
                      have hRLRm73 := zR_LR_fr (zdis_fr (zfr_up hmm73 (zfr_rf [(28, 12)] _) hc0 rfl) rfl) hRLRm49
                      have hRNSm73 := zR_NS_fr (zdis_fr (zfr_up hmm73 (zfr_rf [(28, 12)] _) hc0 rfl) rfl) hRNSm49
                      have hRTRm73 := zR_TR_fr (zdis_fr (zfr_up hmm73 (zfr_rf [(28, 12)] _) hc0 rfl) rfl) hRTRm49
                      have hRWDm73 := zR_WD_fr (zdis_fr (zfr_up hmm73 (zfr_rf [(28, 12)] _) hc0 rfl) rfl) hRWDm49
                      have r76 : 0 ≤ (m73 a0 7) ∧ (m73 a0 7) ≤ 700 := zi_rd hIm73 hc0 zb_28_7
                      have e77 : (m73 a0 7) = (m37 a0 7) := (Eq.trans (zs_ne hmm73 (Or.inr (by decide))) (zs_ne hmm49 (Or.inr (by decide))))
                      refine zw_bd (zw_mono (zk_89 n hIm73 hc0 hRNSm73 hRWDm73) (fun v75 m74 hqm74 => ?_))
                      obtain ⟨hIm74, hfm74, hvm74⟩ := hqm74
                      have hFm74 := zfr_tr hFm73 hfm74 rfl
                      obtain ⟨hRNSm74, hRTRm74, hRWDm74, hvm74⟩ := hvm74
                      have hRCRm74 := zR_CR_fr (zdis_fr hfm74 rfl) hRCRm73
                      have hRLRm74 := zR_LR_fr (zdis_fr hfm74 rfl) hRLRm73
                      have s78 := hRNSm74 a0 hc0
                      have s79 := hRTRm74 a0 hc0
                      have r80 : 0 ≤ (m74 a0 7) ∧ (m74 a0 7) ≤ 700 := zi_rd hIm74 hc0 zb_28_7
                      have r81 : 0 ≤ (m74 a0 8) ∧ (m74 a0 8) ≤ 6 := zi_rd hIm74 hc0 zb_28_8
                      refine zw_b (by omega) ?_
                      refine zw_some ?_
                      refine zw_ite (fun h82 => ?_) (fun h82 => ?_)
                      · have r83 : 1 ≤ (m74 a0 17) ∧ (m74 a0 17) ≤ 8 := zi_rd hIm74 hc0 zb_28_17
                        have e84 : (m74 a0 17) = (m13 a0 17) := (Eq.trans (zfr_ap hfm74 hc0 rfl) (Eq.trans (zs_ne hmm73 (Or.inr (by decide))) (Eq.trans (zs_ne hmm49 (Or.inr (by decide))) (Eq.trans (zfr_ap hfm37 hc0 rfl) (zs_ne hmm36 (Or.inr (by decide)))))))
                        have r85 : (-2147483648) ≤ (m74 a0 11) ∧ (m74 a0 11) ≤ 2147483647 := zi_rd hIm74 hc0 zb_28_11
                        have e86 : (m74 a0 11) = (m49 a0 9) := (Eq.trans (zfr_ap hfm74 hc0 rfl) (zs_eq hmm73))
                        have p87 := zmul_bd (x := (m74 a0 17)) (y := (m74 a0 11)) (a := 1) (b := 0) (A := 8) (B := 5) (by omega) (by omega) (by omega) (by omega) (by omega) (by omega)
                        have w88 := zu_w32_id (z := (m74 a0 17) * (m74 a0 11)) (by omega) (by omega)
                        have w89 := zu_w32_id (z := (zu_w32 ((m74 a0 17) * (m74 a0 11))) + (m37 a0 11)) (by omega) (by omega)
                        generalize hmm90 : zu_up m74 a0 11 (zu_w32 ((zu_w32 ((m74 a0 17) * (m74 a0 11))) + (m37 a0 11))) = m90
                        have hIm90 := zi_up hmm90 hIm74 hc0 zb_28_11 (by omega) (by omega)
                        have hFm90 := zfr_up hmm90 hFm74 hc0 rfl
                        have hRCRm90 := zR_CR_fr (zdis_fr (zfr_up hmm90 (zfr_rf [(28, 12)] _) hc0 rfl) rfl) hRCRm74
                        have hRLRm90 := zR_LR_fr (zdis_fr (zfr_up hmm90 (zfr_rf [(28, 12)] _) hc0 rfl) rfl) hRLRm74
                        have hRNSm90 := zR_NS_fr (zdis_fr (zfr_up hmm90 (zfr_rf [(28, 12)] _) hc0 rfl) rfl) hRNSm74
                        have hRTRm90 := zR_TR_fr (zdis_fr (zfr_up hmm90 (zfr_rf [(28, 12)] _) hc0 rfl) rfl) hRTRm74
                        have hRWDm90 := zR_WD_fr (zdis_fr (zfr_up hmm90 (zfr_rf [(28, 12)] _) hc0 rfl) rfl) hRWDm74
                        refine zw_b (by omega) ?_
                        refine zw_some ?_
                        refine zw_ite (fun h91 => ?_) (fun h91 => ?_)
                        · have r92 : (-2147483648) ≤ (m90 a0 11) ∧ (m90 a0 11) ≤ 2147483647 := zi_rd hIm90 hc0 zb_28_11
                          have e93 : (m90 a0 11) = (zu_w32 ((zu_w32 ((m74 a0 17) * (m74 a0 11))) + (m37 a0 11))) := (zs_eq hmm90)
                          have b94 : 0 ≤ (m90 a0 11) ∧ (m90 a0 11) < 48 := by omega
                          refine zw_if b94 ?_
                          have r95 : 0 ≤ (m90 196 (m90 a0 11)) ∧ (m90 196 (m90 a0 11)) ≤ 1 := zi_rd hIm90 zq_196 (zb_105 _)
                          refine zw_ite (fun h96 => ?_) (fun h96 => ?_)
                          · refine zw_b (by omega) ?_
                            have b97 : 0 ≤ (m90 a0 11) ∧ (m90 a0 11) < 48 := by omega
                            refine zw_if b97 ?_
                            generalize hmm98 : zu_up m90 196 (m90 a0 11) 1 = m98
                            have hIm98 := zi_up hmm98 hIm90 zq_196 (zb_105 _) (by omega) (by omega)
                            have hFm98 := zfr_up hmm98 hFm90 zq_196 rfl
                            have hRCRm98 := zR_CR_fr (zdis_fr (zfr_up hmm98 (zfr_rf [(105, 0)] _) zq_196 rfl) rfl) hRCRm90
                            have hRLRm98 := zR_LR_fr (zdis_fr (zfr_up hmm98 (zfr_rf [(105, 0)] _) zq_196 rfl) rfl) hRLRm90
                            have hRNSm98 := zR_NS_fr (zdis_fr (zfr_up hmm98 (zfr_rf [(105, 0)] _) zq_196 rfl) rfl) hRNSm90
                            have hRTRm98 := zR_TR_fr (zdis_fr (zfr_up hmm98 (zfr_rf [(105, 0)] _) zq_196 rfl) rfl) hRTRm90
                            have hRWDm98 := zR_WD_fr (zdis_fr (zfr_up hmm98 (zfr_rf [(105, 0)] _) zq_196 rfl) rfl) hRWDm90
                            have r99 : (-2147483648) ≤ (m98 a0 11) ∧ (m98 a0 11) ≤ 2147483647 := zi_rd hIm98 hc0 zb_28_11
                            have e100 : (m98 a0 11) = (m90 a0 11) := (zs_ne hmm98 (Or.inl (zc_ne hc0 zq_196 (by decide))))
                            have w101 := zu_w32_id (z := 48 + (m98 a0 11)) (by omega) (by omega)
                            have b102 : 0 ≤ (zu_w32 (48 + (m98 a0 11))) ∧ (zu_w32 (48 + (m98 a0 11))) < 96 := by omega
                            refine zw_if b102 ?_
                            generalize hmm103 : zu_up m98 195 (zu_w32 (48 + (m98 a0 11))) a1 = m103
                            have hIm103 := zi_up hmm103 hIm98 zq_195 (zb_104 _) (by omega) (by omega)
                            have hFm103 := zfr_up hmm103 hFm98 zq_195 rfl
                            have hRCRm103 := zR_CR_fr (zdis_fr (zfr_up hmm103 (zfr_rf [(104, 0)] _) zq_195 rfl) rfl) hRCRm98
                            have hRLRm103 := zR_LR_fr (zdis_fr (zfr_up hmm103 (zfr_rf [(104, 0)] _) zq_195 rfl) rfl) hRLRm98
                            have hRNSm103 := zR_NS_fr (zdis_fr (zfr_up hmm103 (zfr_rf [(104, 0)] _) zq_195 rfl) rfl) hRNSm98
                            have hRTRm103 := zR_TR_fr (zdis_fr (zfr_up hmm103 (zfr_rf [(104, 0)] _) zq_195 rfl) rfl) hRTRm98
                            have hRWDm103 := zR_WD_fr (zdis_fr (zfr_up hmm103 (zfr_rf [(104, 0)] _) zq_195 rfl) rfl) hRWDm98
                            have r104 : 0 ≤ (m103 a0 22) ∧ (m103 a0 22) ≤ 16 := zi_rd hIm103 hc0 zb_28_22
                            have e105 : (m103 a0 22) = (m0 a0 22) := (Eq.trans (zs_ne hmm103 (Or.inl (zc_ne hc0 zq_195 (by decide)))) (Eq.trans (zs_ne hmm98 (Or.inl (zc_ne hc0 zq_196 (by decide)))) (Eq.trans (zs_ne hmm90 (Or.inr (by decide))) (Eq.trans (zfr_ap hfm74 hc0 rfl) (Eq.trans (zs_ne hmm73 (Or.inr (by decide))) (Eq.trans (zs_ne hmm49 (Or.inr (by decide))) (Eq.trans (zfr_ap hfm37 hc0 rfl) (Eq.trans (zs_ne hmm36 (Or.inr (by decide))) (Eq.trans (zs_ne hmm13 (Or.inr (by decide))) (zfr_ap hfm7 hc0 rfl))))))))))
                            have w106 := zu_w32_id (z := (m103 a0 22) + 1) (by omega) (by omega)
                            generalize hmm107 : zu_up m103 a0 22 (zu_w32 ((m103 a0 22) + 1)) = m107
                            have hIm107 := zi_up hmm107 hIm103 hc0 zb_28_22 (by omega) (by omega)
                            have hFm107 := zfr_up hmm107 hFm103 hc0 rfl
                            have hRCRm107 := zR_CR_fr (zdis_fr (zfr_up hmm107 (zfr_rf [(28, 23)] _) hc0 rfl) rfl) hRCRm103
                            have hRLRm107 := zR_LR_fr (zdis_fr (zfr_up hmm107 (zfr_rf [(28, 23)] _) hc0 rfl) rfl) hRLRm103
                            have hRNSm107 := zR_NS_fr (zdis_fr (zfr_up hmm107 (zfr_rf [(28, 23)] _) hc0 rfl) rfl) hRNSm103
                            have hRTRm107 := zR_TR_fr (zdis_fr (zfr_up hmm107 (zfr_rf [(28, 23)] _) hc0 rfl) rfl) hRTRm103
                            have hRWDm107 := zR_WD_fr (zdis_fr (zfr_up hmm107 (zfr_rf [(28, 23)] _) hc0 rfl) rfl) hRWDm103
                            refine zw_b (by omega) ?_
                            have r108 : 0 ≤ (m107 a0 7) ∧ (m107 a0 7) ≤ 700 := zi_rd hIm107 hc0 zb_28_7
                            have e109 : (m107 a0 7) = (m74 a0 7) := (Eq.trans (zs_ne hmm107 (Or.inr (by decide))) (Eq.trans (zs_ne hmm103 (Or.inl (zc_ne hc0 zq_195 (by decide)))) (Eq.trans (zs_ne hmm98 (Or.inl (zc_ne hc0 zq_196 (by decide)))) (zs_ne hmm90 (Or.inr (by decide))))))
                            have r110 : 0 ≤ (m107 a0 8) ∧ (m107 a0 8) ≤ 6 := zi_rd hIm107 hc0 zb_28_8
                            have e111 : (m107 a0 8) = (m74 a0 8) := (Eq.trans (zs_ne hmm107 (Or.inr (by decide))) (Eq.trans (zs_ne hmm103 (Or.inl (zc_ne hc0 zq_195 (by decide)))) (Eq.trans (zs_ne hmm98 (Or.inl (zc_ne hc0 zq_196 (by decide)))) (zs_ne hmm90 (Or.inr (by decide))))))
                            have r112 : (-2147483648) ≤ (m107 a0 4) ∧ (m107 a0 4) ≤ 2147483647 := zi_rd hIm107 hc0 zb_28_4
                            have e113 : (m107 a0 4) = (m0 a0 4) := (Eq.trans (zs_ne hmm107 (Or.inr (by decide))) (Eq.trans (zs_ne hmm103 (Or.inl (zc_ne hc0 zq_195 (by decide)))) (Eq.trans (zs_ne hmm98 (Or.inl (zc_ne hc0 zq_196 (by decide)))) (Eq.trans (zs_ne hmm90 (Or.inr (by decide))) (Eq.trans (zfr_ap hfm74 hc0 rfl) (Eq.trans (zs_ne hmm73 (Or.inr (by decide))) (Eq.trans (zs_ne hmm49 (Or.inr (by decide))) (Eq.trans (zfr_ap hfm37 hc0 rfl) (Eq.trans (zs_ne hmm36 (Or.inr (by decide))) (Eq.trans (zs_ne hmm13 (Or.inr (by decide))) (zfr_ap hfm7 hc0 rfl)))))))))))
                            exact zw_some ⟨hIm107, hFm107, hRCRm107, hRLRm107, hRNSm107, hRTRm107, hRWDm107, ⟨by omega, by omega⟩, by omega, by omega, by omega⟩
                          · have r114 : (-2147483648) ≤ (m90 a0 42) ∧ (m90 a0 42) ≤ 2147483647 := zi_rd hIm90 hc0 zb_28_42
                            have e115 : (m90 a0 42) = (m37 a0 10) := (Eq.trans (zs_ne hmm90 (Or.inr (by decide))) (Eq.trans (zfr_ap hfm74 hc0 rfl) (Eq.trans (zs_ne hmm73 (Or.inr (by decide))) (zs_eq hmm49))))
                            generalize hmm116 : zu_up m90 a0 10 (m90 a0 42) = m116
                            have hIm116 := zi_up hmm116 hIm90 hc0 zb_28_10 (by omega) (by omega)
                            have hFm116 := zfr_up hmm116 hFm90 hc0 rfl
                            have hRCRm116 := zR_CR_fr (zdis_fr (zfr_up hmm116 (zfr_rf [(28, 11)] _) hc0 rfl) rfl) hRCRm90
                            have hRLRm116 := zR_LR_fr (zdis_fr (zfr_up hmm116 (zfr_rf [(28, 11)] _) hc0 rfl) rfl) hRLRm90
                            have hRNSm116 := zR_NS_fr (zdis_fr (zfr_up hmm116 (zfr_rf [(28, 11)] _) hc0 rfl) rfl) hRNSm90
                            have hRTRm116 := zR_TR_fr (zdis_fr (zfr_up hmm116 (zfr_rf [(28, 11)] _) hc0 rfl) rfl) hRTRm90
                            have hRWDm116 := zR_WD_fr (zdis_fr (zfr_up hmm116 (zfr_rf [(28, 11)] _) hc0 rfl) rfl) hRWDm90
                            refine zw_bd (zw_eq (zu_call_at (zt_T n) (zm_85 n) (zdp_85 n) _ _ _ _ _ rfl (zr_85_0 n _ _ a0 3 m116)) ?_)
                            generalize hmm117 : zu_up m116 a0 4 3 = m117
                            have hIm117 := zi_up hmm117 hIm116 hc0 zb_28_4 (by omega) (by omega)
                            have hFm117 := zfr_up hmm117 hFm116 hc0 rfl
                            have hRCRm117 := zR_CR_fr (zdis_fr (zfr_up hmm117 (zfr_rf [(28, 5)] _) hc0 rfl) rfl) hRCRm116
                            have hRNSm117 := zR_NS_fr (zdis_fr (zfr_up hmm117 (zfr_rf [(28, 5)] _) hc0 rfl) rfl) hRNSm116
                            have hRTRm117 := zR_TR_fr (zdis_fr (zfr_up hmm117 (zfr_rf [(28, 5)] _) hc0 rfl) rfl) hRTRm116
                            have hRWDm117 := zR_WD_fr (zdis_fr (zfr_up hmm117 (zfr_rf [(28, 5)] _) hc0 rfl) rfl) hRWDm116
                            have hRLRm117 := zLR_wr (zone_190 hc0) hmm117 (by decide)
                            have r118 : 0 ≤ (m117 a0 10) ∧ (m117 a0 10) ≤ 700 := zi_rd hIm117 hc0 zb_28_10
                            have e119 : (m117 a0 10) = (m90 a0 42) := (Eq.trans (zs_ne hmm117 (Or.inr (by decide))) (zs_eq hmm116))
                            generalize hmm120 : zu_up m117 a0 5 (m117 a0 10) = m120
                            have hIm120 := zi_up hmm120 hIm117 hc0 zb_28_5 (by omega) (by omega)
                            have hFm120 := zfr_up hmm120 hFm117 hc0 rfl
                            have hRCRm120 := zR_CR_fr (zdis_fr (zfr_up hmm120 (zfr_rf [(28, 6)] _) hc0 rfl) rfl) hRCRm117
                            have hRLRm120 := zR_LR_fr (zdis_fr (zfr_up hmm120 (zfr_rf [(28, 6)] _) hc0 rfl) rfl) hRLRm117
                            have hRNSm120 := zR_NS_fr (zdis_fr (zfr_up hmm120 (zfr_rf [(28, 6)] _) hc0 rfl) rfl) hRNSm117
                            have hRTRm120 := zR_TR_fr (zdis_fr (zfr_up hmm120 (zfr_rf [(28, 6)] _) hc0 rfl) rfl) hRTRm117
                            have hRWDm120 := zR_WD_fr (zdis_fr (zfr_up hmm120 (zfr_rf [(28, 6)] _) hc0 rfl) rfl) hRWDm117
                            refine zw_b (by omega) ?_
                            refine zw_some ?_
                            refine zw_b (by omega) ?_
                            have r121 : 0 ≤ (m120 a0 7) ∧ (m120 a0 7) ≤ 700 := zi_rd hIm120 hc0 zb_28_7
                            have e122 : (m120 a0 7) = (m74 a0 7) := (Eq.trans (zs_ne hmm120 (Or.inr (by decide))) (Eq.trans (zs_ne hmm117 (Or.inr (by decide))) (Eq.trans (zs_ne hmm116 (Or.inr (by decide))) (zs_ne hmm90 (Or.inr (by decide))))))
                            have r123 : 0 ≤ (m120 a0 8) ∧ (m120 a0 8) ≤ 6 := zi_rd hIm120 hc0 zb_28_8
                            have e124 : (m120 a0 8) = (m74 a0 8) := (Eq.trans (zs_ne hmm120 (Or.inr (by decide))) (Eq.trans (zs_ne hmm117 (Or.inr (by decide))) (Eq.trans (zs_ne hmm116 (Or.inr (by decide))) (zs_ne hmm90 (Or.inr (by decide))))))
                            have r125 : (-2147483648) ≤ (m120 a0 4) ∧ (m120 a0 4) ≤ 2147483647 := zi_rd hIm120 hc0 zb_28_4
                            have e126 : (m120 a0 4) = 3 := (Eq.trans (zs_ne hmm120 (Or.inr (by decide))) (zs_eq hmm117))
                            exact zw_some ⟨hIm120, hFm120, hRCRm120, hRLRm120, hRNSm120, hRTRm120, hRWDm120, ⟨by omega, by omega⟩, by omega, by omega, by omega⟩
                        · exfalso; omega
                      · exfalso; omega
                    · exfalso; omega
              · refine zw_bd (zw_eq (zu_call_at (zt_T n) (zm_85 n) (zdp_85 n) _ _ _ _ _ rfl (zr_85_0 n _ _ a0 1 m49)) ?_)
                generalize hmm127 : zu_up m49 a0 4 1 = m127
                have hIm127 := zi_up hmm127 hIm49 hc0 zb_28_4 (by omega) (by omega)
                have hFm127 := zfr_up hmm127 hFm49 hc0 rfl
                have hRCRm127 := zR_CR_fr (zdis_fr (zfr_up hmm127 (zfr_rf [(28, 5)] _) hc0 rfl) rfl) hRCRm49
                have hRNSm127 := zR_NS_fr (zdis_fr (zfr_up hmm127 (zfr_rf [(28, 5)] _) hc0 rfl) rfl) hRNSm49
                have hRTRm127 := zR_TR_fr (zdis_fr (zfr_up hmm127 (zfr_rf [(28, 5)] _) hc0 rfl) rfl) hRTRm49
                have hRWDm127 := zR_WD_fr (zdis_fr (zfr_up hmm127 (zfr_rf [(28, 5)] _) hc0 rfl) rfl) hRWDm49
                have hRLRm127 := zLR_wr (zone_190 hc0) hmm127 (by decide)
                have r128 : 0 ≤ (m127 a0 10) ∧ (m127 a0 10) ≤ 700 := zi_rd hIm127 hc0 zb_28_10
                have e129 : (m127 a0 10) = (m37 a0 10) := (Eq.trans (zs_ne hmm127 (Or.inr (by decide))) (zs_ne hmm49 (Or.inr (by decide))))
                generalize hmm130 : zu_up m127 a0 5 (m127 a0 10) = m130
                have hIm130 := zi_up hmm130 hIm127 hc0 zb_28_5 (by omega) (by omega)
                have hFm130 := zfr_up hmm130 hFm127 hc0 rfl
                have hRCRm130 := zR_CR_fr (zdis_fr (zfr_up hmm130 (zfr_rf [(28, 6)] _) hc0 rfl) rfl) hRCRm127
                have hRLRm130 := zR_LR_fr (zdis_fr (zfr_up hmm130 (zfr_rf [(28, 6)] _) hc0 rfl) rfl) hRLRm127
                have hRNSm130 := zR_NS_fr (zdis_fr (zfr_up hmm130 (zfr_rf [(28, 6)] _) hc0 rfl) rfl) hRNSm127
                have hRTRm130 := zR_TR_fr (zdis_fr (zfr_up hmm130 (zfr_rf [(28, 6)] _) hc0 rfl) rfl) hRTRm127
                have hRWDm130 := zR_WD_fr (zdis_fr (zfr_up hmm130 (zfr_rf [(28, 6)] _) hc0 rfl) rfl) hRWDm127
                refine zw_b (by omega) ?_
                refine zw_some ?_
                refine zw_b (by omega) ?_
                refine zw_some ?_
                refine zw_ite (fun h131 => ?_) (fun h131 => ?_)
                · exfalso; omega
                · refine zw_b (by omega) ?_
                  refine zw_some ?_
                  refine zw_ite (fun h132 => ?_) (fun h132 => ?_)
                  · exfalso; omega
                  · refine zw_b (by omega) ?_
                    have r133 : 0 ≤ (m130 a0 7) ∧ (m130 a0 7) ≤ 700 := zi_rd hIm130 hc0 zb_28_7
                    have e134 : (m130 a0 7) = (m37 a0 7) := (Eq.trans (zs_ne hmm130 (Or.inr (by decide))) (Eq.trans (zs_ne hmm127 (Or.inr (by decide))) (zs_ne hmm49 (Or.inr (by decide)))))
                    have r135 : 0 ≤ (m130 a0 8) ∧ (m130 a0 8) ≤ 6 := zi_rd hIm130 hc0 zb_28_8
                    have e136 : (m130 a0 8) = (m49 a0 8) := (Eq.trans (zs_ne hmm130 (Or.inr (by decide))) (zs_ne hmm127 (Or.inr (by decide))))
                    have r137 : (-2147483648) ≤ (m130 a0 4) ∧ (m130 a0 4) ≤ 2147483647 := zi_rd hIm130 hc0 zb_28_4
                    have e138 : (m130 a0 4) = 1 := (Eq.trans (zs_ne hmm130 (Or.inr (by decide))) (zs_eq hmm127))
                    exact zw_some ⟨hIm130, hFm130, hRCRm130, hRLRm130, hRNSm130, hRTRm130, hRWDm130, ⟨by omega, by omega⟩, by omega, by omega, by omega⟩
            · exfalso; omega
          · exfalso; omega
    · refine zw_bd (zw_eq (zu_call_at (zt_T n) (zm_85 n) (zdp_85 n) _ _ _ _ _ rfl (zr_85_0 n _ _ a0 1 m13)) ?_)
      generalize hmm139 : zu_up m13 a0 4 1 = m139
      have hIm139 := zi_up hmm139 hIm13 hc0 zb_28_4 (by omega) (by omega)
      have hFm139 := zfr_up hmm139 hFm13 hc0 rfl
      have hRCRm139 := zR_CR_fr (zdis_fr (zfr_up hmm139 (zfr_rf [(28, 5)] _) hc0 rfl) rfl) hRCRm13
      have hRNSm139 := zR_NS_fr (zdis_fr (zfr_up hmm139 (zfr_rf [(28, 5)] _) hc0 rfl) rfl) hRNSm13
      have hRTRm139 := zR_TR_fr (zdis_fr (zfr_up hmm139 (zfr_rf [(28, 5)] _) hc0 rfl) rfl) hRTRm13
      have hRWDm139 := zR_WD_fr (zdis_fr (zfr_up hmm139 (zfr_rf [(28, 5)] _) hc0 rfl) rfl) hRWDm13
      have hRLRm139 := zLR_wr (zone_190 hc0) hmm139 (by decide)
      have r140 : 0 ≤ (m139 a0 10) ∧ (m139 a0 10) ≤ 700 := zi_rd hIm139 hc0 zb_28_10
      generalize hmm141 : zu_up m139 a0 5 (m139 a0 10) = m141
      have hIm141 := zi_up hmm141 hIm139 hc0 zb_28_5 (by omega) (by omega)
      have hFm141 := zfr_up hmm141 hFm139 hc0 rfl
      have hRCRm141 := zR_CR_fr (zdis_fr (zfr_up hmm141 (zfr_rf [(28, 6)] _) hc0 rfl) rfl) hRCRm139
      have hRLRm141 := zR_LR_fr (zdis_fr (zfr_up hmm141 (zfr_rf [(28, 6)] _) hc0 rfl) rfl) hRLRm139
      have hRNSm141 := zR_NS_fr (zdis_fr (zfr_up hmm141 (zfr_rf [(28, 6)] _) hc0 rfl) rfl) hRNSm139
      have hRTRm141 := zR_TR_fr (zdis_fr (zfr_up hmm141 (zfr_rf [(28, 6)] _) hc0 rfl) rfl) hRTRm139
      have hRWDm141 := zR_WD_fr (zdis_fr (zfr_up hmm141 (zfr_rf [(28, 6)] _) hc0 rfl) rfl) hRWDm139
      refine zw_b (by omega) ?_
      refine zw_some ?_
      refine zw_b (by omega) ?_
      refine zw_some ?_
      refine zw_ite (fun h142 => ?_) (fun h142 => ?_)
      · exfalso; omega
      · refine zw_b (by omega) ?_
        refine zw_some ?_
        refine zw_ite (fun h143 => ?_) (fun h143 => ?_)
        · exfalso; omega
        · refine zw_b (by omega) ?_
          have r144 : 0 ≤ (m141 a0 7) ∧ (m141 a0 7) ≤ 700 := zi_rd hIm141 hc0 zb_28_7
          have e145 : (m141 a0 7) = (m7 a0 7) := (Eq.trans (zs_ne hmm141 (Or.inr (by decide))) (Eq.trans (zs_ne hmm139 (Or.inr (by decide))) (zs_ne hmm13 (Or.inr (by decide)))))
          have r146 : 0 ≤ (m141 a0 8) ∧ (m141 a0 8) ≤ 6 := zi_rd hIm141 hc0 zb_28_8
          have e147 : (m141 a0 8) = (m13 a0 8) := (Eq.trans (zs_ne hmm141 (Or.inr (by decide))) (zs_ne hmm139 (Or.inr (by decide))))
          have r148 : (-2147483648) ≤ (m141 a0 4) ∧ (m141 a0 4) ≤ 2147483647 := zi_rd hIm141 hc0 zb_28_4
          have e149 : (m141 a0 4) = 1 := (Eq.trans (zs_ne hmm141 (Or.inr (by decide))) (zs_eq hmm139))
          exact zw_some ⟨hIm141, hFm141, hRCRm141, hRLRm141, hRNSm141, hRTRm141, hRWDm141, ⟨by omega, by omega⟩, by omega, by omega, by omega⟩
  · refine zw_bd (zw_eq (zu_call_at (zt_T n) (zm_85 n) (zdp_85 n) _ _ _ _ _ rfl (zr_85_0 n _ _ a0 2 m0)) ?_)
    generalize hmm150 : zu_up m0 a0 4 2 = m150
    have hIm150 := zi_up hmm150 hIm0 hc0 zb_28_4 (by omega) (by omega)
    have hFm150 := zfr_up hmm150 hFm0 hc0 rfl
    have hRCRm150 := zR_CR_fr (zdis_fr (zfr_up hmm150 (zfr_rf [(28, 5)] _) hc0 rfl) rfl) hRCRm0
    have hRNSm150 := zR_NS_fr (zdis_fr (zfr_up hmm150 (zfr_rf [(28, 5)] _) hc0 rfl) rfl) hRNSm0
    have hRTRm150 := zR_TR_fr (zdis_fr (zfr_up hmm150 (zfr_rf [(28, 5)] _) hc0 rfl) rfl) hRTRm0
    have hRWDm150 := zR_WD_fr (zdis_fr (zfr_up hmm150 (zfr_rf [(28, 5)] _) hc0 rfl) rfl) hRWDm0
    have hRLRm150 := zLR_wr (zone_190 hc0) hmm150 (by decide)
    have r151 : 0 ≤ (m150 a0 10) ∧ (m150 a0 10) ≤ 700 := zi_rd hIm150 hc0 zb_28_10
    generalize hmm152 : zu_up m150 a0 5 (m150 a0 10) = m152
    have hIm152 := zi_up hmm152 hIm150 hc0 zb_28_5 (by omega) (by omega)
    have hFm152 := zfr_up hmm152 hFm150 hc0 rfl
    have hRCRm152 := zR_CR_fr (zdis_fr (zfr_up hmm152 (zfr_rf [(28, 6)] _) hc0 rfl) rfl) hRCRm150
    have hRLRm152 := zR_LR_fr (zdis_fr (zfr_up hmm152 (zfr_rf [(28, 6)] _) hc0 rfl) rfl) hRLRm150
    have hRNSm152 := zR_NS_fr (zdis_fr (zfr_up hmm152 (zfr_rf [(28, 6)] _) hc0 rfl) rfl) hRNSm150
    have hRTRm152 := zR_TR_fr (zdis_fr (zfr_up hmm152 (zfr_rf [(28, 6)] _) hc0 rfl) rfl) hRTRm150
    have hRWDm152 := zR_WD_fr (zdis_fr (zfr_up hmm152 (zfr_rf [(28, 6)] _) hc0 rfl) rfl) hRWDm150
    refine zw_b (by omega) ?_
    refine zw_some ?_
    refine zw_b (by omega) ?_
    have r153 : 0 ≤ (m152 a0 7) ∧ (m152 a0 7) ≤ 700 := zi_rd hIm152 hc0 zb_28_7
    have e154 : (m152 a0 7) = (m0 a0 7) := (Eq.trans (zs_ne hmm152 (Or.inr (by decide))) (zs_ne hmm150 (Or.inr (by decide))))
    have r155 : 0 ≤ (m152 a0 8) ∧ (m152 a0 8) ≤ 6 := zi_rd hIm152 hc0 zb_28_8
    have e156 : (m152 a0 8) = (m0 a0 8) := (Eq.trans (zs_ne hmm152 (Or.inr (by decide))) (zs_ne hmm150 (Or.inr (by decide))))
    have r157 : (-2147483648) ≤ (m152 a0 4) ∧ (m152 a0 4) ≤ 2147483647 := zi_rd hIm152 hc0 zb_28_4
    have e158 : (m152 a0 4) = 2 := (Eq.trans (zs_ne hmm152 (Or.inr (by decide))) (zs_eq hmm150))
    exact zw_some ⟨hIm152, hFm152, hRCRm152, hRLRm152, hRNSm152, hRTRm152, hRWDm152, ⟨by omega, by omega⟩, by omega, by omega, by omega⟩
set_option maxHeartbeats 4000000 in
theorem zk_101 (n : Nat) {a0 : Int} {m0 : zu_m} (hIm0 : zi_I m0) (hc0 : zcls a0 = 28)   (he0 : 1 ≤ m0 a0 8 ∧ m0 a0 8 ≤ 1) (he1 : 4 ≤ m0 a0 9 ∧ m0 a0 9 ≤ 4)  (hRCRm0 : zR_CR m0) (hRLRm0 : zR_LR m0) (hRNSm0 : zR_NS m0) (hRTRm0 : zR_TR m0) (hRWDm0 : zR_WD m0) : zw (zu_call (zt_T n) 101 [(40, a0)] m0) (fun v m => zi_I m ∧ zfr [(28, 5), (28, 6), (28, 8), (28, 9), (28, 10), (28, 11), (28, 12), (28, 20), (28, 24), (28, 43), (106, 0), (107, 0), (108, 0)] m0 m ∧ zR_CR m ∧ zR_LR m ∧ zR_NS m ∧ zR_TR m ∧ zR_WD m ∧ (0 ≤ v ∧ v ≤ 1) ∧ ((m0 a0 7) ≤ (m a0 7)) ∧ (v = 1 → ((m a0 8) = 0 ∨ (m0 a0 7) < (m a0 7))) ∧ (v = 1 → (m a0 4) = (m0 a0 4))) := by
  have hFm0 : zfr [(28, 5), (28, 6), (28, 8), (28, 9), (28, 10), (28, 11), (28, 12), (28, 20), (28, 24), (28, 43), (106, 0), (107, 0), (108, 0)] m0 m0 := zfr_rf _ _
  have r1 : 0 ≤ (m0 a0 7) ∧ (m0 a0 7) ≤ 700 := zi_rd hIm0 hc0 zb_28_7
  have r2 : (-2147483648) ≤ (m0 a0 4) ∧ (m0 a0 4) ≤ 2147483647 := zi_rd hIm0 hc0 zb_28_4
  have s3 := hRNSm0 a0 hc0
  have s4 := hRTRm0 a0 hc0
  refine zw_eq (zu_call_at (zt_T n) (zm_101 n) (zdp_101 n) _ _ _ _ _ rfl (zr_101_0 n _ _ a0 m0)) ?_
  have r5 : 0 ≤ (m0 a0 19) ∧ (m0 a0 19) ≤ 12 := zi_rd hIm0 hc0 zb_28_19
  refine zw_ite (fun h6 => ?_) (fun h6 => ?_)
  · refine zw_bd (zw_mono (zk_89 n hIm0 hc0 hRNSm0 hRWDm0) (fun v8 m7 hqm7 => ?_))
    obtain ⟨hIm7, hfm7, hvm7⟩ := hqm7
    have hFm7 := zfr_tr hFm0 hfm7 rfl
    obtain ⟨hRNSm7, hRTRm7, hRWDm7, hvm7⟩ := hvm7
    have hRCRm7 := zR_CR_fr (zdis_fr hfm7 rfl) hRCRm0
    have hRLRm7 := zR_LR_fr (zdis_fr hfm7 rfl) hRLRm0
    have s9 := hRNSm7 a0 hc0
    have s10 := hRTRm7 a0 hc0
    have r11 : 0 ≤ (m7 a0 7) ∧ (m7 a0 7) ≤ 700 := zi_rd hIm7 hc0 zb_28_7
    have r12 : 0 ≤ (m7 a0 8) ∧ (m7 a0 8) ≤ 6 := zi_rd hIm7 hc0 zb_28_8
    have r13 : 0 ≤ (m7 a0 19) ∧ (m7 a0 19) ≤ 12 := zi_rd hIm7 hc0 zb_28_19
    have e14 : (m7 a0 19) = (m0 a0 19) := (zfr_ap hfm7 hc0 rfl)
    have w15 := zu_w32_id (z := 18 + (m7 a0 19)) (by omega) (by omega)
    refine zw_bd (zw_eq (zu_call_at (zt_T n) (zm_97 n) (zdp_97 n) _ _ _ _ _ rfl (zr_97_0 n _ _ a0 12 15 m7)) ?_)
    refine zw_ite (fun h16 => ?_) (fun h16 => ?_)
    · refine zw_bd (zw_eq (zu_call_at (zt_T n) (zm_85 n) (zdp_85 n) _ _ _ _ _ rfl (zr_85_0 n _ _ a0 1 m7)) ?_)
      generalize hmm17 : zu_up m7 a0 4 1 = m17
      have hIm17 := zi_up hmm17 hIm7 hc0 zb_28_4 (by omega) (by omega)
      have hFm17 := zfr_up hmm17 hFm7 hc0 rfl
      have hRCRm17 := zR_CR_fr (zdis_fr (zfr_up hmm17 (zfr_rf [(28, 5)] _) hc0 rfl) rfl) hRCRm7
      have hRNSm17 := zR_NS_fr (zdis_fr (zfr_up hmm17 (zfr_rf [(28, 5)] _) hc0 rfl) rfl) hRNSm7
      have hRTRm17 := zR_TR_fr (zdis_fr (zfr_up hmm17 (zfr_rf [(28, 5)] _) hc0 rfl) rfl) hRTRm7
      have hRWDm17 := zR_WD_fr (zdis_fr (zfr_up hmm17 (zfr_rf [(28, 5)] _) hc0 rfl) rfl) hRWDm7
      have hRLRm17 := zLR_wr (zone_190 hc0) hmm17 (by decide)
      have r18 : 0 ≤ (m17 a0 10) ∧ (m17 a0 10) ≤ 700 := zi_rd hIm17 hc0 zb_28_10
      generalize hmm19 : zu_up m17 a0 5 (m17 a0 10) = m19
      have hIm19 := zi_up hmm19 hIm17 hc0 zb_28_5 (by omega) (by omega)
      have hFm19 := zfr_up hmm19 hFm17 hc0 rfl
      have hRCRm19 := zR_CR_fr (zdis_fr (zfr_up hmm19 (zfr_rf [(28, 6)] _) hc0 rfl) rfl) hRCRm17
      have hRLRm19 := zR_LR_fr (zdis_fr (zfr_up hmm19 (zfr_rf [(28, 6)] _) hc0 rfl) rfl) hRLRm17
      have hRNSm19 := zR_NS_fr (zdis_fr (zfr_up hmm19 (zfr_rf [(28, 6)] _) hc0 rfl) rfl) hRNSm17
      have hRTRm19 := zR_TR_fr (zdis_fr (zfr_up hmm19 (zfr_rf [(28, 6)] _) hc0 rfl) rfl) hRTRm17
      have hRWDm19 := zR_WD_fr (zdis_fr (zfr_up hmm19 (zfr_rf [(28, 6)] _) hc0 rfl) rfl) hRWDm17
      refine zw_b (by omega) ?_
      refine zw_some ?_
      refine zw_b (by omega) ?_
      refine zw_some ?_
      refine zw_ite (fun h20 => ?_) (fun h20 => ?_)
      · exfalso; omega
      · refine zw_b (by omega) ?_
        have r21 : 0 ≤ (m19 a0 7) ∧ (m19 a0 7) ≤ 700 := zi_rd hIm19 hc0 zb_28_7
        have e22 : (m19 a0 7) = (m7 a0 7) := (Eq.trans (zs_ne hmm19 (Or.inr (by decide))) (zs_ne hmm17 (Or.inr (by decide))))
        have r23 : 0 ≤ (m19 a0 8) ∧ (m19 a0 8) ≤ 6 := zi_rd hIm19 hc0 zb_28_8
        have e24 : (m19 a0 8) = (m7 a0 8) := (Eq.trans (zs_ne hmm19 (Or.inr (by decide))) (zs_ne hmm17 (Or.inr (by decide))))
        have r25 : (-2147483648) ≤ (m19 a0 4) ∧ (m19 a0 4) ≤ 2147483647 := zi_rd hIm19 hc0 zb_28_4
        have e26 : (m19 a0 4) = 1 := (Eq.trans (zs_ne hmm19 (Or.inr (by decide))) (zs_eq hmm17))
        exact zw_some ⟨hIm19, hFm19, hRCRm19, hRLRm19, hRNSm19, hRTRm19, hRWDm19, ⟨by omega, by omega⟩, by omega, by omega, by omega⟩
    · refine zw_ite (fun h27 => ?_) (fun h27 => ?_)
      · refine zw_bd (zw_eq (zu_call_at (zt_T n) (zm_85 n) (zdp_85 n) _ _ _ _ _ rfl (zr_85_0 n _ _ a0 1 m7)) ?_)
        generalize hmm28 : zu_up m7 a0 4 1 = m28
        have hIm28 := zi_up hmm28 hIm7 hc0 zb_28_4 (by omega) (by omega)
        have hFm28 := zfr_up hmm28 hFm7 hc0 rfl
        have hRCRm28 := zR_CR_fr (zdis_fr (zfr_up hmm28 (zfr_rf [(28, 5)] _) hc0 rfl) rfl) hRCRm7
        have hRNSm28 := zR_NS_fr (zdis_fr (zfr_up hmm28 (zfr_rf [(28, 5)] _) hc0 rfl) rfl) hRNSm7
        have hRTRm28 := zR_TR_fr (zdis_fr (zfr_up hmm28 (zfr_rf [(28, 5)] _) hc0 rfl) rfl) hRTRm7
        have hRWDm28 := zR_WD_fr (zdis_fr (zfr_up hmm28 (zfr_rf [(28, 5)] _) hc0 rfl) rfl) hRWDm7
        have hRLRm28 := zLR_wr (zone_190 hc0) hmm28 (by decide)
        have r29 : 0 ≤ (m28 a0 10) ∧ (m28 a0 10) ≤ 700 := zi_rd hIm28 hc0 zb_28_10
        generalize hmm30 : zu_up m28 a0 5 (m28 a0 10) = m30
        have hIm30 := zi_up hmm30 hIm28 hc0 zb_28_5 (by omega) (by omega)
        have hFm30 := zfr_up hmm30 hFm28 hc0 rfl
        have hRCRm30 := zR_CR_fr (zdis_fr (zfr_up hmm30 (zfr_rf [(28, 6)] _) hc0 rfl) rfl) hRCRm28
        have hRLRm30 := zR_LR_fr (zdis_fr (zfr_up hmm30 (zfr_rf [(28, 6)] _) hc0 rfl) rfl) hRLRm28
        have hRNSm30 := zR_NS_fr (zdis_fr (zfr_up hmm30 (zfr_rf [(28, 6)] _) hc0 rfl) rfl) hRNSm28
        have hRTRm30 := zR_TR_fr (zdis_fr (zfr_up hmm30 (zfr_rf [(28, 6)] _) hc0 rfl) rfl) hRTRm28
        have hRWDm30 := zR_WD_fr (zdis_fr (zfr_up hmm30 (zfr_rf [(28, 6)] _) hc0 rfl) rfl) hRWDm28
        refine zw_b (by omega) ?_
        refine zw_some ?_
        refine zw_b (by omega) ?_
        refine zw_some ?_
        refine zw_ite (fun h31 => ?_) (fun h31 => ?_)
        · exfalso; omega
        · refine zw_b (by omega) ?_
          have r32 : 0 ≤ (m30 a0 7) ∧ (m30 a0 7) ≤ 700 := zi_rd hIm30 hc0 zb_28_7
          have e33 : (m30 a0 7) = (m7 a0 7) := (Eq.trans (zs_ne hmm30 (Or.inr (by decide))) (zs_ne hmm28 (Or.inr (by decide))))
          have r34 : 0 ≤ (m30 a0 8) ∧ (m30 a0 8) ≤ 6 := zi_rd hIm30 hc0 zb_28_8
          have e35 : (m30 a0 8) = (m7 a0 8) := (Eq.trans (zs_ne hmm30 (Or.inr (by decide))) (zs_ne hmm28 (Or.inr (by decide))))
          have r36 : (-2147483648) ≤ (m30 a0 4) ∧ (m30 a0 4) ≤ 2147483647 := zi_rd hIm30 hc0 zb_28_4
          have e37 : (m30 a0 4) = 1 := (Eq.trans (zs_ne hmm30 (Or.inr (by decide))) (zs_eq hmm28))
          exact zw_some ⟨hIm30, hFm30, hRCRm30, hRLRm30, hRNSm30, hRTRm30, hRWDm30, ⟨by omega, by omega⟩, by omega, by omega, by omega⟩
      · refine zw_ite (fun h38 => ?_) (fun h38 => ?_)
        · have w39 := zu_w32_id (z := (m7 a0 9) - 12) (by omega) (by omega)
          refine zw_bd (zw_mono (zk_89 n hIm7 hc0 hRNSm7 hRWDm7) (fun v41 m40 hqm40 => ?_))
          obtain ⟨hIm40, hfm40, hvm40⟩ := hqm40
          have hFm40 := zfr_tr hFm7 hfm40 rfl
          obtain ⟨hRNSm40, hRTRm40, hRWDm40, hvm40⟩ := hvm40
          have hRCRm40 := zR_CR_fr (zdis_fr hfm40 rfl) hRCRm7
          have hRLRm40 := zR_LR_fr (zdis_fr hfm40 rfl) hRLRm7
          have s42 := hRNSm40 a0 hc0
          have s43 := hRTRm40 a0 hc0
          have r44 : 0 ≤ (m40 a0 7) ∧ (m40 a0 7) ≤ 700 := zi_rd hIm40 hc0 zb_28_7
          have r45 : 0 ≤ (m40 a0 8) ∧ (m40 a0 8) ≤ 6 := zi_rd hIm40 hc0 zb_28_8
          generalize hmm46 : zu_up m40 a0 11 (zu_w32 ((m7 a0 9) - 12)) = m46
          have hIm46 := zi_up hmm46 hIm40 hc0 zb_28_11 (by omega) (by omega)
          have hFm46 := zfr_up hmm46 hFm40 hc0 rfl
          have hRCRm46 := zR_CR_fr (zdis_fr (zfr_up hmm46 (zfr_rf [(28, 12)] _) hc0 rfl) rfl) hRCRm40
          have hRLRm46 := zR_LR_fr (zdis_fr (zfr_up hmm46 (zfr_rf [(28, 12)] _) hc0 rfl) rfl) hRLRm40
          have hRNSm46 := zR_NS_fr (zdis_fr (zfr_up hmm46 (zfr_rf [(28, 12)] _) hc0 rfl) rfl) hRNSm40
          have hRTRm46 := zR_TR_fr (zdis_fr (zfr_up hmm46 (zfr_rf [(28, 12)] _) hc0 rfl) rfl) hRTRm40
          have hRWDm46 := zR_WD_fr (zdis_fr (zfr_up hmm46 (zfr_rf [(28, 12)] _) hc0 rfl) rfl) hRWDm40
          refine zw_b (by omega) ?_
          refine zw_some ?_
          refine zw_ite (fun h47 => ?_) (fun h47 => ?_)
          · have r48 : (-2147483648) ≤ (m46 a0 11) ∧ (m46 a0 11) ≤ 2147483647 := zi_rd hIm46 hc0 zb_28_11
            have e49 : (m46 a0 11) = (zu_w32 ((m7 a0 9) - 12)) := (zs_eq hmm46)
            have b50 : 0 ≤ (zu_w32 (18 + (m7 a0 19))) ∧ (zu_w32 (18 + (m7 a0 19))) < 36 := by omega
            refine zw_if b50 ?_
            generalize hmm51 : zu_up m46 198 (zu_w32 (18 + (m7 a0 19))) (m46 a0 11) = m51
            have hIm51 := zi_up hmm51 hIm46 zq_198 (zb_107 _) (by omega) (by omega)
            have hFm51 := zfr_up hmm51 hFm46 zq_198 rfl
            have hRCRm51 := zR_CR_fr (zdis_fr (zfr_up hmm51 (zfr_rf [(107, 0)] _) zq_198 rfl) rfl) hRCRm46
            have hRLRm51 := zR_LR_fr (zdis_fr (zfr_up hmm51 (zfr_rf [(107, 0)] _) zq_198 rfl) rfl) hRLRm46
            have hRNSm51 := zR_NS_fr (zdis_fr (zfr_up hmm51 (zfr_rf [(107, 0)] _) zq_198 rfl) rfl) hRNSm46
            have hRTRm51 := zR_TR_fr (zdis_fr (zfr_up hmm51 (zfr_rf [(107, 0)] _) zq_198 rfl) rfl) hRTRm46
            have hRWDm51 := zR_WD_fr (zdis_fr (zfr_up hmm51 (zfr_rf [(107, 0)] _) zq_198 rfl) rfl) hRWDm46
            refine zw_bd (zw_eq (zu_call_at (zt_T n) (zm_96 n) (zdp_96 n) _ _ _ _ _ rfl (zr_96_0 n _ _ a0 m51)) ?_)
            refine zw_b (by omega) ?_
            generalize hmm52 : zu_up m51 a0 23 1 = m52
            have hIm52 := zi_up hmm52 hIm51 hc0 zb_28_23 (by omega) (by omega)
            have hFm52 := zfr_up hmm52 hFm51 hc0 rfl
            have hRLRm52 := zR_LR_fr (zdis_fr (zfr_up hmm52 (zfr_rf [(28, 24)] _) hc0 rfl) rfl) hRLRm51
            have hRNSm52 := zR_NS_fr (zdis_fr (zfr_up hmm52 (zfr_rf [(28, 24)] _) hc0 rfl) rfl) hRNSm51
            have hRTRm52 := zR_TR_fr (zdis_fr (zfr_up hmm52 (zfr_rf [(28, 24)] _) hc0 rfl) rfl) hRTRm51
            have hRWDm52 := zR_WD_fr (zdis_fr (zfr_up hmm52 (zfr_rf [(28, 24)] _) hc0 rfl) rfl) hRWDm51
            have hRCRm52 := zCR_cells (zone_190 hc0) hmm52 rfl hRCRm51
            have r53 : 1 ≤ (m52 a0 17) ∧ (m52 a0 17) ≤ 8 := zi_rd hIm52 hc0 zb_28_17
            have w54 := zu_w32_id (z := (m52 a0 17) - 1) (by omega) (by omega)
            refine zw_bd (zw_eq (zu_call_at (zt_T n) (zm_94 n) (zdp_94 n) _ _ _ _ _ rfl (zr_94_0 n _ _ a0 0 (zu_w32 ((m52 a0 17) - 1)) m52)) ?_)
            have r55 : 0 ≤ (m52 a0 8) ∧ (m52 a0 8) ≤ 6 := zi_rd hIm52 hc0 zb_28_8
            have e56 : (m52 a0 8) = (m40 a0 8) := (Eq.trans (zs_ne hmm52 (Or.inr (by decide))) (Eq.trans (zs_ne hmm51 (Or.inl (zc_ne hc0 zq_198 (by decide)))) (zs_ne hmm46 (Or.inr (by decide)))))
            refine zw_ite (fun h57 => ?_) (fun h57 => ?_)
            · have r58 : (-2147483648) ≤ (m52 a0 9) ∧ (m52 a0 9) ≤ 2147483647 := zi_rd hIm52 hc0 zb_28_9
              have e59 : (m52 a0 9) = (m40 a0 9) := (Eq.trans (zs_ne hmm52 (Or.inr (by decide))) (Eq.trans (zs_ne hmm51 (Or.inl (zc_ne hc0 zq_198 (by decide)))) (zs_ne hmm46 (Or.inr (by decide)))))
              refine zw_bd (zw_eq (zu_call_at (zt_T n) (zm_83 n) (zdp_83 n) _ _ _ _ _ rfl (zr_83_0 n _ _ (m52 a0 9) 0 (zu_w32 ((m52 a0 17) - 1)) m52)) ?_)
              refine zw_ite (fun h60 => ?_) (fun h60 => ?_)
              · exfalso; omega
              · refine zw_ite (fun h61 => ?_) (fun h61 => ?_)
                · refine zw_b (by omega) ?_
                  refine zw_some ?_
                  refine zw_ite (fun h62 => ?_) (fun h62 => ?_)
                  · exfalso; omega
                  · refine zw_bd (zw_eq (zu_call_at (zt_T n) (zm_85 n) (zdp_85 n) _ _ _ _ _ rfl (zr_85_0 n _ _ a0 2 m52)) ?_)
                    generalize hmm63 : zu_up m52 a0 4 2 = m63
                    have hIm63 := zi_up hmm63 hIm52 hc0 zb_28_4 (by omega) (by omega)
                    have hFm63 := zfr_up hmm63 hFm52 hc0 rfl
                    have hRCRm63 := zR_CR_fr (zdis_fr (zfr_up hmm63 (zfr_rf [(28, 5)] _) hc0 rfl) rfl) hRCRm52
                    have hRNSm63 := zR_NS_fr (zdis_fr (zfr_up hmm63 (zfr_rf [(28, 5)] _) hc0 rfl) rfl) hRNSm52
                    have hRTRm63 := zR_TR_fr (zdis_fr (zfr_up hmm63 (zfr_rf [(28, 5)] _) hc0 rfl) rfl) hRTRm52
                    have hRWDm63 := zR_WD_fr (zdis_fr (zfr_up hmm63 (zfr_rf [(28, 5)] _) hc0 rfl) rfl) hRWDm52
                    have hRLRm63 := zLR_wr (zone_190 hc0) hmm63 (by decide)
                    have r64 : 0 ≤ (m63 a0 10) ∧ (m63 a0 10) ≤ 700 := zi_rd hIm63 hc0 zb_28_10
                    generalize hmm65 : zu_up m63 a0 5 (m63 a0 10) = m65
                    have hIm65 := zi_up hmm65 hIm63 hc0 zb_28_5 (by omega) (by omega)
                    have hFm65 := zfr_up hmm65 hFm63 hc0 rfl
                    have hRCRm65 := zR_CR_fr (zdis_fr (zfr_up hmm65 (zfr_rf [(28, 6)] _) hc0 rfl) rfl) hRCRm63
                    have hRLRm65 := zR_LR_fr (zdis_fr (zfr_up hmm65 (zfr_rf [(28, 6)] _) hc0 rfl) rfl) hRLRm63
                    have hRNSm65 := zR_NS_fr (zdis_fr (zfr_up hmm65 (zfr_rf [(28, 6)] _) hc0 rfl) rfl) hRNSm63
                    have hRTRm65 := zR_TR_fr (zdis_fr (zfr_up hmm65 (zfr_rf [(28, 6)] _) hc0 rfl) rfl) hRTRm63
                    have hRWDm65 := zR_WD_fr (zdis_fr (zfr_up hmm65 (zfr_rf [(28, 6)] _) hc0 rfl) rfl) hRWDm63
                    refine zw_b (by omega) ?_
                    refine zw_some ?_
                    refine zw_b (by omega) ?_
                    refine zw_some ?_
                    refine zw_ite (fun h66 => ?_) (fun h66 => ?_)
                    · exfalso; omega
                    · refine zw_b (by omega) ?_
                      refine zw_some ?_
                      refine zw_ite (fun h67 => ?_) (fun h67 => ?_)
                      · exfalso; omega
                      · refine zw_b (by omega) ?_
                        have r68 : 0 ≤ (m65 a0 7) ∧ (m65 a0 7) ≤ 700 := zi_rd hIm65 hc0 zb_28_7
                        have e69 : (m65 a0 7) = (m40 a0 7) := (Eq.trans (zs_ne hmm65 (Or.inr (by decide))) (Eq.trans (zs_ne hmm63 (Or.inr (by decide))) (Eq.trans (zs_ne hmm52 (Or.inr (by decide))) (Eq.trans (zs_ne hmm51 (Or.inl (zc_ne hc0 zq_198 (by decide)))) (zs_ne hmm46 (Or.inr (by decide)))))))
                        have r70 : 0 ≤ (m65 a0 8) ∧ (m65 a0 8) ≤ 6 := zi_rd hIm65 hc0 zb_28_8
                        have e71 : (m65 a0 8) = (m52 a0 8) := (Eq.trans (zs_ne hmm65 (Or.inr (by decide))) (zs_ne hmm63 (Or.inr (by decide))))
                        have r72 : (-2147483648) ≤ (m65 a0 4) ∧ (m65 a0 4) ≤ 2147483647 := zi_rd hIm65 hc0 zb_28_4
                        have e73 : (m65 a0 4) = 2 := (Eq.trans (zs_ne hmm65 (Or.inr (by decide))) (zs_eq hmm63))
                        exact zw_some ⟨hIm65, hFm65, hRCRm65, hRLRm65, hRNSm65, hRTRm65, hRWDm65, ⟨by omega, by omega⟩, by omega, by omega, by omega⟩
                · refine zw_b (by omega) ?_
                  refine zw_some ?_
                  refine zw_ite (fun h74 => ?_) (fun h74 => ?_)
                  · generalize hmm75 : zu_up m52 a0 11 (m52 a0 9) = m75
                    have hIm75 := zi_up hmm75 hIm52 hc0 zb_28_11 (by omega) (by omega)
                    have hFm75 := zfr_up hmm75 hFm52 hc0 rfl
                    have hRCRm75 := zR_CR_fr (zdis_fr (zfr_up hmm75 (zfr_rf [(28, 12)] _) hc0 rfl) rfl) hRCRm52
                    have hRLRm75 := zR_LR_fr (zdis_fr (zfr_up hmm75 (zfr_rf [(28, 12)] _) hc0 rfl) rfl) hRLRm52
                    have hRNSm75 := zR_NS_fr (zdis_fr (zfr_up hmm75 (zfr_rf [(28, 12)] _) hc0 rfl) rfl) hRNSm52
                    have hRTRm75 := zR_TR_fr (zdis_fr (zfr_up hmm75 (zfr_rf [(28, 12)] _) hc0 rfl) rfl) hRTRm52
                    have hRWDm75 := zR_WD_fr (zdis_fr (zfr_up hmm75 (zfr_rf [(28, 12)] _) hc0 rfl) rfl) hRWDm52
                    have r78 : 0 ≤ (m75 a0 7) ∧ (m75 a0 7) ≤ 700 := zi_rd hIm75 hc0 zb_28_7
                    have e79 : (m75 a0 7) = (m40 a0 7) := (Eq.trans (zs_ne hmm75 (Or.inr (by decide))) (Eq.trans (zs_ne hmm52 (Or.inr (by decide))) (Eq.trans (zs_ne hmm51 (Or.inl (zc_ne hc0 zq_198 (by decide)))) (zs_ne hmm46 (Or.inr (by decide))))))
                    refine zw_bd (zw_mono (zk_89 n hIm75 hc0 hRNSm75 hRWDm75) (fun v77 m76 hqm76 => ?_))
                    obtain ⟨hIm76, hfm76, hvm76⟩ := hqm76
                    have hFm76 := zfr_tr hFm75 hfm76 rfl
                    obtain ⟨hRNSm76, hRTRm76, hRWDm76, hvm76⟩ := hvm76
                    have hRCRm76 := zR_CR_fr (zdis_fr hfm76 rfl) hRCRm75
                    have hRLRm76 := zR_LR_fr (zdis_fr hfm76 rfl) hRLRm75
                    have s80 := hRNSm76 a0 hc0
                    have s81 := hRTRm76 a0 hc0
                    have r82 : 0 ≤ (m76 a0 7) ∧ (m76 a0 7) ≤ 700 := zi_rd hIm76 hc0 zb_28_7
                    have r83 : 0 ≤ (m76 a0 8) ∧ (m76 a0 8) ≤ 6 := zi_rd hIm76 hc0 zb_28_8
                    refine zw_b (by omega) ?_
                    refine zw_some ?_
                    refine zw_ite (fun h84 => ?_) (fun h84 => ?_)
                    · have r85 : (-2147483648) ≤ (m76 a0 11) ∧ (m76 a0 11) ≤ 2147483647 := zi_rd hIm76 hc0 zb_28_11
                      have e86 : (m76 a0 11) = (m52 a0 9) := (Eq.trans (zfr_ap hfm76 hc0 rfl) (zs_eq hmm75))
                      have r87 : 0 ≤ (m76 a0 10) ∧ (m76 a0 10) ≤ 700 := zi_rd hIm76 hc0 zb_28_10
                      generalize hmm88 : zu_up m76 a0 42 (m76 a0 10) = m88
                      have hIm88 := zi_up hmm88 hIm76 hc0 zb_28_42 (by omega) (by omega)
                      have hFm88 := zfr_up hmm88 hFm76 hc0 rfl
                      have hRCRm88 := zR_CR_fr (zdis_fr (zfr_up hmm88 (zfr_rf [(28, 43)] _) hc0 rfl) rfl) hRCRm76
                      have hRLRm88 := zR_LR_fr (zdis_fr (zfr_up hmm88 (zfr_rf [(28, 43)] _) hc0 rfl) rfl) hRLRm76
                      have hRNSm88 := zR_NS_fr (zdis_fr (zfr_up hmm88 (zfr_rf [(28, 43)] _) hc0 rfl) rfl) hRNSm76
                      have hRTRm88 := zR_TR_fr (zdis_fr (zfr_up hmm88 (zfr_rf [(28, 43)] _) hc0 rfl) rfl) hRTRm76
                      have hRWDm88 := zR_WD_fr (zdis_fr (zfr_up hmm88 (zfr_rf [(28, 43)] _) hc0 rfl) rfl) hRWDm76
                      have r89 : 1 ≤ (m88 a0 18) ∧ (m88 a0 18) ≤ 6 := zi_rd hIm88 hc0 zb_28_18
                      have w90 := zu_w32_id (z := (m88 a0 18) - 1) (by omega) (by omega)
                      refine zw_bd (zw_eq (zu_call_at (zt_T n) (zm_94 n) (zdp_94 n) _ _ _ _ _ rfl (zr_94_0 n _ _ a0 0 (zu_w32 ((m88 a0 18) - 1)) m88)) ?_)
                      have r91 : 0 ≤ (m88 a0 8) ∧ (m88 a0 8) ≤ 6 := zi_rd hIm88 hc0 zb_28_8
                      have e92 : (m88 a0 8) = (m76 a0 8) := (zs_ne hmm88 (Or.inr (by decide)))
                      refine zw_ite (fun h93 => ?_) (fun h93 => ?_)
                      · have r94 : (-2147483648) ≤ (m88 a0 9) ∧ (m88 a0 9) ≤ 2147483647 := zi_rd hIm88 hc0 zb_28_9
                        have e95 : (m88 a0 9) = (m76 a0 9) := (zs_ne hmm88 (Or.inr (by decide)))
                        refine zw_bd (zw_eq (zu_call_at (zt_T n) (zm_83 n) (zdp_83 n) _ _ _ _ _ rfl (zr_83_0 n _ _ (m88 a0 9) 0 (zu_w32 ((m88 a0 18) - 1)) m88)) ?_)
                        refine zw_ite (fun h96 => ?_) (fun h96 => ?_)
                        · exfalso; omega
                        · refine zw_ite (fun h97 => ?_) (fun h97 => ?_)
                          · refine zw_b (by omega) ?_
                            refine zw_some ?_
                            refine zw_ite (fun h98 => ?_) (fun h98 => ?_)
                            · exfalso; omega
                            · refine zw_bd (zw_eq (zu_call_at (zt_T n) (zm_85 n) (zdp_85 n) _ _ _ _ _ rfl (zr_85_0 n _ _ a0 2 m88)) ?_)
                              generalize hmm99 : zu_up m88 a0 4 2 = m99
                              have hIm99 := zi_up hmm99 hIm88 hc0 zb_28_4 (by omega) (by omega)
                              have hFm99 := zfr_up hmm99 hFm88 hc0 rfl
                              have hRCRm99 := zR_CR_fr (zdis_fr (zfr_up hmm99 (zfr_rf [(28, 5)] _) hc0 rfl) rfl) hRCRm88
                              have hRNSm99 := zR_NS_fr (zdis_fr (zfr_up hmm99 (zfr_rf [(28, 5)] _) hc0 rfl) rfl) hRNSm88
                              have hRTRm99 := zR_TR_fr (zdis_fr (zfr_up hmm99 (zfr_rf [(28, 5)] _) hc0 rfl) rfl) hRTRm88
                              have hRWDm99 := zR_WD_fr (zdis_fr (zfr_up hmm99 (zfr_rf [(28, 5)] _) hc0 rfl) rfl) hRWDm88
                              have hRLRm99 := zLR_wr (zone_190 hc0) hmm99 (by decide)
                              have r100 : 0 ≤ (m99 a0 10) ∧ (m99 a0 10) ≤ 700 := zi_rd hIm99 hc0 zb_28_10
                              have e101 : (m99 a0 10) = (m76 a0 10) := (Eq.trans (zs_ne hmm99 (Or.inr (by decide))) (zs_ne hmm88 (Or.inr (by decide))))
                              generalize hmm102 : zu_up m99 a0 5 (m99 a0 10) = m102
                              have hIm102 := zi_up hmm102 hIm99 hc0 zb_28_5 (by omega) (by omega)
                              have hFm102 := zfr_up hmm102 hFm99 hc0 rfl
                              have hRCRm102 := zR_CR_fr (zdis_fr (zfr_up hmm102 (zfr_rf [(28, 6)] _) hc0 rfl) rfl) hRCRm99
                              have hRLRm102 := zR_LR_fr (zdis_fr (zfr_up hmm102 (zfr_rf [(28, 6)] _) hc0 rfl) rfl) hRLRm99
                              have hRNSm102 := zR_NS_fr (zdis_fr (zfr_up hmm102 (zfr_rf [(28, 6)] _) hc0 rfl) rfl) hRNSm99
                              have hRTRm102 := zR_TR_fr (zdis_fr (zfr_up hmm102 (zfr_rf [(28, 6)] _) hc0 rfl) rfl) hRTRm99
                              have hRWDm102 := zR_WD_fr (zdis_fr (zfr_up hmm102 (zfr_rf [(28, 6)] _) hc0 rfl) rfl) hRWDm99
                              refine zw_b (by omega) ?_
                              refine zw_some ?_
                              refine zw_b (by omega) ?_
                              refine zw_some ?_
                              refine zw_ite (fun h103 => ?_) (fun h103 => ?_)
                              · exfalso; omega
                              · refine zw_b (by omega) ?_
                                refine zw_some ?_
                                refine zw_ite (fun h104 => ?_) (fun h104 => ?_)
                                · exfalso; omega
                                · refine zw_b (by omega) ?_
                                  have r105 : 0 ≤ (m102 a0 7) ∧ (m102 a0 7) ≤ 700 := zi_rd hIm102 hc0 zb_28_7
                                  have e106 : (m102 a0 7) = (m76 a0 7) := (Eq.trans (zs_ne hmm102 (Or.inr (by decide))) (Eq.trans (zs_ne hmm99 (Or.inr (by decide))) (zs_ne hmm88 (Or.inr (by decide)))))
                                  have r107 : 0 ≤ (m102 a0 8) ∧ (m102 a0 8) ≤ 6 := zi_rd hIm102 hc0 zb_28_8
                                  have e108 : (m102 a0 8) = (m88 a0 8) := (Eq.trans (zs_ne hmm102 (Or.inr (by decide))) (zs_ne hmm99 (Or.inr (by decide))))
                                  have r109 : (-2147483648) ≤ (m102 a0 4) ∧ (m102 a0 4) ≤ 2147483647 := zi_rd hIm102 hc0 zb_28_4
                                  have e110 : (m102 a0 4) = 2 := (Eq.trans (zs_ne hmm102 (Or.inr (by decide))) (zs_eq hmm99))
                                  exact zw_some ⟨hIm102, hFm102, hRCRm102, hRLRm102, hRNSm102, hRTRm102, hRWDm102, ⟨by omega, by omega⟩, by omega, by omega, by omega⟩
                          · refine zw_b (by omega) ?_
                            refine zw_some ?_
                            refine zw_ite (fun h111 => ?_) (fun h111 => ?_)
                            · generalize hmm112 : zu_up m88 a0 11 (m88 a0 9) = m112
                              have hIm112 := zi_up hmm112 hIm88 hc0 zb_28_11 (by omega) (by omega)
                              have hFm112 := zfr_up hmm112 hFm88 hc0 rfl
                              have hRCRm112 := zR_CR_fr (zdis_fr (zfr_up hmm112 (zfr_rf [(28, 12)] _) hc0 rfl) rfl) hRCRm88
                              have hRLRm112 := zR_LR_fr (zdis_fr (zfr_up hmm112 (zfr_rf [(28, 12)] _) hc0 rfl) rfl) hRLRm88
                              have hRNSm112 := zR_NS_fr (zdis_fr (zfr_up hmm112 (zfr_rf [(28, 12)] _) hc0 rfl) rfl) hRNSm88
                              have hRTRm112 := zR_TR_fr (zdis_fr (zfr_up hmm112 (zfr_rf [(28, 12)] _) hc0 rfl) rfl) hRTRm88
                              have hRWDm112 := zR_WD_fr (zdis_fr (zfr_up hmm112 (zfr_rf [(28, 12)] _) hc0 rfl) rfl) hRWDm88
                              have r115 : 0 ≤ (m112 a0 7) ∧ (m112 a0 7) ≤ 700 := zi_rd hIm112 hc0 zb_28_7
                              have e116 : (m112 a0 7) = (m76 a0 7) := (Eq.trans (zs_ne hmm112 (Or.inr (by decide))) (zs_ne hmm88 (Or.inr (by decide))))
                              refine zw_bd (zw_mono (zk_89 n hIm112 hc0 hRNSm112 hRWDm112) (fun v114 m113 hqm113 => ?_))
                              obtain ⟨hIm113, hfm113, hvm113⟩ := hqm113
                              have hFm113 := zfr_tr hFm112 hfm113 rfl
                              obtain ⟨hRNSm113, hRTRm113, hRWDm113, hvm113⟩ := hvm113
                              have hRCRm113 := zR_CR_fr (zdis_fr hfm113 rfl) hRCRm112
                              have hRLRm113 := zR_LR_fr (zdis_fr hfm113 rfl) hRLRm112
                              have s117 := hRNSm113 a0 hc0
                              have s118 := hRTRm113 a0 hc0
                              have r119 : 0 ≤ (m113 a0 7) ∧ (m113 a0 7) ≤ 700 := zi_rd hIm113 hc0 zb_28_7
                              have r120 : 0 ≤ (m113 a0 8) ∧ (m113 a0 8) ≤ 6 := zi_rd hIm113 hc0 zb_28_8
                              refine zw_b (by omega) ?_
                              refine zw_some ?_
                              refine zw_ite (fun h121 => ?_) (fun h121 => ?_)
                              · have r122 : 1 ≤ (m113 a0 17) ∧ (m113 a0 17) ≤ 8 := zi_rd hIm113 hc0 zb_28_17
                                have e123 : (m113 a0 17) = (m52 a0 17) := (Eq.trans (zfr_ap hfm113 hc0 rfl) (Eq.trans (zs_ne hmm112 (Or.inr (by decide))) (Eq.trans (zs_ne hmm88 (Or.inr (by decide))) (Eq.trans (zfr_ap hfm76 hc0 rfl) (zs_ne hmm75 (Or.inr (by decide)))))))
                                have r124 : (-2147483648) ≤ (m113 a0 11) ∧ (m113 a0 11) ≤ 2147483647 := zi_rd hIm113 hc0 zb_28_11
                                have e125 : (m113 a0 11) = (m88 a0 9) := (Eq.trans (zfr_ap hfm113 hc0 rfl) (zs_eq hmm112))
                                have p126 := zmul_bd (x := (m113 a0 17)) (y := (m113 a0 11)) (a := 1) (b := 0) (A := 8) (B := 5) (by omega) (by omega) (by omega) (by omega) (by omega) (by omega)
                                have w127 := zu_w32_id (z := (m113 a0 17) * (m113 a0 11)) (by omega) (by omega)
                                have w128 := zu_w32_id (z := (zu_w32 ((m113 a0 17) * (m113 a0 11))) + (m76 a0 11)) (by omega) (by omega)
                                generalize hmm129 : zu_up m113 a0 11 (zu_w32 ((zu_w32 ((m113 a0 17) * (m113 a0 11))) + (m76 a0 11))) = m129
                                have hIm129 := zi_up hmm129 hIm113 hc0 zb_28_11 (by omega) (by omega)
                                have hFm129 := zfr_up hmm129 hFm113 hc0 rfl
                                have hRCRm129 := zR_CR_fr (zdis_fr (zfr_up hmm129 (zfr_rf [(28, 12)] _) hc0 rfl) rfl) hRCRm113
                                have hRLRm129 := zR_LR_fr (zdis_fr (zfr_up hmm129 (zfr_rf [(28, 12)] _) hc0 rfl) rfl) hRLRm113
                                have hRNSm129 := zR_NS_fr (zdis_fr (zfr_up hmm129 (zfr_rf [(28, 12)] _) hc0 rfl) rfl) hRNSm113
                                have hRTRm129 := zR_TR_fr (zdis_fr (zfr_up hmm129 (zfr_rf [(28, 12)] _) hc0 rfl) rfl) hRTRm113
                                have hRWDm129 := zR_WD_fr (zdis_fr (zfr_up hmm129 (zfr_rf [(28, 12)] _) hc0 rfl) rfl) hRWDm113
                                refine zw_b (by omega) ?_
                                refine zw_some ?_
                                refine zw_ite (fun h130 => ?_) (fun h130 => ?_)
                                · have r131 : (-2147483648) ≤ (m129 a0 11) ∧ (m129 a0 11) ≤ 2147483647 := zi_rd hIm129 hc0 zb_28_11
                                  have e132 : (m129 a0 11) = (zu_w32 ((zu_w32 ((m113 a0 17) * (m113 a0 11))) + (m76 a0 11))) := (zs_eq hmm129)
                                  have b133 : 0 ≤ (zu_w32 (18 + (m7 a0 19))) ∧ (zu_w32 (18 + (m7 a0 19))) < 36 := by omega
                                  refine zw_if b133 ?_
                                  generalize hmm134 : zu_up m129 197 (zu_w32 (18 + (m7 a0 19))) (m129 a0 11) = m134
                                  have hIm134 := zi_up hmm134 hIm129 zq_197 (zb_106 _) (by omega) (by omega)
                                  have hFm134 := zfr_up hmm134 hFm129 zq_197 rfl
                                  have hRCRm134 := zR_CR_fr (zdis_fr (zfr_up hmm134 (zfr_rf [(106, 0)] _) zq_197 rfl) rfl) hRCRm129
                                  have hRLRm134 := zR_LR_fr (zdis_fr (zfr_up hmm134 (zfr_rf [(106, 0)] _) zq_197 rfl) rfl) hRLRm129
                                  have hRNSm134 := zR_NS_fr (zdis_fr (zfr_up hmm134 (zfr_rf [(106, 0)] _) zq_197 rfl) rfl) hRNSm129
                                  have hRTRm134 := zR_TR_fr (zdis_fr (zfr_up hmm134 (zfr_rf [(106, 0)] _) zq_197 rfl) rfl) hRTRm129
                                  have hRWDm134 := zR_WD_fr (zdis_fr (zfr_up hmm134 (zfr_rf [(106, 0)] _) zq_197 rfl) rfl) hRWDm129
                                  refine zw_bd (zw_eq (zu_call_at (zt_T n) (zm_94 n) (zdp_94 n) _ _ _ _ _ rfl (zr_94_0 n _ _ a0 0 9 m134)) ?_)
                                  have r135 : 0 ≤ (m134 a0 8) ∧ (m134 a0 8) ≤ 6 := zi_rd hIm134 hc0 zb_28_8
                                  have e136 : (m134 a0 8) = (m113 a0 8) := (Eq.trans (zs_ne hmm134 (Or.inl (zc_ne hc0 zq_197 (by decide)))) (zs_ne hmm129 (Or.inr (by decide))))
                                  refine zw_ite (fun h137 => ?_) (fun h137 => ?_)
                                  · have r138 : (-2147483648) ≤ (m134 a0 9) ∧ (m134 a0 9) ≤ 2147483647 := zi_rd hIm134 hc0 zb_28_9
                                    have e139 : (m134 a0 9) = (m113 a0 9) := (Eq.trans (zs_ne hmm134 (Or.inl (zc_ne hc0 zq_197 (by decide)))) (zs_ne hmm129 (Or.inr (by decide))))
                                    refine zw_bd (zw_eq (zu_call_at (zt_T n) (zm_83 n) (zdp_83 n) _ _ _ _ _ rfl (zr_83_0 n _ _ (m134 a0 9) 0 9 m134)) ?_)
                                    refine zw_ite (fun h140 => ?_) (fun h140 => ?_)
                                    · exfalso; omega
                                    · refine zw_ite (fun h141 => ?_) (fun h141 => ?_)
                                      · refine zw_b (by omega) ?_
                                        refine zw_some ?_
                                        refine zw_ite (fun h142 => ?_) (fun h142 => ?_)
                                        · exfalso; omega
                                        · refine zw_bd (zw_eq (zu_call_at (zt_T n) (zm_85 n) (zdp_85 n) _ _ _ _ _ rfl (zr_85_0 n _ _ a0 2 m134)) ?_)
                                          generalize hmm143 : zu_up m134 a0 4 2 = m143
                                          have hIm143 := zi_up hmm143 hIm134 hc0 zb_28_4 (by omega) (by omega)
                                          have hFm143 := zfr_up hmm143 hFm134 hc0 rfl
                                          have hRCRm143 := zR_CR_fr (zdis_fr (zfr_up hmm143 (zfr_rf [(28, 5)] _) hc0 rfl) rfl) hRCRm134
                                          have hRNSm143 := zR_NS_fr (zdis_fr (zfr_up hmm143 (zfr_rf [(28, 5)] _) hc0 rfl) rfl) hRNSm134
                                          have hRTRm143 := zR_TR_fr (zdis_fr (zfr_up hmm143 (zfr_rf [(28, 5)] _) hc0 rfl) rfl) hRTRm134
                                          have hRWDm143 := zR_WD_fr (zdis_fr (zfr_up hmm143 (zfr_rf [(28, 5)] _) hc0 rfl) rfl) hRWDm134
                                          have hRLRm143 := zLR_wr (zone_190 hc0) hmm143 (by decide)
                                          have r144 : 0 ≤ (m143 a0 10) ∧ (m143 a0 10) ≤ 700 := zi_rd hIm143 hc0 zb_28_10
                                          generalize hmm145 : zu_up m143 a0 5 (m143 a0 10) = m145
                                          have hIm145 := zi_up hmm145 hIm143 hc0 zb_28_5 (by omega) (by omega)
                                          have hFm145 := zfr_up hmm145 hFm143 hc0 rfl
                                          have hRCRm145 := zR_CR_fr (zdis_fr (zfr_up hmm145 (zfr_rf [(28, 6)] _) hc0 rfl) rfl) hRCRm143
                                          have hRLRm145 := zR_LR_fr (zdis_fr (zfr_up hmm145 (zfr_rf [(28, 6)] _) hc0 rfl) rfl) hRLRm143
                                          have hRNSm145 := zR_NS_fr (zdis_fr (zfr_up hmm145 (zfr_rf [(28, 6)] _) hc0 rfl) rfl) hRNSm143
                                          have hRTRm145 := zR_TR_fr (zdis_fr (zfr_up hmm145 (zfr_rf [(28, 6)] _) hc0 rfl) rfl) hRTRm143
                                          have hRWDm145 := zR_WD_fr (zdis_fr (zfr_up hmm145 (zfr_rf [(28, 6)] _) hc0 rfl) rfl) hRWDm143
                                          refine zw_b (by omega) ?_
                                          refine zw_some ?_
                                          refine zw_b (by omega) ?_
                                          refine zw_some ?_
                                          refine zw_ite (fun h146 => ?_) (fun h146 => ?_)
                                          · exfalso; omega
                                          · refine zw_b (by omega) ?_
                                            have r147 : 0 ≤ (m145 a0 7) ∧ (m145 a0 7) ≤ 700 := zi_rd hIm145 hc0 zb_28_7
                                            have e148 : (m145 a0 7) = (m113 a0 7) := (Eq.trans (zs_ne hmm145 (Or.inr (by decide))) (Eq.trans (zs_ne hmm143 (Or.inr (by decide))) (Eq.trans (zs_ne hmm134 (Or.inl (zc_ne hc0 zq_197 (by decide)))) (zs_ne hmm129 (Or.inr (by decide))))))
                                            have r149 : 0 ≤ (m145 a0 8) ∧ (m145 a0 8) ≤ 6 := zi_rd hIm145 hc0 zb_28_8
                                            have e150 : (m145 a0 8) = (m134 a0 8) := (Eq.trans (zs_ne hmm145 (Or.inr (by decide))) (zs_ne hmm143 (Or.inr (by decide))))
                                            have r151 : (-2147483648) ≤ (m145 a0 4) ∧ (m145 a0 4) ≤ 2147483647 := zi_rd hIm145 hc0 zb_28_4
                                            have e152 : (m145 a0 4) = 2 := (Eq.trans (zs_ne hmm145 (Or.inr (by decide))) (zs_eq hmm143))
                                            exact zw_some ⟨hIm145, hFm145, hRCRm145, hRLRm145, hRNSm145, hRTRm145, hRWDm145, ⟨by omega, by omega⟩, by omega, by omega, by omega⟩
                                      · refine zw_b (by omega) ?_
                                        refine zw_some ?_
                                        refine zw_ite (fun h153 => ?_) (fun h153 => ?_)
                                        · generalize hmm154 : zu_up m134 a0 11 (m134 a0 9) = m154
                                          have hIm154 := zi_up hmm154 hIm134 hc0 zb_28_11 (by omega) (by omega)
                                          have hFm154 := zfr_up hmm154 hFm134 hc0 rfl
                                          have hRCRm154 := zR_CR_fr (zdis_fr (zfr_up hmm154 (zfr_rf [(28, 12)] _) hc0 rfl) rfl) hRCRm134
                                          have hRLRm154 := zR_LR_fr (zdis_fr (zfr_up hmm154 (zfr_rf [(28, 12)] _) hc0 rfl) rfl) hRLRm134
                                          have hRNSm154 := zR_NS_fr (zdis_fr (zfr_up hmm154 (zfr_rf [(28, 12)] _) hc0 rfl) rfl) hRNSm134
                                          have hRTRm154 := zR_TR_fr (zdis_fr (zfr_up hmm154 (zfr_rf [(28, 12)] _) hc0 rfl) rfl) hRTRm134
                                          have hRWDm154 := zR_WD_fr (zdis_fr (zfr_up hmm154 (zfr_rf [(28, 12)] _) hc0 rfl) rfl) hRWDm134
                                          have r157 : 0 ≤ (m154 a0 7) ∧ (m154 a0 7) ≤ 700 := zi_rd hIm154 hc0 zb_28_7
                                          have e158 : (m154 a0 7) = (m113 a0 7) := (Eq.trans (zs_ne hmm154 (Or.inr (by decide))) (Eq.trans (zs_ne hmm134 (Or.inl (zc_ne hc0 zq_197 (by decide)))) (zs_ne hmm129 (Or.inr (by decide)))))
                                          refine zw_bd (zw_mono (zk_89 n hIm154 hc0 hRNSm154 hRWDm154) (fun v156 m155 hqm155 => ?_))
                                          obtain ⟨hIm155, hfm155, hvm155⟩ := hqm155
                                          have hFm155 := zfr_tr hFm154 hfm155 rfl
                                          obtain ⟨hRNSm155, hRTRm155, hRWDm155, hvm155⟩ := hvm155
                                          have hRCRm155 := zR_CR_fr (zdis_fr hfm155 rfl) hRCRm154
                                          have hRLRm155 := zR_LR_fr (zdis_fr hfm155 rfl) hRLRm154
                                          have s159 := hRNSm155 a0 hc0
                                          have s160 := hRTRm155 a0 hc0
                                          have r161 : 0 ≤ (m155 a0 7) ∧ (m155 a0 7) ≤ 700 := zi_rd hIm155 hc0 zb_28_7
                                          have r162 : 0 ≤ (m155 a0 8) ∧ (m155 a0 8) ≤ 6 := zi_rd hIm155 hc0 zb_28_8
                                          refine zw_b (by omega) ?_
                                          refine zw_some ?_
                                          refine zw_ite (fun h163 => ?_) (fun h163 => ?_)
                                          · have r164 : (-2147483648) ≤ (m155 a0 11) ∧ (m155 a0 11) ≤ 2147483647 := zi_rd hIm155 hc0 zb_28_11
                                            have e165 : (m155 a0 11) = (m134 a0 9) := (Eq.trans (zfr_ap hfm155 hc0 rfl) (zs_eq hmm154))
                                            have b166 : 0 ≤ (zu_w32 (18 + (m7 a0 19))) ∧ (zu_w32 (18 + (m7 a0 19))) < 36 := by omega
                                            refine zw_if b166 ?_
                                            generalize hmm167 : zu_up m155 199 (zu_w32 (18 + (m7 a0 19))) (m155 a0 11) = m167
                                            have hIm167 := zi_up hmm167 hIm155 zq_199 (zb_108 _) (by omega) (by omega)
                                            have hFm167 := zfr_up hmm167 hFm155 zq_199 rfl
                                            have hRCRm167 := zR_CR_fr (zdis_fr (zfr_up hmm167 (zfr_rf [(108, 0)] _) zq_199 rfl) rfl) hRCRm155
                                            have hRLRm167 := zR_LR_fr (zdis_fr (zfr_up hmm167 (zfr_rf [(108, 0)] _) zq_199 rfl) rfl) hRLRm155
                                            have hRNSm167 := zR_NS_fr (zdis_fr (zfr_up hmm167 (zfr_rf [(108, 0)] _) zq_199 rfl) rfl) hRNSm155
                                            have hRTRm167 := zR_TR_fr (zdis_fr (zfr_up hmm167 (zfr_rf [(108, 0)] _) zq_199 rfl) rfl) hRTRm155
                                            have hRWDm167 := zR_WD_fr (zdis_fr (zfr_up hmm167 (zfr_rf [(108, 0)] _) zq_199 rfl) rfl) hRWDm155
                                            have r168 : 0 ≤ (m167 a0 19) ∧ (m167 a0 19) ≤ 12 := zi_rd hIm167 hc0 zb_28_19
                                            have e169 : (m167 a0 19) = (m7 a0 19) := (Eq.trans (zs_ne hmm167 (Or.inl (zc_ne hc0 zq_199 (by decide)))) (Eq.trans (zfr_ap hfm155 hc0 rfl) (Eq.trans (zs_ne hmm154 (Or.inr (by decide))) (Eq.trans (zs_ne hmm134 (Or.inl (zc_ne hc0 zq_197 (by decide)))) (Eq.trans (zs_ne hmm129 (Or.inr (by decide))) (Eq.trans (zfr_ap hfm113 hc0 rfl) (Eq.trans (zs_ne hmm112 (Or.inr (by decide))) (Eq.trans (zs_ne hmm88 (Or.inr (by decide))) (Eq.trans (zfr_ap hfm76 hc0 rfl) (Eq.trans (zs_ne hmm75 (Or.inr (by decide))) (Eq.trans (zs_ne hmm52 (Or.inr (by decide))) (Eq.trans (zs_ne hmm51 (Or.inl (zc_ne hc0 zq_198 (by decide)))) (Eq.trans (zs_ne hmm46 (Or.inr (by decide))) (zfr_ap hfm40 hc0 rfl))))))))))))))
                                            have w170 := zu_w32_id (z := (m167 a0 19) + 1) (by omega) (by omega)
                                            generalize hmm171 : zu_up m167 a0 19 (zu_w32 ((m167 a0 19) + 1)) = m171
                                            have hIm171 := zi_up hmm171 hIm167 hc0 zb_28_19 (by omega) (by omega)
                                            have hFm171 := zfr_up hmm171 hFm167 hc0 rfl
                                            have hRCRm171 := zR_CR_fr (zdis_fr (zfr_up hmm171 (zfr_rf [(28, 20)] _) hc0 rfl) rfl) hRCRm167
                                            have hRLRm171 := zR_LR_fr (zdis_fr (zfr_up hmm171 (zfr_rf [(28, 20)] _) hc0 rfl) rfl) hRLRm167
                                            have hRNSm171 := zR_NS_fr (zdis_fr (zfr_up hmm171 (zfr_rf [(28, 20)] _) hc0 rfl) rfl) hRNSm167
                                            have hRTRm171 := zR_TR_fr (zdis_fr (zfr_up hmm171 (zfr_rf [(28, 20)] _) hc0 rfl) rfl) hRTRm167
                                            have hRWDm171 := zR_WD_fr (zdis_fr (zfr_up hmm171 (zfr_rf [(28, 20)] _) hc0 rfl) rfl) hRWDm167
                                            refine zw_b (by omega) ?_
                                            have r172 : 0 ≤ (m171 a0 7) ∧ (m171 a0 7) ≤ 700 := zi_rd hIm171 hc0 zb_28_7
                                            have e173 : (m171 a0 7) = (m155 a0 7) := (Eq.trans (zs_ne hmm171 (Or.inr (by decide))) (zs_ne hmm167 (Or.inl (zc_ne hc0 zq_199 (by decide)))))
                                            have r174 : 0 ≤ (m171 a0 8) ∧ (m171 a0 8) ≤ 6 := zi_rd hIm171 hc0 zb_28_8
                                            have e175 : (m171 a0 8) = (m155 a0 8) := (Eq.trans (zs_ne hmm171 (Or.inr (by decide))) (zs_ne hmm167 (Or.inl (zc_ne hc0 zq_199 (by decide)))))
                                            have r176 : (-2147483648) ≤ (m171 a0 4) ∧ (m171 a0 4) ≤ 2147483647 := zi_rd hIm171 hc0 zb_28_4
                                            have e177 : (m171 a0 4) = (m0 a0 4) := (Eq.trans (zs_ne hmm171 (Or.inr (by decide))) (Eq.trans (zs_ne hmm167 (Or.inl (zc_ne hc0 zq_199 (by decide)))) (Eq.trans (zfr_ap hfm155 hc0 rfl) (Eq.trans (zs_ne hmm154 (Or.inr (by decide))) (Eq.trans (zs_ne hmm134 (Or.inl (zc_ne hc0 zq_197 (by decide)))) (Eq.trans (zs_ne hmm129 (Or.inr (by decide))) (Eq.trans (zfr_ap hfm113 hc0 rfl) (Eq.trans (zs_ne hmm112 (Or.inr (by decide))) (Eq.trans (zs_ne hmm88 (Or.inr (by decide))) (Eq.trans (zfr_ap hfm76 hc0 rfl) (Eq.trans (zs_ne hmm75 (Or.inr (by decide))) (Eq.trans (zs_ne hmm52 (Or.inr (by decide))) (Eq.trans (zs_ne hmm51 (Or.inl (zc_ne hc0 zq_198 (by decide)))) (Eq.trans (zs_ne hmm46 (Or.inr (by decide))) (Eq.trans (zfr_ap hfm40 hc0 rfl) (zfr_ap hfm7 hc0 rfl))))))))))))))))
                                            exact zw_some ⟨hIm171, hFm171, hRCRm171, hRLRm171, hRNSm171, hRTRm171, hRWDm171, ⟨by omega, by omega⟩, by omega, by omega, by omega⟩
                                          · exfalso; omega
                                        · exfalso; omega
                                  · refine zw_bd (zw_eq (zu_call_at (zt_T n) (zm_85 n) (zdp_85 n) _ _ _ _ _ rfl (zr_85_0 n _ _ a0 1 m134)) ?_)
                                    generalize hmm178 : zu_up m134 a0 4 1 = m178
                                    have hIm178 := zi_up hmm178 hIm134 hc0 zb_28_4 (by omega) (by omega)
                                    have hFm178 := zfr_up hmm178 hFm134 hc0 rfl
                                    have hRCRm178 := zR_CR_fr (zdis_fr (zfr_up hmm178 (zfr_rf [(28, 5)] _) hc0 rfl) rfl) hRCRm134
                                    have hRNSm178 := zR_NS_fr (zdis_fr (zfr_up hmm178 (zfr_rf [(28, 5)] _) hc0 rfl) rfl) hRNSm134
                                    have hRTRm178 := zR_TR_fr (zdis_fr (zfr_up hmm178 (zfr_rf [(28, 5)] _) hc0 rfl) rfl) hRTRm134
                                    have hRWDm178 := zR_WD_fr (zdis_fr (zfr_up hmm178 (zfr_rf [(28, 5)] _) hc0 rfl) rfl) hRWDm134
                                    have hRLRm178 := zLR_wr (zone_190 hc0) hmm178 (by decide)
                                    have r179 : 0 ≤ (m178 a0 10) ∧ (m178 a0 10) ≤ 700 := zi_rd hIm178 hc0 zb_28_10
                                    generalize hmm180 : zu_up m178 a0 5 (m178 a0 10) = m180
                                    have hIm180 := zi_up hmm180 hIm178 hc0 zb_28_5 (by omega) (by omega)
                                    have hFm180 := zfr_up hmm180 hFm178 hc0 rfl
                                    have hRCRm180 := zR_CR_fr (zdis_fr (zfr_up hmm180 (zfr_rf [(28, 6)] _) hc0 rfl) rfl) hRCRm178
                                    have hRLRm180 := zR_LR_fr (zdis_fr (zfr_up hmm180 (zfr_rf [(28, 6)] _) hc0 rfl) rfl) hRLRm178
                                    have hRNSm180 := zR_NS_fr (zdis_fr (zfr_up hmm180 (zfr_rf [(28, 6)] _) hc0 rfl) rfl) hRNSm178
                                    have hRTRm180 := zR_TR_fr (zdis_fr (zfr_up hmm180 (zfr_rf [(28, 6)] _) hc0 rfl) rfl) hRTRm178
                                    have hRWDm180 := zR_WD_fr (zdis_fr (zfr_up hmm180 (zfr_rf [(28, 6)] _) hc0 rfl) rfl) hRWDm178
                                    refine zw_b (by omega) ?_
                                    refine zw_some ?_
                                    refine zw_b (by omega) ?_
                                    refine zw_some ?_
                                    refine zw_ite (fun h181 => ?_) (fun h181 => ?_)
                                    · exfalso; omega
                                    · refine zw_b (by omega) ?_
                                      have r182 : 0 ≤ (m180 a0 7) ∧ (m180 a0 7) ≤ 700 := zi_rd hIm180 hc0 zb_28_7
                                      have e183 : (m180 a0 7) = (m113 a0 7) := (Eq.trans (zs_ne hmm180 (Or.inr (by decide))) (Eq.trans (zs_ne hmm178 (Or.inr (by decide))) (Eq.trans (zs_ne hmm134 (Or.inl (zc_ne hc0 zq_197 (by decide)))) (zs_ne hmm129 (Or.inr (by decide))))))
                                      have r184 : 0 ≤ (m180 a0 8) ∧ (m180 a0 8) ≤ 6 := zi_rd hIm180 hc0 zb_28_8
                                      have e185 : (m180 a0 8) = (m134 a0 8) := (Eq.trans (zs_ne hmm180 (Or.inr (by decide))) (zs_ne hmm178 (Or.inr (by decide))))
                                      have r186 : (-2147483648) ≤ (m180 a0 4) ∧ (m180 a0 4) ≤ 2147483647 := zi_rd hIm180 hc0 zb_28_4
                                      have e187 : (m180 a0 4) = 1 := (Eq.trans (zs_ne hmm180 (Or.inr (by decide))) (zs_eq hmm178))
                                      exact zw_some ⟨hIm180, hFm180, hRCRm180, hRLRm180, hRNSm180, hRTRm180, hRWDm180, ⟨by omega, by omega⟩, by omega, by omega, by omega⟩
                                · exfalso; omega
                              · exfalso; omega
                            · exfalso; omega
                      · refine zw_bd (zw_eq (zu_call_at (zt_T n) (zm_85 n) (zdp_85 n) _ _ _ _ _ rfl (zr_85_0 n _ _ a0 1 m88)) ?_)
                        generalize hmm188 : zu_up m88 a0 4 1 = m188
                        have hIm188 := zi_up hmm188 hIm88 hc0 zb_28_4 (by omega) (by omega)
                        have hFm188 := zfr_up hmm188 hFm88 hc0 rfl
                        have hRCRm188 := zR_CR_fr (zdis_fr (zfr_up hmm188 (zfr_rf [(28, 5)] _) hc0 rfl) rfl) hRCRm88
                        have hRNSm188 := zR_NS_fr (zdis_fr (zfr_up hmm188 (zfr_rf [(28, 5)] _) hc0 rfl) rfl) hRNSm88
                        have hRTRm188 := zR_TR_fr (zdis_fr (zfr_up hmm188 (zfr_rf [(28, 5)] _) hc0 rfl) rfl) hRTRm88
                        have hRWDm188 := zR_WD_fr (zdis_fr (zfr_up hmm188 (zfr_rf [(28, 5)] _) hc0 rfl) rfl) hRWDm88
                        have hRLRm188 := zLR_wr (zone_190 hc0) hmm188 (by decide)
                        have r189 : 0 ≤ (m188 a0 10) ∧ (m188 a0 10) ≤ 700 := zi_rd hIm188 hc0 zb_28_10
                        have e190 : (m188 a0 10) = (m76 a0 10) := (Eq.trans (zs_ne hmm188 (Or.inr (by decide))) (zs_ne hmm88 (Or.inr (by decide))))
                        generalize hmm191 : zu_up m188 a0 5 (m188 a0 10) = m191
                        have hIm191 := zi_up hmm191 hIm188 hc0 zb_28_5 (by omega) (by omega)
                        have hFm191 := zfr_up hmm191 hFm188 hc0 rfl
                        have hRCRm191 := zR_CR_fr (zdis_fr (zfr_up hmm191 (zfr_rf [(28, 6)] _) hc0 rfl) rfl) hRCRm188
                        have hRLRm191 := zR_LR_fr (zdis_fr (zfr_up hmm191 (zfr_rf [(28, 6)] _) hc0 rfl) rfl) hRLRm188
                        have hRNSm191 := zR_NS_fr (zdis_fr (zfr_up hmm191 (zfr_rf [(28, 6)] _) hc0 rfl) rfl) hRNSm188
                        have hRTRm191 := zR_TR_fr (zdis_fr (zfr_up hmm191 (zfr_rf [(28, 6)] _) hc0 rfl) rfl) hRTRm188
                        have hRWDm191 := zR_WD_fr (zdis_fr (zfr_up hmm191 (zfr_rf [(28, 6)] _) hc0 rfl) rfl) hRWDm188
                        refine zw_b (by omega) ?_
                        refine zw_some ?_
                        refine zw_b (by omega) ?_
                        refine zw_some ?_
                        refine zw_ite (fun h192 => ?_) (fun h192 => ?_)
                        · exfalso; omega
                        · refine zw_b (by omega) ?_
                          refine zw_some ?_
                          refine zw_ite (fun h193 => ?_) (fun h193 => ?_)
                          · exfalso; omega
                          · refine zw_b (by omega) ?_
                            have r194 : 0 ≤ (m191 a0 7) ∧ (m191 a0 7) ≤ 700 := zi_rd hIm191 hc0 zb_28_7
                            have e195 : (m191 a0 7) = (m76 a0 7) := (Eq.trans (zs_ne hmm191 (Or.inr (by decide))) (Eq.trans (zs_ne hmm188 (Or.inr (by decide))) (zs_ne hmm88 (Or.inr (by decide)))))
                            have r196 : 0 ≤ (m191 a0 8) ∧ (m191 a0 8) ≤ 6 := zi_rd hIm191 hc0 zb_28_8
                            have e197 : (m191 a0 8) = (m88 a0 8) := (Eq.trans (zs_ne hmm191 (Or.inr (by decide))) (zs_ne hmm188 (Or.inr (by decide))))
                            have r198 : (-2147483648) ≤ (m191 a0 4) ∧ (m191 a0 4) ≤ 2147483647 := zi_rd hIm191 hc0 zb_28_4
                            have e199 : (m191 a0 4) = 1 := (Eq.trans (zs_ne hmm191 (Or.inr (by decide))) (zs_eq hmm188))
                            exact zw_some ⟨hIm191, hFm191, hRCRm191, hRLRm191, hRNSm191, hRTRm191, hRWDm191, ⟨by omega, by omega⟩, by omega, by omega, by omega⟩
                    · exfalso; omega
                  · exfalso; omega
            · refine zw_bd (zw_eq (zu_call_at (zt_T n) (zm_85 n) (zdp_85 n) _ _ _ _ _ rfl (zr_85_0 n _ _ a0 1 m52)) ?_)
              generalize hmm200 : zu_up m52 a0 4 1 = m200
              have hIm200 := zi_up hmm200 hIm52 hc0 zb_28_4 (by omega) (by omega)
              have hFm200 := zfr_up hmm200 hFm52 hc0 rfl
              have hRCRm200 := zR_CR_fr (zdis_fr (zfr_up hmm200 (zfr_rf [(28, 5)] _) hc0 rfl) rfl) hRCRm52
              have hRNSm200 := zR_NS_fr (zdis_fr (zfr_up hmm200 (zfr_rf [(28, 5)] _) hc0 rfl) rfl) hRNSm52
              have hRTRm200 := zR_TR_fr (zdis_fr (zfr_up hmm200 (zfr_rf [(28, 5)] _) hc0 rfl) rfl) hRTRm52
              have hRWDm200 := zR_WD_fr (zdis_fr (zfr_up hmm200 (zfr_rf [(28, 5)] _) hc0 rfl) rfl) hRWDm52
              have hRLRm200 := zLR_wr (zone_190 hc0) hmm200 (by decide)
              have r201 : 0 ≤ (m200 a0 10) ∧ (m200 a0 10) ≤ 700 := zi_rd hIm200 hc0 zb_28_10
              generalize hmm202 : zu_up m200 a0 5 (m200 a0 10) = m202
              have hIm202 := zi_up hmm202 hIm200 hc0 zb_28_5 (by omega) (by omega)
              have hFm202 := zfr_up hmm202 hFm200 hc0 rfl
              have hRCRm202 := zR_CR_fr (zdis_fr (zfr_up hmm202 (zfr_rf [(28, 6)] _) hc0 rfl) rfl) hRCRm200
              have hRLRm202 := zR_LR_fr (zdis_fr (zfr_up hmm202 (zfr_rf [(28, 6)] _) hc0 rfl) rfl) hRLRm200
              have hRNSm202 := zR_NS_fr (zdis_fr (zfr_up hmm202 (zfr_rf [(28, 6)] _) hc0 rfl) rfl) hRNSm200
              have hRTRm202 := zR_TR_fr (zdis_fr (zfr_up hmm202 (zfr_rf [(28, 6)] _) hc0 rfl) rfl) hRTRm200
              have hRWDm202 := zR_WD_fr (zdis_fr (zfr_up hmm202 (zfr_rf [(28, 6)] _) hc0 rfl) rfl) hRWDm200
              refine zw_b (by omega) ?_
              refine zw_some ?_
              refine zw_b (by omega) ?_
              refine zw_some ?_
              refine zw_ite (fun h203 => ?_) (fun h203 => ?_)
              · exfalso; omega
              · refine zw_b (by omega) ?_
                refine zw_some ?_
                refine zw_ite (fun h204 => ?_) (fun h204 => ?_)
                · exfalso; omega
                · refine zw_b (by omega) ?_
                  have r205 : 0 ≤ (m202 a0 7) ∧ (m202 a0 7) ≤ 700 := zi_rd hIm202 hc0 zb_28_7
                  have e206 : (m202 a0 7) = (m40 a0 7) := (Eq.trans (zs_ne hmm202 (Or.inr (by decide))) (Eq.trans (zs_ne hmm200 (Or.inr (by decide))) (Eq.trans (zs_ne hmm52 (Or.inr (by decide))) (Eq.trans (zs_ne hmm51 (Or.inl (zc_ne hc0 zq_198 (by decide)))) (zs_ne hmm46 (Or.inr (by decide)))))))
                  have r207 : 0 ≤ (m202 a0 8) ∧ (m202 a0 8) ≤ 6 := zi_rd hIm202 hc0 zb_28_8
                  have e208 : (m202 a0 8) = (m52 a0 8) := (Eq.trans (zs_ne hmm202 (Or.inr (by decide))) (zs_ne hmm200 (Or.inr (by decide))))
                  have r209 : (-2147483648) ≤ (m202 a0 4) ∧ (m202 a0 4) ≤ 2147483647 := zi_rd hIm202 hc0 zb_28_4
                  have e210 : (m202 a0 4) = 1 := (Eq.trans (zs_ne hmm202 (Or.inr (by decide))) (zs_eq hmm200))
                  exact zw_some ⟨hIm202, hFm202, hRCRm202, hRLRm202, hRNSm202, hRTRm202, hRWDm202, ⟨by omega, by omega⟩, by omega, by omega, by omega⟩
          · exfalso; omega
        · refine zw_bd (zw_eq (zu_call_at (zt_T n) (zm_85 n) (zdp_85 n) _ _ _ _ _ rfl (zr_85_0 n _ _ a0 1 m7)) ?_)
          generalize hmm211 : zu_up m7 a0 4 1 = m211
          have hIm211 := zi_up hmm211 hIm7 hc0 zb_28_4 (by omega) (by omega)
          have hFm211 := zfr_up hmm211 hFm7 hc0 rfl
          have hRCRm211 := zR_CR_fr (zdis_fr (zfr_up hmm211 (zfr_rf [(28, 5)] _) hc0 rfl) rfl) hRCRm7
          have hRNSm211 := zR_NS_fr (zdis_fr (zfr_up hmm211 (zfr_rf [(28, 5)] _) hc0 rfl) rfl) hRNSm7
          have hRTRm211 := zR_TR_fr (zdis_fr (zfr_up hmm211 (zfr_rf [(28, 5)] _) hc0 rfl) rfl) hRTRm7
          have hRWDm211 := zR_WD_fr (zdis_fr (zfr_up hmm211 (zfr_rf [(28, 5)] _) hc0 rfl) rfl) hRWDm7
          have hRLRm211 := zLR_wr (zone_190 hc0) hmm211 (by decide)
          have r212 : 0 ≤ (m211 a0 10) ∧ (m211 a0 10) ≤ 700 := zi_rd hIm211 hc0 zb_28_10
          generalize hmm213 : zu_up m211 a0 5 (m211 a0 10) = m213
          have hIm213 := zi_up hmm213 hIm211 hc0 zb_28_5 (by omega) (by omega)
          have hFm213 := zfr_up hmm213 hFm211 hc0 rfl
          have hRCRm213 := zR_CR_fr (zdis_fr (zfr_up hmm213 (zfr_rf [(28, 6)] _) hc0 rfl) rfl) hRCRm211
          have hRLRm213 := zR_LR_fr (zdis_fr (zfr_up hmm213 (zfr_rf [(28, 6)] _) hc0 rfl) rfl) hRLRm211
          have hRNSm213 := zR_NS_fr (zdis_fr (zfr_up hmm213 (zfr_rf [(28, 6)] _) hc0 rfl) rfl) hRNSm211
          have hRTRm213 := zR_TR_fr (zdis_fr (zfr_up hmm213 (zfr_rf [(28, 6)] _) hc0 rfl) rfl) hRTRm211
          have hRWDm213 := zR_WD_fr (zdis_fr (zfr_up hmm213 (zfr_rf [(28, 6)] _) hc0 rfl) rfl) hRWDm211
          refine zw_b (by omega) ?_
          refine zw_some ?_
          refine zw_b (by omega) ?_
          refine zw_some ?_
          refine zw_ite (fun h214 => ?_) (fun h214 => ?_)
          · exfalso; omega
          · refine zw_b (by omega) ?_
            have r215 : 0 ≤ (m213 a0 7) ∧ (m213 a0 7) ≤ 700 := zi_rd hIm213 hc0 zb_28_7
            have e216 : (m213 a0 7) = (m7 a0 7) := (Eq.trans (zs_ne hmm213 (Or.inr (by decide))) (zs_ne hmm211 (Or.inr (by decide))))
            have r217 : 0 ≤ (m213 a0 8) ∧ (m213 a0 8) ≤ 6 := zi_rd hIm213 hc0 zb_28_8
            have e218 : (m213 a0 8) = (m7 a0 8) := (Eq.trans (zs_ne hmm213 (Or.inr (by decide))) (zs_ne hmm211 (Or.inr (by decide))))
            have r219 : (-2147483648) ≤ (m213 a0 4) ∧ (m213 a0 4) ≤ 2147483647 := zi_rd hIm213 hc0 zb_28_4
            have e220 : (m213 a0 4) = 1 := (Eq.trans (zs_ne hmm213 (Or.inr (by decide))) (zs_eq hmm211))
            exact zw_some ⟨hIm213, hFm213, hRCRm213, hRLRm213, hRNSm213, hRTRm213, hRWDm213, ⟨by omega, by omega⟩, by omega, by omega, by omega⟩
  · refine zw_bd (zw_eq (zu_call_at (zt_T n) (zm_85 n) (zdp_85 n) _ _ _ _ _ rfl (zr_85_0 n _ _ a0 2 m0)) ?_)
    generalize hmm221 : zu_up m0 a0 4 2 = m221
    have hIm221 := zi_up hmm221 hIm0 hc0 zb_28_4 (by omega) (by omega)
    have hFm221 := zfr_up hmm221 hFm0 hc0 rfl
    have hRCRm221 := zR_CR_fr (zdis_fr (zfr_up hmm221 (zfr_rf [(28, 5)] _) hc0 rfl) rfl) hRCRm0
    have hRNSm221 := zR_NS_fr (zdis_fr (zfr_up hmm221 (zfr_rf [(28, 5)] _) hc0 rfl) rfl) hRNSm0
    have hRTRm221 := zR_TR_fr (zdis_fr (zfr_up hmm221 (zfr_rf [(28, 5)] _) hc0 rfl) rfl) hRTRm0
    have hRWDm221 := zR_WD_fr (zdis_fr (zfr_up hmm221 (zfr_rf [(28, 5)] _) hc0 rfl) rfl) hRWDm0
    have hRLRm221 := zLR_wr (zone_190 hc0) hmm221 (by decide)
    have r222 : 0 ≤ (m221 a0 10) ∧ (m221 a0 10) ≤ 700 := zi_rd hIm221 hc0 zb_28_10
    generalize hmm223 : zu_up m221 a0 5 (m221 a0 10) = m223
    have hIm223 := zi_up hmm223 hIm221 hc0 zb_28_5 (by omega) (by omega)
    have hFm223 := zfr_up hmm223 hFm221 hc0 rfl
    have hRCRm223 := zR_CR_fr (zdis_fr (zfr_up hmm223 (zfr_rf [(28, 6)] _) hc0 rfl) rfl) hRCRm221
    have hRLRm223 := zR_LR_fr (zdis_fr (zfr_up hmm223 (zfr_rf [(28, 6)] _) hc0 rfl) rfl) hRLRm221
    have hRNSm223 := zR_NS_fr (zdis_fr (zfr_up hmm223 (zfr_rf [(28, 6)] _) hc0 rfl) rfl) hRNSm221
    have hRTRm223 := zR_TR_fr (zdis_fr (zfr_up hmm223 (zfr_rf [(28, 6)] _) hc0 rfl) rfl) hRTRm221
    have hRWDm223 := zR_WD_fr (zdis_fr (zfr_up hmm223 (zfr_rf [(28, 6)] _) hc0 rfl) rfl) hRWDm221
    refine zw_b (by omega) ?_
    refine zw_some ?_
    refine zw_b (by omega) ?_
    have r224 : 0 ≤ (m223 a0 7) ∧ (m223 a0 7) ≤ 700 := zi_rd hIm223 hc0 zb_28_7
    have e225 : (m223 a0 7) = (m0 a0 7) := (Eq.trans (zs_ne hmm223 (Or.inr (by decide))) (zs_ne hmm221 (Or.inr (by decide))))
    have r226 : 0 ≤ (m223 a0 8) ∧ (m223 a0 8) ≤ 6 := zi_rd hIm223 hc0 zb_28_8
    have e227 : (m223 a0 8) = (m0 a0 8) := (Eq.trans (zs_ne hmm223 (Or.inr (by decide))) (zs_ne hmm221 (Or.inr (by decide))))
    have r228 : (-2147483648) ≤ (m223 a0 4) ∧ (m223 a0 4) ≤ 2147483647 := zi_rd hIm223 hc0 zb_28_4
    have e229 : (m223 a0 4) = 2 := (Eq.trans (zs_ne hmm223 (Or.inr (by decide))) (zs_eq hmm221))
    exact zw_some ⟨hIm223, hFm223, hRCRm223, hRLRm223, hRNSm223, hRTRm223, hRWDm223, ⟨by omega, by omega⟩, by omega, by omega, by omega⟩

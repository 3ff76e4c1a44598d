set_option maxHeartbeats 4000000 in
theorem zk_100 (n : Nat) {a0 a1 : Int} {m0 : zu_m} (hIm0 : zi_I m0) (hc0 : zcls a0 = 28) (ha1 : 1 ≤ a1 ∧ a1 ≤ 3)  (he0 : 1 ≤ m0 a0 8 ∧ m0 a0 8 ≤ 1) (he1 : 1 ≤ m0 a0 9 ∧ m0 a0 9 ≤ 3)  (hRCRm0 : zR_CR m0) (hRLRm0 : zR_LR m0) (hRNSm0 : zR_NS m0) (hRTRm0 : zR_TR m0) (hRWDm0 : zR_WD m0) : zw (zu_call (zt_T n) 100 [(40, a0), (0, a1)] m0) (fun v m => zi_I m ∧ zfr [(28, 5), (28, 6), (28, 8), (28, 9), (28, 10), (28, 11), (28, 12), (28, 23), (28, 24), (28, 43), (104, 0), (105, 0)] m0 m ∧ zR_CR m ∧ zR_LR m ∧ zR_NS m ∧ zR_TR m ∧ zR_WD m ∧ (0 ≤ v ∧ v ≤ 1) ∧ ((m0 a0 7) ≤ (m a0 7)) ∧ (v = 1 → ((m a0 8) = 0 ∨ (m0 a0 7) < (m a0 7))) ∧ (v = 1 → (m a0 4) = (m0 a0 4))) := by
  have hFm0 : zfr [(28, 5), (28, 6), (28, 8), (28, 9), (28, 10), (28, 11), (28, 12), (28, 23), (28, 24), (28, 43), (104, 0), (105, 0)] m0 m0 := zfr_rf _ _
  have r1 : 0 ≤ (m0 a0 7) ∧ (m0 a0 7) ≤ 700 := zi_rd hIm0 hc0 zb_28_7
  have r2 : (-2147483648) ≤ (m0 a0 4) ∧ (m0 a0 4) ≤ 2147483647 := zi_rd hIm0 hc0 zb_28_4
  have s3 := hRNSm0 a0 hc0
  have s4 := hRTRm0 a0 hc0
  refine zw_eq (zu_call_at (zt_T n) (zm_100 n) (zdp_100 n) _ _ _ _ _ rfl (zr_100_0 n _ _ a0 a1 m0)) ?_
  have r5 : 0 ≤ (m0 a0 22) ∧ (m0 a0 22) ≤ 16 := zi_rd hIm0 hc0 zb_28_22
  refine zw_ite (fun h6 => ?_) (fun h6 => ?_)
  · refine zw_bd (zw_mono (zk_89 n hIm0 hc0 hRNSm0 hRWDm0) (fun v8 m7 hqm7 => ?_))
    obtain ⟨hIm7, hfm7, hvm7⟩ := hqm7
    have hFm7 := zfr_tr hFm0 hfm7 rfl
    obtain ⟨hRNSm7, hRTRm7, hRWDm7, hvm7⟩ := hvm7
    have hRCRm7 := zR_CR_fr (zdis_fr hfm7 rfl) hRCRm0
    have hRLRm7 := zR_LR_fr (zdis_fr hfm7 rfl) hRLRm0
    have s9 := hRNSm7 a0 hc0
    have s10 := hRTRm7 a0 hc0
    refine zw_bd (zw_eq (zu_call_at (zt_T n) (zm_96 n) (zdp_96 n) _ _ _ _ _ rfl (zr_96_0 n _ _ a0 m7)) ?_)
    refine zw_b (by omega) ?_
    generalize hmm11 : zu_up m7 a0 23 1 = m11
    have hIm11 := zi_up hmm11 hIm7 hc0 zb_28_23 (by omega) (by omega)
    have hFm11 := zfr_up hmm11 hFm7 hc0 rfl
    have hRLRm11 := zR_LR_fr (zdis_fr (zfr_up hmm11 (zfr_rf [(28, 24)] _) hc0 rfl) rfl) hRLRm7
    have hRNSm11 := zR_NS_fr (zdis_fr (zfr_up hmm11 (zfr_rf [(28, 24)] _) hc0 rfl) rfl) hRNSm7
    have hRTRm11 := zR_TR_fr (zdis_fr (zfr_up hmm11 (zfr_rf [(28, 24)] _) hc0 rfl) rfl) hRTRm7
    have hRWDm11 := zR_WD_fr (zdis_fr (zfr_up hmm11 (zfr_rf [(28, 24)] _) hc0 rfl) rfl) hRWDm7
    have hRCRm11 := zCR_cells (zone_190 hc0) hmm11 rfl hRCRm7
    have r12 : 1 ≤ (m11 a0 17) ∧ (m11 a0 17) ≤ 8 := zi_rd hIm11 hc0 zb_28_17
    have w13 := zu_w32_id (z := (m11 a0 17) - 1) (by omega) (by omega)
    refine zw_bd (zw_eq (zu_call_at (zt_T n) (zm_94 n) (zdp_94 n) _ _ _ _ _ rfl (zr_94_0 n _ _ a0 0 (zu_w32 ((m11 a0 17) - 1)) m11)) ?_)
    have r14 : 0 ≤ (m11 a0 8) ∧ (m11 a0 8) ≤ 6 := zi_rd hIm11 hc0 zb_28_8
    refine zw_ite (fun h15 => ?_) (fun h15 => ?_)
    · have r16 : (-2147483648) ≤ (m11 a0 9) ∧ (m11 a0 9) ≤ 2147483647 := zi_rd hIm11 hc0 zb_28_9
      refine zw_bd (zw_eq (zu_call_at (zt_T n) (zm_83 n) (zdp_83 n) _ _ _ _ _ rfl (zr_83_0 n _ _ (m11 a0 9) 0 (zu_w32 ((m11 a0 17) - 1)) m11)) ?_)
      refine zw_ite (fun h17 => ?_) (fun h17 => ?_)
      · refine zw_b (by omega) ?_
        refine zw_some ?_
        refine zw_ite (fun h18 => ?_) (fun h18 => ?_)
        · exfalso; omega
        · refine zw_bd (zw_eq (zu_call_at (zt_T n) (zm_85 n) (zdp_85 n) _ _ _ _ _ rfl (zr_85_0 n _ _ a0 2 m11)) ?_)
          generalize hmm19 : zu_up m11 a0 4 2 = m19
          have hIm19 := zi_up hmm19 hIm11 hc0 zb_28_4 (by omega) (by omega)
          have hFm19 := zfr_up hmm19 hFm11 hc0 rfl
          have hRCRm19 := zR_CR_fr (zdis_fr (zfr_up hmm19 (zfr_rf [(28, 5)] _) hc0 rfl) rfl) hRCRm11
          have hRNSm19 := zR_NS_fr (zdis_fr (zfr_up hmm19 (zfr_rf [(28, 5)] _) hc0 rfl) rfl) hRNSm11
          have hRTRm19 := zR_TR_fr (zdis_fr (zfr_up hmm19 (zfr_rf [(28, 5)] _) hc0 rfl) rfl) hRTRm11
          have hRWDm19 := zR_WD_fr (zdis_fr (zfr_up hmm19 (zfr_rf [(28, 5)] _) hc0 rfl) rfl) hRWDm11
          have hRLRm19 := zLR_wr (zone_190 hc0) hmm19 (by decide)
          have r20 : 0 ≤ (m19 a0 10) ∧ (m19 a0 10) ≤ 700 := zi_rd hIm19 hc0 zb_28_10
          generalize hmm21 : zu_up m19 a0 5 (m19 a0 10) = m21
          have hIm21 := zi_up hmm21 hIm19 hc0 zb_28_5 (by omega) (by omega)
          have hFm21 := zfr_up hmm21 hFm19 hc0 rfl
          have hRCRm21 := zR_CR_fr (zdis_fr (zfr_up hmm21 (zfr_rf [(28, 6)] _) hc0 rfl) rfl) hRCRm19
          have hRLRm21 := zR_LR_fr (zdis_fr (zfr_up hmm21 (zfr_rf [(28, 6)] _) hc0 rfl) rfl) hRLRm19
          have hRNSm21 := zR_NS_fr (zdis_fr (zfr_up hmm21 (zfr_rf [(28, 6)] _) hc0 rfl) rfl) hRNSm19
          have hRTRm21 := zR_TR_fr (zdis_fr (zfr_up hmm21 (zfr_rf [(28, 6)] _) hc0 rfl) rfl) hRTRm19
          have hRWDm21 := zR_WD_fr (zdis_fr (zfr_up hmm21 (zfr_rf [(28, 6)] _) hc0 rfl) rfl) hRWDm19
          refine zw_b (by omega) ?_
          refine zw_some ?_
          refine zw_b (by omega) ?_
          refine zw_some ?_
          refine zw_ite (fun h22 => ?_) (fun h22 => ?_)
          · exfalso; omega
          · refine zw_b (by omega) ?_
            refine zw_some ?_
            refine zw_ite (fun h23 => ?_) (fun h23 => ?_)
            · exfalso; omega
            · refine zw_b (by omega) ?_
              have r24 : 0 ≤ (m21 a0 7) ∧ (m21 a0 7) ≤ 700 := zi_rd hIm21 hc0 zb_28_7
              have r25 : 0 ≤ (m21 a0 8) ∧ (m21 a0 8) ≤ 6 := zi_rd hIm21 hc0 zb_28_8
              have e26 : (m21 a0 8) = (m11 a0 8) := (Eq.trans (zs_ne hmm21 (Or.inr (by decide))) (zs_ne hmm19 (Or.inr (by decide))))
              have r27 : (-2147483648) ≤ (m21 a0 4) ∧ (m21 a0 4) ≤ 2147483647 := zi_rd hIm21 hc0 zb_28_4
              have e28 : (m21 a0 4) = 2 := (Eq.trans (zs_ne hmm21 (Or.inr (by decide))) (zs_eq hmm19))
              exact zw_some ⟨hIm21, hFm21, hRCRm21, hRLRm21, hRNSm21, hRTRm21, hRWDm21, ⟨by omega, by omega⟩, by omega, by omega, by omega⟩
      · refine zw_ite (fun h29 => ?_) (fun h29 => ?_)
        · refine zw_b (by omega) ?_
          refine zw_some ?_
          refine zw_ite (fun h30 => ?_) (fun h30 => ?_)
          · exfalso; omega
          · refine zw_bd (zw_eq (zu_call_at (zt_T n) (zm_85 n) (zdp_85 n) _ _ _ _ _ rfl (zr_85_0 n _ _ a0 2 m11)) ?_)
            generalize hmm31 : zu_up m11 a0 4 2 = m31
            have hIm31 := zi_up hmm31 hIm11 hc0 zb_28_4 (by omega) (by omega)
            have hFm31 := zfr_up hmm31 hFm11 hc0 rfl
            have hRCRm31 := zR_CR_fr (zdis_fr (zfr_up hmm31 (zfr_rf [(28, 5)] _) hc0 rfl) rfl) hRCRm11
            have hRNSm31 := zR_NS_fr (zdis_fr (zfr_up hmm31 (zfr_rf [(28, 5)] _) hc0 rfl) rfl) hRNSm11
            have hRTRm31 := zR_TR_fr (zdis_fr (zfr_up hmm31 (zfr_rf [(28, 5)] _) hc0 rfl) rfl) hRTRm11
            have hRWDm31 := zR_WD_fr (zdis_fr (zfr_up hmm31 (zfr_rf [(28, 5)] _) hc0 rfl) rfl) hRWDm11
            have hRLRm31 := zLR_wr (zone_190 hc0) hmm31 (by decide)
            have r32 : 0 ≤ (m31 a0 10) ∧ (m31 a0 10) ≤ 700 := zi_rd hIm31 hc0 zb_28_10
            generalize hmm33 : zu_up m31 a0 5 (m31 a0 10) = m33
            have hIm33 := zi_up hmm33 hIm31 hc0 zb_28_5 (by omega) (by omega)
            have hFm33 := zfr_up hmm33 hFm31 hc0 rfl
            have hRCRm33 := zR_CR_fr (zdis_fr (zfr_up hmm33 (zfr_rf [(28, 6)] _) hc0 rfl) rfl) hRCRm31
            have hRLRm33 := zR_LR_fr (zdis_fr (zfr_up hmm33 (zfr_rf [(28, 6)] _) hc0 rfl) rfl) hRLRm31
            have hRNSm33 := zR_NS_fr (zdis_fr (zfr_up hmm33 (zfr_rf [(28, 6)] _) hc0 rfl) rfl) hRNSm31
            have hRTRm33 := zR_TR_fr (zdis_fr (zfr_up hmm33 (zfr_rf [(28, 6)] _) hc0 rfl) rfl) hRTRm31
            have hRWDm33 := zR_WD_fr (zdis_fr (zfr_up hmm33 (zfr_rf [(28, 6)] _) hc0 rfl) rfl) hRWDm31
            refine zw_b (by omega) ?_
            refine zw_some ?_
            refine zw_b (by omega) ?_
            refine zw_some ?_
            refine zw_ite (fun h34 => ?_) (fun h34 => ?_)
            · exfalso; omega
            · refine zw_b (by omega) ?_
              refine zw_some ?_
              refine zw_ite (fun h35 => ?_) (fun h35 => ?_)
              · exfalso; omega
              · refine zw_b (by omega) ?_
                have r36 : 0 ≤ (m33 a0 7) ∧ (m33 a0 7) ≤ 700 := zi_rd hIm33 hc0 zb_28_7
                have r37 : 0 ≤ (m33 a0 8) ∧ (m33 a0 8) ≤ 6 := zi_rd hIm33 hc0 zb_28_8
                have e38 : (m33 a0 8) = (m11 a0 8) := (Eq.trans (zs_ne hmm33 (Or.inr (by decide))) (zs_ne hmm31 (Or.inr (by decide))))
                have r39 : (-2147483648) ≤ (m33 a0 4) ∧ (m33 a0 4) ≤ 2147483647 := zi_rd hIm33 hc0 zb_28_4
                have e40 : (m33 a0 4) = 2 := (Eq.trans (zs_ne hmm33 (Or.inr (by decide))) (zs_eq hmm31))
                exact zw_some ⟨hIm33, hFm33, hRCRm33, hRLRm33, hRNSm33, hRTRm33, hRWDm33, ⟨by omega, by omega⟩, by omega, by omega, by omega⟩
        · refine zw_b (by omega) ?_
          refine zw_some ?_
          refine zw_ite (fun h41 => ?_) (fun h41 => ?_)
          · generalize hmm42 : zu_up m11 a0 11 (m11 a0 9) = m42
            have hIm42 := zi_up hmm42 hIm11 hc0 zb_28_11 (by omega) (by omega)
            have hFm42 := zfr_up hmm42 hFm11 hc0 rfl
            have hRCRm42 := zR_CR_fr (zdis_fr (zfr_up hmm42 (zfr_rf [(28, 12)] _) hc0 rfl) rfl) hRCRm11
            have hRLRm42 := zR_LR_fr (zdis_fr (zfr_up hmm42 (zfr_rf [(28, 12)] _) hc0 rfl) rfl) hRLRm11
            have hRNSm42 := zR_NS_fr (zdis_fr (zfr_up hmm42 (zfr_rf [(28, 12)] _) hc0 rfl) rfl) hRNSm11
            have hRTRm42 := zR_TR_fr (zdis_fr (zfr_up hmm42 (zfr_rf [(28, 12)] _) hc0 rfl) rfl) hRTRm11
            have hRWDm42 := zR_WD_fr (zdis_fr (zfr_up hmm42 (zfr_rf [(28, 12)] _) hc0 rfl) rfl) hRWDm11
            refine zw_bd (zw_mono (zk_89 n hIm42 hc0 hRNSm42 hRWDm42) (fun v44 m43 hqm43 => ?_))
            obtain ⟨hIm43, hfm43, hvm43⟩ := hqm43
            have hFm43 := zfr_tr hFm42 hfm43 rfl
            obtain ⟨hRNSm43, hRTRm43, hRWDm43, hvm43⟩ := hvm43
            have hRCRm43 := zR_CR_fr (zdis_fr hfm43 rfl) hRCRm42
            have hRLRm43 := zR_LR_fr (zdis_fr hfm43 rfl) hRLRm42
            have s45 := hRNSm43 a0 hc0
            have s46 := hRTRm43 a0 hc0
            refine zw_b (by omega) ?_
            refine zw_some ?_
            refine zw_ite (fun h47 => ?_) (fun h47 => ?_)
            · have r48 : (-2147483648) ≤ (m43 a0 11) ∧ (m43 a0 11) ≤ 2147483647 := zi_rd hIm43 hc0 zb_28_11
              have e49 : (m43 a0 11) = (m11 a0 9) := (Eq.trans (zfr_ap hfm43 hc0 rfl) (zs_eq hmm42))
              have r50 : 0 ≤ (m43 a0 10) ∧ (m43 a0 10) ≤ 700 := zi_rd hIm43 hc0 zb_28_10
              generalize hmm51 : zu_up m43 a0 42 (m43 a0 10) = m51
              have hIm51 := zi_up hmm51 hIm43 hc0 zb_28_42 (by omega) (by omega)
              have hFm51 := zfr_up hmm51 hFm43 hc0 rfl
              have hRCRm51 := zR_CR_fr (zdis_fr (zfr_up hmm51 (zfr_rf [(28, 43)] _) hc0 rfl) rfl) hRCRm43
              have hRLRm51 := zR_LR_fr (zdis_fr (zfr_up hmm51 (zfr_rf [(28, 43)] _) hc0 rfl) rfl) hRLRm43
              have hRNSm51 := zR_NS_fr (zdis_fr (zfr_up hmm51 (zfr_rf [(28, 43)] _) hc0 rfl) rfl) hRNSm43
              have hRTRm51 := zR_TR_fr (zdis_fr (zfr_up hmm51 (zfr_rf [(28, 43)] _) hc0 rfl) rfl) hRTRm43
              have hRWDm51 := zR_WD_fr (zdis_fr (zfr_up hmm51 (zfr_rf [(28, 43)] _) hc0 rfl) rfl) hRWDm43
              have r52 : 1 ≤ (m51 a0 18) ∧ (m51 a0 18) ≤ 6 := zi_rd hIm51 hc0 zb_28_18
              have w53 := zu_w32_id (z := (m51 a0 18) - 1) (by omega) (by omega)
              refine zw_bd (zw_eq (zu_call_at (zt_T n) (zm_94 n) (zdp_94 n) _ _ _ _ _ rfl (zr_94_0 n _ _ a0 0 (zu_w32 ((m51 a0 18) - 1)) m51)) ?_)
              have r54 : 0 ≤ (m51 a0 8) ∧ (m51 a0 8) ≤ 6 := zi_rd hIm51 hc0 zb_28_8
              refine zw_ite (fun h55 => ?_) (fun h55 => ?_)
              · have r56 : (-2147483648) ≤ (m51 a0 9) ∧ (m51 a0 9) ≤ 2147483647 := zi_rd hIm51 hc0 zb_28_9
                refine zw_bd (zw_eq (zu_call_at (zt_T n) (zm_83 n) (zdp_83 n) _ _ _ _ _ rfl (zr_83_0 n _ _ (m51 a0 9) 0 (zu_w32 ((m51 a0 18) - 1)) m51)) ?_)
                refine zw_ite (fun h57 => ?_) (fun h57 => ?_)
                · refine zw_b (by omega) ?_
                  refine zw_some ?_
                  refine zw_ite (fun h58 => ?_) (fun h58 => ?_)
                  · exfalso; omega
                  · refine zw_bd (zw_eq (zu_call_at (zt_T n) (zm_85 n) (zdp_85 n) _ _ _ _ _ rfl (zr_85_0 n _ _ a0 2 m51)) ?_)
                    generalize hmm59 : zu_up m51 a0 4 2 = m59
                    have hIm59 := zi_up hmm59 hIm51 hc0 zb_28_4 (by omega) (by omega)
                    have hFm59 := zfr_up hmm59 hFm51 hc0 rfl
                    have hRCRm59 := zR_CR_fr (zdis_fr (zfr_up hmm59 (zfr_rf [(28, 5)] _) hc0 rfl) rfl) hRCRm51
                    have hRNSm59 := zR_NS_fr (zdis_fr (zfr_up hmm59 (zfr_rf [(28, 5)] _) hc0 rfl) rfl) hRNSm51
                    have hRTRm59 := zR_TR_fr (zdis_fr (zfr_up hmm59 (zfr_rf [(28, 5)] _) hc0 rfl) rfl) hRTRm51
                    have hRWDm59 := zR_WD_fr (zdis_fr (zfr_up hmm59 (zfr_rf [(28, 5)] _) hc0 rfl) rfl) hRWDm51
                    have hRLRm59 := zLR_wr (zone_190 hc0) hmm59 (by decide)
                    have r60 : 0 ≤ (m59 a0 10) ∧ (m59 a0 10) ≤ 700 := zi_rd hIm59 hc0 zb_28_10
                    have e61 : (m59 a0 10) = (m43 a0 10) := (Eq.trans (zs_ne hmm59 (Or.inr (by decide))) (zs_ne hmm51 (Or.inr (by decide))))
                    generalize hmm62 : zu_up m59 a0 5 (m59 a0 10) = m62
                    have hIm62 := zi_up hmm62 hIm59 hc0 zb_28_5 (by omega) (by omega)
                    have hFm62 := zfr_up hmm62 hFm59 hc0 rfl
                    have hRCRm62 := zR_CR_fr (zdis_fr (zfr_up hmm62 (zfr_rf [(28, 6)] _) hc0 rfl) rfl) hRCRm59
                    have hRLRm62 := zR_LR_fr (zdis_fr (zfr_up hmm62 (zfr_rf [(28, 6)] _) hc0 rfl) rfl) hRLRm59
                    have hRNSm62 := zR_NS_fr (zdis_fr (zfr_up hmm62 (zfr_rf [(28, 6)] _) hc0 rfl) rfl) hRNSm59
                    have hRTRm62 := zR_TR_fr (zdis_fr (zfr_up hmm62 (zfr_rf [(28, 6)] _) hc0 rfl) rfl) hRTRm59
                    have hRWDm62 := zR_WD_fr (zdis_fr (zfr_up hmm62 (zfr_rf [(28, 6)] _) hc0 rfl) rfl) hRWDm59
                    refine zw_b (by omega) ?_
                    refine zw_some ?_
                    refine zw_b (by omega) ?_
                    refine zw_some ?_
                    refine zw_ite (fun h63 => ?_) (fun h63 => ?_)
                    · exfalso; omega
                    · refine zw_b (by omega) ?_
                      refine zw_some ?_
                      refine zw_ite (fun h64 => ?_) (fun h64 => ?_)
                      · exfalso; omega
                      · refine zw_b (by omega) ?_
                        have r65 : 0 ≤ (m62 a0 7) ∧ (m62 a0 7) ≤ 700 := zi_rd hIm62 hc0 zb_28_7
                        have r66 : 0 ≤ (m62 a0 8) ∧ (m62 a0 8) ≤ 6 := zi_rd hIm62 hc0 zb_28_8
                        have e67 : (m62 a0 8) = (m51 a0 8) := (Eq.trans (zs_ne hmm62 (Or.inr (by decide))) (zs_ne hmm59 (Or.inr (by decide))))
                        have r68 : (-2147483648) ≤ (m62 a0 4) ∧ (m62 a0 4) ≤ 2147483647 := zi_rd hIm62 hc0 zb_28_4
                        have e69 : (m62 a0 4) = 2 := (Eq.trans (zs_ne hmm62 (Or.inr (by decide))) (zs_eq hmm59))
                        exact zw_some ⟨hIm62, hFm62, hRCRm62, hRLRm62, hRNSm62, hRTRm62, hRWDm62, ⟨by omega, by omega⟩, by omega, by omega, by omega⟩
                · refine zw_ite (fun h70 => ?_) (fun h70 => ?_)
                  · refine zw_b (by omega) ?_
                    refine zw_some ?_
                    refine zw_ite (fun h71 => ?_) (fun h71 => ?_)
                    · exfalso; omega
                    · refine zw_bd (zw_eq (zu_call_at (zt_T n) (zm_85 n) (zdp_85 n) _ _ _ _ _ rfl (zr_85_0 n _ _ a0 2 m51)) ?_)
                      generalize hmm72 : zu_up m51 a0 4 2 = m72
                      have hIm72 := zi_up hmm72 hIm51 hc0 zb_28_4 (by omega) (by omega)
                      have hFm72 := zfr_up hmm72 hFm51 hc0 rfl
                      have hRCRm72 := zR_CR_fr (zdis_fr (zfr_up hmm72 (zfr_rf [(28, 5)] _) hc0 rfl) rfl) hRCRm51
                      have hRNSm72 := zR_NS_fr (zdis_fr (zfr_up hmm72 (zfr_rf [(28, 5)] _) hc0 rfl) rfl) hRNSm51
                      have hRTRm72 := zR_TR_fr (zdis_fr (zfr_up hmm72 (zfr_rf [(28, 5)] _) hc0 rfl) rfl) hRTRm51
                      have hRWDm72 := zR_WD_fr (zdis_fr (zfr_up hmm72 (zfr_rf [(28, 5)] _) hc0 rfl) rfl) hRWDm51
                      have hRLRm72 := zLR_wr (zone_190 hc0) hmm72 (by decide)
                      have r73 : 0 ≤ (m72 a0 10) ∧ (m72 a0 10) ≤ 700 := zi_rd hIm72 hc0 zb_28_10
                      have e74 : (m72 a0 10) = (m43 a0 10) := (Eq.trans (zs_ne hmm72 (Or.inr (by decide))) (zs_ne hmm51 (Or.inr (by decide))))
                      generalize hmm75 : zu_up m72 a0 5 (m72 a0 10) = m75
                      have hIm75 := zi_up hmm75 hIm72 hc0 zb_28_5 (by omega) (by omega)
                      have hFm75 := zfr_up hmm75 hFm72 hc0 rfl
                      have hRCRm75 := zR_CR_fr (zdis_fr (zfr_up hmm75 (zfr_rf [(28, 6)] _) hc0 rfl) rfl) hRCRm72
                      have hRLRm75 := zR_LR_fr (zdis_fr (zfr_up hmm75 (zfr_rf [(28, 6)] _) hc0 rfl) rfl) hRLRm72
                      have hRNSm75 := zR_NS_fr (zdis_fr (zfr_up hmm75 (zfr_rf [(28, 6)] _) hc0 rfl) rfl) hRNSm72
                      have hRTRm75 := zR_TR_fr (zdis_fr (zfr_up hmm75 (zfr_rf [(28, 6)] _) hc0 rfl) rfl) hRTRm72
                      have hRWDm75 := zR_WD_fr (zdis_fr (zfr_up hmm75 (zfr_rf [(28, 6)] _) hc0 rfl) rfl) hRWDm72
                      refine zw_b (by omega) ?_
                      refine zw_some ?_
                      refine zw_b (by omega) ?_
                      refine zw_some ?_
                      refine zw_ite (fun h76 => ?_) (fun h76 => ?_)
                      · exfalso; omega
                      · refine zw_b (by omega) ?_
                        refine zw_some ?_
                        refine zw_ite (fun h77 => ?_) (fun h77 => ?_)
                        · exfalso; omega
                        · refine zw_b (by omega) ?_
                          have r78 : 0 ≤ (m75 a0 7) ∧ (m75 a0 7) ≤ 700 := zi_rd hIm75 hc0 zb_28_7
                          have r79 : 0 ≤ (m75 a0 8) ∧ (m75 a0 8) ≤ 6 := zi_rd hIm75 hc0 zb_28_8
                          have e80 : (m75 a0 8) = (m51 a0 8) := (Eq.trans (zs_ne hmm75 (Or.inr (by decide))) (zs_ne hmm72 (Or.inr (by decide))))
                          have r81 : (-2147483648) ≤ (m75 a0 4) ∧ (m75 a0 4) ≤ 2147483647 := zi_rd hIm75 hc0 zb_28_4
                          have e82 : (m75 a0 4) = 2 := (Eq.trans (zs_ne hmm75 (Or.inr (by decide))) (zs_eq hmm72))
                          exact zw_some ⟨hIm75, hFm75, hRCRm75, hRLRm75, hRNSm75, hRTRm75, hRWDm75, ⟨by omega, by omega⟩, by omega, by omega, by omega⟩
                  · refine zw_b (by omega) ?_
                    refine zw_some ?_
                    refine zw_ite (fun h83 => ?_) (fun h83 => ?_)
                    · generalize hmm84 : zu_up m51 a0 11 (m51 a0 9) = m84
                      have hIm84 := zi_up hmm84 hIm51 hc0 zb_28_11 (by omega) (by omega)
                      have hFm84 := zfr_up hmm84 hFm51 hc0 rfl
                      have hRCRm84 := zR_CR_fr (zdis_fr (zfr_up hmm84 (zfr_rf [(28, 12)] _) hc0 rfl) rfl) hRCRm51
                      have hRLRm84 := zR_LR_fr (zdis_fr (zfr_up hmm84 (zfr_rf [(28, 12)] _) hc0 rfl) rfl) hRLRm51
                      have hRNSm84 := zR_NS_fr (zdis_fr (zfr_up hmm84 (zfr_rf [(28, 12)] _) hc0 rfl) rfl) hRNSm51
                      have hRTRm84 := zR_TR_fr (zdis_fr (zfr_up hmm84 (zfr_rf [(28, 12)] _) hc0 rfl) rfl) hRTRm51
                      have hRWDm84 := zR_WD_fr (zdis_fr (zfr_up hmm84 (zfr_rf [(28, 12)] _) hc0 rfl) rfl) hRWDm51
                      refine zw_bd (zw_mono (zk_89 n hIm84 hc0 hRNSm84 hRWDm84) (fun v86 m85 hqm85 => ?_))
                      obtain ⟨hIm85, hfm85, hvm85⟩ := hqm85
                      have hFm85 := zfr_tr hFm84 hfm85 rfl
                      obtain ⟨hRNSm85, hRTRm85, hRWDm85, hvm85⟩ := hvm85
                      have hRCRm85 := zR_CR_fr (zdis_fr hfm85 rfl) hRCRm84
                      have hRLRm85 := zR_LR_fr (zdis_fr hfm85 rfl) hRLRm84
                      have s87 := hRNSm85 a0 hc0
                      have s88 := hRTRm85 a0 hc0
                      refine zw_b (by omega) ?_
                      refine zw_some ?_
                      refine zw_ite (fun h89 => ?_) (fun h89 => ?_)
                      · have r90 : 1 ≤ (m85 a0 17) ∧ (m85 a0 17) ≤ 8 := zi_rd hIm85 hc0 zb_28_17
                        have e91 : (m85 a0 17) = (m11 a0 17) := (Eq.trans (zfr_ap hfm85 hc0 rfl) (Eq.trans (zs_ne hmm84 (Or.inr (by decide))) (Eq.trans (zs_ne hmm51 (Or.inr (by decide))) (Eq.trans (zfr_ap hfm43 hc0 rfl) (zs_ne hmm42 (Or.inr (by decide)))))))
                        have r92 : (-2147483648) ≤ (m85 a0 11) ∧ (m85 a0 11) ≤ 2147483647 := zi_rd hIm85 hc0 zb_28_11
                        have e93 : (m85 a0 11) = (m51 a0 9) := (Eq.trans (zfr_ap hfm85 hc0 rfl) (zs_eq hmm84))
                        have p94 := zmul_bd (x := (m85 a0 17)) (y := (m85 a0 11)) (a := 1) (b := 0) (A := 8) (B := 5) (by omega) (by omega) (by omega) (by omega) (by omega) (by omega)
                        have w95 := zu_w32_id (z := (m85 a0 17) * (m85 a0 11)) (by omega) (by omega)
                        have w96 := zu_w32_id (z := (zu_w32 ((m85 a0 17) * (m85 a0 11))) + (m43 a0 11)) (by omega) (by omega)
                        generalize hmm97 : zu_up m85 a0 11 (zu_w32 ((zu_w32 ((m85 a0 17) * (m85 a0 11))) + (m43 a0 11))) = m97
                        have hIm97 := zi_up hmm97 hIm85 hc0 zb_28_11 (by omega) (by omega)
                        have hFm97 := zfr_up hmm97 hFm85 hc0 rfl
                        have hRCRm97 := zR_CR_fr (zdis_fr (zfr_up hmm97 (zfr_rf [(28, 12)] _) hc0 rfl) rfl) hRCRm85
                        have hRLRm97 := zR_LR_fr (zdis_fr (zfr_up hmm97 (zfr_rf [(28, 12)] _) hc0 rfl) rfl) hRLRm85
                        have hRNSm97 := zR_NS_fr (zdis_fr (zfr_up hmm97 (zfr_rf [(28, 12)] _) hc0 rfl) rfl) hRNSm85
                        have hRTRm97 := zR_TR_fr (zdis_fr (zfr_up hmm97 (zfr_rf [(28, 12)] _) hc0 rfl) rfl) hRTRm85
                        have hRWDm97 := zR_WD_fr (zdis_fr (zfr_up hmm97 (zfr_rf [(28, 12)] _) hc0 rfl) rfl) hRWDm85
                        refine zw_b (by omega) ?_
                        refine zw_some ?_
                        refine zw_ite (fun h98 => ?_) (fun h98 => ?_)
                        · have r99 : (-2147483648) ≤ (m97 a0 11) ∧ (m97 a0 11) ≤ 2147483647 := zi_rd hIm97 hc0 zb_28_11
                          have e100 : (m97 a0 11) = (zu_w32 ((zu_w32 ((m85 a0 17) * (m85 a0 11))) + (m43 a0 11))) := (zs_eq hmm97)
                          have b101 : 0 ≤ (m97 a0 11) ∧ (m97 a0 11) < 48 := by omega
                          refine zw_if b101 ?_
                          have r102 : 0 ≤ (m97 196 (m97 a0 11)) ∧ (m97 196 (m97 a0 11)) ≤ 1 := zi_rd hIm97 zq_196 (zb_105 _)
                          refine zw_ite (fun h103 => ?_) (fun h103 => ?_)
                          · refine zw_b (by omega) ?_
                            have b104 : 0 ≤ (m97 a0 11) ∧ (m97 a0 11) < 48 := by omega
                            refine zw_if b104 ?_
                            generalize hmm105 : zu_up m97 196 (m97 a0 11) 1 = m105
                            have hIm105 := zi_up hmm105 hIm97 zq_196 (zb_105 _) (by omega) (by omega)
                            have hFm105 := zfr_up hmm105 hFm97 zq_196 rfl
                            have hRCRm105 := zR_CR_fr (zdis_fr (zfr_up hmm105 (zfr_rf [(105, 0)] _) zq_196 rfl) rfl) hRCRm97
                            have hRLRm105 := zR_LR_fr (zdis_fr (zfr_up hmm105 (zfr_rf [(105, 0)] _) zq_196 rfl) rfl) hRLRm97
                            have hRNSm105 := zR_NS_fr (zdis_fr (zfr_up hmm105 (zfr_rf [(105, 0)] _) zq_196 rfl) rfl) hRNSm97
                            have hRTRm105 := zR_TR_fr (zdis_fr (zfr_up hmm105 (zfr_rf [(105, 0)] _) zq_196 rfl) rfl) hRTRm97
                            have hRWDm105 := zR_WD_fr (zdis_fr (zfr_up hmm105 (zfr_rf [(105, 0)] _) zq_196 rfl) rfl) hRWDm97
                            have r106 : (-2147483648) ≤ (m105 a0 11) ∧ (m105 a0 11) ≤ 2147483647 := zi_rd hIm105 hc0 zb_28_11
                            have e107 : (m105 a0 11) = (m97 a0 11) := (zs_ne hmm105 (Or.inl (zc_ne hc0 zq_196 (by decide))))
                            have w108 := zu_w32_id (z := 48 + (m105 a0 11)) (by omega) (by omega)
                            have b109 : 0 ≤ (zu_w32 (48 + (m105 a0 11))) ∧ (zu_w32 (48 + (m105 a0 11))) < 96 := by omega
                            refine zw_if b109 ?_
                            generalize hmm110 : zu_up m105 195 (zu_w32 (48 + (m105 a0 11))) a1 = m110
                            have hIm110 := zi_up hmm110 hIm105 zq_195 (zb_104 _) (by omega) (by omega)
                            have hFm110 := zfr_up hmm110 hFm105 zq_195 rfl
                            have hRCRm110 := zR_CR_fr (zdis_fr (zfr_up hmm110 (zfr_rf [(104, 0)] _) zq_195 rfl) rfl) hRCRm105
                            have hRLRm110 := zR_LR_fr (zdis_fr (zfr_up hmm110 (zfr_rf [(104, 0)] _) zq_195 rfl) rfl) hRLRm105
                            have hRNSm110 := zR_NS_fr (zdis_fr (zfr_up hmm110 (zfr_rf [(104, 0)] _) zq_195 rfl) rfl) hRNSm105
                            have hRTRm110 := zR_TR_fr (zdis_fr (zfr_up hmm110 (zfr_rf [(104, 0)] _) zq_195 rfl) rfl) hRTRm105
                            have hRWDm110 := zR_WD_fr (zdis_fr (zfr_up hmm110 (zfr_rf [(104, 0)] _) zq_195 rfl) rfl) hRWDm105
                            have r111 : 0 ≤ (m110 a0 22) ∧ (m110 a0 22) ≤ 16 := zi_rd hIm110 hc0 zb_28_22
                            have e112 : (m110 a0 22) = (m0 a0 22) := (Eq.trans (zs_ne hmm110 (Or.inl (zc_ne hc0 zq_195 (by decide)))) (Eq.trans (zs_ne hmm105 (Or.inl (zc_ne hc0 zq_196 (by decide)))) (Eq.trans (zs_ne hmm97 (Or.inr (by decide))) (Eq.trans (zfr_ap hfm85 hc0 rfl) (Eq.trans (zs_ne hmm84 (Or.inr (by decide))) (Eq.trans (zs_ne hmm51 (Or.inr (by decide))) (Eq.trans (zfr_ap hfm43 hc0 rfl) (Eq.trans (zs_ne hmm42 (Or.inr (by decide))) (Eq.trans (zs_ne hmm11 (Or.inr (by decide))) (zfr_ap hfm7 hc0 rfl))))))))))
                            have w113 := zu_w32_id (z := (m110 a0 22) + 1) (by omega) (by omega)
                            generalize hmm114 : zu_up m110 a0 22 (zu_w32 ((m110 a0 22) + 1)) = m114
                            have hIm114 := zi_up hmm114 hIm110 hc0 zb_28_22 (by omega) (by omega)
                            have hFm114 := zfr_up hmm114 hFm110 hc0 rfl
                            have hRCRm114 := zR_CR_fr (zdis_fr (zfr_up hmm114 (zfr_rf [(28, 23)] _) hc0 rfl) rfl) hRCRm110
                            have hRLRm114 := zR_LR_fr (zdis_fr (zfr_up hmm114 (zfr_rf [(28, 23)] _) hc0 rfl) rfl) hRLRm110
                            have hRNSm114 := zR_NS_fr (zdis_fr (zfr_up hmm114 (zfr_rf [(28, 23)] _) hc0 rfl) rfl) hRNSm110
                            have hRTRm114 := zR_TR_fr (zdis_fr (zfr_up hmm114 (zfr_rf [(28, 23)] _) hc0 rfl) rfl) hRTRm110
                            have hRWDm114 := zR_WD_fr (zdis_fr (zfr_up hmm114 (zfr_rf [(28, 23)] _) hc0 rfl) rfl) hRWDm110
                            refine zw_b (by omega) ?_
                            have r115 : 0 ≤ (m114 a0 7) ∧ (m114 a0 7) ≤ 700 := zi_rd hIm114 hc0 zb_28_7
                            have r116 : 0 ≤ (m114 a0 8) ∧ (m114 a0 8) ≤ 6 := zi_rd hIm114 hc0 zb_28_8
                            have r117 : (-2147483648) ≤ (m114 a0 4) ∧ (m114 a0 4) ≤ 2147483647 := zi_rd hIm114 hc0 zb_28_4
                            have e118 : (m114 a0 4) = (m0 a0 4) := (Eq.trans (zs_ne hmm114 (Or.inr (by decide))) (Eq.trans (zs_ne hmm110 (Or.inl (zc_ne hc0 zq_195 (by decide)))) (Eq.trans (zs_ne hmm105 (Or.inl (zc_ne hc0 zq_196 (by decide)))) (Eq.trans (zs_ne hmm97 (Or.inr (by decide))) (Eq.trans (zfr_ap hfm85 hc0 rfl) (Eq.trans (zs_ne hmm84 (Or.inr (by decide))) (Eq.trans (zs_ne hmm51 (Or.inr (by decide))) (Eq.trans (zfr_ap hfm43 hc0 rfl) (Eq.trans (zs_ne hmm42 (Or.inr (by decide))) (Eq.trans (zs_ne hmm11 (Or.inr (by decide))) (zfr_ap hfm7 hc0 rfl)))))))))))
                            exact zw_some ⟨hIm114, hFm114, hRCRm114, hRLRm114, hRNSm114, hRTRm114, hRWDm114, ⟨by omega, by omega⟩, by omega, by omega, by omega⟩
                          · have r119 : (-2147483648) ≤ (m97 a0 42) ∧ (m97 a0 42) ≤ 2147483647 := zi_rd hIm97 hc0 zb_28_42
                            have e120 : (m97 a0 42) = (m43 a0 10) := (Eq.trans (zs_ne hmm97 (Or.inr (by decide))) (Eq.trans (zfr_ap hfm85 hc0 rfl) (Eq.trans (zs_ne hmm84 (Or.inr (by decide))) (zs_eq hmm51))))
                            generalize hmm121 : zu_up m97 a0 10 (m97 a0 42) = m121
                            have hIm121 := zi_up hmm121 hIm97 hc0 zb_28_10 (by omega) (by omega)
                            have hFm121 := zfr_up hmm121 hFm97 hc0 rfl
                            have hRCRm121 := zR_CR_fr (zdis_fr (zfr_up hmm121 (zfr_rf [(28, 11)] _) hc0 rfl) rfl) hRCRm97
                            have hRLRm121 := zR_LR_fr (zdis_fr (zfr_up hmm121 (zfr_rf [(28, 11)] _) hc0 rfl) rfl) hRLRm97
                            have hRNSm121 := zR_NS_fr (zdis_fr (zfr_up hmm121 (zfr_rf [(28, 11)] _) hc0 rfl) rfl) hRNSm97
                            have hRTRm121 := zR_TR_fr (zdis_fr (zfr_up hmm121 (zfr_rf [(28, 11)] _) hc0 rfl) rfl) hRTRm97
                            have hRWDm121 := zR_WD_fr (zdis_fr (zfr_up hmm121 (zfr_rf [(28, 11)] _) hc0 rfl) rfl) hRWDm97
                            refine zw_bd (zw_eq (zu_call_at (zt_T n) (zm_85 n) (zdp_85 n) _ _ _ _ _ rfl (zr_85_0 n _ _ a0 3 m121)) ?_)
                            generalize hmm122 : zu_up m121 a0 4 3 = m122
                            have hIm122 := zi_up hmm122 hIm121 hc0 zb_28_4 (by omega) (by omega)
                            have hFm122 := zfr_up hmm122 hFm121 hc0 rfl
                            have hRCRm122 := zR_CR_fr (zdis_fr (zfr_up hmm122 (zfr_rf [(28, 5)] _) hc0 rfl) rfl) hRCRm121
                            have hRNSm122 := zR_NS_fr (zdis_fr (zfr_up hmm122 (zfr_rf [(28, 5)] _) hc0 rfl) rfl) hRNSm121
                            have hRTRm122 := zR_TR_fr (zdis_fr (zfr_up hmm122 (zfr_rf [(28, 5)] _) hc0 rfl) rfl) hRTRm121
                            have hRWDm122 := zR_WD_fr (zdis_fr (zfr_up hmm122 (zfr_rf [(28, 5)] _) hc0 rfl) rfl) hRWDm121
                            have hRLRm122 := zLR_wr (zone_190 hc0) hmm122 (by decide)
                            have r123 : 0 ≤ (m122 a0 10) ∧ (m122 a0 10) ≤ 700 := zi_rd hIm122 hc0 zb_28_10
                            have e124 : (m122 a0 10) = (m97 a0 42) := (Eq.trans (zs_ne hmm122 (Or.inr (by decide))) (zs_eq hmm121))
                            generalize hmm125 : zu_up m122 a0 5 (m122 a0 10) = m125
                            have hIm125 := zi_up hmm125 hIm122 hc0 zb_28_5 (by omega) (by omega)
                            have hFm125 := zfr_up hmm125 hFm122 hc0 rfl
                            have hRCRm125 := zR_CR_fr (zdis_fr (zfr_up hmm125 (zfr_rf [(28, 6)] _) hc0 rfl) rfl) hRCRm122
                            have hRLRm125 := zR_LR_fr (zdis_fr (zfr_up hmm125 (zfr_rf [(28, 6)] _) hc0 rfl) rfl) hRLRm122
                            have hRNSm125 := zR_NS_fr (zdis_fr (zfr_up hmm125 (zfr_rf [(28, 6)] _) hc0 rfl) rfl) hRNSm122
                            have hRTRm125 := zR_TR_fr (zdis_fr (zfr_up hmm125 (zfr_rf [(28, 6)] _) hc0 rfl) rfl) hRTRm122
                            have hRWDm125 := zR_WD_fr (zdis_fr (zfr_up hmm125 (zfr_rf [(28, 6)] _) hc0 rfl) rfl) hRWDm122
                            refine zw_b (by omega) ?_
                            refine zw_some ?_
                            refine zw_b (by omega) ?_
                            have r126 : 0 ≤ (m125 a0 7) ∧ (m125 a0 7) ≤ 700 := zi_rd hIm125 hc0 zb_28_7
                            have r127 : 0 ≤ (m125 a0 8) ∧ (m125 a0 8) ≤ 6 := zi_rd hIm125 hc0 zb_28_8
                            have r128 : (-2147483648) ≤ (m125 a0 4) ∧ (m125 a0 4) ≤ 2147483647 := zi_rd hIm125 hc0 zb_28_4
                            have e129 : (m125 a0 4) = 3 := (Eq.trans (zs_ne hmm125 (Or.inr (by decide))) (zs_eq hmm122))
                            exact zw_some ⟨hIm125, hFm125, hRCRm125, hRLRm125, hRNSm125, hRTRm125, hRWDm125, ⟨by omega, by omega⟩, by omega, by omega, by omega⟩
                        · exfalso; omega
                      · exfalso; omega
                    · exfalso; omega
              · refine zw_bd (zw_eq (zu_call_at (zt_T n) (zm_85 n) (zdp_85 n) _ _ _ _ _ rfl (zr_85_0 n _ _ a0 1 m51)) ?_)
                generalize hmm130 : zu_up m51 a0 4 1 = m130
                have hIm130 := zi_up hmm130 hIm51 hc0 zb_28_4 (by omega) (by omega)
                have hFm130 := zfr_up hmm130 hFm51 hc0 rfl
                have hRCRm130 := zR_CR_fr (zdis_fr (zfr_up hmm130 (zfr_rf [(28, 5)] _) hc0 rfl) rfl) hRCRm51
                have hRNSm130 := zR_NS_fr (zdis_fr (zfr_up hmm130 (zfr_rf [(28, 5)] _) hc0 rfl) rfl) hRNSm51
                have hRTRm130 := zR_TR_fr (zdis_fr (zfr_up hmm130 (zfr_rf [(28, 5)] _) hc0 rfl) rfl) hRTRm51
                have hRWDm130 := zR_WD_fr (zdis_fr (zfr_up hmm130 (zfr_rf [(28, 5)] _) hc0 rfl) rfl) hRWDm51
                have hRLRm130 := zLR_wr (zone_190 hc0) hmm130 (by decide)
                have r131 : 0 ≤ (m130 a0 10) ∧ (m130 a0 10) ≤ 700 := zi_rd hIm130 hc0 zb_28_10
                have e132 : (m130 a0 10) = (m43 a0 10) := (Eq.trans (zs_ne hmm130 (Or.inr (by decide))) (zs_ne hmm51 (Or.inr (by decide))))
                generalize hmm133 : zu_up m130 a0 5 (m130 a0 10) = m133
                have hIm133 := zi_up hmm133 hIm130 hc0 zb_28_5 (by omega) (by omega)
                have hFm133 := zfr_up hmm133 hFm130 hc0 rfl
                have hRCRm133 := zR_CR_fr (zdis_fr (zfr_up hmm133 (zfr_rf [(28, 6)] _) hc0 rfl) rfl) hRCRm130
                have hRLRm133 := zR_LR_fr (zdis_fr (zfr_up hmm133 (zfr_rf [(28, 6)] _) hc0 rfl) rfl) hRLRm130
                have hRNSm133 := zR_NS_fr (zdis_fr (zfr_up hmm133 (zfr_rf [(28, 6)] _) hc0 rfl) rfl) hRNSm130
                have hRTRm133 := zR_TR_fr (zdis_fr (zfr_up hmm133 (zfr_rf [(28, 6)] _) hc0 rfl) rfl) hRTRm130
                have hRWDm133 := zR_WD_fr (zdis_fr (zfr_up hmm133 (zfr_rf [(28, 6)] _) hc0 rfl) rfl) hRWDm130
                refine zw_b (by omega) ?_
                refine zw_some ?_
                refine zw_b (by omega) ?_
                refine zw_some ?_
                refine zw_ite (fun h134 => ?_) (fun h134 => ?_)
                · exfalso; omega
                · refine zw_b (by omega) ?_
                  refine zw_some ?_
                  refine zw_ite (fun h135 => ?_) (fun h135 => ?_)
                  · exfalso; omega
                  · refine zw_b (by omega) ?_
                    have r136 : 0 ≤ (m133 a0 7) ∧ (m133 a0 7) ≤ 700 := zi_rd hIm133 hc0 zb_28_7
                    have r137 : 0 ≤ (m133 a0 8) ∧ (m133 a0 8) ≤ 6 := zi_rd hIm133 hc0 zb_28_8
                    have e138 : (m133 a0 8) = (m51 a0 8) := (Eq.trans (zs_ne hmm133 (Or.inr (by decide))) (zs_ne hmm130 (Or.inr (by decide))))
                    have r139 : (-2147483648) ≤ (m133 a0 4) ∧ (m133 a0 4) ≤ 2147483647 := zi_rd hIm133 hc0 zb_28_4
                    have e140 : (m133 a0 4) = 1 := (Eq.trans (zs_ne hmm133 (Or.inr (by decide))) (zs_eq hmm130))
                    exact zw_some ⟨hIm133, hFm133, hRCRm133, hRLRm133, hRNSm133, hRTRm133, hRWDm133, ⟨by omega, by omega⟩, by omega, by omega, by omega⟩
            · exfalso; omega
          · exfalso; omega
    · refine zw_bd (zw_eq (zu_call_at (zt_T n) (zm_85 n) (zdp_85 n) _ _ _ _ _ rfl (zr_85_0 n _ _ a0 1 m11)) ?_)
      generalize hmm141 : zu_up m11 a0 4 1 = m141
      have hIm141 := zi_up hmm141 hIm11 hc0 zb_28_4 (by omega) (by omega)
      have hFm141 := zfr_up hmm141 hFm11 hc0 rfl
      have hRCRm141 := zR_CR_fr (zdis_fr (zfr_up hmm141 (zfr_rf [(28, 5)] _) hc0 rfl) rfl) hRCRm11
      have hRNSm141 := zR_NS_fr (zdis_fr (zfr_up hmm141 (zfr_rf [(28, 5)] _) hc0 rfl) rfl) hRNSm11
      have hRTRm141 := zR_TR_fr (zdis_fr (zfr_up hmm141 (zfr_rf [(28, 5)] _) hc0 rfl) rfl) hRTRm11
      have hRWDm141 := zR_WD_fr (zdis_fr (zfr_up hmm141 (zfr_rf [(28, 5)] _) hc0 rfl) rfl) hRWDm11
      have hRLRm141 := zLR_wr (zone_190 hc0) hmm141 (by decide)
      have r142 : 0 ≤ (m141 a0 10) ∧ (m141 a0 10) ≤ 700 := zi_rd hIm141 hc0 zb_28_10
      generalize hmm143 : zu_up m141 a0 5 (m141 a0 10) = m143
      have hIm143 := zi_up hmm143 hIm141 hc0 zb_28_5 (by omega) (by omega)
      have hFm143 := zfr_up hmm143 hFm141 hc0 rfl
      have hRCRm143 := zR_CR_fr (zdis_fr (zfr_up hmm143 (zfr_rf [(28, 6)] _) hc0 rfl) rfl) hRCRm141
      have hRLRm143 := zR_LR_fr (zdis_fr (zfr_up hmm143 (zfr_rf [(28, 6)] _) hc0 rfl) rfl) hRLRm141
      have hRNSm143 := zR_NS_fr (zdis_fr (zfr_up hmm143 (zfr_rf [(28, 6)] _) hc0 rfl) rfl) hRNSm141
      have hRTRm143 := zR_TR_fr (zdis_fr (zfr_up hmm143 (zfr_rf [(28, 6)] _) hc0 rfl) rfl) hRTRm141
      have hRWDm143 := zR_WD_fr (zdis_fr (zfr_up hmm143 (zfr_rf [(28, 6)] _) hc0 rfl) rfl) hRWDm141
      refine zw_b (by omega) ?_
      refine zw_some ?_
      refine zw_b (by omega) ?_
      refine zw_some ?_
      refine zw_ite (fun h144 => ?_) (fun h144 => ?_)
      · exfalso; omega
      · refine zw_b (by omega) ?_
        refine zw_some ?_
        refine zw_ite (fun h145 => ?_) (fun h145 => ?_)
        · exfalso; omega
        · refine zw_b (by omega) ?_
          have r146 : 0 ≤ (m143 a0 7) ∧ (m143 a0 7) ≤ 700 := zi_rd hIm143 hc0 zb_28_7
          have r147 : 0 ≤ (m143 a0 8) ∧ (m143 a0 8) ≤ 6 := zi_rd hIm143 hc0 zb_28_8
          have e148 : (m143 a0 8) = (m11 a0 8) := (Eq.trans (zs_ne hmm143 (Or.inr (by decide))) (zs_ne hmm141 (Or.inr (by decide))))
          have r149 : (-2147483648) ≤ (m143 a0 4) ∧ (m143 a0 4) ≤ 2147483647 := zi_rd hIm143 hc0 zb_28_4
          have e150 : (m143 a0 4) = 1 := (Eq.trans (zs_ne hmm143 (Or.inr (by decide))) (zs_eq hmm141))
          exact zw_some ⟨hIm143, hFm143, hRCRm143, hRLRm143, hRNSm143, hRTRm143, hRWDm143, ⟨by omega, by omega⟩, by omega, by omega, by omega⟩
  · refine zw_bd (zw_eq (zu_call_at (zt_T n) (zm_85 n) (zdp_85 n) _ _ _ _ _ rfl (zr_85_0 n _ _ a0 2 m0)) ?_)
    generalize hmm151 : zu_up m0 a0 4 2 = m151
    have hIm151 := zi_up hmm151 hIm0 hc0 zb_28_4 (by omega) (by omega)
    have hFm151 := zfr_up hmm151 hFm0 hc0 rfl
    have hRCRm151 := zR_CR_fr (zdis_fr (zfr_up hmm151 (zfr_rf [(28, 5)] _) hc0 rfl) rfl) hRCRm0
    have hRNSm151 := zR_NS_fr (zdis_fr (zfr_up hmm151 (zfr_rf [(28, 5)] _) hc0 rfl) rfl) hRNSm0
    have hRTRm151 := zR_TR_fr (zdis_fr (zfr_up hmm151 (zfr_rf [(28, 5)] _) hc0 rfl) rfl) hRTRm0
    have hRWDm151 := zR_WD_fr (zdis_fr (zfr_up hmm151 (zfr_rf [(28, 5)] _) hc0 rfl) rfl) hRWDm0
    have hRLRm151 := zLR_wr (zone_190 hc0) hmm151 (by decide)
    have r152 : 0 ≤ (m151 a0 10) ∧ (m151 a0 10) ≤ 700 := zi_rd hIm151 hc0 zb_28_10
    generalize hmm153 : zu_up m151 a0 5 (m151 a0 10) = m153
    have hIm153 := zi_up hmm153 hIm151 hc0 zb_28_5 (by omega) (by omega)
    have hFm153 := zfr_up hmm153 hFm151 hc0 rfl
    have hRCRm153 := zR_CR_fr (zdis_fr (zfr_up hmm153 (zfr_rf [(28, 6)] _) hc0 rfl) rfl) hRCRm151
    have hRLRm153 := zR_LR_fr (zdis_fr (zfr_up hmm153 (zfr_rf [(28, 6)] _) hc0 rfl) rfl) hRLRm151
    have hRNSm153 := zR_NS_fr (zdis_fr (zfr_up hmm153 (zfr_rf [(28, 6)] _) hc0 rfl) rfl) hRNSm151
    have hRTRm153 := zR_TR_fr (zdis_fr (zfr_up hmm153 (zfr_rf [(28, 6)] _) hc0 rfl) rfl) hRTRm151
    have hRWDm153 := zR_WD_fr (zdis_fr (zfr_up hmm153 (zfr_rf [(28, 6)] _) hc0 rfl) rfl) hRWDm151
    refine zw_b (by omega) ?_
    refine zw_some ?_
    refine zw_b (by omega) ?_
    have r154 : 0 ≤ (m153 a0 7) ∧ (m153 a0 7) ≤ 700 := zi_rd hIm153 hc0 zb_28_7
    have e155 : (m153 a0 7) = (m0 a0 7) := (Eq.trans (zs_ne hmm153 (Or.inr (by decide))) (zs_ne hmm151 (Or.inr (by decide))))
    have r156 : 0 ≤ (m153 a0 8) ∧ (m153 a0 8) ≤ 6 := zi_rd hIm153 hc0 zb_28_8
    have e157 : (m153 a0 8) = (m0 a0 8) := (Eq.trans (zs_ne hmm153 (Or.inr (by decide))) (zs_ne hmm151 (Or.inr (by decide))))
    have r158 : (-2147483648) ≤ (m153 a0 4) ∧ (m153 a0 4) ≤ 2147483647 := zi_rd hIm153 hc0 zb_28_4
    have e159 : (m153 a0 4) = 2 := (Eq.trans (zs_ne hmm153 (Or.inr (by decide))) (zs_eq hmm151))
    exact zw_some ⟨hIm153, hFm153, hRCRm153, hRLRm153, hRNSm153, hRTRm153, hRWDm153, ⟨by omega, by omega⟩, by omega, by omega, by omega⟩
set_option maxHeartbeats 4000000 in
theorem zk_101 (n : Nat) {a0 : Int} {m0 : zu_m} (hIm0 : zi_I m0) (hc0 : zcls a0 = 28)   (he0 : 1 ≤ m0 a0 8 ∧ m0 a0 8 ≤ 1) (he1 : 4 ≤ m0 a0 9 ∧ m0 a0 9 ≤ 4)  (hRCRm0 : zR_CR m0) (hRLRm0 : zR_LR m0) (hRNSm0 : zR_NS m0) (hRTRm0 : zR_TR m0) (hRWDm0 : zR_WD m0) : zw (zu_call (zt_T n) 101 [(40, a0)] m0) (fun v m => zi_I m ∧ zfr [(28, 5), (28, 6), (28, 8), (28, 9), (28, 10), (28, 11), (28, 12), (28, 20), (28, 24), (28, 43), (106, 0), (107, 0), (108, 0)] m0 m ∧ zR_CR m ∧ zR_LR m ∧ zR_NS m ∧ zR_TR m ∧ zR_WD m ∧ (0 ≤ v ∧ v ≤ 1) ∧ ((m0 a0 7) ≤ (m a0 7)) ∧ (v = 1 → ((m a0 8) = 0 ∨ (m0 a0 7) < (m a0 7))) ∧ (v = 1 → (m a0 4) = (m0 a0 4))) := by
  have hFm0 : zfr [(28, 5), (28, 6), (28, 8), (28, 9), (28, 10), (28, 11), (28, 12), (28, 20), (28, 24), (28, 43), (106, 0), (107, 0), (108, 0)] m0 m0 := zfr_rf _ _
  have r1 : 0 ≤ (m0 a0 7) ∧ (m0 a0 7) ≤ 700 := zi_rd hIm0 hc0 zb_28_7
  have r2 : (-2147483648) ≤ (m0 a0 4) ∧ (m0 a0 4) ≤ 2147483647 := zi_rd hIm0 hc0 zb_28_4
  have s3 := hRNSm0 a0 hc0
  have s4 := hRTRm0 a0 hc0
  refine zw_eq (zu_call_at (zt_T n) (zm_101 n) (zdp_101 n) _ _ _ _ _ rfl (zr_101_0 n _ _ a0 m0)) ?_
  have r5 : 0 ≤ (m0 a0 19) ∧ (m0 a0 19) ≤ 12 := zi_rd hIm0 hc0 zb_28_19
  refine zw_ite (fun h6 => ?_) (fun h6 => ?_)
  · refine zw_bd (zw_mono (zk_89 n hIm0 hc0 hRNSm0 hRWDm0) (fun v8 m7 hqm7 => ?_))
    obtain ⟨hIm7, hfm7, hvm7⟩ := hqm7
    have hFm7 := zfr_tr hFm0 hfm7 rfl
    obtain ⟨hRNSm7, hRTRm7, hRWDm7, hvm7⟩ := hvm7
    have hRCRm7 := zR_CR_fr (zdis_fr hfm7 rfl) hRCRm0
    have hRLRm7 := zR_LR_fr (zdis_fr hfm7 rfl) hRLRm0
    have s9 := hRNSm7 a0 hc0
    have s10 := hRTRm7 a0 hc0
    have r11 : 0 ≤ (m7 a0 19) ∧ (m7 a0 19) ≤ 12 := zi_rd hIm7 hc0 zb_28_19
    have e12 : (m7 a0 19) = (m0 a0 19) := (zfr_ap hfm7 hc0 rfl)
    have w13 := zu_w32_id (z := 18 + (m7 a0 19)) (by omega) (by omega)
    refine zw_bd (zw_eq (zu_call_at (zt_T n) (zm_97 n) (zdp_97 n) _ _ _ _ _ rfl (zr_97_0 n _ _ a0 12 15 m7)) ?_)
    have r14 : 0 ≤ (m7 a0 8) ∧ (m7 a0 8) ≤ 6 := zi_rd hIm7 hc0 zb_28_8
    refine zw_ite (fun h15 => ?_) (fun h15 => ?_)
    · refine zw_bd (zw_eq (zu_call_at (zt_T n) (zm_85 n) (zdp_85 n) _ _ _ _ _ rfl (zr_85_0 n _ _ a0 1 m7)) ?_)
      generalize hmm16 : zu_up m7 a0 4 1 = m16
      have hIm16 := zi_up hmm16 hIm7 hc0 zb_28_4 (by omega) (by omega)
      have hFm16 := zfr_up hmm16 hFm7 hc0 rfl
      have hRCRm16 := zR_CR_fr (zdis_fr (zfr_up hmm16 (zfr_rf [(28, 5)] _) hc0 rfl) rfl) hRCRm7
      have hRNSm16 := zR_NS_fr (zdis_fr (zfr_up hmm16 (zfr_rf [(28, 5)] _) hc0 rfl) rfl) hRNSm7
      have hRTRm16 := zR_TR_fr (zdis_fr (zfr_up hmm16 (zfr_rf [(28, 5)] _) hc0 rfl) rfl) hRTRm7
      have hRWDm16 := zR_WD_fr (zdis_fr (zfr_up hmm16 (zfr_rf [(28, 5)] _) hc0 rfl) rfl) hRWDm7
      have hRLRm16 := zLR_wr (zone_190 hc0) hmm16 (by decide)
      have r17 : 0 ≤ (m16 a0 10) ∧ (m16 a0 10) ≤ 700 := zi_rd hIm16 hc0 zb_28_10
      generalize hmm18 : zu_up m16 a0 5 (m16 a0 10) = m18
      have hIm18 := zi_up hmm18 hIm16 hc0 zb_28_5 (by omega) (by omega)
      have hFm18 := zfr_up hmm18 hFm16 hc0 rfl
      have hRCRm18 := zR_CR_fr (zdis_fr (zfr_up hmm18 (zfr_rf [(28, 6)] _) hc0 rfl) rfl) hRCRm16
      have hRLRm18 := zR_LR_fr (zdis_fr (zfr_up hmm18 (zfr_rf [(28, 6)] _) hc0 rfl) rfl) hRLRm16
      have hRNSm18 := zR_NS_fr (zdis_fr (zfr_up hmm18 (zfr_rf [(28, 6)] _) hc0 rfl) rfl) hRNSm16
      have hRTRm18 := zR_TR_fr (zdis_fr (zfr_up hmm18 (zfr_rf [(28, 6)] _) hc0 rfl) rfl) hRTRm16
      have hRWDm18 := zR_WD_fr (zdis_fr (zfr_up hmm18 (zfr_rf [(28, 6)] _) hc0 rfl) rfl) hRWDm16
      refine zw_b (by omega) ?_
      refine zw_some ?_
      refine zw_b (by omega) ?_
      refine zw_some ?_
      refine zw_ite (fun h19 => ?_) (fun h19 => ?_)
      · exfalso; omega
      · refine zw_b (by omega) ?_
        have r20 : 0 ≤ (m18 a0 7) ∧ (m18 a0 7) ≤ 700 := zi_rd hIm18 hc0 zb_28_7
        have r21 : 0 ≤ (m18 a0 8) ∧ (m18 a0 8) ≤ 6 := zi_rd hIm18 hc0 zb_28_8
        have e22 : (m18 a0 8) = (m7 a0 8) := (Eq.trans (zs_ne hmm18 (Or.inr (by decide))) (zs_ne hmm16 (Or.inr (by decide))))
        have r23 : (-2147483648) ≤ (m18 a0 4) ∧ (m18 a0 4) ≤ 2147483647 := zi_rd hIm18 hc0 zb_28_4
        have e24 : (m18 a0 4) = 1 := (Eq.trans (zs_ne hmm18 (Or.inr (by decide))) (zs_eq hmm16))
        exact zw_some ⟨hIm18, hFm18, hRCRm18, hRLRm18, hRNSm18, hRTRm18, hRWDm18, ⟨by omega, by omega⟩, by omega, by omega, by omega⟩
    · refine zw_ite (fun h25 => ?_) (fun h25 => ?_)
      · refine zw_bd (zw_eq (zu_call_at (zt_T n) (zm_85 n) (zdp_85 n) _ _ _ _ _ rfl (zr_85_0 n _ _ a0 1 m7)) ?_)
        generalize hmm26 : zu_up m7 a0 4 1 = m26
        have hIm26 := zi_up hmm26 hIm7 hc0 zb_28_4 (by omega) (by omega)
        have hFm26 := zfr_up hmm26 hFm7 hc0 rfl
        have hRCRm26 := zR_CR_fr (zdis_fr (zfr_up hmm26 (zfr_rf [(28, 5)] _) hc0 rfl) rfl) hRCRm7
        have hRNSm26 := zR_NS_fr (zdis_fr (zfr_up hmm26 (zfr_rf [(28, 5)] _) hc0 rfl) rfl) hRNSm7
        have hRTRm26 := zR_TR_fr (zdis_fr (zfr_up hmm26 (zfr_rf [(28, 5)] _) hc0 rfl) rfl) hRTRm7
        have hRWDm26 := zR_WD_fr (zdis_fr (zfr_up hmm26 (zfr_rf [(28, 5)] _) hc0 rfl) rfl) hRWDm7
        have hRLRm26 := zLR_wr (zone_190 hc0) hmm26 (by decide)
        have r27 : 0 ≤ (m26 a0 10) ∧ (m26 a0 10) ≤ 700 := zi_rd hIm26 hc0 zb_28_10
        generalize hmm28 : zu_up m26 a0 5 (m26 a0 10) = m28
        have hIm28 := zi_up hmm28 hIm26 hc0 zb_28_5 (by omega) (by omega)
        have hFm28 := zfr_up hmm28 hFm26 hc0 rfl
        have hRCRm28 := zR_CR_fr (zdis_fr (zfr_up hmm28 (zfr_rf [(28, 6)] _) hc0 rfl) rfl) hRCRm26
        have hRLRm28 := zR_LR_fr (zdis_fr (zfr_up hmm28 (zfr_rf [(28, 6)] _) hc0 rfl) rfl) hRLRm26
        have hRNSm28 := zR_NS_fr (zdis_fr (zfr_up hmm28 (zfr_rf [(28, 6)] _) hc0 rfl) rfl) hRNSm26
        have hRTRm28 := zR_TR_fr (zdis_fr (zfr_up hmm28 (zfr_rf [(28, 6)] _) hc0 rfl) rfl) hRTRm26
        have hRWDm28 := zR_WD_fr (zdis_fr (zfr_up hmm28 (zfr_rf [(28, 6)] _) hc0 rfl) rfl) hRWDm26
        refine zw_b (by omega) ?_
        refine zw_some ?_
        refine zw_b (by omega) ?_
        refine zw_some ?_
        refine zw_ite (fun h29 => ?_) (fun h29 => ?_)
        · exfalso; omega
        · refine zw_b (by omega) ?_
          have r30 : 0 ≤ (m28 a0 7) ∧ (m28 a0 7) ≤ 700 := zi_rd hIm28 hc0 zb_28_7
          have r31 : 0 ≤ (m28 a0 8) ∧ (m28 a0 8) ≤ 6 := zi_rd hIm28 hc0 zb_28_8
          have e32 : (m28 a0 8) = (m7 a0 8) := (Eq.trans (zs_ne hmm28 (Or.inr (by decide))) (zs_ne hmm26 (Or.inr (by decide))))
          have r33 : (-2147483648) ≤ (m28 a0 4) ∧ (m28 a0 4) ≤ 2147483647 := zi_rd hIm28 hc0 zb_28_4
          have e34 : (m28 a0 4) = 1 := (Eq.trans (zs_ne hmm28 (Or.inr (by decide))) (zs_eq hmm26))
          exact zw_some ⟨hIm28, hFm28, hRCRm28, hRLRm28, hRNSm28, hRTRm28, hRWDm28, ⟨by omega, by omega⟩, by omega, by omega, by omega⟩
      · refine zw_ite (fun h35 => ?_) (fun h35 => ?_)
        · have w36 := zu_w32_id (z := (m7 a0 9) - 12) (by omega) (by omega)
          refine zw_bd (zw_mono (zk_89 n hIm7 hc0 hRNSm7 hRWDm7) (fun v38 m37 hqm37 => ?_))
          obtain ⟨hIm37, hfm37, hvm37⟩ := hqm37
          have hFm37 := zfr_tr hFm7 hfm37 rfl
          obtain ⟨hRNSm37, hRTRm37, hRWDm37, hvm37⟩ := hvm37
          have hRCRm37 := zR_CR_fr (zdis_fr hfm37 rfl) hRCRm7
          have hRLRm37 := zR_LR_fr (zdis_fr hfm37 rfl) hRLRm7
          have s39 := hRNSm37 a0 hc0
          have s40 := hRTRm37 a0 hc0
          generalize hmm41 : zu_up m37 a0 11 (zu_w32 ((m7 a0 9) - 12)) = m41
          have hIm41 := zi_up hmm41 hIm37 hc0 zb_28_11 (by omega) (by omega)
          have hFm41 := zfr_up hmm41 hFm37 hc0 rfl
          have hRCRm41 := zR_CR_fr (zdis_fr (zfr_up hmm41 (zfr_rf [(28, 12)] _) hc0 rfl) rfl) hRCRm37
          have hRLRm41 := zR_LR_fr (zdis_fr (zfr_up hmm41 (zfr_rf [(28, 12)] _) hc0 rfl) rfl) hRLRm37
          have hRNSm41 := zR_NS_fr (zdis_fr (zfr_up hmm41 (zfr_rf [(28, 12)] _) hc0 rfl) rfl) hRNSm37
          have hRTRm41 := zR_TR_fr (zdis_fr (zfr_up hmm41 (zfr_rf [(28, 12)] _) hc0 rfl) rfl) hRTRm37
          have hRWDm41 := zR_WD_fr (zdis_fr (zfr_up hmm41 (zfr_rf [(28, 12)] _) hc0 rfl) rfl) hRWDm37
          refine zw_b (by omega) ?_
          refine zw_some ?_
          refine zw_ite (fun h42 => ?_) (fun h42 => ?_)
          · have r43 : (-2147483648) ≤ (m41 a0 11) ∧ (m41 a0 11) ≤ 2147483647 := zi_rd hIm41 hc0 zb_28_11
            have e44 : (m41 a0 11) = (zu_w32 ((m7 a0 9) - 12)) := (zs_eq hmm41)
            have b45 : 0 ≤ (zu_w32 (18 + (m7 a0 19))) ∧ (zu_w32 (18 + (m7 a0 19))) < 36 := by omega
            refine zw_if b45 ?_
            generalize hmm46 : zu_up m41 198 (zu_w32 (18 + (m7 a0 19))) (m41 a0 11) = m46
            have hIm46 := zi_up hmm46 hIm41 zq_198 (zb_107 _) (by omega) (by omega)
            have hFm46 := zfr_up hmm46 hFm41 zq_198 rfl
            have hRCRm46 := zR_CR_fr (zdis_fr (zfr_up hmm46 (zfr_rf [(107, 0)] _) zq_198 rfl) rfl) hRCRm41
            have hRLRm46 := zR_LR_fr (zdis_fr (zfr_up hmm46 (zfr_rf [(107, 0)] _) zq_198 rfl) rfl) hRLRm41
            have hRNSm46 := zR_NS_fr (zdis_fr (zfr_up hmm46 (zfr_rf [(107, 0)] _) zq_198 rfl) rfl) hRNSm41
            have hRTRm46 := zR_TR_fr (zdis_fr (zfr_up hmm46 (zfr_rf [(107, 0)] _) zq_198 rfl) rfl) hRTRm41
            have hRWDm46 := zR_WD_fr (zdis_fr (zfr_up hmm46 (zfr_rf [(107, 0)] _) zq_198 rfl) rfl) hRWDm41
            refine zw_bd (zw_eq (zu_call_at (zt_T n) (zm_96 n) (zdp_96 n) _ _ _ _ _ rfl (zr_96_0 n _ _ a0 m46)) ?_)
            refine zw_b (by omega) ?_
            generalize hmm47 : zu_up m46 a0 23 1 = m47
            have hIm47 := zi_up hmm47 hIm46 hc0 zb_28_23 (by omega) (by omega)
            have hFm47 := zfr_up hmm47 hFm46 hc0 rfl
            have hRLRm47 := zR_LR_fr (zdis_fr (zfr_up hmm47 (zfr_rf [(28, 24)] _) hc0 rfl) rfl) hRLRm46
            have hRNSm47 := zR_NS_fr (zdis_fr (zfr_up hmm47 (zfr_rf [(28, 24)] _) hc0 rfl) rfl) hRNSm46
            have hRTRm47 := zR_TR_fr (zdis_fr (zfr_up hmm47 (zfr_rf [(28, 24)] _) hc0 rfl) rfl) hRTRm46
            have hRWDm47 := zR_WD_fr (zdis_fr (zfr_up hmm47 (zfr_rf [(28, 24)] _) hc0 rfl) rfl) hRWDm46
            have hRCRm47 := zCR_cells (zone_190 hc0) hmm47 rfl hRCRm46
            have r48 : 1 ≤ (m47 a0 17) ∧ (m47 a0 17) ≤ 8 := zi_rd hIm47 hc0 zb_28_17
            have w49 := zu_w32_id (z := (m47 a0 17) - 1) (by omega) (by omega)
            refine zw_bd (zw_eq (zu_call_at (zt_T n) (zm_94 n) (zdp_94 n) _ _ _ _ _ rfl (zr_94_0 n _ _ a0 0 (zu_w32 ((m47 a0 17) - 1)) m47)) ?_)
            have r50 : 0 ≤ (m47 a0 8) ∧ (m47 a0 8) ≤ 6 := zi_rd hIm47 hc0 zb_28_8
            refine zw_ite (fun h51 => ?_) (fun h51 => ?_)
            · have r52 : (-2147483648) ≤ (m47 a0 9) ∧ (m47 a0 9) ≤ 2147483647 := zi_rd hIm47 hc0 zb_28_9
              refine zw_bd (zw_eq (zu_call_at (zt_T n) (zm_83 n) (zdp_83 n) _ _ _ _ _ rfl (zr_83_0 n _ _ (m47 a0 9) 0 (zu_w32 ((m47 a0 17) - 1)) m47)) ?_)
              refine zw_ite (fun h53 => ?_) (fun h53 => ?_)
              · refine zw_b (by omega) ?_
                refine zw_some ?_
                refine zw_ite (fun h54 => ?_) (fun h54 => ?_)
                · exfalso; omega
                · refine zw_bd (zw_eq (zu_call_at (zt_T n) (zm_85 n) (zdp_85 n) _ _ _ _ _ rfl (zr_85_0 n _ _ a0 2 m47)) ?_)
                  generalize hmm55 : zu_up m47 a0 4 2 = m55
                  have hIm55 := zi_up hmm55 hIm47 hc0 zb_28_4 (by omega) (by omega)
                  have hFm55 := zfr_up hmm55 hFm47 hc0 rfl
                  have hRCRm55 := zR_CR_fr (zdis_fr (zfr_up hmm55 (zfr_rf [(28, 5)] _) hc0 rfl) rfl) hRCRm47
                  have hRNSm55 := zR_NS_fr (zdis_fr (zfr_up hmm55 (zfr_rf [(28, 5)] _) hc0 rfl) rfl) hRNSm47
                  have hRTRm55 := zR_TR_fr (zdis_fr (zfr_up hmm55 (zfr_rf [(28, 5)] _) hc0 rfl) rfl) hRTRm47
                  have hRWDm55 := zR_WD_fr (zdis_fr (zfr_up hmm55 (zfr_rf [(28, 5)] _) hc0 rfl) rfl) hRWDm47
                  have hRLRm55 := zLR_wr (zone_190 hc0) hmm55 (by decide)
                  have r56 : 0 ≤ (m55 a0 10) ∧ (m55 a0 10) ≤ 700 := zi_rd hIm55 hc0 zb_28_10
                  generalize hmm57 : zu_up m55 a0 5 (m55 a0 10) = m57
                  have hIm57 := zi_up hmm57 hIm55 hc0 zb_28_5 (by omega) (by omega)
                  have hFm57 := zfr_up hmm57 hFm55 hc0 rfl
                  have hRCRm57 := zR_CR_fr (zdis_fr (zfr_up hmm57 (zfr_rf [(28, 6)] _) hc0 rfl) rfl) hRCRm55
                  have hRLRm57 := zR_LR_fr (zdis_fr (zfr_up hmm57 (zfr_rf [(28, 6)] _) hc0 rfl) rfl) hRLRm55
                  have hRNSm57 := zR_NS_fr (zdis_fr (zfr_up hmm57 (zfr_rf [(28, 6)] _) hc0 rfl) rfl) hRNSm55
                  have hRTRm57 := zR_TR_fr (zdis_fr (zfr_up hmm57 (zfr_rf [(28, 6)] _) hc0 rfl) rfl) hRTRm55
                  have hRWDm57 := zR_WD_fr (zdis_fr (zfr_up hmm57 (zfr_rf [(28, 6)] _) hc0 rfl) rfl) hRWDm55
                  refine zw_b (by omega) ?_
                  refine zw_some ?_
                  refine zw_b (by omega) ?_
                  refine zw_some ?_
                  refine zw_ite (fun h58 => ?_) (fun h58 => ?_)
                  · exfalso; omega
                  · refine zw_b (by omega) ?_
                    refine zw_some ?_
                    refine zw_ite (fun h59 => ?_) (fun h59 => ?_)
                    · exfalso; omega
                    · refine zw_b (by omega) ?_
                      have r60 : 0 ≤ (m57 a0 7) ∧ (m57 a0 7) ≤ 700 := zi_rd hIm57 hc0 zb_28_7
                      have r61 : 0 ≤ (m57 a0 8) ∧ (m57 a0 8) ≤ 6 := zi_rd hIm57 hc0 zb_28_8
                      have e62 : (m57 a0 8) = (m47 a0 8) := (Eq.trans (zs_ne hmm57 (Or.inr (by decide))) (zs_ne hmm55 (Or.inr (by decide))))
                      have r63 : (-2147483648) ≤ (m57 a0 4) ∧ (m57 a0 4) ≤ 2147483647 := zi_rd hIm57 hc0 zb_28_4
                      have e64 : (m57 a0 4) = 2 := (Eq.trans (zs_ne hmm57 (Or.inr (by decide))) (zs_eq hmm55))
                      exact zw_some ⟨hIm57, hFm57, hRCRm57, hRLRm57, hRNSm57, hRTRm57, hRWDm57, ⟨by omega, by omega⟩, by omega, by omega, by omega⟩
              · refine zw_ite (fun h65 => ?_) (fun h65 => ?_)
                · refine zw_b (by omega) ?_
                  refine zw_some ?_
                  refine zw_ite (fun h66 => ?_) (fun h66 => ?_)
                  · exfalso; omega
                  · refine zw_bd (zw_eq (zu_call_at (zt_T n) (zm_85 n) (zdp_85 n) _ _ _ _ _ rfl (zr_85_0 n _ _ a0 2 m47)) ?_)
                    generalize hmm67 : zu_up m47 a0 4 2 = m67
                    have hIm67 := zi_up hmm67 hIm47 hc0 zb_28_4 (by omega) (by omega)
                    have hFm67 := zfr_up hmm67 hFm47 hc0 rfl
                    have hRCRm67 := zR_CR_fr (zdis_fr (zfr_up hmm67 (zfr_rf [(28, 5)] _) hc0 rfl) rfl) hRCRm47
                    have hRNSm67 := zR_NS_fr (zdis_fr (zfr_up hmm67 (zfr_rf [(28, 5)] _) hc0 rfl) rfl) hRNSm47
                    have hRTRm67 := zR_TR_fr (zdis_fr (zfr_up hmm67 (zfr_rf [(28, 5)] _) hc0 rfl) rfl) hRTRm47
                    have hRWDm67 := zR_WD_fr (zdis_fr (zfr_up hmm67 (zfr_rf [(28, 5)] _) hc0 rfl) rfl) hRWDm47
                    have hRLRm67 := zLR_wr (zone_190 hc0) hmm67 (by decide)
                    have r68 : 0 ≤ (m67 a0 10) ∧ (m67 a0 10) ≤ 700 := zi_rd hIm67 hc0 zb_28_10
                    generalize hmm69 : zu_up m67 a0 5 (m67 a0 10) = m69
                    have hIm69 := zi_up hmm69 hIm67 hc0 zb_28_5 (by omega) (by omega)
                    have hFm69 := zfr_up hmm69 hFm67 hc0 rfl
                    have hRCRm69 := zR_CR_fr (zdis_fr (zfr_up hmm69 (zfr_rf [(28, 6)] _) hc0 rfl) rfl) hRCRm67
                    have hRLRm69 := zR_LR_fr (zdis_fr (zfr_up hmm69 (zfr_rf [(28, 6)] _) hc0 rfl) rfl) hRLRm67
                    have hRNSm69 := zR_NS_fr (zdis_fr (zfr_up hmm69 (zfr_rf [(28, 6)] _) hc0 rfl) rfl) hRNSm67
                    have hRTRm69 := zR_TR_fr (zdis_fr (zfr_up hmm69 (zfr_rf [(28, 6)] _) hc0 rfl) rfl) hRTRm67
                    have hRWDm69 := zR_WD_fr (zdis_fr (zfr_up hmm69 (zfr_rf [(28, 6)] _) hc0 rfl) rfl) hRWDm67
                    refine zw_b (by omega) ?_
                    refine zw_some ?_
                    refine zw_b (by omega) ?_
                    refine zw_some ?_
                    refine zw_ite (fun h70 => ?_) (fun h70 => ?_)
                    · exfalso; omega
                    · refine zw_b (by omega) ?_
                      refine zw_some ?_
                      refine zw_ite (fun h71 => ?_) (fun h71 => ?_)
                      · exfalso; omega
                      · refine zw_b (by omega) ?_
                        have r72 : 0 ≤ (m69 a0 7) ∧ (m69 a0 7) ≤ 700 := zi_rd hIm69 hc0 zb_28_7
                        have r73 : 0 ≤ (m69 a0 8) ∧ (m69 a0 8) ≤ 6 := zi_rd hIm69 hc0 zb_28_8
                        have e74 : (m69 a0 8) = (m47 a0 8) := (Eq.trans (zs_ne hmm69 (Or.inr (by decide))) (zs_ne hmm67 (Or.inr (by decide))))
                        have r75 : (-2147483648) ≤ (m69 a0 4) ∧ (m69 a0 4) ≤ 2147483647 := zi_rd hIm69 hc0 zb_28_4
                        have e76 : (m69 a0 4) = 2 := (Eq.trans (zs_ne hmm69 (Or.inr (by decide))) (zs_eq hmm67))
                        exact zw_some ⟨hIm69, hFm69, hRCRm69, hRLRm69, hRNSm69, hRTRm69, hRWDm69, ⟨by omega, by omega⟩, by omega, by omega, by omega⟩
                · refine zw_b (by omega) ?_
                  refine zw_some ?_
                  refine zw_ite (fun h77 => ?_) (fun h77 => ?_)
                  · generalize hmm78 : zu_up m47 a0 11 (m47 a0 9) = m78
                    have hIm78 := zi_up hmm78 hIm47 hc0 zb_28_11 (by omega) (by omega)
                    have hFm78 := zfr_up hmm78 hFm47 hc0 rfl
                    have hRCRm78 := zR_CR_fr (zdis_fr (zfr_up hmm78 (zfr_rf [(28, 12)] _) hc0 rfl) rfl) hRCRm47
                    have hRLRm78 := zR_LR_fr (zdis_fr (zfr_up hmm78 (zfr_rf [(28, 12)] _) hc0 rfl) rfl) hRLRm47
                    have hRNSm78 := zR_NS_fr (zdis_fr (zfr_up hmm78 (zfr_rf [(28, 12)] _) hc0 rfl) rfl) hRNSm47
                    have hRTRm78 := zR_TR_fr (zdis_fr (zfr_up hmm78 (zfr_rf [(28, 12)] _) hc0 rfl) rfl) hRTRm47
                    have hRWDm78 := zR_WD_fr (zdis_fr (zfr_up hmm78 (zfr_rf [(28, 12)] _) hc0 rfl) rfl) hRWDm47
                    refine zw_bd (zw_mono (zk_89 n hIm78 hc0 hRNSm78 hRWDm78) (fun v80 m79 hqm79 => ?_))
                    obtain ⟨hIm79, hfm79, hvm79⟩ := hqm79
                    have hFm79 := zfr_tr hFm78 hfm79 rfl
                    obtain ⟨hRNSm79, hRTRm79, hRWDm79, hvm79⟩ := hvm79
                    have hRCRm79 := zR_CR_fr (zdis_fr hfm79 rfl) hRCRm78
                    have hRLRm79 := zR_LR_fr (zdis_fr hfm79 rfl) hRLRm78
                    have s81 := hRNSm79 a0 hc0
                    have s82 := hRTRm79 a0 hc0
                    refine zw_b (by omega) ?_
                    refine zw_some ?_
                    refine zw_ite (fun h83 => ?_) (fun h83 => ?_)
                    · have r84 : (-2147483648) ≤ (m79 a0 11) ∧ (m79 a0 11) ≤ 2147483647 := zi_rd hIm79 hc0 zb_28_11
                      have e85 : (m79 a0 11) = (m47 a0 9) := (Eq.trans (zfr_ap hfm79 hc0 rfl) (zs_eq hmm78))
                      have r86 : 0 ≤ (m79 a0 10) ∧ (m79 a0 10) ≤ 700 := zi_rd hIm79 hc0 zb_28_10
                      generalize hmm87 : zu_up m79 a0 42 (m79 a0 10) = m87
                      have hIm87 := zi_up hmm87 hIm79 hc0 zb_28_42 (by omega) (by omega)
                      have hFm87 := zfr_up hmm87 hFm79 hc0 rfl
                      have hRCRm87 := zR_CR_fr (zdis_fr (zfr_up hmm87 (zfr_rf [(28, 43)] _) hc0 rfl) rfl) hRCRm79
                      have hRLRm87 := zR_LR_fr (zdis_fr (zfr_up hmm87 (zfr_rf [(28, 43)] _) hc0 rfl) rfl) hRLRm79
                      have hRNSm87 := zR_NS_fr (zdis_fr (zfr_up hmm87 (zfr_rf [(28, 43)] _) hc0 rfl) rfl) hRNSm79
                      have hRTRm87 := zR_TR_fr (zdis_fr (zfr_up hmm87 (zfr_rf [(28, 43)] _) hc0 rfl) rfl) hRTRm79
                      have hRWDm87 := zR_WD_fr (zdis_fr (zfr_up hmm87 (zfr_rf [(28, 43)] _) hc0 rfl) rfl) hRWDm79
                      have r88 : 1 ≤ (m87 a0 18) ∧ (m87 a0 18) ≤ 6 := zi_rd hIm87 hc0 zb_28_18
                      have w89 := zu_w32_id (z := (m87 a0 18) - 1) (by omega) (by omega)
                      refine zw_bd (zw_eq (zu_call_at (zt_T n) (zm_94 n) (zdp_94 n) _ _ _ _ _ rfl (zr_94_0 n _ _ a0 0 (zu_w32 ((m87 a0 18) - 1)) m87)) ?_)
                      have r90 : 0 ≤ (m87 a0 8) ∧ (m87 a0 8) ≤ 6 := zi_rd hIm87 hc0 zb_28_8
                      refine zw_ite (fun h91 => ?_) (fun h91 => ?_)
                      · have r92 : (-2147483648) ≤ (m87 a0 9) ∧ (m87 a0 9) ≤ 2147483647 := zi_rd hIm87 hc0 zb_28_9
                        refine zw_bd (zw_eq (zu_call_at (zt_T n) (zm_83 n) (zdp_83 n) _ _ _ _ _ rfl (zr_83_0 n _ _ (m87 a0 9) 0 (zu_w32 ((m87 a0 18) - 1)) m87)) ?_)
                        refine zw_ite (fun h93 => ?_) (fun h93 => ?_)
                        · refine zw_b (by omega) ?_
                          refine zw_some ?_
                          refine zw_ite (fun h94 => ?_) (fun h94 => ?_)
                          · exfalso; omega
                          · refine zw_bd (zw_eq (zu_call_at (zt_T n) (zm_85 n) (zdp_85 n) _ _ _ _ _ rfl (zr_85_0 n _ _ a0 2 m87)) ?_)
                            generalize hmm95 : zu_up m87 a0 4 2 = m95
                            have hIm95 := zi_up hmm95 hIm87 hc0 zb_28_4 (by omega) (by omega)
                            have hFm95 := zfr_up hmm95 hFm87 hc0 rfl
                            have hRCRm95 := zR_CR_fr (zdis_fr (zfr_up hmm95 (zfr_rf [(28, 5)] _) hc0 rfl) rfl) hRCRm87
                            have hRNSm95 := zR_NS_fr (zdis_fr (zfr_up hmm95 (zfr_rf [(28, 5)] _) hc0 rfl) rfl) hRNSm87
                            have hRTRm95 := zR_TR_fr (zdis_fr (zfr_up hmm95 (zfr_rf [(28, 5)] _) hc0 rfl) rfl) hRTRm87
                            have hRWDm95 := zR_WD_fr (zdis_fr (zfr_up hmm95 (zfr_rf [(28, 5)] _) hc0 rfl) rfl) hRWDm87
                            have hRLRm95 := zLR_wr (zone_190 hc0) hmm95 (by decide)
                            have r96 : 0 ≤ (m95 a0 10) ∧ (m95 a0 10) ≤ 700 := zi_rd hIm95 hc0 zb_28_10
                            have e97 : (m95 a0 10) = (m79 a0 10) := (Eq.trans (zs_ne hmm95 (Or.inr (by decide))) (zs_ne hmm87 (Or.inr (by decide))))
                            generalize hmm98 : zu_up m95 a0 5 (m95 a0 10) = m98
                            have hIm98 := zi_up hmm98 hIm95 hc0 zb_28_5 (by omega) (by omega)
                            have hFm98 := zfr_up hmm98 hFm95 hc0 rfl
                            have hRCRm98 := zR_CR_fr (zdis_fr (zfr_up hmm98 (zfr_rf [(28, 6)] _) hc0 rfl) rfl) hRCRm95
                            have hRLRm98 := zR_LR_fr (zdis_fr (zfr_up hmm98 (zfr_rf [(28, 6)] _) hc0 rfl) rfl) hRLRm95
                            have hRNSm98 := zR_NS_fr (zdis_fr (zfr_up hmm98 (zfr_rf [(28, 6)] _) hc0 rfl) rfl) hRNSm95
                            have hRTRm98 := zR_TR_fr (zdis_fr (zfr_up hmm98 (zfr_rf [(28, 6)] _) hc0 rfl) rfl) hRTRm95
                            have hRWDm98 := zR_WD_fr (zdis_fr (zfr_up hmm98 (zfr_rf [(28, 6)] _) hc0 rfl) rfl) hRWDm95
                            refine zw_b (by omega) ?_
                            refine zw_some ?_
                            refine zw_b (by omega) ?_
                            refine zw_some ?_
                            refine zw_ite (fun h99 => ?_) (fun h99 => ?_)
                            · exfalso; omega
                            · refine zw_b (by omega) ?_
                              refine zw_some ?_
                              refine zw_ite (fun h100 => ?_) (fun h100 => ?_)
                              · exfalso; omega
                              · refine zw_b (by omega) ?_
                                have r101 : 0 ≤ (m98 a0 7) ∧ (m98 a0 7) ≤ 700 := zi_rd hIm98 hc0 zb_28_7
                                have r102 : 0 ≤ (m98 a0 8) ∧ (m98 a0 8) ≤ 6 := zi_rd hIm98 hc0 zb_28_8
                                have e103 : (m98 a0 8) = (m87 a0 8) := (Eq.trans (zs_ne hmm98 (Or.inr (by decide))) (zs_ne hmm95 (Or.inr (by decide))))
                                have r104 : (-2147483648) ≤ (m98 a0 4) ∧ (m98 a0 4) ≤ 2147483647 := zi_rd hIm98 hc0 zb_28_4
                                have e105 : (m98 a0 4) = 2 := (Eq.trans (zs_ne hmm98 (Or.inr (by decide))) (zs_eq hmm95))
                                exact zw_some ⟨hIm98, hFm98, hRCRm98, hRLRm98, hRNSm98, hRTRm98, hRWDm98, ⟨by omega, by omega⟩, by omega, by omega, by omega⟩
                        · refine zw_ite (fun h106 => ?_) (fun h106 => ?_)
                          · refine zw_b (by omega) ?_
                            refine zw_some ?_
                            refine zw_ite (fun h107 => ?_) (fun h107 => ?_)
                            · exfalso; omega
                            · refine zw_bd (zw_eq (zu_call_at (zt_T n) (zm_85 n) (zdp_85 n) _ _ _ _ _ rfl (zr_85_0 n _ _ a0 2 m87)) ?_)
                              generalize hmm108 : zu_up m87 a0 4 2 = m108
                              have hIm108 := zi_up hmm108 hIm87 hc0 zb_28_4 (by omega) (by omega)
                              have hFm108 := zfr_up hmm108 hFm87 hc0 rfl
                              have hRCRm108 := zR_CR_fr (zdis_fr (zfr_up hmm108 (zfr_rf [(28, 5)] _) hc0 rfl) rfl) hRCRm87
                              have hRNSm108 := zR_NS_fr (zdis_fr (zfr_up hmm108 (zfr_rf [(28, 5)] _) hc0 rfl) rfl) hRNSm87
                              have hRTRm108 := zR_TR_fr (zdis_fr (zfr_up hmm108 (zfr_rf [(28, 5)] _) hc0 rfl) rfl) hRTRm87
                              have hRWDm108 := zR_WD_fr (zdis_fr (zfr_up hmm108 (zfr_rf [(28, 5)] _) hc0 rfl) rfl) hRWDm87
                              have hRLRm108 := zLR_wr (zone_190 hc0) hmm108 (by decide)
                              have r109 : 0 ≤ (m108 a0 10) ∧ (m108 a0 10) ≤ 700 := zi_rd hIm108 hc0 zb_28_10
                              have e110 : (m108 a0 10) = (m79 a0 10) := (Eq.trans (zs_ne hmm108 (Or.inr (by decide))) (zs_ne hmm87 (Or.inr (by decide))))
                              generalize hmm111 : zu_up m108 a0 5 (m108 a0 10) = m111
                              have hIm111 := zi_up hmm111 hIm108 hc0 zb_28_5 (by omega) (by omega)
                              have hFm111 := zfr_up hmm111 hFm108 hc0 rfl
                              have hRCRm111 := zR_CR_fr (zdis_fr (zfr_up hmm111 (zfr_rf [(28, 6)] _) hc0 rfl) rfl) hRCRm108
                              have hRLRm111 := zR_LR_fr (zdis_fr (zfr_up hmm111 (zfr_rf [(28, 6)] _) hc0 rfl) rfl) hRLRm108
                              have hRNSm111 := zR_NS_fr (zdis_fr (zfr_up hmm111 (zfr_rf [(28, 6)] _) hc0 rfl) rfl) hRNSm108
                              have hRTRm111 := zR_TR_fr (zdis_fr (zfr_up hmm111 (zfr_rf [(28, 6)] _) hc0 rfl) rfl) hRTRm108
                              have hRWDm111 := zR_WD_fr (zdis_fr (zfr_up hmm111 (zfr_rf [(28, 6)] _) hc0 rfl) rfl) hRWDm108
                              refine zw_b (by omega) ?_
                              refine zw_some ?_
                              refine zw_b (by omega) ?_
                              refine zw_some ?_
                              refine zw_ite (fun h112 => ?_) (fun h112 => ?_)
                              · exfalso; omega
                              · refine zw_b (by omega) ?_
                                refine zw_some ?_
                                refine zw_ite (fun h113 => ?_) (fun h113 => ?_)
                                · exfalso; omega
                                · refine zw_b (by omega) ?_
                                  have r114 : 0 ≤ (m111 a0 7) ∧ (m111 a0 7) ≤ 700 := zi_rd hIm111 hc0 zb_28_7
                                  have r115 : 0 ≤ (m111 a0 8) ∧ (m111 a0 8) ≤ 6 := zi_rd hIm111 hc0 zb_28_8
                                  have e116 : (m111 a0 8) = (m87 a0 8) := (Eq.trans (zs_ne hmm111 (Or.inr (by decide))) (zs_ne hmm108 (Or.inr (by decide))))
                                  have r117 : (-2147483648) ≤ (m111 a0 4) ∧ (m111 a0 4) ≤ 2147483647 := zi_rd hIm111 hc0 zb_28_4
                                  have e118 : (m111 a0 4) = 2 := (Eq.trans (zs_ne hmm111 (Or.inr (by decide))) (zs_eq hmm108))
                                  exact zw_some ⟨hIm111, hFm111, hRCRm111, hRLRm111, hRNSm111, hRTRm111, hRWDm111, ⟨by omega, by omega⟩, by omega, by omega, by omega⟩
                          · refine zw_b (by omega) ?_
                            refine zw_some ?_
                            refine zw_ite (fun h119 => ?_) (fun h119 => ?_)
                            · generalize hmm120 : zu_up m87 a0 11 (m87 a0 9) = m120
                              have hIm120 := zi_up hmm120 hIm87 hc0 zb_28_11 (by omega) (by omega)
                              have hFm120 := zfr_up hmm120 hFm87 hc0 rfl
                              have hRCRm120 := zR_CR_fr (zdis_fr (zfr_up hmm120 (zfr_rf [(28, 12)] _) hc0 rfl) rfl) hRCRm87
                              have hRLRm120 := zR_LR_fr (zdis_fr (zfr_up hmm120 (zfr_rf [(28, 12)] _) hc0 rfl) rfl) hRLRm87
                              have hRNSm120 := zR_NS_fr (zdis_fr (zfr_up hmm120 (zfr_rf [(28, 12)] _) hc0 rfl) rfl) hRNSm87
                              have hRTRm120 := zR_TR_fr (zdis_fr (zfr_up hmm120 (zfr_rf [(28, 12)] _) hc0 rfl) rfl) hRTRm87
                              have hRWDm120 := zR_WD_fr (zdis_fr (zfr_up hmm120 (zfr_rf [(28, 12)] _) hc0 rfl) rfl) hRWDm87
                              refine zw_bd (zw_mono (zk_89 n hIm120 hc0 hRNSm120 hRWDm120) (fun v122 m121 hqm121 => ?_))
                              obtain ⟨hIm121, hfm121, hvm121⟩ := hqm121
                              have hFm121 := zfr_tr hFm120 hfm121 rfl
                              obtain ⟨hRNSm121, hRTRm121, hRWDm121, hvm121⟩ := hvm121
                              have hRCRm121 := zR_CR_fr (zdis_fr hfm121 rfl) hRCRm120
                              have hRLRm121 := zR_LR_fr (zdis_fr hfm121 rfl) hRLRm120
                              have s123 := hRNSm121 a0 hc0
                              have s124 := hRTRm121 a0 hc0
                              refine zw_b (by omega) ?_
                              refine zw_some ?_
                              refine zw_ite (fun h125 => ?_) (fun h125 => ?_)
                              · have r126 : 1 ≤ (m121 a0 17) ∧ (m121 a0 17) ≤ 8 := zi_rd hIm121 hc0 zb_28_17
                                have e127 : (m121 a0 17) = (m47 a0 17) := (Eq.trans (zfr_ap hfm121 hc0 rfl) (Eq.trans (zs_ne hmm120 (Or.inr (by decide))) (Eq.trans (zs_ne hmm87 (Or.inr (by decide))) (Eq.trans (zfr_ap hfm79 hc0 rfl) (zs_ne hmm78 (Or.inr (by decide)))))))
                                have r128 : (-2147483648) ≤ (m121 a0 11) ∧ (m121 a0 11) ≤ 2147483647 := zi_rd hIm121 hc0 zb_28_11
                                have e129 : (m121 a0 11) = (m87 a0 9) := (Eq.trans (zfr_ap hfm121 hc0 rfl) (zs_eq hmm120))
                                have p130 := zmul_bd (x := (m121 a0 17)) (y := (m121 a0 11)) (a := 1) (b := 0) (A := 8) (B := 5) (by omega) (by omega) (by omega) (by omega) (by omega) (by omega)
                                have w131 := zu_w32_id (z := (m121 a0 17) * (m121 a0 11)) (by omega) (by omega)
                                have w132 := zu_w32_id (z := (zu_w32 ((m121 a0 17) * (m121 a0 11))) + (m79 a0 11)) (by omega) (by omega)
                                generalize hmm133 : zu_up m121 a0 11 (zu_w32 ((zu_w32 ((m121 a0 17) * (m121 a0 11))) + (m79 a0 11))) = m133
                                have hIm133 := zi_up hmm133 hIm121 hc0 zb_28_11 (by omega) (by omega)
                                have hFm133 := zfr_up hmm133 hFm121 hc0 rfl
                                have hRCRm133 := zR_CR_fr (zdis_fr (zfr_up hmm133 (zfr_rf [(28, 12)] _) hc0 rfl) rfl) hRCRm121
                                have hRLRm133 := zR_LR_fr (zdis_fr (zfr_up hmm133 (zfr_rf [(28, 12)] _) hc0 rfl) rfl) hRLRm121
                                have hRNSm133 := zR_NS_fr (zdis_fr (zfr_up hmm133 (zfr_rf [(28, 12)] _) hc0 rfl) rfl) hRNSm121
                                have hRTRm133 := zR_TR_fr (zdis_fr (zfr_up hmm133 (zfr_rf [(28, 12)] _) hc0 rfl) rfl) hRTRm121
                                have hRWDm133 := zR_WD_fr (zdis_fr (zfr_up hmm133 (zfr_rf [(28, 12)] _) hc0 rfl) rfl) hRWDm121
                                refine zw_b (by omega) ?_
                                refine zw_some ?_
                                refine zw_ite (fun h134 => ?_) (fun h134 => ?_)
                                · have r135 : (-2147483648) ≤ (m133 a0 11) ∧ (m133 a0 11) ≤ 2147483647 := zi_rd hIm133 hc0 zb_28_11
                                  have e136 : (m133 a0 11) = (zu_w32 ((zu_w32 ((m121 a0 17) * (m121 a0 11))) + (m79 a0 11))) := (zs_eq hmm133)
                                  have b137 : 0 ≤ (zu_w32 (18 + (m7 a0 19))) ∧ (zu_w32 (18 + (m7 a0 19))) < 36 := by omega
                                  refine zw_if b137 ?_
                                  generalize hmm138 : zu_up m133 197 (zu_w32 (18 + (m7 a0 19))) (m133 a0 11) = m138
                                  have hIm138 := zi_up hmm138 hIm133 zq_197 (zb_106 _) (by omega) (by omega)
                                  have hFm138 := zfr_up hmm138 hFm133 zq_197 rfl
                                  have hRCRm138 := zR_CR_fr (zdis_fr (zfr_up hmm138 (zfr_rf [(106, 0)] _) zq_197 rfl) rfl) hRCRm133
                                  have hRLRm138 := zR_LR_fr (zdis_fr (zfr_up hmm138 (zfr_rf [(106, 0)] _) zq_197 rfl) rfl) hRLRm133
                                  have hRNSm138 := zR_NS_fr (zdis_fr (zfr_up hmm138 (zfr_rf [(106, 0)] _) zq_197 rfl) rfl) hRNSm133
                                  have hRTRm138 := zR_TR_fr (zdis_fr (zfr_up hmm138 (zfr_rf [(106, 0)] _) zq_197 rfl) rfl) hRTRm133
                                  have hRWDm138 := zR_WD_fr (zdis_fr (zfr_up hmm138 (zfr_rf [(106, 0)] _) zq_197 rfl) rfl) hRWDm133
                                  refine zw_bd (zw_eq (zu_call_at (zt_T n) (zm_94 n) (zdp_94 n) _ _ _ _ _ rfl (zr_94_0 n _ _ a0 0 9 m138)) ?_)
                                  have r139 : 0 ≤ (m138 a0 8) ∧ (m138 a0 8) ≤ 6 := zi_rd hIm138 hc0 zb_28_8
                                  refine zw_ite (fun h140 => ?_) (fun h140 => ?_)
                                  · have r141 : (-2147483648) ≤ (m138 a0 9) ∧ (m138 a0 9) ≤ 2147483647 := zi_rd hIm138 hc0 zb_28_9
                                    refine zw_bd (zw_eq (zu_call_at (zt_T n) (zm_83 n) (zdp_83 n) _ _ _ _ _ rfl (zr_83_0 n _ _ (m138 a0 9) 0 9 m138)) ?_)
                                    refine zw_ite (fun h142 => ?_) (fun h142 => ?_)
                                    · refine zw_b (by omega) ?_
                                      refine zw_some ?_
                                      refine zw_ite (fun h143 => ?_) (fun h143 => ?_)
                                      · exfalso; omega
                                      · refine zw_bd (zw_eq (zu_call_at (zt_T n) (zm_85 n) (zdp_85 n) _ _ _ _ _ rfl (zr_85_0 n _ _ a0 2 m138)) ?_)
                                        generalize hmm144 : zu_up m138 a0 4 2 = m144
                                        have hIm144 := zi_up hmm144 hIm138 hc0 zb_28_4 (by omega) (by omega)
                                        have hFm144 := zfr_up hmm144 hFm138 hc0 rfl
                                        have hRCRm144 := zR_CR_fr (zdis_fr (zfr_up hmm144 (zfr_rf [(28, 5)] _) hc0 rfl) rfl) hRCRm138
                                        have hRNSm144 := zR_NS_fr (zdis_fr (zfr_up hmm144 (zfr_rf [(28, 5)] _) hc0 rfl) rfl) hRNSm138
                                        have hRTRm144 := zR_TR_fr (zdis_fr (zfr_up hmm144 (zfr_rf [(28, 5)] _) hc0 rfl) rfl) hRTRm138
                                        have hRWDm144 := zR_WD_fr (zdis_fr (zfr_up hmm144 (zfr_rf [(28, 5)] _) hc0 rfl) rfl) hRWDm138
                                        have hRLRm144 := zLR_wr (zone_190 hc0) hmm144 (by decide)
                                        have r145 : 0 ≤ (m144 a0 10) ∧ (m144 a0 10) ≤ 700 := zi_rd hIm144 hc0 zb_28_10
                                        generalize hmm146 : zu_up m144 a0 5 (m144 a0 10) = m146
                                        have hIm146 := zi_up hmm146 hIm144 hc0 zb_28_5 (by omega) (by omega)
                                        have hFm146 := zfr_up hmm146 hFm144 hc0 rfl
                                        have hRCRm146 := zR_CR_fr (zdis_fr (zfr_up hmm146 (zfr_rf [(28, 6)] _) hc0 rfl) rfl) hRCRm144
                                        have hRLRm146 := zR_LR_fr (zdis_fr (zfr_up hmm146 (zfr_rf [(28, 6)] _) hc0 rfl) rfl) hRLRm144
                                        have hRNSm146 := zR_NS_fr (zdis_fr (zfr_up hmm146 (zfr_rf [(28, 6)] _) hc0 rfl) rfl) hRNSm144
                                        have hRTRm146 := zR_TR_fr (zdis_fr (zfr_up hmm146 (zfr_rf [(28, 6)] _) hc0 rfl) rfl) hRTRm144
                                        have hRWDm146 := zR_WD_fr (zdis_fr (zfr_up hmm146 (zfr_rf [(28, 6)] _) hc0 rfl) rfl) hRWDm144
                                        refine zw_b (by omega) ?_
                                        refine zw_some ?_
                                        refine zw_b (by omega) ?_
                                        refine zw_some ?_
                                        refine zw_ite (fun h147 => ?_) (fun h147 => ?_)
                                        · exfalso; omega
                                        · refine zw_b (by omega) ?_
                                          have r148 : 0 ≤ (m146 a0 7) ∧ (m146 a0 7) ≤ 700 := zi_rd hIm146 hc0 zb_28_7
                                          have r149 : 0 ≤ (m146 a0 8) ∧ (m146 a0 8) ≤ 6 := zi_rd hIm146 hc0 zb_28_8
                                          have e150 : (m146 a0 8) = (m138 a0 8) := (Eq.trans (zs_ne hmm146 (Or.inr (by decide))) (zs_ne hmm144 (Or.inr (by decide))))
                                          have r151 : (-2147483648) ≤ (m146 a0 4) ∧ (m146 a0 4) ≤ 2147483647 := zi_rd hIm146 hc0 zb_28_4
                                          have e152 : (m146 a0 4) = 2 := (Eq.trans (zs_ne hmm146 (Or.inr (by decide))) (zs_eq hmm144))
                                          exact zw_some ⟨hIm146, hFm146, hRCRm146, hRLRm146, hRNSm146, hRTRm146, hRWDm146, ⟨by omega, by omega⟩, by omega, by omega, by omega⟩
                                    · refine zw_ite (fun h153 => ?_) (fun h153 => ?_)
                                      · refine zw_b (by omega) ?_
                                        refine zw_some ?_
                                        refine zw_ite (fun h154 => ?_) (fun h154 => ?_)
                                        · exfalso; omega
                                        · refine zw_bd (zw_eq (zu_call_at (zt_T n) (zm_85 n) (zdp_85 n) _ _ _ _ _ rfl (zr_85_0 n _ _ a0 2 m138)) ?_)
                                          generalize hmm155 : zu_up m138 a0 4 2 = m155
                                          have hIm155 := zi_up hmm155 hIm138 hc0 zb_28_4 (by omega) (by omega)
                                          have hFm155 := zfr_up hmm155 hFm138 hc0 rfl
                                          have hRCRm155 := zR_CR_fr (zdis_fr (zfr_up hmm155 (zfr_rf [(28, 5)] _) hc0 rfl) rfl) hRCRm138
                                          have hRNSm155 := zR_NS_fr (zdis_fr (zfr_up hmm155 (zfr_rf [(28, 5)] _) hc0 rfl) rfl) hRNSm138
                                          have hRTRm155 := zR_TR_fr (zdis_fr (zfr_up hmm155 (zfr_rf [(28, 5)] _) hc0 rfl) rfl) hRTRm138
                                          have hRWDm155 := zR_WD_fr (zdis_fr (zfr_up hmm155 (zfr_rf [(28, 5)] _) hc0 rfl) rfl) hRWDm138
                                          have hRLRm155 := zLR_wr (zone_190 hc0) hmm155 (by decide)
                                          have r156 : 0 ≤ (m155 a0 10) ∧ (m155 a0 10) ≤ 700 := zi_rd hIm155 hc0 zb_28_10
                                          generalize hmm157 : zu_up m155 a0 5 (m155 a0 10) = m157
                                          have hIm157 := zi_up hmm157 hIm155 hc0 zb_28_5 (by omega) (by omega)
                                          have hFm157 := zfr_up hmm157 hFm155 hc0 rfl
                                          have hRCRm157 := zR_CR_fr (zdis_fr (zfr_up hmm157 (zfr_rf [(28, 6)] _) hc0 rfl) rfl) hRCRm155
                                          have hRLRm157 := zR_LR_fr (zdis_fr (zfr_up hmm157 (zfr_rf [(28, 6)] _) hc0 rfl) rfl) hRLRm155
                                          have hRNSm157 := zR_NS_fr (zdis_fr (zfr_up hmm157 (zfr_rf [(28, 6)] _) hc0 rfl) rfl) hRNSm155
                                          have hRTRm157 := zR_TR_fr (zdis_fr (zfr_up hmm157 (zfr_rf [(28, 6)] _) hc0 rfl) rfl) hRTRm155
                                          have hRWDm157 := zR_WD_fr (zdis_fr (zfr_up hmm157 (zfr_rf [(28, 6)] _) hc0 rfl) rfl) hRWDm155
                                          refine zw_b (by omega) ?_
                                          refine zw_some ?_
                                          refine zw_b (by omega) ?_
                                          refine zw_some ?_
                                          refine zw_ite (fun h158 => ?_) (fun h158 => ?_)
                                          · exfalso; omega
                                          · refine zw_b (by omega) ?_
                                            have r159 : 0 ≤ (m157 a0 7) ∧ (m157 a0 7) ≤ 700 := zi_rd hIm157 hc0 zb_28_7
                                            have r160 : 0 ≤ (m157 a0 8) ∧ (m157 a0 8) ≤ 6 := zi_rd hIm157 hc0 zb_28_8
                                            have e161 : (m157 a0 8) = (m138 a0 8) := (Eq.trans (zs_ne hmm157 (Or.inr (by decide))) (zs_ne hmm155 (Or.inr (by decide))))
                                            have r162 : (-2147483648) ≤ (m157 a0 4) ∧ (m157 a0 4) ≤ 2147483647 := zi_rd hIm157 hc0 zb_28_4
                                            have e163 : (m157 a0 4) = 2 := (Eq.trans (zs_ne hmm157 (Or.inr (by decide))) (zs_eq hmm155))
                                            exact zw_some ⟨hIm157, hFm157, hRCRm157, hRLRm157, hRNSm157, hRTRm157, hRWDm157, ⟨by omega, by omega⟩, by omega, by omega, by omega⟩
                                      · refine zw_b (by omega) ?_
                                        refine zw_some ?_
                                        refine zw_ite (fun h164 => ?_) (fun h164 => ?_)
                                        · generalize hmm165 : zu_up m138 a0 11 (m138 a0 9) = m165
                                          have hIm165 := zi_up hmm165 hIm138 hc0 zb_28_11 (by omega) (by omega)
                                          have hFm165 := zfr_up hmm165 hFm138 hc0 rfl
                                          have hRCRm165 := zR_CR_fr (zdis_fr (zfr_up hmm165 (zfr_rf [(28, 12)] _) hc0 rfl) rfl) hRCRm138
                                          have hRLRm165 := zR_LR_fr (zdis_fr (zfr_up hmm165 (zfr_rf [(28, 12)] _) hc0 rfl) rfl) hRLRm138
                                          have hRNSm165 := zR_NS_fr (zdis_fr (zfr_up hmm165 (zfr_rf [(28, 12)] _) hc0 rfl) rfl) hRNSm138
                                          have hRTRm165 := zR_TR_fr (zdis_fr (zfr_up hmm165 (zfr_rf [(28, 12)] _) hc0 rfl) rfl) hRTRm138
                                          have hRWDm165 := zR_WD_fr (zdis_fr (zfr_up hmm165 (zfr_rf [(28, 12)] _) hc0 rfl) rfl) hRWDm138
                                          refine zw_bd (zw_mono (zk_89 n hIm165 hc0 hRNSm165 hRWDm165) (fun v167 m166 hqm166 => ?_))
                                          obtain ⟨hIm166, hfm166, hvm166⟩ := hqm166
                                          have hFm166 := zfr_tr hFm165 hfm166 rfl
                                          obtain ⟨hRNSm166, hRTRm166, hRWDm166, hvm166⟩ := hvm166
                                          have hRCRm166 := zR_CR_fr (zdis_fr hfm166 rfl) hRCRm165
                                          have hRLRm166 := zR_LR_fr (zdis_fr hfm166 rfl) hRLRm165
                                          have s168 := hRNSm166 a0 hc0
                                          have s169 := hRTRm166 a0 hc0
                                          refine zw_b (by omega) ?_
                                          refine zw_some ?_
                                          refine zw_ite (fun h170 => ?_) (fun h170 => ?_)
                                          · have r171 : (-2147483648) ≤ (m166 a0 11) ∧ (m166 a0 11) ≤ 2147483647 := zi_rd hIm166 hc0 zb_28_11
                                            have e172 : (m166 a0 11) = (m138 a0 9) := (Eq.trans (zfr_ap hfm166 hc0 rfl) (zs_eq hmm165))
                                            have b173 : 0 ≤ (zu_w32 (18 + (m7 a0 19))) ∧ (zu_w32 (18 + (m7 a0 19))) < 36 := by omega
                                            refine zw_if b173 ?_
                                            generalize hmm174 : zu_up m166 199 (zu_w32 (18 + (m7 a0 19))) (m166 a0 11) = m174
                                            have hIm174 := zi_up hmm174 hIm166 zq_199 (zb_108 _) (by omega) (by omega)
                                            have hFm174 := zfr_up hmm174 hFm166 zq_199 rfl
                                            have hRCRm174 := zR_CR_fr (zdis_fr (zfr_up hmm174 (zfr_rf [(108, 0)] _) zq_199 rfl) rfl) hRCRm166
                                            have hRLRm174 := zR_LR_fr (zdis_fr (zfr_up hmm174 (zfr_rf [(108, 0)] _) zq_199 rfl) rfl) hRLRm166
                                            have hRNSm174 := zR_NS_fr (zdis_fr (zfr_up hmm174 (zfr_rf [(108, 0)] _) zq_199 rfl) rfl) hRNSm166
                                            have hRTRm174 := zR_TR_fr (zdis_fr (zfr_up hmm174 (zfr_rf [(108, 0)] _) zq_199 rfl) rfl) hRTRm166
                                            have hRWDm174 := zR_WD_fr (zdis_fr (zfr_up hmm174 (zfr_rf [(108, 0)] _) zq_199 rfl) rfl) hRWDm166
                                            have r175 : 0 ≤ (m174 a0 19) ∧ (m174 a0 19) ≤ 12 := zi_rd hIm174 hc0 zb_28_19
                                            have e176 : (m174 a0 19) = (m7 a0 19) := (Eq.trans (zs_ne hmm174 (Or.inl (zc_ne hc0 zq_199 (by decide)))) (Eq.trans (zfr_ap hfm166 hc0 rfl) (Eq.trans (zs_ne hmm165 (Or.inr (by decide))) (Eq.trans (zs_ne hmm138 (Or.inl (zc_ne hc0 zq_197 (by decide)))) (Eq.trans (zs_ne hmm133 (Or.inr (by decide))) (Eq.trans (zfr_ap hfm121 hc0 rfl) (Eq.trans (zs_ne hmm120 (Or.inr (by decide))) (Eq.trans (zs_ne hmm87 (Or.inr (by decide))) (Eq.trans (zfr_ap hfm79 hc0 rfl) (Eq.trans (zs_ne hmm78 (Or.inr (by decide))) (Eq.trans (zs_ne hmm47 (Or.inr (by decide))) (Eq.trans (zs_ne hmm46 (Or.inl (zc_ne hc0 zq_198 (by decide)))) (Eq.trans (zs_ne hmm41 (Or.inr (by decide))) (zfr_ap hfm37 hc0 rfl))))))))))))))
                                            have w177 := zu_w32_id (z := (m174 a0 19) + 1) (by omega) (by omega)
                                            generalize hmm178 : zu_up m174 a0 19 (zu_w32 ((m174 a0 19) + 1)) = m178
                                            have hIm178 := zi_up hmm178 hIm174 hc0 zb_28_19 (by omega) (by omega)
                                            have hFm178 := zfr_up hmm178 hFm174 hc0 rfl
                                            have hRCRm178 := zR_CR_fr (zdis_fr (zfr_up hmm178 (zfr_rf [(28, 20)] _) hc0 rfl) rfl) hRCRm174
                                            have hRLRm178 := zR_LR_fr (zdis_fr (zfr_up hmm178 (zfr_rf [(28, 20)] _) hc0 rfl) rfl) hRLRm174
                                            have hRNSm178 := zR_NS_fr (zdis_fr (zfr_up hmm178 (zfr_rf [(28, 20)] _) hc0 rfl) rfl) hRNSm174
                                            have hRTRm178 := zR_TR_fr (zdis_fr (zfr_up hmm178 (zfr_rf [(28, 20)] _) hc0 rfl) rfl) hRTRm174
                                            have hRWDm178 := zR_WD_fr (zdis_fr (zfr_up hmm178 (zfr_rf [(28, 20)] _) hc0 rfl) rfl) hRWDm174
                                            refine zw_b (by omega) ?_
                                            have r179 : 0 ≤ (m178 a0 7) ∧ (m178 a0 7) ≤ 700 := zi_rd hIm178 hc0 zb_28_7
                                            have r180 : 0 ≤ (m178 a0 8) ∧ (m178 a0 8) ≤ 6 := zi_rd hIm178 hc0 zb_28_8
                                            have r181 : (-2147483648) ≤ (m178 a0 4) ∧ (m178 a0 4) ≤ 2147483647 := zi_rd hIm178 hc0 zb_28_4
                                            have e182 : (m178 a0 4) = (m0 a0 4) := (Eq.trans (zs_ne hmm178 (Or.inr (by decide))) (Eq.trans (zs_ne hmm174 (Or.inl (zc_ne hc0 zq_199 (by decide)))) (Eq.trans (zfr_ap hfm166 hc0 rfl) (Eq.trans (zs_ne hmm165 (Or.inr (by decide))) (Eq.trans (zs_ne hmm138 (Or.inl (zc_ne hc0 zq_197 (by decide)))) (Eq.trans (zs_ne hmm133 (Or.inr (by decide))) (Eq.trans (zfr_ap hfm121 hc0 rfl) (Eq.trans (zs_ne hmm120 (Or.inr (by decide))) (Eq.trans (zs_ne hmm87 (Or.inr (by decide))) (Eq.trans (zfr_ap hfm79 hc0 rfl) (Eq.trans (zs_ne hmm78 (Or.inr (by decide))) (Eq.trans (zs_ne hmm47 (Or.inr (by decide))) (Eq.trans (zs_ne hmm46 (Or.inl (zc_ne hc0 zq_198 (by decide)))) (Eq.trans (zs_ne hmm41 (Or.inr (by decide))) (Eq.trans (zfr_ap hfm37 hc0 rfl) (zfr_ap hfm7 hc0 rfl))))))))))))))))
                                            exact zw_some ⟨hIm178, hFm178, hRCRm178, hRLRm178, hRNSm178, hRTRm178, hRWDm178, ⟨by omega, by omega⟩, by omega, by omega, by omega⟩
                                          · exfalso; omega
                                        · exfalso; omega
                                  · refine zw_bd (zw_eq (zu_call_at (zt_T n) (zm_85 n) (zdp_85 n) _ _ _ _ _ rfl (zr_85_0 n _ _ a0 1 m138)) ?_)
                                    generalize hmm183 : zu_up m138 a0 4 1 = m183
                                    have hIm183 := zi_up hmm183 hIm138 hc0 zb_28_4 (by omega) (by omega)
                                    have hFm183 := zfr_up hmm183 hFm138 hc0 rfl
                                    have hRCRm183 := zR_CR_fr (zdis_fr (zfr_up hmm183 (zfr_rf [(28, 5)] _) hc0 rfl) rfl) hRCRm138
                                    have hRNSm183 := zR_NS_fr (zdis_fr (zfr_up hmm183 (zfr_rf [(28, 5)] _) hc0 rfl) rfl) hRNSm138
                                    have hRTRm183 := zR_TR_fr (zdis_fr (zfr_up hmm183 (zfr_rf [(28, 5)] _) hc0 rfl) rfl) hRTRm138
                                    have hRWDm183 := zR_WD_fr (zdis_fr (zfr_up hmm183 (zfr_rf [(28, 5)] _) hc0 rfl) rfl) hRWDm138
                                    have hRLRm183 := zLR_wr (zone_190 hc0) hmm183 (by decide)
                                    have r184 : 0 ≤ (m183 a0 10) ∧ (m183 a0 10) ≤ 700 := zi_rd hIm183 hc0 zb_28_10
                                    generalize hmm185 : zu_up m183 a0 5 (m183 a0 10) = m185
                                    have hIm185 := zi_up hmm185 hIm183 hc0 zb_28_5 (by omega) (by omega)
                                    have hFm185 := zfr_up hmm185 hFm183 hc0 rfl
                                    have hRCRm185 := zR_CR_fr (zdis_fr (zfr_up hmm185 (zfr_rf [(28, 6)] _) hc0 rfl) rfl) hRCRm183
                                    have hRLRm185 := zR_LR_fr (zdis_fr (zfr_up hmm185 (zfr_rf [(28, 6)] _) hc0 rfl) rfl) hRLRm183
                                    have hRNSm185 := zR_NS_fr (zdis_fr (zfr_up hmm185 (zfr_rf [(28, 6)] _) hc0 rfl) rfl) hRNSm183
                                    have hRTRm185 := zR_TR_fr (zdis_fr (zfr_up hmm185 (zfr_rf [(28, 6)] _) hc0 rfl) rfl) hRTRm183
                                    have hRWDm185 := zR_WD_fr (zdis_fr (zfr_up hmm185 (zfr_rf [(28, 6)] _) hc0 rfl) rfl) hRWDm183
                                    refine zw_b (by omega) ?_
                                    refine zw_some ?_
                                    refine zw_b (by omega) ?_
                                    refine zw_some ?_
                                    refine zw_ite (fun h186 => ?_) (fun h186 => ?_)
                                    · exfalso; omega
                                    · refine zw_b (by omega) ?_
                                      have r187 : 0 ≤ (m185 a0 7) ∧ (m185 a0 7) ≤ 700 := zi_rd hIm185 hc0 zb_28_7
                                      have r188 : 0 ≤ (m185 a0 8) ∧ (m185 a0 8) ≤ 6 := zi_rd hIm185 hc0 zb_28_8
                                      have e189 : (m185 a0 8) = (m138 a0 8) := (Eq.trans (zs_ne hmm185 (Or.inr (by decide))) (zs_ne hmm183 (Or.inr (by decide))))
                                      have r190 : (-2147483648) ≤ (m185 a0 4) ∧ (m185 a0 4) ≤ 2147483647 := zi_rd hIm185 hc0 zb_28_4
                                      have e191 : (m185 a0 4) = 1 := (Eq.trans (zs_ne hmm185 (Or.inr (by decide))) (zs_eq hmm183))
                                      exact zw_some ⟨hIm185, hFm185, hRCRm185, hRLRm185, hRNSm185, hRTRm185, hRWDm185, ⟨by omega, by omega⟩, by omega, by omega, by omega⟩
                                · exfalso; omega
                              · exfalso; omega
                            · exfalso; omega
                      · refine zw_bd (zw_eq (zu_call_at (zt_T n) (zm_85 n) (zdp_85 n) _ _ _ _ _ rfl (zr_85_0 n _ _ a0 1 m87)) ?_)
                        generalize hmm192 : zu_up m87 a0 4 1 = m192
                        have hIm192 := zi_up hmm192 hIm87 hc0 zb_28_4 (by omega) (by omega)
                        have hFm192 := zfr_up hmm192 hFm87 hc0 rfl
                        have hRCRm192 := zR_CR_fr (zdis_fr (zfr_up hmm192 (zfr_rf [(28, 5)] _) hc0 rfl) rfl) hRCRm87
                        have hRNSm192 := zR_NS_fr (zdis_fr (zfr_up hmm192 (zfr_rf [(28, 5)] _) hc0 rfl) rfl) hRNSm87
                        have hRTRm192 := zR_TR_fr (zdis_fr (zfr_up hmm192 (zfr_rf [(28, 5)] _) hc0 rfl) rfl) hRTRm87
                        have hRWDm192 := zR_WD_fr (zdis_fr (zfr_up hmm192 (zfr_rf [(28, 5)] _) hc0 rfl) rfl) hRWDm87
                        have hRLRm192 := zLR_wr (zone_190 hc0) hmm192 (by decide)
                        have r193 : 0 ≤ (m192 a0 10) ∧ (m192 a0 10) ≤ 700 := zi_rd hIm192 hc0 zb_28_10
                        have e194 : (m192 a0 10) = (m79 a0 10) := (Eq.trans (zs_ne hmm192 (Or.inr (by decide))) (zs_ne hmm87 (Or.inr (by decide))))
                        generalize hmm195 : zu_up m192 a0 5 (m192 a0 10) = m195
                        have hIm195 := zi_up hmm195 hIm192 hc0 zb_28_5 (by omega) (by omega)
                        have hFm195 := zfr_up hmm195 hFm192 hc0 rfl
                        have hRCRm195 := zR_CR_fr (zdis_fr (zfr_up hmm195 (zfr_rf [(28, 6)] _) hc0 rfl) rfl) hRCRm192
                        have hRLRm195 := zR_LR_fr (zdis_fr (zfr_up hmm195 (zfr_rf [(28, 6)] _) hc0 rfl) rfl) hRLRm192
                        have hRNSm195 := zR_NS_fr (zdis_fr (zfr_up hmm195 (zfr_rf [(28, 6)] _) hc0 rfl) rfl) hRNSm192
                        have hRTRm195 := zR_TR_fr (zdis_fr (zfr_up hmm195 (zfr_rf [(28, 6)] _) hc0 rfl) rfl) hRTRm192
                        have hRWDm195 := zR_WD_fr (zdis_fr (zfr_up hmm195 (zfr_rf [(28, 6)] _) hc0 rfl) rfl) hRWDm192
                        refine zw_b (by omega) ?_
                        refine zw_some ?_
                        refine zw_b (by omega) ?_
                        refine zw_some ?_
                        refine zw_ite (fun h196 => ?_) (fun h196 => ?_)
                        · exfalso; omega
                        · refine zw_b (by omega) ?_
                          refine zw_some ?_
                          refine zw_ite (fun h197 => ?_) (fun h197 => ?_)
                          · exfalso; omega
                          · refine zw_b (by omega) ?_
                            have r198 : 0 ≤ (m195 a0 7) ∧ (m195 a0 7) ≤ 700 := zi_rd hIm195 hc0 zb_28_7
                            have r199 : 0 ≤ (m195 a0 8) ∧ (m195 a0 8) ≤ 6 := zi_rd hIm195 hc0 zb_28_8
                            have e200 : (m195 a0 8) = (m87 a0 8) := (Eq.trans (zs_ne hmm195 (Or.inr (by decide))) (zs_ne hmm192 (Or.inr (by decide))))
                            have r201 : (-2147483648) ≤ (m195 a0 4) ∧ (m195 a0 4) ≤ 2147483647 := zi_rd hIm195 hc0 zb_28_4
                            have e202 : (m195 a0 4) = 1 := (Eq.trans (zs_ne hmm195 (Or.inr (by decide))) (zs_eq hmm192))
                            exact zw_some ⟨hIm195, hFm195, hRCRm195, hRLRm195, hRNSm195, hRTRm195, hRWDm195, ⟨by omega, by omega⟩, by omega, by omega, by omega⟩
                    · exfalso; omega
                  · exfalso; omega
            · refine zw_bd (zw_eq (zu_call_at (zt_T n) (zm_85 n) (zdp_85 n) _ _ _ _ _ rfl (zr_85_0 n _ _ a0 1 m47)) ?_)
              generalize hmm203 : zu_up m47 a0 4 1 = m203
              have hIm203 := zi_up hmm203 hIm47 hc0 zb_28_4 (by omega) (by omega)
              have hFm203 := zfr_up hmm203 hFm47 hc0 rfl
              have hRCRm203 := zR_CR_fr (zdis_fr (zfr_up hmm203 (zfr_rf [(28, 5)] _) hc0 rfl) rfl) hRCRm47
              have hRNSm203 := zR_NS_fr (zdis_fr (zfr_up hmm203 (zfr_rf [(28, 5)] _) hc0 rfl) rfl) hRNSm47
              have hRTRm203 := zR_TR_fr (zdis_fr (zfr_up hmm203 (zfr_rf [(28, 5)] _) hc0 rfl) rfl) hRTRm47
              have hRWDm203 := zR_WD_fr (zdis_fr (zfr_up hmm203 (zfr_rf [(28, 5)] _) hc0 rfl) rfl) hRWDm47
              have hRLRm203 := zLR_wr (zone_190 hc0) hmm203 (by decide)
              have r204 : 0 ≤ (m203 a0 10) ∧ (m203 a0 10) ≤ 700 := zi_rd hIm203 hc0 zb_28_10
              generalize hmm205 : zu_up m203 a0 5 (m203 a0 10) = m205
              have hIm205 := zi_up hmm205 hIm203 hc0 zb_28_5 (by omega) (by omega)
              have hFm205 := zfr_up hmm205 hFm203 hc0 rfl
              have hRCRm205 := zR_CR_fr (zdis_fr (zfr_up hmm205 (zfr_rf [(28, 6)] _) hc0 rfl) rfl) hRCRm203
              have hRLRm205 := zR_LR_fr (zdis_fr (zfr_up hmm205 (zfr_rf [(28, 6)] _) hc0 rfl) rfl) hRLRm203
              have hRNSm205 := zR_NS_fr (zdis_fr (zfr_up hmm205 (zfr_rf [(28, 6)] _) hc0 rfl) rfl) hRNSm203
              have hRTRm205 := zR_TR_fr (zdis_fr (zfr_up hmm205 (zfr_rf [(28, 6)] _) hc0 rfl) rfl) hRTRm203
              have hRWDm205 := zR_WD_fr (zdis_fr (zfr_up hmm205 (zfr_rf [(28, 6)] _) hc0 rfl) rfl) hRWDm203
              refine zw_b (by omega) ?_
              refine zw_some ?_
              refine zw_b (by omega) ?_
              refine zw_some ?_
              refine zw_ite (fun h206 => ?_) (fun h206 => ?_)
              · exfalso; omega
              · refine zw_b (by omega) ?_
                refine zw_some ?_
                refine zw_ite (fun h207 => ?_) (fun h207 => ?_)
                · exfalso; omega
                · refine zw_b (by omega) ?_
                  have r208 : 0 ≤ (m205 a0 7) ∧ (m205 a0 7) ≤ 700 := zi_rd hIm205 hc0 zb_28_7
                  have r209 : 0 ≤ (m205 a0 8) ∧ (m205 a0 8) ≤ 6 := zi_rd hIm205 hc0 zb_28_8
                  have e210 : (m205 a0 8) = (m47 a0 8) := (Eq.trans (zs_ne hmm205 (Or.inr (by decide))) (zs_ne hmm203 (Or.inr (by decide))))
                  have r211 : (-2147483648) ≤ (m205 a0 4) ∧ (m205 a0 4) ≤ 2147483647 := zi_rd hIm205 hc0 zb_28_4
                  have e212 : (m205 a0 4) = 1 := (Eq.trans (zs_ne hmm205 (Or.inr (by decide))) (zs_eq hmm203))
                  exact zw_some ⟨hIm205, hFm205, hRCRm205, hRLRm205, hRNSm205, hRTRm205, hRWDm205, ⟨by omega, by omega⟩, by omega, by omega, by omega⟩
          · exfalso; omega
        · refine zw_bd (zw_eq (zu_call_at (zt_T n) (zm_85 n) (zdp_85 n) _ _ _ _ _ rfl (zr_85_0 n _ _ a0 1 m7)) ?_)
          generalize hmm213 : zu_up m7 a0 4 1 = m213
          have hIm213 := zi_up hmm213 hIm7 hc0 zb_28_4 (by omega) (by omega)
          have hFm213 := zfr_up hmm213 hFm7 hc0 rfl
          have hRCRm213 := zR_CR_fr (zdis_fr (zfr_up hmm213 (zfr_rf [(28, 5)] _) hc0 rfl) rfl) hRCRm7
          have hRNSm213 := zR_NS_fr (zdis_fr (zfr_up hmm213 (zfr_rf [(28, 5)] _) hc0 rfl) rfl) hRNSm7
          have hRTRm213 := zR_TR_fr (zdis_fr (zfr_up hmm213 (zfr_rf [(28, 5)] _) hc0 rfl) rfl) hRTRm7
          have hRWDm213 := zR_WD_fr (zdis_fr (zfr_up hmm213 (zfr_rf [(28, 5)] _) hc0 rfl) rfl) hRWDm7
          have hRLRm213 := zLR_wr (zone_190 hc0) hmm213 (by decide)
          have r214 : 0 ≤ (m213 a0 10) ∧ (m213 a0 10) ≤ 700 := zi_rd hIm213 hc0 zb_28_10
          generalize hmm215 : zu_up m213 a0 5 (m213 a0 10) = m215
          have hIm215 := zi_up hmm215 hIm213 hc0 zb_28_5 (by omega) (by omega)
          have hFm215 := zfr_up hmm215 hFm213 hc0 rfl
          have hRCRm215 := zR_CR_fr (zdis_fr (zfr_up hmm215 (zfr_rf [(28, 6)] _) hc0 rfl) rfl) hRCRm213
          have hRLRm215 := zR_LR_fr (zdis_fr (zfr_up hmm215 (zfr_rf [(28, 6)] _) hc0 rfl) rfl) hRLRm213
          have hRNSm215 := zR_NS_fr (zdis_fr (zfr_up hmm215 (zfr_rf [(28, 6)] _) hc0 rfl) rfl) hRNSm213
          have hRTRm215 := zR_TR_fr (zdis_fr (zfr_up hmm215 (zfr_rf [(28, 6)] _) hc0 rfl) rfl) hRTRm213
          have hRWDm215 := zR_WD_fr (zdis_fr (zfr_up hmm215 (zfr_rf [(28, 6)] _) hc0 rfl) rfl) hRWDm213
          refine zw_b (by omega) ?_
          refine zw_some ?_
          refine zw_b (by omega) ?_
          refine zw_some ?_
          refine zw_ite (fun h216 => ?_) (fun h216 => ?_)
          · exfalso; omega
          · refine zw_b (by omega) ?_
            have r217 : 0 ≤ (m215 a0 7) ∧ (m215 a0 7) ≤ 700 := zi_rd hIm215 hc0 zb_28_7
            have r218 : 0 ≤ (m215 a0 8) ∧ (m215 a0 8) ≤ 6 := zi_rd hIm215 hc0 zb_28_8
            have e219 : (m215 a0 8) = (m7 a0 8) := (Eq.trans (zs_ne hmm215 (Or.inr (by decide))) (zs_ne hmm213 (Or.inr (by decide))))
            have r220 : (-2147483648) ≤ (m215 a0 4) ∧ (m215 a0 4) ≤ 2147483647 := zi_rd hIm215 hc0 zb_28_4
            have e221 : (m215 a0 4) = 1 := (Eq.trans (zs_ne hmm215 (Or.inr (by decide))) (zs_eq hmm213))
            exact zw_some ⟨hIm215, hFm215, hRCRm215, hRLRm215, hRNSm215, hRTRm215, hRWDm215, ⟨by omega, by omega⟩, by omega, by omega, by omega⟩
  · refine zw_bd (zw_eq (zu_call_at (zt_T n) (zm_85 n) (zdp_85 n) _ _ _ _ _ rfl (zr_85_0 n _ _ a0 2 m0)) ?_)
    generalize hmm222 : zu_up m0 a0 4 2 = m222
    have hIm222 := zi_up hmm222 hIm0 hc0 zb_28_4 (by omega) (by omega)
    have hFm222 := zfr_up hmm222 hFm0 hc0 rfl
    have hRCRm222 := zR_CR_fr (zdis_fr (zfr_up hmm222 (zfr_rf [(28, 5)] _) hc0 rfl) rfl) hRCRm0
    have hRNSm222 := zR_NS_fr (zdis_fr (zfr_up hmm222 (zfr_rf [(28, 5)] _) hc0 rfl) rfl) hRNSm0
    have hRTRm222 := zR_TR_fr (zdis_fr (zfr_up hmm222 (zfr_rf [(28, 5)] _) hc0 rfl) rfl) hRTRm0
    have hRWDm222 := zR_WD_fr (zdis_fr (zfr_up hmm222 (zfr_rf [(28, 5)] _) hc0 rfl) rfl) hRWDm0
    have hRLRm222 := zLR_wr (zone_190 hc0) hmm222 (by decide)
    have r223 : 0 ≤ (m222 a0 10) ∧ (m222 a0 10) ≤ 700 := zi_rd hIm222 hc0 zb_28_10
    generalize hmm224 : zu_up m222 a0 5 (m222 a0 10) = m224
    have hIm224 := zi_up hmm224 hIm222 hc0 zb_28_5 (by omega) (by omega)
    have hFm224 := zfr_up hmm224 hFm222 hc0 rfl
    have hRCRm224 := zR_CR_fr (zdis_fr (zfr_up hmm224 (zfr_rf [(28, 6)] _) hc0 rfl) rfl) hRCRm222
    have hRLRm224 := zR_LR_fr (zdis_fr (zfr_up hmm224 (zfr_rf [(28, 6)] _) hc0 rfl) rfl) hRLRm222
    have hRNSm224 := zR_NS_fr (zdis_fr (zfr_up hmm224 (zfr_rf [(28, 6)] _) hc0 rfl) rfl) hRNSm222
    have hRTRm224 := zR_TR_fr (zdis_fr (zfr_up hmm224 (zfr_rf [(28, 6)] _) hc0 rfl) rfl) hRTRm222
    have hRWDm224 := zR_WD_fr (zdis_fr (zfr_up hmm224 (zfr_rf [(28, 6)] _) hc0 rfl) rfl) hRWDm222
    refine zw_b (by omega) ?_
    refine zw_some ?_
    refine zw_b (by omega) ?_
    have r225 : 0 ≤ (m224 a0 7) ∧ (m224 a0 7) ≤ 700 := zi_rd hIm224 hc0 zb_28_7
    have e226 : (m224 a0 7) = (m0 a0 7) := (Eq.trans (zs_ne hmm224 (Or.inr (by decide))) (zs_ne hmm222 (Or.inr (by decide))))
    have r227 : 0 ≤ (m224 a0 8) ∧ (m224 a0 8) ≤ 6 := zi_rd hIm224 hc0 zb_28_8
    have e228 : (m224 a0 8) = (m0 a0 8) := (Eq.trans (zs_ne hmm224 (Or.inr (by decide))) (zs_ne hmm222 (Or.inr (by decide))))
    have r229 : (-2147483648) ≤ (m224 a0 4) ∧ (m224 a0 4) ≤ 2147483647 := zi_rd hIm224 hc0 zb_28_4
    have e230 : (m224 a0 4) = 2 := (Eq.trans (zs_ne hmm224 (Or.inr (by decide))) (zs_eq hmm222))
    exact zw_some ⟨hIm224, hFm224, hRCRm224, hRLRm224, hRNSm224, hRTRm224, hRWDm224, ⟨by omega, by omega⟩, by omega, by omega, by omega⟩

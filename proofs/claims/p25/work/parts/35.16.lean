set_option maxHeartbeats 4000000 in
theorem zk_100 (n : Nat) {a0 a1 : Int} {m0 : zu_m} (hIm0 : zi_I m0) (hc0 : zcls a0 = 28) (ha1 : 1 ≤ a1 ∧ a1 ≤ 3)  (he0 : 1 ≤ m0 a0 8 ∧ m0 a0 8 ≤ 1) (he1 : 1 ≤ m0 a0 9 ∧ m0 a0 9 ≤ 3)  (hRCRm0 : zR_CR m0) (hRLRm0 : zR_LR m0) (hRNSm0 : zR_NS m0) (hRTRm0 : zR_TR m0) (hRWDm0 : zR_WD m0) : zw (zu_call (zt_T n) 100 [(40, a0), (0, a1)] m0) (fun v m => zi_I m ∧ zfr [(28, 5), (28, 6), (28, 8), (28, 9), (28, 10), (28, 11), (28, 12), (28, 23), (28, 24), (28, 43), (104, 0), (105, 0)] m0 m ∧ zR_CR m ∧ zR_LR m ∧ zR_NS m ∧ zR_TR m ∧ zR_WD m ∧ (0 ≤ v ∧ v ≤ 1) ∧ ((m0 a0 7) ≤ (m a0 7)) ∧ (v = 1 → ((m a0 8) = 0 ∨ (m0 a0 7) < (m a0 7))) ∧ (v = 1 → (m a0 4) = (m0 a0 4))) := by
  have hFm0 : zfr [(28, 5), (28, 6), (28, 8), (28, 9), (28, 10), (28, 11), (28, 12), (28, 23), (28, 24), (28, 43), (104, 0), (105, 0)] m0 m0 := zfr_rf _ _
  have r1 : 0 ≤ (m0 a0 7) ∧ (m0 a0 7) ≤ 700 := zi_rd hIm0 hc0 zb_28_7
  have r2 : (-2147483648) ≤ (m0 a0 4) ∧ (m0 a0 4) ≤ 2147483647 := zi_rd hIm0 hc0 zb_28_4
  have s3 := hRNSm0 a0 hc0
  refine zw_eq (zu_call_at (zt_T n) (zm_100 n) (zdp_100 n) _ _ _ _ _ rfl (zr_100_0 n _ _ a0 a1 m0)) ?_
  have r4 : 0 ≤ (m0 a0 22) ∧ (m0 a0 22) ≤ 16 := zi_rd hIm0 hc0 zb_28_22
  refine zw_ite (fun h5 => ?_) (fun h5 => ?_)
  · refine zw_bd (zw_mono (zk_89 n hIm0 hc0 hRNSm0 hRWDm0) (fun v7 m6 hqm6 => ?_))
    obtain ⟨hIm6, hfm6, hvm6⟩ := hqm6
    have hFm6 := zfr_tr hFm0 hfm6 rfl
    obtain ⟨hRNSm6, hRTRm6, hRWDm6, hvm6⟩ := hvm6
    have hRCRm6 := zR_CR_fr (zdis_fr hfm6 rfl) hRCRm0
    have hRLRm6 := zR_LR_fr (zdis_fr hfm6 rfl) hRLRm0
    have s8 := hRNSm6 a0 hc0
    have r9 : 0 ≤ (m6 a0 7) ∧ (m6 a0 7) ≤ 700 := zi_rd hIm6 hc0 zb_28_7
    have r10 : 0 ≤ (m6 a0 8) ∧ (m6 a0 8) ≤ 6 := zi_rd hIm6 hc0 zb_28_8
    refine zw_bd (zw_eq (zu_call_at (zt_T n) (zm_96 n) (zdp_96 n) _ _ _ _ _ rfl (zr_96_0 n _ _ a0 m6)) ?_)
    refine zw_b (by omega) ?_
    generalize hmm11 : zu_up m6 a0 23 1 = m11
    have hIm11 := zi_up hmm11 hIm6 hc0 zb_28_23 (by omega) (by omega)
    have hFm11 := zfr_up hmm11 hFm6 hc0 rfl
    have hRLRm11 := zR_LR_fr (zdis_fr (zfr_up hmm11 (zfr_rf [(28, 24)] _) hc0 rfl) rfl) hRLRm6
    have hRNSm11 := zR_NS_fr (zdis_fr (zfr_up hmm11 (zfr_rf [(28, 24)] _) hc0 rfl) rfl) hRNSm6
    have hRTRm11 := zR_TR_fr (zdis_fr (zfr_up hmm11 (zfr_rf [(28, 24)] _) hc0 rfl) rfl) hRTRm6
    have hRWDm11 := zR_WD_fr (zdis_fr (zfr_up hmm11 (zfr_rf [(28, 24)] _) hc0 rfl) rfl) hRWDm6
    have hRCRm11 := zCR_cells (zone_190 hc0) hmm11 rfl hRCRm6
    have r12 : 1 ≤ (m11 a0 17) ∧ (m11 a0 17) ≤ 8 := zi_rd hIm11 hc0 zb_28_17
    have w13 := zu_w32_id (z := (m11 a0 17) - 1) (by omega) (by omega)
    refine zw_bd (zw_eq (zu_call_at (zt_T n) (zm_94 n) (zdp_94 n) _ _ _ _ _ rfl (zr_94_0 n _ _ a0 0 (zu_w32 ((m11 a0 17) - 1)) m11)) ?_)
    have r14 : 0 ≤ (m11 a0 8) ∧ (m11 a0 8) ≤ 6 := zi_rd hIm11 hc0 zb_28_8
    have e15 : (m11 a0 8) = (m6 a0 8) := (zs_ne hmm11 (Or.inr (by decide)))
    refine zw_ite (fun h16 => ?_) (fun h16 => ?_)
    · have s17 := (hRTRm6 a0 hc0).2.2 (by omega)
      have r18 : (-2147483648) ≤ (m11 a0 9) ∧ (m11 a0 9) ≤ 2147483647 := zi_rd hIm11 hc0 zb_28_9
      have e19 : (m11 a0 9) = (m6 a0 9) := (zs_ne hmm11 (Or.inr (by decide)))
      refine zw_bd (zw_eq (zu_call_at (zt_T n) (zm_83 n) (zdp_83 n) _ _ _ _ _ rfl (zr_83_0 n _ _ (m11 a0 9) 0 (zu_w32 ((m11 a0 17) - 1)) m11)) ?_)
      refine zw_ite (fun h20 => ?_) (fun h20 => ?_)
      · exfalso; omega
      · refine zw_ite (fun h21 => ?_) (fun h21 => ?_)
        · refine zw_b (by omega) ?_
          refine zw_some ?_
          refine zw_ite (fun h22 => ?_) (fun h22 => ?_)
          · exfalso; omega
          · refine zw_bd (zw_eq (zu_call_at (zt_T n) (zm_85 n) (zdp_85 n) _ _ _ _ _ rfl (zr_85_0 n _ _ a0 2 m11)) ?_)
            generalize hmm23 : zu_up m11 a0 4 2 = m23
            have hIm23 := zi_up hmm23 hIm11 hc0 zb_28_4 (by omega) (by omega)
            have hFm23 := zfr_up hmm23 hFm11 hc0 rfl
            have hRCRm23 := zR_CR_fr (zdis_fr (zfr_up hmm23 (zfr_rf [(28, 5)] _) hc0 rfl) rfl) hRCRm11
            have hRNSm23 := zR_NS_fr (zdis_fr (zfr_up hmm23 (zfr_rf [(28, 5)] _) hc0 rfl) rfl) hRNSm11
            have hRTRm23 := zR_TR_fr (zdis_fr (zfr_up hmm23 (zfr_rf [(28, 5)] _) hc0 rfl) rfl) hRTRm11
            have hRWDm23 := zR_WD_fr (zdis_fr (zfr_up hmm23 (zfr_rf [(28, 5)] _) hc0 rfl) rfl) hRWDm11
            have hRLRm23 := zLR_wr (zone_190 hc0) hmm23 (by decide)
            have r24 : 0 ≤ (m23 a0 10) ∧ (m23 a0 10) ≤ 700 := zi_rd hIm23 hc0 zb_28_10
            generalize hmm25 : zu_up m23 a0 5 (m23 a0 10) = m25
            have hIm25 := zi_up hmm25 hIm23 hc0 zb_28_5 (by omega) (by omega)
            have hFm25 := zfr_up hmm25 hFm23 hc0 rfl
            have hRCRm25 := zR_CR_fr (zdis_fr (zfr_up hmm25 (zfr_rf [(28, 6)] _) hc0 rfl) rfl) hRCRm23
            have hRLRm25 := zR_LR_fr (zdis_fr (zfr_up hmm25 (zfr_rf [(28, 6)] _) hc0 rfl) rfl) hRLRm23
            have hRNSm25 := zR_NS_fr (zdis_fr (zfr_up hmm25 (zfr_rf [(28, 6)] _) hc0 rfl) rfl) hRNSm23
            have hRTRm25 := zR_TR_fr (zdis_fr (zfr_up hmm25 (zfr_rf [(28, 6)] _) hc0 rfl) rfl) hRTRm23
            have hRWDm25 := zR_WD_fr (zdis_fr (zfr_up hmm25 (zfr_rf [(28, 6)] _) hc0 rfl) rfl) hRWDm23
            refine zw_b (by omega) ?_
            refine zw_some ?_
            refine zw_b (by omega) ?_
            refine zw_some ?_
            refine zw_ite (fun h26 => ?_) (fun h26 => ?_)
            · exfalso; omega
            · refine zw_b (by omega) ?_
              refine zw_some ?_
              refine zw_ite (fun h27 => ?_) (fun h27 => ?_)
              · exfalso; omega
              · refine zw_b (by omega) ?_
                have r28 : 0 ≤ (m25 a0 7) ∧ (m25 a0 7) ≤ 700 := zi_rd hIm25 hc0 zb_28_7
                have e29 : (m25 a0 7) = (m6 a0 7) := (Eq.trans (zs_ne hmm25 (Or.inr (by decide))) (Eq.trans (zs_ne hmm23 (Or.inr (by decide))) (zs_ne hmm11 (Or.inr (by decide)))))
                have r30 : 0 ≤ (m25 a0 8) ∧ (m25 a0 8) ≤ 6 := zi_rd hIm25 hc0 zb_28_8
                have e31 : (m25 a0 8) = (m11 a0 8) := (Eq.trans (zs_ne hmm25 (Or.inr (by decide))) (zs_ne hmm23 (Or.inr (by decide))))
                have r32 : (-2147483648) ≤ (m25 a0 4) ∧ (m25 a0 4) ≤ 2147483647 := zi_rd hIm25 hc0 zb_28_4
                have e33 : (m25 a0 4) = 2 := (Eq.trans (zs_ne hmm25 (Or.inr (by decide))) (zs_eq hmm23))
                exact zw_some ⟨hIm25, hFm25, hRCRm25, hRLRm25, hRNSm25, hRTRm25, hRWDm25, ⟨by decide, by decide⟩, by omega, fun h => absurd h (by decide), fun h => absurd h (by decide)⟩
        · refine zw_b (by omega) ?_
          refine zw_some ?_
          refine zw_ite (fun h34 => ?_) (fun h34 => ?_)
          · generalize hmm35 : zu_up m11 a0 11 (m11 a0 9) = m35
            have hIm35 := zi_up hmm35 hIm11 hc0 zb_28_11 (by omega) (by omega)
            have hFm35 := zfr_up hmm35 hFm11 hc0 rfl
            have hRCRm35 := zR_CR_fr (zdis_fr (zfr_up hmm35 (zfr_rf [(28, 12)] _) hc0 rfl) rfl) hRCRm11
            have hRLRm35 := zR_LR_fr (zdis_fr (zfr_up hmm35 (zfr_rf [(28, 12)] _) hc0 rfl) rfl) hRLRm11
            have hRNSm35 := zR_NS_fr (zdis_fr (zfr_up hmm35 (zfr_rf [(28, 12)] _) hc0 rfl) rfl) hRNSm11
            have hRTRm35 := zR_TR_fr (zdis_fr (zfr_up hmm35 (zfr_rf [(28, 12)] _) hc0 rfl) rfl) hRTRm11
            have hRWDm35 := zR_WD_fr (zdis_fr (zfr_up hmm35 (zfr_rf [(28, 12)] _) hc0 rfl) rfl) hRWDm11
            have r38 : 0 ≤ (m35 a0 7) ∧ (m35 a0 7) ≤ 700 := zi_rd hIm35 hc0 zb_28_7
            have e39 : (m35 a0 7) = (m6 a0 7) := (Eq.trans (zs_ne hmm35 (Or.inr (by decide))) (zs_ne hmm11 (Or.inr (by decide))))
            refine zw_bd (zw_mono (zk_89 n hIm35 hc0 hRNSm35 hRWDm35) (fun v37 m36 hqm36 => ?_))
            obtain ⟨hIm36, hfm36, hvm36⟩ := hqm36
            have hFm36 := zfr_tr hFm35 hfm36 rfl
            obtain ⟨hRNSm36, hRTRm36, hRWDm36, hvm36⟩ := hvm36
            have hRCRm36 := zR_CR_fr (zdis_fr hfm36 rfl) hRCRm35
            have hRLRm36 := zR_LR_fr (zdis_fr hfm36 rfl) hRLRm35
            have s40 := hRNSm36 a0 hc0
            have r41 : 0 ≤ (m36 a0 7) ∧ (m36 a0 7) ≤ 700 := zi_rd hIm36 hc0 zb_28_7
            have r42 : 0 ≤ (m36 a0 8) ∧ (m36 a0 8) ≤ 6 := zi_rd hIm36 hc0 zb_28_8
            refine zw_b (by omega) ?_
            refine zw_some ?_
            refine zw_ite (fun h43 => ?_) (fun h43 => ?_)
            · have r44 : (-2147483648) ≤ (m36 a0 11) ∧ (m36 a0 11) ≤ 2147483647 := zi_rd hIm36 hc0 zb_28_11
              have e45 : (m36 a0 11) = (m11 a0 9) := (Eq.trans (zfr_ap hfm36 hc0 rfl) (zs_eq hmm35))
              have r46 : 0 ≤ (m36 a0 10) ∧ (m36 a0 10) ≤ 700 := zi_rd hIm36 hc0 zb_28_10
              generalize hmm47 : zu_up m36 a0 42 (m36 a0 10) = m47
              have hIm47 := zi_up hmm47 hIm36 hc0 zb_28_42 (by omega) (by omega)
              have hFm47 := zfr_up hmm47 hFm36 hc0 rfl
              have hRCRm47 := zR_CR_fr (zdis_fr (zfr_up hmm47 (zfr_rf [(28, 43)] _) hc0 rfl) rfl) hRCRm36
              have hRLRm47 := zR_LR_fr (zdis_fr (zfr_up hmm47 (zfr_rf [(28, 43)] _) hc0 rfl) rfl) hRLRm36
              have hRNSm47 := zR_NS_fr (zdis_fr (zfr_up hmm47 (zfr_rf [(28, 43)] _) hc0 rfl) rfl) hRNSm36
              have hRTRm47 := zR_TR_fr (zdis_fr (zfr_up hmm47 (zfr_rf [(28, 43)] _) hc0 rfl) rfl) hRTRm36
              have hRWDm47 := zR_WD_fr (zdis_fr (zfr_up hmm47 (zfr_rf [(28, 43)] _) hc0 rfl) rfl) hRWDm36
              have r48 : 1 ≤ (m47 a0 18) ∧ (m47 a0 18) ≤ 6 := zi_rd hIm47 hc0 zb_28_18
              have w49 := zu_w32_id (z := (m47 a0 18) - 1) (by omega) (by omega)
              refine zw_bd (zw_eq (zu_call_at (zt_T n) (zm_94 n) (zdp_94 n) _ _ _ _ _ rfl (zr_94_0 n _ _ a0 0 (zu_w32 ((m47 a0 18) - 1)) m47)) ?_)
              have r50 : 0 ≤ (m47 a0 8) ∧ (m47 a0 8) ≤ 6 := zi_rd hIm47 hc0 zb_28_8
              have e51 : (m47 a0 8) = (m36 a0 8) := (zs_ne hmm47 (Or.inr (by decide)))
              refine zw_ite (fun h52 => ?_) (fun h52 => ?_)
              · have s53 := (hRTRm36 a0 hc0).2.2 (by omega)
                have r54 : (-2147483648) ≤ (m47 a0 9) ∧ (m47 a0 9) ≤ 2147483647 := zi_rd hIm47 hc0 zb_28_9
                have e55 : (m47 a0 9) = (m36 a0 9) := (zs_ne hmm47 (Or.inr (by decide)))
                refine zw_bd (zw_eq (zu_call_at (zt_T n) (zm_83 n) (zdp_83 n) _ _ _ _ _ rfl (zr_83_0 n _ _ (m47 a0 9) 0 (zu_w32 ((m47 a0 18) - 1)) m47)) ?_)
                refine zw_ite (fun h56 => ?_) (fun h56 => ?_)
                · exfalso; omega
                · refine zw_ite (fun h57 => ?_) (fun h57 => ?_)
                  · refine zw_b (by omega) ?_
                    refine zw_some ?_
                    refine zw_ite (fun h58 => ?_) (fun h58 => ?_)
                    · exfalso; omega
                    · refine zw_bd (zw_eq (zu_call_at (zt_T n) (zm_85 n) (zdp_85 n) _ _ _ _ _ rfl (zr_85_0 n _ _ a0 2 m47)) ?_)
                      generalize hmm59 : zu_up m47 a0 4 2 = m59
                      have hIm59 := zi_up hmm59 hIm47 hc0 zb_28_4 (by omega) (by omega)
                      have hFm59 := zfr_up hmm59 hFm47 hc0 rfl
                      have hRCRm59 := zR_CR_fr (zdis_fr (zfr_up hmm59 (zfr_rf [(28, 5)] _) hc0 rfl) rfl) hRCRm47
                      have hRNSm59 := zR_NS_fr (zdis_fr (zfr_up hmm59 (zfr_rf [(28, 5)] _) hc0 rfl) rfl) hRNSm47
                      have hRTRm59 := zR_TR_fr (zdis_fr (zfr_up hmm59 (zfr_rf [(28, 5)] _) hc0 rfl) rfl) hRTRm47
                      have hRWDm59 := zR_WD_fr (zdis_fr (zfr_up hmm59 (zfr_rf [(28, 5)] _) hc0 rfl) rfl) hRWDm47
                      have hRLRm59 := zLR_wr (zone_190 hc0) hmm59 (by decide)
                      have r60 : 0 ≤ (m59 a0 10) ∧ (m59 a0 10) ≤ 700 := zi_rd hIm59 hc0 zb_28_10
                      have e61 : (m59 a0 10) = (m36 a0 10) := (Eq.trans (zs_ne hmm59 (Or.inr (by decide))) (zs_ne hmm47 (Or.inr (by decide))))
                      generalize hmm62 : zu_up m59 a0 5 (m59 a0 10) = m62
                      have hIm62 := zi_up hmm62 hIm59 hc0 zb_28_5 (by omega) (by omega)
                      have hFm62 := zfr_up hmm62 hFm59 hc0 rfl
                      have hRCRm62 := zR_CR_fr (zdis_fr (zfr_up hmm62 (zfr_rf [(28, 6)] _) hc0 rfl) rfl) hRCRm59
                      have hRLRm62 := zR_LR_fr (zdis_fr (zfr_up hmm62 (zfr_rf [(28, 6)] _) hc0 rfl) rfl) hRLRm59
                      have hRNSm62 := zR_NS_fr (zdis_fr (zfr_up hmm62 (zfr_rf [(28, 6)] _) hc0 rfl) rfl) hRNSm59
                      have hRTRm62 := zR_TR_fr (zdis_fr (zfr_up hmm62 (zfr_rf [(28, 6)] _) hc0 rfl) rfl) hRTRm59
                      have hRWDm62 := zR_WD_fr (zdis_fr (zfr_up hmm62 (zfr_rf [(28, 6)] _) hc0 rfl) rfl) hRWDm59
                      refine zw_b (by omega) ?_
                      refine zw_some ?_
                      refine zw_b (by omega) ?_
                      refine zw_some ?_
                      refine zw_ite (fun h63 => ?_) (fun h63 => ?_)
                      · exfalso; omega
                      · refine zw_b (by omega) ?_
                        refine zw_some ?_
                        refine zw_ite (fun h64 => ?_) (fun h64 => ?_)
                        · exfalso; omega
                        · refine zw_b (by omega) ?_
                          have r65 : 0 ≤ (m62 a0 7) ∧ (m62 a0 7) ≤ 700 := zi_rd hIm62 hc0 zb_28_7
                          have e66 : (m62 a0 7) = (m36 a0 7) := (Eq.trans (zs_ne hmm62 (Or.inr (by decide))) (Eq.trans (zs_ne hmm59 (Or.inr (by decide))) (zs_ne hmm47 (Or.inr (by decide)))))
                          have r67 : 0 ≤ (m62 a0 8) ∧ (m62 a0 8) ≤ 6 := zi_rd hIm62 hc0 zb_28_8
                          have e68 : (m62 a0 8) = (m47 a0 8) := (Eq.trans (zs_ne hmm62 (Or.inr (by decide))) (zs_ne hmm59 (Or.inr (by decide))))
                          have r69 : (-2147483648) ≤ (m62 a0 4) ∧ (m62 a0 4) ≤ 2147483647 := zi_rd hIm62 hc0 zb_28_4
                          have e70 : (m62 a0 4) = 2 := (Eq.trans (zs_ne hmm62 (Or.inr (by decide))) (zs_eq hmm59))
                          exact zw_some ⟨hIm62, hFm62, hRCRm62, hRLRm62, hRNSm62, hRTRm62, hRWDm62, ⟨by decide, by decide⟩, by omega, fun h => absurd h (by decide), fun h => absurd h (by decide)⟩
                  · refine zw_b (by omega) ?_
                    refine zw_some ?_
                    refine zw_ite (fun h71 => ?_) (fun h71 => ?_)
                    · generalize hmm72 : zu_up m47 a0 11 (m47 a0 9) = m72
                      have hIm72 := zi_up hmm72 hIm47 hc0 zb_28_11 (by omega) (by omega)
                      have hFm72 := zfr_up hmm72 hFm47 hc0 rfl
                      have hRCRm72 := zR_CR_fr (zdis_fr (zfr_up hmm72 (zfr_rf [(28, 12)] _) hc0 rfl) rfl) hRCRm47
                      have hRLRm72 := zR_LR_fr (zdis_fr (zfr_up hmm72 (zfr_rf [(28, 12)] _) hc0 rfl) rfl) hRLRm47
                      have hRNSm72 := zR_NS_fr (zdis_fr (zfr_up hmm72 (zfr_rf [(28, 12)] _) hc0 rfl) rfl) hRNSm47
                      have hRTRm72 := zR_TR_fr (zdis_fr (zfr_up hmm72 (zfr_rf [(28, 12)] _) hc0 rfl) rfl) hRTRm47
                      have hRWDm72 := zR_WD_fr (zdis_fr (zfr_up hmm72 (zfr_rf [(28, 12)] _) hc0 rfl) rfl) hRWDm47
                      have r75 : 0 ≤ (m72 a0 7) ∧ (m72 a0 7) ≤ 700 := zi_rd hIm72 hc0 zb_28_7
                      have e76 : (m72 a0 7) = (m36 a0 7) := (Eq.trans (zs_ne hmm72 (Or.inr (by decide))) (zs_ne hmm47 (Or.inr (by decide))))
                      refine zw_bd (zw_mono (zk_89 n hIm72 hc0 hRNSm72 hRWDm72) (fun v74 m73 hqm73 => ?_))
                      obtain ⟨hIm73, hfm73, hvm73⟩ := hqm73
                      have hFm73 := zfr_tr hFm72 hfm73 rfl
                      obtain ⟨hRNSm73, hRTRm73, hRWDm73, hvm73⟩ := hvm73
                      have hRCRm73 := zR_CR_fr (zdis_fr hfm73 rfl) hRCRm72
                      have hRLRm73 := zR_LR_fr (zdis_fr hfm73 rfl) hRLRm72
                      have s77 := hRNSm73 a0 hc0
                      have r78 : 0 ≤ (m73 a0 7) ∧ (m73 a0 7) ≤ 700 := zi_rd hIm73 hc0 zb_28_7
                      have r79 : 0 ≤ (m73 a0 8) ∧ (m73 a0 8) ≤ 6 := zi_rd hIm73 hc0 zb_28_8
                      refine zw_b (by omega) ?_
                      refine zw_some ?_
                      refine zw_ite (fun h80 => ?_) (fun h80 => ?_)
                      · have r81 : 1 ≤ (m73 a0 17) ∧ (m73 a0 17) ≤ 8 := zi_rd hIm73 hc0 zb_28_17
                        have e82 : (m73 a0 17) = (m11 a0 17) := (Eq.trans (zfr_ap hfm73 hc0 rfl) (Eq.trans (zs_ne hmm72 (Or.inr (by decide))) (Eq.trans (zs_ne hmm47 (Or.inr (by decide))) (Eq.trans (zfr_ap hfm36 hc0 rfl) (zs_ne hmm35 (Or.inr (by decide)))))))
                        have r83 : (-2147483648) ≤ (m73 a0 11) ∧ (m73 a0 11) ≤ 2147483647 := zi_rd hIm73 hc0 zb_28_11
                        have e84 : (m73 a0 11) = (m47 a0 9) := (Eq.trans (zfr_ap hfm73 hc0 rfl) (zs_eq hmm72))
                        have p85 := zmul_bd (x := (m73 a0 17)) (y := (m73 a0 11)) (a := 1) (b := 0) (A := 8) (B := 5) (by omega) (by omega) (by omega) (by omega) (by omega) (by omega)
                        have w86 := zu_w32_id (z := (m73 a0 17) * (m73 a0 11)) (by omega) (by omega)
                        have w87 := zu_w32_id (z := (zu_w32 ((m73 a0 17) * (m73 a0 11))) + (m36 a0 11)) (by omega) (by omega)
                        generalize hmm88 : zu_up m73 a0 11 (zu_w32 ((zu_w32 ((m73 a0 17) * (m73 a0 11))) + (m36 a0 11))) = m88
                        have hIm88 := zi_up hmm88 hIm73 hc0 zb_28_11 (by omega) (by omega)
                        have hFm88 := zfr_up hmm88 hFm73 hc0 rfl
                        have hRCRm88 := zR_CR_fr (zdis_fr (zfr_up hmm88 (zfr_rf [(28, 12)] _) hc0 rfl) rfl) hRCRm73
                        have hRLRm88 := zR_LR_fr (zdis_fr (zfr_up hmm88 (zfr_rf [(28, 12)] _) hc0 rfl) rfl) hRLRm73
                        have hRNSm88 := zR_NS_fr (zdis_fr (zfr_up hmm88 (zfr_rf [(28, 12)] _) hc0 rfl) rfl) hRNSm73
                        have hRTRm88 := zR_TR_fr (zdis_fr (zfr_up hmm88 (zfr_rf [(28, 12)] _) hc0 rfl) rfl) hRTRm73
                        have hRWDm88 := zR_WD_fr (zdis_fr (zfr_up hmm88 (zfr_rf [(28, 12)] _) hc0 rfl) rfl) hRWDm73
                        refine zw_b (by omega) ?_
                        refine zw_some ?_
                        refine zw_ite (fun h89 => ?_) (fun h89 => ?_)
                        · have r90 : (-2147483648) ≤ (m88 a0 11) ∧ (m88 a0 11) ≤ 2147483647 := zi_rd hIm88 hc0 zb_28_11
                          have e91 : (m88 a0 11) = (zu_w32 ((zu_w32 ((m73 a0 17) * (m73 a0 11))) + (m36 a0 11))) := (zs_eq hmm88)
                          have b92 : 0 ≤ (m88 a0 11) ∧ (m88 a0 11) < 48 := by omega
                          refine zw_if b92 ?_
                          have r93 : 0 ≤ (m88 196 (m88 a0 11)) ∧ (m88 196 (m88 a0 11)) ≤ 1 := zi_rd hIm88 zq_196 (zb_105 _)
                          refine zw_ite (fun h94 => ?_) (fun h94 => ?_)
                          · refine zw_b (by omega) ?_
                            have b95 : 0 ≤ (m88 a0 11) ∧ (m88 a0 11) < 48 := by omega
                            refine zw_if b95 ?_
                            generalize hmm96 : zu_up m88 196 (m88 a0 11) 1 = m96
                            have hIm96 := zi_up hmm96 hIm88 zq_196 (zb_105 _) (by omega) (by omega)
                            have hFm96 := zfr_up hmm96 hFm88 zq_196 rfl
                            have hRCRm96 := zR_CR_fr (zdis_fr (zfr_up hmm96 (zfr_rf [(105, 0)] _) zq_196 rfl) rfl) hRCRm88
                            have hRLRm96 := zR_LR_fr (zdis_fr (zfr_up hmm96 (zfr_rf [(105, 0)] _) zq_196 rfl) rfl) hRLRm88
                            have hRNSm96 := zR_NS_fr (zdis_fr (zfr_up hmm96 (zfr_rf [(105, 0)] _) zq_196 rfl) rfl) hRNSm88
                            have hRTRm96 := zR_TR_fr (zdis_fr (zfr_up hmm96 (zfr_rf [(105, 0)] _) zq_196 rfl) rfl) hRTRm88
                            have hRWDm96 := zR_WD_fr (zdis_fr (zfr_up hmm96 (zfr_rf [(105, 0)] _) zq_196 rfl) rfl) hRWDm88
                            have r97 : (-2147483648) ≤ (m96 a0 11) ∧ (m96 a0 11) ≤ 2147483647 := zi_rd hIm96 hc0 zb_28_11
                            have e98 : (m96 a0 11) = (m88 a0 11) := (zs_ne hmm96 (Or.inl (zc_ne hc0 zq_196 (by decide))))
                            have w99 := zu_w32_id (z := 48 + (m96 a0 11)) (by omega) (by omega)
                            have b100 : 0 ≤ (zu_w32 (48 + (m96 a0 11))) ∧ (zu_w32 (48 + (m96 a0 11))) < 96 := by omega
                            refine zw_if b100 ?_
                            generalize hmm101 : zu_up m96 195 (zu_w32 (48 + (m96 a0 11))) a1 = m101
                            have hIm101 := zi_up hmm101 hIm96 zq_195 (zb_104 _) (by omega) (by omega)
                            have hFm101 := zfr_up hmm101 hFm96 zq_195 rfl
                            have hRCRm101 := zR_CR_fr (zdis_fr (zfr_up hmm101 (zfr_rf [(104, 0)] _) zq_195 rfl) rfl) hRCRm96
                            have hRLRm101 := zR_LR_fr (zdis_fr (zfr_up hmm101 (zfr_rf [(104, 0)] _) zq_195 rfl) rfl) hRLRm96
                            have hRNSm101 := zR_NS_fr (zdis_fr (zfr_up hmm101 (zfr_rf [(104, 0)] _) zq_195 rfl) rfl) hRNSm96
                            have hRTRm101 := zR_TR_fr (zdis_fr (zfr_up hmm101 (zfr_rf [(104, 0)] _) zq_195 rfl) rfl) hRTRm96
                            have hRWDm101 := zR_WD_fr (zdis_fr (zfr_up hmm101 (zfr_rf [(104, 0)] _) zq_195 rfl) rfl) hRWDm96
                            have r102 : 0 ≤ (m101 a0 22) ∧ (m101 a0 22) ≤ 16 := zi_rd hIm101 hc0 zb_28_22
                            have e103 : (m101 a0 22) = (m0 a0 22) := (Eq.trans (zs_ne hmm101 (Or.inl (zc_ne hc0 zq_195 (by decide)))) (Eq.trans (zs_ne hmm96 (Or.inl (zc_ne hc0 zq_196 (by decide)))) (Eq.trans (zs_ne hmm88 (Or.inr (by decide))) (Eq.trans (zfr_ap hfm73 hc0 rfl) (Eq.trans (zs_ne hmm72 (Or.inr (by decide))) (Eq.trans (zs_ne hmm47 (Or.inr (by decide))) (Eq.trans (zfr_ap hfm36 hc0 rfl) (Eq.trans (zs_ne hmm35 (Or.inr (by decide))) (Eq.trans (zs_ne hmm11 (Or.inr (by decide))) (zfr_ap hfm6 hc0 rfl))))))))))
                            have w104 := zu_w32_id (z := (m101 a0 22) + 1) (by omega) (by omega)
                            generalize hmm105 : zu_up m101 a0 22 (zu_w32 ((m101 a0 22) + 1)) = m105
                            have hIm105 := zi_up hmm105 hIm101 hc0 zb_28_22 (by omega) (by omega)
                            have hFm105 := zfr_up hmm105 hFm101 hc0 rfl
                            have hRCRm105 := zR_CR_fr (zdis_fr (zfr_up hmm105 (zfr_rf [(28, 23)] _) hc0 rfl) rfl) hRCRm101
                            have hRLRm105 := zR_LR_fr (zdis_fr (zfr_up hmm105 (zfr_rf [(28, 23)] _) hc0 rfl) rfl) hRLRm101
                            have hRNSm105 := zR_NS_fr (zdis_fr (zfr_up hmm105 (zfr_rf [(28, 23)] _) hc0 rfl) rfl) hRNSm101
                            have hRTRm105 := zR_TR_fr (zdis_fr (zfr_up hmm105 (zfr_rf [(28, 23)] _) hc0 rfl) rfl) hRTRm101
                            have hRWDm105 := zR_WD_fr (zdis_fr (zfr_up hmm105 (zfr_rf [(28, 23)] _) hc0 rfl) rfl) hRWDm101
                            refine zw_b (by omega) ?_
                            have r106 : 0 ≤ (m105 a0 7) ∧ (m105 a0 7) ≤ 700 := zi_rd hIm105 hc0 zb_28_7
                            have e107 : (m105 a0 7) = (m73 a0 7) := (Eq.trans (zs_ne hmm105 (Or.inr (by decide))) (Eq.trans (zs_ne hmm101 (Or.inl (zc_ne hc0 zq_195 (by decide)))) (Eq.trans (zs_ne hmm96 (Or.inl (zc_ne hc0 zq_196 (by decide)))) (zs_ne hmm88 (Or.inr (by decide))))))
                            have r108 : 0 ≤ (m105 a0 8) ∧ (m105 a0 8) ≤ 6 := zi_rd hIm105 hc0 zb_28_8
                            have e109 : (m105 a0 8) = (m73 a0 8) := (Eq.trans (zs_ne hmm105 (Or.inr (by decide))) (Eq.trans (zs_ne hmm101 (Or.inl (zc_ne hc0 zq_195 (by decide)))) (Eq.trans (zs_ne hmm96 (Or.inl (zc_ne hc0 zq_196 (by decide)))) (zs_ne hmm88 (Or.inr (by decide))))))
                            have r110 : (-2147483648) ≤ (m105 a0 4) ∧ (m105 a0 4) ≤ 2147483647 := zi_rd hIm105 hc0 zb_28_4
                            have e111 : (m105 a0 4) = (m0 a0 4) := (Eq.trans (zs_ne hmm105 (Or.inr (by decide))) (Eq.trans (zs_ne hmm101 (Or.inl (zc_ne hc0 zq_195 (by decide)))) (Eq.trans (zs_ne hmm96 (Or.inl (zc_ne hc0 zq_196 (by decide)))) (Eq.trans (zs_ne hmm88 (Or.inr (by decide))) (Eq.trans (zfr_ap hfm73 hc0 rfl) (Eq.trans (zs_ne hmm72 (Or.inr (by decide))) (Eq.trans (zs_ne hmm47 (Or.inr (by decide))) (Eq.trans (zfr_ap hfm36 hc0 rfl) (Eq.trans (zs_ne hmm35 (Or.inr (by decide))) (Eq.trans (zs_ne hmm11 (Or.inr (by decide))) (zfr_ap hfm6 hc0 rfl)))))))))))
                            exact zw_some ⟨hIm105, hFm105, hRCRm105, hRLRm105, hRNSm105, hRTRm105, hRWDm105, ⟨by decide, by decide⟩, by omega, fun _ => by omega, fun _ => by omega⟩
                          · have r112 : (-2147483648) ≤ (m88 a0 42) ∧ (m88 a0 42) ≤ 2147483647 := zi_rd hIm88 hc0 zb_28_42
                            have e113 : (m88 a0 42) = (m36 a0 10) := (Eq.trans (zs_ne hmm88 (Or.inr (by decide))) (Eq.trans (zfr_ap hfm73 hc0 rfl) (Eq.trans (zs_ne hmm72 (Or.inr (by decide))) (zs_eq hmm47))))
                            generalize hmm114 : zu_up m88 a0 10 (m88 a0 42) = m114
                            have hIm114 := zi_up hmm114 hIm88 hc0 zb_28_10 (by omega) (by omega)
                            have hFm114 := zfr_up hmm114 hFm88 hc0 rfl
                            have hRCRm114 := zR_CR_fr (zdis_fr (zfr_up hmm114 (zfr_rf [(28, 11)] _) hc0 rfl) rfl) hRCRm88
                            have hRLRm114 := zR_LR_fr (zdis_fr (zfr_up hmm114 (zfr_rf [(28, 11)] _) hc0 rfl) rfl) hRLRm88
                            have hRNSm114 := zR_NS_fr (zdis_fr (zfr_up hmm114 (zfr_rf [(28, 11)] _) hc0 rfl) rfl) hRNSm88
                            have hRTRm114 := zR_TR_fr (zdis_fr (zfr_up hmm114 (zfr_rf [(28, 11)] _) hc0 rfl) rfl) hRTRm88
                            have hRWDm114 := zR_WD_fr (zdis_fr (zfr_up hmm114 (zfr_rf [(28, 11)] _) hc0 rfl) rfl) hRWDm88
                            refine zw_bd (zw_eq (zu_call_at (zt_T n) (zm_85 n) (zdp_85 n) _ _ _ _ _ rfl (zr_85_0 n _ _ a0 3 m114)) ?_)
                            generalize hmm115 : zu_up m114 a0 4 3 = m115
                            have hIm115 := zi_up hmm115 hIm114 hc0 zb_28_4 (by omega) (by omega)
                            have hFm115 := zfr_up hmm115 hFm114 hc0 rfl
                            have hRCRm115 := zR_CR_fr (zdis_fr (zfr_up hmm115 (zfr_rf [(28, 5)] _) hc0 rfl) rfl) hRCRm114
                            have hRNSm115 := zR_NS_fr (zdis_fr (zfr_up hmm115 (zfr_rf [(28, 5)] _) hc0 rfl) rfl) hRNSm114
                            have hRTRm115 := zR_TR_fr (zdis_fr (zfr_up hmm115 (zfr_rf [(28, 5)] _) hc0 rfl) rfl) hRTRm114
                            have hRWDm115 := zR_WD_fr (zdis_fr (zfr_up hmm115 (zfr_rf [(28, 5)] _) hc0 rfl) rfl) hRWDm114
                            have hRLRm115 := zLR_wr (zone_190 hc0) hmm115 (by decide)
                            have r116 : 0 ≤ (m115 a0 10) ∧ (m115 a0 10) ≤ 700 := zi_rd hIm115 hc0 zb_28_10
                            have e117 : (m115 a0 10) = (m88 a0 42) := (Eq.trans (zs_ne hmm115 (Or.inr (by decide))) (zs_eq hmm114))
                            generalize hmm118 : zu_up m115 a0 5 (m115 a0 10) = m118
                            have hIm118 := zi_up hmm118 hIm115 hc0 zb_28_5 (by omega) (by omega)
                            have hFm118 := zfr_up hmm118 hFm115 hc0 rfl
                            have hRCRm118 := zR_CR_fr (zdis_fr (zfr_up hmm118 (zfr_rf [(28, 6)] _) hc0 rfl) rfl) hRCRm115
                            have hRLRm118 := zR_LR_fr (zdis_fr (zfr_up hmm118 (zfr_rf [(28, 6)] _) hc0 rfl) rfl) hRLRm115
                            have hRNSm118 := zR_NS_fr (zdis_fr (zfr_up hmm118 (zfr_rf [(28, 6)] _) hc0 rfl) rfl) hRNSm115
                            have hRTRm118 := zR_TR_fr (zdis_fr (zfr_up hmm118 (zfr_rf [(28, 6)] _) hc0 rfl) rfl) hRTRm115
                            have hRWDm118 := zR_WD_fr (zdis_fr (zfr_up hmm118 (zfr_rf [(28, 6)] _) hc0 rfl) rfl) hRWDm115
                            refine zw_b (by omega) ?_
                            refine zw_some ?_
                            refine zw_b (by omega) ?_
                            have r119 : 0 ≤ (m118 a0 7) ∧ (m118 a0 7) ≤ 700 := zi_rd hIm118 hc0 zb_28_7
                            have e120 : (m118 a0 7) = (m73 a0 7) := (Eq.trans (zs_ne hmm118 (Or.inr (by decide))) (Eq.trans (zs_ne hmm115 (Or.inr (by decide))) (Eq.trans (zs_ne hmm114 (Or.inr (by decide))) (zs_ne hmm88 (Or.inr (by decide))))))
                            have r121 : 0 ≤ (m118 a0 8) ∧ (m118 a0 8) ≤ 6 := zi_rd hIm118 hc0 zb_28_8
                            have e122 : (m118 a0 8) = (m73 a0 8) := (Eq.trans (zs_ne hmm118 (Or.inr (by decide))) (Eq.trans (zs_ne hmm115 (Or.inr (by decide))) (Eq.trans (zs_ne hmm114 (Or.inr (by decide))) (zs_ne hmm88 (Or.inr (by decide))))))
                            have r123 : (-2147483648) ≤ (m118 a0 4) ∧ (m118 a0 4) ≤ 2147483647 := zi_rd hIm118 hc0 zb_28_4
                            have e124 : (m118 a0 4) = 3 := (Eq.trans (zs_ne hmm118 (Or.inr (by decide))) (zs_eq hmm115))
                            exact zw_some ⟨hIm118, hFm118, hRCRm118, hRLRm118, hRNSm118, hRTRm118, hRWDm118, ⟨by decide, by decide⟩, by omega, fun h => absurd h (by decide), fun h => absurd h (by decide)⟩
                        · exfalso; omega
                      · exfalso; omega
                    · exfalso; omega
              · refine zw_bd (zw_eq (zu_call_at (zt_T n) (zm_85 n) (zdp_85 n) _ _ _ _ _ rfl (zr_85_0 n _ _ a0 1 m47)) ?_)
                generalize hmm125 : zu_up m47 a0 4 1 = m125
                have hIm125 := zi_up hmm125 hIm47 hc0 zb_28_4 (by omega) (by omega)
                have hFm125 := zfr_up hmm125 hFm47 hc0 rfl
                have hRCRm125 := zR_CR_fr (zdis_fr (zfr_up hmm125 (zfr_rf [(28, 5)] _) hc0 rfl) rfl) hRCRm47
                have hRNSm125 := zR_NS_fr (zdis_fr (zfr_up hmm125 (zfr_rf [(28, 5)] _) hc0 rfl) rfl) hRNSm47
                have hRTRm125 := zR_TR_fr (zdis_fr (zfr_up hmm125 (zfr_rf [(28, 5)] _) hc0 rfl) rfl) hRTRm47
                have hRWDm125 := zR_WD_fr (zdis_fr (zfr_up hmm125 (zfr_rf [(28, 5)] _) hc0 rfl) rfl) hRWDm47
                have hRLRm125 := zLR_wr (zone_190 hc0) hmm125 (by decide)
                have r126 : 0 ≤ (m125 a0 10) ∧ (m125 a0 10) ≤ 700 := zi_rd hIm125 hc0 zb_28_10
                have e127 : (m125 a0 10) = (m36 a0 10) := (Eq.trans (zs_ne hmm125 (Or.inr (by decide))) (zs_ne hmm47 (Or.inr (by decide))))
                generalize hmm128 : zu_up m125 a0 5 (m125 a0 10) = m128
                have hIm128 := zi_up hmm128 hIm125 hc0 zb_28_5 (by omega) (by omega)
                have hFm128 := zfr_up hmm128 hFm125 hc0 rfl
                have hRCRm128 := zR_CR_fr (zdis_fr (zfr_up hmm128 (zfr_rf [(28, 6)] _) hc0 rfl) rfl) hRCRm125
                have hRLRm128 := zR_LR_fr (zdis_fr (zfr_up hmm128 (zfr_rf [(28, 6)] _) hc0 rfl) rfl) hRLRm125
                have hRNSm128 := zR_NS_fr (zdis_fr (zfr_up hmm128 (zfr_rf [(28, 6)] _) hc0 rfl) rfl) hRNSm125
                have hRTRm128 := zR_TR_fr (zdis_fr (zfr_up hmm128 (zfr_rf [(28, 6)] _) hc0 rfl) rfl) hRTRm125
                have hRWDm128 := zR_WD_fr (zdis_fr (zfr_up hmm128 (zfr_rf [(28, 6)] _) hc0 rfl) rfl) hRWDm125
                refine zw_b (by omega) ?_
                refine zw_some ?_
                refine zw_b (by omega) ?_
                refine zw_some ?_
                refine zw_ite (fun h129 => ?_) (fun h129 => ?_)
                · exfalso; omega
                · refine zw_b (by omega) ?_
                  refine zw_some ?_
                  refine zw_ite (fun h130 => ?_) (fun h130 => ?_)
                  · exfalso; omega
                  · refine zw_b (by omega) ?_
                    have r131 : 0 ≤ (m128 a0 7) ∧ (m128 a0 7) ≤ 700 := zi_rd hIm128 hc0 zb_28_7
                    have e132 : (m128 a0 7) = (m36 a0 7) := (Eq.trans (zs_ne hmm128 (Or.inr (by decide))) (Eq.trans (zs_ne hmm125 (Or.inr (by decide))) (zs_ne hmm47 (Or.inr (by decide)))))
                    have r133 : 0 ≤ (m128 a0 8) ∧ (m128 a0 8) ≤ 6 := zi_rd hIm128 hc0 zb_28_8
                    have e134 : (m128 a0 8) = (m47 a0 8) := (Eq.trans (zs_ne hmm128 (Or.inr (by decide))) (zs_ne hmm125 (Or.inr (by decide))))
                    have r135 : (-2147483648) ≤ (m128 a0 4) ∧ (m128 a0 4) ≤ 2147483647 := zi_rd hIm128 hc0 zb_28_4
                    have e136 : (m128 a0 4) = 1 := (Eq.trans (zs_ne hmm128 (Or.inr (by decide))) (zs_eq hmm125))
                    exact zw_some ⟨hIm128, hFm128, hRCRm128, hRLRm128, hRNSm128, hRTRm128, hRWDm128, ⟨by decide, by decide⟩, by omega, fun h => absurd h (by decide), fun h => absurd h (by decide)⟩
            · exfalso; omega
          · exfalso; omega
    · refine zw_bd (zw_eq (zu_call_at (zt_T n) (zm_85 n) (zdp_85 n) _ _ _ _ _ rfl (zr_85_0 n _ _ a0 1 m11)) ?_)
      generalize hmm137 : zu_up m11 a0 4 1 = m137
      have hIm137 := zi_up hmm137 hIm11 hc0 zb_28_4 (by omega) (by omega)
      have hFm137 := zfr_up hmm137 hFm11 hc0 rfl
      have hRCRm137 := zR_CR_fr (zdis_fr (zfr_up hmm137 (zfr_rf [(28, 5)] _) hc0 rfl) rfl) hRCRm11
      have hRNSm137 := zR_NS_fr (zdis_fr (zfr_up hmm137 (zfr_rf [(28, 5)] _) hc0 rfl) rfl) hRNSm11
      have hRTRm137 := zR_TR_fr (zdis_fr (zfr_up hmm137 (zfr_rf [(28, 5)] _) hc0 rfl) rfl) hRTRm11
      have hRWDm137 := zR_WD_fr (zdis_fr (zfr_up hmm137 (zfr_rf [(28, 5)] _) hc0 rfl) rfl) hRWDm11
      have hRLRm137 := zLR_wr (zone_190 hc0) hmm137 (by decide)
      have r138 : 0 ≤ (m137 a0 10) ∧ (m137 a0 10) ≤ 700 := zi_rd hIm137 hc0 zb_28_10
      generalize hmm139 : zu_up m137 a0 5 (m137 a0 10) = m139
      have hIm139 := zi_up hmm139 hIm137 hc0 zb_28_5 (by omega) (by omega)
      have hFm139 := zfr_up hmm139 hFm137 hc0 rfl
      have hRCRm139 := zR_CR_fr (zdis_fr (zfr_up hmm139 (zfr_rf [(28, 6)] _) hc0 rfl) rfl) hRCRm137
      have hRLRm139 := zR_LR_fr (zdis_fr (zfr_up hmm139 (zfr_rf [(28, 6)] _) hc0 rfl) rfl) hRLRm137
      have hRNSm139 := zR_NS_fr (zdis_fr (zfr_up hmm139 (zfr_rf [(28, 6)] _) hc0 rfl) rfl) hRNSm137
      have hRTRm139 := zR_TR_fr (zdis_fr (zfr_up hmm139 (zfr_rf [(28, 6)] _) hc0 rfl) rfl) hRTRm137
      have hRWDm139 := zR_WD_fr (zdis_fr (zfr_up hmm139 (zfr_rf [(28, 6)] _) hc0 rfl) rfl) hRWDm137
      refine zw_b (by omega) ?_
      refine zw_some ?_
      refine zw_b (by omega) ?_
      refine zw_some ?_
      refine zw_ite (fun h140 => ?_) (fun h140 => ?_)
      · exfalso; omega
      · refine zw_b (by omega) ?_
        refine zw_some ?_
        refine zw_ite (fun h141 => ?_) (fun h141 => ?_)
        · exfalso; omega
        · refine zw_b (by omega) ?_
          have r142 : 0 ≤ (m139 a0 7) ∧ (m139 a0 7) ≤ 700 := zi_rd hIm139 hc0 zb_28_7
          have e143 : (m139 a0 7) = (m6 a0 7) := (Eq.trans (zs_ne hmm139 (Or.inr (by decide))) (Eq.trans (zs_ne hmm137 (Or.inr (by decide))) (zs_ne hmm11 (Or.inr (by decide)))))
          have r144 : 0 ≤ (m139 a0 8) ∧ (m139 a0 8) ≤ 6 := zi_rd hIm139 hc0 zb_28_8
          have e145 : (m139 a0 8) = (m11 a0 8) := (Eq.trans (zs_ne hmm139 (Or.inr (by decide))) (zs_ne hmm137 (Or.inr (by decide))))
          have r146 : (-2147483648) ≤ (m139 a0 4) ∧ (m139 a0 4) ≤ 2147483647 := zi_rd hIm139 hc0 zb_28_4
          have e147 : (m139 a0 4) = 1 := (Eq.trans (zs_ne hmm139 (Or.inr (by decide))) (zs_eq hmm137))
          exact zw_some ⟨hIm139, hFm139, hRCRm139, hRLRm139, hRNSm139, hRTRm139, hRWDm139, ⟨by decide, by decide⟩, by omega, fun h => absurd h (by decide), fun h => absurd h (by decide)⟩
  · refine zw_bd (zw_eq (zu_call_at (zt_T n) (zm_85 n) (zdp_85 n) _ _ _ _ _ rfl (zr_85_0 n _ _ a0 2 m0)) ?_)
    generalize hmm148 : zu_up m0 a0 4 2 = m148
    have hIm148 := zi_up hmm148 hIm0 hc0 zb_28_4 (by omega) (by omega)
    have hFm148 := zfr_up hmm148 hFm0 hc0 rfl
    have hRCRm148 := zR_CR_fr (zdis_fr (zfr_up hmm148 (zfr_rf [(28, 5)] _) hc0 rfl) rfl) hRCRm0
    have hRNSm148 := zR_NS_fr (zdis_fr (zfr_up hmm148 (zfr_rf [(28, 5)] _) hc0 rfl) rfl) hRNSm0
    have hRTRm148 := zR_TR_fr (zdis_fr (zfr_up hmm148 (zfr_rf [(28, 5)] _) hc0 rfl) rfl) hRTRm0
    have hRWDm148 := zR_WD_fr (zdis_fr (zfr_up hmm148 (zfr_rf [(28, 5)] _) hc0 rfl) rfl) hRWDm0
    have hRLRm148 := zLR_wr (zone_190 hc0) hmm148 (by decide)
    have r149 : 0 ≤ (m148 a0 10) ∧ (m148 a0 10) ≤ 700 := zi_rd hIm148 hc0 zb_28_10
    generalize hmm150 : zu_up m148 a0 5 (m148 a0 10) = m150
    have hIm150 := zi_up hmm150 hIm148 hc0 zb_28_5 (by omega) (by omega)
    have hFm150 := zfr_up hmm150 hFm148 hc0 rfl
    have hRCRm150 := zR_CR_fr (zdis_fr (zfr_up hmm150 (zfr_rf [(28, 6)] _) hc0 rfl) rfl) hRCRm148
    have hRLRm150 := zR_LR_fr (zdis_fr (zfr_up hmm150 (zfr_rf [(28, 6)] _) hc0 rfl) rfl) hRLRm148
    have hRNSm150 := zR_NS_fr (zdis_fr (zfr_up hmm150 (zfr_rf [(28, 6)] _) hc0 rfl) rfl) hRNSm148
    have hRTRm150 := zR_TR_fr (zdis_fr (zfr_up hmm150 (zfr_rf [(28, 6)] _) hc0 rfl) rfl) hRTRm148
    have hRWDm150 := zR_WD_fr (zdis_fr (zfr_up hmm150 (zfr_rf [(28, 6)] _) hc0 rfl) rfl) hRWDm148
    refine zw_b (by omega) ?_
    refine zw_some ?_
    refine zw_b (by omega) ?_
    have r151 : 0 ≤ (m150 a0 7) ∧ (m150 a0 7) ≤ 700 := zi_rd hIm150 hc0 zb_28_7
    have e152 : (m150 a0 7) = (m0 a0 7) := (Eq.trans (zs_ne hmm150 (Or.inr (by decide))) (zs_ne hmm148 (Or.inr (by decide))))
    have r153 : 0 ≤ (m150 a0 8) ∧ (m150 a0 8) ≤ 6 := zi_rd hIm150 hc0 zb_28_8
    have e154 : (m150 a0 8) = (m0 a0 8) := (Eq.trans (zs_ne hmm150 (Or.inr (by decide))) (zs_ne hmm148 (Or.inr (by decide))))
    have r155 : (-2147483648) ≤ (m150 a0 4) ∧ (m150 a0 4) ≤ 2147483647 := zi_rd hIm150 hc0 zb_28_4
    have e156 : (m150 a0 4) = 2 := (Eq.trans (zs_ne hmm150 (Or.inr (by decide))) (zs_eq hmm148))
    exact zw_some ⟨hIm150, hFm150, hRCRm150, hRLRm150, hRNSm150, hRTRm150, hRWDm150, ⟨by decide, by decide⟩, by omega, fun h => absurd h (by decide), fun h => absurd h (by decide)⟩
set_option maxHeartbeats 4000000 in
theorem zk_101 (n : Nat) {a0 : Int} {m0 : zu_m} (hIm0 : zi_I m0) (hc0 : zcls a0 = 28)   (he0 : 1 ≤ m0 a0 8 ∧ m0 a0 8 ≤ 1) (he1 : 4 ≤ m0 a0 9 ∧ m0 a0 9 ≤ 4)  (hRCRm0 : zR_CR m0) (hRLRm0 : zR_LR m0) (hRNSm0 : zR_NS m0) (hRTRm0 : zR_TR m0) (hRWDm0 : zR_WD m0) : zw (zu_call (zt_T n) 101 [(40, a0)] m0) (fun v m => zi_I m ∧ zfr [(28, 5), (28, 6), (28, 8), (28, 9), (28, 10), (28, 11), (28, 12), (28, 20), (28, 24), (28, 43), (106, 0), (107, 0), (108, 0)] m0 m ∧ zR_CR m ∧ zR_LR m ∧ zR_NS m ∧ zR_TR m ∧ zR_WD m ∧ (0 ≤ v ∧ v ≤ 1) ∧ ((m0 a0 7) ≤ (m a0 7)) ∧ (v = 1 → ((m a0 8) = 0 ∨ (m0 a0 7) < (m a0 7))) ∧ (v = 1 → (m a0 4) = (m0 a0 4))) := by
  have hFm0 : zfr [(28, 5), (28, 6), (28, 8), (28, 9), (28, 10), (28, 11), (28, 12), (28, 20), (28, 24), (28, 43), (106, 0), (107, 0), (108, 0)] m0 m0 := zfr_rf _ _
  have r1 : 0 ≤ (m0 a0 7) ∧ (m0 a0 7) ≤ 700 := zi_rd hIm0 hc0 zb_28_7
  have r2 : (-2147483648) ≤ (m0 a0 4) ∧ (m0 a0 4) ≤ 2147483647 := zi_rd hIm0 hc0 zb_28_4
  have s3 := hRNSm0 a0 hc0
  refine zw_eq (zu_call_at (zt_T n) (zm_101 n) (zdp_101 n) _ _ _ _ _ rfl (zr_101_0 n _ _ a0 m0)) ?_
  have r4 : 0 ≤ (m0 a0 19) ∧ (m0 a0 19) ≤ 12 := zi_rd hIm0 hc0 zb_28_19
  refine zw_ite (fun h5 => ?_) (fun h5 => ?_)
  · refine zw_bd (zw_mono (zk_89 n hIm0 hc0 hRNSm0 hRWDm0) (fun v7 m6 hqm6 => ?_))
    obtain ⟨hIm6, hfm6, hvm6⟩ := hqm6
    have hFm6 := zfr_tr hFm0 hfm6 rfl
    obtain ⟨hRNSm6, hRTRm6, hRWDm6, hvm6⟩ := hvm6
    have hRCRm6 := zR_CR_fr (zdis_fr hfm6 rfl) hRCRm0
    have hRLRm6 := zR_LR_fr (zdis_fr hfm6 rfl) hRLRm0
    have s8 := hRNSm6 a0 hc0
    have r9 : 0 ≤ (m6 a0 7) ∧ (m6 a0 7) ≤ 700 := zi_rd hIm6 hc0 zb_28_7
    have r10 : 0 ≤ (m6 a0 8) ∧ (m6 a0 8) ≤ 6 := zi_rd hIm6 hc0 zb_28_8
    have r11 : 0 ≤ (m6 a0 19) ∧ (m6 a0 19) ≤ 12 := zi_rd hIm6 hc0 zb_28_19
    have e12 : (m6 a0 19) = (m0 a0 19) := (zfr_ap hfm6 hc0 rfl)
    have w13 := zu_w32_id (z := 18 + (m6 a0 19)) (by omega) (by omega)
    refine zw_bd (zw_eq (zu_call_at (zt_T n) (zm_97 n) (zdp_97 n) _ _ _ _ _ rfl (zr_97_0 n _ _ a0 12 15 m6)) ?_)
    refine zw_ite (fun h14 => ?_) (fun h14 => ?_)
    · refine zw_bd (zw_eq (zu_call_at (zt_T n) (zm_85 n) (zdp_85 n) _ _ _ _ _ rfl (zr_85_0 n _ _ a0 1 m6)) ?_)
      generalize hmm16 : zu_up m6 a0 4 1 = m16
      have hIm16 := zi_up hmm16 hIm6 hc0 zb_28_4 (by omega) (by omega)
      have hFm16 := zfr_up hmm16 hFm6 hc0 rfl
      have hRCRm16 := zR_CR_fr (zdis_fr (zfr_up hmm16 (zfr_rf [(28, 5)] _) hc0 rfl) rfl) hRCRm6
      have hRNSm16 := zR_NS_fr (zdis_fr (zfr_up hmm16 (zfr_rf [(28, 5)] _) hc0 rfl) rfl) hRNSm6
      have hRTRm16 := zR_TR_fr (zdis_fr (zfr_up hmm16 (zfr_rf [(28, 5)] _) hc0 rfl) rfl) hRTRm6
      have hRWDm16 := zR_WD_fr (zdis_fr (zfr_up hmm16 (zfr_rf [(28, 5)] _) hc0 rfl) rfl) hRWDm6
      have hRLRm16 := zLR_wr (zone_190 hc0) hmm16 (by decide)
      have r17 : 0 ≤ (m16 a0 10) ∧ (m16 a0 10) ≤ 700 := zi_rd hIm16 hc0 zb_28_10
      generalize hmm18 : zu_up m16 a0 5 (m16 a0 10) = m18
      have hIm18 := zi_up hmm18 hIm16 hc0 zb_28_5 (by omega) (by omega)
      have hFm18 := zfr_up hmm18 hFm16 hc0 rfl
      have hRCRm18 := zR_CR_fr (zdis_fr (zfr_up hmm18 (zfr_rf [(28, 6)] _) hc0 rfl) rfl) hRCRm16
      have hRLRm18 := zR_LR_fr (zdis_fr (zfr_up hmm18 (zfr_rf [(28, 6)] _) hc0 rfl) rfl) hRLRm16
      have hRNSm18 := zR_NS_fr (zdis_fr (zfr_up hmm18 (zfr_rf [(28, 6)] _) hc0 rfl) rfl) hRNSm16
      have hRTRm18 := zR_TR_fr (zdis_fr (zfr_up hmm18 (zfr_rf [(28, 6)] _) hc0 rfl) rfl) hRTRm16
      have hRWDm18 := zR_WD_fr (zdis_fr (zfr_up hmm18 (zfr_rf [(28, 6)] _) hc0 rfl) rfl) hRWDm16
      refine zw_b (by omega) ?_
      refine zw_some ?_
      refine zw_b (by omega) ?_
      refine zw_some ?_
      refine zw_ite (fun h19 => ?_) (fun h19 => ?_)
      · exfalso; omega
      · refine zw_b (by omega) ?_
        have r20 : 0 ≤ (m18 a0 7) ∧ (m18 a0 7) ≤ 700 := zi_rd hIm18 hc0 zb_28_7
        have e21 : (m18 a0 7) = (m6 a0 7) := (Eq.trans (zs_ne hmm18 (Or.inr (by decide))) (zs_ne hmm16 (Or.inr (by decide))))
        have r22 : 0 ≤ (m18 a0 8) ∧ (m18 a0 8) ≤ 6 := zi_rd hIm18 hc0 zb_28_8
        have e23 : (m18 a0 8) = (m6 a0 8) := (Eq.trans (zs_ne hmm18 (Or.inr (by decide))) (zs_ne hmm16 (Or.inr (by decide))))
        have r24 : (-2147483648) ≤ (m18 a0 4) ∧ (m18 a0 4) ≤ 2147483647 := zi_rd hIm18 hc0 zb_28_4
        have e25 : (m18 a0 4) = 1 := (Eq.trans (zs_ne hmm18 (Or.inr (by decide))) (zs_eq hmm16))
        exact zw_some ⟨hIm18, hFm18, hRCRm18, hRLRm18, hRNSm18, hRTRm18, hRWDm18, ⟨by decide, by decide⟩, by omega, fun h => absurd h (by decide), fun h => absurd h (by decide)⟩
    · have s15 := (hRTRm6 a0 hc0).2.1 (by omega)
      refine zw_ite (fun h26 => ?_) (fun h26 => ?_)
      · refine zw_bd (zw_eq (zu_call_at (zt_T n) (zm_85 n) (zdp_85 n) _ _ _ _ _ rfl (zr_85_0 n _ _ a0 1 m6)) ?_)
        generalize hmm27 : zu_up m6 a0 4 1 = m27
        have hIm27 := zi_up hmm27 hIm6 hc0 zb_28_4 (by omega) (by omega)
        have hFm27 := zfr_up hmm27 hFm6 hc0 rfl
        have hRCRm27 := zR_CR_fr (zdis_fr (zfr_up hmm27 (zfr_rf [(28, 5)] _) hc0 rfl) rfl) hRCRm6
        have hRNSm27 := zR_NS_fr (zdis_fr (zfr_up hmm27 (zfr_rf [(28, 5)] _) hc0 rfl) rfl) hRNSm6
        have hRTRm27 := zR_TR_fr (zdis_fr (zfr_up hmm27 (zfr_rf [(28, 5)] _) hc0 rfl) rfl) hRTRm6
        have hRWDm27 := zR_WD_fr (zdis_fr (zfr_up hmm27 (zfr_rf [(28, 5)] _) hc0 rfl) rfl) hRWDm6
        have hRLRm27 := zLR_wr (zone_190 hc0) hmm27 (by decide)
        have r28 : 0 ≤ (m27 a0 10) ∧ (m27 a0 10) ≤ 700 := zi_rd hIm27 hc0 zb_28_10
        generalize hmm29 : zu_up m27 a0 5 (m27 a0 10) = m29
        have hIm29 := zi_up hmm29 hIm27 hc0 zb_28_5 (by omega) (by omega)
        have hFm29 := zfr_up hmm29 hFm27 hc0 rfl
        have hRCRm29 := zR_CR_fr (zdis_fr (zfr_up hmm29 (zfr_rf [(28, 6)] _) hc0 rfl) rfl) hRCRm27
        have hRLRm29 := zR_LR_fr (zdis_fr (zfr_up hmm29 (zfr_rf [(28, 6)] _) hc0 rfl) rfl) hRLRm27
        have hRNSm29 := zR_NS_fr (zdis_fr (zfr_up hmm29 (zfr_rf [(28, 6)] _) hc0 rfl) rfl) hRNSm27
        have hRTRm29 := zR_TR_fr (zdis_fr (zfr_up hmm29 (zfr_rf [(28, 6)] _) hc0 rfl) rfl) hRTRm27
        have hRWDm29 := zR_WD_fr (zdis_fr (zfr_up hmm29 (zfr_rf [(28, 6)] _) hc0 rfl) rfl) hRWDm27
        refine zw_b (by omega) ?_
        refine zw_some ?_
        refine zw_b (by omega) ?_
        refine zw_some ?_
        refine zw_ite (fun h30 => ?_) (fun h30 => ?_)
        · exfalso; omega
        · refine zw_b (by omega) ?_
          have r31 : 0 ≤ (m29 a0 7) ∧ (m29 a0 7) ≤ 700 := zi_rd hIm29 hc0 zb_28_7
          have e32 : (m29 a0 7) = (m6 a0 7) := (Eq.trans (zs_ne hmm29 (Or.inr (by decide))) (zs_ne hmm27 (Or.inr (by decide))))
          have r33 : 0 ≤ (m29 a0 8) ∧ (m29 a0 8) ≤ 6 := zi_rd hIm29 hc0 zb_28_8
          have e34 : (m29 a0 8) = (m6 a0 8) := (Eq.trans (zs_ne hmm29 (Or.inr (by decide))) (zs_ne hmm27 (Or.inr (by decide))))
          have r35 : (-2147483648) ≤ (m29 a0 4) ∧ (m29 a0 4) ≤ 2147483647 := zi_rd hIm29 hc0 zb_28_4
          have e36 : (m29 a0 4) = 1 := (Eq.trans (zs_ne hmm29 (Or.inr (by decide))) (zs_eq hmm27))
          exact zw_some ⟨hIm29, hFm29, hRCRm29, hRLRm29, hRNSm29, hRTRm29, hRWDm29, ⟨by decide, by decide⟩, by omega, fun h => absurd h (by decide), fun h => absurd h (by decide)⟩
      · refine zw_ite (fun h37 => ?_) (fun h37 => ?_)
        · have w38 := zu_w32_id (z := (m6 a0 9) - 12) (by omega) (by omega)
          refine zw_bd (zw_mono (zk_89 n hIm6 hc0 hRNSm6 hRWDm6) (fun v40 m39 hqm39 => ?_))
          obtain ⟨hIm39, hfm39, hvm39⟩ := hqm39
          have hFm39 := zfr_tr hFm6 hfm39 rfl
          obtain ⟨hRNSm39, hRTRm39, hRWDm39, hvm39⟩ := hvm39
          have hRCRm39 := zR_CR_fr (zdis_fr hfm39 rfl) hRCRm6
          have hRLRm39 := zR_LR_fr (zdis_fr hfm39 rfl) hRLRm6
          have s41 := hRNSm39 a0 hc0
          have r42 : 0 ≤ (m39 a0 7) ∧ (m39 a0 7) ≤ 700 := zi_rd hIm39 hc0 zb_28_7
          have r43 : 0 ≤ (m39 a0 8) ∧ (m39 a0 8) ≤ 6 := zi_rd hIm39 hc0 zb_28_8
          generalize hmm44 : zu_up m39 a0 11 (zu_w32 ((m6 a0 9) - 12)) = m44
          have hIm44 := zi_up hmm44 hIm39 hc0 zb_28_11 (by omega) (by omega)
          have hFm44 := zfr_up hmm44 hFm39 hc0 rfl
          have hRCRm44 := zR_CR_fr (zdis_fr (zfr_up hmm44 (zfr_rf [(28, 12)] _) hc0 rfl) rfl) hRCRm39
          have hRLRm44 := zR_LR_fr (zdis_fr (zfr_up hmm44 (zfr_rf [(28, 12)] _) hc0 rfl) rfl) hRLRm39
          have hRNSm44 := zR_NS_fr (zdis_fr (zfr_up hmm44 (zfr_rf [(28, 12)] _) hc0 rfl) rfl) hRNSm39
          have hRTRm44 := zR_TR_fr (zdis_fr (zfr_up hmm44 (zfr_rf [(28, 12)] _) hc0 rfl) rfl) hRTRm39
          have hRWDm44 := zR_WD_fr (zdis_fr (zfr_up hmm44 (zfr_rf [(28, 12)] _) hc0 rfl) rfl) hRWDm39
          refine zw_b (by omega) ?_
          refine zw_some ?_
          refine zw_ite (fun h45 => ?_) (fun h45 => ?_)
          · have r46 : (-2147483648) ≤ (m44 a0 11) ∧ (m44 a0 11) ≤ 2147483647 := zi_rd hIm44 hc0 zb_28_11
            have e47 : (m44 a0 11) = (zu_w32 ((m6 a0 9) - 12)) := (zs_eq hmm44)
            have b48 : 0 ≤ (zu_w32 (18 + (m6 a0 19))) ∧ (zu_w32 (18 + (m6 a0 19))) < 36 := by omega
            refine zw_if b48 ?_
            generalize hmm49 : zu_up m44 198 (zu_w32 (18 + (m6 a0 19))) (m44 a0 11) = m49
            have hIm49 := zi_up hmm49 hIm44 zq_198 (zb_107 _) (by omega) (by omega)
            have hFm49 := zfr_up hmm49 hFm44 zq_198 rfl
            have hRCRm49 := zR_CR_fr (zdis_fr (zfr_up hmm49 (zfr_rf [(107, 0)] _) zq_198 rfl) rfl) hRCRm44
            have hRLRm49 := zR_LR_fr (zdis_fr (zfr_up hmm49 (zfr_rf [(107, 0)] _) zq_198 rfl) rfl) hRLRm44
            have hRNSm49 := zR_NS_fr (zdis_fr (zfr_up hmm49 (zfr_rf [(107, 0)] _) zq_198 rfl) rfl) hRNSm44
            have hRTRm49 := zR_TR_fr (zdis_fr (zfr_up hmm49 (zfr_rf [(107, 0)] _) zq_198 rfl) rfl) hRTRm44
            have hRWDm49 := zR_WD_fr (zdis_fr (zfr_up hmm49 (zfr_rf [(107, 0)] _) zq_198 rfl) rfl) hRWDm44
            refine zw_bd (zw_eq (zu_call_at (zt_T n) (zm_96 n) (zdp_96 n) _ _ _ _ _ rfl (zr_96_0 n _ _ a0 m49)) ?_)
            refine zw_b (by omega) ?_
            generalize hmm50 : zu_up m49 a0 23 1 = m50
            have hIm50 := zi_up hmm50 hIm49 hc0 zb_28_23 (by omega) (by omega)
            have hFm50 := zfr_up hmm50 hFm49 hc0 rfl
            have hRLRm50 := zR_LR_fr (zdis_fr (zfr_up hmm50 (zfr_rf [(28, 24)] _) hc0 rfl) rfl) hRLRm49
            have hRNSm50 := zR_NS_fr (zdis_fr (zfr_up hmm50 (zfr_rf [(28, 24)] _) hc0 rfl) rfl) hRNSm49
            have hRTRm50 := zR_TR_fr (zdis_fr (zfr_up hmm50 (zfr_rf [(28, 24)] _) hc0 rfl) rfl) hRTRm49
            have hRWDm50 := zR_WD_fr (zdis_fr (zfr_up hmm50 (zfr_rf [(28, 24)] _) hc0 rfl) rfl) hRWDm49
            have hRCRm50 := zCR_cells (zone_190 hc0) hmm50 rfl hRCRm49
            have r51 : 1 ≤ (m50 a0 17) ∧ (m50 a0 17) ≤ 8 := zi_rd hIm50 hc0 zb_28_17
            have w52 := zu_w32_id (z := (m50 a0 17) - 1) (by omega) (by omega)
            refine zw_bd (zw_eq (zu_call_at (zt_T n) (zm_94 n) (zdp_94 n) _ _ _ _ _ rfl (zr_94_0 n _ _ a0 0 (zu_w32 ((m50 a0 17) - 1)) m50)) ?_)
            have r53 : 0 ≤ (m50 a0 8) ∧ (m50 a0 8) ≤ 6 := zi_rd hIm50 hc0 zb_28_8
            have e54 : (m50 a0 8) = (m39 a0 8) := (Eq.trans (zs_ne hmm50 (Or.inr (by decide))) (Eq.trans (zs_ne hmm49 (Or.inl (zc_ne hc0 zq_198 (by decide)))) (zs_ne hmm44 (Or.inr (by decide)))))
            refine zw_ite (fun h55 => ?_) (fun h55 => ?_)
            · have s56 := (hRTRm39 a0 hc0).2.2 (by omega)
              have r57 : (-2147483648) ≤ (m50 a0 9) ∧ (m50 a0 9) ≤ 2147483647 := zi_rd hIm50 hc0 zb_28_9
              have e58 : (m50 a0 9) = (m39 a0 9) := (Eq.trans (zs_ne hmm50 (Or.inr (by decide))) (Eq.trans (zs_ne hmm49 (Or.inl (zc_ne hc0 zq_198 (by decide)))) (zs_ne hmm44 (Or.inr (by decide)))))
              refine zw_bd (zw_eq (zu_call_at (zt_T n) (zm_83 n) (zdp_83 n) _ _ _ _ _ rfl (zr_83_0 n _ _ (m50 a0 9) 0 (zu_w32 ((m50 a0 17) - 1)) m50)) ?_)
              refine zw_ite (fun h59 => ?_) (fun h59 => ?_)
              · exfalso; omega
              · refine zw_ite (fun h60 => ?_) (fun h60 => ?_)
                · refine zw_b (by omega) ?_
                  refine zw_some ?_
                  refine zw_ite (fun h61 => ?_) (fun h61 => ?_)
                  · exfalso; omega
                  · refine zw_bd (zw_eq (zu_call_at (zt_T n) (zm_85 n) (zdp_85 n) _ _ _ _ _ rfl (zr_85_0 n _ _ a0 2 m50)) ?_)
                    generalize hmm62 : zu_up m50 a0 4 2 = m62
                    have hIm62 := zi_up hmm62 hIm50 hc0 zb_28_4 (by omega) (by omega)
                    have hFm62 := zfr_up hmm62 hFm50 hc0 rfl
                    have hRCRm62 := zR_CR_fr (zdis_fr (zfr_up hmm62 (zfr_rf [(28, 5)] _) hc0 rfl) rfl) hRCRm50
                    have hRNSm62 := zR_NS_fr (zdis_fr (zfr_up hmm62 (zfr_rf [(28, 5)] _) hc0 rfl) rfl) hRNSm50
                    have hRTRm62 := zR_TR_fr (zdis_fr (zfr_up hmm62 (zfr_rf [(28, 5)] _) hc0 rfl) rfl) hRTRm50
                    have hRWDm62 := zR_WD_fr (zdis_fr (zfr_up hmm62 (zfr_rf [(28, 5)] _) hc0 rfl) rfl) hRWDm50
                    have hRLRm62 := zLR_wr (zone_190 hc0) hmm62 (by decide)
                    have r63 : 0 ≤ (m62 a0 10) ∧ (m62 a0 10) ≤ 700 := zi_rd hIm62 hc0 zb_28_10
                    generalize hmm64 : zu_up m62 a0 5 (m62 a0 10) = m64
                    have hIm64 := zi_up hmm64 hIm62 hc0 zb_28_5 (by omega) (by omega)
                    have hFm64 := zfr_up hmm64 hFm62 hc0 rfl
                    have hRCRm64 := zR_CR_fr (zdis_fr (zfr_up hmm64 (zfr_rf [(28, 6)] _) hc0 rfl) rfl) hRCRm62
                    have hRLRm64 := zR_LR_fr (zdis_fr (zfr_up hmm64 (zfr_rf [(28, 6)] _) hc0 rfl) rfl) hRLRm62
                    have hRNSm64 := zR_NS_fr (zdis_fr (zfr_up hmm64 (zfr_rf [(28, 6)] _) hc0 rfl) rfl) hRNSm62
                    have hRTRm64 := zR_TR_fr (zdis_fr (zfr_up hmm64 (zfr_rf [(28, 6)] _) hc0 rfl) rfl) hRTRm62
                    have hRWDm64 := zR_WD_fr (zdis_fr (zfr_up hmm64 (zfr_rf [(28, 6)] _) hc0 rfl) rfl) hRWDm62
                    refine zw_b (by omega) ?_
                    refine zw_some ?_
                    refine zw_b (by omega) ?_
                    refine zw_some ?_
                    refine zw_ite (fun h65 => ?_) (fun h65 => ?_)
                    · exfalso; omega
                    · refine zw_b (by omega) ?_
                      refine zw_some ?_
                      refine zw_ite (fun h66 => ?_) (fun h66 => ?_)
                      · exfalso; omega
                      · refine zw_b (by omega) ?_
                        have r67 : 0 ≤ (m64 a0 7) ∧ (m64 a0 7) ≤ 700 := zi_rd hIm64 hc0 zb_28_7
                        have e68 : (m64 a0 7) = (m39 a0 7) := (Eq.trans (zs_ne hmm64 (Or.inr (by decide))) (Eq.trans (zs_ne hmm62 (Or.inr (by decide))) (Eq.trans (zs_ne hmm50 (Or.inr (by decide))) (Eq.trans (zs_ne hmm49 (Or.inl (zc_ne hc0 zq_198 (by decide)))) (zs_ne hmm44 (Or.inr (by decide)))))))
                        have r69 : 0 ≤ (m64 a0 8) ∧ (m64 a0 8) ≤ 6 := zi_rd hIm64 hc0 zb_28_8
                        have e70 : (m64 a0 8) = (m50 a0 8) := (Eq.trans (zs_ne hmm64 (Or.inr (by decide))) (zs_ne hmm62 (Or.inr (by decide))))
                        have r71 : (-2147483648) ≤ (m64 a0 4) ∧ (m64 a0 4) ≤ 2147483647 := zi_rd hIm64 hc0 zb_28_4
                        have e72 : (m64 a0 4) = 2 := (Eq.trans (zs_ne hmm64 (Or.inr (by decide))) (zs_eq hmm62))
                        exact zw_some ⟨hIm64, hFm64, hRCRm64, hRLRm64, hRNSm64, hRTRm64, hRWDm64, ⟨by decide, by decide⟩, by omega, fun h => absurd h (by decide), fun h => absurd h (by decide)⟩
                · refine zw_b (by omega) ?_
                  refine zw_some ?_
                  refine zw_ite (fun h73 => ?_) (fun h73 => ?_)
                  · generalize hmm74 : zu_up m50 a0 11 (m50 a0 9) = m74
                    have hIm74 := zi_up hmm74 hIm50 hc0 zb_28_11 (by omega) (by omega)
                    have hFm74 := zfr_up hmm74 hFm50 hc0 rfl
                    have hRCRm74 := zR_CR_fr (zdis_fr (zfr_up hmm74 (zfr_rf [(28, 12)] _) hc0 rfl) rfl) hRCRm50
                    have hRLRm74 := zR_LR_fr (zdis_fr (zfr_up hmm74 (zfr_rf [(28, 12)] _) hc0 rfl) rfl) hRLRm50
                    have hRNSm74 := zR_NS_fr (zdis_fr (zfr_up hmm74 (zfr_rf [(28, 12)] _) hc0 rfl) rfl) hRNSm50
                    have hRTRm74 := zR_TR_fr (zdis_fr (zfr_up hmm74 (zfr_rf [(28, 12)] _) hc0 rfl) rfl) hRTRm50
                    have hRWDm74 := zR_WD_fr (zdis_fr (zfr_up hmm74 (zfr_rf [(28, 12)] _) hc0 rfl) rfl) hRWDm50
                    have r77 : 0 ≤ (m74 a0 7) ∧ (m74 a0 7) ≤ 700 := zi_rd hIm74 hc0 zb_28_7
                    have e78 : (m74 a0 7) = (m39 a0 7) := (Eq.trans (zs_ne hmm74 (Or.inr (by decide))) (Eq.trans (zs_ne hmm50 (Or.inr (by decide))) (Eq.trans (zs_ne hmm49 (Or.inl (zc_ne hc0 zq_198 (by decide)))) (zs_ne hmm44 (Or.inr (by decide))))))
                    refine zw_bd (zw_mono (zk_89 n hIm74 hc0 hRNSm74 hRWDm74) (fun v76 m75 hqm75 => ?_))
                    obtain ⟨hIm75, hfm75, hvm75⟩ := hqm75
                    have hFm75 := zfr_tr hFm74 hfm75 rfl
                    obtain ⟨hRNSm75, hRTRm75, hRWDm75, hvm75⟩ := hvm75
                    have hRCRm75 := zR_CR_fr (zdis_fr hfm75 rfl) hRCRm74
                    have hRLRm75 := zR_LR_fr (zdis_fr hfm75 rfl) hRLRm74
                    have s79 := hRNSm75 a0 hc0
                    have r80 : 0 ≤ (m75 a0 7) ∧ (m75 a0 7) ≤ 700 := zi_rd hIm75 hc0 zb_28_7
                    have r81 : 0 ≤ (m75 a0 8) ∧ (m75 a0 8) ≤ 6 := zi_rd hIm75 hc0 zb_28_8
                    refine zw_b (by omega) ?_
                    refine zw_some ?_
                    refine zw_ite (fun h82 => ?_) (fun h82 => ?_)
                    · have r83 : (-2147483648) ≤ (m75 a0 11) ∧ (m75 a0 11) ≤ 2147483647 := zi_rd hIm75 hc0 zb_28_11
                      have e84 : (m75 a0 11) = (m50 a0 9) := (Eq.trans (zfr_ap hfm75 hc0 rfl) (zs_eq hmm74))
                      have r85 : 0 ≤ (m75 a0 10) ∧ (m75 a0 10) ≤ 700 := zi_rd hIm75 hc0 zb_28_10
                      generalize hmm86 : zu_up m75 a0 42 (m75 a0 10) = m86
                      have hIm86 := zi_up hmm86 hIm75 hc0 zb_28_42 (by omega) (by omega)
                      have hFm86 := zfr_up hmm86 hFm75 hc0 rfl
                      have hRCRm86 := zR_CR_fr (zdis_fr (zfr_up hmm86 (zfr_rf [(28, 43)] _) hc0 rfl) rfl) hRCRm75
                      have hRLRm86 := zR_LR_fr (zdis_fr (zfr_up hmm86 (zfr_rf [(28, 43)] _) hc0 rfl) rfl) hRLRm75
                      have hRNSm86 := zR_NS_fr (zdis_fr (zfr_up hmm86 (zfr_rf [(28, 43)] _) hc0 rfl) rfl) hRNSm75
                      have hRTRm86 := zR_TR_fr (zdis_fr (zfr_up hmm86 (zfr_rf [(28, 43)] _) hc0 rfl) rfl) hRTRm75
                      have hRWDm86 := zR_WD_fr (zdis_fr (zfr_up hmm86 (zfr_rf [(28, 43)] _) hc0 rfl) rfl) hRWDm75
                      have r87 : 1 ≤ (m86 a0 18) ∧ (m86 a0 18) ≤ 6 := zi_rd hIm86 hc0 zb_28_18
                      have w88 := zu_w32_id (z := (m86 a0 18) - 1) (by omega) (by omega)
                      refine zw_bd (zw_eq (zu_call_at (zt_T n) (zm_94 n) (zdp_94 n) _ _ _ _ _ rfl (zr_94_0 n _ _ a0 0 (zu_w32 ((m86 a0 18) - 1)) m86)) ?_)
                      have r89 : 0 ≤ (m86 a0 8) ∧ (m86 a0 8) ≤ 6 := zi_rd hIm86 hc0 zb_28_8
                      have e90 : (m86 a0 8) = (m75 a0 8) := (zs_ne hmm86 (Or.inr (by decide)))
                      refine zw_ite (fun h91 => ?_) (fun h91 => ?_)
                      · have s92 := (hRTRm75 a0 hc0).2.2 (by omega)
                        have r93 : (-2147483648) ≤ (m86 a0 9) ∧ (m86 a0 9) ≤ 2147483647 := zi_rd hIm86 hc0 zb_28_9
                        have e94 : (m86 a0 9) = (m75 a0 9) := (zs_ne hmm86 (Or.inr (by decide)))
                        refine zw_bd (zw_eq (zu_call_at (zt_T n) (zm_83 n) (zdp_83 n) _ _ _ _ _ rfl (zr_83_0 n _ _ (m86 a0 9) 0 (zu_w32 ((m86 a0 18) - 1)) m86)) ?_)
                        refine zw_ite (fun h95 => ?_) (fun h95 => ?_)
                        · exfalso; omega
                        · refine zw_ite (fun h96 => ?_) (fun h96 => ?_)
                          · refine zw_b (by omega) ?_
                            refine zw_some ?_
                            refine zw_ite (fun h97 => ?_) (fun h97 => ?_)
                            · exfalso; omega
                            · refine zw_bd (zw_eq (zu_call_at (zt_T n) (zm_85 n) (zdp_85 n) _ _ _ _ _ rfl (zr_85_0 n _ _ a0 2 m86)) ?_)
                              generalize hmm98 : zu_up m86 a0 4 2 = m98
                              have hIm98 := zi_up hmm98 hIm86 hc0 zb_28_4 (by omega) (by omega)
                              have hFm98 := zfr_up hmm98 hFm86 hc0 rfl
                              have hRCRm98 := zR_CR_fr (zdis_fr (zfr_up hmm98 (zfr_rf [(28, 5)] _) hc0 rfl) rfl) hRCRm86
                              have hRNSm98 := zR_NS_fr (zdis_fr (zfr_up hmm98 (zfr_rf [(28, 5)] _) hc0 rfl) rfl) hRNSm86
                              have hRTRm98 := zR_TR_fr (zdis_fr (zfr_up hmm98 (zfr_rf [(28, 5)] _) hc0 rfl) rfl) hRTRm86
                              have hRWDm98 := zR_WD_fr (zdis_fr (zfr_up hmm98 (zfr_rf [(28, 5)] _) hc0 rfl) rfl) hRWDm86
                              have hRLRm98 := zLR_wr (zone_190 hc0) hmm98 (by decide)
                              have r99 : 0 ≤ (m98 a0 10) ∧ (m98 a0 10) ≤ 700 := zi_rd hIm98 hc0 zb_28_10
                              have e100 : (m98 a0 10) = (m75 a0 10) := (Eq.trans (zs_ne hmm98 (Or.inr (by decide))) (zs_ne hmm86 (Or.inr (by decide))))
                              generalize hmm101 : zu_up m98 a0 5 (m98 a0 10) = m101
                              have hIm101 := zi_up hmm101 hIm98 hc0 zb_28_5 (by omega) (by omega)
                              have hFm101 := zfr_up hmm101 hFm98 hc0 rfl
                              have hRCRm101 := zR_CR_fr (zdis_fr (zfr_up hmm101 (zfr_rf [(28, 6)] _) hc0 rfl) rfl) hRCRm98
                              have hRLRm101 := zR_LR_fr (zdis_fr (zfr_up hmm101 (zfr_rf [(28, 6)] _) hc0 rfl) rfl) hRLRm98
                              have hRNSm101 := zR_NS_fr (zdis_fr (zfr_up hmm101 (zfr_rf [(28, 6)] _) hc0 rfl) rfl) hRNSm98
                              have hRTRm101 := zR_TR_fr (zdis_fr (zfr_up hmm101 (zfr_rf [(28, 6)] _) hc0 rfl) rfl) hRTRm98
                              have hRWDm101 := zR_WD_fr (zdis_fr (zfr_up hmm101 (zfr_rf [(28, 6)] _) hc0 rfl) rfl) hRWDm98
                              refine zw_b (by omega) ?_
                              refine zw_some ?_
                              refine zw_b (by omega) ?_
                              refine zw_some ?_
                              refine zw_ite (fun h102 => ?_) (fun h102 => ?_)
                              · exfalso; omega
                              · refine zw_b (by omega) ?_
                                refine zw_some ?_
                                refine zw_ite (fun h103 => ?_) (fun h103 => ?_)
                                · exfalso; omega
                                · refine zw_b (by omega) ?_
                                  have r104 : 0 ≤ (m101 a0 7) ∧ (m101 a0 7) ≤ 700 := zi_rd hIm101 hc0 zb_28_7
                                  have e105 : (m101 a0 7) = (m75 a0 7) := (Eq.trans (zs_ne hmm101 (Or.inr (by decide))) (Eq.trans (zs_ne hmm98 (Or.inr (by decide))) (zs_ne hmm86 (Or.inr (by decide)))))
                                  have r106 : 0 ≤ (m101 a0 8) ∧ (m101 a0 8) ≤ 6 := zi_rd hIm101 hc0 zb_28_8
                                  have e107 : (m101 a0 8) = (m86 a0 8) := (Eq.trans (zs_ne hmm101 (Or.inr (by decide))) (zs_ne hmm98 (Or.inr (by decide))))
                                  have r108 : (-2147483648) ≤ (m101 a0 4) ∧ (m101 a0 4) ≤ 2147483647 := zi_rd hIm101 hc0 zb_28_4
                                  have e109 : (m101 a0 4) = 2 := (Eq.trans (zs_ne hmm101 (Or.inr (by decide))) (zs_eq hmm98))
                                  exact zw_some ⟨hIm101, hFm101, hRCRm101, hRLRm101, hRNSm101, hRTRm101, hRWDm101, ⟨by decide, by decide⟩, by omega, fun h => absurd h (by decide), fun h => absurd h (by decide)⟩
                          · refine zw_b (by omega) ?_
                            refine zw_some ?_
                            refine zw_ite (fun h110 => ?_) (fun h110 => ?_)
                            · generalize hmm111 : zu_up m86 a0 11 (m86 a0 9) = m111
                              have hIm111 := zi_up hmm111 hIm86 hc0 zb_28_11 (by omega) (by omega)
                              have hFm111 := zfr_up hmm111 hFm86 hc0 rfl
                              have hRCRm111 := zR_CR_fr (zdis_fr (zfr_up hmm111 (zfr_rf [(28, 12)] _) hc0 rfl) rfl) hRCRm86
                              have hRLRm111 := zR_LR_fr (zdis_fr (zfr_up hmm111 (zfr_rf [(28, 12)] _) hc0 rfl) rfl) hRLRm86
                              have hRNSm111 := zR_NS_fr (zdis_fr (zfr_up hmm111 (zfr_rf [(28, 12)] _) hc0 rfl) rfl) hRNSm86
                              have hRTRm111 := zR_TR_fr (zdis_fr (zfr_up hmm111 (zfr_rf [(28, 12)] _) hc0 rfl) rfl) hRTRm86
                              have hRWDm111 := zR_WD_fr (zdis_fr (zfr_up hmm111 (zfr_rf [(28, 12)] _) hc0 rfl) rfl) hRWDm86
                              have r114 : 0 ≤ (m111 a0 7) ∧ (m111 a0 7) ≤ 700 := zi_rd hIm111 hc0 zb_28_7
                              have e115 : (m111 a0 7) = (m75 a0 7) := (Eq.trans (zs_ne hmm111 (Or.inr (by decide))) (zs_ne hmm86 (Or.inr (by decide))))
                              refine zw_bd (zw_mono (zk_89 n hIm111 hc0 hRNSm111 hRWDm111) (fun v113 m112 hqm112 => ?_))
                              obtain ⟨hIm112, hfm112, hvm112⟩ := hqm112
                              have hFm112 := zfr_tr hFm111 hfm112 rfl
                              obtain ⟨hRNSm112, hRTRm112, hRWDm112, hvm112⟩ := hvm112
                              have hRCRm112 := zR_CR_fr (zdis_fr hfm112 rfl) hRCRm111
                              have hRLRm112 := zR_LR_fr (zdis_fr hfm112 rfl) hRLRm111
                              have s116 := hRNSm112 a0 hc0
                              have r117 : 0 ≤ (m112 a0 7) ∧ (m112 a0 7) ≤ 700 := zi_rd hIm112 hc0 zb_28_7
                              have r118 : 0 ≤ (m112 a0 8) ∧ (m112 a0 8) ≤ 6 := zi_rd hIm112 hc0 zb_28_8
                              refine zw_b (by omega) ?_
                              refine zw_some ?_
                              refine zw_ite (fun h119 => ?_) (fun h119 => ?_)
                              · have r120 : 1 ≤ (m112 a0 17) ∧ (m112 a0 17) ≤ 8 := zi_rd hIm112 hc0 zb_28_17
                                have e121 : (m112 a0 17) = (m50 a0 17) := (Eq.trans (zfr_ap hfm112 hc0 rfl) (Eq.trans (zs_ne hmm111 (Or.inr (by decide))) (Eq.trans (zs_ne hmm86 (Or.inr (by decide))) (Eq.trans (zfr_ap hfm75 hc0 rfl) (zs_ne hmm74 (Or.inr (by decide)))))))
                                have r122 : (-2147483648) ≤ (m112 a0 11) ∧ (m112 a0 11) ≤ 2147483647 := zi_rd hIm112 hc0 zb_28_11
                                have e123 : (m112 a0 11) = (m86 a0 9) := (Eq.trans (zfr_ap hfm112 hc0 rfl) (zs_eq hmm111))
                                have p124 := zmul_bd (x := (m112 a0 17)) (y := (m112 a0 11)) (a := 1) (b := 0) (A := 8) (B := 5) (by omega) (by omega) (by omega) (by omega) (by omega) (by omega)
                                have w125 := zu_w32_id (z := (m112 a0 17) * (m112 a0 11)) (by omega) (by omega)
                                have w126 := zu_w32_id (z := (zu_w32 ((m112 a0 17) * (m112 a0 11))) + (m75 a0 11)) (by omega) (by omega)
                                generalize hmm127 : zu_up m112 a0 11 (zu_w32 ((zu_w32 ((m112 a0 17) * (m112 a0 11))) + (m75 a0 11))) = m127
                                have hIm127 := zi_up hmm127 hIm112 hc0 zb_28_11 (by omega) (by omega)
                                have hFm127 := zfr_up hmm127 hFm112 hc0 rfl
                                have hRCRm127 := zR_CR_fr (zdis_fr (zfr_up hmm127 (zfr_rf [(28, 12)] _) hc0 rfl) rfl) hRCRm112
                                have hRLRm127 := zR_LR_fr (zdis_fr (zfr_up hmm127 (zfr_rf [(28, 12)] _) hc0 rfl) rfl) hRLRm112
                                have hRNSm127 := zR_NS_fr (zdis_fr (zfr_up hmm127 (zfr_rf [(28, 12)] _) hc0 rfl) rfl) hRNSm112
                                have hRTRm127 := zR_TR_fr (zdis_fr (zfr_up hmm127 (zfr_rf [(28, 12)] _) hc0 rfl) rfl) hRTRm112
                                have hRWDm127 := zR_WD_fr (zdis_fr (zfr_up hmm127 (zfr_rf [(28, 12)] _) hc0 rfl) rfl) hRWDm112
                                refine zw_b (by omega) ?_
                                refine zw_some ?_
                                refine zw_ite (fun h128 => ?_) (fun h128 => ?_)
                                · have r129 : (-2147483648) ≤ (m127 a0 11) ∧ (m127 a0 11) ≤ 2147483647 := zi_rd hIm127 hc0 zb_28_11
                                  have e130 : (m127 a0 11) = (zu_w32 ((zu_w32 ((m112 a0 17) * (m112 a0 11))) + (m75 a0 11))) := (zs_eq hmm127)
                                  have b131 : 0 ≤ (zu_w32 (18 + (m6 a0 19))) ∧ (zu_w32 (18 + (m6 a0 19))) < 36 := by omega
                                  refine zw_if b131 ?_
                                  generalize hmm132 : zu_up m127 197 (zu_w32 (18 + (m6 a0 19))) (m127 a0 11) = m132
                                  have hIm132 := zi_up hmm132 hIm127 zq_197 (zb_106 _) (by omega) (by omega)
                                  have hFm132 := zfr_up hmm132 hFm127 zq_197 rfl
                                  have hRCRm132 := zR_CR_fr (zdis_fr (zfr_up hmm132 (zfr_rf [(106, 0)] _) zq_197 rfl) rfl) hRCRm127
                                  have hRLRm132 := zR_LR_fr (zdis_fr (zfr_up hmm132 (zfr_rf [(106, 0)] _) zq_197 rfl) rfl) hRLRm127
                                  have hRNSm132 := zR_NS_fr (zdis_fr (zfr_up hmm132 (zfr_rf [(106, 0)] _) zq_197 rfl) rfl) hRNSm127
                                  have hRTRm132 := zR_TR_fr (zdis_fr (zfr_up hmm132 (zfr_rf [(106, 0)] _) zq_197 rfl) rfl) hRTRm127
                                  have hRWDm132 := zR_WD_fr (zdis_fr (zfr_up hmm132 (zfr_rf [(106, 0)] _) zq_197 rfl) rfl) hRWDm127
                                  refine zw_bd (zw_eq (zu_call_at (zt_T n) (zm_94 n) (zdp_94 n) _ _ _ _ _ rfl (zr_94_0 n _ _ a0 0 9 m132)) ?_)
                                  have r133 : 0 ≤ (m132 a0 8) ∧ (m132 a0 8) ≤ 6 := zi_rd hIm132 hc0 zb_28_8
                                  have e134 : (m132 a0 8) = (m112 a0 8) := (Eq.trans (zs_ne hmm132 (Or.inl (zc_ne hc0 zq_197 (by decide)))) (zs_ne hmm127 (Or.inr (by decide))))
                                  refine zw_ite (fun h135 => ?_) (fun h135 => ?_)
                                  · have s136 := (hRTRm112 a0 hc0).2.2 (by omega)
                                    have r137 : (-2147483648) ≤ (m132 a0 9) ∧ (m132 a0 9) ≤ 2147483647 := zi_rd hIm132 hc0 zb_28_9
                                    have e138 : (m132 a0 9) = (m112 a0 9) := (Eq.trans (zs_ne hmm132 (Or.inl (zc_ne hc0 zq_197 (by decide)))) (zs_ne hmm127 (Or.inr (by decide))))
                                    refine zw_bd (zw_eq (zu_call_at (zt_T n) (zm_83 n) (zdp_83 n) _ _ _ _ _ rfl (zr_83_0 n _ _ (m132 a0 9) 0 9 m132)) ?_)
                                    refine zw_ite (fun h139 => ?_) (fun h139 => ?_)
                                    · exfalso; omega
                                    · refine zw_ite (fun h140 => ?_) (fun h140 => ?_)
                                      · refine zw_b (by omega) ?_
                                        refine zw_some ?_
                                        refine zw_ite (fun h141 => ?_) (fun h141 => ?_)
                                        · exfalso; omega
                                        · refine zw_bd (zw_eq (zu_call_at (zt_T n) (zm_85 n) (zdp_85 n) _ _ _ _ _ rfl (zr_85_0 n _ _ a0 2 m132)) ?_)
                                          generalize hmm142 : zu_up m132 a0 4 2 = m142
                                          have hIm142 := zi_up hmm142 hIm132 hc0 zb_28_4 (by omega) (by omega)
                                          have hFm142 := zfr_up hmm142 hFm132 hc0 rfl
                                          have hRCRm142 := zR_CR_fr (zdis_fr (zfr_up hmm142 (zfr_rf [(28, 5)] _) hc0 rfl) rfl) hRCRm132
                                          have hRNSm142 := zR_NS_fr (zdis_fr (zfr_up hmm142 (zfr_rf [(28, 5)] _) hc0 rfl) rfl) hRNSm132
                                          have hRTRm142 := zR_TR_fr (zdis_fr (zfr_up hmm142 (zfr_rf [(28, 5)] _) hc0 rfl) rfl) hRTRm132
                                          have hRWDm142 := zR_WD_fr (zdis_fr (zfr_up hmm142 (zfr_rf [(28, 5)] _) hc0 rfl) rfl) hRWDm132
                                          have hRLRm142 := zLR_wr (zone_190 hc0) hmm142 (by decide)
                                          have r143 : 0 ≤ (m142 a0 10) ∧ (m142 a0 10) ≤ 700 := zi_rd hIm142 hc0 zb_28_10
                                          generalize hmm144 : zu_up m142 a0 5 (m142 a0 10) = m144
                                          have hIm144 := zi_up hmm144 hIm142 hc0 zb_28_5 (by omega) (by omega)
                                          have hFm144 := zfr_up hmm144 hFm142 hc0 rfl
                                          have hRCRm144 := zR_CR_fr (zdis_fr (zfr_up hmm144 (zfr_rf [(28, 6)] _) hc0 rfl) rfl) hRCRm142
                                          have hRLRm144 := zR_LR_fr (zdis_fr (zfr_up hmm144 (zfr_rf [(28, 6)] _) hc0 rfl) rfl) hRLRm142
                                          have hRNSm144 := zR_NS_fr (zdis_fr (zfr_up hmm144 (zfr_rf [(28, 6)] _) hc0 rfl) rfl) hRNSm142
                                          have hRTRm144 := zR_TR_fr (zdis_fr (zfr_up hmm144 (zfr_rf [(28, 6)] _) hc0 rfl) rfl) hRTRm142
                                          have hRWDm144 := zR_WD_fr (zdis_fr (zfr_up hmm144 (zfr_rf [(28, 6)] _) hc0 rfl) rfl) hRWDm142
                                          refine zw_b (by omega) ?_
                                          refine zw_some ?_
                                          refine zw_b (by omega) ?_
                                          refine zw_some ?_
                                          refine zw_ite (fun h145 => ?_) (fun h145 => ?_)
                                          · exfalso; omega
                                          · refine zw_b (by omega) ?_
                                            have r146 : 0 ≤ (m144 a0 7) ∧ (m144 a0 7) ≤ 700 := zi_rd hIm144 hc0 zb_28_7
                                            have e147 : (m144 a0 7) = (m112 a0 7) := (Eq.trans (zs_ne hmm144 (Or.inr (by decide))) (Eq.trans (zs_ne hmm142 (Or.inr (by decide))) (Eq.trans (zs_ne hmm132 (Or.inl (zc_ne hc0 zq_197 (by decide)))) (zs_ne hmm127 (Or.inr (by decide))))))
                                            have r148 : 0 ≤ (m144 a0 8) ∧ (m144 a0 8) ≤ 6 := zi_rd hIm144 hc0 zb_28_8
                                            have e149 : (m144 a0 8) = (m132 a0 8) := (Eq.trans (zs_ne hmm144 (Or.inr (by decide))) (zs_ne hmm142 (Or.inr (by decide))))
                                            have r150 : (-2147483648) ≤ (m144 a0 4) ∧ (m144 a0 4) ≤ 2147483647 := zi_rd hIm144 hc0 zb_28_4
                                            have e151 : (m144 a0 4) = 2 := (Eq.trans (zs_ne hmm144 (Or.inr (by decide))) (zs_eq hmm142))
                                            exact zw_some ⟨hIm144, hFm144, hRCRm144, hRLRm144, hRNSm144, hRTRm144, hRWDm144, ⟨by decide, by decide⟩, by omega, fun h => absurd h (by decide), fun h => absurd h (by decide)⟩
                                      · refine zw_b (by omega) ?_
                                        refine zw_some ?_
                                        refine zw_ite (fun h152 => ?_) (fun h152 => ?_)
                                        · generalize hmm153 : zu_up m132 a0 11 (m132 a0 9) = m153
                                          have hIm153 := zi_up hmm153 hIm132 hc0 zb_28_11 (by omega) (by omega)
                                          have hFm153 := zfr_up hmm153 hFm132 hc0 rfl
                                          have hRCRm153 := zR_CR_fr (zdis_fr (zfr_up hmm153 (zfr_rf [(28, 12)] _) hc0 rfl) rfl) hRCRm132
                                          have hRLRm153 := zR_LR_fr (zdis_fr (zfr_up hmm153 (zfr_rf [(28, 12)] _) hc0 rfl) rfl) hRLRm132
                                          have hRNSm153 := zR_NS_fr (zdis_fr (zfr_up hmm153 (zfr_rf [(28, 12)] _) hc0 rfl) rfl) hRNSm132
                                          have hRTRm153 := zR_TR_fr (zdis_fr (zfr_up hmm153 (zfr_rf [(28, 12)] _) hc0 rfl) rfl) hRTRm132
                                          have hRWDm153 := zR_WD_fr (zdis_fr (zfr_up hmm153 (zfr_rf [(28, 12)] _) hc0 rfl) rfl) hRWDm132
                                          have r156 : 0 ≤ (m153 a0 7) ∧ (m153 a0 7) ≤ 700 := zi_rd hIm153 hc0 zb_28_7
                                          have e157 : (m153 a0 7) = (m112 a0 7) := (Eq.trans (zs_ne hmm153 (Or.inr (by decide))) (Eq.trans (zs_ne hmm132 (Or.inl (zc_ne hc0 zq_197 (by decide)))) (zs_ne hmm127 (Or.inr (by decide)))))
                                          refine zw_bd (zw_mono (zk_89 n hIm153 hc0 hRNSm153 hRWDm153) (fun v155 m154 hqm154 => ?_))
                                          obtain ⟨hIm154, hfm154, hvm154⟩ := hqm154
                                          have hFm154 := zfr_tr hFm153 hfm154 rfl
                                          obtain ⟨hRNSm154, hRTRm154, hRWDm154, hvm154⟩ := hvm154
                                          have hRCRm154 := zR_CR_fr (zdis_fr hfm154 rfl) hRCRm153
                                          have hRLRm154 := zR_LR_fr (zdis_fr hfm154 rfl) hRLRm153
                                          have s158 := hRNSm154 a0 hc0
                                          have r159 : 0 ≤ (m154 a0 7) ∧ (m154 a0 7) ≤ 700 := zi_rd hIm154 hc0 zb_28_7
                                          have r160 : 0 ≤ (m154 a0 8) ∧ (m154 a0 8) ≤ 6 := zi_rd hIm154 hc0 zb_28_8
                                          refine zw_b (by omega) ?_
                                          refine zw_some ?_
                                          refine zw_ite (fun h161 => ?_) (fun h161 => ?_)
                                          · have r162 : (-2147483648) ≤ (m154 a0 11) ∧ (m154 a0 11) ≤ 2147483647 := zi_rd hIm154 hc0 zb_28_11
                                            have e163 : (m154 a0 11) = (m132 a0 9) := (Eq.trans (zfr_ap hfm154 hc0 rfl) (zs_eq hmm153))
                                            have b164 : 0 ≤ (zu_w32 (18 + (m6 a0 19))) ∧ (zu_w32 (18 + (m6 a0 19))) < 36 := by omega
                                            refine zw_if b164 ?_
                                            generalize hmm165 : zu_up m154 199 (zu_w32 (18 + (m6 a0 19))) (m154 a0 11) = m165
                                            have hIm165 := zi_up hmm165 hIm154 zq_199 (zb_108 _) (by omega) (by omega)
                                            have hFm165 := zfr_up hmm165 hFm154 zq_199 rfl
                                            have hRCRm165 := zR_CR_fr (zdis_fr (zfr_up hmm165 (zfr_rf [(108, 0)] _) zq_199 rfl) rfl) hRCRm154
                                            have hRLRm165 := zR_LR_fr (zdis_fr (zfr_up hmm165 (zfr_rf [(108, 0)] _) zq_199 rfl) rfl) hRLRm154
                                            have hRNSm165 := zR_NS_fr (zdis_fr (zfr_up hmm165 (zfr_rf [(108, 0)] _) zq_199 rfl) rfl) hRNSm154
                                            have hRTRm165 := zR_TR_fr (zdis_fr (zfr_up hmm165 (zfr_rf [(108, 0)] _) zq_199 rfl) rfl) hRTRm154
                                            have hRWDm165 := zR_WD_fr (zdis_fr (zfr_up hmm165 (zfr_rf [(108, 0)] _) zq_199 rfl) rfl) hRWDm154
                                            have r166 : 0 ≤ (m165 a0 19) ∧ (m165 a0 19) ≤ 12 := zi_rd hIm165 hc0 zb_28_19
                                            have e167 : (m165 a0 19) = (m6 a0 19) := (Eq.trans (zs_ne hmm165 (Or.inl (zc_ne hc0 zq_199 (by decide)))) (Eq.trans (zfr_ap hfm154 hc0 rfl) (Eq.trans (zs_ne hmm153 (Or.inr (by decide))) (Eq.trans (zs_ne hmm132 (Or.inl (zc_ne hc0 zq_197 (by decide)))) (Eq.trans (zs_ne hmm127 (Or.inr (by decide))) (Eq.trans (zfr_ap hfm112 hc0 rfl) (Eq.trans (zs_ne hmm111 (Or.inr (by decide))) (Eq.trans (zs_ne hmm86 (Or.inr (by decide))) (Eq.trans (zfr_ap hfm75 hc0 rfl) (Eq.trans (zs_ne hmm74 (Or.inr (by decide))) (Eq.trans (zs_ne hmm50 (Or.inr (by decide))) (Eq.trans (zs_ne hmm49 (Or.inl (zc_ne hc0 zq_198 (by decide)))) (Eq.trans (zs_ne hmm44 (Or.inr (by decide))) (zfr_ap hfm39 hc0 rfl))))))))))))))
                                            have w168 := zu_w32_id (z := (m165 a0 19) + 1) (by omega) (by omega)
                                            generalize hmm169 : zu_up m165 a0 19 (zu_w32 ((m165 a0 19) + 1)) = m169
                                            have hIm169 := zi_up hmm169 hIm165 hc0 zb_28_19 (by omega) (by omega)
                                            have hFm169 := zfr_up hmm169 hFm165 hc0 rfl
                                            have hRCRm169 := zR_CR_fr (zdis_fr (zfr_up hmm169 (zfr_rf [(28, 20)] _) hc0 rfl) rfl) hRCRm165
                                            have hRLRm169 := zR_LR_fr (zdis_fr (zfr_up hmm169 (zfr_rf [(28, 20)] _) hc0 rfl) rfl) hRLRm165
                                            have hRNSm169 := zR_NS_fr (zdis_fr (zfr_up hmm169 (zfr_rf [(28, 20)] _) hc0 rfl) rfl) hRNSm165
                                            have hRTRm169 := zR_TR_fr (zdis_fr (zfr_up hmm169 (zfr_rf [(28, 20)] _) hc0 rfl) rfl) hRTRm165
                                            have hRWDm169 := zR_WD_fr (zdis_fr (zfr_up hmm169 (zfr_rf [(28, 20)] _) hc0 rfl) rfl) hRWDm165
                                            refine zw_b (by omega) ?_
                                            have r170 : 0 ≤ (m169 a0 7) ∧ (m169 a0 7) ≤ 700 := zi_rd hIm169 hc0 zb_28_7
                                            have e171 : (m169 a0 7) = (m154 a0 7) := (Eq.trans (zs_ne hmm169 (Or.inr (by decide))) (zs_ne hmm165 (Or.inl (zc_ne hc0 zq_199 (by decide)))))
                                            have r172 : 0 ≤ (m169 a0 8) ∧ (m169 a0 8) ≤ 6 := zi_rd hIm169 hc0 zb_28_8
                                            have e173 : (m169 a0 8) = (m154 a0 8) := (Eq.trans (zs_ne hmm169 (Or.inr (by decide))) (zs_ne hmm165 (Or.inl (zc_ne hc0 zq_199 (by decide)))))
                                            have r174 : (-2147483648) ≤ (m169 a0 4) ∧ (m169 a0 4) ≤ 2147483647 := zi_rd hIm169 hc0 zb_28_4
                                            have e175 : (m169 a0 4) = (m0 a0 4) := (Eq.trans (zs_ne hmm169 (Or.inr (by decide))) (Eq.trans (zs_ne hmm165 (Or.inl (zc_ne hc0 zq_199 (by decide)))) (Eq.trans (zfr_ap hfm154 hc0 rfl) (Eq.trans (zs_ne hmm153 (Or.inr (by decide))) (Eq.trans (zs_ne hmm132 (Or.inl (zc_ne hc0 zq_197 (by decide)))) (Eq.trans (zs_ne hmm127 (Or.inr (by decide))) (Eq.trans (zfr_ap hfm112 hc0 rfl) (Eq.trans (zs_ne hmm111 (Or.inr (by decide))) (Eq.trans (zs_ne hmm86 (Or.inr (by decide))) (Eq.trans (zfr_ap hfm75 hc0 rfl) (Eq.trans (zs_ne hmm74 (Or.inr (by decide))) (Eq.trans (zs_ne hmm50 (Or.inr (by decide))) (Eq.trans (zs_ne hmm49 (Or.inl (zc_ne hc0 zq_198 (by decide)))) (Eq.trans (zs_ne hmm44 (Or.inr (by decide))) (Eq.trans (zfr_ap hfm39 hc0 rfl) (zfr_ap hfm6 hc0 rfl))))))))))))))))
                                            exact zw_some ⟨hIm169, hFm169, hRCRm169, hRLRm169, hRNSm169, hRTRm169, hRWDm169, ⟨by decide, by decide⟩, by omega, fun _ => by omega, fun _ => by omega⟩
                                          · exfalso; omega
                                        · exfalso; omega
                                  · refine zw_bd (zw_eq (zu_call_at (zt_T n) (zm_85 n) (zdp_85 n) _ _ _ _ _ rfl (zr_85_0 n _ _ a0 1 m132)) ?_)
                                    generalize hmm176 : zu_up m132 a0 4 1 = m176
                                    have hIm176 := zi_up hmm176 hIm132 hc0 zb_28_4 (by omega) (by omega)
                                    have hFm176 := zfr_up hmm176 hFm132 hc0 rfl
                                    have hRCRm176 := zR_CR_fr (zdis_fr (zfr_up hmm176 (zfr_rf [(28, 5)] _) hc0 rfl) rfl) hRCRm132
                                    have hRNSm176 := zR_NS_fr (zdis_fr (zfr_up hmm176 (zfr_rf [(28, 5)] _) hc0 rfl) rfl) hRNSm132
                                    have hRTRm176 := zR_TR_fr (zdis_fr (zfr_up hmm176 (zfr_rf [(28, 5)] _) hc0 rfl) rfl) hRTRm132
                                    have hRWDm176 := zR_WD_fr (zdis_fr (zfr_up hmm176 (zfr_rf [(28, 5)] _) hc0 rfl) rfl) hRWDm132
                                    have hRLRm176 := zLR_wr (zone_190 hc0) hmm176 (by decide)
                                    have r177 : 0 ≤ (m176 a0 10) ∧ (m176 a0 10) ≤ 700 := zi_rd hIm176 hc0 zb_28_10
                                    generalize hmm178 : zu_up m176 a0 5 (m176 a0 10) = m178
                                    have hIm178 := zi_up hmm178 hIm176 hc0 zb_28_5 (by omega) (by omega)
                                    have hFm178 := zfr_up hmm178 hFm176 hc0 rfl
                                    have hRCRm178 := zR_CR_fr (zdis_fr (zfr_up hmm178 (zfr_rf [(28, 6)] _) hc0 rfl) rfl) hRCRm176
                                    have hRLRm178 := zR_LR_fr (zdis_fr (zfr_up hmm178 (zfr_rf [(28, 6)] _) hc0 rfl) rfl) hRLRm176
                                    have hRNSm178 := zR_NS_fr (zdis_fr (zfr_up hmm178 (zfr_rf [(28, 6)] _) hc0 rfl) rfl) hRNSm176
                                    have hRTRm178 := zR_TR_fr (zdis_fr (zfr_up hmm178 (zfr_rf [(28, 6)] _) hc0 rfl) rfl) hRTRm176
                                    have hRWDm178 := zR_WD_fr (zdis_fr (zfr_up hmm178 (zfr_rf [(28, 6)] _) hc0 rfl) rfl) hRWDm176
                                    refine zw_b (by omega) ?_
                                    refine zw_some ?_
                                    refine zw_b (by omega) ?_
                                    refine zw_some ?_
                                    refine zw_ite (fun h179 => ?_) (fun h179 => ?_)
                                    · exfalso; omega
                                    · refine zw_b (by omega) ?_
                                      have r180 : 0 ≤ (m178 a0 7) ∧ (m178 a0 7) ≤ 700 := zi_rd hIm178 hc0 zb_28_7
                                      have e181 : (m178 a0 7) = (m112 a0 7) := (Eq.trans (zs_ne hmm178 (Or.inr (by decide))) (Eq.trans (zs_ne hmm176 (Or.inr (by decide))) (Eq.trans (zs_ne hmm132 (Or.inl (zc_ne hc0 zq_197 (by decide)))) (zs_ne hmm127 (Or.inr (by decide))))))
                                      have r182 : 0 ≤ (m178 a0 8) ∧ (m178 a0 8) ≤ 6 := zi_rd hIm178 hc0 zb_28_8
                                      have e183 : (m178 a0 8) = (m132 a0 8) := (Eq.trans (zs_ne hmm178 (Or.inr (by decide))) (zs_ne hmm176 (Or.inr (by decide))))
                                      have r184 : (-2147483648) ≤ (m178 a0 4) ∧ (m178 a0 4) ≤ 2147483647 := zi_rd hIm178 hc0 zb_28_4
                                      have e185 : (m178 a0 4) = 1 := (Eq.trans (zs_ne hmm178 (Or.inr (by decide))) (zs_eq hmm176))
                                      exact zw_some ⟨hIm178, hFm178, hRCRm178, hRLRm178, hRNSm178, hRTRm178, hRWDm178, ⟨by decide, by decide⟩, by omega, fun h => absurd h (by decide), fun h => absurd h (by decide)⟩
                                · exfalso; omega
                              · exfalso; omega
                            · exfalso; omega
                      · refine zw_bd (zw_eq (zu_call_at (zt_T n) (zm_85 n) (zdp_85 n) _ _ _ _ _ rfl (zr_85_0 n _ _ a0 1 m86)) ?_)
                        generalize hmm186 : zu_up m86 a0 4 1 = m186
                        have hIm186 := zi_up hmm186 hIm86 hc0 zb_28_4 (by omega) (by omega)
                        have hFm186 := zfr_up hmm186 hFm86 hc0 rfl
                        have hRCRm186 := zR_CR_fr (zdis_fr (zfr_up hmm186 (zfr_rf [(28, 5)] _) hc0 rfl) rfl) hRCRm86
                        have hRNSm186 := zR_NS_fr (zdis_fr (zfr_up hmm186 (zfr_rf [(28, 5)] _) hc0 rfl) rfl) hRNSm86
                        have hRTRm186 := zR_TR_fr (zdis_fr (zfr_up hmm186 (zfr_rf [(28, 5)] _) hc0 rfl) rfl) hRTRm86
                        have hRWDm186 := zR_WD_fr (zdis_fr (zfr_up hmm186 (zfr_rf [(28, 5)] _) hc0 rfl) rfl) hRWDm86
                        have hRLRm186 := zLR_wr (zone_190 hc0) hmm186 (by decide)
                        have r187 : 0 ≤ (m186 a0 10) ∧ (m186 a0 10) ≤ 700 := zi_rd hIm186 hc0 zb_28_10
                        have e188 : (m186 a0 10) = (m75 a0 10) := (Eq.trans (zs_ne hmm186 (Or.inr (by decide))) (zs_ne hmm86 (Or.inr (by decide))))
                        generalize hmm189 : zu_up m186 a0 5 (m186 a0 10) = m189
                        have hIm189 := zi_up hmm189 hIm186 hc0 zb_28_5 (by omega) (by omega)
                        have hFm189 := zfr_up hmm189 hFm186 hc0 rfl
                        have hRCRm189 := zR_CR_fr (zdis_fr (zfr_up hmm189 (zfr_rf [(28, 6)] _) hc0 rfl) rfl) hRCRm186
                        have hRLRm189 := zR_LR_fr (zdis_fr (zfr_up hmm189 (zfr_rf [(28, 6)] _) hc0 rfl) rfl) hRLRm186
                        have hRNSm189 := zR_NS_fr (zdis_fr (zfr_up hmm189 (zfr_rf [(28, 6)] _) hc0 rfl) rfl) hRNSm186
                        have hRTRm189 := zR_TR_fr (zdis_fr (zfr_up hmm189 (zfr_rf [(28, 6)] _) hc0 rfl) rfl) hRTRm186
                        have hRWDm189 := zR_WD_fr (zdis_fr (zfr_up hmm189 (zfr_rf [(28, 6)] _) hc0 rfl) rfl) hRWDm186
                        refine zw_b (by omega) ?_
                        refine zw_some ?_
                        refine zw_b (by omega) ?_
                        refine zw_some ?_
                        refine zw_ite (fun h190 => ?_) (fun h190 => ?_)
                        · exfalso; omega
                        · refine zw_b (by omega) ?_
                          refine zw_some ?_
                          refine zw_ite (fun h191 => ?_) (fun h191 => ?_)
                          · exfalso; omega
                          · refine zw_b (by omega) ?_
                            have r192 : 0 ≤ (m189 a0 7) ∧ (m189 a0 7) ≤ 700 := zi_rd hIm189 hc0 zb_28_7
                            have e193 : (m189 a0 7) = (m75 a0 7) := (Eq.trans (zs_ne hmm189 (Or.inr (by decide))) (Eq.trans (zs_ne hmm186 (Or.inr (by decide))) (zs_ne hmm86 (Or.inr (by decide)))))
                            have r194 : 0 ≤ (m189 a0 8) ∧ (m189 a0 8) ≤ 6 := zi_rd hIm189 hc0 zb_28_8
                            have e195 : (m189 a0 8) = (m86 a0 8) := (Eq.trans (zs_ne hmm189 (Or.inr (by decide))) (zs_ne hmm186 (Or.inr (by decide))))
                            have r196 : (-2147483648) ≤ (m189 a0 4) ∧ (m189 a0 4) ≤ 2147483647 := zi_rd hIm189 hc0 zb_28_4
                            have e197 : (m189 a0 4) = 1 := (Eq.trans (zs_ne hmm189 (Or.inr (by decide))) (zs_eq hmm186))
                            exact zw_some ⟨hIm189, hFm189, hRCRm189, hRLRm189, hRNSm189, hRTRm189, hRWDm189, ⟨by decide, by decide⟩, by omega, fun h => absurd h (by decide), fun h => absurd h (by decide)⟩
                    · exfalso; omega
                  · exfalso; omega
            · refine zw_bd (zw_eq (zu_call_at (zt_T n) (zm_85 n) (zdp_85 n) _ _ _ _ _ rfl (zr_85_0 n _ _ a0 1 m50)) ?_)
              generalize hmm198 : zu_up m50 a0 4 1 = m198
              have hIm198 := zi_up hmm198 hIm50 hc0 zb_28_4 (by omega) (by omega)
              have hFm198 := zfr_up hmm198 hFm50 hc0 rfl
              have hRCRm198 := zR_CR_fr (zdis_fr (zfr_up hmm198 (zfr_rf [(28, 5)] _) hc0 rfl) rfl) hRCRm50
              have hRNSm198 := zR_NS_fr (zdis_fr (zfr_up hmm198 (zfr_rf [(28, 5)] _) hc0 rfl) rfl) hRNSm50
              have hRTRm198 := zR_TR_fr (zdis_fr (zfr_up hmm198 (zfr_rf [(28, 5)] _) hc0 rfl) rfl) hRTRm50
              have hRWDm198 := zR_WD_fr (zdis_fr (zfr_up hmm198 (zfr_rf [(28, 5)] _) hc0 rfl) rfl) hRWDm50
              have hRLRm198 := zLR_wr (zone_190 hc0) hmm198 (by decide)
              have r199 : 0 ≤ (m198 a0 10) ∧ (m198 a0 10) ≤ 700 := zi_rd hIm198 hc0 zb_28_10
              generalize hmm200 : zu_up m198 a0 5 (m198 a0 10) = m200
              have hIm200 := zi_up hmm200 hIm198 hc0 zb_28_5 (by omega) (by omega)
              have hFm200 := zfr_up hmm200 hFm198 hc0 rfl
              have hRCRm200 := zR_CR_fr (zdis_fr (zfr_up hmm200 (zfr_rf [(28, 6)] _) hc0 rfl) rfl) hRCRm198
              have hRLRm200 := zR_LR_fr (zdis_fr (zfr_up hmm200 (zfr_rf [(28, 6)] _) hc0 rfl) rfl) hRLRm198
              have hRNSm200 := zR_NS_fr (zdis_fr (zfr_up hmm200 (zfr_rf [(28, 6)] _) hc0 rfl) rfl) hRNSm198
              have hRTRm200 := zR_TR_fr (zdis_fr (zfr_up hmm200 (zfr_rf [(28, 6)] _) hc0 rfl) rfl) hRTRm198
              have hRWDm200 := zR_WD_fr (zdis_fr (zfr_up hmm200 (zfr_rf [(28, 6)] _) hc0 rfl) rfl) hRWDm198
              refine zw_b (by omega) ?_
              refine zw_some ?_
              refine zw_b (by omega) ?_
              refine zw_some ?_
              refine zw_ite (fun h201 => ?_) (fun h201 => ?_)
              · exfalso; omega
              · refine zw_b (by omega) ?_
                refine zw_some ?_
                refine zw_ite (fun h202 => ?_) (fun h202 => ?_)
                · exfalso; omega
                · refine zw_b (by omega) ?_
                  have r203 : 0 ≤ (m200 a0 7) ∧ (m200 a0 7) ≤ 700 := zi_rd hIm200 hc0 zb_28_7
                  have e204 : (m200 a0 7) = (m39 a0 7) := (Eq.trans (zs_ne hmm200 (Or.inr (by decide))) (Eq.trans (zs_ne hmm198 (Or.inr (by decide))) (Eq.trans (zs_ne hmm50 (Or.inr (by decide))) (Eq.trans (zs_ne hmm49 (Or.inl (zc_ne hc0 zq_198 (by decide)))) (zs_ne hmm44 (Or.inr (by decide)))))))
                  have r205 : 0 ≤ (m200 a0 8) ∧ (m200 a0 8) ≤ 6 := zi_rd hIm200 hc0 zb_28_8
                  have e206 : (m200 a0 8) = (m50 a0 8) := (Eq.trans (zs_ne hmm200 (Or.inr (by decide))) (zs_ne hmm198 (Or.inr (by decide))))
                  have r207 : (-2147483648) ≤ (m200 a0 4) ∧ (m200 a0 4) ≤ 2147483647 := zi_rd hIm200 hc0 zb_28_4
                  have e208 : (m200 a0 4) = 1 := (Eq.trans (zs_ne hmm200 (Or.inr (by decide))) (zs_eq hmm198))
                  exact zw_some ⟨hIm200, hFm200, hRCRm200, hRLRm200, hRNSm200, hRTRm200, hRWDm200, ⟨by decide, by decide⟩, by omega, fun h => absurd h (by decide), fun h => absurd h (by decide)⟩
          · exfalso; omega
        · refine zw_bd (zw_eq (zu_call_at (zt_T n) (zm_85 n) (zdp_85 n) _ _ _ _ _ rfl (zr_85_0 n _ _ a0 1 m6)) ?_)
          generalize hmm209 : zu_up m6 a0 4 1 = m209
          have hIm209 := zi_up hmm209 hIm6 hc0 zb_28_4 (by omega) (by omega)
          have hFm209 := zfr_up hmm209 hFm6 hc0 rfl
          have hRCRm209 := zR_CR_fr (zdis_fr (zfr_up hmm209 (zfr_rf [(28, 5)] _) hc0 rfl) rfl) hRCRm6
          have hRNSm209 := zR_NS_fr (zdis_fr (zfr_up hmm209 (zfr_rf [(28, 5)] _) hc0 rfl) rfl) hRNSm6
          have hRTRm209 := zR_TR_fr (zdis_fr (zfr_up hmm209 (zfr_rf [(28, 5)] _) hc0 rfl) rfl) hRTRm6
          have hRWDm209 := zR_WD_fr (zdis_fr (zfr_up hmm209 (zfr_rf [(28, 5)] _) hc0 rfl) rfl) hRWDm6
          have hRLRm209 := zLR_wr (zone_190 hc0) hmm209 (by decide)
          have r210 : 0 ≤ (m209 a0 10) ∧ (m209 a0 10) ≤ 700 := zi_rd hIm209 hc0 zb_28_10
          generalize hmm211 : zu_up m209 a0 5 (m209 a0 10) = m211
          have hIm211 := zi_up hmm211 hIm209 hc0 zb_28_5 (by omega) (by omega)
          have hFm211 := zfr_up hmm211 hFm209 hc0 rfl
          have hRCRm211 := zR_CR_fr (zdis_fr (zfr_up hmm211 (zfr_rf [(28, 6)] _) hc0 rfl) rfl) hRCRm209
          have hRLRm211 := zR_LR_fr (zdis_fr (zfr_up hmm211 (zfr_rf [(28, 6)] _) hc0 rfl) rfl) hRLRm209
          have hRNSm211 := zR_NS_fr (zdis_fr (zfr_up hmm211 (zfr_rf [(28, 6)] _) hc0 rfl) rfl) hRNSm209
          have hRTRm211 := zR_TR_fr (zdis_fr (zfr_up hmm211 (zfr_rf [(28, 6)] _) hc0 rfl) rfl) hRTRm209
          have hRWDm211 := zR_WD_fr (zdis_fr (zfr_up hmm211 (zfr_rf [(28, 6)] _) hc0 rfl) rfl) hRWDm209
          refine zw_b (by omega) ?_
          refine zw_some ?_
          refine zw_b (by omega) ?_
          refine zw_some ?_
          refine zw_ite (fun h212 => ?_) (fun h212 => ?_)
          · exfalso; omega
          · refine zw_b (by omega) ?_
            have r213 : 0 ≤ (m211 a0 7) ∧ (m211 a0 7) ≤ 700 := zi_rd hIm211 hc0 zb_28_7
            have e214 : (m211 a0 7) = (m6 a0 7) := (Eq.trans (zs_ne hmm211 (Or.inr (by decide))) (zs_ne hmm209 (Or.inr (by decide))))
            have r215 : 0 ≤ (m211 a0 8) ∧ (m211 a0 8) ≤ 6 := zi_rd hIm211 hc0 zb_28_8
            have e216 : (m211 a0 8) = (m6 a0 8) := (Eq.trans (zs_ne hmm211 (Or.inr (by decide))) (zs_ne hmm209 (Or.inr (by decide))))
            have r217 : (-2147483648) ≤ (m211 a0 4) ∧ (m211 a0 4) ≤ 2147483647 := zi_rd hIm211 hc0 zb_28_4
            have e218 : (m211 a0 4) = 1 := (Eq.trans (zs_ne hmm211 (Or.inr (by decide))) (zs_eq hmm209))
            exact zw_some ⟨hIm211, hFm211, hRCRm211, hRLRm211, hRNSm211, hRTRm211, hRWDm211, ⟨by decide, by decide⟩, by omega, fun h => absurd h (by decide), fun h => absurd h (by decide)⟩
  · refine zw_bd (zw_eq (zu_call_at (zt_T n) (zm_85 n) (zdp_85 n) _ _ _ _ _ rfl (zr_85_0 n _ _ a0 2 m0)) ?_)
    generalize hmm219 : zu_up m0 a0 4 2 = m219
    have hIm219 := zi_up hmm219 hIm0 hc0 zb_28_4 (by omega) (by omega)
    have hFm219 := zfr_up hmm219 hFm0 hc0 rfl
    have hRCRm219 := zR_CR_fr (zdis_fr (zfr_up hmm219 (zfr_rf [(28, 5)] _) hc0 rfl) rfl) hRCRm0
    have hRNSm219 := zR_NS_fr (zdis_fr (zfr_up hmm219 (zfr_rf [(28, 5)] _) hc0 rfl) rfl) hRNSm0
    have hRTRm219 := zR_TR_fr (zdis_fr (zfr_up hmm219 (zfr_rf [(28, 5)] _) hc0 rfl) rfl) hRTRm0
    have hRWDm219 := zR_WD_fr (zdis_fr (zfr_up hmm219 (zfr_rf [(28, 5)] _) hc0 rfl) rfl) hRWDm0
    have hRLRm219 := zLR_wr (zone_190 hc0) hmm219 (by decide)
    have r220 : 0 ≤ (m219 a0 10) ∧ (m219 a0 10) ≤ 700 := zi_rd hIm219 hc0 zb_28_10
    generalize hmm221 : zu_up m219 a0 5 (m219 a0 10) = m221
    have hIm221 := zi_up hmm221 hIm219 hc0 zb_28_5 (by omega) (by omega)
    have hFm221 := zfr_up hmm221 hFm219 hc0 rfl
    have hRCRm221 := zR_CR_fr (zdis_fr (zfr_up hmm221 (zfr_rf [(28, 6)] _) hc0 rfl) rfl) hRCRm219
    have hRLRm221 := zR_LR_fr (zdis_fr (zfr_up hmm221 (zfr_rf [(28, 6)] _) hc0 rfl) rfl) hRLRm219
    have hRNSm221 := zR_NS_fr (zdis_fr (zfr_up hmm221 (zfr_rf [(28, 6)] _) hc0 rfl) rfl) hRNSm219
    have hRTRm221 := zR_TR_fr (zdis_fr (zfr_up hmm221 (zfr_rf [(28, 6)] _) hc0 rfl) rfl) hRTRm219
    have hRWDm221 := zR_WD_fr (zdis_fr (zfr_up hmm221 (zfr_rf [(28, 6)] _) hc0 rfl) rfl) hRWDm219
    refine zw_b (by omega) ?_
    refine zw_some ?_
    refine zw_b (by omega) ?_
    have r222 : 0 ≤ (m221 a0 7) ∧ (m221 a0 7) ≤ 700 := zi_rd hIm221 hc0 zb_28_7
    have e223 : (m221 a0 7) = (m0 a0 7) := (Eq.trans (zs_ne hmm221 (Or.inr (by decide))) (zs_ne hmm219 (Or.inr (by decide))))
    have r224 : 0 ≤ (m221 a0 8) ∧ (m221 a0 8) ≤ 6 := zi_rd hIm221 hc0 zb_28_8
    have e225 : (m221 a0 8) = (m0 a0 8) := (Eq.trans (zs_ne hmm221 (Or.inr (by decide))) (zs_ne hmm219 (Or.inr (by decide))))
    have r226 : (-2147483648) ≤ (m221 a0 4) ∧ (m221 a0 4) ≤ 2147483647 := zi_rd hIm221 hc0 zb_28_4
    have e227 : (m221 a0 4) = 2 := (Eq.trans (zs_ne hmm221 (Or.inr (by decide))) (zs_eq hmm219))
    exact zw_some ⟨hIm221, hFm221, hRCRm221, hRLRm221, hRNSm221, hRTRm221, hRWDm221, ⟨by decide, by decide⟩, by omega, fun h => absurd h (by decide), fun h => absurd h (by decide)⟩

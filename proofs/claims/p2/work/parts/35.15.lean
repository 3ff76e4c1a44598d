set_option maxHeartbeats 4000000 in
theorem zk_100 (n : Nat) {a0 a1 : Int} {m0 : zu_m} (hIm0 : zi_I m0) (hc0 : zcls a0 = 28) (ha1 : 1 ≤ a1 ∧ a1 ≤ 3)  (he0 : 1 ≤ m0 a0 8 ∧ m0 a0 8 ≤ 1) (he1 : 1 ≤ m0 a0 9 ∧ m0 a0 9 ≤ 3)  (hRCRm0 : zR_CR m0) (hRLRm0 : zR_LR m0) (hRNSm0 : zR_NS m0) (hRTRm0 : zR_TR m0) (hRWDm0 : zR_WD m0) : zw (zu_call (zt_T n) 100 [(40, a0), (0, a1)] m0) (fun v m => zi_I m ∧ zfr [(28, 5), (28, 6), (28, 8), (28, 9), (28, 10), (28, 11), (28, 12), (28, 23), (28, 24), (28, 43), (104, 0), (105, 0)] m0 m ∧ zR_CR m ∧ zR_LR m ∧ zR_NS m ∧ zR_TR m ∧ zR_WD m ∧ (0 ≤ v ∧ v ≤ 1) ∧ ((m0 a0 7) ≤ (m a0 7)) ∧ (v = 1 → ((m a0 8) = 0 ∨ (m0 a0 7) < (m a0 7))) ∧ (v = 1 → (m a0 4) = (m0 a0 4))) := by
  have hFm0 : zfr [(28, 5), (28, 6), (28, 8), (28, 9), (28, 10), (28, 11), (28, 12), (28, 23), (28, 24), (28, 43), (104, 0), (105, 0)] m0 m0 := zfr_rf _ _
  have s1 := hRNSm0 a0 hc0
  have s2 := hRTRm0 a0 hc0
  refine zw_eq (zu_call_at (zt_T n) (zm_100 n) (zdp_100 n) _ _ _ _ _ rfl (zr_100_0 n _ _ a0 a1 m0)) ?_
  have r3 : 0 ≤ (m0 a0 22) ∧ (m0 a0 22) ≤ 16 := zi_rd hIm0 hc0 zb_28_22
  refine zw_ite (fun h4 => ?_) (fun h4 => ?_)
  · refine zw_bd (zw_mono (zk_89 n hIm0 hc0 hRNSm0 hRWDm0) (fun v6 m5 hqm5 => ?_))
    obtain ⟨hIm5, hfm5, hvm5⟩ := hqm5
    have hFm5 := zfr_tr hFm0 hfm5 rfl
    obtain ⟨hRNSm5, hRTRm5, hRWDm5, hvm5⟩ := hvm5
    have hRCRm5 := zR_CR_fr (zdis_fr hfm5 rfl) hRCRm0
    have hRLRm5 := zR_LR_fr (zdis_fr hfm5 rfl) hRLRm0
    have s7 := hRNSm5 a0 hc0
    have s8 := hRTRm5 a0 hc0
    refine zw_bd (zw_eq (zu_call_at (zt_T n) (zm_96 n) (zdp_96 n) _ _ _ _ _ rfl (zr_96_0 n _ _ a0 m5)) ?_)
    refine zw_b (by omega) ?_
    generalize hmm9 : zu_up m5 a0 23 1 = m9
    have hIm9 := zi_up hmm9 hIm5 hc0 zb_28_23 (by omega) (by omega)
    have hFm9 := zfr_up hmm9 hFm5 hc0 rfl
    have hRLRm9 := zR_LR_fr (zdis_fr (zfr_up hmm9 (zfr_rf [(28, 24)] _) hc0 rfl) rfl) hRLRm5
    have hRNSm9 := zR_NS_fr (zdis_fr (zfr_up hmm9 (zfr_rf [(28, 24)] _) hc0 rfl) rfl) hRNSm5
    have hRTRm9 := zR_TR_fr (zdis_fr (zfr_up hmm9 (zfr_rf [(28, 24)] _) hc0 rfl) rfl) hRTRm5
    have hRWDm9 := zR_WD_fr (zdis_fr (zfr_up hmm9 (zfr_rf [(28, 24)] _) hc0 rfl) rfl) hRWDm5
    have hRCRm9 := zCR_cells (zone_190 hc0) hmm9 rfl hRCRm5
    have r10 : 1 ≤ (m9 a0 17) ∧ (m9 a0 17) ≤ 8 := zi_rd hIm9 hc0 zb_28_17
    have w11 := zu_w32_id (z := (m9 a0 17) - 1) (by omega) (by omega)
    refine zw_bd (zw_eq (zu_call_at (zt_T n) (zm_94 n) (zdp_94 n) _ _ _ _ _ rfl (zr_94_0 n _ _ a0 0 (zu_w32 ((m9 a0 17) - 1)) m9)) ?_)
    have r12 : 0 ≤ (m9 a0 8) ∧ (m9 a0 8) ≤ 6 := zi_rd hIm9 hc0 zb_28_8
    refine zw_ite (fun h13 => ?_) (fun h13 => ?_)
    · have r14 : (-2147483648) ≤ (m9 a0 9) ∧ (m9 a0 9) ≤ 2147483647 := zi_rd hIm9 hc0 zb_28_9
      refine zw_bd (zw_eq (zu_call_at (zt_T n) (zm_83 n) (zdp_83 n) _ _ _ _ _ rfl (zr_83_0 n _ _ (m9 a0 9) 0 (zu_w32 ((m9 a0 17) - 1)) m9)) ?_)
      refine zw_ite (fun h15 => ?_) (fun h15 => ?_)
      · refine zw_b (by omega) ?_
        refine zw_some ?_
        refine zw_ite (fun h16 => ?_) (fun h16 => ?_)
        · exfalso; omega
        · refine zw_bd (zw_eq (zu_call_at (zt_T n) (zm_85 n) (zdp_85 n) _ _ _ _ _ rfl (zr_85_0 n _ _ a0 2 m9)) ?_)
          generalize hmm17 : zu_up m9 a0 4 2 = m17
          have hIm17 := zi_up hmm17 hIm9 hc0 zb_28_4 (by omega) (by omega)
          have hFm17 := zfr_up hmm17 hFm9 hc0 rfl
          have hRCRm17 := zR_CR_fr (zdis_fr (zfr_up hmm17 (zfr_rf [(28, 5)] _) hc0 rfl) rfl) hRCRm9
          have hRNSm17 := zR_NS_fr (zdis_fr (zfr_up hmm17 (zfr_rf [(28, 5)] _) hc0 rfl) rfl) hRNSm9
          have hRTRm17 := zR_TR_fr (zdis_fr (zfr_up hmm17 (zfr_rf [(28, 5)] _) hc0 rfl) rfl) hRTRm9
          have hRWDm17 := zR_WD_fr (zdis_fr (zfr_up hmm17 (zfr_rf [(28, 5)] _) hc0 rfl) rfl) hRWDm9
          have hRLRm17 := zLR_wr (zone_190 hc0) hmm17 (by decide)
          have r18 : 0 ≤ (m17 a0 10) ∧ (m17 a0 10) ≤ 700 := zi_rd hIm17 hc0 zb_28_10
          generalize hmm19 : zu_up m17 a0 5 (m17 a0 10) = m19
          have hIm19 := zi_up hmm19 hIm17 hc0 zb_28_5 (by omega) (by omega)
          have hFm19 := zfr_up hmm19 hFm17 hc0 rfl
          have hRCRm19 := zR_CR_fr (zdis_fr (zfr_up hmm19 (zfr_rf [(28, 6)] _) hc0 rfl) rfl) hRCRm17
          have hRLRm19 := zR_LR_fr (zdis_fr (zfr_up hmm19 (zfr_rf [(28, 6)] _) hc0 rfl) rfl) hRLRm17
          have hRNSm19 := zR_NS_fr (zdis_fr (zfr_up hmm19 (zfr_rf [(28, 6)] _) hc0 rfl) rfl) hRNSm17
          have hRTRm19 := zR_TR_fr (zdis_fr (zfr_up hmm19 (zfr_rf [(28, 6)] _) hc0 rfl) rfl) hRTRm17
          have hRWDm19 := zR_WD_fr (zdis_fr (zfr_up hmm19 (zfr_rf [(28, 6)] _) hc0 rfl) rfl) hRWDm17
          refine zw_b (by omega) ?_
          refine zw_some ?_
          refine zw_b (by omega) ?_
          refine zw_some ?_
          refine zw_ite (fun h20 => ?_) (fun h20 => ?_)
          · exfalso; omega
          · refine zw_b (by omega) ?_
            refine zw_some ?_
            refine zw_ite (fun h21 => ?_) (fun h21 => ?_)
            · exfalso; omega
            · refine zw_b (by omega) ?_
              have r22 : 0 ≤ (m19 a0 7) ∧ (m19 a0 7) ≤ 700 := zi_rd hIm19 hc0 zb_28_7
              have r23 : 0 ≤ (m19 a0 8) ∧ (m19 a0 8) ≤ 6 := zi_rd hIm19 hc0 zb_28_8
              have e24 : (m19 a0 8) = (m9 a0 8) := (Eq.trans (zs_ne hmm19 (Or.inr (by decide))) (zs_ne hmm17 (Or.inr (by decide))))
              have r25 : (-2147483648) ≤ (m19 a0 4) ∧ (m19 a0 4) ≤ 2147483647 := zi_rd hIm19 hc0 zb_28_4
              have e26 : (m19 a0 4) = 2 := (Eq.trans (zs_ne hmm19 (Or.inr (by decide))) (zs_eq hmm17))
              exact zw_some ⟨hIm19, hFm19, hRCRm19, hRLRm19, hRNSm19, hRTRm19, hRWDm19, ⟨by omega, by omega⟩, by omega, by omega, by omega⟩
      · refine zw_ite (fun h27 => ?_) (fun h27 => ?_)
        · refine zw_b (by omega) ?_
          refine zw_some ?_
          refine zw_ite (fun h28 => ?_) (fun h28 => ?_)
          · exfalso; omega
          · refine zw_bd (zw_eq (zu_call_at (zt_T n) (zm_85 n) (zdp_85 n) _ _ _ _ _ rfl (zr_85_0 n _ _ a0 2 m9)) ?_)
            generalize hmm29 : zu_up m9 a0 4 2 = m29
            have hIm29 := zi_up hmm29 hIm9 hc0 zb_28_4 (by omega) (by omega)
            have hFm29 := zfr_up hmm29 hFm9 hc0 rfl
            have hRCRm29 := zR_CR_fr (zdis_fr (zfr_up hmm29 (zfr_rf [(28, 5)] _) hc0 rfl) rfl) hRCRm9
            have hRNSm29 := zR_NS_fr (zdis_fr (zfr_up hmm29 (zfr_rf [(28, 5)] _) hc0 rfl) rfl) hRNSm9
            have hRTRm29 := zR_TR_fr (zdis_fr (zfr_up hmm29 (zfr_rf [(28, 5)] _) hc0 rfl) rfl) hRTRm9
            have hRWDm29 := zR_WD_fr (zdis_fr (zfr_up hmm29 (zfr_rf [(28, 5)] _) hc0 rfl) rfl) hRWDm9
            have hRLRm29 := zLR_wr (zone_190 hc0) hmm29 (by decide)
            have r30 : 0 ≤ (m29 a0 10) ∧ (m29 a0 10) ≤ 700 := zi_rd hIm29 hc0 zb_28_10
            generalize hmm31 : zu_up m29 a0 5 (m29 a0 10) = m31
            have hIm31 := zi_up hmm31 hIm29 hc0 zb_28_5 (by omega) (by omega)
            have hFm31 := zfr_up hmm31 hFm29 hc0 rfl
            have hRCRm31 := zR_CR_fr (zdis_fr (zfr_up hmm31 (zfr_rf [(28, 6)] _) hc0 rfl) rfl) hRCRm29
            have hRLRm31 := zR_LR_fr (zdis_fr (zfr_up hmm31 (zfr_rf [(28, 6)] _) hc0 rfl) rfl) hRLRm29
            have hRNSm31 := zR_NS_fr (zdis_fr (zfr_up hmm31 (zfr_rf [(28, 6)] _) hc0 rfl) rfl) hRNSm29
            have hRTRm31 := zR_TR_fr (zdis_fr (zfr_up hmm31 (zfr_rf [(28, 6)] _) hc0 rfl) rfl) hRTRm29
            have hRWDm31 := zR_WD_fr (zdis_fr (zfr_up hmm31 (zfr_rf [(28, 6)] _) hc0 rfl) rfl) hRWDm29
            refine zw_b (by omega) ?_
            refine zw_some ?_
            refine zw_b (by omega) ?_
            refine zw_some ?_
            refine zw_ite (fun h32 => ?_) (fun h32 => ?_)
            · exfalso; omega
            · refine zw_b (by omega) ?_
              refine zw_some ?_
              refine zw_ite (fun h33 => ?_) (fun h33 => ?_)
              · exfalso; omega
              · refine zw_b (by omega) ?_
                have r34 : 0 ≤ (m31 a0 7) ∧ (m31 a0 7) ≤ 700 := zi_rd hIm31 hc0 zb_28_7
                have r35 : 0 ≤ (m31 a0 8) ∧ (m31 a0 8) ≤ 6 := zi_rd hIm31 hc0 zb_28_8
                have e36 : (m31 a0 8) = (m9 a0 8) := (Eq.trans (zs_ne hmm31 (Or.inr (by decide))) (zs_ne hmm29 (Or.inr (by decide))))
                have r37 : (-2147483648) ≤ (m31 a0 4) ∧ (m31 a0 4) ≤ 2147483647 := zi_rd hIm31 hc0 zb_28_4
                have e38 : (m31 a0 4) = 2 := (Eq.trans (zs_ne hmm31 (Or.inr (by decide))) (zs_eq hmm29))
                exact zw_some ⟨hIm31, hFm31, hRCRm31, hRLRm31, hRNSm31, hRTRm31, hRWDm31, ⟨by omega, by omega⟩, by omega, by omega, by omega⟩
        · refine zw_b (by omega) ?_
          refine zw_some ?_
          refine zw_ite (fun h39 => ?_) (fun h39 => ?_)
          · generalize hmm40 : zu_up m9 a0 11 (m9 a0 9) = m40
            have hIm40 := zi_up hmm40 hIm9 hc0 zb_28_11 (by omega) (by omega)
            have hFm40 := zfr_up hmm40 hFm9 hc0 rfl
            have hRCRm40 := zR_CR_fr (zdis_fr (zfr_up hmm40 (zfr_rf [(28, 12)] _) hc0 rfl) rfl) hRCRm9
            have hRLRm40 := zR_LR_fr (zdis_fr (zfr_up hmm40 (zfr_rf [(28, 12)] _) hc0 rfl) rfl) hRLRm9
            have hRNSm40 := zR_NS_fr (zdis_fr (zfr_up hmm40 (zfr_rf [(28, 12)] _) hc0 rfl) rfl) hRNSm9
            have hRTRm40 := zR_TR_fr (zdis_fr (zfr_up hmm40 (zfr_rf [(28, 12)] _) hc0 rfl) rfl) hRTRm9
            have hRWDm40 := zR_WD_fr (zdis_fr (zfr_up hmm40 (zfr_rf [(28, 12)] _) hc0 rfl) rfl) hRWDm9
            refine zw_bd (zw_mono (zk_89 n hIm40 hc0 hRNSm40 hRWDm40) (fun v42 m41 hqm41 => ?_))
            obtain ⟨hIm41, hfm41, hvm41⟩ := hqm41
            have hFm41 := zfr_tr hFm40 hfm41 rfl
            obtain ⟨hRNSm41, hRTRm41, hRWDm41, hvm41⟩ := hvm41
            have hRCRm41 := zR_CR_fr (zdis_fr hfm41 rfl) hRCRm40
            have hRLRm41 := zR_LR_fr (zdis_fr hfm41 rfl) hRLRm40
            have s43 := hRNSm41 a0 hc0
            have s44 := hRTRm41 a0 hc0
            refine zw_b (by omega) ?_
            refine zw_some ?_
            refine zw_ite (fun h45 => ?_) (fun h45 => ?_)
            · have r46 : (-2147483648) ≤ (m41 a0 11) ∧ (m41 a0 11) ≤ 2147483647 := zi_rd hIm41 hc0 zb_28_11
              have e47 : (m41 a0 11) = (m9 a0 9) := (Eq.trans (zfr_ap hfm41 hc0 rfl) (zs_eq hmm40))
              have r48 : 0 ≤ (m41 a0 10) ∧ (m41 a0 10) ≤ 700 := zi_rd hIm41 hc0 zb_28_10
              generalize hmm49 : zu_up m41 a0 42 (m41 a0 10) = m49
              have hIm49 := zi_up hmm49 hIm41 hc0 zb_28_42 (by omega) (by omega)
              have hFm49 := zfr_up hmm49 hFm41 hc0 rfl
              have hRCRm49 := zR_CR_fr (zdis_fr (zfr_up hmm49 (zfr_rf [(28, 43)] _) hc0 rfl) rfl) hRCRm41
              have hRLRm49 := zR_LR_fr (zdis_fr (zfr_up hmm49 (zfr_rf [(28, 43)] _) hc0 rfl) rfl) hRLRm41
              have hRNSm49 := zR_NS_fr (zdis_fr (zfr_up hmm49 (zfr_rf [(28, 43)] _) hc0 rfl) rfl) hRNSm41
              have hRTRm49 := zR_TR_fr (zdis_fr (zfr_up hmm49 (zfr_rf [(28, 43)] _) hc0 rfl) rfl) hRTRm41
              have hRWDm49 := zR_WD_fr (zdis_fr (zfr_up hmm49 (zfr_rf [(28, 43)] _) hc0 rfl) rfl) hRWDm41
              have r50 : 1 ≤ (m49 a0 18) ∧ (m49 a0 18) ≤ 6 := zi_rd hIm49 hc0 zb_28_18
              have w51 := zu_w32_id (z := (m49 a0 18) - 1) (by omega) (by omega)
              refine zw_bd (zw_eq (zu_call_at (zt_T n) (zm_94 n) (zdp_94 n) _ _ _ _ _ rfl (zr_94_0 n _ _ a0 0 (zu_w32 ((m49 a0 18) - 1)) m49)) ?_)
              have r52 : 0 ≤ (m49 a0 8) ∧ (m49 a0 8) ≤ 6 := zi_rd hIm49 hc0 zb_28_8
              refine zw_ite (fun h53 => ?_) (fun h53 => ?_)
              · have r54 : (-2147483648) ≤ (m49 a0 9) ∧ (m49 a0 9) ≤ 2147483647 := zi_rd hIm49 hc0 zb_28_9
                refine zw_bd (zw_eq (zu_call_at (zt_T n) (zm_83 n) (zdp_83 n) _ _ _ _ _ rfl (zr_83_0 n _ _ (m49 a0 9) 0 (zu_w32 ((m49 a0 18) - 1)) m49)) ?_)
                refine zw_ite (fun h55 => ?_) (fun h55 => ?_)
                · refine zw_b (by omega) ?_
                  refine zw_some ?_
                  refine zw_ite (fun h56 => ?_) (fun h56 => ?_)
                  · exfalso; omega
                  · refine zw_bd (zw_eq (zu_call_at (zt_T n) (zm_85 n) (zdp_85 n) _ _ _ _ _ rfl (zr_85_0 n _ _ a0 2 m49)) ?_)
                    generalize hmm57 : zu_up m49 a0 4 2 = m57
                    have hIm57 := zi_up hmm57 hIm49 hc0 zb_28_4 (by omega) (by omega)
                    have hFm57 := zfr_up hmm57 hFm49 hc0 rfl
                    have hRCRm57 := zR_CR_fr (zdis_fr (zfr_up hmm57 (zfr_rf [(28, 5)] _) hc0 rfl) rfl) hRCRm49
                    have hRNSm57 := zR_NS_fr (zdis_fr (zfr_up hmm57 (zfr_rf [(28, 5)] _) hc0 rfl) rfl) hRNSm49
                    have hRTRm57 := zR_TR_fr (zdis_fr (zfr_up hmm57 (zfr_rf [(28, 5)] _) hc0 rfl) rfl) hRTRm49
                    have hRWDm57 := zR_WD_fr (zdis_fr (zfr_up hmm57 (zfr_rf [(28, 5)] _) hc0 rfl) rfl) hRWDm49
                    have hRLRm57 := zLR_wr (zone_190 hc0) hmm57 (by decide)
                    have r58 : 0 ≤ (m57 a0 10) ∧ (m57 a0 10) ≤ 700 := zi_rd hIm57 hc0 zb_28_10
                    have e59 : (m57 a0 10) = (m41 a0 10) := (Eq.trans (zs_ne hmm57 (Or.inr (by decide))) (zs_ne hmm49 (Or.inr (by decide))))
                    generalize hmm60 : zu_up m57 a0 5 (m57 a0 10) = m60
                    have hIm60 := zi_up hmm60 hIm57 hc0 zb_28_5 (by omega) (by omega)
                    have hFm60 := zfr_up hmm60 hFm57 hc0 rfl
                    have hRCRm60 := zR_CR_fr (zdis_fr (zfr_up hmm60 (zfr_rf [(28, 6)] _) hc0 rfl) rfl) hRCRm57
                    have hRLRm60 := zR_LR_fr (zdis_fr (zfr_up hmm60 (zfr_rf [(28, 6)] _) hc0 rfl) rfl) hRLRm57
                    have hRNSm60 := zR_NS_fr (zdis_fr (zfr_up hmm60 (zfr_rf [(28, 6)] _) hc0 rfl) rfl) hRNSm57
                    have hRTRm60 := zR_TR_fr (zdis_fr (zfr_up hmm60 (zfr_rf [(28, 6)] _) hc0 rfl) rfl) hRTRm57
                    have hRWDm60 := zR_WD_fr (zdis_fr (zfr_up hmm60 (zfr_rf [(28, 6)] _) hc0 rfl) rfl) hRWDm57
                    refine zw_b (by omega) ?_
                    refine zw_some ?_
                    refine zw_b (by omega) ?_
                    refine zw_some ?_
                    refine zw_ite (fun h61 => ?_) (fun h61 => ?_)
                    · exfalso; omega
                    · refine zw_b (by omega) ?_
                      refine zw_some ?_
                      refine zw_ite (fun h62 => ?_) (fun h62 => ?_)
                      · exfalso; omega
                      · refine zw_b (by omega) ?_
                        have r63 : 0 ≤ (m60 a0 7) ∧ (m60 a0 7) ≤ 700 := zi_rd hIm60 hc0 zb_28_7
                        have r64 : 0 ≤ (m60 a0 8) ∧ (m60 a0 8) ≤ 6 := zi_rd hIm60 hc0 zb_28_8
                        have e65 : (m60 a0 8) = (m49 a0 8) := (Eq.trans (zs_ne hmm60 (Or.inr (by decide))) (zs_ne hmm57 (Or.inr (by decide))))
                        have r66 : (-2147483648) ≤ (m60 a0 4) ∧ (m60 a0 4) ≤ 2147483647 := zi_rd hIm60 hc0 zb_28_4
                        have e67 : (m60 a0 4) = 2 := (Eq.trans (zs_ne hmm60 (Or.inr (by decide))) (zs_eq hmm57))
                        exact zw_some ⟨hIm60, hFm60, hRCRm60, hRLRm60, hRNSm60, hRTRm60, hRWDm60, ⟨by omega, by omega⟩, by omega, by omega, by omega⟩
                · refine zw_ite (fun h68 => ?_) (fun h68 => ?_)
                  · refine zw_b (by omega) ?_
                    refine zw_some ?_
                    refine zw_ite (fun h69 => ?_) (fun h69 => ?_)
                    · exfalso; omega
                    · refine zw_bd (zw_eq (zu_call_at (zt_T n) (zm_85 n) (zdp_85 n) _ _ _ _ _ rfl (zr_85_0 n _ _ a0 2 m49)) ?_)
                      generalize hmm70 : zu_up m49 a0 4 2 = m70
                      have hIm70 := zi_up hmm70 hIm49 hc0 zb_28_4 (by omega) (by omega)
                      have hFm70 := zfr_up hmm70 hFm49 hc0 rfl
                      have hRCRm70 := zR_CR_fr (zdis_fr (zfr_up hmm70 (zfr_rf [(28, 5)] _) hc0 rfl) rfl) hRCRm49
                      have hRNSm70 := zR_NS_fr (zdis_fr (zfr_up hmm70 (zfr_rf [(28, 5)] _) hc0 rfl) rfl) hRNSm49
                      have hRTRm70 := zR_TR_fr (zdis_fr (zfr_up hmm70 (zfr_rf [(28, 5)] _) hc0 rfl) rfl) hRTRm49
                      have hRWDm70 := zR_WD_fr (zdis_fr (zfr_up hmm70 (zfr_rf [(28, 5)] _) hc0 rfl) rfl) hRWDm49
                      have hRLRm70 := zLR_wr (zone_190 hc0) hmm70 (by decide)
                      have r71 : 0 ≤ (m70 a0 10) ∧ (m70 a0 10) ≤ 700 := zi_rd hIm70 hc0 zb_28_10
                      have e72 : (m70 a0 10) = (m41 a0 10) := (Eq.trans (zs_ne hmm70 (Or.inr (by decide))) (zs_ne hmm49 (Or.inr (by decide))))
                      generalize hmm73 : zu_up m70 a0 5 (m70 a0 10) = m73
                      have hIm73 := zi_up hmm73 hIm70 hc0 zb_28_5 (by omega) (by omega)
                      have hFm73 := zfr_up hmm73 hFm70 hc0 rfl
                      have hRCRm73 := zR_CR_fr (zdis_fr (zfr_up hmm73 (zfr_rf [(28, 6)] _) hc0 rfl) rfl) hRCRm70
                      have hRLRm73 := zR_LR_fr (zdis_fr (zfr_up hmm73 (zfr_rf [(28, 6)] _) hc0 rfl) rfl) hRLRm70
                      have hRNSm73 := zR_NS_fr (zdis_fr (zfr_up hmm73 (zfr_rf [(28, 6)] _) hc0 rfl) rfl) hRNSm70
                      have hRTRm73 := zR_TR_fr (zdis_fr (zfr_up hmm73 (zfr_rf [(28, 6)] _) hc0 rfl) rfl) hRTRm70
                      have hRWDm73 := zR_WD_fr (zdis_fr (zfr_up hmm73 (zfr_rf [(28, 6)] _) hc0 rfl) rfl) hRWDm70
                      refine zw_b (by omega) ?_
                      refine zw_some ?_
                      refine zw_b (by omega) ?_
                      refine zw_some ?_
                      refine zw_ite (fun h74 => ?_) (fun h74 => ?_)
                      · exfalso; omega
                      · refine zw_b (by omega) ?_
                        refine zw_some ?_
                        refine zw_ite (fun h75 => ?_) (fun h75 => ?_)
                        · exfalso; omega
                        · refine zw_b (by omega) ?_
                          have r76 : 0 ≤ (m73 a0 7) ∧ (m73 a0 7) ≤ 700 := zi_rd hIm73 hc0 zb_28_7
                          have r77 : 0 ≤ (m73 a0 8) ∧ (m73 a0 8) ≤ 6 := zi_rd hIm73 hc0 zb_28_8
                          have e78 : (m73 a0 8) = (m49 a0 8) := (Eq.trans (zs_ne hmm73 (Or.inr (by decide))) (zs_ne hmm70 (Or.inr (by decide))))
                          have r79 : (-2147483648) ≤ (m73 a0 4) ∧ (m73 a0 4) ≤ 2147483647 := zi_rd hIm73 hc0 zb_28_4
                          have e80 : (m73 a0 4) = 2 := (Eq.trans (zs_ne hmm73 (Or.inr (by decide))) (zs_eq hmm70))
                          exact zw_some ⟨hIm73, hFm73, hRCRm73, hRLRm73, hRNSm73, hRTRm73, hRWDm73, ⟨by omega, by omega⟩, by omega, by omega, by omega⟩
                  · refine zw_b (by omega) ?_
                    refine zw_some ?_
                    refine zw_ite (fun h81 => ?_) (fun h81 => ?_)
                    · generalize hmm82 : zu_up m49 a0 11 (m49 a0 9) = m82
                      have hIm82 := zi_up hmm82 hIm49 hc0 zb_28_11 (by omega) (by omega)
                      have hFm82 := zfr_up hmm82 hFm49 hc0 rfl
                      have hRCRm82 := zR_CR_fr (zdis_fr (zfr_up hmm82 (zfr_rf [(28, 12)] _) hc0 rfl) rfl) hRCRm49
                      have hRLRm82 := zR_LR_fr (zdis_fr (zfr_up hmm82 (zfr_rf [(28, 12)] _) hc0 rfl) rfl) hRLRm49
                      have hRNSm82 := zR_NS_fr (zdis_fr (zfr_up hmm82 (zfr_rf [(28, 12)] _) hc0 rfl) rfl) hRNSm49
                      have hRTRm82 := zR_TR_fr (zdis_fr (zfr_up hmm82 (zfr_rf [(28, 12)] _) hc0 rfl) rfl) hRTRm49
                      have hRWDm82 := zR_WD_fr (zdis_fr (zfr_up hmm82 (zfr_rf [(28, 12)] _) hc0 rfl) rfl) hRWDm49
                      refine zw_bd (zw_mono (zk_89 n hIm82 hc0 hRNSm82 hRWDm82) (fun v84 m83 hqm83 => ?_))
                      obtain ⟨hIm83, hfm83, hvm83⟩ := hqm83
                      have hFm83 := zfr_tr hFm82 hfm83 rfl
                      obtain ⟨hRNSm83, hRTRm83, hRWDm83, hvm83⟩ := hvm83
                      have hRCRm83 := zR_CR_fr (zdis_fr hfm83 rfl) hRCRm82
                      have hRLRm83 := zR_LR_fr (zdis_fr hfm83 rfl) hRLRm82
                      have s85 := hRNSm83 a0 hc0
                      have s86 := hRTRm83 a0 hc0
                      refine zw_b (by omega) ?_
                      refine zw_some ?_
                      refine zw_ite (fun h87 => ?_) (fun h87 => ?_)
                      · have r88 : 1 ≤ (m83 a0 17) ∧ (m83 a0 17) ≤ 8 := zi_rd hIm83 hc0 zb_28_17
                        have e89 : (m83 a0 17) = (m9 a0 17) := (Eq.trans (zfr_ap hfm83 hc0 rfl) (Eq.trans (zs_ne hmm82 (Or.inr (by decide))) (Eq.trans (zs_ne hmm49 (Or.inr (by decide))) (Eq.trans (zfr_ap hfm41 hc0 rfl) (zs_ne hmm40 (Or.inr (by decide)))))))
                        have r90 : (-2147483648) ≤ (m83 a0 11) ∧ (m83 a0 11) ≤ 2147483647 := zi_rd hIm83 hc0 zb_28_11
                        have e91 : (m83 a0 11) = (m49 a0 9) := (Eq.trans (zfr_ap hfm83 hc0 rfl) (zs_eq hmm82))
                        have p92 := zmul_bd (x := (m83 a0 17)) (y := (m83 a0 11)) (a := 1) (b := 0) (A := 8) (B := 5) (by omega) (by omega) (by omega) (by omega) (by omega) (by omega)
                        have w93 := zu_w32_id (z := (m83 a0 17) * (m83 a0 11)) (by omega) (by omega)
                        have w94 := zu_w32_id (z := (zu_w32 ((m83 a0 17) * (m83 a0 11))) + (m41 a0 11)) (by omega) (by omega)
                        generalize hmm95 : zu_up m83 a0 11 (zu_w32 ((zu_w32 ((m83 a0 17) * (m83 a0 11))) + (m41 a0 11))) = m95
                        have hIm95 := zi_up hmm95 hIm83 hc0 zb_28_11 (by omega) (by omega)
                        have hFm95 := zfr_up hmm95 hFm83 hc0 rfl
                        have hRCRm95 := zR_CR_fr (zdis_fr (zfr_up hmm95 (zfr_rf [(28, 12)] _) hc0 rfl) rfl) hRCRm83
                        have hRLRm95 := zR_LR_fr (zdis_fr (zfr_up hmm95 (zfr_rf [(28, 12)] _) hc0 rfl) rfl) hRLRm83
                        have hRNSm95 := zR_NS_fr (zdis_fr (zfr_up hmm95 (zfr_rf [(28, 12)] _) hc0 rfl) rfl) hRNSm83
                        have hRTRm95 := zR_TR_fr (zdis_fr (zfr_up hmm95 (zfr_rf [(28, 12)] _) hc0 rfl) rfl) hRTRm83
                        have hRWDm95 := zR_WD_fr (zdis_fr (zfr_up hmm95 (zfr_rf [(28, 12)] _) hc0 rfl) rfl) hRWDm83
                        refine zw_b (by omega) ?_
                        refine zw_some ?_
                        refine zw_ite (fun h96 => ?_) (fun h96 => ?_)
                        · have r97 : (-2147483648) ≤ (m95 a0 11) ∧ (m95 a0 11) ≤ 2147483647 := zi_rd hIm95 hc0 zb_28_11
                          have e98 : (m95 a0 11) = (zu_w32 ((zu_w32 ((m83 a0 17) * (m83 a0 11))) + (m41 a0 11))) := (zs_eq hmm95)
                          have b99 : 0 ≤ (m95 a0 11) ∧ (m95 a0 11) < 48 := by omega
                          refine zw_if b99 ?_
                          have r100 : 0 ≤ (m95 196 (m95 a0 11)) ∧ (m95 196 (m95 a0 11)) ≤ 1 := zi_rd hIm95 zq_196 (zb_105 _)
                          refine zw_ite (fun h101 => ?_) (fun h101 => ?_)
                          · refine zw_b (by omega) ?_
                            have b102 : 0 ≤ (m95 a0 11) ∧ (m95 a0 11) < 48 := by omega
                            refine zw_if b102 ?_
                            generalize hmm103 : zu_up m95 196 (m95 a0 11) 1 = m103
                            have hIm103 := zi_up hmm103 hIm95 zq_196 (zb_105 _) (by omega) (by omega)
                            have hFm103 := zfr_up hmm103 hFm95 zq_196 rfl
                            have hRCRm103 := zR_CR_fr (zdis_fr (zfr_up hmm103 (zfr_rf [(105, 0)] _) zq_196 rfl) rfl) hRCRm95
                            have hRLRm103 := zR_LR_fr (zdis_fr (zfr_up hmm103 (zfr_rf [(105, 0)] _) zq_196 rfl) rfl) hRLRm95
                            have hRNSm103 := zR_NS_fr (zdis_fr (zfr_up hmm103 (zfr_rf [(105, 0)] _) zq_196 rfl) rfl) hRNSm95
                            have hRTRm103 := zR_TR_fr (zdis_fr (zfr_up hmm103 (zfr_rf [(105, 0)] _) zq_196 rfl) rfl) hRTRm95
                            have hRWDm103 := zR_WD_fr (zdis_fr (zfr_up hmm103 (zfr_rf [(105, 0)] _) zq_196 rfl) rfl) hRWDm95
                            have r104 : (-2147483648) ≤ (m103 a0 11) ∧ (m103 a0 11) ≤ 2147483647 := zi_rd hIm103 hc0 zb_28_11
                            have e105 : (m103 a0 11) = (m95 a0 11) := (zs_ne hmm103 (Or.inl (zc_ne hc0 zq_196 (by decide))))
                            have w106 := zu_w32_id (z := 48 + (m103 a0 11)) (by omega) (by omega)
                            have b107 : 0 ≤ (zu_w32 (48 + (m103 a0 11))) ∧ (zu_w32 (48 + (m103 a0 11))) < 96 := by omega
                            refine zw_if b107 ?_
                            generalize hmm108 : zu_up m103 195 (zu_w32 (48 + (m103 a0 11))) a1 = m108
                            have hIm108 := zi_up hmm108 hIm103 zq_195 (zb_104 _) (by omega) (by omega)
                            have hFm108 := zfr_up hmm108 hFm103 zq_195 rfl
                            have hRCRm108 := zR_CR_fr (zdis_fr (zfr_up hmm108 (zfr_rf [(104, 0)] _) zq_195 rfl) rfl) hRCRm103
                            have hRLRm108 := zR_LR_fr (zdis_fr (zfr_up hmm108 (zfr_rf [(104, 0)] _) zq_195 rfl) rfl) hRLRm103
                            have hRNSm108 := zR_NS_fr (zdis_fr (zfr_up hmm108 (zfr_rf [(104, 0)] _) zq_195 rfl) rfl) hRNSm103
                            have hRTRm108 := zR_TR_fr (zdis_fr (zfr_up hmm108 (zfr_rf [(104, 0)] _) zq_195 rfl) rfl) hRTRm103
                            have hRWDm108 := zR_WD_fr (zdis_fr (zfr_up hmm108 (zfr_rf [(104, 0)] _) zq_195 rfl) rfl) hRWDm103
                            have r109 : 0 ≤ (m108 a0 22) ∧ (m108 a0 22) ≤ 16 := zi_rd hIm108 hc0 zb_28_22
                            have e110 : (m108 a0 22) = (m0 a0 22) := (Eq.trans (zs_ne hmm108 (Or.inl (zc_ne hc0 zq_195 (by decide)))) (Eq.trans (zs_ne hmm103 (Or.inl (zc_ne hc0 zq_196 (by decide)))) (Eq.trans (zs_ne hmm95 (Or.inr (by decide))) (Eq.trans (zfr_ap hfm83 hc0 rfl) (Eq.trans (zs_ne hmm82 (Or.inr (by decide))) (Eq.trans (zs_ne hmm49 (Or.inr (by decide))) (Eq.trans (zfr_ap hfm41 hc0 rfl) (Eq.trans (zs_ne hmm40 (Or.inr (by decide))) (Eq.trans (zs_ne hmm9 (Or.inr (by decide))) (zfr_ap hfm5 hc0 rfl))))))))))
                            have w111 := zu_w32_id (z := (m108 a0 22) + 1) (by omega) (by omega)
                            generalize hmm112 : zu_up m108 a0 22 (zu_w32 ((m108 a0 22) + 1)) = m112
                            have hIm112 := zi_up hmm112 hIm108 hc0 zb_28_22 (by omega) (by omega)
                            have hFm112 := zfr_up hmm112 hFm108 hc0 rfl
                            have hRCRm112 := zR_CR_fr (zdis_fr (zfr_up hmm112 (zfr_rf [(28, 23)] _) hc0 rfl) rfl) hRCRm108
                            have hRLRm112 := zR_LR_fr (zdis_fr (zfr_up hmm112 (zfr_rf [(28, 23)] _) hc0 rfl) rfl) hRLRm108
                            have hRNSm112 := zR_NS_fr (zdis_fr (zfr_up hmm112 (zfr_rf [(28, 23)] _) hc0 rfl) rfl) hRNSm108
                            have hRTRm112 := zR_TR_fr (zdis_fr (zfr_up hmm112 (zfr_rf [(28, 23)] _) hc0 rfl) rfl) hRTRm108
                            have hRWDm112 := zR_WD_fr (zdis_fr (zfr_up hmm112 (zfr_rf [(28, 23)] _) hc0 rfl) rfl) hRWDm108
                            refine zw_b (by omega) ?_
                            have r113 : 0 ≤ (m112 a0 7) ∧ (m112 a0 7) ≤ 700 := zi_rd hIm112 hc0 zb_28_7
                            have r114 : 0 ≤ (m112 a0 8) ∧ (m112 a0 8) ≤ 6 := zi_rd hIm112 hc0 zb_28_8
                            have r115 : (-2147483648) ≤ (m112 a0 4) ∧ (m112 a0 4) ≤ 2147483647 := zi_rd hIm112 hc0 zb_28_4
                            exact zw_some ⟨hIm112, hFm112, hRCRm112, hRLRm112, hRNSm112, hRTRm112, hRWDm112, ⟨by omega, by omega⟩, by omega, by omega, by omega⟩
                          · have r116 : (-2147483648) ≤ (m95 a0 42) ∧ (m95 a0 42) ≤ 2147483647 := zi_rd hIm95 hc0 zb_28_42
                            have e117 : (m95 a0 42) = (m41 a0 10) := (Eq.trans (zs_ne hmm95 (Or.inr (by decide))) (Eq.trans (zfr_ap hfm83 hc0 rfl) (Eq.trans (zs_ne hmm82 (Or.inr (by decide))) (zs_eq hmm49))))
                            generalize hmm118 : zu_up m95 a0 10 (m95 a0 42) = m118
                            have hIm118 := zi_up hmm118 hIm95 hc0 zb_28_10 (by omega) (by omega)
                            have hFm118 := zfr_up hmm118 hFm95 hc0 rfl
                            have hRCRm118 := zR_CR_fr (zdis_fr (zfr_up hmm118 (zfr_rf [(28, 11)] _) hc0 rfl) rfl) hRCRm95
                            have hRLRm118 := zR_LR_fr (zdis_fr (zfr_up hmm118 (zfr_rf [(28, 11)] _) hc0 rfl) rfl) hRLRm95
                            have hRNSm118 := zR_NS_fr (zdis_fr (zfr_up hmm118 (zfr_rf [(28, 11)] _) hc0 rfl) rfl) hRNSm95
                            have hRTRm118 := zR_TR_fr (zdis_fr (zfr_up hmm118 (zfr_rf [(28, 11)] _) hc0 rfl) rfl) hRTRm95
                            have hRWDm118 := zR_WD_fr (zdis_fr (zfr_up hmm118 (zfr_rf [(28, 11)] _) hc0 rfl) rfl) hRWDm95
                            refine zw_bd (zw_eq (zu_call_at (zt_T n) (zm_85 n) (zdp_85 n) _ _ _ _ _ rfl (zr_85_0 n _ _ a0 3 m118)) ?_)
                            generalize hmm119 : zu_up m118 a0 4 3 = m119
                            have hIm119 := zi_up hmm119 hIm118 hc0 zb_28_4 (by omega) (by omega)
                            have hFm119 := zfr_up hmm119 hFm118 hc0 rfl
                            have hRCRm119 := zR_CR_fr (zdis_fr (zfr_up hmm119 (zfr_rf [(28, 5)] _) hc0 rfl) rfl) hRCRm118
                            have hRNSm119 := zR_NS_fr (zdis_fr (zfr_up hmm119 (zfr_rf [(28, 5)] _) hc0 rfl) rfl) hRNSm118
                            have hRTRm119 := zR_TR_fr (zdis_fr (zfr_up hmm119 (zfr_rf [(28, 5)] _) hc0 rfl) rfl) hRTRm118
                            have hRWDm119 := zR_WD_fr (zdis_fr (zfr_up hmm119 (zfr_rf [(28, 5)] _) hc0 rfl) rfl) hRWDm118
                            have hRLRm119 := zLR_wr (zone_190 hc0) hmm119 (by decide)
                            have r120 : 0 ≤ (m119 a0 10) ∧ (m119 a0 10) ≤ 700 := zi_rd hIm119 hc0 zb_28_10
                            have e121 : (m119 a0 10) = (m95 a0 42) := (Eq.trans (zs_ne hmm119 (Or.inr (by decide))) (zs_eq hmm118))
                            generalize hmm122 : zu_up m119 a0 5 (m119 a0 10) = m122
                            have hIm122 := zi_up hmm122 hIm119 hc0 zb_28_5 (by omega) (by omega)
                            have hFm122 := zfr_up hmm122 hFm119 hc0 rfl
                            have hRCRm122 := zR_CR_fr (zdis_fr (zfr_up hmm122 (zfr_rf [(28, 6)] _) hc0 rfl) rfl) hRCRm119
                            have hRLRm122 := zR_LR_fr (zdis_fr (zfr_up hmm122 (zfr_rf [(28, 6)] _) hc0 rfl) rfl) hRLRm119
                            have hRNSm122 := zR_NS_fr (zdis_fr (zfr_up hmm122 (zfr_rf [(28, 6)] _) hc0 rfl) rfl) hRNSm119
                            have hRTRm122 := zR_TR_fr (zdis_fr (zfr_up hmm122 (zfr_rf [(28, 6)] _) hc0 rfl) rfl) hRTRm119
                            have hRWDm122 := zR_WD_fr (zdis_fr (zfr_up hmm122 (zfr_rf [(28, 6)] _) hc0 rfl) rfl) hRWDm119
                            refine zw_b (by omega) ?_
                            refine zw_some ?_
                            refine zw_b (by omega) ?_
                            have r123 : 0 ≤ (m122 a0 7) ∧ (m122 a0 7) ≤ 700 := zi_rd hIm122 hc0 zb_28_7
                            have r124 : 0 ≤ (m122 a0 8) ∧ (m122 a0 8) ≤ 6 := zi_rd hIm122 hc0 zb_28_8
                            have r125 : (-2147483648) ≤ (m122 a0 4) ∧ (m122 a0 4) ≤ 2147483647 := zi_rd hIm122 hc0 zb_28_4
                            have e126 : (m122 a0 4) = 3 := (Eq.trans (zs_ne hmm122 (Or.inr (by decide))) (zs_eq hmm119))
                            exact zw_some ⟨hIm122, hFm122, hRCRm122, hRLRm122, hRNSm122, hRTRm122, hRWDm122, ⟨by omega, by omega⟩, by omega, by omega, by omega⟩
                        · exfalso; omega
                      · exfalso; omega
                    · exfalso; omega
              · refine zw_bd (zw_eq (zu_call_at (zt_T n) (zm_85 n) (zdp_85 n) _ _ _ _ _ rfl (zr_85_0 n _ _ a0 1 m49)) ?_)
                generalize hmm127 : zu_up m49 a0 4 1 = m127
                have hIm127 := zi_up hmm127 hIm49 hc0 zb_28_4 (by omega) (by omega)
                have hFm127 := zfr_up hmm127 hFm49 hc0 rfl
                have hRCRm127 := zR_CR_fr (zdis_fr (zfr_up hmm127 (zfr_rf [(28, 5)] _) hc0 rfl) rfl) hRCRm49
                have hRNSm127 := zR_NS_fr (zdis_fr (zfr_up hmm127 (zfr_rf [(28, 5)] _) hc0 rfl) rfl) hRNSm49
                have hRTRm127 := zR_TR_fr (zdis_fr (zfr_up hmm127 (zfr_rf [(28, 5)] _) hc0 rfl) rfl) hRTRm49
                have hRWDm127 := zR_WD_fr (zdis_fr (zfr_up hmm127 (zfr_rf [(28, 5)] _) hc0 rfl) rfl) hRWDm49
                have hRLRm127 := zLR_wr (zone_190 hc0) hmm127 (by decide)
                have r128 : 0 ≤ (m127 a0 10) ∧ (m127 a0 10) ≤ 700 := zi_rd hIm127 hc0 zb_28_10
                have e129 : (m127 a0 10) = (m41 a0 10) := (Eq.trans (zs_ne hmm127 (Or.inr (by decide))) (zs_ne hmm49 (Or.inr (by decide))))
                generalize hmm130 : zu_up m127 a0 5 (m127 a0 10) = m130
                have hIm130 := zi_up hmm130 hIm127 hc0 zb_28_5 (by omega) (by omega)
                have hFm130 := zfr_up hmm130 hFm127 hc0 rfl
                have hRCRm130 := zR_CR_fr (zdis_fr (zfr_up hmm130 (zfr_rf [(28, 6)] _) hc0 rfl) rfl) hRCRm127
                have hRLRm130 := zR_LR_fr (zdis_fr (zfr_up hmm130 (zfr_rf [(28, 6)] _) hc0 rfl) rfl) hRLRm127
                have hRNSm130 := zR_NS_fr (zdis_fr (zfr_up hmm130 (zfr_rf [(28, 6)] _) hc0 rfl) rfl) hRNSm127
                have hRTRm130 := zR_TR_fr (zdis_fr (zfr_up hmm130 (zfr_rf [(28, 6)] _) hc0 rfl) rfl) hRTRm127
                have hRWDm130 := zR_WD_fr (zdis_fr (zfr_up hmm130 (zfr_rf [(28, 6)] _) hc0 rfl) rfl) hRWDm127
                refine zw_b (by omega) ?_
                refine zw_some ?_
                refine zw_b (by omega) ?_
                refine zw_some ?_
                refine zw_ite (fun h131 => ?_) (fun h131 => ?_)
                · exfalso; omega
                · refine zw_b (by omega) ?_
                  refine zw_some ?_
                  refine zw_ite (fun h132 => ?_) (fun h132 => ?_)
                  · exfalso; omega
                  · refine zw_b (by omega) ?_
                    have r133 : 0 ≤ (m130 a0 7) ∧ (m130 a0 7) ≤ 700 := zi_rd hIm130 hc0 zb_28_7
                    have r134 : 0 ≤ (m130 a0 8) ∧ (m130 a0 8) ≤ 6 := zi_rd hIm130 hc0 zb_28_8
                    have e135 : (m130 a0 8) = (m49 a0 8) := (Eq.trans (zs_ne hmm130 (Or.inr (by decide))) (zs_ne hmm127 (Or.inr (by decide))))
                    have r136 : (-2147483648) ≤ (m130 a0 4) ∧ (m130 a0 4) ≤ 2147483647 := zi_rd hIm130 hc0 zb_28_4
                    have e137 : (m130 a0 4) = 1 := (Eq.trans (zs_ne hmm130 (Or.inr (by decide))) (zs_eq hmm127))
                    exact zw_some ⟨hIm130, hFm130, hRCRm130, hRLRm130, hRNSm130, hRTRm130, hRWDm130, ⟨by omega, by omega⟩, by omega, by omega, by omega⟩
            · exfalso; omega
          · exfalso; omega
    · refine zw_bd (zw_eq (zu_call_at (zt_T n) (zm_85 n) (zdp_85 n) _ _ _ _ _ rfl (zr_85_0 n _ _ a0 1 m9)) ?_)
      generalize hmm138 : zu_up m9 a0 4 1 = m138
      have hIm138 := zi_up hmm138 hIm9 hc0 zb_28_4 (by omega) (by omega)
      have hFm138 := zfr_up hmm138 hFm9 hc0 rfl
      have hRCRm138 := zR_CR_fr (zdis_fr (zfr_up hmm138 (zfr_rf [(28, 5)] _) hc0 rfl) rfl) hRCRm9
      have hRNSm138 := zR_NS_fr (zdis_fr (zfr_up hmm138 (zfr_rf [(28, 5)] _) hc0 rfl) rfl) hRNSm9
      have hRTRm138 := zR_TR_fr (zdis_fr (zfr_up hmm138 (zfr_rf [(28, 5)] _) hc0 rfl) rfl) hRTRm9
      have hRWDm138 := zR_WD_fr (zdis_fr (zfr_up hmm138 (zfr_rf [(28, 5)] _) hc0 rfl) rfl) hRWDm9
      have hRLRm138 := zLR_wr (zone_190 hc0) hmm138 (by decide)
      have r139 : 0 ≤ (m138 a0 10) ∧ (m138 a0 10) ≤ 700 := zi_rd hIm138 hc0 zb_28_10
      generalize hmm140 : zu_up m138 a0 5 (m138 a0 10) = m140
      have hIm140 := zi_up hmm140 hIm138 hc0 zb_28_5 (by omega) (by omega)
      have hFm140 := zfr_up hmm140 hFm138 hc0 rfl
      have hRCRm140 := zR_CR_fr (zdis_fr (zfr_up hmm140 (zfr_rf [(28, 6)] _) hc0 rfl) rfl) hRCRm138
      have hRLRm140 := zR_LR_fr (zdis_fr (zfr_up hmm140 (zfr_rf [(28, 6)] _) hc0 rfl) rfl) hRLRm138
      have hRNSm140 := zR_NS_fr (zdis_fr (zfr_up hmm140 (zfr_rf [(28, 6)] _) hc0 rfl) rfl) hRNSm138
      have hRTRm140 := zR_TR_fr (zdis_fr (zfr_up hmm140 (zfr_rf [(28, 6)] _) hc0 rfl) rfl) hRTRm138
      have hRWDm140 := zR_WD_fr (zdis_fr (zfr_up hmm140 (zfr_rf [(28, 6)] _) hc0 rfl) rfl) hRWDm138
      refine zw_b (by omega) ?_
      refine zw_some ?_
      refine zw_b (by omega) ?_
      refine zw_some ?_
      refine zw_ite (fun h141 => ?_) (fun h141 => ?_)
      · exfalso; omega
      · refine zw_b (by omega) ?_
        refine zw_some ?_
        refine zw_ite (fun h142 => ?_) (fun h142 => ?_)
        · exfalso; omega
        · refine zw_b (by omega) ?_
          have r143 : 0 ≤ (m140 a0 7) ∧ (m140 a0 7) ≤ 700 := zi_rd hIm140 hc0 zb_28_7
          have r144 : 0 ≤ (m140 a0 8) ∧ (m140 a0 8) ≤ 6 := zi_rd hIm140 hc0 zb_28_8
          have e145 : (m140 a0 8) = (m9 a0 8) := (Eq.trans (zs_ne hmm140 (Or.inr (by decide))) (zs_ne hmm138 (Or.inr (by decide))))
          have r146 : (-2147483648) ≤ (m140 a0 4) ∧ (m140 a0 4) ≤ 2147483647 := zi_rd hIm140 hc0 zb_28_4
          have e147 : (m140 a0 4) = 1 := (Eq.trans (zs_ne hmm140 (Or.inr (by decide))) (zs_eq hmm138))
          exact zw_some ⟨hIm140, hFm140, hRCRm140, hRLRm140, hRNSm140, hRTRm140, hRWDm140, ⟨by omega, by omega⟩, by omega, by omega, by omega⟩
  · refine zw_bd (zw_eq (zu_call_at (zt_T n) (zm_85 n) (zdp_85 n) _ _ _ _ _ rfl (zr_85_0 n _ _ a0 2 m0)) ?_)
    generalize hmm148 : zu_up m0 a0 4 2 = m148
    have hIm148 := zi_up hmm148 hIm0 hc0 zb_28_4 (by omega) (by omega)
    have hFm148 := zfr_up hmm148 hFm0 hc0 rfl
    have hRCRm148 := zR_CR_fr (zdis_fr (zfr_up hmm148 (zfr_rf [(28, 5)] _) hc0 rfl) rfl) hRCRm0
    have hRNSm148 := zR_NS_fr (zdis_fr (zfr_up hmm148 (zfr_rf [(28, 5)] _) hc0 rfl) rfl) hRNSm0
    have hRTRm148 := zR_TR_fr (zdis_fr (zfr_up hmm148 (zfr_rf [(28, 5)] _) hc0 rfl) rfl) hRTRm0
    have hRWDm148 := zR_WD_fr (zdis_fr (zfr_up hmm148 (zfr_rf [(28, 5)] _) hc0 rfl) rfl) hRWDm0
    have hRLRm148 := zLR_wr (zone_190 hc0) hmm148 (by decide)
    have r149 : 0 ≤ (m148 a0 10) ∧ (m148 a0 10) ≤ 700 := zi_rd hIm148 hc0 zb_28_10
    generalize hmm150 : zu_up m148 a0 5 (m148 a0 10) = m150
    have hIm150 := zi_up hmm150 hIm148 hc0 zb_28_5 (by omega) (by omega)
    have hFm150 := zfr_up hmm150 hFm148 hc0 rfl
    have hRCRm150 := zR_CR_fr (zdis_fr (zfr_up hmm150 (zfr_rf [(28, 6)] _) hc0 rfl) rfl) hRCRm148
    have hRLRm150 := zR_LR_fr (zdis_fr (zfr_up hmm150 (zfr_rf [(28, 6)] _) hc0 rfl) rfl) hRLRm148
    have hRNSm150 := zR_NS_fr (zdis_fr (zfr_up hmm150 (zfr_rf [(28, 6)] _) hc0 rfl) rfl) hRNSm148
    have hRTRm150 := zR_TR_fr (zdis_fr (zfr_up hmm150 (zfr_rf [(28, 6)] _) hc0 rfl) rfl) hRTRm148
    have hRWDm150 := zR_WD_fr (zdis_fr (zfr_up hmm150 (zfr_rf [(28, 6)] _) hc0 rfl) rfl) hRWDm148
    refine zw_b (by omega) ?_
    refine zw_some ?_
    refine zw_b (by omega) ?_
    have r151 : 0 ≤ (m150 a0 7) ∧ (m150 a0 7) ≤ 700 := zi_rd hIm150 hc0 zb_28_7
    have r152 : 0 ≤ (m150 a0 8) ∧ (m150 a0 8) ≤ 6 := zi_rd hIm150 hc0 zb_28_8
    have e153 : (m150 a0 8) = (m0 a0 8) := (Eq.trans (zs_ne hmm150 (Or.inr (by decide))) (zs_ne hmm148 (Or.inr (by decide))))
    have r154 : (-2147483648) ≤ (m150 a0 4) ∧ (m150 a0 4) ≤ 2147483647 := zi_rd hIm150 hc0 zb_28_4
    have e155 : (m150 a0 4) = 2 := (Eq.trans (zs_ne hmm150 (Or.inr (by decide))) (zs_eq hmm148))
    exact zw_some ⟨hIm150, hFm150, hRCRm150, hRLRm150, hRNSm150, hRTRm150, hRWDm150, ⟨by omega, by omega⟩, by omega, by omega, by omega⟩
set_option maxHeartbeats 4000000 in
theorem zk_101 (n : Nat) {a0 : Int} {m0 : zu_m} (hIm0 : zi_I m0) (hc0 : zcls a0 = 28)   (he0 : 1 ≤ m0 a0 8 ∧ m0 a0 8 ≤ 1) (he1 : 4 ≤ m0 a0 9 ∧ m0 a0 9 ≤ 4)  (hRCRm0 : zR_CR m0) (hRLRm0 : zR_LR m0) (hRNSm0 : zR_NS m0) (hRTRm0 : zR_TR m0) (hRWDm0 : zR_WD m0) : zw (zu_call (zt_T n) 101 [(40, a0)] m0) (fun v m => zi_I m ∧ zfr [(28, 5), (28, 6), (28, 8), (28, 9), (28, 10), (28, 11), (28, 12), (28, 20), (28, 24), (28, 43), (106, 0), (107, 0), (108, 0)] m0 m ∧ zR_CR m ∧ zR_LR m ∧ zR_NS m ∧ zR_TR m ∧ zR_WD m ∧ (0 ≤ v ∧ v ≤ 1) ∧ ((m0 a0 7) ≤ (m a0 7)) ∧ (v = 1 → ((m a0 8) = 0 ∨ (m0 a0 7) < (m a0 7))) ∧ (v = 1 → (m a0 4) = (m0 a0 4))) := by
  have hFm0 : zfr [(28, 5), (28, 6), (28, 8), (28, 9), (28, 10), (28, 11), (28, 12), (28, 20), (28, 24), (28, 43), (106, 0), (107, 0), (108, 0)] m0 m0 := zfr_rf _ _
  have s1 := hRNSm0 a0 hc0
  have s2 := hRTRm0 a0 hc0
  refine zw_eq (zu_call_at (zt_T n) (zm_101 n) (zdp_101 n) _ _ _ _ _ rfl (zr_101_0 n _ _ a0 m0)) ?_
  have r3 : 0 ≤ (m0 a0 19) ∧ (m0 a0 19) ≤ 12 := zi_rd hIm0 hc0 zb_28_19
  refine zw_ite (fun h4 => ?_) (fun h4 => ?_)
  · refine zw_bd (zw_mono (zk_89 n hIm0 hc0 hRNSm0 hRWDm0) (fun v6 m5 hqm5 => ?_))
    obtain ⟨hIm5, hfm5, hvm5⟩ := hqm5
    have hFm5 := zfr_tr hFm0 hfm5 rfl
    obtain ⟨hRNSm5, hRTRm5, hRWDm5, hvm5⟩ := hvm5
    have hRCRm5 := zR_CR_fr (zdis_fr hfm5 rfl) hRCRm0
    have hRLRm5 := zR_LR_fr (zdis_fr hfm5 rfl) hRLRm0
    have s7 := hRNSm5 a0 hc0
    have s8 := hRTRm5 a0 hc0
    have r9 : 0 ≤ (m5 a0 19) ∧ (m5 a0 19) ≤ 12 := zi_rd hIm5 hc0 zb_28_19
    have e10 : (m5 a0 19) = (m0 a0 19) := (zfr_ap hfm5 hc0 rfl)
    have w11 := zu_w32_id (z := 18 + (m5 a0 19)) (by omega) (by omega)
    refine zw_bd (zw_eq (zu_call_at (zt_T n) (zm_97 n) (zdp_97 n) _ _ _ _ _ rfl (zr_97_0 n _ _ a0 12 15 m5)) ?_)
    have r12 : 0 ≤ (m5 a0 8) ∧ (m5 a0 8) ≤ 6 := zi_rd hIm5 hc0 zb_28_8
    refine zw_ite (fun h13 => ?_) (fun h13 => ?_)
    · refine zw_bd (zw_eq (zu_call_at (zt_T n) (zm_85 n) (zdp_85 n) _ _ _ _ _ rfl (zr_85_0 n _ _ a0 1 m5)) ?_)
      generalize hmm14 : zu_up m5 a0 4 1 = m14
      have hIm14 := zi_up hmm14 hIm5 hc0 zb_28_4 (by omega) (by omega)
      have hFm14 := zfr_up hmm14 hFm5 hc0 rfl
      have hRCRm14 := zR_CR_fr (zdis_fr (zfr_up hmm14 (zfr_rf [(28, 5)] _) hc0 rfl) rfl) hRCRm5
      have hRNSm14 := zR_NS_fr (zdis_fr (zfr_up hmm14 (zfr_rf [(28, 5)] _) hc0 rfl) rfl) hRNSm5
      have hRTRm14 := zR_TR_fr (zdis_fr (zfr_up hmm14 (zfr_rf [(28, 5)] _) hc0 rfl) rfl) hRTRm5
      have hRWDm14 := zR_WD_fr (zdis_fr (zfr_up hmm14 (zfr_rf [(28, 5)] _) hc0 rfl) rfl) hRWDm5
      have hRLRm14 := zLR_wr (zone_190 hc0) hmm14 (by decide)
      have r15 : 0 ≤ (m14 a0 10) ∧ (m14 a0 10) ≤ 700 := zi_rd hIm14 hc0 zb_28_10
      generalize hmm16 : zu_up m14 a0 5 (m14 a0 10) = m16
      have hIm16 := zi_up hmm16 hIm14 hc0 zb_28_5 (by omega) (by omega)
      have hFm16 := zfr_up hmm16 hFm14 hc0 rfl
      have hRCRm16 := zR_CR_fr (zdis_fr (zfr_up hmm16 (zfr_rf [(28, 6)] _) hc0 rfl) rfl) hRCRm14
      have hRLRm16 := zR_LR_fr (zdis_fr (zfr_up hmm16 (zfr_rf [(28, 6)] _) hc0 rfl) rfl) hRLRm14
      have hRNSm16 := zR_NS_fr (zdis_fr (zfr_up hmm16 (zfr_rf [(28, 6)] _) hc0 rfl) rfl) hRNSm14
      have hRTRm16 := zR_TR_fr (zdis_fr (zfr_up hmm16 (zfr_rf [(28, 6)] _) hc0 rfl) rfl) hRTRm14
      have hRWDm16 := zR_WD_fr (zdis_fr (zfr_up hmm16 (zfr_rf [(28, 6)] _) hc0 rfl) rfl) hRWDm14
      refine zw_b (by omega) ?_
      refine zw_some ?_
      refine zw_b (by omega) ?_
      refine zw_some ?_
      refine zw_ite (fun h17 => ?_) (fun h17 => ?_)
      · exfalso; omega
      · refine zw_b (by omega) ?_
        have r18 : 0 ≤ (m16 a0 7) ∧ (m16 a0 7) ≤ 700 := zi_rd hIm16 hc0 zb_28_7
        have r19 : 0 ≤ (m16 a0 8) ∧ (m16 a0 8) ≤ 6 := zi_rd hIm16 hc0 zb_28_8
        have e20 : (m16 a0 8) = (m5 a0 8) := (Eq.trans (zs_ne hmm16 (Or.inr (by decide))) (zs_ne hmm14 (Or.inr (by decide))))
        have r21 : (-2147483648) ≤ (m16 a0 4) ∧ (m16 a0 4) ≤ 2147483647 := zi_rd hIm16 hc0 zb_28_4
        have e22 : (m16 a0 4) = 1 := (Eq.trans (zs_ne hmm16 (Or.inr (by decide))) (zs_eq hmm14))
        exact zw_some ⟨hIm16, hFm16, hRCRm16, hRLRm16, hRNSm16, hRTRm16, hRWDm16, ⟨by omega, by omega⟩, by omega, by omega, by omega⟩
    · refine zw_ite (fun h23 => ?_) (fun h23 => ?_)
      · refine zw_bd (zw_eq (zu_call_at (zt_T n) (zm_85 n) (zdp_85 n) _ _ _ _ _ rfl (zr_85_0 n _ _ a0 1 m5)) ?_)
        generalize hmm24 : zu_up m5 a0 4 1 = m24
        have hIm24 := zi_up hmm24 hIm5 hc0 zb_28_4 (by omega) (by omega)
        have hFm24 := zfr_up hmm24 hFm5 hc0 rfl
        have hRCRm24 := zR_CR_fr (zdis_fr (zfr_up hmm24 (zfr_rf [(28, 5)] _) hc0 rfl) rfl) hRCRm5
        have hRNSm24 := zR_NS_fr (zdis_fr (zfr_up hmm24 (zfr_rf [(28, 5)] _) hc0 rfl) rfl) hRNSm5
        have hRTRm24 := zR_TR_fr (zdis_fr (zfr_up hmm24 (zfr_rf [(28, 5)] _) hc0 rfl) rfl) hRTRm5
        have hRWDm24 := zR_WD_fr (zdis_fr (zfr_up hmm24 (zfr_rf [(28, 5)] _) hc0 rfl) rfl) hRWDm5
        have hRLRm24 := zLR_wr (zone_190 hc0) hmm24 (by decide)
        have r25 : 0 ≤ (m24 a0 10) ∧ (m24 a0 10) ≤ 700 := zi_rd hIm24 hc0 zb_28_10
        generalize hmm26 : zu_up m24 a0 5 (m24 a0 10) = m26
        have hIm26 := zi_up hmm26 hIm24 hc0 zb_28_5 (by omega) (by omega)
        have hFm26 := zfr_up hmm26 hFm24 hc0 rfl
        have hRCRm26 := zR_CR_fr (zdis_fr (zfr_up hmm26 (zfr_rf [(28, 6)] _) hc0 rfl) rfl) hRCRm24
        have hRLRm26 := zR_LR_fr (zdis_fr (zfr_up hmm26 (zfr_rf [(28, 6)] _) hc0 rfl) rfl) hRLRm24
        have hRNSm26 := zR_NS_fr (zdis_fr (zfr_up hmm26 (zfr_rf [(28, 6)] _) hc0 rfl) rfl) hRNSm24
        have hRTRm26 := zR_TR_fr (zdis_fr (zfr_up hmm26 (zfr_rf [(28, 6)] _) hc0 rfl) rfl) hRTRm24
        have hRWDm26 := zR_WD_fr (zdis_fr (zfr_up hmm26 (zfr_rf [(28, 6)] _) hc0 rfl) rfl) hRWDm24
        refine zw_b (by omega) ?_
        refine zw_some ?_
        refine zw_b (by omega) ?_
        refine zw_some ?_
        refine zw_ite (fun h27 => ?_) (fun h27 => ?_)
        · exfalso; omega
        · refine zw_b (by omega) ?_
          have r28 : 0 ≤ (m26 a0 7) ∧ (m26 a0 7) ≤ 700 := zi_rd hIm26 hc0 zb_28_7
          have r29 : 0 ≤ (m26 a0 8) ∧ (m26 a0 8) ≤ 6 := zi_rd hIm26 hc0 zb_28_8
          have e30 : (m26 a0 8) = (m5 a0 8) := (Eq.trans (zs_ne hmm26 (Or.inr (by decide))) (zs_ne hmm24 (Or.inr (by decide))))
          have r31 : (-2147483648) ≤ (m26 a0 4) ∧ (m26 a0 4) ≤ 2147483647 := zi_rd hIm26 hc0 zb_28_4
          have e32 : (m26 a0 4) = 1 := (Eq.trans (zs_ne hmm26 (Or.inr (by decide))) (zs_eq hmm24))
          exact zw_some ⟨hIm26, hFm26, hRCRm26, hRLRm26, hRNSm26, hRTRm26, hRWDm26, ⟨by omega, by omega⟩, by omega, by omega, by omega⟩
      · refine zw_ite (fun h33 => ?_) (fun h33 => ?_)
        · have w34 := zu_w32_id (z := (m5 a0 9) - 12) (by omega) (by omega)
          refine zw_bd (zw_mono (zk_89 n hIm5 hc0 hRNSm5 hRWDm5) (fun v36 m35 hqm35 => ?_))
          obtain ⟨hIm35, hfm35, hvm35⟩ := hqm35
          have hFm35 := zfr_tr hFm5 hfm35 rfl
          obtain ⟨hRNSm35, hRTRm35, hRWDm35, hvm35⟩ := hvm35
          have hRCRm35 := zR_CR_fr (zdis_fr hfm35 rfl) hRCRm5
          have hRLRm35 := zR_LR_fr (zdis_fr hfm35 rfl) hRLRm5
          have s37 := hRNSm35 a0 hc0
          have s38 := hRTRm35 a0 hc0
          generalize hmm39 : zu_up m35 a0 11 (zu_w32 ((m5 a0 9) - 12)) = m39
          have hIm39 := zi_up hmm39 hIm35 hc0 zb_28_11 (by omega) (by omega)
          have hFm39 := zfr_up hmm39 hFm35 hc0 rfl
          have hRCRm39 := zR_CR_fr (zdis_fr (zfr_up hmm39 (zfr_rf [(28, 12)] _) hc0 rfl) rfl) hRCRm35
          have hRLRm39 := zR_LR_fr (zdis_fr (zfr_up hmm39 (zfr_rf [(28, 12)] _) hc0 rfl) rfl) hRLRm35
          have hRNSm39 := zR_NS_fr (zdis_fr (zfr_up hmm39 (zfr_rf [(28, 12)] _) hc0 rfl) rfl) hRNSm35
          have hRTRm39 := zR_TR_fr (zdis_fr (zfr_up hmm39 (zfr_rf [(28, 12)] _) hc0 rfl) rfl) hRTRm35
          have hRWDm39 := zR_WD_fr (zdis_fr (zfr_up hmm39 (zfr_rf [(28, 12)] _) hc0 rfl) rfl) hRWDm35
          refine zw_b (by omega) ?_
          refine zw_some ?_
          refine zw_ite (fun h40 => ?_) (fun h40 => ?_)
          · have r41 : (-2147483648) ≤ (m39 a0 11) ∧ (m39 a0 11) ≤ 2147483647 := zi_rd hIm39 hc0 zb_28_11
            have e42 : (m39 a0 11) = (zu_w32 ((m5 a0 9) - 12)) := (zs_eq hmm39)
            have b43 : 0 ≤ (zu_w32 (18 + (m5 a0 19))) ∧ (zu_w32 (18 + (m5 a0 19))) < 36 := by omega
            refine zw_if b43 ?_
            generalize hmm44 : zu_up m39 198 (zu_w32 (18 + (m5 a0 19))) (m39 a0 11) = m44
            have hIm44 := zi_up hmm44 hIm39 zq_198 (zb_107 _) (by omega) (by omega)
            have hFm44 := zfr_up hmm44 hFm39 zq_198 rfl
            have hRCRm44 := zR_CR_fr (zdis_fr (zfr_up hmm44 (zfr_rf [(107, 0)] _) zq_198 rfl) rfl) hRCRm39
            have hRLRm44 := zR_LR_fr (zdis_fr (zfr_up hmm44 (zfr_rf [(107, 0)] _) zq_198 rfl) rfl) hRLRm39
            have hRNSm44 := zR_NS_fr (zdis_fr (zfr_up hmm44 (zfr_rf [(107, 0)] _) zq_198 rfl) rfl) hRNSm39
            have hRTRm44 := zR_TR_fr (zdis_fr (zfr_up hmm44 (zfr_rf [(107, 0)] _) zq_198 rfl) rfl) hRTRm39
            have hRWDm44 := zR_WD_fr (zdis_fr (zfr_up hmm44 (zfr_rf [(107, 0)] _) zq_198 rfl) rfl) hRWDm39
            refine zw_bd (zw_eq (zu_call_at (zt_T n) (zm_96 n) (zdp_96 n) _ _ _ _ _ rfl (zr_96_0 n _ _ a0 m44)) ?_)
            refine zw_b (by omega) ?_
            generalize hmm45 : zu_up m44 a0 23 1 = m45
            have hIm45 := zi_up hmm45 hIm44 hc0 zb_28_23 (by omega) (by omega)
            have hFm45 := zfr_up hmm45 hFm44 hc0 rfl
            have hRLRm45 := zR_LR_fr (zdis_fr (zfr_up hmm45 (zfr_rf [(28, 24)] _) hc0 rfl) rfl) hRLRm44
            have hRNSm45 := zR_NS_fr (zdis_fr (zfr_up hmm45 (zfr_rf [(28, 24)] _) hc0 rfl) rfl) hRNSm44
            have hRTRm45 := zR_TR_fr (zdis_fr (zfr_up hmm45 (zfr_rf [(28, 24)] _) hc0 rfl) rfl) hRTRm44
            have hRWDm45 := zR_WD_fr (zdis_fr (zfr_up hmm45 (zfr_rf [(28, 24)] _) hc0 rfl) rfl) hRWDm44
            have hRCRm45 := zCR_cells (zone_190 hc0) hmm45 rfl hRCRm44
            have r46 : 1 ≤ (m45 a0 17) ∧ (m45 a0 17) ≤ 8 := zi_rd hIm45 hc0 zb_28_17
            have w47 := zu_w32_id (z := (m45 a0 17) - 1) (by omega) (by omega)
            refine zw_bd (zw_eq (zu_call_at (zt_T n) (zm_94 n) (zdp_94 n) _ _ _ _ _ rfl (zr_94_0 n _ _ a0 0 (zu_w32 ((m45 a0 17) - 1)) m45)) ?_)
            have r48 : 0 ≤ (m45 a0 8) ∧ (m45 a0 8) ≤ 6 := zi_rd hIm45 hc0 zb_28_8
            refine zw_ite (fun h49 => ?_) (fun h49 => ?_)
            · have r50 : (-2147483648) ≤ (m45 a0 9) ∧ (m45 a0 9) ≤ 2147483647 := zi_rd hIm45 hc0 zb_28_9
              refine zw_bd (zw_eq (zu_call_at (zt_T n) (zm_83 n) (zdp_83 n) _ _ _ _ _ rfl (zr_83_0 n _ _ (m45 a0 9) 0 (zu_w32 ((m45 a0 17) - 1)) m45)) ?_)
              refine zw_ite (fun h51 => ?_) (fun h51 => ?_)
              · refine zw_b (by omega) ?_
                refine zw_some ?_
                refine zw_ite (fun h52 => ?_) (fun h52 => ?_)
                · exfalso; omega
                · refine zw_bd (zw_eq (zu_call_at (zt_T n) (zm_85 n) (zdp_85 n) _ _ _ _ _ rfl (zr_85_0 n _ _ a0 2 m45)) ?_)
                  generalize hmm53 : zu_up m45 a0 4 2 = m53
                  have hIm53 := zi_up hmm53 hIm45 hc0 zb_28_4 (by omega) (by omega)
                  have hFm53 := zfr_up hmm53 hFm45 hc0 rfl
                  have hRCRm53 := zR_CR_fr (zdis_fr (zfr_up hmm53 (zfr_rf [(28, 5)] _) hc0 rfl) rfl) hRCRm45
                  have hRNSm53 := zR_NS_fr (zdis_fr (zfr_up hmm53 (zfr_rf [(28, 5)] _) hc0 rfl) rfl) hRNSm45
                  have hRTRm53 := zR_TR_fr (zdis_fr (zfr_up hmm53 (zfr_rf [(28, 5)] _) hc0 rfl) rfl) hRTRm45
                  have hRWDm53 := zR_WD_fr (zdis_fr (zfr_up hmm53 (zfr_rf [(28, 5)] _) hc0 rfl) rfl) hRWDm45
                  have hRLRm53 := zLR_wr (zone_190 hc0) hmm53 (by decide)
                  have r54 : 0 ≤ (m53 a0 10) ∧ (m53 a0 10) ≤ 700 := zi_rd hIm53 hc0 zb_28_10
                  generalize hmm55 : zu_up m53 a0 5 (m53 a0 10) = m55
                  have hIm55 := zi_up hmm55 hIm53 hc0 zb_28_5 (by omega) (by omega)
                  have hFm55 := zfr_up hmm55 hFm53 hc0 rfl
                  have hRCRm55 := zR_CR_fr (zdis_fr (zfr_up hmm55 (zfr_rf [(28, 6)] _) hc0 rfl) rfl) hRCRm53
                  have hRLRm55 := zR_LR_fr (zdis_fr (zfr_up hmm55 (zfr_rf [(28, 6)] _) hc0 rfl) rfl) hRLRm53
                  have hRNSm55 := zR_NS_fr (zdis_fr (zfr_up hmm55 (zfr_rf [(28, 6)] _) hc0 rfl) rfl) hRNSm53
                  have hRTRm55 := zR_TR_fr (zdis_fr (zfr_up hmm55 (zfr_rf [(28, 6)] _) hc0 rfl) rfl) hRTRm53
                  have hRWDm55 := zR_WD_fr (zdis_fr (zfr_up hmm55 (zfr_rf [(28, 6)] _) hc0 rfl) rfl) hRWDm53
                  refine zw_b (by omega) ?_
                  refine zw_some ?_
                  refine zw_b (by omega) ?_
                  refine zw_some ?_
                  refine zw_ite (fun h56 => ?_) (fun h56 => ?_)
                  · exfalso; omega
                  · refine zw_b (by omega) ?_
                    refine zw_some ?_
                    refine zw_ite (fun h57 => ?_) (fun h57 => ?_)
                    · exfalso; omega
                    · refine zw_b (by omega) ?_
                      have r58 : 0 ≤ (m55 a0 7) ∧ (m55 a0 7) ≤ 700 := zi_rd hIm55 hc0 zb_28_7
                      have r59 : 0 ≤ (m55 a0 8) ∧ (m55 a0 8) ≤ 6 := zi_rd hIm55 hc0 zb_28_8
                      have e60 : (m55 a0 8) = (m45 a0 8) := (Eq.trans (zs_ne hmm55 (Or.inr (by decide))) (zs_ne hmm53 (Or.inr (by decide))))
                      have r61 : (-2147483648) ≤ (m55 a0 4) ∧ (m55 a0 4) ≤ 2147483647 := zi_rd hIm55 hc0 zb_28_4
                      have e62 : (m55 a0 4) = 2 := (Eq.trans (zs_ne hmm55 (Or.inr (by decide))) (zs_eq hmm53))
                      exact zw_some ⟨hIm55, hFm55, hRCRm55, hRLRm55, hRNSm55, hRTRm55, hRWDm55, ⟨by omega, by omega⟩, by omega, by omega, by omega⟩
              · refine zw_ite (fun h63 => ?_) (fun h63 => ?_)
                · refine zw_b (by omega) ?_
                  refine zw_some ?_
                  refine zw_ite (fun h64 => ?_) (fun h64 => ?_)
                  · exfalso; omega
                  · refine zw_bd (zw_eq (zu_call_at (zt_T n) (zm_85 n) (zdp_85 n) _ _ _ _ _ rfl (zr_85_0 n _ _ a0 2 m45)) ?_)
                    generalize hmm65 : zu_up m45 a0 4 2 = m65
                    have hIm65 := zi_up hmm65 hIm45 hc0 zb_28_4 (by omega) (by omega)
                    have hFm65 := zfr_up hmm65 hFm45 hc0 rfl
                    have hRCRm65 := zR_CR_fr (zdis_fr (zfr_up hmm65 (zfr_rf [(28, 5)] _) hc0 rfl) rfl) hRCRm45
                    have hRNSm65 := zR_NS_fr (zdis_fr (zfr_up hmm65 (zfr_rf [(28, 5)] _) hc0 rfl) rfl) hRNSm45
                    have hRTRm65 := zR_TR_fr (zdis_fr (zfr_up hmm65 (zfr_rf [(28, 5)] _) hc0 rfl) rfl) hRTRm45
                    have hRWDm65 := zR_WD_fr (zdis_fr (zfr_up hmm65 (zfr_rf [(28, 5)] _) hc0 rfl) rfl) hRWDm45
                    have hRLRm65 := zLR_wr (zone_190 hc0) hmm65 (by decide)
                    have r66 : 0 ≤ (m65 a0 10) ∧ (m65 a0 10) ≤ 700 := zi_rd hIm65 hc0 zb_28_10
                    generalize hmm67 : zu_up m65 a0 5 (m65 a0 10) = m67
                    have hIm67 := zi_up hmm67 hIm65 hc0 zb_28_5 (by omega) (by omega)
                    have hFm67 := zfr_up hmm67 hFm65 hc0 rfl
                    have hRCRm67 := zR_CR_fr (zdis_fr (zfr_up hmm67 (zfr_rf [(28, 6)] _) hc0 rfl) rfl) hRCRm65
                    have hRLRm67 := zR_LR_fr (zdis_fr (zfr_up hmm67 (zfr_rf [(28, 6)] _) hc0 rfl) rfl) hRLRm65
                    have hRNSm67 := zR_NS_fr (zdis_fr (zfr_up hmm67 (zfr_rf [(28, 6)] _) hc0 rfl) rfl) hRNSm65
                    have hRTRm67 := zR_TR_fr (zdis_fr (zfr_up hmm67 (zfr_rf [(28, 6)] _) hc0 rfl) rfl) hRTRm65
                    have hRWDm67 := zR_WD_fr (zdis_fr (zfr_up hmm67 (zfr_rf [(28, 6)] _) hc0 rfl) rfl) hRWDm65
                    refine zw_b (by omega) ?_
                    refine zw_some ?_
                    refine zw_b (by omega) ?_
                    refine zw_some ?_
                    refine zw_ite (fun h68 => ?_) (fun h68 => ?_)
                    · exfalso; omega
                    · refine zw_b (by omega) ?_
                      refine zw_some ?_
                      refine zw_ite (fun h69 => ?_) (fun h69 => ?_)
                      · exfalso; omega
                      · refine zw_b (by omega) ?_
                        have r70 : 0 ≤ (m67 a0 7) ∧ (m67 a0 7) ≤ 700 := zi_rd hIm67 hc0 zb_28_7
                        have r71 : 0 ≤ (m67 a0 8) ∧ (m67 a0 8) ≤ 6 := zi_rd hIm67 hc0 zb_28_8
                        have e72 : (m67 a0 8) = (m45 a0 8) := (Eq.trans (zs_ne hmm67 (Or.inr (by decide))) (zs_ne hmm65 (Or.inr (by decide))))
                        have r73 : (-2147483648) ≤ (m67 a0 4) ∧ (m67 a0 4) ≤ 2147483647 := zi_rd hIm67 hc0 zb_28_4
                        have e74 : (m67 a0 4) = 2 := (Eq.trans (zs_ne hmm67 (Or.inr (by decide))) (zs_eq hmm65))
                        exact zw_some ⟨hIm67, hFm67, hRCRm67, hRLRm67, hRNSm67, hRTRm67, hRWDm67, ⟨by omega, by omega⟩, by omega, by omega, by omega⟩
                · refine zw_b (by omega) ?_
                  refine zw_some ?_
                  refine zw_ite (fun h75 => ?_) (fun h75 => ?_)
                  · generalize hmm76 : zu_up m45 a0 11 (m45 a0 9) = m76
                    have hIm76 := zi_up hmm76 hIm45 hc0 zb_28_11 (by omega) (by omega)
                    have hFm76 := zfr_up hmm76 hFm45 hc0 rfl
                    have hRCRm76 := zR_CR_fr (zdis_fr (zfr_up hmm76 (zfr_rf [(28, 12)] _) hc0 rfl) rfl) hRCRm45
                    have hRLRm76 := zR_LR_fr (zdis_fr (zfr_up hmm76 (zfr_rf [(28, 12)] _) hc0 rfl) rfl) hRLRm45
                    have hRNSm76 := zR_NS_fr (zdis_fr (zfr_up hmm76 (zfr_rf [(28, 12)] _) hc0 rfl) rfl) hRNSm45
                    have hRTRm76 := zR_TR_fr (zdis_fr (zfr_up hmm76 (zfr_rf [(28, 12)] _) hc0 rfl) rfl) hRTRm45
                    have hRWDm76 := zR_WD_fr (zdis_fr (zfr_up hmm76 (zfr_rf [(28, 12)] _) hc0 rfl) rfl) hRWDm45
                    refine zw_bd (zw_mono (zk_89 n hIm76 hc0 hRNSm76 hRWDm76) (fun v78 m77 hqm77 => ?_))
                    obtain ⟨hIm77, hfm77, hvm77⟩ := hqm77
                    have hFm77 := zfr_tr hFm76 hfm77 rfl
                    obtain ⟨hRNSm77, hRTRm77, hRWDm77, hvm77⟩ := hvm77
                    have hRCRm77 := zR_CR_fr (zdis_fr hfm77 rfl) hRCRm76
                    have hRLRm77 := zR_LR_fr (zdis_fr hfm77 rfl) hRLRm76
                    have s79 := hRNSm77 a0 hc0
                    have s80 := hRTRm77 a0 hc0
                    refine zw_b (by omega) ?_
                    refine zw_some ?_
                    refine zw_ite (fun h81 => ?_) (fun h81 => ?_)
                    · have r82 : (-2147483648) ≤ (m77 a0 11) ∧ (m77 a0 11) ≤ 2147483647 := zi_rd hIm77 hc0 zb_28_11
                      have e83 : (m77 a0 11) = (m45 a0 9) := (Eq.trans (zfr_ap hfm77 hc0 rfl) (zs_eq hmm76))
                      have r84 : 0 ≤ (m77 a0 10) ∧ (m77 a0 10) ≤ 700 := zi_rd hIm77 hc0 zb_28_10
                      generalize hmm85 : zu_up m77 a0 42 (m77 a0 10) = m85
                      have hIm85 := zi_up hmm85 hIm77 hc0 zb_28_42 (by omega) (by omega)
                      have hFm85 := zfr_up hmm85 hFm77 hc0 rfl
                      have hRCRm85 := zR_CR_fr (zdis_fr (zfr_up hmm85 (zfr_rf [(28, 43)] _) hc0 rfl) rfl) hRCRm77
                      have hRLRm85 := zR_LR_fr (zdis_fr (zfr_up hmm85 (zfr_rf [(28, 43)] _) hc0 rfl) rfl) hRLRm77
                      have hRNSm85 := zR_NS_fr (zdis_fr (zfr_up hmm85 (zfr_rf [(28, 43)] _) hc0 rfl) rfl) hRNSm77
                      have hRTRm85 := zR_TR_fr (zdis_fr (zfr_up hmm85 (zfr_rf [(28, 43)] _) hc0 rfl) rfl) hRTRm77
                      have hRWDm85 := zR_WD_fr (zdis_fr (zfr_up hmm85 (zfr_rf [(28, 43)] _) hc0 rfl) rfl) hRWDm77
                      have r86 : 1 ≤ (m85 a0 18) ∧ (m85 a0 18) ≤ 6 := zi_rd hIm85 hc0 zb_28_18
                      have w87 := zu_w32_id (z := (m85 a0 18) - 1) (by omega) (by omega)
                      refine zw_bd (zw_eq (zu_call_at (zt_T n) (zm_94 n) (zdp_94 n) _ _ _ _ _ rfl (zr_94_0 n _ _ a0 0 (zu_w32 ((m85 a0 18) - 1)) m85)) ?_)
                      have r88 : 0 ≤ (m85 a0 8) ∧ (m85 a0 8) ≤ 6 := zi_rd hIm85 hc0 zb_28_8
                      refine zw_ite (fun h89 => ?_) (fun h89 => ?_)
                      · have r90 : (-2147483648) ≤ (m85 a0 9) ∧ (m85 a0 9) ≤ 2147483647 := zi_rd hIm85 hc0 zb_28_9
                        refine zw_bd (zw_eq (zu_call_at (zt_T n) (zm_83 n) (zdp_83 n) _ _ _ _ _ rfl (zr_83_0 n _ _ (m85 a0 9) 0 (zu_w32 ((m85 a0 18) - 1)) m85)) ?_)
                        refine zw_ite (fun h91 => ?_) (fun h91 => ?_)
                        · refine zw_b (by omega) ?_
                          refine zw_some ?_
                          refine zw_ite (fun h92 => ?_) (fun h92 => ?_)
                          · exfalso; omega
                          · refine zw_bd (zw_eq (zu_call_at (zt_T n) (zm_85 n) (zdp_85 n) _ _ _ _ _ rfl (zr_85_0 n _ _ a0 2 m85)) ?_)
                            generalize hmm93 : zu_up m85 a0 4 2 = m93
                            have hIm93 := zi_up hmm93 hIm85 hc0 zb_28_4 (by omega) (by omega)
                            have hFm93 := zfr_up hmm93 hFm85 hc0 rfl
                            have hRCRm93 := zR_CR_fr (zdis_fr (zfr_up hmm93 (zfr_rf [(28, 5)] _) hc0 rfl) rfl) hRCRm85
                            have hRNSm93 := zR_NS_fr (zdis_fr (zfr_up hmm93 (zfr_rf [(28, 5)] _) hc0 rfl) rfl) hRNSm85
                            have hRTRm93 := zR_TR_fr (zdis_fr (zfr_up hmm93 (zfr_rf [(28, 5)] _) hc0 rfl) rfl) hRTRm85
                            have hRWDm93 := zR_WD_fr (zdis_fr (zfr_up hmm93 (zfr_rf [(28, 5)] _) hc0 rfl) rfl) hRWDm85
                            have hRLRm93 := zLR_wr (zone_190 hc0) hmm93 (by decide)
                            have r94 : 0 ≤ (m93 a0 10) ∧ (m93 a0 10) ≤ 700 := zi_rd hIm93 hc0 zb_28_10
                            have e95 : (m93 a0 10) = (m77 a0 10) := (Eq.trans (zs_ne hmm93 (Or.inr (by decide))) (zs_ne hmm85 (Or.inr (by decide))))
                            generalize hmm96 : zu_up m93 a0 5 (m93 a0 10) = m96
                            have hIm96 := zi_up hmm96 hIm93 hc0 zb_28_5 (by omega) (by omega)
                            have hFm96 := zfr_up hmm96 hFm93 hc0 rfl
                            have hRCRm96 := zR_CR_fr (zdis_fr (zfr_up hmm96 (zfr_rf [(28, 6)] _) hc0 rfl) rfl) hRCRm93
                            have hRLRm96 := zR_LR_fr (zdis_fr (zfr_up hmm96 (zfr_rf [(28, 6)] _) hc0 rfl) rfl) hRLRm93
                            have hRNSm96 := zR_NS_fr (zdis_fr (zfr_up hmm96 (zfr_rf [(28, 6)] _) hc0 rfl) rfl) hRNSm93
                            have hRTRm96 := zR_TR_fr (zdis_fr (zfr_up hmm96 (zfr_rf [(28, 6)] _) hc0 rfl) rfl) hRTRm93
                            have hRWDm96 := zR_WD_fr (zdis_fr (zfr_up hmm96 (zfr_rf [(28, 6)] _) hc0 rfl) rfl) hRWDm93
                            refine zw_b (by omega) ?_
                            refine zw_some ?_
                            refine zw_b (by omega) ?_
                            refine zw_some ?_
                            refine zw_ite (fun h97 => ?_) (fun h97 => ?_)
                            · exfalso; omega
                            · refine zw_b (by omega) ?_
                              refine zw_some ?_
                              refine zw_ite (fun h98 => ?_) (fun h98 => ?_)
                              · exfalso; omega
                              · refine zw_b (by omega) ?_
                                have r99 : 0 ≤ (m96 a0 7) ∧ (m96 a0 7) ≤ 700 := zi_rd hIm96 hc0 zb_28_7
                                have r100 : 0 ≤ (m96 a0 8) ∧ (m96 a0 8) ≤ 6 := zi_rd hIm96 hc0 zb_28_8
                                have e101 : (m96 a0 8) = (m85 a0 8) := (Eq.trans (zs_ne hmm96 (Or.inr (by decide))) (zs_ne hmm93 (Or.inr (by decide))))
                                have r102 : (-2147483648) ≤ (m96 a0 4) ∧ (m96 a0 4) ≤ 2147483647 := zi_rd hIm96 hc0 zb_28_4
                                have e103 : (m96 a0 4) = 2 := (Eq.trans (zs_ne hmm96 (Or.inr (by decide))) (zs_eq hmm93))
                                exact zw_some ⟨hIm96, hFm96, hRCRm96, hRLRm96, hRNSm96, hRTRm96, hRWDm96, ⟨by omega, by omega⟩, by omega, by omega, by omega⟩
                        · refine zw_ite (fun h104 => ?_) (fun h104 => ?_)
                          · refine zw_b (by omega) ?_
                            refine zw_some ?_
                            refine zw_ite (fun h105 => ?_) (fun h105 => ?_)
                            · exfalso; omega
                            · refine zw_bd (zw_eq (zu_call_at (zt_T n) (zm_85 n) (zdp_85 n) _ _ _ _ _ rfl (zr_85_0 n _ _ a0 2 m85)) ?_)
                              generalize hmm106 : zu_up m85 a0 4 2 = m106
                              have hIm106 := zi_up hmm106 hIm85 hc0 zb_28_4 (by omega) (by omega)
                              have hFm106 := zfr_up hmm106 hFm85 hc0 rfl
                              have hRCRm106 := zR_CR_fr (zdis_fr (zfr_up hmm106 (zfr_rf [(28, 5)] _) hc0 rfl) rfl) hRCRm85
                              have hRNSm106 := zR_NS_fr (zdis_fr (zfr_up hmm106 (zfr_rf [(28, 5)] _) hc0 rfl) rfl) hRNSm85
                              have hRTRm106 := zR_TR_fr (zdis_fr (zfr_up hmm106 (zfr_rf [(28, 5)] _) hc0 rfl) rfl) hRTRm85
                              have hRWDm106 := zR_WD_fr (zdis_fr (zfr_up hmm106 (zfr_rf [(28, 5)] _) hc0 rfl) rfl) hRWDm85
                              have hRLRm106 := zLR_wr (zone_190 hc0) hmm106 (by decide)
                              have r107 : 0 ≤ (m106 a0 10) ∧ (m106 a0 10) ≤ 700 := zi_rd hIm106 hc0 zb_28_10
                              have e108 : (m106 a0 10) = (m77 a0 10) := (Eq.trans (zs_ne hmm106 (Or.inr (by decide))) (zs_ne hmm85 (Or.inr (by decide))))
                              generalize hmm109 : zu_up m106 a0 5 (m106 a0 10) = m109
                              have hIm109 := zi_up hmm109 hIm106 hc0 zb_28_5 (by omega) (by omega)
                              have hFm109 := zfr_up hmm109 hFm106 hc0 rfl
                              have hRCRm109 := zR_CR_fr (zdis_fr (zfr_up hmm109 (zfr_rf [(28, 6)] _) hc0 rfl) rfl) hRCRm106
                              have hRLRm109 := zR_LR_fr (zdis_fr (zfr_up hmm109 (zfr_rf [(28, 6)] _) hc0 rfl) rfl) hRLRm106
                              have hRNSm109 := zR_NS_fr (zdis_fr (zfr_up hmm109 (zfr_rf [(28, 6)] _) hc0 rfl) rfl) hRNSm106
                              have hRTRm109 := zR_TR_fr (zdis_fr (zfr_up hmm109 (zfr_rf [(28, 6)] _) hc0 rfl) rfl) hRTRm106
                              have hRWDm109 := zR_WD_fr (zdis_fr (zfr_up hmm109 (zfr_rf [(28, 6)] _) hc0 rfl) rfl) hRWDm106
                              refine zw_b (by omega) ?_
                              refine zw_some ?_
                              refine zw_b (by omega) ?_
                              refine zw_some ?_
                              refine zw_ite (fun h110 => ?_) (fun h110 => ?_)
                              · exfalso; omega
                              · refine zw_b (by omega) ?_
                                refine zw_some ?_
                                refine zw_ite (fun h111 => ?_) (fun h111 => ?_)
                                · exfalso; omega
                                · refine zw_b (by omega) ?_
                                  have r112 : 0 ≤ (m109 a0 7) ∧ (m109 a0 7) ≤ 700 := zi_rd hIm109 hc0 zb_28_7
                                  have r113 : 0 ≤ (m109 a0 8) ∧ (m109 a0 8) ≤ 6 := zi_rd hIm109 hc0 zb_28_8
                                  have e114 : (m109 a0 8) = (m85 a0 8) := (Eq.trans (zs_ne hmm109 (Or.inr (by decide))) (zs_ne hmm106 (Or.inr (by decide))))
                                  have r115 : (-2147483648) ≤ (m109 a0 4) ∧ (m109 a0 4) ≤ 2147483647 := zi_rd hIm109 hc0 zb_28_4
                                  have e116 : (m109 a0 4) = 2 := (Eq.trans (zs_ne hmm109 (Or.inr (by decide))) (zs_eq hmm106))
                                  exact zw_some ⟨hIm109, hFm109, hRCRm109, hRLRm109, hRNSm109, hRTRm109, hRWDm109, ⟨by omega, by omega⟩, by omega, by omega, by omega⟩
                          · refine zw_b (by omega) ?_
                            refine zw_some ?_
                            refine zw_ite (fun h117 => ?_) (fun h117 => ?_)
                            · generalize hmm118 : zu_up m85 a0 11 (m85 a0 9) = m118
                              have hIm118 := zi_up hmm118 hIm85 hc0 zb_28_11 (by omega) (by omega)
                              have hFm118 := zfr_up hmm118 hFm85 hc0 rfl
                              have hRCRm118 := zR_CR_fr (zdis_fr (zfr_up hmm118 (zfr_rf [(28, 12)] _) hc0 rfl) rfl) hRCRm85
                              have hRLRm118 := zR_LR_fr (zdis_fr (zfr_up hmm118 (zfr_rf [(28, 12)] _) hc0 rfl) rfl) hRLRm85
                              have hRNSm118 := zR_NS_fr (zdis_fr (zfr_up hmm118 (zfr_rf [(28, 12)] _) hc0 rfl) rfl) hRNSm85
                              have hRTRm118 := zR_TR_fr (zdis_fr (zfr_up hmm118 (zfr_rf [(28, 12)] _) hc0 rfl) rfl) hRTRm85
                              have hRWDm118 := zR_WD_fr (zdis_fr (zfr_up hmm118 (zfr_rf [(28, 12)] _) hc0 rfl) rfl) hRWDm85
                              refine zw_bd (zw_mono (zk_89 n hIm118 hc0 hRNSm118 hRWDm118) (fun v120 m119 hqm119 => ?_))
                              obtain ⟨hIm119, hfm119, hvm119⟩ := hqm119
                              have hFm119 := zfr_tr hFm118 hfm119 rfl
                              obtain ⟨hRNSm119, hRTRm119, hRWDm119, hvm119⟩ := hvm119
                              have hRCRm119 := zR_CR_fr (zdis_fr hfm119 rfl) hRCRm118
                              have hRLRm119 := zR_LR_fr (zdis_fr hfm119 rfl) hRLRm118
                              have s121 := hRNSm119 a0 hc0
                              have s122 := hRTRm119 a0 hc0
                              refine zw_b (by omega) ?_
                              refine zw_some ?_
                              refine zw_ite (fun h123 => ?_) (fun h123 => ?_)
                              · have r124 : 1 ≤ (m119 a0 17) ∧ (m119 a0 17) ≤ 8 := zi_rd hIm119 hc0 zb_28_17
                                have e125 : (m119 a0 17) = (m45 a0 17) := (Eq.trans (zfr_ap hfm119 hc0 rfl) (Eq.trans (zs_ne hmm118 (Or.inr (by decide))) (Eq.trans (zs_ne hmm85 (Or.inr (by decide))) (Eq.trans (zfr_ap hfm77 hc0 rfl) (zs_ne hmm76 (Or.inr (by decide)))))))
                                have r126 : (-2147483648) ≤ (m119 a0 11) ∧ (m119 a0 11) ≤ 2147483647 := zi_rd hIm119 hc0 zb_28_11
                                have e127 : (m119 a0 11) = (m85 a0 9) := (Eq.trans (zfr_ap hfm119 hc0 rfl) (zs_eq hmm118))
                                have p128 := zmul_bd (x := (m119 a0 17)) (y := (m119 a0 11)) (a := 1) (b := 0) (A := 8) (B := 5) (by omega) (by omega) (by omega) (by omega) (by omega) (by omega)
                                have w129 := zu_w32_id (z := (m119 a0 17) * (m119 a0 11)) (by omega) (by omega)
                                have w130 := zu_w32_id (z := (zu_w32 ((m119 a0 17) * (m119 a0 11))) + (m77 a0 11)) (by omega) (by omega)
                                generalize hmm131 : zu_up m119 a0 11 (zu_w32 ((zu_w32 ((m119 a0 17) * (m119 a0 11))) + (m77 a0 11))) = m131
                                have hIm131 := zi_up hmm131 hIm119 hc0 zb_28_11 (by omega) (by omega)
                                have hFm131 := zfr_up hmm131 hFm119 hc0 rfl
                                have hRCRm131 := zR_CR_fr (zdis_fr (zfr_up hmm131 (zfr_rf [(28, 12)] _) hc0 rfl) rfl) hRCRm119
                                have hRLRm131 := zR_LR_fr (zdis_fr (zfr_up hmm131 (zfr_rf [(28, 12)] _) hc0 rfl) rfl) hRLRm119
                                have hRNSm131 := zR_NS_fr (zdis_fr (zfr_up hmm131 (zfr_rf [(28, 12)] _) hc0 rfl) rfl) hRNSm119
                                have hRTRm131 := zR_TR_fr (zdis_fr (zfr_up hmm131 (zfr_rf [(28, 12)] _) hc0 rfl) rfl) hRTRm119
                                have hRWDm131 := zR_WD_fr (zdis_fr (zfr_up hmm131 (zfr_rf [(28, 12)] _) hc0 rfl) rfl) hRWDm119
                                refine zw_b (by omega) ?_
                                refine zw_some ?_
                                refine zw_ite (fun h132 => ?_) (fun h132 => ?_)
                                · have r133 : (-2147483648) ≤ (m131 a0 11) ∧ (m131 a0 11) ≤ 2147483647 := zi_rd hIm131 hc0 zb_28_11
                                  have e134 : (m131 a0 11) = (zu_w32 ((zu_w32 ((m119 a0 17) * (m119 a0 11))) + (m77 a0 11))) := (zs_eq hmm131)
                                  have b135 : 0 ≤ (zu_w32 (18 + (m5 a0 19))) ∧ (zu_w32 (18 + (m5 a0 19))) < 36 := by omega
                                  refine zw_if b135 ?_
                                  generalize hmm136 : zu_up m131 197 (zu_w32 (18 + (m5 a0 19))) (m131 a0 11) = m136
                                  have hIm136 := zi_up hmm136 hIm131 zq_197 (zb_106 _) (by omega) (by omega)
                                  have hFm136 := zfr_up hmm136 hFm131 zq_197 rfl
                                  have hRCRm136 := zR_CR_fr (zdis_fr (zfr_up hmm136 (zfr_rf [(106, 0)] _) zq_197 rfl) rfl) hRCRm131
                                  have hRLRm136 := zR_LR_fr (zdis_fr (zfr_up hmm136 (zfr_rf [(106, 0)] _) zq_197 rfl) rfl) hRLRm131
                                  have hRNSm136 := zR_NS_fr (zdis_fr (zfr_up hmm136 (zfr_rf [(106, 0)] _) zq_197 rfl) rfl) hRNSm131
                                  have hRTRm136 := zR_TR_fr (zdis_fr (zfr_up hmm136 (zfr_rf [(106, 0)] _) zq_197 rfl) rfl) hRTRm131
                                  have hRWDm136 := zR_WD_fr (zdis_fr (zfr_up hmm136 (zfr_rf [(106, 0)] _) zq_197 rfl) rfl) hRWDm131
                                  refine zw_bd (zw_eq (zu_call_at (zt_T n) (zm_94 n) (zdp_94 n) _ _ _ _ _ rfl (zr_94_0 n _ _ a0 0 9 m136)) ?_)
                                  have r137 : 0 ≤ (m136 a0 8) ∧ (m136 a0 8) ≤ 6 := zi_rd hIm136 hc0 zb_28_8
                                  refine zw_ite (fun h138 => ?_) (fun h138 => ?_)
                                  · have r139 : (-2147483648) ≤ (m136 a0 9) ∧ (m136 a0 9) ≤ 2147483647 := zi_rd hIm136 hc0 zb_28_9
                                    refine zw_bd (zw_eq (zu_call_at (zt_T n) (zm_83 n) (zdp_83 n) _ _ _ _ _ rfl (zr_83_0 n _ _ (m136 a0 9) 0 9 m136)) ?_)
                                    refine zw_ite (fun h140 => ?_) (fun h140 => ?_)
                                    · refine zw_b (by omega) ?_
                                      refine zw_some ?_
                                      refine zw_ite (fun h141 => ?_) (fun h141 => ?_)
                                      · exfalso; omega
                                      · refine zw_bd (zw_eq (zu_call_at (zt_T n) (zm_85 n) (zdp_85 n) _ _ _ _ _ rfl (zr_85_0 n _ _ a0 2 m136)) ?_)
                                        generalize hmm142 : zu_up m136 a0 4 2 = m142
                                        have hIm142 := zi_up hmm142 hIm136 hc0 zb_28_4 (by omega) (by omega)
                                        have hFm142 := zfr_up hmm142 hFm136 hc0 rfl
                                        have hRCRm142 := zR_CR_fr (zdis_fr (zfr_up hmm142 (zfr_rf [(28, 5)] _) hc0 rfl) rfl) hRCRm136
                                        have hRNSm142 := zR_NS_fr (zdis_fr (zfr_up hmm142 (zfr_rf [(28, 5)] _) hc0 rfl) rfl) hRNSm136
                                        have hRTRm142 := zR_TR_fr (zdis_fr (zfr_up hmm142 (zfr_rf [(28, 5)] _) hc0 rfl) rfl) hRTRm136
                                        have hRWDm142 := zR_WD_fr (zdis_fr (zfr_up hmm142 (zfr_rf [(28, 5)] _) hc0 rfl) rfl) hRWDm136
                                        have hRLRm142 := zLR_wr (zone_190 hc0) hmm142 (by decide)
                                        have r143 : 0 ≤ (m142 a0 10) ∧ (m142 a0 10) ≤ 700 := zi_rd hIm142 hc0 zb_28_10
                                        generalize hmm144 : zu_up m142 a0 5 (m142 a0 10) = m144
                                        have hIm144 := zi_up hmm144 hIm142 hc0 zb_28_5 (by omega) (by omega)
                                        have hFm144 := zfr_up hmm144 hFm142 hc0 rfl
                                        have hRCRm144 := zR_CR_fr (zdis_fr (zfr_up hmm144 (zfr_rf [(28, 6)] _) hc0 rfl) rfl) hRCRm142
                                        have hRLRm144 := zR_LR_fr (zdis_fr (zfr_up hmm144 (zfr_rf [(28, 6)] _) hc0 rfl) rfl) hRLRm142
                                        have hRNSm144 := zR_NS_fr (zdis_fr (zfr_up hmm144 (zfr_rf [(28, 6)] _) hc0 rfl) rfl) hRNSm142
                                        have hRTRm144 := zR_TR_fr (zdis_fr (zfr_up hmm144 (zfr_rf [(28, 6)] _) hc0 rfl) rfl) hRTRm142
                                        have hRWDm144 := zR_WD_fr (zdis_fr (zfr_up hmm144 (zfr_rf [(28, 6)] _) hc0 rfl) rfl) hRWDm142
                                        refine zw_b (by omega) ?_
                                        refine zw_some ?_
                                        refine zw_b (by omega) ?_
                                        refine zw_some ?_
                                        refine zw_ite (fun h145 => ?_) (fun h145 => ?_)
                                        · exfalso; omega
                                        · refine zw_b (by omega) ?_
                                          have r146 : 0 ≤ (m144 a0 7) ∧ (m144 a0 7) ≤ 700 := zi_rd hIm144 hc0 zb_28_7
                                          have r147 : 0 ≤ (m144 a0 8) ∧ (m144 a0 8) ≤ 6 := zi_rd hIm144 hc0 zb_28_8
                                          have e148 : (m144 a0 8) = (m136 a0 8) := (Eq.trans (zs_ne hmm144 (Or.inr (by decide))) (zs_ne hmm142 (Or.inr (by decide))))
                                          have r149 : (-2147483648) ≤ (m144 a0 4) ∧ (m144 a0 4) ≤ 2147483647 := zi_rd hIm144 hc0 zb_28_4
                                          have e150 : (m144 a0 4) = 2 := (Eq.trans (zs_ne hmm144 (Or.inr (by decide))) (zs_eq hmm142))
                                          exact zw_some ⟨hIm144, hFm144, hRCRm144, hRLRm144, hRNSm144, hRTRm144, hRWDm144, ⟨by omega, by omega⟩, by omega, by omega, by omega⟩
                                    · refine zw_ite (fun h151 => ?_) (fun h151 => ?_)
                                      · refine zw_b (by omega) ?_
                                        refine zw_some ?_
                                        refine zw_ite (fun h152 => ?_) (fun h152 => ?_)
                                        · exfalso; omega
                                        · refine zw_bd (zw_eq (zu_call_at (zt_T n) (zm_85 n) (zdp_85 n) _ _ _ _ _ rfl (zr_85_0 n _ _ a0 2 m136)) ?_)
                                          generalize hmm153 : zu_up m136 a0 4 2 = m153
                                          have hIm153 := zi_up hmm153 hIm136 hc0 zb_28_4 (by omega) (by omega)
                                          have hFm153 := zfr_up hmm153 hFm136 hc0 rfl
                                          have hRCRm153 := zR_CR_fr (zdis_fr (zfr_up hmm153 (zfr_rf [(28, 5)] _) hc0 rfl) rfl) hRCRm136
                                          have hRNSm153 := zR_NS_fr (zdis_fr (zfr_up hmm153 (zfr_rf [(28, 5)] _) hc0 rfl) rfl) hRNSm136
                                          have hRTRm153 := zR_TR_fr (zdis_fr (zfr_up hmm153 (zfr_rf [(28, 5)] _) hc0 rfl) rfl) hRTRm136
                                          have hRWDm153 := zR_WD_fr (zdis_fr (zfr_up hmm153 (zfr_rf [(28, 5)] _) hc0 rfl) rfl) hRWDm136
                                          have hRLRm153 := zLR_wr (zone_190 hc0) hmm153 (by decide)
                                          have r154 : 0 ≤ (m153 a0 10) ∧ (m153 a0 10) ≤ 700 := zi_rd hIm153 hc0 zb_28_10
                                          generalize hmm155 : zu_up m153 a0 5 (m153 a0 10) = m155
                                          have hIm155 := zi_up hmm155 hIm153 hc0 zb_28_5 (by omega) (by omega)
                                          have hFm155 := zfr_up hmm155 hFm153 hc0 rfl
                                          have hRCRm155 := zR_CR_fr (zdis_fr (zfr_up hmm155 (zfr_rf [(28, 6)] _) hc0 rfl) rfl) hRCRm153
                                          have hRLRm155 := zR_LR_fr (zdis_fr (zfr_up hmm155 (zfr_rf [(28, 6)] _) hc0 rfl) rfl) hRLRm153
                                          have hRNSm155 := zR_NS_fr (zdis_fr (zfr_up hmm155 (zfr_rf [(28, 6)] _) hc0 rfl) rfl) hRNSm153
                                          have hRTRm155 := zR_TR_fr (zdis_fr (zfr_up hmm155 (zfr_rf [(28, 6)] _) hc0 rfl) rfl) hRTRm153
                                          have hRWDm155 := zR_WD_fr (zdis_fr (zfr_up hmm155 (zfr_rf [(28, 6)] _) hc0 rfl) rfl) hRWDm153
                                          refine zw_b (by omega) ?_
                                          refine zw_some ?_
                                          refine zw_b (by omega) ?_
                                          refine zw_some ?_
                                          refine zw_ite (fun h156 => ?_) (fun h156 => ?_)
                                          · exfalso; omega
                                          · refine zw_b (by omega) ?_
                                            have r157 : 0 ≤ (m155 a0 7) ∧ (m155 a0 7) ≤ 700 := zi_rd hIm155 hc0 zb_28_7
                                            have r158 : 0 ≤ (m155 a0 8) ∧ (m155 a0 8) ≤ 6 := zi_rd hIm155 hc0 zb_28_8
                                            have e159 : (m155 a0 8) = (m136 a0 8) := (Eq.trans (zs_ne hmm155 (Or.inr (by decide))) (zs_ne hmm153 (Or.inr (by decide))))
                                            have r160 : (-2147483648) ≤ (m155 a0 4) ∧ (m155 a0 4) ≤ 2147483647 := zi_rd hIm155 hc0 zb_28_4
                                            have e161 : (m155 a0 4) = 2 := (Eq.trans (zs_ne hmm155 (Or.inr (by decide))) (zs_eq hmm153))
                                            exact zw_some ⟨hIm155, hFm155, hRCRm155, hRLRm155, hRNSm155, hRTRm155, hRWDm155, ⟨by omega, by omega⟩, by omega, by omega, by omega⟩
                                      · refine zw_b (by omega) ?_
                                        refine zw_some ?_
                                        refine zw_ite (fun h162 => ?_) (fun h162 => ?_)
                                        · generalize hmm163 : zu_up m136 a0 11 (m136 a0 9) = m163
                                          have hIm163 := zi_up hmm163 hIm136 hc0 zb_28_11 (by omega) (by omega)
                                          have hFm163 := zfr_up hmm163 hFm136 hc0 rfl
                                          have hRCRm163 := zR_CR_fr (zdis_fr (zfr_up hmm163 (zfr_rf [(28, 12)] _) hc0 rfl) rfl) hRCRm136
                                          have hRLRm163 := zR_LR_fr (zdis_fr (zfr_up hmm163 (zfr_rf [(28, 12)] _) hc0 rfl) rfl) hRLRm136
                                          have hRNSm163 := zR_NS_fr (zdis_fr (zfr_up hmm163 (zfr_rf [(28, 12)] _) hc0 rfl) rfl) hRNSm136
                                          have hRTRm163 := zR_TR_fr (zdis_fr (zfr_up hmm163 (zfr_rf [(28, 12)] _) hc0 rfl) rfl) hRTRm136
                                          have hRWDm163 := zR_WD_fr (zdis_fr (zfr_up hmm163 (zfr_rf [(28, 12)] _) hc0 rfl) rfl) hRWDm136
                                          refine zw_bd (zw_mono (zk_89 n hIm163 hc0 hRNSm163 hRWDm163) (fun v165 m164 hqm164 => ?_))
                                          obtain ⟨hIm164, hfm164, hvm164⟩ := hqm164
                                          have hFm164 := zfr_tr hFm163 hfm164 rfl
                                          obtain ⟨hRNSm164, hRTRm164, hRWDm164, hvm164⟩ := hvm164
                                          have hRCRm164 := zR_CR_fr (zdis_fr hfm164 rfl) hRCRm163
                                          have hRLRm164 := zR_LR_fr (zdis_fr hfm164 rfl) hRLRm163
                                          have s166 := hRNSm164 a0 hc0
                                          have s167 := hRTRm164 a0 hc0
                                          refine zw_b (by omega) ?_
                                          refine zw_some ?_
                                          refine zw_ite (fun h168 => ?_) (fun h168 => ?_)
                                          · have r169 : (-2147483648) ≤ (m164 a0 11) ∧ (m164 a0 11) ≤ 2147483647 := zi_rd hIm164 hc0 zb_28_11
                                            have e170 : (m164 a0 11) = (m136 a0 9) := (Eq.trans (zfr_ap hfm164 hc0 rfl) (zs_eq hmm163))
                                            have b171 : 0 ≤ (zu_w32 (18 + (m5 a0 19))) ∧ (zu_w32 (18 + (m5 a0 19))) < 36 := by omega
                                            refine zw_if b171 ?_
                                            generalize hmm172 : zu_up m164 199 (zu_w32 (18 + (m5 a0 19))) (m164 a0 11) = m172
                                            have hIm172 := zi_up hmm172 hIm164 zq_199 (zb_108 _) (by omega) (by omega)
                                            have hFm172 := zfr_up hmm172 hFm164 zq_199 rfl
                                            have hRCRm172 := zR_CR_fr (zdis_fr (zfr_up hmm172 (zfr_rf [(108, 0)] _) zq_199 rfl) rfl) hRCRm164
                                            have hRLRm172 := zR_LR_fr (zdis_fr (zfr_up hmm172 (zfr_rf [(108, 0)] _) zq_199 rfl) rfl) hRLRm164
                                            have hRNSm172 := zR_NS_fr (zdis_fr (zfr_up hmm172 (zfr_rf [(108, 0)] _) zq_199 rfl) rfl) hRNSm164
                                            have hRTRm172 := zR_TR_fr (zdis_fr (zfr_up hmm172 (zfr_rf [(108, 0)] _) zq_199 rfl) rfl) hRTRm164
                                            have hRWDm172 := zR_WD_fr (zdis_fr (zfr_up hmm172 (zfr_rf [(108, 0)] _) zq_199 rfl) rfl) hRWDm164
                                            have r173 : 0 ≤ (m172 a0 19) ∧ (m172 a0 19) ≤ 12 := zi_rd hIm172 hc0 zb_28_19
                                            have e174 : (m172 a0 19) = (m5 a0 19) := (Eq.trans (zs_ne hmm172 (Or.inl (zc_ne hc0 zq_199 (by decide)))) (Eq.trans (zfr_ap hfm164 hc0 rfl) (Eq.trans (zs_ne hmm163 (Or.inr (by decide))) (Eq.trans (zs_ne hmm136 (Or.inl (zc_ne hc0 zq_197 (by decide)))) (Eq.trans (zs_ne hmm131 (Or.inr (by decide))) (Eq.trans (zfr_ap hfm119 hc0 rfl) (Eq.trans (zs_ne hmm118 (Or.inr (by decide))) (Eq.trans (zs_ne hmm85 (Or.inr (by decide))) (Eq.trans (zfr_ap hfm77 hc0 rfl) (Eq.trans (zs_ne hmm76 (Or.inr (by decide))) (Eq.trans (zs_ne hmm45 (Or.inr (by decide))) (Eq.trans (zs_ne hmm44 (Or.inl (zc_ne hc0 zq_198 (by decide)))) (Eq.trans (zs_ne hmm39 (Or.inr (by decide))) (zfr_ap hfm35 hc0 rfl))))))))))))))
                                            have w175 := zu_w32_id (z := (m172 a0 19) + 1) (by omega) (by omega)
                                            generalize hmm176 : zu_up m172 a0 19 (zu_w32 ((m172 a0 19) + 1)) = m176
                                            have hIm176 := zi_up hmm176 hIm172 hc0 zb_28_19 (by omega) (by omega)
                                            have hFm176 := zfr_up hmm176 hFm172 hc0 rfl
                                            have hRCRm176 := zR_CR_fr (zdis_fr (zfr_up hmm176 (zfr_rf [(28, 20)] _) hc0 rfl) rfl) hRCRm172
                                            have hRLRm176 := zR_LR_fr (zdis_fr (zfr_up hmm176 (zfr_rf [(28, 20)] _) hc0 rfl) rfl) hRLRm172
                                            have hRNSm176 := zR_NS_fr (zdis_fr (zfr_up hmm176 (zfr_rf [(28, 20)] _) hc0 rfl) rfl) hRNSm172
                                            have hRTRm176 := zR_TR_fr (zdis_fr (zfr_up hmm176 (zfr_rf [(28, 20)] _) hc0 rfl) rfl) hRTRm172
                                            have hRWDm176 := zR_WD_fr (zdis_fr (zfr_up hmm176 (zfr_rf [(28, 20)] _) hc0 rfl) rfl) hRWDm172
                                            refine zw_b (by omega) ?_
                                            have r177 : 0 ≤ (m176 a0 7) ∧ (m176 a0 7) ≤ 700 := zi_rd hIm176 hc0 zb_28_7
                                            have r178 : 0 ≤ (m176 a0 8) ∧ (m176 a0 8) ≤ 6 := zi_rd hIm176 hc0 zb_28_8
                                            have r179 : (-2147483648) ≤ (m176 a0 4) ∧ (m176 a0 4) ≤ 2147483647 := zi_rd hIm176 hc0 zb_28_4
                                            exact zw_some ⟨hIm176, hFm176, hRCRm176, hRLRm176, hRNSm176, hRTRm176, hRWDm176, ⟨by omega, by omega⟩, by omega, by omega, by omega⟩
                                          · exfalso; omega
                                        · exfalso; omega
                                  · refine zw_bd (zw_eq (zu_call_at (zt_T n) (zm_85 n) (zdp_85 n) _ _ _ _ _ rfl (zr_85_0 n _ _ a0 1 m136)) ?_)
                                    generalize hmm180 : zu_up m136 a0 4 1 = m180
                                    have hIm180 := zi_up hmm180 hIm136 hc0 zb_28_4 (by omega) (by omega)
                                    have hFm180 := zfr_up hmm180 hFm136 hc0 rfl
                                    have hRCRm180 := zR_CR_fr (zdis_fr (zfr_up hmm180 (zfr_rf [(28, 5)] _) hc0 rfl) rfl) hRCRm136
                                    have hRNSm180 := zR_NS_fr (zdis_fr (zfr_up hmm180 (zfr_rf [(28, 5)] _) hc0 rfl) rfl) hRNSm136
                                    have hRTRm180 := zR_TR_fr (zdis_fr (zfr_up hmm180 (zfr_rf [(28, 5)] _) hc0 rfl) rfl) hRTRm136
                                    have hRWDm180 := zR_WD_fr (zdis_fr (zfr_up hmm180 (zfr_rf [(28, 5)] _) hc0 rfl) rfl) hRWDm136
                                    have hRLRm180 := zLR_wr (zone_190 hc0) hmm180 (by decide)
                                    have r181 : 0 ≤ (m180 a0 10) ∧ (m180 a0 10) ≤ 700 := zi_rd hIm180 hc0 zb_28_10
                                    generalize hmm182 : zu_up m180 a0 5 (m180 a0 10) = m182
                                    have hIm182 := zi_up hmm182 hIm180 hc0 zb_28_5 (by omega) (by omega)
                                    have hFm182 := zfr_up hmm182 hFm180 hc0 rfl
                                    have hRCRm182 := zR_CR_fr (zdis_fr (zfr_up hmm182 (zfr_rf [(28, 6)] _) hc0 rfl) rfl) hRCRm180
                                    have hRLRm182 := zR_LR_fr (zdis_fr (zfr_up hmm182 (zfr_rf [(28, 6)] _) hc0 rfl) rfl) hRLRm180
                                    have hRNSm182 := zR_NS_fr (zdis_fr (zfr_up hmm182 (zfr_rf [(28, 6)] _) hc0 rfl) rfl) hRNSm180
                                    have hRTRm182 := zR_TR_fr (zdis_fr (zfr_up hmm182 (zfr_rf [(28, 6)] _) hc0 rfl) rfl) hRTRm180
                                    have hRWDm182 := zR_WD_fr (zdis_fr (zfr_up hmm182 (zfr_rf [(28, 6)] _) hc0 rfl) rfl) hRWDm180
                                    refine zw_b (by omega) ?_
                                    refine zw_some ?_
                                    refine zw_b (by omega) ?_
                                    refine zw_some ?_
                                    refine zw_ite (fun h183 => ?_) (fun h183 => ?_)
                                    · exfalso; omega
                                    · refine zw_b (by omega) ?_
                                      have r184 : 0 ≤ (m182 a0 7) ∧ (m182 a0 7) ≤ 700 := zi_rd hIm182 hc0 zb_28_7
                                      have r185 : 0 ≤ (m182 a0 8) ∧ (m182 a0 8) ≤ 6 := zi_rd hIm182 hc0 zb_28_8
                                      have e186 : (m182 a0 8) = (m136 a0 8) := (Eq.trans (zs_ne hmm182 (Or.inr (by decide))) (zs_ne hmm180 (Or.inr (by decide))))
                                      have r187 : (-2147483648) ≤ (m182 a0 4) ∧ (m182 a0 4) ≤ 2147483647 := zi_rd hIm182 hc0 zb_28_4
                                      have e188 : (m182 a0 4) = 1 := (Eq.trans (zs_ne hmm182 (Or.inr (by decide))) (zs_eq hmm180))
                                      exact zw_some ⟨hIm182, hFm182, hRCRm182, hRLRm182, hRNSm182, hRTRm182, hRWDm182, ⟨by omega, by omega⟩, by omega, by omega, by omega⟩
                                · exfalso; omega
                              · exfalso; omega
                            · exfalso; omega
                      · refine zw_bd (zw_eq (zu_call_at (zt_T n) (zm_85 n) (zdp_85 n) _ _ _ _ _ rfl (zr_85_0 n _ _ a0 1 m85)) ?_)
                        generalize hmm189 : zu_up m85 a0 4 1 = m189
                        have hIm189 := zi_up hmm189 hIm85 hc0 zb_28_4 (by omega) (by omega)
                        have hFm189 := zfr_up hmm189 hFm85 hc0 rfl
                        have hRCRm189 := zR_CR_fr (zdis_fr (zfr_up hmm189 (zfr_rf [(28, 5)] _) hc0 rfl) rfl) hRCRm85
                        have hRNSm189 := zR_NS_fr (zdis_fr (zfr_up hmm189 (zfr_rf [(28, 5)] _) hc0 rfl) rfl) hRNSm85
                        have hRTRm189 := zR_TR_fr (zdis_fr (zfr_up hmm189 (zfr_rf [(28, 5)] _) hc0 rfl) rfl) hRTRm85
                        have hRWDm189 := zR_WD_fr (zdis_fr (zfr_up hmm189 (zfr_rf [(28, 5)] _) hc0 rfl) rfl) hRWDm85
                        have hRLRm189 := zLR_wr (zone_190 hc0) hmm189 (by decide)
                        have r190 : 0 ≤ (m189 a0 10) ∧ (m189 a0 10) ≤ 700 := zi_rd hIm189 hc0 zb_28_10
                        have e191 : (m189 a0 10) = (m77 a0 10) := (Eq.trans (zs_ne hmm189 (Or.inr (by decide))) (zs_ne hmm85 (Or.inr (by decide))))
                        generalize hmm192 : zu_up m189 a0 5 (m189 a0 10) = m192
                        have hIm192 := zi_up hmm192 hIm189 hc0 zb_28_5 (by omega) (by omega)
                        have hFm192 := zfr_up hmm192 hFm189 hc0 rfl
                        have hRCRm192 := zR_CR_fr (zdis_fr (zfr_up hmm192 (zfr_rf [(28, 6)] _) hc0 rfl) rfl) hRCRm189
                        have hRLRm192 := zR_LR_fr (zdis_fr (zfr_up hmm192 (zfr_rf [(28, 6)] _) hc0 rfl) rfl) hRLRm189
                        have hRNSm192 := zR_NS_fr (zdis_fr (zfr_up hmm192 (zfr_rf [(28, 6)] _) hc0 rfl) rfl) hRNSm189
                        have hRTRm192 := zR_TR_fr (zdis_fr (zfr_up hmm192 (zfr_rf [(28, 6)] _) hc0 rfl) rfl) hRTRm189
                        have hRWDm192 := zR_WD_fr (zdis_fr (zfr_up hmm192 (zfr_rf [(28, 6)] _) hc0 rfl) rfl) hRWDm189
                        refine zw_b (by omega) ?_
                        refine zw_some ?_
                        refine zw_b (by omega) ?_
                        refine zw_some ?_
                        refine zw_ite (fun h193 => ?_) (fun h193 => ?_)
                        · exfalso; omega
                        · refine zw_b (by omega) ?_
                          refine zw_some ?_
                          refine zw_ite (fun h194 => ?_) (fun h194 => ?_)
                          · exfalso; omega
                          · refine zw_b (by omega) ?_
                            have r195 : 0 ≤ (m192 a0 7) ∧ (m192 a0 7) ≤ 700 := zi_rd hIm192 hc0 zb_28_7
                            have r196 : 0 ≤ (m192 a0 8) ∧ (m192 a0 8) ≤ 6 := zi_rd hIm192 hc0 zb_28_8
                            have e197 : (m192 a0 8) = (m85 a0 8) := (Eq.trans (zs_ne hmm192 (Or.inr (by decide))) (zs_ne hmm189 (Or.inr (by decide))))
                            have r198 : (-2147483648) ≤ (m192 a0 4) ∧ (m192 a0 4) ≤ 2147483647 := zi_rd hIm192 hc0 zb_28_4
                            have e199 : (m192 a0 4) = 1 := (Eq.trans (zs_ne hmm192 (Or.inr (by decide))) (zs_eq hmm189))
                            exact zw_some ⟨hIm192, hFm192, hRCRm192, hRLRm192, hRNSm192, hRTRm192, hRWDm192, ⟨by omega, by omega⟩, by omega, by omega, by omega⟩
                    · exfalso; omega
                  · exfalso; omega
            · refine zw_bd (zw_eq (zu_call_at (zt_T n) (zm_85 n) (zdp_85 n) _ _ _ _ _ rfl (zr_85_0 n _ _ a0 1 m45)) ?_)
              generalize hmm200 : zu_up m45 a0 4 1 = m200
              have hIm200 := zi_up hmm200 hIm45 hc0 zb_28_4 (by omega) (by omega)
              have hFm200 := zfr_up hmm200 hFm45 hc0 rfl
              have hRCRm200 := zR_CR_fr (zdis_fr (zfr_up hmm200 (zfr_rf [(28, 5)] _) hc0 rfl) rfl) hRCRm45
              have hRNSm200 := zR_NS_fr (zdis_fr (zfr_up hmm200 (zfr_rf [(28, 5)] _) hc0 rfl) rfl) hRNSm45
              have hRTRm200 := zR_TR_fr (zdis_fr (zfr_up hmm200 (zfr_rf [(28, 5)] _) hc0 rfl) rfl) hRTRm45
              have hRWDm200 := zR_WD_fr (zdis_fr (zfr_up hmm200 (zfr_rf [(28, 5)] _) hc0 rfl) rfl) hRWDm45
              have hRLRm200 := zLR_wr (zone_190 hc0) hmm200 (by decide)
              have r201 : 0 ≤ (m200 a0 10) ∧ (m200 a0 10) ≤ 700 := zi_rd hIm200 hc0 zb_28_10
              generalize hmm202 : zu_up m200 a0 5 (m200 a0 10) = m202
              have hIm202 := zi_up hmm202 hIm200 hc0 zb_28_5 (by omega) (by omega)
              have hFm202 := zfr_up hmm202 hFm200 hc0 rfl
              have hRCRm202 := zR_CR_fr (zdis_fr (zfr_up hmm202 (zfr_rf [(28, 6)] _) hc0 rfl) rfl) hRCRm200
              have hRLRm202 := zR_LR_fr (zdis_fr (zfr_up hmm202 (zfr_rf [(28, 6)] _) hc0 rfl) rfl) hRLRm200
              have hRNSm202 := zR_NS_fr (zdis_fr (zfr_up hmm202 (zfr_rf [(28, 6)] _) hc0 rfl) rfl) hRNSm200
              have hRTRm202 := zR_TR_fr (zdis_fr (zfr_up hmm202 (zfr_rf [(28, 6)] _) hc0 rfl) rfl) hRTRm200
              have hRWDm202 := zR_WD_fr (zdis_fr (zfr_up hmm202 (zfr_rf [(28, 6)] _) hc0 rfl) rfl) hRWDm200
              refine zw_b (by omega) ?_
              refine zw_some ?_
              refine zw_b (by omega) ?_
              refine zw_some ?_
              refine zw_ite (fun h203 => ?_) (fun h203 => ?_)
              · exfalso; omega
              · refine zw_b (by omega) ?_
                refine zw_some ?_
                refine zw_ite (fun h204 => ?_) (fun h204 => ?_)
                · exfalso; omega
                · refine zw_b (by omega) ?_
                  have r205 : 0 ≤ (m202 a0 7) ∧ (m202 a0 7) ≤ 700 := zi_rd hIm202 hc0 zb_28_7
                  have r206 : 0 ≤ (m202 a0 8) ∧ (m202 a0 8) ≤ 6 := zi_rd hIm202 hc0 zb_28_8
                  have e207 : (m202 a0 8) = (m45 a0 8) := (Eq.trans (zs_ne hmm202 (Or.inr (by decide))) (zs_ne hmm200 (Or.inr (by decide))))
                  have r208 : (-2147483648) ≤ (m202 a0 4) ∧ (m202 a0 4) ≤ 2147483647 := zi_rd hIm202 hc0 zb_28_4
                  have e209 : (m202 a0 4) = 1 := (Eq.trans (zs_ne hmm202 (Or.inr (by decide))) (zs_eq hmm200))
                  exact zw_some ⟨hIm202, hFm202, hRCRm202, hRLRm202, hRNSm202, hRTRm202, hRWDm202, ⟨by omega, by omega⟩, by omega, by omega, by omega⟩
          · exfalso; omega
        · refine zw_bd (zw_eq (zu_call_at (zt_T n) (zm_85 n) (zdp_85 n) _ _ _ _ _ rfl (zr_85_0 n _ _ a0 1 m5)) ?_)
          generalize hmm210 : zu_up m5 a0 4 1 = m210
          have hIm210 := zi_up hmm210 hIm5 hc0 zb_28_4 (by omega) (by omega)
          have hFm210 := zfr_up hmm210 hFm5 hc0 rfl
          have hRCRm210 := zR_CR_fr (zdis_fr (zfr_up hmm210 (zfr_rf [(28, 5)] _) hc0 rfl) rfl) hRCRm5
          have hRNSm210 := zR_NS_fr (zdis_fr (zfr_up hmm210 (zfr_rf [(28, 5)] _) hc0 rfl) rfl) hRNSm5
          have hRTRm210 := zR_TR_fr (zdis_fr (zfr_up hmm210 (zfr_rf [(28, 5)] _) hc0 rfl) rfl) hRTRm5
          have hRWDm210 := zR_WD_fr (zdis_fr (zfr_up hmm210 (zfr_rf [(28, 5)] _) hc0 rfl) rfl) hRWDm5
          have hRLRm210 := zLR_wr (zone_190 hc0) hmm210 (by decide)
          have r211 : 0 ≤ (m210 a0 10) ∧ (m210 a0 10) ≤ 700 := zi_rd hIm210 hc0 zb_28_10
          generalize hmm212 : zu_up m210 a0 5 (m210 a0 10) = m212
          have hIm212 := zi_up hmm212 hIm210 hc0 zb_28_5 (by omega) (by omega)
          have hFm212 := zfr_up hmm212 hFm210 hc0 rfl
          have hRCRm212 := zR_CR_fr (zdis_fr (zfr_up hmm212 (zfr_rf [(28, 6)] _) hc0 rfl) rfl) hRCRm210
          have hRLRm212 := zR_LR_fr (zdis_fr (zfr_up hmm212 (zfr_rf [(28, 6)] _) hc0 rfl) rfl) hRLRm210
          have hRNSm212 := zR_NS_fr (zdis_fr (zfr_up hmm212 (zfr_rf [(28, 6)] _) hc0 rfl) rfl) hRNSm210
          have hRTRm212 := zR_TR_fr (zdis_fr (zfr_up hmm212 (zfr_rf [(28, 6)] _) hc0 rfl) rfl) hRTRm210
          have hRWDm212 := zR_WD_fr (zdis_fr (zfr_up hmm212 (zfr_rf [(28, 6)] _) hc0 rfl) rfl) hRWDm210
          refine zw_b (by omega) ?_
          refine zw_some ?_
          refine zw_b (by omega) ?_
          refine zw_some ?_
          refine zw_ite (fun h213 => ?_) (fun h213 => ?_)
          · exfalso; omega
          · refine zw_b (by omega) ?_
            have r214 : 0 ≤ (m212 a0 7) ∧ (m212 a0 7) ≤ 700 := zi_rd hIm212 hc0 zb_28_7
            have r215 : 0 ≤ (m212 a0 8) ∧ (m212 a0 8) ≤ 6 := zi_rd hIm212 hc0 zb_28_8
            have e216 : (m212 a0 8) = (m5 a0 8) := (Eq.trans (zs_ne hmm212 (Or.inr (by decide))) (zs_ne hmm210 (Or.inr (by decide))))
            have r217 : (-2147483648) ≤ (m212 a0 4) ∧ (m212 a0 4) ≤ 2147483647 := zi_rd hIm212 hc0 zb_28_4
            have e218 : (m212 a0 4) = 1 := (Eq.trans (zs_ne hmm212 (Or.inr (by decide))) (zs_eq hmm210))
            exact zw_some ⟨hIm212, hFm212, hRCRm212, hRLRm212, hRNSm212, hRTRm212, hRWDm212, ⟨by omega, by omega⟩, by omega, by omega, by omega⟩
  · refine zw_bd (zw_eq (zu_call_at (zt_T n) (zm_85 n) (zdp_85 n) _ _ _ _ _ rfl (zr_85_0 n _ _ a0 2 m0)) ?_)
    generalize hmm219 : zu_up m0 a0 4 2 = m219
    have hIm219 := zi_up hmm219 hIm0 hc0 zb_28_4 (by omega) (by omega)
    have hFm219 := zfr_up hmm219 hFm0 hc0 rfl
    have hRCRm219 := zR_CR_fr (zdis_fr (zfr_up hmm219 (zfr_rf [(28, 5)] _) hc0 rfl) rfl) hRCRm0
    have hRNSm219 := zR_NS_fr (zdis_fr (zfr_up hmm219 (zfr_rf [(28, 5)] _) hc0 rfl) rfl) hRNSm0
    have hRTRm219 := zR_TR_fr (zdis_fr (zfr_up hmm219 (zfr_rf [(28, 5)] _) hc0 rfl) rfl) hRTRm0
    have hRWDm219 := zR_WD_fr (zdis_fr (zfr_up hmm219 (zfr_rf [(28, 5)] _) hc0 rfl) rfl) hRWDm0
    have hRLRm219 := zLR_wr (zone_190 hc0) hmm219 (by decide)
    have r220 : 0 ≤ (m219 a0 10) ∧ (m219 a0 10) ≤ 700 := zi_rd hIm219 hc0 zb_28_10
    generalize hmm221 : zu_up m219 a0 5 (m219 a0 10) = m221
    have hIm221 := zi_up hmm221 hIm219 hc0 zb_28_5 (by omega) (by omega)
    have hFm221 := zfr_up hmm221 hFm219 hc0 rfl
    have hRCRm221 := zR_CR_fr (zdis_fr (zfr_up hmm221 (zfr_rf [(28, 6)] _) hc0 rfl) rfl) hRCRm219
    have hRLRm221 := zR_LR_fr (zdis_fr (zfr_up hmm221 (zfr_rf [(28, 6)] _) hc0 rfl) rfl) hRLRm219
    have hRNSm221 := zR_NS_fr (zdis_fr (zfr_up hmm221 (zfr_rf [(28, 6)] _) hc0 rfl) rfl) hRNSm219
    have hRTRm221 := zR_TR_fr (zdis_fr (zfr_up hmm221 (zfr_rf [(28, 6)] _) hc0 rfl) rfl) hRTRm219
    have hRWDm221 := zR_WD_fr (zdis_fr (zfr_up hmm221 (zfr_rf [(28, 6)] _) hc0 rfl) rfl) hRWDm219
    refine zw_b (by omega) ?_
    refine zw_some ?_
    refine zw_b (by omega) ?_
    have r222 : 0 ≤ (m221 a0 7) ∧ (m221 a0 7) ≤ 700 := zi_rd hIm221 hc0 zb_28_7
    have r223 : 0 ≤ (m221 a0 8) ∧ (m221 a0 8) ≤ 6 := zi_rd hIm221 hc0 zb_28_8
    have e224 : (m221 a0 8) = (m0 a0 8) := (Eq.trans (zs_ne hmm221 (Or.inr (by decide))) (zs_ne hmm219 (Or.inr (by decide))))
    have r225 : (-2147483648) ≤ (m221 a0 4) ∧ (m221 a0 4) ≤ 2147483647 := zi_rd hIm221 hc0 zb_28_4
    have e226 : (m221 a0 4) = 2 := (Eq.trans (zs_ne hmm221 (Or.inr (by decide))) (zs_eq hmm219))
    exact zw_some ⟨hIm221, hFm221, hRCRm221, hRLRm221, hRNSm221, hRTRm221, hRWDm221, ⟨by omega, by omega⟩, by omega, by omega, by omega⟩

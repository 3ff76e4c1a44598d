set_option maxHeartbeats 4000000 in
theorem zk_99 (n : Nat) {a0 : Int} {m0 : zu_m} (hIm0 : zi_I m0) (hc0 : zcls a0 = 28)     (hRCRm0 : zR_CR m0) (hRLRm0 : zR_LR m0) (hRNSm0 : zR_NS m0) (hRTRm0 : zR_TR m0) (hRWDm0 : zR_WD m0) : zw (zu_call (zt_T n) 99 [(40, a0)] m0) (fun v m => zi_I m ∧ zfr [(28, 5), (28, 6), (28, 8), (28, 9), (28, 10), (28, 11), (28, 12), (28, 18), (28, 19), (102, 0)] m0 m ∧ zR_CR m ∧ zR_LR m ∧ zR_NS m ∧ zR_TR m ∧ zR_WD m ∧ (0 ≤ v ∧ v ≤ 1) ∧ ((m0 a0 7) ≤ (m a0 7)) ∧ (v = 1 → ((m a0 8) = 0 ∨ (m0 a0 7) < (m a0 7))) ∧ (v = 1 → (m a0 4) = (m0 a0 4))) := by
  have hFm0 : zfr [(28, 5), (28, 6), (28, 8), (28, 9), (28, 10), (28, 11), (28, 12), (28, 18), (28, 19), (102, 0)] m0 m0 := zfr_rf _ _
  have s1 := hRNSm0 a0 hc0
  have s2 := hRTRm0 a0 hc0
  refine zw_eq (zu_call_at (zt_T n) (zm_99 n) (zdp_99 n) _ _ _ _ _ rfl (zr_99_0 n _ _ a0 m0)) ?_
  have b3 : 0 ≤ (0 : Int) ∧ (0 : Int) < 6 := by omega
  refine zw_if b3 ?_
  have r4 : 0 ≤ (m0 193 0) ∧ (m0 193 0) ≤ 1 := zi_rd hIm0 zq_193 (zb_102 _)
  refine zw_ite (fun h5 => ?_) (fun h5 => ?_)
  · have r6 : 0 ≤ (m0 a0 23) ∧ (m0 a0 23) ≤ 1 := zi_rd hIm0 hc0 zb_28_23
    refine zw_ite (fun h7 => ?_) (fun h7 => ?_)
    · have r8 : 0 ≤ (m0 a0 20) ∧ (m0 a0 20) ≤ 4 := zi_rd hIm0 hc0 zb_28_20
      have s9 := zCR_ap (zone_190 hc0) hRCRm0
      refine zw_b (by omega) ?_
      have b10 : 0 ≤ (0 : Int) ∧ (0 : Int) < 6 := by omega
      refine zw_if b10 ?_
      generalize hmm11 : zu_up m0 193 0 1 = m11
      have hIm11 := zi_up hmm11 hIm0 zq_193 (zb_102 _) (by omega) (by omega)
      have hFm11 := zfr_up hmm11 hFm0 zq_193 rfl
      have hRCRm11 := zR_CR_fr (zdis_fr (zfr_up hmm11 (zfr_rf [(102, 0)] _) zq_193 rfl) rfl) hRCRm0
      have hRLRm11 := zR_LR_fr (zdis_fr (zfr_up hmm11 (zfr_rf [(102, 0)] _) zq_193 rfl) rfl) hRLRm0
      have hRNSm11 := zR_NS_fr (zdis_fr (zfr_up hmm11 (zfr_rf [(102, 0)] _) zq_193 rfl) rfl) hRNSm0
      have hRTRm11 := zR_TR_fr (zdis_fr (zfr_up hmm11 (zfr_rf [(102, 0)] _) zq_193 rfl) rfl) hRTRm0
      have hRWDm11 := zR_WD_fr (zdis_fr (zfr_up hmm11 (zfr_rf [(102, 0)] _) zq_193 rfl) rfl) hRWDm0
      refine zw_bd (zw_mono (zk_89 n hIm11 hc0 hRNSm11 hRWDm11) (fun v13 m12 hqm12 => ?_))
      obtain ⟨hIm12, hfm12, hvm12⟩ := hqm12
      have hFm12 := zfr_tr hFm11 hfm12 rfl
      obtain ⟨hRNSm12, hRTRm12, hRWDm12, hvm12⟩ := hvm12
      have hRCRm12 := zR_CR_fr (zdis_fr hfm12 rfl) hRCRm11
      have hRLRm12 := zR_LR_fr (zdis_fr hfm12 rfl) hRLRm11
      have s14 := hRNSm12 a0 hc0
      have s15 := hRTRm12 a0 hc0
      refine zw_bd (zw_eq (zu_call_at (zt_T n) (zm_94 n) (zdp_94 n) _ _ _ _ _ rfl (zr_94_0 n _ _ a0 1 8 m12)) ?_)
      have r16 : 0 ≤ (m12 a0 8) ∧ (m12 a0 8) ≤ 6 := zi_rd hIm12 hc0 zb_28_8
      refine zw_ite (fun h17 => ?_) (fun h17 => ?_)
      · refine zw_bd (zw_eq (zu_call_at (zt_T n) (zm_83 n) (zdp_83 n) _ _ _ _ _ rfl (zr_83_0 n _ _ (m12 a0 9) 1 8 m12)) ?_)
        refine zw_ite (fun h18 => ?_) (fun h18 => ?_)
        · refine zw_b (by omega) ?_
          refine zw_some ?_
          refine zw_ite (fun h19 => ?_) (fun h19 => ?_)
          · exfalso; omega
          · refine zw_bd (zw_eq (zu_call_at (zt_T n) (zm_85 n) (zdp_85 n) _ _ _ _ _ rfl (zr_85_0 n _ _ a0 2 m12)) ?_)
            generalize hmm20 : zu_up m12 a0 4 2 = m20
            have hIm20 := zi_up hmm20 hIm12 hc0 zb_28_4 (by omega) (by omega)
            have hFm20 := zfr_up hmm20 hFm12 hc0 rfl
            have hRCRm20 := zR_CR_fr (zdis_fr (zfr_up hmm20 (zfr_rf [(28, 5)] _) hc0 rfl) rfl) hRCRm12
            have hRNSm20 := zR_NS_fr (zdis_fr (zfr_up hmm20 (zfr_rf [(28, 5)] _) hc0 rfl) rfl) hRNSm12
            have hRTRm20 := zR_TR_fr (zdis_fr (zfr_up hmm20 (zfr_rf [(28, 5)] _) hc0 rfl) rfl) hRTRm12
            have hRWDm20 := zR_WD_fr (zdis_fr (zfr_up hmm20 (zfr_rf [(28, 5)] _) hc0 rfl) rfl) hRWDm12
            have hRLRm20 := zLR_wr (zone_190 hc0) hmm20 (by decide)
            have r21 : 0 ≤ (m20 a0 10) ∧ (m20 a0 10) ≤ 700 := zi_rd hIm20 hc0 zb_28_10
            generalize hmm22 : zu_up m20 a0 5 (m20 a0 10) = m22
            have hIm22 := zi_up hmm22 hIm20 hc0 zb_28_5 (by omega) (by omega)
            have hFm22 := zfr_up hmm22 hFm20 hc0 rfl
            have hRCRm22 := zR_CR_fr (zdis_fr (zfr_up hmm22 (zfr_rf [(28, 6)] _) hc0 rfl) rfl) hRCRm20
            have hRLRm22 := zR_LR_fr (zdis_fr (zfr_up hmm22 (zfr_rf [(28, 6)] _) hc0 rfl) rfl) hRLRm20
            have hRNSm22 := zR_NS_fr (zdis_fr (zfr_up hmm22 (zfr_rf [(28, 6)] _) hc0 rfl) rfl) hRNSm20
            have hRTRm22 := zR_TR_fr (zdis_fr (zfr_up hmm22 (zfr_rf [(28, 6)] _) hc0 rfl) rfl) hRTRm20
            have hRWDm22 := zR_WD_fr (zdis_fr (zfr_up hmm22 (zfr_rf [(28, 6)] _) hc0 rfl) rfl) hRWDm20
            refine zw_b (by omega) ?_
            refine zw_some ?_
            refine zw_b (by omega) ?_
            refine zw_some ?_
            refine zw_ite (fun h23 => ?_) (fun h23 => ?_)
            · exfalso; omega
            · refine zw_b (by omega) ?_
              have r24 : 0 ≤ (m22 a0 7) ∧ (m22 a0 7) ≤ 700 := zi_rd hIm22 hc0 zb_28_7
              have r25 : 0 ≤ (m22 a0 8) ∧ (m22 a0 8) ≤ 6 := zi_rd hIm22 hc0 zb_28_8
              have e26 : (m22 a0 8) = (m12 a0 8) := (Eq.trans (zs_ne hmm22 (Or.inr (by decide))) (zs_ne hmm20 (Or.inr (by decide))))
              have r27 : (-2147483648) ≤ (m22 a0 4) ∧ (m22 a0 4) ≤ 2147483647 := zi_rd hIm22 hc0 zb_28_4
              have e28 : (m22 a0 4) = 2 := (Eq.trans (zs_ne hmm22 (Or.inr (by decide))) (zs_eq hmm20))
              exact zw_some ⟨hIm22, hFm22, hRCRm22, hRLRm22, hRNSm22, hRTRm22, hRWDm22, ⟨by omega, by omega⟩, by omega, by omega, by omega⟩
        · refine zw_ite (fun h29 => ?_) (fun h29 => ?_)
          · refine zw_b (by omega) ?_
            refine zw_some ?_
            refine zw_ite (fun h30 => ?_) (fun h30 => ?_)
            · exfalso; omega
            · refine zw_bd (zw_eq (zu_call_at (zt_T n) (zm_85 n) (zdp_85 n) _ _ _ _ _ rfl (zr_85_0 n _ _ a0 2 m12)) ?_)
              generalize hmm31 : zu_up m12 a0 4 2 = m31
              have hIm31 := zi_up hmm31 hIm12 hc0 zb_28_4 (by omega) (by omega)
              have hFm31 := zfr_up hmm31 hFm12 hc0 rfl
              have hRCRm31 := zR_CR_fr (zdis_fr (zfr_up hmm31 (zfr_rf [(28, 5)] _) hc0 rfl) rfl) hRCRm12
              have hRNSm31 := zR_NS_fr (zdis_fr (zfr_up hmm31 (zfr_rf [(28, 5)] _) hc0 rfl) rfl) hRNSm12
              have hRTRm31 := zR_TR_fr (zdis_fr (zfr_up hmm31 (zfr_rf [(28, 5)] _) hc0 rfl) rfl) hRTRm12
              have hRWDm31 := zR_WD_fr (zdis_fr (zfr_up hmm31 (zfr_rf [(28, 5)] _) hc0 rfl) rfl) hRWDm12
              have hRLRm31 := zLR_wr (zone_190 hc0) hmm31 (by decide)
              have r32 : 0 ≤ (m31 a0 10) ∧ (m31 a0 10) ≤ 700 := zi_rd hIm31 hc0 zb_28_10
              generalize hmm33 : zu_up m31 a0 5 (m31 a0 10) = m33
              have hIm33 := zi_up hmm33 hIm31 hc0 zb_28_5 (by omega) (by omega)
              have hFm33 := zfr_up hmm33 hFm31 hc0 rfl
              have hRCRm33 := zR_CR_fr (zdis_fr (zfr_up hmm33 (zfr_rf [(28, 6)] _) hc0 rfl) rfl) hRCRm31
              have hRLRm33 := zR_LR_fr (zdis_fr (zfr_up hmm33 (zfr_rf [(28, 6)] _) hc0 rfl) rfl) hRLRm31
              have hRNSm33 := zR_NS_fr (zdis_fr (zfr_up hmm33 (zfr_rf [(28, 6)] _) hc0 rfl) rfl) hRNSm31
              have hRTRm33 := zR_TR_fr (zdis_fr (zfr_up hmm33 (zfr_rf [(28, 6)] _) hc0 rfl) rfl) hRTRm31
              have hRWDm33 := zR_WD_fr (zdis_fr (zfr_up hmm33 (zfr_rf [(28, 6)] _) hc0 rfl) rfl) hRWDm31
              refine zw_b (by omega) ?_
              refine zw_some ?_
              refine zw_b (by omega) ?_
              refine zw_some ?_
              refine zw_ite (fun h34 => ?_) (fun h34 => ?_)
              · exfalso; omega
              · refine zw_b (by omega) ?_
                have r35 : 0 ≤ (m33 a0 7) ∧ (m33 a0 7) ≤ 700 := zi_rd hIm33 hc0 zb_28_7
                have r36 : 0 ≤ (m33 a0 8) ∧ (m33 a0 8) ≤ 6 := zi_rd hIm33 hc0 zb_28_8
                have e37 : (m33 a0 8) = (m12 a0 8) := (Eq.trans (zs_ne hmm33 (Or.inr (by decide))) (zs_ne hmm31 (Or.inr (by decide))))
                have r38 : (-2147483648) ≤ (m33 a0 4) ∧ (m33 a0 4) ≤ 2147483647 := zi_rd hIm33 hc0 zb_28_4
                have e39 : (m33 a0 4) = 2 := (Eq.trans (zs_ne hmm33 (Or.inr (by decide))) (zs_eq hmm31))
                exact zw_some ⟨hIm33, hFm33, hRCRm33, hRLRm33, hRNSm33, hRTRm33, hRWDm33, ⟨by omega, by omega⟩, by omega, by omega, by omega⟩
          · refine zw_b (by omega) ?_
            refine zw_some ?_
            refine zw_ite (fun h40 => ?_) (fun h40 => ?_)
            · generalize hmm41 : zu_up m12 a0 11 (m12 a0 9) = m41
              have hIm41 := zi_up hmm41 hIm12 hc0 zb_28_11 (by omega) (by omega)
              have hFm41 := zfr_up hmm41 hFm12 hc0 rfl
              have hRCRm41 := zR_CR_fr (zdis_fr (zfr_up hmm41 (zfr_rf [(28, 12)] _) hc0 rfl) rfl) hRCRm12
              have hRLRm41 := zR_LR_fr (zdis_fr (zfr_up hmm41 (zfr_rf [(28, 12)] _) hc0 rfl) rfl) hRLRm12
              have hRNSm41 := zR_NS_fr (zdis_fr (zfr_up hmm41 (zfr_rf [(28, 12)] _) hc0 rfl) rfl) hRNSm12
              have hRTRm41 := zR_TR_fr (zdis_fr (zfr_up hmm41 (zfr_rf [(28, 12)] _) hc0 rfl) rfl) hRTRm12
              have hRWDm41 := zR_WD_fr (zdis_fr (zfr_up hmm41 (zfr_rf [(28, 12)] _) hc0 rfl) rfl) hRWDm12
              refine zw_bd (zw_mono (zk_89 n hIm41 hc0 hRNSm41 hRWDm41) (fun v43 m42 hqm42 => ?_))
              obtain ⟨hIm42, hfm42, hvm42⟩ := hqm42
              have hFm42 := zfr_tr hFm41 hfm42 rfl
              obtain ⟨hRNSm42, hRTRm42, hRWDm42, hvm42⟩ := hvm42
              have hRCRm42 := zR_CR_fr (zdis_fr hfm42 rfl) hRCRm41
              have hRLRm42 := zR_LR_fr (zdis_fr hfm42 rfl) hRLRm41
              have s44 := hRNSm42 a0 hc0
              have s45 := hRTRm42 a0 hc0
              refine zw_b (by omega) ?_
              refine zw_some ?_
              refine zw_ite (fun h46 => ?_) (fun h46 => ?_)
              · have r47 : (-2147483648) ≤ (m42 a0 11) ∧ (m42 a0 11) ≤ 2147483647 := zi_rd hIm42 hc0 zb_28_11
                have e48 : (m42 a0 11) = (m12 a0 9) := (Eq.trans (zfr_ap hfm42 hc0 rfl) (zs_eq hmm41))
                generalize hmm49 : zu_up m42 a0 17 (m42 a0 11) = m49
                have hIm49 := zi_up hmm49 hIm42 hc0 zb_28_17 (by omega) (by omega)
                have hFm49 := zfr_up hmm49 hFm42 hc0 rfl
                have hRLRm49 := zR_LR_fr (zdis_fr (zfr_up hmm49 (zfr_rf [(28, 18)] _) hc0 rfl) rfl) hRLRm42
                have hRNSm49 := zR_NS_fr (zdis_fr (zfr_up hmm49 (zfr_rf [(28, 18)] _) hc0 rfl) rfl) hRNSm42
                have hRTRm49 := zR_TR_fr (zdis_fr (zfr_up hmm49 (zfr_rf [(28, 18)] _) hc0 rfl) rfl) hRTRm42
                have hRWDm49 := zR_WD_fr (zdis_fr (zfr_up hmm49 (zfr_rf [(28, 18)] _) hc0 rfl) rfl) hRWDm42
                have r50 : 0 ≤ (m49 a0 20) ∧ (m49 a0 20) ≤ 4 := zi_rd hIm49 hc0 zb_28_20
                have e51 : (m49 a0 20) = (m0 a0 20) := (Eq.trans (zs_ne hmm49 (Or.inr (by decide))) (Eq.trans (zfr_ap hfm42 hc0 rfl) (Eq.trans (zs_ne hmm41 (Or.inr (by decide))) (Eq.trans (zfr_ap hfm12 hc0 rfl) (zs_ne hmm11 (Or.inl (zc_ne hc0 zq_193 (by decide))))))))
                have hRCRm49 := zCR_zero (m := m49) (zone_190 hc0) (by omega) (by omega)
                refine zw_bd (zw_eq (zu_call_at (zt_T n) (zm_94 n) (zdp_94 n) _ _ _ _ _ rfl (zr_94_0 n _ _ a0 1 6 m49)) ?_)
                have r52 : 0 ≤ (m49 a0 8) ∧ (m49 a0 8) ≤ 6 := zi_rd hIm49 hc0 zb_28_8
                refine zw_ite (fun h53 => ?_) (fun h53 => ?_)
                · have r54 : (-2147483648) ≤ (m49 a0 9) ∧ (m49 a0 9) ≤ 2147483647 := zi_rd hIm49 hc0 zb_28_9
                  refine zw_bd (zw_eq (zu_call_at (zt_T n) (zm_83 n) (zdp_83 n) _ _ _ _ _ rfl (zr_83_0 n _ _ (m49 a0 9) 1 6 m49)) ?_)
                  refine zw_ite (fun h55 => ?_) (fun h55 => ?_)
                  · refine zw_b (by omega) ?_
                    refine zw_some ?_
                    refine zw_ite (fun h56 => ?_) (fun h56 => ?_)
                    · exfalso; omega
                    · refine zw_bd (zw_eq (zu_call_at (zt_T n) (zm_85 n) (zdp_85 n) _ _ _ _ _ rfl (zr_85_0 n _ _ a0 2 m49)) ?_)
                      generalize hmm57 : zu_up m49 a0 4 2 = m57
                      have hIm57 := zi_up hmm57 hIm49 hc0 zb_28_4 (by omega) (by omega)
                      have hFm57 := zfr_up hmm57 hFm49 hc0 rfl
                      have hRCRm57 := zR_CR_fr (zdis_fr (zfr_up hmm57 (zfr_rf [(28, 5)] _) hc0 rfl) rfl) hRCRm49
                      have hRNSm57 := zR_NS_fr (zdis_fr (zfr_up hmm57 (zfr_rf [(28, 5)] _) hc0 rfl) rfl) hRNSm49
                      have hRTRm57 := zR_TR_fr (zdis_fr (zfr_up hmm57 (zfr_rf [(28, 5)] _) hc0 rfl) rfl) hRTRm49
                      have hRWDm57 := zR_WD_fr (zdis_fr (zfr_up hmm57 (zfr_rf [(28, 5)] _) hc0 rfl) rfl) hRWDm49
                      have hRLRm57 := zLR_wr (zone_190 hc0) hmm57 (by decide)
                      have r58 : 0 ≤ (m57 a0 10) ∧ (m57 a0 10) ≤ 700 := zi_rd hIm57 hc0 zb_28_10
                      generalize hmm59 : zu_up m57 a0 5 (m57 a0 10) = m59
                      have hIm59 := zi_up hmm59 hIm57 hc0 zb_28_5 (by omega) (by omega)
                      have hFm59 := zfr_up hmm59 hFm57 hc0 rfl
                      have hRCRm59 := zR_CR_fr (zdis_fr (zfr_up hmm59 (zfr_rf [(28, 6)] _) hc0 rfl) rfl) hRCRm57
                      have hRLRm59 := zR_LR_fr (zdis_fr (zfr_up hmm59 (zfr_rf [(28, 6)] _) hc0 rfl) rfl) hRLRm57
                      have hRNSm59 := zR_NS_fr (zdis_fr (zfr_up hmm59 (zfr_rf [(28, 6)] _) hc0 rfl) rfl) hRNSm57
                      have hRTRm59 := zR_TR_fr (zdis_fr (zfr_up hmm59 (zfr_rf [(28, 6)] _) hc0 rfl) rfl) hRTRm57
                      have hRWDm59 := zR_WD_fr (zdis_fr (zfr_up hmm59 (zfr_rf [(28, 6)] _) hc0 rfl) rfl) hRWDm57
                      refine zw_b (by omega) ?_
                      refine zw_some ?_
                      refine zw_b (by omega) ?_
                      refine zw_some ?_
                      refine zw_ite (fun h60 => ?_) (fun h60 => ?_)
                      · exfalso; omega
                      · refine zw_b (by omega) ?_
                        have r61 : 0 ≤ (m59 a0 7) ∧ (m59 a0 7) ≤ 700 := zi_rd hIm59 hc0 zb_28_7
                        have r62 : 0 ≤ (m59 a0 8) ∧ (m59 a0 8) ≤ 6 := zi_rd hIm59 hc0 zb_28_8
                        have e63 : (m59 a0 8) = (m49 a0 8) := (Eq.trans (zs_ne hmm59 (Or.inr (by decide))) (zs_ne hmm57 (Or.inr (by decide))))
                        have r64 : (-2147483648) ≤ (m59 a0 4) ∧ (m59 a0 4) ≤ 2147483647 := zi_rd hIm59 hc0 zb_28_4
                        have e65 : (m59 a0 4) = 2 := (Eq.trans (zs_ne hmm59 (Or.inr (by decide))) (zs_eq hmm57))
                        exact zw_some ⟨hIm59, hFm59, hRCRm59, hRLRm59, hRNSm59, hRTRm59, hRWDm59, ⟨by omega, by omega⟩, by omega, by omega, by omega⟩
                  · refine zw_ite (fun h66 => ?_) (fun h66 => ?_)
                    · refine zw_b (by omega) ?_
                      refine zw_some ?_
                      refine zw_ite (fun h67 => ?_) (fun h67 => ?_)
                      · exfalso; omega
                      · refine zw_bd (zw_eq (zu_call_at (zt_T n) (zm_85 n) (zdp_85 n) _ _ _ _ _ rfl (zr_85_0 n _ _ a0 2 m49)) ?_)
                        generalize hmm68 : zu_up m49 a0 4 2 = m68
                        have hIm68 := zi_up hmm68 hIm49 hc0 zb_28_4 (by omega) (by omega)
                        have hFm68 := zfr_up hmm68 hFm49 hc0 rfl
                        have hRCRm68 := zR_CR_fr (zdis_fr (zfr_up hmm68 (zfr_rf [(28, 5)] _) hc0 rfl) rfl) hRCRm49
                        have hRNSm68 := zR_NS_fr (zdis_fr (zfr_up hmm68 (zfr_rf [(28, 5)] _) hc0 rfl) rfl) hRNSm49
                        have hRTRm68 := zR_TR_fr (zdis_fr (zfr_up hmm68 (zfr_rf [(28, 5)] _) hc0 rfl) rfl) hRTRm49
                        have hRWDm68 := zR_WD_fr (zdis_fr (zfr_up hmm68 (zfr_rf [(28, 5)] _) hc0 rfl) rfl) hRWDm49
                        have hRLRm68 := zLR_wr (zone_190 hc0) hmm68 (by decide)
                        have r69 : 0 ≤ (m68 a0 10) ∧ (m68 a0 10) ≤ 700 := zi_rd hIm68 hc0 zb_28_10
                        generalize hmm70 : zu_up m68 a0 5 (m68 a0 10) = m70
                        have hIm70 := zi_up hmm70 hIm68 hc0 zb_28_5 (by omega) (by omega)
                        have hFm70 := zfr_up hmm70 hFm68 hc0 rfl
                        have hRCRm70 := zR_CR_fr (zdis_fr (zfr_up hmm70 (zfr_rf [(28, 6)] _) hc0 rfl) rfl) hRCRm68
                        have hRLRm70 := zR_LR_fr (zdis_fr (zfr_up hmm70 (zfr_rf [(28, 6)] _) hc0 rfl) rfl) hRLRm68
                        have hRNSm70 := zR_NS_fr (zdis_fr (zfr_up hmm70 (zfr_rf [(28, 6)] _) hc0 rfl) rfl) hRNSm68
                        have hRTRm70 := zR_TR_fr (zdis_fr (zfr_up hmm70 (zfr_rf [(28, 6)] _) hc0 rfl) rfl) hRTRm68
                        have hRWDm70 := zR_WD_fr (zdis_fr (zfr_up hmm70 (zfr_rf [(28, 6)] _) hc0 rfl) rfl) hRWDm68
                        refine zw_b (by omega) ?_
                        refine zw_some ?_
                        refine zw_b (by omega) ?_
                        refine zw_some ?_
                        refine zw_ite (fun h71 => ?_) (fun h71 => ?_)
                        · exfalso; omega
                        · refine zw_b (by omega) ?_
                          have r72 : 0 ≤ (m70 a0 7) ∧ (m70 a0 7) ≤ 700 := zi_rd hIm70 hc0 zb_28_7
                          have r73 : 0 ≤ (m70 a0 8) ∧ (m70 a0 8) ≤ 6 := zi_rd hIm70 hc0 zb_28_8
                          have e74 : (m70 a0 8) = (m49 a0 8) := (Eq.trans (zs_ne hmm70 (Or.inr (by decide))) (zs_ne hmm68 (Or.inr (by decide))))
                          have r75 : (-2147483648) ≤ (m70 a0 4) ∧ (m70 a0 4) ≤ 2147483647 := zi_rd hIm70 hc0 zb_28_4
                          have e76 : (m70 a0 4) = 2 := (Eq.trans (zs_ne hmm70 (Or.inr (by decide))) (zs_eq hmm68))
                          exact zw_some ⟨hIm70, hFm70, hRCRm70, hRLRm70, hRNSm70, hRTRm70, hRWDm70, ⟨by omega, by omega⟩, by omega, by omega, by omega⟩
                    · refine zw_b (by omega) ?_
                      refine zw_some ?_
                      refine zw_ite (fun h77 => ?_) (fun h77 => ?_)
                      · generalize hmm78 : zu_up m49 a0 11 (m49 a0 9) = m78
                        have hIm78 := zi_up hmm78 hIm49 hc0 zb_28_11 (by omega) (by omega)
                        have hFm78 := zfr_up hmm78 hFm49 hc0 rfl
                        have hRCRm78 := zR_CR_fr (zdis_fr (zfr_up hmm78 (zfr_rf [(28, 12)] _) hc0 rfl) rfl) hRCRm49
                        have hRLRm78 := zR_LR_fr (zdis_fr (zfr_up hmm78 (zfr_rf [(28, 12)] _) hc0 rfl) rfl) hRLRm49
                        have hRNSm78 := zR_NS_fr (zdis_fr (zfr_up hmm78 (zfr_rf [(28, 12)] _) hc0 rfl) rfl) hRNSm49
                        have hRTRm78 := zR_TR_fr (zdis_fr (zfr_up hmm78 (zfr_rf [(28, 12)] _) hc0 rfl) rfl) hRTRm49
                        have hRWDm78 := zR_WD_fr (zdis_fr (zfr_up hmm78 (zfr_rf [(28, 12)] _) hc0 rfl) rfl) hRWDm49
                        refine zw_bd (zw_mono (zk_89 n hIm78 hc0 hRNSm78 hRWDm78) (fun v80 m79 hqm79 => ?_))
                        obtain ⟨hIm79, hfm79, hvm79⟩ := hqm79
                        have hFm79 := zfr_tr hFm78 hfm79 rfl
                        obtain ⟨hRNSm79, hRTRm79, hRWDm79, hvm79⟩ := hvm79
                        have hRCRm79 := zR_CR_fr (zdis_fr hfm79 rfl) hRCRm78
                        have hRLRm79 := zR_LR_fr (zdis_fr hfm79 rfl) hRLRm78
                        have s81 := hRNSm79 a0 hc0
                        have s82 := hRTRm79 a0 hc0
                        refine zw_b (by omega) ?_
                        refine zw_some ?_
                        refine zw_ite (fun h83 => ?_) (fun h83 => ?_)
                        · have r84 : (-2147483648) ≤ (m79 a0 11) ∧ (m79 a0 11) ≤ 2147483647 := zi_rd hIm79 hc0 zb_28_11
                          have e85 : (m79 a0 11) = (m49 a0 9) := (Eq.trans (zfr_ap hfm79 hc0 rfl) (zs_eq hmm78))
                          generalize hmm86 : zu_up m79 a0 18 (m79 a0 11) = m86
                          have hIm86 := zi_up hmm86 hIm79 hc0 zb_28_18 (by omega) (by omega)
                          have hFm86 := zfr_up hmm86 hFm79 hc0 rfl
                          have hRLRm86 := zR_LR_fr (zdis_fr (zfr_up hmm86 (zfr_rf [(28, 19)] _) hc0 rfl) rfl) hRLRm79
                          have hRNSm86 := zR_NS_fr (zdis_fr (zfr_up hmm86 (zfr_rf [(28, 19)] _) hc0 rfl) rfl) hRNSm79
                          have hRTRm86 := zR_TR_fr (zdis_fr (zfr_up hmm86 (zfr_rf [(28, 19)] _) hc0 rfl) rfl) hRTRm79
                          have hRWDm86 := zR_WD_fr (zdis_fr (zfr_up hmm86 (zfr_rf [(28, 19)] _) hc0 rfl) rfl) hRWDm79
                          have r87 : 0 ≤ (m86 a0 20) ∧ (m86 a0 20) ≤ 4 := zi_rd hIm86 hc0 zb_28_20
                          have e88 : (m86 a0 20) = (m49 a0 20) := (Eq.trans (zs_ne hmm86 (Or.inr (by decide))) (Eq.trans (zfr_ap hfm79 hc0 rfl) (zs_ne hmm78 (Or.inr (by decide)))))
                          have hRCRm86 := zCR_zero (m := m86) (zone_190 hc0) (by omega) (by omega)
                          refine zw_b (by omega) ?_
                          have r89 : 0 ≤ (m86 a0 7) ∧ (m86 a0 7) ≤ 700 := zi_rd hIm86 hc0 zb_28_7
                          have r90 : 0 ≤ (m86 a0 8) ∧ (m86 a0 8) ≤ 6 := zi_rd hIm86 hc0 zb_28_8
                          have r91 : (-2147483648) ≤ (m86 a0 4) ∧ (m86 a0 4) ≤ 2147483647 := zi_rd hIm86 hc0 zb_28_4
                          exact zw_some ⟨hIm86, hFm86, hRCRm86, hRLRm86, hRNSm86, hRTRm86, hRWDm86, ⟨by omega, by omega⟩, by omega, by omega, by omega⟩
                        · exfalso; omega
                      · exfalso; omega
                · refine zw_bd (zw_eq (zu_call_at (zt_T n) (zm_85 n) (zdp_85 n) _ _ _ _ _ rfl (zr_85_0 n _ _ a0 1 m49)) ?_)
                  generalize hmm92 : zu_up m49 a0 4 1 = m92
                  have hIm92 := zi_up hmm92 hIm49 hc0 zb_28_4 (by omega) (by omega)
                  have hFm92 := zfr_up hmm92 hFm49 hc0 rfl
                  have hRCRm92 := zR_CR_fr (zdis_fr (zfr_up hmm92 (zfr_rf [(28, 5)] _) hc0 rfl) rfl) hRCRm49
                  have hRNSm92 := zR_NS_fr (zdis_fr (zfr_up hmm92 (zfr_rf [(28, 5)] _) hc0 rfl) rfl) hRNSm49
                  have hRTRm92 := zR_TR_fr (zdis_fr (zfr_up hmm92 (zfr_rf [(28, 5)] _) hc0 rfl) rfl) hRTRm49
                  have hRWDm92 := zR_WD_fr (zdis_fr (zfr_up hmm92 (zfr_rf [(28, 5)] _) hc0 rfl) rfl) hRWDm49
                  have hRLRm92 := zLR_wr (zone_190 hc0) hmm92 (by decide)
                  have r93 : 0 ≤ (m92 a0 10) ∧ (m92 a0 10) ≤ 700 := zi_rd hIm92 hc0 zb_28_10
                  generalize hmm94 : zu_up m92 a0 5 (m92 a0 10) = m94
                  have hIm94 := zi_up hmm94 hIm92 hc0 zb_28_5 (by omega) (by omega)
                  have hFm94 := zfr_up hmm94 hFm92 hc0 rfl
                  have hRCRm94 := zR_CR_fr (zdis_fr (zfr_up hmm94 (zfr_rf [(28, 6)] _) hc0 rfl) rfl) hRCRm92
                  have hRLRm94 := zR_LR_fr (zdis_fr (zfr_up hmm94 (zfr_rf [(28, 6)] _) hc0 rfl) rfl) hRLRm92
                  have hRNSm94 := zR_NS_fr (zdis_fr (zfr_up hmm94 (zfr_rf [(28, 6)] _) hc0 rfl) rfl) hRNSm92
                  have hRTRm94 := zR_TR_fr (zdis_fr (zfr_up hmm94 (zfr_rf [(28, 6)] _) hc0 rfl) rfl) hRTRm92
                  have hRWDm94 := zR_WD_fr (zdis_fr (zfr_up hmm94 (zfr_rf [(28, 6)] _) hc0 rfl) rfl) hRWDm92
                  refine zw_b (by omega) ?_
                  refine zw_some ?_
                  refine zw_b (by omega) ?_
                  refine zw_some ?_
                  refine zw_ite (fun h95 => ?_) (fun h95 => ?_)
                  · exfalso; omega
                  · refine zw_b (by omega) ?_
                    have r96 : 0 ≤ (m94 a0 7) ∧ (m94 a0 7) ≤ 700 := zi_rd hIm94 hc0 zb_28_7
                    have r97 : 0 ≤ (m94 a0 8) ∧ (m94 a0 8) ≤ 6 := zi_rd hIm94 hc0 zb_28_8
                    have e98 : (m94 a0 8) = (m49 a0 8) := (Eq.trans (zs_ne hmm94 (Or.inr (by decide))) (zs_ne hmm92 (Or.inr (by decide))))
                    have r99 : (-2147483648) ≤ (m94 a0 4) ∧ (m94 a0 4) ≤ 2147483647 := zi_rd hIm94 hc0 zb_28_4
                    have e100 : (m94 a0 4) = 1 := (Eq.trans (zs_ne hmm94 (Or.inr (by decide))) (zs_eq hmm92))
                    exact zw_some ⟨hIm94, hFm94, hRCRm94, hRLRm94, hRNSm94, hRTRm94, hRWDm94, ⟨by omega, by omega⟩, by omega, by omega, by omega⟩
              · exfalso; omega
            · exfalso; omega
      · refine zw_bd (zw_eq (zu_call_at (zt_T n) (zm_85 n) (zdp_85 n) _ _ _ _ _ rfl (zr_85_0 n _ _ a0 1 m12)) ?_)
        generalize hmm101 : zu_up m12 a0 4 1 = m101
        have hIm101 := zi_up hmm101 hIm12 hc0 zb_28_4 (by omega) (by omega)
        have hFm101 := zfr_up hmm101 hFm12 hc0 rfl
        have hRCRm101 := zR_CR_fr (zdis_fr (zfr_up hmm101 (zfr_rf [(28, 5)] _) hc0 rfl) rfl) hRCRm12
        have hRNSm101 := zR_NS_fr (zdis_fr (zfr_up hmm101 (zfr_rf [(28, 5)] _) hc0 rfl) rfl) hRNSm12
        have hRTRm101 := zR_TR_fr (zdis_fr (zfr_up hmm101 (zfr_rf [(28, 5)] _) hc0 rfl) rfl) hRTRm12
        have hRWDm101 := zR_WD_fr (zdis_fr (zfr_up hmm101 (zfr_rf [(28, 5)] _) hc0 rfl) rfl) hRWDm12
        have hRLRm101 := zLR_wr (zone_190 hc0) hmm101 (by decide)
        have r102 : 0 ≤ (m101 a0 10) ∧ (m101 a0 10) ≤ 700 := zi_rd hIm101 hc0 zb_28_10
        generalize hmm103 : zu_up m101 a0 5 (m101 a0 10) = m103
        have hIm103 := zi_up hmm103 hIm101 hc0 zb_28_5 (by omega) (by omega)
        have hFm103 := zfr_up hmm103 hFm101 hc0 rfl
        have hRCRm103 := zR_CR_fr (zdis_fr (zfr_up hmm103 (zfr_rf [(28, 6)] _) hc0 rfl) rfl) hRCRm101
        have hRLRm103 := zR_LR_fr (zdis_fr (zfr_up hmm103 (zfr_rf [(28, 6)] _) hc0 rfl) rfl) hRLRm101
        have hRNSm103 := zR_NS_fr (zdis_fr (zfr_up hmm103 (zfr_rf [(28, 6)] _) hc0 rfl) rfl) hRNSm101
        have hRTRm103 := zR_TR_fr (zdis_fr (zfr_up hmm103 (zfr_rf [(28, 6)] _) hc0 rfl) rfl) hRTRm101
        have hRWDm103 := zR_WD_fr (zdis_fr (zfr_up hmm103 (zfr_rf [(28, 6)] _) hc0 rfl) rfl) hRWDm101
        refine zw_b (by omega) ?_
        refine zw_some ?_
        refine zw_b (by omega) ?_
        refine zw_some ?_
        refine zw_ite (fun h104 => ?_) (fun h104 => ?_)
        · exfalso; omega
        · refine zw_b (by omega) ?_
          have r105 : 0 ≤ (m103 a0 7) ∧ (m103 a0 7) ≤ 700 := zi_rd hIm103 hc0 zb_28_7
          have r106 : 0 ≤ (m103 a0 8) ∧ (m103 a0 8) ≤ 6 := zi_rd hIm103 hc0 zb_28_8
          have e107 : (m103 a0 8) = (m12 a0 8) := (Eq.trans (zs_ne hmm103 (Or.inr (by decide))) (zs_ne hmm101 (Or.inr (by decide))))
          have r108 : (-2147483648) ≤ (m103 a0 4) ∧ (m103 a0 4) ≤ 2147483647 := zi_rd hIm103 hc0 zb_28_4
          have e109 : (m103 a0 4) = 1 := (Eq.trans (zs_ne hmm103 (Or.inr (by decide))) (zs_eq hmm101))
          exact zw_some ⟨hIm103, hFm103, hRCRm103, hRLRm103, hRNSm103, hRTRm103, hRWDm103, ⟨by omega, by omega⟩, by omega, by omega, by omega⟩
    · refine zw_bd (zw_eq (zu_call_at (zt_T n) (zm_85 n) (zdp_85 n) _ _ _ _ _ rfl (zr_85_0 n _ _ a0 4 m0)) ?_)
      generalize hmm110 : zu_up m0 a0 4 4 = m110
      have hIm110 := zi_up hmm110 hIm0 hc0 zb_28_4 (by omega) (by omega)
      have hFm110 := zfr_up hmm110 hFm0 hc0 rfl
      have hRCRm110 := zR_CR_fr (zdis_fr (zfr_up hmm110 (zfr_rf [(28, 5)] _) hc0 rfl) rfl) hRCRm0
      have hRNSm110 := zR_NS_fr (zdis_fr (zfr_up hmm110 (zfr_rf [(28, 5)] _) hc0 rfl) rfl) hRNSm0
      have hRTRm110 := zR_TR_fr (zdis_fr (zfr_up hmm110 (zfr_rf [(28, 5)] _) hc0 rfl) rfl) hRTRm0
      have hRWDm110 := zR_WD_fr (zdis_fr (zfr_up hmm110 (zfr_rf [(28, 5)] _) hc0 rfl) rfl) hRWDm0
      have hRLRm110 := zLR_wr (zone_190 hc0) hmm110 (by decide)
      have r111 : 0 ≤ (m110 a0 10) ∧ (m110 a0 10) ≤ 700 := zi_rd hIm110 hc0 zb_28_10
      generalize hmm112 : zu_up m110 a0 5 (m110 a0 10) = m112
      have hIm112 := zi_up hmm112 hIm110 hc0 zb_28_5 (by omega) (by omega)
      have hFm112 := zfr_up hmm112 hFm110 hc0 rfl
      have hRCRm112 := zR_CR_fr (zdis_fr (zfr_up hmm112 (zfr_rf [(28, 6)] _) hc0 rfl) rfl) hRCRm110
      have hRLRm112 := zR_LR_fr (zdis_fr (zfr_up hmm112 (zfr_rf [(28, 6)] _) hc0 rfl) rfl) hRLRm110
      have hRNSm112 := zR_NS_fr (zdis_fr (zfr_up hmm112 (zfr_rf [(28, 6)] _) hc0 rfl) rfl) hRNSm110
      have hRTRm112 := zR_TR_fr (zdis_fr (zfr_up hmm112 (zfr_rf [(28, 6)] _) hc0 rfl) rfl) hRTRm110
      have hRWDm112 := zR_WD_fr (zdis_fr (zfr_up hmm112 (zfr_rf [(28, 6)] _) hc0 rfl) rfl) hRWDm110
      refine zw_b (by omega) ?_
      refine zw_some ?_
      refine zw_b (by omega) ?_
      have r113 : 0 ≤ (m112 a0 7) ∧ (m112 a0 7) ≤ 700 := zi_rd hIm112 hc0 zb_28_7
      have r114 : 0 ≤ (m112 a0 8) ∧ (m112 a0 8) ≤ 6 := zi_rd hIm112 hc0 zb_28_8
      have r115 : (-2147483648) ≤ (m112 a0 4) ∧ (m112 a0 4) ≤ 2147483647 := zi_rd hIm112 hc0 zb_28_4
      have e116 : (m112 a0 4) = 4 := (Eq.trans (zs_ne hmm112 (Or.inr (by decide))) (zs_eq hmm110))
      exact zw_some ⟨hIm112, hFm112, hRCRm112, hRLRm112, hRNSm112, hRTRm112, hRWDm112, ⟨by omega, by omega⟩, by omega, by omega, by omega⟩
  · refine zw_bd (zw_eq (zu_call_at (zt_T n) (zm_85 n) (zdp_85 n) _ _ _ _ _ rfl (zr_85_0 n _ _ a0 3 m0)) ?_)
    generalize hmm117 : zu_up m0 a0 4 3 = m117
    have hIm117 := zi_up hmm117 hIm0 hc0 zb_28_4 (by omega) (by omega)
    have hFm117 := zfr_up hmm117 hFm0 hc0 rfl
    have hRCRm117 := zR_CR_fr (zdis_fr (zfr_up hmm117 (zfr_rf [(28, 5)] _) hc0 rfl) rfl) hRCRm0
    have hRNSm117 := zR_NS_fr (zdis_fr (zfr_up hmm117 (zfr_rf [(28, 5)] _) hc0 rfl) rfl) hRNSm0
    have hRTRm117 := zR_TR_fr (zdis_fr (zfr_up hmm117 (zfr_rf [(28, 5)] _) hc0 rfl) rfl) hRTRm0
    have hRWDm117 := zR_WD_fr (zdis_fr (zfr_up hmm117 (zfr_rf [(28, 5)] _) hc0 rfl) rfl) hRWDm0
    have hRLRm117 := zLR_wr (zone_190 hc0) hmm117 (by decide)
    have r118 : 0 ≤ (m117 a0 10) ∧ (m117 a0 10) ≤ 700 := zi_rd hIm117 hc0 zb_28_10
    generalize hmm119 : zu_up m117 a0 5 (m117 a0 10) = m119
    have hIm119 := zi_up hmm119 hIm117 hc0 zb_28_5 (by omega) (by omega)
    have hFm119 := zfr_up hmm119 hFm117 hc0 rfl
    have hRCRm119 := zR_CR_fr (zdis_fr (zfr_up hmm119 (zfr_rf [(28, 6)] _) hc0 rfl) rfl) hRCRm117
    have hRLRm119 := zR_LR_fr (zdis_fr (zfr_up hmm119 (zfr_rf [(28, 6)] _) hc0 rfl) rfl) hRLRm117
    have hRNSm119 := zR_NS_fr (zdis_fr (zfr_up hmm119 (zfr_rf [(28, 6)] _) hc0 rfl) rfl) hRNSm117
    have hRTRm119 := zR_TR_fr (zdis_fr (zfr_up hmm119 (zfr_rf [(28, 6)] _) hc0 rfl) rfl) hRTRm117
    have hRWDm119 := zR_WD_fr (zdis_fr (zfr_up hmm119 (zfr_rf [(28, 6)] _) hc0 rfl) rfl) hRWDm117
    refine zw_b (by omega) ?_
    refine zw_some ?_
    refine zw_b (by omega) ?_
    have r120 : 0 ≤ (m119 a0 7) ∧ (m119 a0 7) ≤ 700 := zi_rd hIm119 hc0 zb_28_7
    have r121 : 0 ≤ (m119 a0 8) ∧ (m119 a0 8) ≤ 6 := zi_rd hIm119 hc0 zb_28_8
    have r122 : (-2147483648) ≤ (m119 a0 4) ∧ (m119 a0 4) ≤ 2147483647 := zi_rd hIm119 hc0 zb_28_4
    have e123 : (m119 a0 4) = 3 := (Eq.trans (zs_ne hmm119 (Or.inr (by decide))) (zs_eq hmm117))
    exact zw_some ⟨hIm119, hFm119, hRCRm119, hRLRm119, hRNSm119, hRTRm119, hRWDm119, ⟨by omega, by omega⟩, by omega, by omega, by omega⟩
set_option maxHeartbeats 4000000 in
theorem zk_104 (n : Nat) {a0 : Int} {m0 : zu_m} (hIm0 : zi_I m0) (hc0 : zcls a0 = 28)   (he0 : 6 ≤ m0 a0 9 ∧ m0 a0 9 ≤ 10)  (hRLRm0 : zR_LR m0) (hRNSm0 : zR_NS m0) (hRTRm0 : zR_TR m0) (hRWDm0 : zR_WD m0) : zw (zu_call (zt_T n) 104 [(40, a0)] m0) (fun v m => zi_I m ∧ zfr [(28, 5), (28, 6), (28, 8), (28, 9), (28, 10), (28, 11), (28, 12), (102, 0), (103, 0)] m0 m ∧ zR_LR m ∧ zR_NS m ∧ zR_TR m ∧ zR_WD m ∧ (0 ≤ v ∧ v ≤ 1) ∧ ((m0 a0 7) ≤ (m a0 7)) ∧ (v = 1 → ((m a0 8) = 0 ∨ (m0 a0 7) < (m a0 7))) ∧ (v = 1 → (m a0 4) = (m0 a0 4))) := by
  have hFm0 : zfr [(28, 5), (28, 6), (28, 8), (28, 9), (28, 10), (28, 11), (28, 12), (102, 0), (103, 0)] m0 m0 := zfr_rf _ _
  have s1 := hRNSm0 a0 hc0
  have s2 := hRTRm0 a0 hc0
  refine zw_eq (zu_call_at (zt_T n) (zm_104 n) (zdp_104 n) _ _ _ _ _ rfl (zr_104_0 n _ _ a0 m0)) ?_
  refine zw_ite (fun h3 => ?_) (fun h3 => ?_)
  · refine zw_bd (zw_eq (zu_call_at (zt_T n) (zm_98 n) (zdp_98 n) _ _ _ _ _ rfl (zr_98_0 n _ _ a0 1 m0)) ?_)
    have b4 : 0 ≤ (1 : Int) ∧ (1 : Int) < 6 := by omega
    refine zw_if b4 ?_
    have r5 : 0 ≤ (m0 193 1) ∧ (m0 193 1) ≤ 1 := zi_rd hIm0 zq_193 (zb_102 _)
    refine zw_ite (fun h6 => ?_) (fun h6 => ?_)
    · refine zw_b (by omega) ?_
      have b7 : 0 ≤ (1 : Int) ∧ (1 : Int) < 6 := by omega
      refine zw_if b7 ?_
      generalize hmm8 : zu_up m0 193 1 1 = m8
      have hIm8 := zi_up hmm8 hIm0 zq_193 (zb_102 _) (by omega) (by omega)
      have hFm8 := zfr_up hmm8 hFm0 zq_193 rfl
      have hRLRm8 := zR_LR_fr (zdis_fr (zfr_up hmm8 (zfr_rf [(102, 0)] _) zq_193 rfl) rfl) hRLRm0
      have hRNSm8 := zR_NS_fr (zdis_fr (zfr_up hmm8 (zfr_rf [(102, 0)] _) zq_193 rfl) rfl) hRNSm0
      have hRTRm8 := zR_TR_fr (zdis_fr (zfr_up hmm8 (zfr_rf [(102, 0)] _) zq_193 rfl) rfl) hRTRm0
      have hRWDm8 := zR_WD_fr (zdis_fr (zfr_up hmm8 (zfr_rf [(102, 0)] _) zq_193 rfl) rfl) hRWDm0
      refine zw_bd (zw_mono (zk_89 n hIm8 hc0 hRNSm8 hRWDm8) (fun v10 m9 hqm9 => ?_))
      obtain ⟨hIm9, hfm9, hvm9⟩ := hqm9
      have hFm9 := zfr_tr hFm8 hfm9 rfl
      obtain ⟨hRNSm9, hRTRm9, hRWDm9, hvm9⟩ := hvm9
      have hRLRm9 := zR_LR_fr (zdis_fr hfm9 rfl) hRLRm8
      have s11 := hRNSm9 a0 hc0
      have s12 := hRTRm9 a0 hc0
      refine zw_b (by omega) ?_
      refine zw_some ?_
      refine zw_ite (fun h13 => ?_) (fun h13 => ?_)
      · exfalso; omega
      · refine zw_bd (zw_eq (zu_call_at (zt_T n) (zm_97 n) (zdp_97 n) _ _ _ _ _ rfl (zr_97_0 n _ _ a0 16 18 m9)) ?_)
        have r14 : 0 ≤ (m9 a0 8) ∧ (m9 a0 8) ≤ 6 := zi_rd hIm9 hc0 zb_28_8
        refine zw_ite (fun h15 => ?_) (fun h15 => ?_)
        · refine zw_bd (zw_eq (zu_call_at (zt_T n) (zm_85 n) (zdp_85 n) _ _ _ _ _ rfl (zr_85_0 n _ _ a0 1 m9)) ?_)
          generalize hmm16 : zu_up m9 a0 4 1 = m16
          have hIm16 := zi_up hmm16 hIm9 hc0 zb_28_4 (by omega) (by omega)
          have hFm16 := zfr_up hmm16 hFm9 hc0 rfl
          have hRNSm16 := zR_NS_fr (zdis_fr (zfr_up hmm16 (zfr_rf [(28, 5)] _) hc0 rfl) rfl) hRNSm9
          have hRTRm16 := zR_TR_fr (zdis_fr (zfr_up hmm16 (zfr_rf [(28, 5)] _) hc0 rfl) rfl) hRTRm9
          have hRWDm16 := zR_WD_fr (zdis_fr (zfr_up hmm16 (zfr_rf [(28, 5)] _) hc0 rfl) rfl) hRWDm9
          have hRLRm16 := zLR_wr (zone_190 hc0) hmm16 (by decide)
          have r17 : 0 ≤ (m16 a0 10) ∧ (m16 a0 10) ≤ 700 := zi_rd hIm16 hc0 zb_28_10
          generalize hmm18 : zu_up m16 a0 5 (m16 a0 10) = m18
          have hIm18 := zi_up hmm18 hIm16 hc0 zb_28_5 (by omega) (by omega)
          have hFm18 := zfr_up hmm18 hFm16 hc0 rfl
          have hRLRm18 := zR_LR_fr (zdis_fr (zfr_up hmm18 (zfr_rf [(28, 6)] _) hc0 rfl) rfl) hRLRm16
          have hRNSm18 := zR_NS_fr (zdis_fr (zfr_up hmm18 (zfr_rf [(28, 6)] _) hc0 rfl) rfl) hRNSm16
          have hRTRm18 := zR_TR_fr (zdis_fr (zfr_up hmm18 (zfr_rf [(28, 6)] _) hc0 rfl) rfl) hRTRm16
          have hRWDm18 := zR_WD_fr (zdis_fr (zfr_up hmm18 (zfr_rf [(28, 6)] _) hc0 rfl) rfl) hRWDm16
          refine zw_b (by omega) ?_
          refine zw_some ?_
          refine zw_b (by omega) ?_
          refine zw_some ?_
          refine zw_ite (fun h19 => ?_) (fun h19 => ?_)
          · exfalso; omega
          · refine zw_b (by omega) ?_
            have r20 : 0 ≤ (m18 a0 7) ∧ (m18 a0 7) ≤ 700 := zi_rd hIm18 hc0 zb_28_7
            have r21 : 0 ≤ (m18 a0 8) ∧ (m18 a0 8) ≤ 6 := zi_rd hIm18 hc0 zb_28_8
            have e22 : (m18 a0 8) = (m9 a0 8) := (Eq.trans (zs_ne hmm18 (Or.inr (by decide))) (zs_ne hmm16 (Or.inr (by decide))))
            have r23 : (-2147483648) ≤ (m18 a0 4) ∧ (m18 a0 4) ≤ 2147483647 := zi_rd hIm18 hc0 zb_28_4
            have e24 : (m18 a0 4) = 1 := (Eq.trans (zs_ne hmm18 (Or.inr (by decide))) (zs_eq hmm16))
            exact zw_some ⟨hIm18, hFm18, hRLRm18, hRNSm18, hRTRm18, hRWDm18, ⟨by omega, by omega⟩, by omega, by omega, by omega⟩
        · refine zw_ite (fun h25 => ?_) (fun h25 => ?_)
          · refine zw_bd (zw_eq (zu_call_at (zt_T n) (zm_85 n) (zdp_85 n) _ _ _ _ _ rfl (zr_85_0 n _ _ a0 1 m9)) ?_)
            generalize hmm26 : zu_up m9 a0 4 1 = m26
            have hIm26 := zi_up hmm26 hIm9 hc0 zb_28_4 (by omega) (by omega)
            have hFm26 := zfr_up hmm26 hFm9 hc0 rfl
            have hRNSm26 := zR_NS_fr (zdis_fr (zfr_up hmm26 (zfr_rf [(28, 5)] _) hc0 rfl) rfl) hRNSm9
            have hRTRm26 := zR_TR_fr (zdis_fr (zfr_up hmm26 (zfr_rf [(28, 5)] _) hc0 rfl) rfl) hRTRm9
            have hRWDm26 := zR_WD_fr (zdis_fr (zfr_up hmm26 (zfr_rf [(28, 5)] _) hc0 rfl) rfl) hRWDm9
            have hRLRm26 := zLR_wr (zone_190 hc0) hmm26 (by decide)
            have r27 : 0 ≤ (m26 a0 10) ∧ (m26 a0 10) ≤ 700 := zi_rd hIm26 hc0 zb_28_10
            generalize hmm28 : zu_up m26 a0 5 (m26 a0 10) = m28
            have hIm28 := zi_up hmm28 hIm26 hc0 zb_28_5 (by omega) (by omega)
            have hFm28 := zfr_up hmm28 hFm26 hc0 rfl
            have hRLRm28 := zR_LR_fr (zdis_fr (zfr_up hmm28 (zfr_rf [(28, 6)] _) hc0 rfl) rfl) hRLRm26
            have hRNSm28 := zR_NS_fr (zdis_fr (zfr_up hmm28 (zfr_rf [(28, 6)] _) hc0 rfl) rfl) hRNSm26
            have hRTRm28 := zR_TR_fr (zdis_fr (zfr_up hmm28 (zfr_rf [(28, 6)] _) hc0 rfl) rfl) hRTRm26
            have hRWDm28 := zR_WD_fr (zdis_fr (zfr_up hmm28 (zfr_rf [(28, 6)] _) hc0 rfl) rfl) hRWDm26
            refine zw_b (by omega) ?_
            refine zw_some ?_
            refine zw_b (by omega) ?_
            refine zw_some ?_
            refine zw_ite (fun h29 => ?_) (fun h29 => ?_)
            · exfalso; omega
            · refine zw_b (by omega) ?_
              have r30 : 0 ≤ (m28 a0 7) ∧ (m28 a0 7) ≤ 700 := zi_rd hIm28 hc0 zb_28_7
              have r31 : 0 ≤ (m28 a0 8) ∧ (m28 a0 8) ≤ 6 := zi_rd hIm28 hc0 zb_28_8
              have e32 : (m28 a0 8) = (m9 a0 8) := (Eq.trans (zs_ne hmm28 (Or.inr (by decide))) (zs_ne hmm26 (Or.inr (by decide))))
              have r33 : (-2147483648) ≤ (m28 a0 4) ∧ (m28 a0 4) ≤ 2147483647 := zi_rd hIm28 hc0 zb_28_4
              have e34 : (m28 a0 4) = 1 := (Eq.trans (zs_ne hmm28 (Or.inr (by decide))) (zs_eq hmm26))
              exact zw_some ⟨hIm28, hFm28, hRLRm28, hRNSm28, hRTRm28, hRWDm28, ⟨by omega, by omega⟩, by omega, by omega, by omega⟩
          · refine zw_ite (fun h35 => ?_) (fun h35 => ?_)
            · have w36 := zu_w32_id (z := (m9 a0 9) - 16) (by omega) (by omega)
              refine zw_bd (zw_mono (zk_89 n hIm9 hc0 hRNSm9 hRWDm9) (fun v38 m37 hqm37 => ?_))
              obtain ⟨hIm37, hfm37, hvm37⟩ := hqm37
              have hFm37 := zfr_tr hFm9 hfm37 rfl
              obtain ⟨hRNSm37, hRTRm37, hRWDm37, hvm37⟩ := hvm37
              have hRLRm37 := zR_LR_fr (zdis_fr hfm37 rfl) hRLRm9
              have s39 := hRNSm37 a0 hc0
              have s40 := hRTRm37 a0 hc0
              generalize hmm41 : zu_up m37 a0 11 (zu_w32 ((m9 a0 9) - 16)) = m41
              have hIm41 := zi_up hmm41 hIm37 hc0 zb_28_11 (by omega) (by omega)
              have hFm41 := zfr_up hmm41 hFm37 hc0 rfl
              have hRLRm41 := zR_LR_fr (zdis_fr (zfr_up hmm41 (zfr_rf [(28, 12)] _) hc0 rfl) rfl) hRLRm37
              have hRNSm41 := zR_NS_fr (zdis_fr (zfr_up hmm41 (zfr_rf [(28, 12)] _) hc0 rfl) rfl) hRNSm37
              have hRTRm41 := zR_TR_fr (zdis_fr (zfr_up hmm41 (zfr_rf [(28, 12)] _) hc0 rfl) rfl) hRTRm37
              have hRWDm41 := zR_WD_fr (zdis_fr (zfr_up hmm41 (zfr_rf [(28, 12)] _) hc0 rfl) rfl) hRWDm37
              refine zw_b (by omega) ?_
              refine zw_some ?_
              refine zw_ite (fun h42 => ?_) (fun h42 => ?_)
              · have r43 : (-2147483648) ≤ (m41 a0 11) ∧ (m41 a0 11) ≤ 2147483647 := zi_rd hIm41 hc0 zb_28_11
                have e44 : (m41 a0 11) = (zu_w32 ((m9 a0 9) - 16)) := (zs_eq hmm41)
                have b45 : 0 ≤ (5 : Int) ∧ (5 : Int) < 10 := by omega
                refine zw_if b45 ?_
                generalize hmm46 : zu_up m41 194 5 (m41 a0 11) = m46
                have hIm46 := zi_up hmm46 hIm41 zq_194 (zb_103 _) (by omega) (by omega)
                have hFm46 := zfr_up hmm46 hFm41 zq_194 rfl
                have hRLRm46 := zR_LR_fr (zdis_fr (zfr_up hmm46 (zfr_rf [(103, 0)] _) zq_194 rfl) rfl) hRLRm41
                have hRNSm46 := zR_NS_fr (zdis_fr (zfr_up hmm46 (zfr_rf [(103, 0)] _) zq_194 rfl) rfl) hRNSm41
                have hRTRm46 := zR_TR_fr (zdis_fr (zfr_up hmm46 (zfr_rf [(103, 0)] _) zq_194 rfl) rfl) hRTRm41
                have hRWDm46 := zR_WD_fr (zdis_fr (zfr_up hmm46 (zfr_rf [(103, 0)] _) zq_194 rfl) rfl) hRWDm41
                refine zw_b (by omega) ?_
                have r47 : 0 ≤ (m46 a0 7) ∧ (m46 a0 7) ≤ 700 := zi_rd hIm46 hc0 zb_28_7
                have r48 : 0 ≤ (m46 a0 8) ∧ (m46 a0 8) ≤ 6 := zi_rd hIm46 hc0 zb_28_8
                have r49 : (-2147483648) ≤ (m46 a0 4) ∧ (m46 a0 4) ≤ 2147483647 := zi_rd hIm46 hc0 zb_28_4
                exact zw_some ⟨hIm46, hFm46, hRLRm46, hRNSm46, hRTRm46, hRWDm46, ⟨by omega, by omega⟩, by omega, by omega, by omega⟩
              · exfalso; omega
            · refine zw_bd (zw_eq (zu_call_at (zt_T n) (zm_85 n) (zdp_85 n) _ _ _ _ _ rfl (zr_85_0 n _ _ a0 1 m9)) ?_)
              generalize hmm50 : zu_up m9 a0 4 1 = m50
              have hIm50 := zi_up hmm50 hIm9 hc0 zb_28_4 (by omega) (by omega)
              have hFm50 := zfr_up hmm50 hFm9 hc0 rfl
              have hRNSm50 := zR_NS_fr (zdis_fr (zfr_up hmm50 (zfr_rf [(28, 5)] _) hc0 rfl) rfl) hRNSm9
              have hRTRm50 := zR_TR_fr (zdis_fr (zfr_up hmm50 (zfr_rf [(28, 5)] _) hc0 rfl) rfl) hRTRm9
              have hRWDm50 := zR_WD_fr (zdis_fr (zfr_up hmm50 (zfr_rf [(28, 5)] _) hc0 rfl) rfl) hRWDm9
              have hRLRm50 := zLR_wr (zone_190 hc0) hmm50 (by decide)
              have r51 : 0 ≤ (m50 a0 10) ∧ (m50 a0 10) ≤ 700 := zi_rd hIm50 hc0 zb_28_10
              generalize hmm52 : zu_up m50 a0 5 (m50 a0 10) = m52
              have hIm52 := zi_up hmm52 hIm50 hc0 zb_28_5 (by omega) (by omega)
              have hFm52 := zfr_up hmm52 hFm50 hc0 rfl
              have hRLRm52 := zR_LR_fr (zdis_fr (zfr_up hmm52 (zfr_rf [(28, 6)] _) hc0 rfl) rfl) hRLRm50
              have hRNSm52 := zR_NS_fr (zdis_fr (zfr_up hmm52 (zfr_rf [(28, 6)] _) hc0 rfl) rfl) hRNSm50
              have hRTRm52 := zR_TR_fr (zdis_fr (zfr_up hmm52 (zfr_rf [(28, 6)] _) hc0 rfl) rfl) hRTRm50
              have hRWDm52 := zR_WD_fr (zdis_fr (zfr_up hmm52 (zfr_rf [(28, 6)] _) hc0 rfl) rfl) hRWDm50
              refine zw_b (by omega) ?_
              refine zw_some ?_
              refine zw_b (by omega) ?_
              refine zw_some ?_
              refine zw_ite (fun h53 => ?_) (fun h53 => ?_)
              · exfalso; omega
              · refine zw_b (by omega) ?_
                have r54 : 0 ≤ (m52 a0 7) ∧ (m52 a0 7) ≤ 700 := zi_rd hIm52 hc0 zb_28_7
                have r55 : 0 ≤ (m52 a0 8) ∧ (m52 a0 8) ≤ 6 := zi_rd hIm52 hc0 zb_28_8
                have e56 : (m52 a0 8) = (m9 a0 8) := (Eq.trans (zs_ne hmm52 (Or.inr (by decide))) (zs_ne hmm50 (Or.inr (by decide))))
                have r57 : (-2147483648) ≤ (m52 a0 4) ∧ (m52 a0 4) ≤ 2147483647 := zi_rd hIm52 hc0 zb_28_4
                have e58 : (m52 a0 4) = 1 := (Eq.trans (zs_ne hmm52 (Or.inr (by decide))) (zs_eq hmm50))
                exact zw_some ⟨hIm52, hFm52, hRLRm52, hRNSm52, hRTRm52, hRWDm52, ⟨by omega, by omega⟩, by omega, by omega, by omega⟩
    · refine zw_bd (zw_eq (zu_call_at (zt_T n) (zm_85 n) (zdp_85 n) _ _ _ _ _ rfl (zr_85_0 n _ _ a0 3 m0)) ?_)
      generalize hmm59 : zu_up m0 a0 4 3 = m59
      have hIm59 := zi_up hmm59 hIm0 hc0 zb_28_4 (by omega) (by omega)
      have hFm59 := zfr_up hmm59 hFm0 hc0 rfl
      have hRNSm59 := zR_NS_fr (zdis_fr (zfr_up hmm59 (zfr_rf [(28, 5)] _) hc0 rfl) rfl) hRNSm0
      have hRTRm59 := zR_TR_fr (zdis_fr (zfr_up hmm59 (zfr_rf [(28, 5)] _) hc0 rfl) rfl) hRTRm0
      have hRWDm59 := zR_WD_fr (zdis_fr (zfr_up hmm59 (zfr_rf [(28, 5)] _) hc0 rfl) rfl) hRWDm0
      have hRLRm59 := zLR_wr (zone_190 hc0) hmm59 (by decide)
      have r60 : 0 ≤ (m59 a0 10) ∧ (m59 a0 10) ≤ 700 := zi_rd hIm59 hc0 zb_28_10
      generalize hmm61 : zu_up m59 a0 5 (m59 a0 10) = m61
      have hIm61 := zi_up hmm61 hIm59 hc0 zb_28_5 (by omega) (by omega)
      have hFm61 := zfr_up hmm61 hFm59 hc0 rfl
      have hRLRm61 := zR_LR_fr (zdis_fr (zfr_up hmm61 (zfr_rf [(28, 6)] _) hc0 rfl) rfl) hRLRm59
      have hRNSm61 := zR_NS_fr (zdis_fr (zfr_up hmm61 (zfr_rf [(28, 6)] _) hc0 rfl) rfl) hRNSm59
      have hRTRm61 := zR_TR_fr (zdis_fr (zfr_up hmm61 (zfr_rf [(28, 6)] _) hc0 rfl) rfl) hRTRm59
      have hRWDm61 := zR_WD_fr (zdis_fr (zfr_up hmm61 (zfr_rf [(28, 6)] _) hc0 rfl) rfl) hRWDm59
      refine zw_b (by omega) ?_
      refine zw_some ?_
      refine zw_b (by omega) ?_
      refine zw_some ?_
      refine zw_ite (fun h62 => ?_) (fun h62 => ?_)
      · refine zw_b (by omega) ?_
        have r63 : 0 ≤ (m61 a0 7) ∧ (m61 a0 7) ≤ 700 := zi_rd hIm61 hc0 zb_28_7
        have r64 : 0 ≤ (m61 a0 8) ∧ (m61 a0 8) ≤ 6 := zi_rd hIm61 hc0 zb_28_8
        have r65 : (-2147483648) ≤ (m61 a0 4) ∧ (m61 a0 4) ≤ 2147483647 := zi_rd hIm61 hc0 zb_28_4
        have e66 : (m61 a0 4) = 3 := (Eq.trans (zs_ne hmm61 (Or.inr (by decide))) (zs_eq hmm59))
        exact zw_some ⟨hIm61, hFm61, hRLRm61, hRNSm61, hRTRm61, hRWDm61, ⟨by omega, by omega⟩, by omega, by omega, by omega⟩
      · exfalso; omega
  · refine zw_ite (fun h67 => ?_) (fun h67 => ?_)
    · refine zw_bd (zw_eq (zu_call_at (zt_T n) (zm_98 n) (zdp_98 n) _ _ _ _ _ rfl (zr_98_0 n _ _ a0 2 m0)) ?_)
      have b68 : 0 ≤ (2 : Int) ∧ (2 : Int) < 6 := by omega
      refine zw_if b68 ?_
      have r69 : 0 ≤ (m0 193 2) ∧ (m0 193 2) ≤ 1 := zi_rd hIm0 zq_193 (zb_102 _)
      refine zw_ite (fun h70 => ?_) (fun h70 => ?_)
      · refine zw_b (by omega) ?_
        have b71 : 0 ≤ (2 : Int) ∧ (2 : Int) < 6 := by omega
        refine zw_if b71 ?_
        generalize hmm72 : zu_up m0 193 2 1 = m72
        have hIm72 := zi_up hmm72 hIm0 zq_193 (zb_102 _) (by omega) (by omega)
        have hFm72 := zfr_up hmm72 hFm0 zq_193 rfl
        have hRLRm72 := zR_LR_fr (zdis_fr (zfr_up hmm72 (zfr_rf [(102, 0)] _) zq_193 rfl) rfl) hRLRm0
        have hRNSm72 := zR_NS_fr (zdis_fr (zfr_up hmm72 (zfr_rf [(102, 0)] _) zq_193 rfl) rfl) hRNSm0
        have hRTRm72 := zR_TR_fr (zdis_fr (zfr_up hmm72 (zfr_rf [(102, 0)] _) zq_193 rfl) rfl) hRTRm0
        have hRWDm72 := zR_WD_fr (zdis_fr (zfr_up hmm72 (zfr_rf [(102, 0)] _) zq_193 rfl) rfl) hRWDm0
        refine zw_bd (zw_mono (zk_89 n hIm72 hc0 hRNSm72 hRWDm72) (fun v74 m73 hqm73 => ?_))
        obtain ⟨hIm73, hfm73, hvm73⟩ := hqm73
        have hFm73 := zfr_tr hFm72 hfm73 rfl
        obtain ⟨hRNSm73, hRTRm73, hRWDm73, hvm73⟩ := hvm73
        have hRLRm73 := zR_LR_fr (zdis_fr hfm73 rfl) hRLRm72
        have s75 := hRNSm73 a0 hc0
        have s76 := hRTRm73 a0 hc0
        refine zw_b (by omega) ?_
        refine zw_some ?_
        refine zw_ite (fun h77 => ?_) (fun h77 => ?_)
        · exfalso; omega
        · refine zw_bd (zw_eq (zu_call_at (zt_T n) (zm_94 n) (zdp_94 n) _ _ _ _ _ rfl (zr_94_0 n _ _ a0 0 6 m73)) ?_)
          have r78 : 0 ≤ (m73 a0 8) ∧ (m73 a0 8) ≤ 6 := zi_rd hIm73 hc0 zb_28_8
          refine zw_ite (fun h79 => ?_) (fun h79 => ?_)
          · refine zw_bd (zw_eq (zu_call_at (zt_T n) (zm_83 n) (zdp_83 n) _ _ _ _ _ rfl (zr_83_0 n _ _ (m73 a0 9) 0 6 m73)) ?_)
            refine zw_ite (fun h80 => ?_) (fun h80 => ?_)
            · exfalso; omega
            · refine zw_ite (fun h81 => ?_) (fun h81 => ?_)
              · refine zw_b (by omega) ?_
                refine zw_some ?_
                refine zw_ite (fun h82 => ?_) (fun h82 => ?_)
                · exfalso; omega
                · refine zw_bd (zw_eq (zu_call_at (zt_T n) (zm_85 n) (zdp_85 n) _ _ _ _ _ rfl (zr_85_0 n _ _ a0 2 m73)) ?_)
                  generalize hmm83 : zu_up m73 a0 4 2 = m83
                  have hIm83 := zi_up hmm83 hIm73 hc0 zb_28_4 (by omega) (by omega)
                  have hFm83 := zfr_up hmm83 hFm73 hc0 rfl
                  have hRNSm83 := zR_NS_fr (zdis_fr (zfr_up hmm83 (zfr_rf [(28, 5)] _) hc0 rfl) rfl) hRNSm73
                  have hRTRm83 := zR_TR_fr (zdis_fr (zfr_up hmm83 (zfr_rf [(28, 5)] _) hc0 rfl) rfl) hRTRm73
                  have hRWDm83 := zR_WD_fr (zdis_fr (zfr_up hmm83 (zfr_rf [(28, 5)] _) hc0 rfl) rfl) hRWDm73
                  have hRLRm83 := zLR_wr (zone_190 hc0) hmm83 (by decide)
                  have r84 : 0 ≤ (m83 a0 10) ∧ (m83 a0 10) ≤ 700 := zi_rd hIm83 hc0 zb_28_10
                  generalize hmm85 : zu_up m83 a0 5 (m83 a0 10) = m85
                  have hIm85 := zi_up hmm85 hIm83 hc0 zb_28_5 (by omega) (by omega)
                  have hFm85 := zfr_up hmm85 hFm83 hc0 rfl
                  have hRLRm85 := zR_LR_fr (zdis_fr (zfr_up hmm85 (zfr_rf [(28, 6)] _) hc0 rfl) rfl) hRLRm83
                  have hRNSm85 := zR_NS_fr (zdis_fr (zfr_up hmm85 (zfr_rf [(28, 6)] _) hc0 rfl) rfl) hRNSm83
                  have hRTRm85 := zR_TR_fr (zdis_fr (zfr_up hmm85 (zfr_rf [(28, 6)] _) hc0 rfl) rfl) hRTRm83
                  have hRWDm85 := zR_WD_fr (zdis_fr (zfr_up hmm85 (zfr_rf [(28, 6)] _) hc0 rfl) rfl) hRWDm83
                  refine zw_b (by omega) ?_
                  refine zw_some ?_
                  refine zw_b (by omega) ?_
                  refine zw_some ?_
                  refine zw_ite (fun h86 => ?_) (fun h86 => ?_)
                  · exfalso; omega
                  · refine zw_b (by omega) ?_
                    have r87 : 0 ≤ (m85 a0 7) ∧ (m85 a0 7) ≤ 700 := zi_rd hIm85 hc0 zb_28_7
                    have r88 : 0 ≤ (m85 a0 8) ∧ (m85 a0 8) ≤ 6 := zi_rd hIm85 hc0 zb_28_8
                    have e89 : (m85 a0 8) = (m73 a0 8) := (Eq.trans (zs_ne hmm85 (Or.inr (by decide))) (zs_ne hmm83 (Or.inr (by decide))))
                    have r90 : (-2147483648) ≤ (m85 a0 4) ∧ (m85 a0 4) ≤ 2147483647 := zi_rd hIm85 hc0 zb_28_4
                    have e91 : (m85 a0 4) = 2 := (Eq.trans (zs_ne hmm85 (Or.inr (by decide))) (zs_eq hmm83))
                    exact zw_some ⟨hIm85, hFm85, hRLRm85, hRNSm85, hRTRm85, hRWDm85, ⟨by omega, by omega⟩, by omega, by omega, by omega⟩
              · refine zw_b (by omega) ?_
                refine zw_some ?_
                refine zw_ite (fun h92 => ?_) (fun h92 => ?_)
                · generalize hmm93 : zu_up m73 a0 11 (m73 a0 9) = m93
                  have hIm93 := zi_up hmm93 hIm73 hc0 zb_28_11 (by omega) (by omega)
                  have hFm93 := zfr_up hmm93 hFm73 hc0 rfl
                  have hRLRm93 := zR_LR_fr (zdis_fr (zfr_up hmm93 (zfr_rf [(28, 12)] _) hc0 rfl) rfl) hRLRm73
                  have hRNSm93 := zR_NS_fr (zdis_fr (zfr_up hmm93 (zfr_rf [(28, 12)] _) hc0 rfl) rfl) hRNSm73
                  have hRTRm93 := zR_TR_fr (zdis_fr (zfr_up hmm93 (zfr_rf [(28, 12)] _) hc0 rfl) rfl) hRTRm73
                  have hRWDm93 := zR_WD_fr (zdis_fr (zfr_up hmm93 (zfr_rf [(28, 12)] _) hc0 rfl) rfl) hRWDm73
                  refine zw_bd (zw_mono (zk_89 n hIm93 hc0 hRNSm93 hRWDm93) (fun v95 m94 hqm94 => ?_))
                  obtain ⟨hIm94, hfm94, hvm94⟩ := hqm94
                  have hFm94 := zfr_tr hFm93 hfm94 rfl
                  obtain ⟨hRNSm94, hRTRm94, hRWDm94, hvm94⟩ := hvm94
                  have hRLRm94 := zR_LR_fr (zdis_fr hfm94 rfl) hRLRm93
                  have s96 := hRNSm94 a0 hc0
                  have s97 := hRTRm94 a0 hc0
                  refine zw_b (by omega) ?_
                  refine zw_some ?_
                  refine zw_ite (fun h98 => ?_) (fun h98 => ?_)
                  · have r99 : (-2147483648) ≤ (m94 a0 11) ∧ (m94 a0 11) ≤ 2147483647 := zi_rd hIm94 hc0 zb_28_11
                    have e100 : (m94 a0 11) = (m73 a0 9) := (Eq.trans (zfr_ap hfm94 hc0 rfl) (zs_eq hmm93))
                    have b101 : 0 ≤ (6 : Int) ∧ (6 : Int) < 10 := by omega
                    refine zw_if b101 ?_
                    generalize hmm102 : zu_up m94 194 6 (m94 a0 11) = m102
                    have hIm102 := zi_up hmm102 hIm94 zq_194 (zb_103 _) (by omega) (by omega)
                    have hFm102 := zfr_up hmm102 hFm94 zq_194 rfl
                    have hRLRm102 := zR_LR_fr (zdis_fr (zfr_up hmm102 (zfr_rf [(103, 0)] _) zq_194 rfl) rfl) hRLRm94
                    have hRNSm102 := zR_NS_fr (zdis_fr (zfr_up hmm102 (zfr_rf [(103, 0)] _) zq_194 rfl) rfl) hRNSm94
                    have hRTRm102 := zR_TR_fr (zdis_fr (zfr_up hmm102 (zfr_rf [(103, 0)] _) zq_194 rfl) rfl) hRTRm94
                    have hRWDm102 := zR_WD_fr (zdis_fr (zfr_up hmm102 (zfr_rf [(103, 0)] _) zq_194 rfl) rfl) hRWDm94
                    refine zw_b (by omega) ?_
                    have r103 : 0 ≤ (m102 a0 7) ∧ (m102 a0 7) ≤ 700 := zi_rd hIm102 hc0 zb_28_7
                    have r104 : 0 ≤ (m102 a0 8) ∧ (m102 a0 8) ≤ 6 := zi_rd hIm102 hc0 zb_28_8
                    have r105 : (-2147483648) ≤ (m102 a0 4) ∧ (m102 a0 4) ≤ 2147483647 := zi_rd hIm102 hc0 zb_28_4
                    exact zw_some ⟨hIm102, hFm102, hRLRm102, hRNSm102, hRTRm102, hRWDm102, ⟨by omega, by omega⟩, by omega, by omega, by omega⟩
                  · exfalso; omega
                · exfalso; omega
          · refine zw_bd (zw_eq (zu_call_at (zt_T n) (zm_85 n) (zdp_85 n) _ _ _ _ _ rfl (zr_85_0 n _ _ a0 1 m73)) ?_)
            generalize hmm106 : zu_up m73 a0 4 1 = m106
            have hIm106 := zi_up hmm106 hIm73 hc0 zb_28_4 (by omega) (by omega)
            have hFm106 := zfr_up hmm106 hFm73 hc0 rfl
            have hRNSm106 := zR_NS_fr (zdis_fr (zfr_up hmm106 (zfr_rf [(28, 5)] _) hc0 rfl) rfl) hRNSm73
            have hRTRm106 := zR_TR_fr (zdis_fr (zfr_up hmm106 (zfr_rf [(28, 5)] _) hc0 rfl) rfl) hRTRm73
            have hRWDm106 := zR_WD_fr (zdis_fr (zfr_up hmm106 (zfr_rf [(28, 5)] _) hc0 rfl) rfl) hRWDm73
            have hRLRm106 := zLR_wr (zone_190 hc0) hmm106 (by decide)
            have r107 : 0 ≤ (m106 a0 10) ∧ (m106 a0 10) ≤ 700 := zi_rd hIm106 hc0 zb_28_10
            generalize hmm108 : zu_up m106 a0 5 (m106 a0 10) = m108
            have hIm108 := zi_up hmm108 hIm106 hc0 zb_28_5 (by omega) (by omega)
            have hFm108 := zfr_up hmm108 hFm106 hc0 rfl
            have hRLRm108 := zR_LR_fr (zdis_fr (zfr_up hmm108 (zfr_rf [(28, 6)] _) hc0 rfl) rfl) hRLRm106
            have hRNSm108 := zR_NS_fr (zdis_fr (zfr_up hmm108 (zfr_rf [(28, 6)] _) hc0 rfl) rfl) hRNSm106
            have hRTRm108 := zR_TR_fr (zdis_fr (zfr_up hmm108 (zfr_rf [(28, 6)] _) hc0 rfl) rfl) hRTRm106
            have hRWDm108 := zR_WD_fr (zdis_fr (zfr_up hmm108 (zfr_rf [(28, 6)] _) hc0 rfl) rfl) hRWDm106
            refine zw_b (by omega) ?_
            refine zw_some ?_
            refine zw_b (by omega) ?_
            refine zw_some ?_
            refine zw_ite (fun h109 => ?_) (fun h109 => ?_)
            · exfalso; omega
            · refine zw_b (by omega) ?_
              have r110 : 0 ≤ (m108 a0 7) ∧ (m108 a0 7) ≤ 700 := zi_rd hIm108 hc0 zb_28_7
              have r111 : 0 ≤ (m108 a0 8) ∧ (m108 a0 8) ≤ 6 := zi_rd hIm108 hc0 zb_28_8
              have e112 : (m108 a0 8) = (m73 a0 8) := (Eq.trans (zs_ne hmm108 (Or.inr (by decide))) (zs_ne hmm106 (Or.inr (by decide))))
              have r113 : (-2147483648) ≤ (m108 a0 4) ∧ (m108 a0 4) ≤ 2147483647 := zi_rd hIm108 hc0 zb_28_4
              have e114 : (m108 a0 4) = 1 := (Eq.trans (zs_ne hmm108 (Or.inr (by decide))) (zs_eq hmm106))
              exact zw_some ⟨hIm108, hFm108, hRLRm108, hRNSm108, hRTRm108, hRWDm108, ⟨by omega, by omega⟩, by omega, by omega, by omega⟩
      · refine zw_bd (zw_eq (zu_call_at (zt_T n) (zm_85 n) (zdp_85 n) _ _ _ _ _ rfl (zr_85_0 n _ _ a0 3 m0)) ?_)
        generalize hmm115 : zu_up m0 a0 4 3 = m115
        have hIm115 := zi_up hmm115 hIm0 hc0 zb_28_4 (by omega) (by omega)
        have hFm115 := zfr_up hmm115 hFm0 hc0 rfl
        have hRNSm115 := zR_NS_fr (zdis_fr (zfr_up hmm115 (zfr_rf [(28, 5)] _) hc0 rfl) rfl) hRNSm0
        have hRTRm115 := zR_TR_fr (zdis_fr (zfr_up hmm115 (zfr_rf [(28, 5)] _) hc0 rfl) rfl) hRTRm0
        have hRWDm115 := zR_WD_fr (zdis_fr (zfr_up hmm115 (zfr_rf [(28, 5)] _) hc0 rfl) rfl) hRWDm0
        have hRLRm115 := zLR_wr (zone_190 hc0) hmm115 (by decide)
        have r116 : 0 ≤ (m115 a0 10) ∧ (m115 a0 10) ≤ 700 := zi_rd hIm115 hc0 zb_28_10
        generalize hmm117 : zu_up m115 a0 5 (m115 a0 10) = m117
        have hIm117 := zi_up hmm117 hIm115 hc0 zb_28_5 (by omega) (by omega)
        have hFm117 := zfr_up hmm117 hFm115 hc0 rfl
        have hRLRm117 := zR_LR_fr (zdis_fr (zfr_up hmm117 (zfr_rf [(28, 6)] _) hc0 rfl) rfl) hRLRm115
        have hRNSm117 := zR_NS_fr (zdis_fr (zfr_up hmm117 (zfr_rf [(28, 6)] _) hc0 rfl) rfl) hRNSm115
        have hRTRm117 := zR_TR_fr (zdis_fr (zfr_up hmm117 (zfr_rf [(28, 6)] _) hc0 rfl) rfl) hRTRm115
        have hRWDm117 := zR_WD_fr (zdis_fr (zfr_up hmm117 (zfr_rf [(28, 6)] _) hc0 rfl) rfl) hRWDm115
        refine zw_b (by omega) ?_
        refine zw_some ?_
        refine zw_b (by omega) ?_
        refine zw_some ?_
        refine zw_ite (fun h118 => ?_) (fun h118 => ?_)
        · refine zw_b (by omega) ?_
          have r119 : 0 ≤ (m117 a0 7) ∧ (m117 a0 7) ≤ 700 := zi_rd hIm117 hc0 zb_28_7
          have r120 : 0 ≤ (m117 a0 8) ∧ (m117 a0 8) ≤ 6 := zi_rd hIm117 hc0 zb_28_8
          have r121 : (-2147483648) ≤ (m117 a0 4) ∧ (m117 a0 4) ≤ 2147483647 := zi_rd hIm117 hc0 zb_28_4
          have e122 : (m117 a0 4) = 3 := (Eq.trans (zs_ne hmm117 (Or.inr (by decide))) (zs_eq hmm115))
          exact zw_some ⟨hIm117, hFm117, hRLRm117, hRNSm117, hRTRm117, hRWDm117, ⟨by omega, by omega⟩, by omega, by omega, by omega⟩
        · exfalso; omega
    · refine zw_ite (fun h123 => ?_) (fun h123 => ?_)
      · refine zw_bd (zw_eq (zu_call_at (zt_T n) (zm_98 n) (zdp_98 n) _ _ _ _ _ rfl (zr_98_0 n _ _ a0 3 m0)) ?_)
        have b124 : 0 ≤ (3 : Int) ∧ (3 : Int) < 6 := by omega
        refine zw_if b124 ?_
        have r125 : 0 ≤ (m0 193 3) ∧ (m0 193 3) ≤ 1 := zi_rd hIm0 zq_193 (zb_102 _)
        refine zw_ite (fun h126 => ?_) (fun h126 => ?_)
        · refine zw_b (by omega) ?_
          have b127 : 0 ≤ (3 : Int) ∧ (3 : Int) < 6 := by omega
          refine zw_if b127 ?_
          generalize hmm128 : zu_up m0 193 3 1 = m128
          have hIm128 := zi_up hmm128 hIm0 zq_193 (zb_102 _) (by omega) (by omega)
          have hFm128 := zfr_up hmm128 hFm0 zq_193 rfl
          have hRLRm128 := zR_LR_fr (zdis_fr (zfr_up hmm128 (zfr_rf [(102, 0)] _) zq_193 rfl) rfl) hRLRm0
          have hRNSm128 := zR_NS_fr (zdis_fr (zfr_up hmm128 (zfr_rf [(102, 0)] _) zq_193 rfl) rfl) hRNSm0
          have hRTRm128 := zR_TR_fr (zdis_fr (zfr_up hmm128 (zfr_rf [(102, 0)] _) zq_193 rfl) rfl) hRTRm0
          have hRWDm128 := zR_WD_fr (zdis_fr (zfr_up hmm128 (zfr_rf [(102, 0)] _) zq_193 rfl) rfl) hRWDm0
          refine zw_bd (zw_mono (zk_89 n hIm128 hc0 hRNSm128 hRWDm128) (fun v130 m129 hqm129 => ?_))
          obtain ⟨hIm129, hfm129, hvm129⟩ := hqm129
          have hFm129 := zfr_tr hFm128 hfm129 rfl
          obtain ⟨hRNSm129, hRTRm129, hRWDm129, hvm129⟩ := hvm129
          have hRLRm129 := zR_LR_fr (zdis_fr hfm129 rfl) hRLRm128
          have s131 := hRNSm129 a0 hc0
          have s132 := hRTRm129 a0 hc0
          refine zw_b (by omega) ?_
          refine zw_some ?_
          refine zw_ite (fun h133 => ?_) (fun h133 => ?_)
          · exfalso; omega
          · refine zw_bd (zw_eq (zu_call_at (zt_T n) (zm_94 n) (zdp_94 n) _ _ _ _ _ rfl (zr_94_0 n _ _ a0 1 99 m129)) ?_)
            have r134 : 0 ≤ (m129 a0 8) ∧ (m129 a0 8) ≤ 6 := zi_rd hIm129 hc0 zb_28_8
            refine zw_ite (fun h135 => ?_) (fun h135 => ?_)
            · refine zw_bd (zw_eq (zu_call_at (zt_T n) (zm_83 n) (zdp_83 n) _ _ _ _ _ rfl (zr_83_0 n _ _ (m129 a0 9) 1 99 m129)) ?_)
              refine zw_ite (fun h136 => ?_) (fun h136 => ?_)
              · refine zw_b (by omega) ?_
                refine zw_some ?_
                refine zw_ite (fun h137 => ?_) (fun h137 => ?_)
                · exfalso; omega
                · refine zw_bd (zw_eq (zu_call_at (zt_T n) (zm_85 n) (zdp_85 n) _ _ _ _ _ rfl (zr_85_0 n _ _ a0 2 m129)) ?_)
                  generalize hmm138 : zu_up m129 a0 4 2 = m138
                  have hIm138 := zi_up hmm138 hIm129 hc0 zb_28_4 (by omega) (by omega)
                  have hFm138 := zfr_up hmm138 hFm129 hc0 rfl
                  have hRNSm138 := zR_NS_fr (zdis_fr (zfr_up hmm138 (zfr_rf [(28, 5)] _) hc0 rfl) rfl) hRNSm129
                  have hRTRm138 := zR_TR_fr (zdis_fr (zfr_up hmm138 (zfr_rf [(28, 5)] _) hc0 rfl) rfl) hRTRm129
                  have hRWDm138 := zR_WD_fr (zdis_fr (zfr_up hmm138 (zfr_rf [(28, 5)] _) hc0 rfl) rfl) hRWDm129
                  have hRLRm138 := zLR_wr (zone_190 hc0) hmm138 (by decide)
                  have r139 : 0 ≤ (m138 a0 10) ∧ (m138 a0 10) ≤ 700 := zi_rd hIm138 hc0 zb_28_10
                  generalize hmm140 : zu_up m138 a0 5 (m138 a0 10) = m140
                  have hIm140 := zi_up hmm140 hIm138 hc0 zb_28_5 (by omega) (by omega)
                  have hFm140 := zfr_up hmm140 hFm138 hc0 rfl
                  have hRLRm140 := zR_LR_fr (zdis_fr (zfr_up hmm140 (zfr_rf [(28, 6)] _) hc0 rfl) rfl) hRLRm138
                  have hRNSm140 := zR_NS_fr (zdis_fr (zfr_up hmm140 (zfr_rf [(28, 6)] _) hc0 rfl) rfl) hRNSm138
                  have hRTRm140 := zR_TR_fr (zdis_fr (zfr_up hmm140 (zfr_rf [(28, 6)] _) hc0 rfl) rfl) hRTRm138
                  have hRWDm140 := zR_WD_fr (zdis_fr (zfr_up hmm140 (zfr_rf [(28, 6)] _) hc0 rfl) rfl) hRWDm138
                  refine zw_b (by omega) ?_
                  refine zw_some ?_
                  refine zw_b (by omega) ?_
                  refine zw_some ?_
                  refine zw_ite (fun h141 => ?_) (fun h141 => ?_)
                  · exfalso; omega
                  · refine zw_b (by omega) ?_
                    have r142 : 0 ≤ (m140 a0 7) ∧ (m140 a0 7) ≤ 700 := zi_rd hIm140 hc0 zb_28_7
                    have r143 : 0 ≤ (m140 a0 8) ∧ (m140 a0 8) ≤ 6 := zi_rd hIm140 hc0 zb_28_8
                    have e144 : (m140 a0 8) = (m129 a0 8) := (Eq.trans (zs_ne hmm140 (Or.inr (by decide))) (zs_ne hmm138 (Or.inr (by decide))))
                    have r145 : (-2147483648) ≤ (m140 a0 4) ∧ (m140 a0 4) ≤ 2147483647 := zi_rd hIm140 hc0 zb_28_4
                    have e146 : (m140 a0 4) = 2 := (Eq.trans (zs_ne hmm140 (Or.inr (by decide))) (zs_eq hmm138))
                    exact zw_some ⟨hIm140, hFm140, hRLRm140, hRNSm140, hRTRm140, hRWDm140, ⟨by omega, by omega⟩, by omega, by omega, by omega⟩
              · refine zw_ite (fun h147 => ?_) (fun h147 => ?_)
                · refine zw_b (by omega) ?_
                  refine zw_some ?_
                  refine zw_ite (fun h148 => ?_) (fun h148 => ?_)
                  · exfalso; omega
                  · refine zw_bd (zw_eq (zu_call_at (zt_T n) (zm_85 n) (zdp_85 n) _ _ _ _ _ rfl (zr_85_0 n _ _ a0 2 m129)) ?_)
                    generalize hmm149 : zu_up m129 a0 4 2 = m149
                    have hIm149 := zi_up hmm149 hIm129 hc0 zb_28_4 (by omega) (by omega)
                    have hFm149 := zfr_up hmm149 hFm129 hc0 rfl
                    have hRNSm149 := zR_NS_fr (zdis_fr (zfr_up hmm149 (zfr_rf [(28, 5)] _) hc0 rfl) rfl) hRNSm129
                    have hRTRm149 := zR_TR_fr (zdis_fr (zfr_up hmm149 (zfr_rf [(28, 5)] _) hc0 rfl) rfl) hRTRm129
                    have hRWDm149 := zR_WD_fr (zdis_fr (zfr_up hmm149 (zfr_rf [(28, 5)] _) hc0 rfl) rfl) hRWDm129
                    have hRLRm149 := zLR_wr (zone_190 hc0) hmm149 (by decide)
                    have r150 : 0 ≤ (m149 a0 10) ∧ (m149 a0 10) ≤ 700 := zi_rd hIm149 hc0 zb_28_10
                    generalize hmm151 : zu_up m149 a0 5 (m149 a0 10) = m151
                    have hIm151 := zi_up hmm151 hIm149 hc0 zb_28_5 (by omega) (by omega)
                    have hFm151 := zfr_up hmm151 hFm149 hc0 rfl
                    have hRLRm151 := zR_LR_fr (zdis_fr (zfr_up hmm151 (zfr_rf [(28, 6)] _) hc0 rfl) rfl) hRLRm149
                    have hRNSm151 := zR_NS_fr (zdis_fr (zfr_up hmm151 (zfr_rf [(28, 6)] _) hc0 rfl) rfl) hRNSm149
                    have hRTRm151 := zR_TR_fr (zdis_fr (zfr_up hmm151 (zfr_rf [(28, 6)] _) hc0 rfl) rfl) hRTRm149
                    have hRWDm151 := zR_WD_fr (zdis_fr (zfr_up hmm151 (zfr_rf [(28, 6)] _) hc0 rfl) rfl) hRWDm149
                    refine zw_b (by omega) ?_
                    refine zw_some ?_
                    refine zw_b (by omega) ?_
                    refine zw_some ?_
                    refine zw_ite (fun h152 => ?_) (fun h152 => ?_)
                    · exfalso; omega
                    · refine zw_b (by omega) ?_
                      have r153 : 0 ≤ (m151 a0 7) ∧ (m151 a0 7) ≤ 700 := zi_rd hIm151 hc0 zb_28_7
                      have r154 : 0 ≤ (m151 a0 8) ∧ (m151 a0 8) ≤ 6 := zi_rd hIm151 hc0 zb_28_8
                      have e155 : (m151 a0 8) = (m129 a0 8) := (Eq.trans (zs_ne hmm151 (Or.inr (by decide))) (zs_ne hmm149 (Or.inr (by decide))))
                      have r156 : (-2147483648) ≤ (m151 a0 4) ∧ (m151 a0 4) ≤ 2147483647 := zi_rd hIm151 hc0 zb_28_4
                      have e157 : (m151 a0 4) = 2 := (Eq.trans (zs_ne hmm151 (Or.inr (by decide))) (zs_eq hmm149))
                      exact zw_some ⟨hIm151, hFm151, hRLRm151, hRNSm151, hRTRm151, hRWDm151, ⟨by omega, by omega⟩, by omega, by omega, by omega⟩
                · refine zw_b (by omega) ?_
                  refine zw_some ?_
                  refine zw_ite (fun h158 => ?_) (fun h158 => ?_)
                  · generalize hmm159 : zu_up m129 a0 11 (m129 a0 9) = m159
                    have hIm159 := zi_up hmm159 hIm129 hc0 zb_28_11 (by omega) (by omega)
                    have hFm159 := zfr_up hmm159 hFm129 hc0 rfl
                    have hRLRm159 := zR_LR_fr (zdis_fr (zfr_up hmm159 (zfr_rf [(28, 12)] _) hc0 rfl) rfl) hRLRm129
                    have hRNSm159 := zR_NS_fr (zdis_fr (zfr_up hmm159 (zfr_rf [(28, 12)] _) hc0 rfl) rfl) hRNSm129
                    have hRTRm159 := zR_TR_fr (zdis_fr (zfr_up hmm159 (zfr_rf [(28, 12)] _) hc0 rfl) rfl) hRTRm129
                    have hRWDm159 := zR_WD_fr (zdis_fr (zfr_up hmm159 (zfr_rf [(28, 12)] _) hc0 rfl) rfl) hRWDm129
                    refine zw_bd (zw_mono (zk_89 n hIm159 hc0 hRNSm159 hRWDm159) (fun v161 m160 hqm160 => ?_))
                    obtain ⟨hIm160, hfm160, hvm160⟩ := hqm160
                    have hFm160 := zfr_tr hFm159 hfm160 rfl
                    obtain ⟨hRNSm160, hRTRm160, hRWDm160, hvm160⟩ := hvm160
                    have hRLRm160 := zR_LR_fr (zdis_fr hfm160 rfl) hRLRm159
                    have s162 := hRNSm160 a0 hc0
                    have s163 := hRTRm160 a0 hc0
                    refine zw_b (by omega) ?_
                    refine zw_some ?_
                    refine zw_ite (fun h164 => ?_) (fun h164 => ?_)
                    · have r165 : (-2147483648) ≤ (m160 a0 11) ∧ (m160 a0 11) ≤ 2147483647 := zi_rd hIm160 hc0 zb_28_11
                      have e166 : (m160 a0 11) = (m129 a0 9) := (Eq.trans (zfr_ap hfm160 hc0 rfl) (zs_eq hmm159))
                      have b167 : 0 ≤ (7 : Int) ∧ (7 : Int) < 10 := by omega
                      refine zw_if b167 ?_
                      generalize hmm168 : zu_up m160 194 7 (m160 a0 11) = m168
                      have hIm168 := zi_up hmm168 hIm160 zq_194 (zb_103 _) (by omega) (by omega)
                      have hFm168 := zfr_up hmm168 hFm160 zq_194 rfl
                      have hRLRm168 := zR_LR_fr (zdis_fr (zfr_up hmm168 (zfr_rf [(103, 0)] _) zq_194 rfl) rfl) hRLRm160
                      have hRNSm168 := zR_NS_fr (zdis_fr (zfr_up hmm168 (zfr_rf [(103, 0)] _) zq_194 rfl) rfl) hRNSm160
                      have hRTRm168 := zR_TR_fr (zdis_fr (zfr_up hmm168 (zfr_rf [(103, 0)] _) zq_194 rfl) rfl) hRTRm160
                      have hRWDm168 := zR_WD_fr (zdis_fr (zfr_up hmm168 (zfr_rf [(103, 0)] _) zq_194 rfl) rfl) hRWDm160
                      refine zw_b (by omega) ?_
                      have r169 : 0 ≤ (m168 a0 7) ∧ (m168 a0 7) ≤ 700 := zi_rd hIm168 hc0 zb_28_7
                      have r170 : 0 ≤ (m168 a0 8) ∧ (m168 a0 8) ≤ 6 := zi_rd hIm168 hc0 zb_28_8
                      have r171 : (-2147483648) ≤ (m168 a0 4) ∧ (m168 a0 4) ≤ 2147483647 := zi_rd hIm168 hc0 zb_28_4
                      exact zw_some ⟨hIm168, hFm168, hRLRm168, hRNSm168, hRTRm168, hRWDm168, ⟨by omega, by omega⟩, by omega, by omega, by omega⟩
                    · exfalso; omega
                  · exfalso; omega
            · refine zw_bd (zw_eq (zu_call_at (zt_T n) (zm_85 n) (zdp_85 n) _ _ _ _ _ rfl (zr_85_0 n _ _ a0 1 m129)) ?_)
              generalize hmm172 : zu_up m129 a0 4 1 = m172
              have hIm172 := zi_up hmm172 hIm129 hc0 zb_28_4 (by omega) (by omega)
              have hFm172 := zfr_up hmm172 hFm129 hc0 rfl
              have hRNSm172 := zR_NS_fr (zdis_fr (zfr_up hmm172 (zfr_rf [(28, 5)] _) hc0 rfl) rfl) hRNSm129
              have hRTRm172 := zR_TR_fr (zdis_fr (zfr_up hmm172 (zfr_rf [(28, 5)] _) hc0 rfl) rfl) hRTRm129
              have hRWDm172 := zR_WD_fr (zdis_fr (zfr_up hmm172 (zfr_rf [(28, 5)] _) hc0 rfl) rfl) hRWDm129
              have hRLRm172 := zLR_wr (zone_190 hc0) hmm172 (by decide)
              have r173 : 0 ≤ (m172 a0 10) ∧ (m172 a0 10) ≤ 700 := zi_rd hIm172 hc0 zb_28_10
              generalize hmm174 : zu_up m172 a0 5 (m172 a0 10) = m174
              have hIm174 := zi_up hmm174 hIm172 hc0 zb_28_5 (by omega) (by omega)
              have hFm174 := zfr_up hmm174 hFm172 hc0 rfl
              have hRLRm174 := zR_LR_fr (zdis_fr (zfr_up hmm174 (zfr_rf [(28, 6)] _) hc0 rfl) rfl) hRLRm172
              have hRNSm174 := zR_NS_fr (zdis_fr (zfr_up hmm174 (zfr_rf [(28, 6)] _) hc0 rfl) rfl) hRNSm172
              have hRTRm174 := zR_TR_fr (zdis_fr (zfr_up hmm174 (zfr_rf [(28, 6)] _) hc0 rfl) rfl) hRTRm172
              have hRWDm174 := zR_WD_fr (zdis_fr (zfr_up hmm174 (zfr_rf [(28, 6)] _) hc0 rfl) rfl) hRWDm172
              refine zw_b (by omega) ?_
              refine zw_some ?_
              refine zw_b (by omega) ?_
              refine zw_some ?_
              refine zw_ite (fun h175 => ?_) (fun h175 => ?_)
              · exfalso; omega
              · refine zw_b (by omega) ?_
                have r176 : 0 ≤ (m174 a0 7) ∧ (m174 a0 7) ≤ 700 := zi_rd hIm174 hc0 zb_28_7
                have r177 : 0 ≤ (m174 a0 8) ∧ (m174 a0 8) ≤ 6 := zi_rd hIm174 hc0 zb_28_8
                have e178 : (m174 a0 8) = (m129 a0 8) := (Eq.trans (zs_ne hmm174 (Or.inr (by decide))) (zs_ne hmm172 (Or.inr (by decide))))
                have r179 : (-2147483648) ≤ (m174 a0 4) ∧ (m174 a0 4) ≤ 2147483647 := zi_rd hIm174 hc0 zb_28_4
                have e180 : (m174 a0 4) = 1 := (Eq.trans (zs_ne hmm174 (Or.inr (by decide))) (zs_eq hmm172))
                exact zw_some ⟨hIm174, hFm174, hRLRm174, hRNSm174, hRTRm174, hRWDm174, ⟨by omega, by omega⟩, by omega, by omega, by omega⟩
        · refine zw_bd (zw_eq (zu_call_at (zt_T n) (zm_85 n) (zdp_85 n) _ _ _ _ _ rfl (zr_85_0 n _ _ a0 3 m0)) ?_)
          generalize hmm181 : zu_up m0 a0 4 3 = m181
          have hIm181 := zi_up hmm181 hIm0 hc0 zb_28_4 (by omega) (by omega)
          have hFm181 := zfr_up hmm181 hFm0 hc0 rfl
          have hRNSm181 := zR_NS_fr (zdis_fr (zfr_up hmm181 (zfr_rf [(28, 5)] _) hc0 rfl) rfl) hRNSm0
          have hRTRm181 := zR_TR_fr (zdis_fr (zfr_up hmm181 (zfr_rf [(28, 5)] _) hc0 rfl) rfl) hRTRm0
          have hRWDm181 := zR_WD_fr (zdis_fr (zfr_up hmm181 (zfr_rf [(28, 5)] _) hc0 rfl) rfl) hRWDm0
          have hRLRm181 := zLR_wr (zone_190 hc0) hmm181 (by decide)
          have r182 : 0 ≤ (m181 a0 10) ∧ (m181 a0 10) ≤ 700 := zi_rd hIm181 hc0 zb_28_10
          generalize hmm183 : zu_up m181 a0 5 (m181 a0 10) = m183
          have hIm183 := zi_up hmm183 hIm181 hc0 zb_28_5 (by omega) (by omega)
          have hFm183 := zfr_up hmm183 hFm181 hc0 rfl
          have hRLRm183 := zR_LR_fr (zdis_fr (zfr_up hmm183 (zfr_rf [(28, 6)] _) hc0 rfl) rfl) hRLRm181
          have hRNSm183 := zR_NS_fr (zdis_fr (zfr_up hmm183 (zfr_rf [(28, 6)] _) hc0 rfl) rfl) hRNSm181
          have hRTRm183 := zR_TR_fr (zdis_fr (zfr_up hmm183 (zfr_rf [(28, 6)] _) hc0 rfl) rfl) hRTRm181
          have hRWDm183 := zR_WD_fr (zdis_fr (zfr_up hmm183 (zfr_rf [(28, 6)] _) hc0 rfl) rfl) hRWDm181
          refine zw_b (by omega) ?_
          refine zw_some ?_
          refine zw_b (by omega) ?_
          refine zw_some ?_
          refine zw_ite (fun h184 => ?_) (fun h184 => ?_)
          · refine zw_b (by omega) ?_
            have r185 : 0 ≤ (m183 a0 7) ∧ (m183 a0 7) ≤ 700 := zi_rd hIm183 hc0 zb_28_7
            have r186 : 0 ≤ (m183 a0 8) ∧ (m183 a0 8) ≤ 6 := zi_rd hIm183 hc0 zb_28_8
            have r187 : (-2147483648) ≤ (m183 a0 4) ∧ (m183 a0 4) ≤ 2147483647 := zi_rd hIm183 hc0 zb_28_4
            have e188 : (m183 a0 4) = 3 := (Eq.trans (zs_ne hmm183 (Or.inr (by decide))) (zs_eq hmm181))
            exact zw_some ⟨hIm183, hFm183, hRLRm183, hRNSm183, hRTRm183, hRWDm183, ⟨by omega, by omega⟩, by omega, by omega, by omega⟩
          · exfalso; omega
      · refine zw_ite (fun h189 => ?_) (fun h189 => ?_)
        · refine zw_bd (zw_eq (zu_call_at (zt_T n) (zm_98 n) (zdp_98 n) _ _ _ _ _ rfl (zr_98_0 n _ _ a0 4 m0)) ?_)
          have b190 : 0 ≤ (4 : Int) ∧ (4 : Int) < 6 := by omega
          refine zw_if b190 ?_
          have r191 : 0 ≤ (m0 193 4) ∧ (m0 193 4) ≤ 1 := zi_rd hIm0 zq_193 (zb_102 _)
          refine zw_ite (fun h192 => ?_) (fun h192 => ?_)
          · refine zw_b (by omega) ?_
            have b193 : 0 ≤ (4 : Int) ∧ (4 : Int) < 6 := by omega
            refine zw_if b193 ?_
            generalize hmm194 : zu_up m0 193 4 1 = m194
            have hIm194 := zi_up hmm194 hIm0 zq_193 (zb_102 _) (by omega) (by omega)
            have hFm194 := zfr_up hmm194 hFm0 zq_193 rfl
            have hRLRm194 := zR_LR_fr (zdis_fr (zfr_up hmm194 (zfr_rf [(102, 0)] _) zq_193 rfl) rfl) hRLRm0
            have hRNSm194 := zR_NS_fr (zdis_fr (zfr_up hmm194 (zfr_rf [(102, 0)] _) zq_193 rfl) rfl) hRNSm0
            have hRTRm194 := zR_TR_fr (zdis_fr (zfr_up hmm194 (zfr_rf [(102, 0)] _) zq_193 rfl) rfl) hRTRm0
            have hRWDm194 := zR_WD_fr (zdis_fr (zfr_up hmm194 (zfr_rf [(102, 0)] _) zq_193 rfl) rfl) hRWDm0
            refine zw_bd (zw_mono (zk_89 n hIm194 hc0 hRNSm194 hRWDm194) (fun v196 m195 hqm195 => ?_))
            obtain ⟨hIm195, hfm195, hvm195⟩ := hqm195
            have hFm195 := zfr_tr hFm194 hfm195 rfl
            obtain ⟨hRNSm195, hRTRm195, hRWDm195, hvm195⟩ := hvm195
            have hRLRm195 := zR_LR_fr (zdis_fr hfm195 rfl) hRLRm194
            have s197 := hRNSm195 a0 hc0
            have s198 := hRTRm195 a0 hc0
            refine zw_b (by omega) ?_
            refine zw_some ?_
            refine zw_ite (fun h199 => ?_) (fun h199 => ?_)
            · exfalso; omega
            · refine zw_bd (zw_eq (zu_call_at (zt_T n) (zm_94 n) (zdp_94 n) _ _ _ _ _ rfl (zr_94_0 n _ _ a0 0 999 m195)) ?_)
              have r200 : 0 ≤ (m195 a0 8) ∧ (m195 a0 8) ≤ 6 := zi_rd hIm195 hc0 zb_28_8
              refine zw_ite (fun h201 => ?_) (fun h201 => ?_)
              · refine zw_bd (zw_eq (zu_call_at (zt_T n) (zm_83 n) (zdp_83 n) _ _ _ _ _ rfl (zr_83_0 n _ _ (m195 a0 9) 0 999 m195)) ?_)
                refine zw_ite (fun h202 => ?_) (fun h202 => ?_)
                · exfalso; omega
                · refine zw_ite (fun h203 => ?_) (fun h203 => ?_)
                  · refine zw_b (by omega) ?_
                    refine zw_some ?_
                    refine zw_ite (fun h204 => ?_) (fun h204 => ?_)
                    · exfalso; omega
                    · refine zw_bd (zw_eq (zu_call_at (zt_T n) (zm_85 n) (zdp_85 n) _ _ _ _ _ rfl (zr_85_0 n _ _ a0 2 m195)) ?_)
                      generalize hmm205 : zu_up m195 a0 4 2 = m205
                      have hIm205 := zi_up hmm205 hIm195 hc0 zb_28_4 (by omega) (by omega)
                      have hFm205 := zfr_up hmm205 hFm195 hc0 rfl
                      have hRNSm205 := zR_NS_fr (zdis_fr (zfr_up hmm205 (zfr_rf [(28, 5)] _) hc0 rfl) rfl) hRNSm195
                      have hRTRm205 := zR_TR_fr (zdis_fr (zfr_up hmm205 (zfr_rf [(28, 5)] _) hc0 rfl) rfl) hRTRm195
                      have hRWDm205 := zR_WD_fr (zdis_fr (zfr_up hmm205 (zfr_rf [(28, 5)] _) hc0 rfl) rfl) hRWDm195
                      have hRLRm205 := zLR_wr (zone_190 hc0) hmm205 (by decide)
                      have r206 : 0 ≤ (m205 a0 10) ∧ (m205 a0 10) ≤ 700 := zi_rd hIm205 hc0 zb_28_10
                      generalize hmm207 : zu_up m205 a0 5 (m205 a0 10) = m207
                      have hIm207 := zi_up hmm207 hIm205 hc0 zb_28_5 (by omega) (by omega)
                      have hFm207 := zfr_up hmm207 hFm205 hc0 rfl
                      have hRLRm207 := zR_LR_fr (zdis_fr (zfr_up hmm207 (zfr_rf [(28, 6)] _) hc0 rfl) rfl) hRLRm205
                      have hRNSm207 := zR_NS_fr (zdis_fr (zfr_up hmm207 (zfr_rf [(28, 6)] _) hc0 rfl) rfl) hRNSm205
                      have hRTRm207 := zR_TR_fr (zdis_fr (zfr_up hmm207 (zfr_rf [(28, 6)] _) hc0 rfl) rfl) hRTRm205
                      have hRWDm207 := zR_WD_fr (zdis_fr (zfr_up hmm207 (zfr_rf [(28, 6)] _) hc0 rfl) rfl) hRWDm205
                      refine zw_b (by omega) ?_
                      refine zw_some ?_
                      refine zw_b (by omega) ?_
                      refine zw_some ?_
                      refine zw_ite (fun h208 => ?_) (fun h208 => ?_)
                      · exfalso; omega
                      · refine zw_b (by omega) ?_
                        have r209 : 0 ≤ (m207 a0 7) ∧ (m207 a0 7) ≤ 700 := zi_rd hIm207 hc0 zb_28_7
                        have r210 : 0 ≤ (m207 a0 8) ∧ (m207 a0 8) ≤ 6 := zi_rd hIm207 hc0 zb_28_8
                        have e211 : (m207 a0 8) = (m195 a0 8) := (Eq.trans (zs_ne hmm207 (Or.inr (by decide))) (zs_ne hmm205 (Or.inr (by decide))))
                        have r212 : (-2147483648) ≤ (m207 a0 4) ∧ (m207 a0 4) ≤ 2147483647 := zi_rd hIm207 hc0 zb_28_4
                        have e213 : (m207 a0 4) = 2 := (Eq.trans (zs_ne hmm207 (Or.inr (by decide))) (zs_eq hmm205))
                        exact zw_some ⟨hIm207, hFm207, hRLRm207, hRNSm207, hRTRm207, hRWDm207, ⟨by omega, by omega⟩, by omega, by omega, by omega⟩
                  · refine zw_b (by omega) ?_
                    refine zw_some ?_
                    refine zw_ite (fun h214 => ?_) (fun h214 => ?_)
                    · generalize hmm215 : zu_up m195 a0 11 (m195 a0 9) = m215
                      have hIm215 := zi_up hmm215 hIm195 hc0 zb_28_11 (by omega) (by omega)
                      have hFm215 := zfr_up hmm215 hFm195 hc0 rfl
                      have hRLRm215 := zR_LR_fr (zdis_fr (zfr_up hmm215 (zfr_rf [(28, 12)] _) hc0 rfl) rfl) hRLRm195
                      have hRNSm215 := zR_NS_fr (zdis_fr (zfr_up hmm215 (zfr_rf [(28, 12)] _) hc0 rfl) rfl) hRNSm195
                      have hRTRm215 := zR_TR_fr (zdis_fr (zfr_up hmm215 (zfr_rf [(28, 12)] _) hc0 rfl) rfl) hRTRm195
                      have hRWDm215 := zR_WD_fr (zdis_fr (zfr_up hmm215 (zfr_rf [(28, 12)] _) hc0 rfl) rfl) hRWDm195
                      refine zw_bd (zw_mono (zk_89 n hIm215 hc0 hRNSm215 hRWDm215) (fun v217 m216 hqm216 => ?_))
                      obtain ⟨hIm216, hfm216, hvm216⟩ := hqm216
                      have hFm216 := zfr_tr hFm215 hfm216 rfl
                      obtain ⟨hRNSm216, hRTRm216, hRWDm216, hvm216⟩ := hvm216
                      have hRLRm216 := zR_LR_fr (zdis_fr hfm216 rfl) hRLRm215
                      have s218 := hRNSm216 a0 hc0
                      have s219 := hRTRm216 a0 hc0
                      refine zw_b (by omega) ?_
                      refine zw_some ?_
                      refine zw_ite (fun h220 => ?_) (fun h220 => ?_)
                      · have r221 : (-2147483648) ≤ (m216 a0 11) ∧ (m216 a0 11) ≤ 2147483647 := zi_rd hIm216 hc0 zb_28_11
                        have e222 : (m216 a0 11) = (m195 a0 9) := (Eq.trans (zfr_ap hfm216 hc0 rfl) (zs_eq hmm215))
                        have b223 : 0 ≤ (8 : Int) ∧ (8 : Int) < 10 := by omega
                        refine zw_if b223 ?_
                        generalize hmm224 : zu_up m216 194 8 (m216 a0 11) = m224
                        have hIm224 := zi_up hmm224 hIm216 zq_194 (zb_103 _) (by omega) (by omega)
                        have hFm224 := zfr_up hmm224 hFm216 zq_194 rfl
                        have hRLRm224 := zR_LR_fr (zdis_fr (zfr_up hmm224 (zfr_rf [(103, 0)] _) zq_194 rfl) rfl) hRLRm216
                        have hRNSm224 := zR_NS_fr (zdis_fr (zfr_up hmm224 (zfr_rf [(103, 0)] _) zq_194 rfl) rfl) hRNSm216
                        have hRTRm224 := zR_TR_fr (zdis_fr (zfr_up hmm224 (zfr_rf [(103, 0)] _) zq_194 rfl) rfl) hRTRm216
                        have hRWDm224 := zR_WD_fr (zdis_fr (zfr_up hmm224 (zfr_rf [(103, 0)] _) zq_194 rfl) rfl) hRWDm216
                        refine zw_b (by omega) ?_
                        have r225 : 0 ≤ (m224 a0 7) ∧ (m224 a0 7) ≤ 700 := zi_rd hIm224 hc0 zb_28_7
                        have r226 : 0 ≤ (m224 a0 8) ∧ (m224 a0 8) ≤ 6 := zi_rd hIm224 hc0 zb_28_8
                        have r227 : (-2147483648) ≤ (m224 a0 4) ∧ (m224 a0 4) ≤ 2147483647 := zi_rd hIm224 hc0 zb_28_4
                        exact zw_some ⟨hIm224, hFm224, hRLRm224, hRNSm224, hRTRm224, hRWDm224, ⟨by omega, by omega⟩, by omega, by omega, by omega⟩
                      · exfalso; omega
                    · exfalso; omega
              · refine zw_bd (zw_eq (zu_call_at (zt_T n) (zm_85 n) (zdp_85 n) _ _ _ _ _ rfl (zr_85_0 n _ _ a0 1 m195)) ?_)
                generalize hmm228 : zu_up m195 a0 4 1 = m228
                have hIm228 := zi_up hmm228 hIm195 hc0 zb_28_4 (by omega) (by omega)
                have hFm228 := zfr_up hmm228 hFm195 hc0 rfl
                have hRNSm228 := zR_NS_fr (zdis_fr (zfr_up hmm228 (zfr_rf [(28, 5)] _) hc0 rfl) rfl) hRNSm195
                have hRTRm228 := zR_TR_fr (zdis_fr (zfr_up hmm228 (zfr_rf [(28, 5)] _) hc0 rfl) rfl) hRTRm195
                have hRWDm228 := zR_WD_fr (zdis_fr (zfr_up hmm228 (zfr_rf [(28, 5)] _) hc0 rfl) rfl) hRWDm195
                have hRLRm228 := zLR_wr (zone_190 hc0) hmm228 (by decide)
                have r229 : 0 ≤ (m228 a0 10) ∧ (m228 a0 10) ≤ 700 := zi_rd hIm228 hc0 zb_28_10
                generalize hmm230 : zu_up m228 a0 5 (m228 a0 10) = m230
                have hIm230 := zi_up hmm230 hIm228 hc0 zb_28_5 (by omega) (by omega)
                have hFm230 := zfr_up hmm230 hFm228 hc0 rfl
                have hRLRm230 := zR_LR_fr (zdis_fr (zfr_up hmm230 (zfr_rf [(28, 6)] _) hc0 rfl) rfl) hRLRm228
                have hRNSm230 := zR_NS_fr (zdis_fr (zfr_up hmm230 (zfr_rf [(28, 6)] _) hc0 rfl) rfl) hRNSm228
                have hRTRm230 := zR_TR_fr (zdis_fr (zfr_up hmm230 (zfr_rf [(28, 6)] _) hc0 rfl) rfl) hRTRm228
                have hRWDm230 := zR_WD_fr (zdis_fr (zfr_up hmm230 (zfr_rf [(28, 6)] _) hc0 rfl) rfl) hRWDm228
                refine zw_b (by omega) ?_
                refine zw_some ?_
                refine zw_b (by omega) ?_
                refine zw_some ?_
                refine zw_ite (fun h231 => ?_) (fun h231 => ?_)
                · exfalso; omega
                · refine zw_b (by omega) ?_
                  have r232 : 0 ≤ (m230 a0 7) ∧ (m230 a0 7) ≤ 700 := zi_rd hIm230 hc0 zb_28_7
                  have r233 : 0 ≤ (m230 a0 8) ∧ (m230 a0 8) ≤ 6 := zi_rd hIm230 hc0 zb_28_8
                  have e234 : (m230 a0 8) = (m195 a0 8) := (Eq.trans (zs_ne hmm230 (Or.inr (by decide))) (zs_ne hmm228 (Or.inr (by decide))))
                  have r235 : (-2147483648) ≤ (m230 a0 4) ∧ (m230 a0 4) ≤ 2147483647 := zi_rd hIm230 hc0 zb_28_4
                  have e236 : (m230 a0 4) = 1 := (Eq.trans (zs_ne hmm230 (Or.inr (by decide))) (zs_eq hmm228))
                  exact zw_some ⟨hIm230, hFm230, hRLRm230, hRNSm230, hRTRm230, hRWDm230, ⟨by omega, by omega⟩, by omega, by omega, by omega⟩
          · refine zw_bd (zw_eq (zu_call_at (zt_T n) (zm_85 n) (zdp_85 n) _ _ _ _ _ rfl (zr_85_0 n _ _ a0 3 m0)) ?_)
            generalize hmm237 : zu_up m0 a0 4 3 = m237
            have hIm237 := zi_up hmm237 hIm0 hc0 zb_28_4 (by omega) (by omega)
            have hFm237 := zfr_up hmm237 hFm0 hc0 rfl
            have hRNSm237 := zR_NS_fr (zdis_fr (zfr_up hmm237 (zfr_rf [(28, 5)] _) hc0 rfl) rfl) hRNSm0
            have hRTRm237 := zR_TR_fr (zdis_fr (zfr_up hmm237 (zfr_rf [(28, 5)] _) hc0 rfl) rfl) hRTRm0
            have hRWDm237 := zR_WD_fr (zdis_fr (zfr_up hmm237 (zfr_rf [(28, 5)] _) hc0 rfl) rfl) hRWDm0
            have hRLRm237 := zLR_wr (zone_190 hc0) hmm237 (by decide)
            have r238 : 0 ≤ (m237 a0 10) ∧ (m237 a0 10) ≤ 700 := zi_rd hIm237 hc0 zb_28_10
            generalize hmm239 : zu_up m237 a0 5 (m237 a0 10) = m239
            have hIm239 := zi_up hmm239 hIm237 hc0 zb_28_5 (by omega) (by omega)
            have hFm239 := zfr_up hmm239 hFm237 hc0 rfl
            have hRLRm239 := zR_LR_fr (zdis_fr (zfr_up hmm239 (zfr_rf [(28, 6)] _) hc0 rfl) rfl) hRLRm237
            have hRNSm239 := zR_NS_fr (zdis_fr (zfr_up hmm239 (zfr_rf [(28, 6)] _) hc0 rfl) rfl) hRNSm237
            have hRTRm239 := zR_TR_fr (zdis_fr (zfr_up hmm239 (zfr_rf [(28, 6)] _) hc0 rfl) rfl) hRTRm237
            have hRWDm239 := zR_WD_fr (zdis_fr (zfr_up hmm239 (zfr_rf [(28, 6)] _) hc0 rfl) rfl) hRWDm237
            refine zw_b (by omega) ?_
            refine zw_some ?_
            refine zw_b (by omega) ?_
            refine zw_some ?_
            refine zw_ite (fun h240 => ?_) (fun h240 => ?_)
            · refine zw_b (by omega) ?_
              have r241 : 0 ≤ (m239 a0 7) ∧ (m239 a0 7) ≤ 700 := zi_rd hIm239 hc0 zb_28_7
              have r242 : 0 ≤ (m239 a0 8) ∧ (m239 a0 8) ≤ 6 := zi_rd hIm239 hc0 zb_28_8
              have r243 : (-2147483648) ≤ (m239 a0 4) ∧ (m239 a0 4) ≤ 2147483647 := zi_rd hIm239 hc0 zb_28_4
              have e244 : (m239 a0 4) = 3 := (Eq.trans (zs_ne hmm239 (Or.inr (by decide))) (zs_eq hmm237))
              exact zw_some ⟨hIm239, hFm239, hRLRm239, hRNSm239, hRTRm239, hRWDm239, ⟨by omega, by omega⟩, by omega, by omega, by omega⟩
            · exfalso; omega
        · refine zw_bd (zw_eq (zu_call_at (zt_T n) (zm_98 n) (zdp_98 n) _ _ _ _ _ rfl (zr_98_0 n _ _ a0 5 m0)) ?_)
          have b245 : 0 ≤ (5 : Int) ∧ (5 : Int) < 6 := by omega
          refine zw_if b245 ?_
          have r246 : 0 ≤ (m0 193 5) ∧ (m0 193 5) ≤ 1 := zi_rd hIm0 zq_193 (zb_102 _)
          refine zw_ite (fun h247 => ?_) (fun h247 => ?_)
          · refine zw_b (by omega) ?_
            have b248 : 0 ≤ (5 : Int) ∧ (5 : Int) < 6 := by omega
            refine zw_if b248 ?_
            generalize hmm249 : zu_up m0 193 5 1 = m249
            have hIm249 := zi_up hmm249 hIm0 zq_193 (zb_102 _) (by omega) (by omega)
            have hFm249 := zfr_up hmm249 hFm0 zq_193 rfl
            have hRLRm249 := zR_LR_fr (zdis_fr (zfr_up hmm249 (zfr_rf [(102, 0)] _) zq_193 rfl) rfl) hRLRm0
            have hRNSm249 := zR_NS_fr (zdis_fr (zfr_up hmm249 (zfr_rf [(102, 0)] _) zq_193 rfl) rfl) hRNSm0
            have hRTRm249 := zR_TR_fr (zdis_fr (zfr_up hmm249 (zfr_rf [(102, 0)] _) zq_193 rfl) rfl) hRTRm0
            have hRWDm249 := zR_WD_fr (zdis_fr (zfr_up hmm249 (zfr_rf [(102, 0)] _) zq_193 rfl) rfl) hRWDm0
            refine zw_bd (zw_mono (zk_89 n hIm249 hc0 hRNSm249 hRWDm249) (fun v251 m250 hqm250 => ?_))
            obtain ⟨hIm250, hfm250, hvm250⟩ := hqm250
            have hFm250 := zfr_tr hFm249 hfm250 rfl
            obtain ⟨hRNSm250, hRTRm250, hRWDm250, hvm250⟩ := hvm250
            have hRLRm250 := zR_LR_fr (zdis_fr hfm250 rfl) hRLRm249
            have s252 := hRNSm250 a0 hc0
            have s253 := hRTRm250 a0 hc0
            refine zw_b (by omega) ?_
            refine zw_some ?_
            refine zw_ite (fun h254 => ?_) (fun h254 => ?_)
            · exfalso; omega
            · refine zw_bd (zw_eq (zu_call_at (zt_T n) (zm_94 n) (zdp_94 n) _ _ _ _ _ rfl (zr_94_0 n _ _ a0 0 99999 m250)) ?_)
              have r255 : 0 ≤ (m250 a0 8) ∧ (m250 a0 8) ≤ 6 := zi_rd hIm250 hc0 zb_28_8
              refine zw_ite (fun h256 => ?_) (fun h256 => ?_)
              · refine zw_bd (zw_eq (zu_call_at (zt_T n) (zm_83 n) (zdp_83 n) _ _ _ _ _ rfl (zr_83_0 n _ _ (m250 a0 9) 0 99999 m250)) ?_)
                refine zw_ite (fun h257 => ?_) (fun h257 => ?_)
                · exfalso; omega
                · refine zw_ite (fun h258 => ?_) (fun h258 => ?_)
                  · refine zw_b (by omega) ?_
                    refine zw_some ?_
                    refine zw_ite (fun h259 => ?_) (fun h259 => ?_)
                    · exfalso; omega
                    · refine zw_bd (zw_eq (zu_call_at (zt_T n) (zm_85 n) (zdp_85 n) _ _ _ _ _ rfl (zr_85_0 n _ _ a0 2 m250)) ?_)
                      generalize hmm260 : zu_up m250 a0 4 2 = m260
                      have hIm260 := zi_up hmm260 hIm250 hc0 zb_28_4 (by omega) (by omega)
                      have hFm260 := zfr_up hmm260 hFm250 hc0 rfl
                      have hRNSm260 := zR_NS_fr (zdis_fr (zfr_up hmm260 (zfr_rf [(28, 5)] _) hc0 rfl) rfl) hRNSm250
                      have hRTRm260 := zR_TR_fr (zdis_fr (zfr_up hmm260 (zfr_rf [(28, 5)] _) hc0 rfl) rfl) hRTRm250
                      have hRWDm260 := zR_WD_fr (zdis_fr (zfr_up hmm260 (zfr_rf [(28, 5)] _) hc0 rfl) rfl) hRWDm250
                      have hRLRm260 := zLR_wr (zone_190 hc0) hmm260 (by decide)
                      have r261 : 0 ≤ (m260 a0 10) ∧ (m260 a0 10) ≤ 700 := zi_rd hIm260 hc0 zb_28_10
                      generalize hmm262 : zu_up m260 a0 5 (m260 a0 10) = m262
                      have hIm262 := zi_up hmm262 hIm260 hc0 zb_28_5 (by omega) (by omega)
                      have hFm262 := zfr_up hmm262 hFm260 hc0 rfl
                      have hRLRm262 := zR_LR_fr (zdis_fr (zfr_up hmm262 (zfr_rf [(28, 6)] _) hc0 rfl) rfl) hRLRm260
                      have hRNSm262 := zR_NS_fr (zdis_fr (zfr_up hmm262 (zfr_rf [(28, 6)] _) hc0 rfl) rfl) hRNSm260
                      have hRTRm262 := zR_TR_fr (zdis_fr (zfr_up hmm262 (zfr_rf [(28, 6)] _) hc0 rfl) rfl) hRTRm260
                      have hRWDm262 := zR_WD_fr (zdis_fr (zfr_up hmm262 (zfr_rf [(28, 6)] _) hc0 rfl) rfl) hRWDm260
                      refine zw_b (by omega) ?_
                      refine zw_some ?_
                      refine zw_b (by omega) ?_
                      refine zw_some ?_
                      refine zw_ite (fun h263 => ?_) (fun h263 => ?_)
                      · exfalso; omega
                      · refine zw_b (by omega) ?_
                        have r264 : 0 ≤ (m262 a0 7) ∧ (m262 a0 7) ≤ 700 := zi_rd hIm262 hc0 zb_28_7
                        have r265 : 0 ≤ (m262 a0 8) ∧ (m262 a0 8) ≤ 6 := zi_rd hIm262 hc0 zb_28_8
                        have e266 : (m262 a0 8) = (m250 a0 8) := (Eq.trans (zs_ne hmm262 (Or.inr (by decide))) (zs_ne hmm260 (Or.inr (by decide))))
                        have r267 : (-2147483648) ≤ (m262 a0 4) ∧ (m262 a0 4) ≤ 2147483647 := zi_rd hIm262 hc0 zb_28_4
                        have e268 : (m262 a0 4) = 2 := (Eq.trans (zs_ne hmm262 (Or.inr (by decide))) (zs_eq hmm260))
                        exact zw_some ⟨hIm262, hFm262, hRLRm262, hRNSm262, hRTRm262, hRWDm262, ⟨by omega, by omega⟩, by omega, by omega, by omega⟩
                  · refine zw_b (by omega) ?_
                    refine zw_some ?_
                    refine zw_ite (fun h269 => ?_) (fun h269 => ?_)
                    · generalize hmm270 : zu_up m250 a0 11 (m250 a0 9) = m270
                      have hIm270 := zi_up hmm270 hIm250 hc0 zb_28_11 (by omega) (by omega)
                      have hFm270 := zfr_up hmm270 hFm250 hc0 rfl
                      have hRLRm270 := zR_LR_fr (zdis_fr (zfr_up hmm270 (zfr_rf [(28, 12)] _) hc0 rfl) rfl) hRLRm250
                      have hRNSm270 := zR_NS_fr (zdis_fr (zfr_up hmm270 (zfr_rf [(28, 12)] _) hc0 rfl) rfl) hRNSm250
                      have hRTRm270 := zR_TR_fr (zdis_fr (zfr_up hmm270 (zfr_rf [(28, 12)] _) hc0 rfl) rfl) hRTRm250
                      have hRWDm270 := zR_WD_fr (zdis_fr (zfr_up hmm270 (zfr_rf [(28, 12)] _) hc0 rfl) rfl) hRWDm250
                      refine zw_bd (zw_mono (zk_89 n hIm270 hc0 hRNSm270 hRWDm270) (fun v272 m271 hqm271 => ?_))
                      obtain ⟨hIm271, hfm271, hvm271⟩ := hqm271
                      have hFm271 := zfr_tr hFm270 hfm271 rfl
                      obtain ⟨hRNSm271, hRTRm271, hRWDm271, hvm271⟩ := hvm271
                      have hRLRm271 := zR_LR_fr (zdis_fr hfm271 rfl) hRLRm270
                      have s273 := hRNSm271 a0 hc0
                      have s274 := hRTRm271 a0 hc0
                      refine zw_b (by omega) ?_
                      refine zw_some ?_
                      refine zw_ite (fun h275 => ?_) (fun h275 => ?_)
                      · have r276 : (-2147483648) ≤ (m271 a0 11) ∧ (m271 a0 11) ≤ 2147483647 := zi_rd hIm271 hc0 zb_28_11
                        have e277 : (m271 a0 11) = (m250 a0 9) := (Eq.trans (zfr_ap hfm271 hc0 rfl) (zs_eq hmm270))
                        have b278 : 0 ≤ (9 : Int) ∧ (9 : Int) < 10 := by omega
                        refine zw_if b278 ?_
                        generalize hmm279 : zu_up m271 194 9 (m271 a0 11) = m279
                        have hIm279 := zi_up hmm279 hIm271 zq_194 (zb_103 _) (by omega) (by omega)
                        have hFm279 := zfr_up hmm279 hFm271 zq_194 rfl
                        have hRLRm279 := zR_LR_fr (zdis_fr (zfr_up hmm279 (zfr_rf [(103, 0)] _) zq_194 rfl) rfl) hRLRm271
                        have hRNSm279 := zR_NS_fr (zdis_fr (zfr_up hmm279 (zfr_rf [(103, 0)] _) zq_194 rfl) rfl) hRNSm271
                        have hRTRm279 := zR_TR_fr (zdis_fr (zfr_up hmm279 (zfr_rf [(103, 0)] _) zq_194 rfl) rfl) hRTRm271
                        have hRWDm279 := zR_WD_fr (zdis_fr (zfr_up hmm279 (zfr_rf [(103, 0)] _) zq_194 rfl) rfl) hRWDm271
                        refine zw_b (by omega) ?_
                        have r280 : 0 ≤ (m279 a0 7) ∧ (m279 a0 7) ≤ 700 := zi_rd hIm279 hc0 zb_28_7
                        have r281 : 0 ≤ (m279 a0 8) ∧ (m279 a0 8) ≤ 6 := zi_rd hIm279 hc0 zb_28_8
                        have r282 : (-2147483648) ≤ (m279 a0 4) ∧ (m279 a0 4) ≤ 2147483647 := zi_rd hIm279 hc0 zb_28_4
                        exact zw_some ⟨hIm279, hFm279, hRLRm279, hRNSm279, hRTRm279, hRWDm279, ⟨by omega, by omega⟩, by omega, by omega, by omega⟩
                      · exfalso; omega
                    · exfalso; omega
              · refine zw_bd (zw_eq (zu_call_at (zt_T n) (zm_85 n) (zdp_85 n) _ _ _ _ _ rfl (zr_85_0 n _ _ a0 1 m250)) ?_)
                generalize hmm283 : zu_up m250 a0 4 1 = m283
                have hIm283 := zi_up hmm283 hIm250 hc0 zb_28_4 (by omega) (by omega)
                have hFm283 := zfr_up hmm283 hFm250 hc0 rfl
                have hRNSm283 := zR_NS_fr (zdis_fr (zfr_up hmm283 (zfr_rf [(28, 5)] _) hc0 rfl) rfl) hRNSm250
                have hRTRm283 := zR_TR_fr (zdis_fr (zfr_up hmm283 (zfr_rf [(28, 5)] _) hc0 rfl) rfl) hRTRm250
                have hRWDm283 := zR_WD_fr (zdis_fr (zfr_up hmm283 (zfr_rf [(28, 5)] _) hc0 rfl) rfl) hRWDm250
                have hRLRm283 := zLR_wr (zone_190 hc0) hmm283 (by decide)
                have r284 : 0 ≤ (m283 a0 10) ∧ (m283 a0 10) ≤ 700 := zi_rd hIm283 hc0 zb_28_10
                generalize hmm285 : zu_up m283 a0 5 (m283 a0 10) = m285
                have hIm285 := zi_up hmm285 hIm283 hc0 zb_28_5 (by omega) (by omega)
                have hFm285 := zfr_up hmm285 hFm283 hc0 rfl
                have hRLRm285 := zR_LR_fr (zdis_fr (zfr_up hmm285 (zfr_rf [(28, 6)] _) hc0 rfl) rfl) hRLRm283
                have hRNSm285 := zR_NS_fr (zdis_fr (zfr_up hmm285 (zfr_rf [(28, 6)] _) hc0 rfl) rfl) hRNSm283
                have hRTRm285 := zR_TR_fr (zdis_fr (zfr_up hmm285 (zfr_rf [(28, 6)] _) hc0 rfl) rfl) hRTRm283
                have hRWDm285 := zR_WD_fr (zdis_fr (zfr_up hmm285 (zfr_rf [(28, 6)] _) hc0 rfl) rfl) hRWDm283
                refine zw_b (by omega) ?_
                refine zw_some ?_
                refine zw_b (by omega) ?_
                refine zw_some ?_
                refine zw_ite (fun h286 => ?_) (fun h286 => ?_)
                · exfalso; omega
                · refine zw_b (by omega) ?_
                  have r287 : 0 ≤ (m285 a0 7) ∧ (m285 a0 7) ≤ 700 := zi_rd hIm285 hc0 zb_28_7
                  have r288 : 0 ≤ (m285 a0 8) ∧ (m285 a0 8) ≤ 6 := zi_rd hIm285 hc0 zb_28_8
                  have e289 : (m285 a0 8) = (m250 a0 8) := (Eq.trans (zs_ne hmm285 (Or.inr (by decide))) (zs_ne hmm283 (Or.inr (by decide))))
                  have r290 : (-2147483648) ≤ (m285 a0 4) ∧ (m285 a0 4) ≤ 2147483647 := zi_rd hIm285 hc0 zb_28_4
                  have e291 : (m285 a0 4) = 1 := (Eq.trans (zs_ne hmm285 (Or.inr (by decide))) (zs_eq hmm283))
                  exact zw_some ⟨hIm285, hFm285, hRLRm285, hRNSm285, hRTRm285, hRWDm285, ⟨by omega, by omega⟩, by omega, by omega, by omega⟩
          · refine zw_bd (zw_eq (zu_call_at (zt_T n) (zm_85 n) (zdp_85 n) _ _ _ _ _ rfl (zr_85_0 n _ _ a0 3 m0)) ?_)
            generalize hmm292 : zu_up m0 a0 4 3 = m292
            have hIm292 := zi_up hmm292 hIm0 hc0 zb_28_4 (by omega) (by omega)
            have hFm292 := zfr_up hmm292 hFm0 hc0 rfl
            have hRNSm292 := zR_NS_fr (zdis_fr (zfr_up hmm292 (zfr_rf [(28, 5)] _) hc0 rfl) rfl) hRNSm0
            have hRTRm292 := zR_TR_fr (zdis_fr (zfr_up hmm292 (zfr_rf [(28, 5)] _) hc0 rfl) rfl) hRTRm0
            have hRWDm292 := zR_WD_fr (zdis_fr (zfr_up hmm292 (zfr_rf [(28, 5)] _) hc0 rfl) rfl) hRWDm0
            have hRLRm292 := zLR_wr (zone_190 hc0) hmm292 (by decide)
            have r293 : 0 ≤ (m292 a0 10) ∧ (m292 a0 10) ≤ 700 := zi_rd hIm292 hc0 zb_28_10
            generalize hmm294 : zu_up m292 a0 5 (m292 a0 10) = m294
            have hIm294 := zi_up hmm294 hIm292 hc0 zb_28_5 (by omega) (by omega)
            have hFm294 := zfr_up hmm294 hFm292 hc0 rfl
            have hRLRm294 := zR_LR_fr (zdis_fr (zfr_up hmm294 (zfr_rf [(28, 6)] _) hc0 rfl) rfl) hRLRm292
            have hRNSm294 := zR_NS_fr (zdis_fr (zfr_up hmm294 (zfr_rf [(28, 6)] _) hc0 rfl) rfl) hRNSm292
            have hRTRm294 := zR_TR_fr (zdis_fr (zfr_up hmm294 (zfr_rf [(28, 6)] _) hc0 rfl) rfl) hRTRm292
            have hRWDm294 := zR_WD_fr (zdis_fr (zfr_up hmm294 (zfr_rf [(28, 6)] _) hc0 rfl) rfl) hRWDm292
            refine zw_b (by omega) ?_
            refine zw_some ?_
            refine zw_b (by omega) ?_
            refine zw_some ?_
            refine zw_ite (fun h295 => ?_) (fun h295 => ?_)
            · refine zw_b (by omega) ?_
              have r296 : 0 ≤ (m294 a0 7) ∧ (m294 a0 7) ≤ 700 := zi_rd hIm294 hc0 zb_28_7
              have r297 : 0 ≤ (m294 a0 8) ∧ (m294 a0 8) ≤ 6 := zi_rd hIm294 hc0 zb_28_8
              have r298 : (-2147483648) ≤ (m294 a0 4) ∧ (m294 a0 4) ≤ 2147483647 := zi_rd hIm294 hc0 zb_28_4
              have e299 : (m294 a0 4) = 3 := (Eq.trans (zs_ne hmm294 (Or.inr (by decide))) (zs_eq hmm292))
              exact zw_some ⟨hIm294, hFm294, hRLRm294, hRNSm294, hRTRm294, hRWDm294, ⟨by omega, by omega⟩, by omega, by omega, by omega⟩
            · exfalso; omega

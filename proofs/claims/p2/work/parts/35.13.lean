set_option maxHeartbeats 4000000 in
theorem zk_104 (n : Nat) {a0 : Int} {m0 : zu_m} (hIm0 : zi_I m0) (hc0 : zcls a0 = 28)   (he0 : 6 ≤ m0 a0 9 ∧ m0 a0 9 ≤ 10)  (hRLRm0 : zR_LR m0) (hRNSm0 : zR_NS m0) (hRTRm0 : zR_TR m0) (hRWDm0 : zR_WD m0) : zw (zu_call (zt_T n) 104 [(40, a0)] m0) (fun v m => zi_I m ∧ zfr [(28, 5), (28, 6), (28, 8), (28, 9), (28, 10), (28, 11), (28, 12), (102, 0), (103, 0)] m0 m ∧ zR_LR m ∧ zR_NS m ∧ zR_TR m ∧ zR_WD m ∧ (0 ≤ v ∧ v ≤ 1) ∧ ((m0 a0 7) ≤ (m a0 7)) ∧ (v = 1 → ((m a0 8) = 0 ∨ (m0 a0 7) < (m a0 7))) ∧ (v = 1 → (m a0 4) = (m0 a0 4))) := by
  have hFm0 : zfr [(28, 5), (28, 6), (28, 8), (28, 9), (28, 10), (28, 11), (28, 12), (102, 0), (103, 0)] m0 m0 := zfr_rf _ _
  have r1 : 0 ≤ (m0 a0 7) ∧ (m0 a0 7) ≤ 700 := zi_rd hIm0 hc0 zb_28_7
  have r2 : (-2147483648) ≤ (m0 a0 4) ∧ (m0 a0 4) ≤ 2147483647 := zi_rd hIm0 hc0 zb_28_4
  have s3 := hRNSm0 a0 hc0
  have s4 := hRTRm0 a0 hc0
  refine zw_eq (zu_call_at (zt_T n) (zm_104 n) (zdp_104 n) _ _ _ _ _ rfl (zr_104_0 n _ _ a0 m0)) ?_
  refine zw_ite (fun h5 => ?_) (fun h5 => ?_)
  · refine zw_bd (zw_eq (zu_call_at (zt_T n) (zm_98 n) (zdp_98 n) _ _ _ _ _ rfl (zr_98_0 n _ _ a0 1 m0)) ?_)
    have b6 : 0 ≤ (1 : Int) ∧ (1 : Int) < 6 := by omega
    refine zw_if b6 ?_
    have r7 : 0 ≤ (m0 193 1) ∧ (m0 193 1) ≤ 1 := zi_rd hIm0 zq_193 (zb_102 _)
    refine zw_ite (fun h8 => ?_) (fun h8 => ?_)
    · refine zw_b (by omega) ?_
      have b9 : 0 ≤ (1 : Int) ∧ (1 : Int) < 6 := by omega
      refine zw_if b9 ?_
      generalize hmm10 : zu_up m0 193 1 1 = m10
      have hIm10 := zi_up hmm10 hIm0 zq_193 (zb_102 _) (by omega) (by omega)
      have hFm10 := zfr_up hmm10 hFm0 zq_193 rfl
      have hRLRm10 := zR_LR_fr (zdis_fr (zfr_up hmm10 (zfr_rf [(102, 0)] _) zq_193 rfl) rfl) hRLRm0
      have hRNSm10 := zR_NS_fr (zdis_fr (zfr_up hmm10 (zfr_rf [(102, 0)] _) zq_193 rfl) rfl) hRNSm0
      have hRTRm10 := zR_TR_fr (zdis_fr (zfr_up hmm10 (zfr_rf [(102, 0)] _) zq_193 rfl) rfl) hRTRm0
      have hRWDm10 := zR_WD_fr (zdis_fr (zfr_up hmm10 (zfr_rf [(102, 0)] _) zq_193 rfl) rfl) hRWDm0
      have r13 : 0 ≤ (m10 a0 7) ∧ (m10 a0 7) ≤ 700 := zi_rd hIm10 hc0 zb_28_7
      have e14 : (m10 a0 7) = (m0 a0 7) := (zs_ne hmm10 (Or.inl (zc_ne hc0 zq_193 (by decide))))
      refine zw_bd (zw_mono (zk_89 n hIm10 hc0 hRNSm10 hRWDm10) (fun v12 m11 hqm11 => ?_))
      obtain ⟨hIm11, hfm11, hvm11⟩ := hqm11
      have hFm11 := zfr_tr hFm10 hfm11 rfl
      obtain ⟨hRNSm11, hRTRm11, hRWDm11, hvm11⟩ := hvm11
      have hRLRm11 := zR_LR_fr (zdis_fr hfm11 rfl) hRLRm10
      have s15 := hRNSm11 a0 hc0
      have s16 := hRTRm11 a0 hc0
      have r17 : 0 ≤ (m11 a0 7) ∧ (m11 a0 7) ≤ 700 := zi_rd hIm11 hc0 zb_28_7
      have r18 : 0 ≤ (m11 a0 8) ∧ (m11 a0 8) ≤ 6 := zi_rd hIm11 hc0 zb_28_8
      refine zw_b (by omega) ?_
      refine zw_some ?_
      refine zw_ite (fun h19 => ?_) (fun h19 => ?_)
      · exfalso; omega
      · refine zw_bd (zw_eq (zu_call_at (zt_T n) (zm_97 n) (zdp_97 n) _ _ _ _ _ rfl (zr_97_0 n _ _ a0 16 18 m11)) ?_)
        refine zw_ite (fun h20 => ?_) (fun h20 => ?_)
        · refine zw_bd (zw_eq (zu_call_at (zt_T n) (zm_85 n) (zdp_85 n) _ _ _ _ _ rfl (zr_85_0 n _ _ a0 1 m11)) ?_)
          generalize hmm21 : zu_up m11 a0 4 1 = m21
          have hIm21 := zi_up hmm21 hIm11 hc0 zb_28_4 (by omega) (by omega)
          have hFm21 := zfr_up hmm21 hFm11 hc0 rfl
          have hRNSm21 := zR_NS_fr (zdis_fr (zfr_up hmm21 (zfr_rf [(28, 5)] _) hc0 rfl) rfl) hRNSm11
          have hRTRm21 := zR_TR_fr (zdis_fr (zfr_up hmm21 (zfr_rf [(28, 5)] _) hc0 rfl) rfl) hRTRm11
          have hRWDm21 := zR_WD_fr (zdis_fr (zfr_up hmm21 (zfr_rf [(28, 5)] _) hc0 rfl) rfl) hRWDm11
          have hRLRm21 := zLR_wr (zone_190 hc0) hmm21 (by decide)
          have r22 : 0 ≤ (m21 a0 10) ∧ (m21 a0 10) ≤ 700 := zi_rd hIm21 hc0 zb_28_10
          generalize hmm23 : zu_up m21 a0 5 (m21 a0 10) = m23
          have hIm23 := zi_up hmm23 hIm21 hc0 zb_28_5 (by omega) (by omega)
          have hFm23 := zfr_up hmm23 hFm21 hc0 rfl
          have hRLRm23 := zR_LR_fr (zdis_fr (zfr_up hmm23 (zfr_rf [(28, 6)] _) hc0 rfl) rfl) hRLRm21
          have hRNSm23 := zR_NS_fr (zdis_fr (zfr_up hmm23 (zfr_rf [(28, 6)] _) hc0 rfl) rfl) hRNSm21
          have hRTRm23 := zR_TR_fr (zdis_fr (zfr_up hmm23 (zfr_rf [(28, 6)] _) hc0 rfl) rfl) hRTRm21
          have hRWDm23 := zR_WD_fr (zdis_fr (zfr_up hmm23 (zfr_rf [(28, 6)] _) hc0 rfl) rfl) hRWDm21
          refine zw_b (by omega) ?_
          refine zw_some ?_
          refine zw_b (by omega) ?_
          refine zw_some ?_
          refine zw_ite (fun h24 => ?_) (fun h24 => ?_)
          · exfalso; omega
          · refine zw_b (by omega) ?_
            have r25 : 0 ≤ (m23 a0 7) ∧ (m23 a0 7) ≤ 700 := zi_rd hIm23 hc0 zb_28_7
            have e26 : (m23 a0 7) = (m11 a0 7) := (Eq.trans (zs_ne hmm23 (Or.inr (by decide))) (zs_ne hmm21 (Or.inr (by decide))))
            have r27 : 0 ≤ (m23 a0 8) ∧ (m23 a0 8) ≤ 6 := zi_rd hIm23 hc0 zb_28_8
            have e28 : (m23 a0 8) = (m11 a0 8) := (Eq.trans (zs_ne hmm23 (Or.inr (by decide))) (zs_ne hmm21 (Or.inr (by decide))))
            have r29 : (-2147483648) ≤ (m23 a0 4) ∧ (m23 a0 4) ≤ 2147483647 := zi_rd hIm23 hc0 zb_28_4
            have e30 : (m23 a0 4) = 1 := (Eq.trans (zs_ne hmm23 (Or.inr (by decide))) (zs_eq hmm21))
            exact zw_some ⟨hIm23, hFm23, hRLRm23, hRNSm23, hRTRm23, hRWDm23, ⟨by omega, by omega⟩, by omega, by omega, by omega⟩
        · refine zw_ite (fun h31 => ?_) (fun h31 => ?_)
          · refine zw_bd (zw_eq (zu_call_at (zt_T n) (zm_85 n) (zdp_85 n) _ _ _ _ _ rfl (zr_85_0 n _ _ a0 1 m11)) ?_)
            generalize hmm32 : zu_up m11 a0 4 1 = m32
            have hIm32 := zi_up hmm32 hIm11 hc0 zb_28_4 (by omega) (by omega)
            have hFm32 := zfr_up hmm32 hFm11 hc0 rfl
            have hRNSm32 := zR_NS_fr (zdis_fr (zfr_up hmm32 (zfr_rf [(28, 5)] _) hc0 rfl) rfl) hRNSm11
            have hRTRm32 := zR_TR_fr (zdis_fr (zfr_up hmm32 (zfr_rf [(28, 5)] _) hc0 rfl) rfl) hRTRm11
            have hRWDm32 := zR_WD_fr (zdis_fr (zfr_up hmm32 (zfr_rf [(28, 5)] _) hc0 rfl) rfl) hRWDm11
            have hRLRm32 := zLR_wr (zone_190 hc0) hmm32 (by decide)
            have r33 : 0 ≤ (m32 a0 10) ∧ (m32 a0 10) ≤ 700 := zi_rd hIm32 hc0 zb_28_10
            generalize hmm34 : zu_up m32 a0 5 (m32 a0 10) = m34
            have hIm34 := zi_up hmm34 hIm32 hc0 zb_28_5 (by omega) (by omega)
            have hFm34 := zfr_up hmm34 hFm32 hc0 rfl
            have hRLRm34 := zR_LR_fr (zdis_fr (zfr_up hmm34 (zfr_rf [(28, 6)] _) hc0 rfl) rfl) hRLRm32
            have hRNSm34 := zR_NS_fr (zdis_fr (zfr_up hmm34 (zfr_rf [(28, 6)] _) hc0 rfl) rfl) hRNSm32
            have hRTRm34 := zR_TR_fr (zdis_fr (zfr_up hmm34 (zfr_rf [(28, 6)] _) hc0 rfl) rfl) hRTRm32
            have hRWDm34 := zR_WD_fr (zdis_fr (zfr_up hmm34 (zfr_rf [(28, 6)] _) hc0 rfl) rfl) hRWDm32
            refine zw_b (by omega) ?_
            refine zw_some ?_
            refine zw_b (by omega) ?_
            refine zw_some ?_
            refine zw_ite (fun h35 => ?_) (fun h35 => ?_)
            · exfalso; omega
            · refine zw_b (by omega) ?_
              have r36 : 0 ≤ (m34 a0 7) ∧ (m34 a0 7) ≤ 700 := zi_rd hIm34 hc0 zb_28_7
              have e37 : (m34 a0 7) = (m11 a0 7) := (Eq.trans (zs_ne hmm34 (Or.inr (by decide))) (zs_ne hmm32 (Or.inr (by decide))))
              have r38 : 0 ≤ (m34 a0 8) ∧ (m34 a0 8) ≤ 6 := zi_rd hIm34 hc0 zb_28_8
              have e39 : (m34 a0 8) = (m11 a0 8) := (Eq.trans (zs_ne hmm34 (Or.inr (by decide))) (zs_ne hmm32 (Or.inr (by decide))))
              have r40 : (-2147483648) ≤ (m34 a0 4) ∧ (m34 a0 4) ≤ 2147483647 := zi_rd hIm34 hc0 zb_28_4
              have e41 : (m34 a0 4) = 1 := (Eq.trans (zs_ne hmm34 (Or.inr (by decide))) (zs_eq hmm32))
              exact zw_some ⟨hIm34, hFm34, hRLRm34, hRNSm34, hRTRm34, hRWDm34, ⟨by omega, by omega⟩, by omega, by omega, by omega⟩
          · refine zw_ite (fun h42 => ?_) (fun h42 => ?_)
            · have w43 := zu_w32_id (z := (m11 a0 9) - 16) (by omega) (by omega)
              refine zw_bd (zw_mono (zk_89 n hIm11 hc0 hRNSm11 hRWDm11) (fun v45 m44 hqm44 => ?_))
              obtain ⟨hIm44, hfm44, hvm44⟩ := hqm44
              have hFm44 := zfr_tr hFm11 hfm44 rfl
              obtain ⟨hRNSm44, hRTRm44, hRWDm44, hvm44⟩ := hvm44
              have hRLRm44 := zR_LR_fr (zdis_fr hfm44 rfl) hRLRm11
              have s46 := hRNSm44 a0 hc0
              have s47 := hRTRm44 a0 hc0
              have r48 : 0 ≤ (m44 a0 7) ∧ (m44 a0 7) ≤ 700 := zi_rd hIm44 hc0 zb_28_7
              have r49 : 0 ≤ (m44 a0 8) ∧ (m44 a0 8) ≤ 6 := zi_rd hIm44 hc0 zb_28_8
              generalize hmm50 : zu_up m44 a0 11 (zu_w32 ((m11 a0 9) - 16)) = m50
              have hIm50 := zi_up hmm50 hIm44 hc0 zb_28_11 (by omega) (by omega)
              have hFm50 := zfr_up hmm50 hFm44 hc0 rfl
              have hRLRm50 := zR_LR_fr (zdis_fr (zfr_up hmm50 (zfr_rf [(28, 12)] _) hc0 rfl) rfl) hRLRm44
              have hRNSm50 := zR_NS_fr (zdis_fr (zfr_up hmm50 (zfr_rf [(28, 12)] _) hc0 rfl) rfl) hRNSm44
              have hRTRm50 := zR_TR_fr (zdis_fr (zfr_up hmm50 (zfr_rf [(28, 12)] _) hc0 rfl) rfl) hRTRm44
              have hRWDm50 := zR_WD_fr (zdis_fr (zfr_up hmm50 (zfr_rf [(28, 12)] _) hc0 rfl) rfl) hRWDm44
              refine zw_b (by omega) ?_
              refine zw_some ?_
              refine zw_ite (fun h51 => ?_) (fun h51 => ?_)
              · have r52 : (-2147483648) ≤ (m50 a0 11) ∧ (m50 a0 11) ≤ 2147483647 := zi_rd hIm50 hc0 zb_28_11
                have e53 : (m50 a0 11) = (zu_w32 ((m11 a0 9) - 16)) := (zs_eq hmm50)
                have b54 : 0 ≤ (5 : Int) ∧ (5 : Int) < 10 := by omega
                refine zw_if b54 ?_
                generalize hmm55 : zu_up m50 194 5 (m50 a0 11) = m55
                have hIm55 := zi_up hmm55 hIm50 zq_194 (zb_103 _) (by omega) (by omega)
                have hFm55 := zfr_up hmm55 hFm50 zq_194 rfl
                have hRLRm55 := zR_LR_fr (zdis_fr (zfr_up hmm55 (zfr_rf [(103, 0)] _) zq_194 rfl) rfl) hRLRm50
                have hRNSm55 := zR_NS_fr (zdis_fr (zfr_up hmm55 (zfr_rf [(103, 0)] _) zq_194 rfl) rfl) hRNSm50
                have hRTRm55 := zR_TR_fr (zdis_fr (zfr_up hmm55 (zfr_rf [(103, 0)] _) zq_194 rfl) rfl) hRTRm50
                have hRWDm55 := zR_WD_fr (zdis_fr (zfr_up hmm55 (zfr_rf [(103, 0)] _) zq_194 rfl) rfl) hRWDm50
                refine zw_b (by omega) ?_
                have r56 : 0 ≤ (m55 a0 7) ∧ (m55 a0 7) ≤ 700 := zi_rd hIm55 hc0 zb_28_7
                have e57 : (m55 a0 7) = (m44 a0 7) := (Eq.trans (zs_ne hmm55 (Or.inl (zc_ne hc0 zq_194 (by decide)))) (zs_ne hmm50 (Or.inr (by decide))))
                have r58 : 0 ≤ (m55 a0 8) ∧ (m55 a0 8) ≤ 6 := zi_rd hIm55 hc0 zb_28_8
                have e59 : (m55 a0 8) = (m44 a0 8) := (Eq.trans (zs_ne hmm55 (Or.inl (zc_ne hc0 zq_194 (by decide)))) (zs_ne hmm50 (Or.inr (by decide))))
                have r60 : (-2147483648) ≤ (m55 a0 4) ∧ (m55 a0 4) ≤ 2147483647 := zi_rd hIm55 hc0 zb_28_4
                have e61 : (m55 a0 4) = (m0 a0 4) := (Eq.trans (zs_ne hmm55 (Or.inl (zc_ne hc0 zq_194 (by decide)))) (Eq.trans (zs_ne hmm50 (Or.inr (by decide))) (Eq.trans (zfr_ap hfm44 hc0 rfl) (Eq.trans (zfr_ap hfm11 hc0 rfl) (zs_ne hmm10 (Or.inl (zc_ne hc0 zq_193 (by decide))))))))
                exact zw_some ⟨hIm55, hFm55, hRLRm55, hRNSm55, hRTRm55, hRWDm55, ⟨by omega, by omega⟩, by omega, by omega, by omega⟩
              · exfalso; omega
            · refine zw_bd (zw_eq (zu_call_at (zt_T n) (zm_85 n) (zdp_85 n) _ _ _ _ _ rfl (zr_85_0 n _ _ a0 1 m11)) ?_)
              generalize hmm62 : zu_up m11 a0 4 1 = m62
              have hIm62 := zi_up hmm62 hIm11 hc0 zb_28_4 (by omega) (by omega)
              have hFm62 := zfr_up hmm62 hFm11 hc0 rfl
              have hRNSm62 := zR_NS_fr (zdis_fr (zfr_up hmm62 (zfr_rf [(28, 5)] _) hc0 rfl) rfl) hRNSm11
              have hRTRm62 := zR_TR_fr (zdis_fr (zfr_up hmm62 (zfr_rf [(28, 5)] _) hc0 rfl) rfl) hRTRm11
              have hRWDm62 := zR_WD_fr (zdis_fr (zfr_up hmm62 (zfr_rf [(28, 5)] _) hc0 rfl) rfl) hRWDm11
              have hRLRm62 := zLR_wr (zone_190 hc0) hmm62 (by decide)
              have r63 : 0 ≤ (m62 a0 10) ∧ (m62 a0 10) ≤ 700 := zi_rd hIm62 hc0 zb_28_10
              generalize hmm64 : zu_up m62 a0 5 (m62 a0 10) = m64
              have hIm64 := zi_up hmm64 hIm62 hc0 zb_28_5 (by omega) (by omega)
              have hFm64 := zfr_up hmm64 hFm62 hc0 rfl
              have hRLRm64 := zR_LR_fr (zdis_fr (zfr_up hmm64 (zfr_rf [(28, 6)] _) hc0 rfl) rfl) hRLRm62
              have hRNSm64 := zR_NS_fr (zdis_fr (zfr_up hmm64 (zfr_rf [(28, 6)] _) hc0 rfl) rfl) hRNSm62
              have hRTRm64 := zR_TR_fr (zdis_fr (zfr_up hmm64 (zfr_rf [(28, 6)] _) hc0 rfl) rfl) hRTRm62
              have hRWDm64 := zR_WD_fr (zdis_fr (zfr_up hmm64 (zfr_rf [(28, 6)] _) hc0 rfl) rfl) hRWDm62
              refine zw_b (by omega) ?_
              refine zw_some ?_
              refine zw_b (by omega) ?_
              refine zw_some ?_
              refine zw_ite (fun h65 => ?_) (fun h65 => ?_)
              · exfalso; omega
              · refine zw_b (by omega) ?_
                have r66 : 0 ≤ (m64 a0 7) ∧ (m64 a0 7) ≤ 700 := zi_rd hIm64 hc0 zb_28_7
                have e67 : (m64 a0 7) = (m11 a0 7) := (Eq.trans (zs_ne hmm64 (Or.inr (by decide))) (zs_ne hmm62 (Or.inr (by decide))))
                have r68 : 0 ≤ (m64 a0 8) ∧ (m64 a0 8) ≤ 6 := zi_rd hIm64 hc0 zb_28_8
                have e69 : (m64 a0 8) = (m11 a0 8) := (Eq.trans (zs_ne hmm64 (Or.inr (by decide))) (zs_ne hmm62 (Or.inr (by decide))))
                have r70 : (-2147483648) ≤ (m64 a0 4) ∧ (m64 a0 4) ≤ 2147483647 := zi_rd hIm64 hc0 zb_28_4
                have e71 : (m64 a0 4) = 1 := (Eq.trans (zs_ne hmm64 (Or.inr (by decide))) (zs_eq hmm62))
                exact zw_some ⟨hIm64, hFm64, hRLRm64, hRNSm64, hRTRm64, hRWDm64, ⟨by omega, by omega⟩, by omega, by omega, by omega⟩
    · refine zw_bd (zw_eq (zu_call_at (zt_T n) (zm_85 n) (zdp_85 n) _ _ _ _ _ rfl (zr_85_0 n _ _ a0 3 m0)) ?_)
      generalize hmm72 : zu_up m0 a0 4 3 = m72
      have hIm72 := zi_up hmm72 hIm0 hc0 zb_28_4 (by omega) (by omega)
      have hFm72 := zfr_up hmm72 hFm0 hc0 rfl
      have hRNSm72 := zR_NS_fr (zdis_fr (zfr_up hmm72 (zfr_rf [(28, 5)] _) hc0 rfl) rfl) hRNSm0
      have hRTRm72 := zR_TR_fr (zdis_fr (zfr_up hmm72 (zfr_rf [(28, 5)] _) hc0 rfl) rfl) hRTRm0
      have hRWDm72 := zR_WD_fr (zdis_fr (zfr_up hmm72 (zfr_rf [(28, 5)] _) hc0 rfl) rfl) hRWDm0
      have hRLRm72 := zLR_wr (zone_190 hc0) hmm72 (by decide)
      have r73 : 0 ≤ (m72 a0 10) ∧ (m72 a0 10) ≤ 700 := zi_rd hIm72 hc0 zb_28_10
      generalize hmm74 : zu_up m72 a0 5 (m72 a0 10) = m74
      have hIm74 := zi_up hmm74 hIm72 hc0 zb_28_5 (by omega) (by omega)
      have hFm74 := zfr_up hmm74 hFm72 hc0 rfl
      have hRLRm74 := zR_LR_fr (zdis_fr (zfr_up hmm74 (zfr_rf [(28, 6)] _) hc0 rfl) rfl) hRLRm72
      have hRNSm74 := zR_NS_fr (zdis_fr (zfr_up hmm74 (zfr_rf [(28, 6)] _) hc0 rfl) rfl) hRNSm72
      have hRTRm74 := zR_TR_fr (zdis_fr (zfr_up hmm74 (zfr_rf [(28, 6)] _) hc0 rfl) rfl) hRTRm72
      have hRWDm74 := zR_WD_fr (zdis_fr (zfr_up hmm74 (zfr_rf [(28, 6)] _) hc0 rfl) rfl) hRWDm72
      refine zw_b (by omega) ?_
      refine zw_some ?_
      refine zw_b (by omega) ?_
      refine zw_some ?_
      refine zw_ite (fun h75 => ?_) (fun h75 => ?_)
      · refine zw_b (by omega) ?_
        have r76 : 0 ≤ (m74 a0 7) ∧ (m74 a0 7) ≤ 700 := zi_rd hIm74 hc0 zb_28_7
        have e77 : (m74 a0 7) = (m0 a0 7) := (Eq.trans (zs_ne hmm74 (Or.inr (by decide))) (zs_ne hmm72 (Or.inr (by decide))))
        have r78 : 0 ≤ (m74 a0 8) ∧ (m74 a0 8) ≤ 6 := zi_rd hIm74 hc0 zb_28_8
        have r79 : (-2147483648) ≤ (m74 a0 4) ∧ (m74 a0 4) ≤ 2147483647 := zi_rd hIm74 hc0 zb_28_4
        have e80 : (m74 a0 4) = 3 := (Eq.trans (zs_ne hmm74 (Or.inr (by decide))) (zs_eq hmm72))
        exact zw_some ⟨hIm74, hFm74, hRLRm74, hRNSm74, hRTRm74, hRWDm74, ⟨by omega, by omega⟩, by omega, by omega, by omega⟩
      · exfalso; omega
  · refine zw_ite (fun h81 => ?_) (fun h81 => ?_)
    · refine zw_bd (zw_eq (zu_call_at (zt_T n) (zm_98 n) (zdp_98 n) _ _ _ _ _ rfl (zr_98_0 n _ _ a0 2 m0)) ?_)
      have b82 : 0 ≤ (2 : Int) ∧ (2 : Int) < 6 := by omega
      refine zw_if b82 ?_
      have r83 : 0 ≤ (m0 193 2) ∧ (m0 193 2) ≤ 1 := zi_rd hIm0 zq_193 (zb_102 _)
      refine zw_ite (fun h84 => ?_) (fun h84 => ?_)
      · refine zw_b (by omega) ?_
        have b85 : 0 ≤ (2 : Int) ∧ (2 : Int) < 6 := by omega
        refine zw_if b85 ?_
        generalize hmm86 : zu_up m0 193 2 1 = m86
        have hIm86 := zi_up hmm86 hIm0 zq_193 (zb_102 _) (by omega) (by omega)
        have hFm86 := zfr_up hmm86 hFm0 zq_193 rfl
        have hRLRm86 := zR_LR_fr (zdis_fr (zfr_up hmm86 (zfr_rf [(102, 0)] _) zq_193 rfl) rfl) hRLRm0
        have hRNSm86 := zR_NS_fr (zdis_fr (zfr_up hmm86 (zfr_rf [(102, 0)] _) zq_193 rfl) rfl) hRNSm0
        have hRTRm86 := zR_TR_fr (zdis_fr (zfr_up hmm86 (zfr_rf [(102, 0)] _) zq_193 rfl) rfl) hRTRm0
        have hRWDm86 := zR_WD_fr (zdis_fr (zfr_up hmm86 (zfr_rf [(102, 0)] _) zq_193 rfl) rfl) hRWDm0
        have r89 : 0 ≤ (m86 a0 7) ∧ (m86 a0 7) ≤ 700 := zi_rd hIm86 hc0 zb_28_7
        have e90 : (m86 a0 7) = (m0 a0 7) := (zs_ne hmm86 (Or.inl (zc_ne hc0 zq_193 (by decide))))
        refine zw_bd (zw_mono (zk_89 n hIm86 hc0 hRNSm86 hRWDm86) (fun v88 m87 hqm87 => ?_))
        obtain ⟨hIm87, hfm87, hvm87⟩ := hqm87
        have hFm87 := zfr_tr hFm86 hfm87 rfl
        obtain ⟨hRNSm87, hRTRm87, hRWDm87, hvm87⟩ := hvm87
        have hRLRm87 := zR_LR_fr (zdis_fr hfm87 rfl) hRLRm86
        have s91 := hRNSm87 a0 hc0
        have s92 := hRTRm87 a0 hc0
        have r93 : 0 ≤ (m87 a0 7) ∧ (m87 a0 7) ≤ 700 := zi_rd hIm87 hc0 zb_28_7
        have r94 : 0 ≤ (m87 a0 8) ∧ (m87 a0 8) ≤ 6 := zi_rd hIm87 hc0 zb_28_8
        refine zw_b (by omega) ?_
        refine zw_some ?_
        refine zw_ite (fun h95 => ?_) (fun h95 => ?_)
        · exfalso; omega
        · refine zw_bd (zw_eq (zu_call_at (zt_T n) (zm_94 n) (zdp_94 n) _ _ _ _ _ rfl (zr_94_0 n _ _ a0 0 6 m87)) ?_)
          refine zw_ite (fun h96 => ?_) (fun h96 => ?_)
          · refine zw_bd (zw_eq (zu_call_at (zt_T n) (zm_83 n) (zdp_83 n) _ _ _ _ _ rfl (zr_83_0 n _ _ (m87 a0 9) 0 6 m87)) ?_)
            refine zw_ite (fun h97 => ?_) (fun h97 => ?_)
            · exfalso; omega
            · refine zw_ite (fun h98 => ?_) (fun h98 => ?_)
              · refine zw_b (by omega) ?_
                refine zw_some ?_
                refine zw_ite (fun h99 => ?_) (fun h99 => ?_)
                · exfalso; omega
                · refine zw_bd (zw_eq (zu_call_at (zt_T n) (zm_85 n) (zdp_85 n) _ _ _ _ _ rfl (zr_85_0 n _ _ a0 2 m87)) ?_)
                  generalize hmm100 : zu_up m87 a0 4 2 = m100
                  have hIm100 := zi_up hmm100 hIm87 hc0 zb_28_4 (by omega) (by omega)
                  have hFm100 := zfr_up hmm100 hFm87 hc0 rfl
                  have hRNSm100 := zR_NS_fr (zdis_fr (zfr_up hmm100 (zfr_rf [(28, 5)] _) hc0 rfl) rfl) hRNSm87
                  have hRTRm100 := zR_TR_fr (zdis_fr (zfr_up hmm100 (zfr_rf [(28, 5)] _) hc0 rfl) rfl) hRTRm87
                  have hRWDm100 := zR_WD_fr (zdis_fr (zfr_up hmm100 (zfr_rf [(28, 5)] _) hc0 rfl) rfl) hRWDm87
                  have hRLRm100 := zLR_wr (zone_190 hc0) hmm100 (by decide)
                  have r101 : 0 ≤ (m100 a0 10) ∧ (m100 a0 10) ≤ 700 := zi_rd hIm100 hc0 zb_28_10
                  generalize hmm102 : zu_up m100 a0 5 (m100 a0 10) = m102
                  have hIm102 := zi_up hmm102 hIm100 hc0 zb_28_5 (by omega) (by omega)
                  have hFm102 := zfr_up hmm102 hFm100 hc0 rfl
                  have hRLRm102 := zR_LR_fr (zdis_fr (zfr_up hmm102 (zfr_rf [(28, 6)] _) hc0 rfl) rfl) hRLRm100
                  have hRNSm102 := zR_NS_fr (zdis_fr (zfr_up hmm102 (zfr_rf [(28, 6)] _) hc0 rfl) rfl) hRNSm100
                  have hRTRm102 := zR_TR_fr (zdis_fr (zfr_up hmm102 (zfr_rf [(28, 6)] _) hc0 rfl) rfl) hRTRm100
                  have hRWDm102 := zR_WD_fr (zdis_fr (zfr_up hmm102 (zfr_rf [(28, 6)] _) hc0 rfl) rfl) hRWDm100
                  refine zw_b (by omega) ?_
                  refine zw_some ?_
                  refine zw_b (by omega) ?_
                  refine zw_some ?_
                  refine zw_ite (fun h103 => ?_) (fun h103 => ?_)
                  · exfalso; omega
                  · refine zw_b (by omega) ?_
                    have r104 : 0 ≤ (m102 a0 7) ∧ (m102 a0 7) ≤ 700 := zi_rd hIm102 hc0 zb_28_7
                    have e105 : (m102 a0 7) = (m87 a0 7) := (Eq.trans (zs_ne hmm102 (Or.inr (by decide))) (zs_ne hmm100 (Or.inr (by decide))))
                    have r106 : 0 ≤ (m102 a0 8) ∧ (m102 a0 8) ≤ 6 := zi_rd hIm102 hc0 zb_28_8
                    have e107 : (m102 a0 8) = (m87 a0 8) := (Eq.trans (zs_ne hmm102 (Or.inr (by decide))) (zs_ne hmm100 (Or.inr (by decide))))
                    have r108 : (-2147483648) ≤ (m102 a0 4) ∧ (m102 a0 4) ≤ 2147483647 := zi_rd hIm102 hc0 zb_28_4
                    have e109 : (m102 a0 4) = 2 := (Eq.trans (zs_ne hmm102 (Or.inr (by decide))) (zs_eq hmm100))
                    exact zw_some ⟨hIm102, hFm102, hRLRm102, hRNSm102, hRTRm102, hRWDm102, ⟨by omega, by omega⟩, by omega, by omega, by omega⟩
              · refine zw_b (by omega) ?_
                refine zw_some ?_
                refine zw_ite (fun h110 => ?_) (fun h110 => ?_)
                · generalize hmm111 : zu_up m87 a0 11 (m87 a0 9) = m111
                  have hIm111 := zi_up hmm111 hIm87 hc0 zb_28_11 (by omega) (by omega)
                  have hFm111 := zfr_up hmm111 hFm87 hc0 rfl
                  have hRLRm111 := zR_LR_fr (zdis_fr (zfr_up hmm111 (zfr_rf [(28, 12)] _) hc0 rfl) rfl) hRLRm87
                  have hRNSm111 := zR_NS_fr (zdis_fr (zfr_up hmm111 (zfr_rf [(28, 12)] _) hc0 rfl) rfl) hRNSm87
                  have hRTRm111 := zR_TR_fr (zdis_fr (zfr_up hmm111 (zfr_rf [(28, 12)] _) hc0 rfl) rfl) hRTRm87
                  have hRWDm111 := zR_WD_fr (zdis_fr (zfr_up hmm111 (zfr_rf [(28, 12)] _) hc0 rfl) rfl) hRWDm87
                  have r114 : 0 ≤ (m111 a0 7) ∧ (m111 a0 7) ≤ 700 := zi_rd hIm111 hc0 zb_28_7
                  have e115 : (m111 a0 7) = (m87 a0 7) := (zs_ne hmm111 (Or.inr (by decide)))
                  refine zw_bd (zw_mono (zk_89 n hIm111 hc0 hRNSm111 hRWDm111) (fun v113 m112 hqm112 => ?_))
                  obtain ⟨hIm112, hfm112, hvm112⟩ := hqm112
                  have hFm112 := zfr_tr hFm111 hfm112 rfl
                  obtain ⟨hRNSm112, hRTRm112, hRWDm112, hvm112⟩ := hvm112
                  have hRLRm112 := zR_LR_fr (zdis_fr hfm112 rfl) hRLRm111
                  have s116 := hRNSm112 a0 hc0
                  have s117 := hRTRm112 a0 hc0
                  have r118 : 0 ≤ (m112 a0 7) ∧ (m112 a0 7) ≤ 700 := zi_rd hIm112 hc0 zb_28_7
                  have r119 : 0 ≤ (m112 a0 8) ∧ (m112 a0 8) ≤ 6 := zi_rd hIm112 hc0 zb_28_8
                  refine zw_b (by omega) ?_
                  refine zw_some ?_
                  refine zw_ite (fun h120 => ?_) (fun h120 => ?_)
                  · have r121 : (-2147483648) ≤ (m112 a0 11) ∧ (m112 a0 11) ≤ 2147483647 := zi_rd hIm112 hc0 zb_28_11
                    have e122 : (m112 a0 11) = (m87 a0 9) := (Eq.trans (zfr_ap hfm112 hc0 rfl) (zs_eq hmm111))
                    have b123 : 0 ≤ (6 : Int) ∧ (6 : Int) < 10 := by omega
                    refine zw_if b123 ?_
                    generalize hmm124 : zu_up m112 194 6 (m112 a0 11) = m124
                    have hIm124 := zi_up hmm124 hIm112 zq_194 (zb_103 _) (by omega) (by omega)
                    have hFm124 := zfr_up hmm124 hFm112 zq_194 rfl
                    have hRLRm124 := zR_LR_fr (zdis_fr (zfr_up hmm124 (zfr_rf [(103, 0)] _) zq_194 rfl) rfl) hRLRm112
                    have hRNSm124 := zR_NS_fr (zdis_fr (zfr_up hmm124 (zfr_rf [(103, 0)] _) zq_194 rfl) rfl) hRNSm112
                    have hRTRm124 := zR_TR_fr (zdis_fr (zfr_up hmm124 (zfr_rf [(103, 0)] _) zq_194 rfl) rfl) hRTRm112
                    have hRWDm124 := zR_WD_fr (zdis_fr (zfr_up hmm124 (zfr_rf [(103, 0)] _) zq_194 rfl) rfl) hRWDm112
                    refine zw_b (by omega) ?_
                    have r125 : 0 ≤ (m124 a0 7) ∧ (m124 a0 7) ≤ 700 := zi_rd hIm124 hc0 zb_28_7
                    have e126 : (m124 a0 7) = (m112 a0 7) := (zs_ne hmm124 (Or.inl (zc_ne hc0 zq_194 (by decide))))
                    have r127 : 0 ≤ (m124 a0 8) ∧ (m124 a0 8) ≤ 6 := zi_rd hIm124 hc0 zb_28_8
                    have e128 : (m124 a0 8) = (m112 a0 8) := (zs_ne hmm124 (Or.inl (zc_ne hc0 zq_194 (by decide))))
                    have r129 : (-2147483648) ≤ (m124 a0 4) ∧ (m124 a0 4) ≤ 2147483647 := zi_rd hIm124 hc0 zb_28_4
                    have e130 : (m124 a0 4) = (m0 a0 4) := (Eq.trans (zs_ne hmm124 (Or.inl (zc_ne hc0 zq_194 (by decide)))) (Eq.trans (zfr_ap hfm112 hc0 rfl) (Eq.trans (zs_ne hmm111 (Or.inr (by decide))) (Eq.trans (zfr_ap hfm87 hc0 rfl) (zs_ne hmm86 (Or.inl (zc_ne hc0 zq_193 (by decide))))))))
                    exact zw_some ⟨hIm124, hFm124, hRLRm124, hRNSm124, hRTRm124, hRWDm124, ⟨by omega, by omega⟩, by omega, by omega, by omega⟩
                  · exfalso; omega
                · exfalso; omega
          · refine zw_bd (zw_eq (zu_call_at (zt_T n) (zm_85 n) (zdp_85 n) _ _ _ _ _ rfl (zr_85_0 n _ _ a0 1 m87)) ?_)
            generalize hmm131 : zu_up m87 a0 4 1 = m131
            have hIm131 := zi_up hmm131 hIm87 hc0 zb_28_4 (by omega) (by omega)
            have hFm131 := zfr_up hmm131 hFm87 hc0 rfl
            have hRNSm131 := zR_NS_fr (zdis_fr (zfr_up hmm131 (zfr_rf [(28, 5)] _) hc0 rfl) rfl) hRNSm87
            have hRTRm131 := zR_TR_fr (zdis_fr (zfr_up hmm131 (zfr_rf [(28, 5)] _) hc0 rfl) rfl) hRTRm87
            have hRWDm131 := zR_WD_fr (zdis_fr (zfr_up hmm131 (zfr_rf [(28, 5)] _) hc0 rfl) rfl) hRWDm87
            have hRLRm131 := zLR_wr (zone_190 hc0) hmm131 (by decide)
            have r132 : 0 ≤ (m131 a0 10) ∧ (m131 a0 10) ≤ 700 := zi_rd hIm131 hc0 zb_28_10
            generalize hmm133 : zu_up m131 a0 5 (m131 a0 10) = m133
            have hIm133 := zi_up hmm133 hIm131 hc0 zb_28_5 (by omega) (by omega)
            have hFm133 := zfr_up hmm133 hFm131 hc0 rfl
            have hRLRm133 := zR_LR_fr (zdis_fr (zfr_up hmm133 (zfr_rf [(28, 6)] _) hc0 rfl) rfl) hRLRm131
            have hRNSm133 := zR_NS_fr (zdis_fr (zfr_up hmm133 (zfr_rf [(28, 6)] _) hc0 rfl) rfl) hRNSm131
            have hRTRm133 := zR_TR_fr (zdis_fr (zfr_up hmm133 (zfr_rf [(28, 6)] _) hc0 rfl) rfl) hRTRm131
            have hRWDm133 := zR_WD_fr (zdis_fr (zfr_up hmm133 (zfr_rf [(28, 6)] _) hc0 rfl) rfl) hRWDm131
            refine zw_b (by omega) ?_
            refine zw_some ?_
            refine zw_b (by omega) ?_
            refine zw_some ?_
            refine zw_ite (fun h134 => ?_) (fun h134 => ?_)
            · exfalso; omega
            · refine zw_b (by omega) ?_
              have r135 : 0 ≤ (m133 a0 7) ∧ (m133 a0 7) ≤ 700 := zi_rd hIm133 hc0 zb_28_7
              have e136 : (m133 a0 7) = (m87 a0 7) := (Eq.trans (zs_ne hmm133 (Or.inr (by decide))) (zs_ne hmm131 (Or.inr (by decide))))
              have r137 : 0 ≤ (m133 a0 8) ∧ (m133 a0 8) ≤ 6 := zi_rd hIm133 hc0 zb_28_8
              have e138 : (m133 a0 8) = (m87 a0 8) := (Eq.trans (zs_ne hmm133 (Or.inr (by decide))) (zs_ne hmm131 (Or.inr (by decide))))
              have r139 : (-2147483648) ≤ (m133 a0 4) ∧ (m133 a0 4) ≤ 2147483647 := zi_rd hIm133 hc0 zb_28_4
              have e140 : (m133 a0 4) = 1 := (Eq.trans (zs_ne hmm133 (Or.inr (by decide))) (zs_eq hmm131))
              exact zw_some ⟨hIm133, hFm133, hRLRm133, hRNSm133, hRTRm133, hRWDm133, ⟨by omega, by omega⟩, by omega, by omega, by omega⟩
      · refine zw_bd (zw_eq (zu_call_at (zt_T n) (zm_85 n) (zdp_85 n) _ _ _ _ _ rfl (zr_85_0 n _ _ a0 3 m0)) ?_)
        generalize hmm141 : zu_up m0 a0 4 3 = m141
        have hIm141 := zi_up hmm141 hIm0 hc0 zb_28_4 (by omega) (by omega)
        have hFm141 := zfr_up hmm141 hFm0 hc0 rfl
        have hRNSm141 := zR_NS_fr (zdis_fr (zfr_up hmm141 (zfr_rf [(28, 5)] _) hc0 rfl) rfl) hRNSm0
        have hRTRm141 := zR_TR_fr (zdis_fr (zfr_up hmm141 (zfr_rf [(28, 5)] _) hc0 rfl) rfl) hRTRm0
        have hRWDm141 := zR_WD_fr (zdis_fr (zfr_up hmm141 (zfr_rf [(28, 5)] _) hc0 rfl) rfl) hRWDm0
        have hRLRm141 := zLR_wr (zone_190 hc0) hmm141 (by decide)
        have r142 : 0 ≤ (m141 a0 10) ∧ (m141 a0 10) ≤ 700 := zi_rd hIm141 hc0 zb_28_10
        generalize hmm143 : zu_up m141 a0 5 (m141 a0 10) = m143
        have hIm143 := zi_up hmm143 hIm141 hc0 zb_28_5 (by omega) (by omega)
        have hFm143 := zfr_up hmm143 hFm141 hc0 rfl
        have hRLRm143 := zR_LR_fr (zdis_fr (zfr_up hmm143 (zfr_rf [(28, 6)] _) hc0 rfl) rfl) hRLRm141
        have hRNSm143 := zR_NS_fr (zdis_fr (zfr_up hmm143 (zfr_rf [(28, 6)] _) hc0 rfl) rfl) hRNSm141
        have hRTRm143 := zR_TR_fr (zdis_fr (zfr_up hmm143 (zfr_rf [(28, 6)] _) hc0 rfl) rfl) hRTRm141
        have hRWDm143 := zR_WD_fr (zdis_fr (zfr_up hmm143 (zfr_rf [(28, 6)] _) hc0 rfl) rfl) hRWDm141
        refine zw_b (by omega) ?_
        refine zw_some ?_
        refine zw_b (by omega) ?_
        refine zw_some ?_
        refine zw_ite (fun h144 => ?_) (fun h144 => ?_)
        · refine zw_b (by omega) ?_
          have r145 : 0 ≤ (m143 a0 7) ∧ (m143 a0 7) ≤ 700 := zi_rd hIm143 hc0 zb_28_7
          have e146 : (m143 a0 7) = (m0 a0 7) := (Eq.trans (zs_ne hmm143 (Or.inr (by decide))) (zs_ne hmm141 (Or.inr (by decide))))
          have r147 : 0 ≤ (m143 a0 8) ∧ (m143 a0 8) ≤ 6 := zi_rd hIm143 hc0 zb_28_8
          have r148 : (-2147483648) ≤ (m143 a0 4) ∧ (m143 a0 4) ≤ 2147483647 := zi_rd hIm143 hc0 zb_28_4
          have e149 : (m143 a0 4) = 3 := (Eq.trans (zs_ne hmm143 (Or.inr (by decide))) (zs_eq hmm141))
          exact zw_some ⟨hIm143, hFm143, hRLRm143, hRNSm143, hRTRm143, hRWDm143, ⟨by omega, by omega⟩, by omega, by omega, by omega⟩
        · exfalso; omega
    · refine zw_ite (fun h150 => ?_) (fun h150 => ?_)
      · refine zw_bd (zw_eq (zu_call_at (zt_T n) (zm_98 n) (zdp_98 n) _ _ _ _ _ rfl (zr_98_0 n _ _ a0 3 m0)) ?_)
        have b151 : 0 ≤ (3 : Int) ∧ (3 : Int) < 6 := by omega
        refine zw_if b151 ?_
        have r152 : 0 ≤ (m0 193 3) ∧ (m0 193 3) ≤ 1 := zi_rd hIm0 zq_193 (zb_102 _)
        refine zw_ite (fun h153 => ?_) (fun h153 => ?_)
        · refine zw_b (by omega) ?_
          have b154 : 0 ≤ (3 : Int) ∧ (3 : Int) < 6 := by omega
          refine zw_if b154 ?_
          generalize hmm155 : zu_up m0 193 3 1 = m155
          have hIm155 := zi_up hmm155 hIm0 zq_193 (zb_102 _) (by omega) (by omega)
          have hFm155 := zfr_up hmm155 hFm0 zq_193 rfl
          have hRLRm155 := zR_LR_fr (zdis_fr (zfr_up hmm155 (zfr_rf [(102, 0)] _) zq_193 rfl) rfl) hRLRm0
          have hRNSm155 := zR_NS_fr (zdis_fr (zfr_up hmm155 (zfr_rf [(102, 0)] _) zq_193 rfl) rfl) hRNSm0
          have hRTRm155 := zR_TR_fr (zdis_fr (zfr_up hmm155 (zfr_rf [(102, 0)] _) zq_193 rfl) rfl) hRTRm0
          have hRWDm155 := zR_WD_fr (zdis_fr (zfr_up hmm155 (zfr_rf [(102, 0)] _) zq_193 rfl) rfl) hRWDm0
          have r158 : 0 ≤ (m155 a0 7) ∧ (m155 a0 7) ≤ 700 := zi_rd hIm155 hc0 zb_28_7
          have e159 : (m155 a0 7) = (m0 a0 7) := (zs_ne hmm155 (Or.inl (zc_ne hc0 zq_193 (by decide))))
          refine zw_bd (zw_mono (zk_89 n hIm155 hc0 hRNSm155 hRWDm155) (fun v157 m156 hqm156 => ?_))
          obtain ⟨hIm156, hfm156, hvm156⟩ := hqm156
          have hFm156 := zfr_tr hFm155 hfm156 rfl
          obtain ⟨hRNSm156, hRTRm156, hRWDm156, hvm156⟩ := hvm156
          have hRLRm156 := zR_LR_fr (zdis_fr hfm156 rfl) hRLRm155
          have s160 := hRNSm156 a0 hc0
          have s161 := hRTRm156 a0 hc0
          have r162 : 0 ≤ (m156 a0 7) ∧ (m156 a0 7) ≤ 700 := zi_rd hIm156 hc0 zb_28_7
          have r163 : 0 ≤ (m156 a0 8) ∧ (m156 a0 8) ≤ 6 := zi_rd hIm156 hc0 zb_28_8
          refine zw_b (by omega) ?_
          refine zw_some ?_
          refine zw_ite (fun h164 => ?_) (fun h164 => ?_)
          · exfalso; omega
          · refine zw_bd (zw_eq (zu_call_at (zt_T n) (zm_94 n) (zdp_94 n) _ _ _ _ _ rfl (zr_94_0 n _ _ a0 1 99 m156)) ?_)
            refine zw_ite (fun h165 => ?_) (fun h165 => ?_)
            · refine zw_bd (zw_eq (zu_call_at (zt_T n) (zm_83 n) (zdp_83 n) _ _ _ _ _ rfl (zr_83_0 n _ _ (m156 a0 9) 1 99 m156)) ?_)
              refine zw_ite (fun h166 => ?_) (fun h166 => ?_)
              · refine zw_b (by omega) ?_
                refine zw_some ?_
                refine zw_ite (fun h167 => ?_) (fun h167 => ?_)
                · exfalso; omega
                · refine zw_bd (zw_eq (zu_call_at (zt_T n) (zm_85 n) (zdp_85 n) _ _ _ _ _ rfl (zr_85_0 n _ _ a0 2 m156)) ?_)
                  generalize hmm168 : zu_up m156 a0 4 2 = m168
                  have hIm168 := zi_up hmm168 hIm156 hc0 zb_28_4 (by omega) (by omega)
                  have hFm168 := zfr_up hmm168 hFm156 hc0 rfl
                  have hRNSm168 := zR_NS_fr (zdis_fr (zfr_up hmm168 (zfr_rf [(28, 5)] _) hc0 rfl) rfl) hRNSm156
                  have hRTRm168 := zR_TR_fr (zdis_fr (zfr_up hmm168 (zfr_rf [(28, 5)] _) hc0 rfl) rfl) hRTRm156
                  have hRWDm168 := zR_WD_fr (zdis_fr (zfr_up hmm168 (zfr_rf [(28, 5)] _) hc0 rfl) rfl) hRWDm156
                  have hRLRm168 := zLR_wr (zone_190 hc0) hmm168 (by decide)
                  have r169 : 0 ≤ (m168 a0 10) ∧ (m168 a0 10) ≤ 700 := zi_rd hIm168 hc0 zb_28_10
                  generalize hmm170 : zu_up m168 a0 5 (m168 a0 10) = m170
                  have hIm170 := zi_up hmm170 hIm168 hc0 zb_28_5 (by omega) (by omega)
                  have hFm170 := zfr_up hmm170 hFm168 hc0 rfl
                  have hRLRm170 := zR_LR_fr (zdis_fr (zfr_up hmm170 (zfr_rf [(28, 6)] _) hc0 rfl) rfl) hRLRm168
                  have hRNSm170 := zR_NS_fr (zdis_fr (zfr_up hmm170 (zfr_rf [(28, 6)] _) hc0 rfl) rfl) hRNSm168
                  have hRTRm170 := zR_TR_fr (zdis_fr (zfr_up hmm170 (zfr_rf [(28, 6)] _) hc0 rfl) rfl) hRTRm168
                  have hRWDm170 := zR_WD_fr (zdis_fr (zfr_up hmm170 (zfr_rf [(28, 6)] _) hc0 rfl) rfl) hRWDm168
                  refine zw_b (by omega) ?_
                  refine zw_some ?_
                  refine zw_b (by omega) ?_
                  refine zw_some ?_
                  refine zw_ite (fun h171 => ?_) (fun h171 => ?_)
                  · exfalso; omega
                  · refine zw_b (by omega) ?_
                    have r172 : 0 ≤ (m170 a0 7) ∧ (m170 a0 7) ≤ 700 := zi_rd hIm170 hc0 zb_28_7
                    have e173 : (m170 a0 7) = (m156 a0 7) := (Eq.trans (zs_ne hmm170 (Or.inr (by decide))) (zs_ne hmm168 (Or.inr (by decide))))
                    have r174 : 0 ≤ (m170 a0 8) ∧ (m170 a0 8) ≤ 6 := zi_rd hIm170 hc0 zb_28_8
                    have e175 : (m170 a0 8) = (m156 a0 8) := (Eq.trans (zs_ne hmm170 (Or.inr (by decide))) (zs_ne hmm168 (Or.inr (by decide))))
                    have r176 : (-2147483648) ≤ (m170 a0 4) ∧ (m170 a0 4) ≤ 2147483647 := zi_rd hIm170 hc0 zb_28_4
                    have e177 : (m170 a0 4) = 2 := (Eq.trans (zs_ne hmm170 (Or.inr (by decide))) (zs_eq hmm168))
                    exact zw_some ⟨hIm170, hFm170, hRLRm170, hRNSm170, hRTRm170, hRWDm170, ⟨by omega, by omega⟩, by omega, by omega, by omega⟩
              · refine zw_ite (fun h178 => ?_) (fun h178 => ?_)
                · refine zw_b (by omega) ?_
                  refine zw_some ?_
                  refine zw_ite (fun h179 => ?_) (fun h179 => ?_)
                  · exfalso; omega
                  · refine zw_bd (zw_eq (zu_call_at (zt_T n) (zm_85 n) (zdp_85 n) _ _ _ _ _ rfl (zr_85_0 n _ _ a0 2 m156)) ?_)
                    generalize hmm180 : zu_up m156 a0 4 2 = m180
                    have hIm180 := zi_up hmm180 hIm156 hc0 zb_28_4 (by omega) (by omega)
                    have hFm180 := zfr_up hmm180 hFm156 hc0 rfl
                    have hRNSm180 := zR_NS_fr (zdis_fr (zfr_up hmm180 (zfr_rf [(28, 5)] _) hc0 rfl) rfl) hRNSm156
                    have hRTRm180 := zR_TR_fr (zdis_fr (zfr_up hmm180 (zfr_rf [(28, 5)] _) hc0 rfl) rfl) hRTRm156
                    have hRWDm180 := zR_WD_fr (zdis_fr (zfr_up hmm180 (zfr_rf [(28, 5)] _) hc0 rfl) rfl) hRWDm156
                    have hRLRm180 := zLR_wr (zone_190 hc0) hmm180 (by decide)
                    have r181 : 0 ≤ (m180 a0 10) ∧ (m180 a0 10) ≤ 700 := zi_rd hIm180 hc0 zb_28_10
                    generalize hmm182 : zu_up m180 a0 5 (m180 a0 10) = m182
                    have hIm182 := zi_up hmm182 hIm180 hc0 zb_28_5 (by omega) (by omega)
                    have hFm182 := zfr_up hmm182 hFm180 hc0 rfl
                    have hRLRm182 := zR_LR_fr (zdis_fr (zfr_up hmm182 (zfr_rf [(28, 6)] _) hc0 rfl) rfl) hRLRm180
                    have hRNSm182 := zR_NS_fr (zdis_fr (zfr_up hmm182 (zfr_rf [(28, 6)] _) hc0 rfl) rfl) hRNSm180
                    have hRTRm182 := zR_TR_fr (zdis_fr (zfr_up hmm182 (zfr_rf [(28, 6)] _) hc0 rfl) rfl) hRTRm180
                    have hRWDm182 := zR_WD_fr (zdis_fr (zfr_up hmm182 (zfr_rf [(28, 6)] _) hc0 rfl) rfl) hRWDm180
                    refine zw_b (by omega) ?_
                    refine zw_some ?_
                    refine zw_b (by omega) ?_
                    refine zw_some ?_
                    refine zw_ite (fun h183 => ?_) (fun h183 => ?_)
                    · exfalso; omega
                    · refine zw_b (by omega) ?_
                      have r184 : 0 ≤ (m182 a0 7) ∧ (m182 a0 7) ≤ 700 := zi_rd hIm182 hc0 zb_28_7
                      have e185 : (m182 a0 7) = (m156 a0 7) := (Eq.trans (zs_ne hmm182 (Or.inr (by decide))) (zs_ne hmm180 (Or.inr (by decide))))
                      have r186 : 0 ≤ (m182 a0 8) ∧ (m182 a0 8) ≤ 6 := zi_rd hIm182 hc0 zb_28_8
                      have e187 : (m182 a0 8) = (m156 a0 8) := (Eq.trans (zs_ne hmm182 (Or.inr (by decide))) (zs_ne hmm180 (Or.inr (by decide))))
                      have r188 : (-2147483648) ≤ (m182 a0 4) ∧ (m182 a0 4) ≤ 2147483647 := zi_rd hIm182 hc0 zb_28_4
                      have e189 : (m182 a0 4) = 2 := (Eq.trans (zs_ne hmm182 (Or.inr (by decide))) (zs_eq hmm180))
                      exact zw_some ⟨hIm182, hFm182, hRLRm182, hRNSm182, hRTRm182, hRWDm182, ⟨by omega, by omega⟩, by omega, by omega, by omega⟩
                · refine zw_b (by omega) ?_
                  refine zw_some ?_
                  refine zw_ite (fun h190 => ?_) (fun h190 => ?_)
                  · generalize hmm191 : zu_up m156 a0 11 (m156 a0 9) = m191
                    have hIm191 := zi_up hmm191 hIm156 hc0 zb_28_11 (by omega) (by omega)
                    have hFm191 := zfr_up hmm191 hFm156 hc0 rfl
                    have hRLRm191 := zR_LR_fr (zdis_fr (zfr_up hmm191 (zfr_rf [(28, 12)] _) hc0 rfl) rfl) hRLRm156
                    have hRNSm191 := zR_NS_fr (zdis_fr (zfr_up hmm191 (zfr_rf [(28, 12)] _) hc0 rfl) rfl) hRNSm156
                    have hRTRm191 := zR_TR_fr (zdis_fr (zfr_up hmm191 (zfr_rf [(28, 12)] _) hc0 rfl) rfl) hRTRm156
                    have hRWDm191 := zR_WD_fr (zdis_fr (zfr_up hmm191 (zfr_rf [(28, 12)] _) hc0 rfl) rfl) hRWDm156
                    have r194 : 0 ≤ (m191 a0 7) ∧ (m191 a0 7) ≤ 700 := zi_rd hIm191 hc0 zb_28_7
                    have e195 : (m191 a0 7) = (m156 a0 7) := (zs_ne hmm191 (Or.inr (by decide)))
                    refine zw_bd (zw_mono (zk_89 n hIm191 hc0 hRNSm191 hRWDm191) (fun v193 m192 hqm192 => ?_))
                    obtain ⟨hIm192, hfm192, hvm192⟩ := hqm192
                    have hFm192 := zfr_tr hFm191 hfm192 rfl
                    obtain ⟨hRNSm192, hRTRm192, hRWDm192, hvm192⟩ := hvm192
                    have hRLRm192 := zR_LR_fr (zdis_fr hfm192 rfl) hRLRm191
                    have s196 := hRNSm192 a0 hc0
                    have s197 := hRTRm192 a0 hc0
                    have r198 : 0 ≤ (m192 a0 7) ∧ (m192 a0 7) ≤ 700 := zi_rd hIm192 hc0 zb_28_7
                    have r199 : 0 ≤ (m192 a0 8) ∧ (m192 a0 8) ≤ 6 := zi_rd hIm192 hc0 zb_28_8
                    refine zw_b (by omega) ?_
                    refine zw_some ?_
                    refine zw_ite (fun h200 => ?_) (fun h200 => ?_)
                    · have r201 : (-2147483648) ≤ (m192 a0 11) ∧ (m192 a0 11) ≤ 2147483647 := zi_rd hIm192 hc0 zb_28_11
                      have e202 : (m192 a0 11) = (m156 a0 9) := (Eq.trans (zfr_ap hfm192 hc0 rfl) (zs_eq hmm191))
                      have b203 : 0 ≤ (7 : Int) ∧ (7 : Int) < 10 := by omega
                      refine zw_if b203 ?_
                      generalize hmm204 : zu_up m192 194 7 (m192 a0 11) = m204
                      have hIm204 := zi_up hmm204 hIm192 zq_194 (zb_103 _) (by omega) (by omega)
                      have hFm204 := zfr_up hmm204 hFm192 zq_194 rfl
                      have hRLRm204 := zR_LR_fr (zdis_fr (zfr_up hmm204 (zfr_rf [(103, 0)] _) zq_194 rfl) rfl) hRLRm192
                      have hRNSm204 := zR_NS_fr (zdis_fr (zfr_up hmm204 (zfr_rf [(103, 0)] _) zq_194 rfl) rfl) hRNSm192
                      have hRTRm204 := zR_TR_fr (zdis_fr (zfr_up hmm204 (zfr_rf [(103, 0)] _) zq_194 rfl) rfl) hRTRm192
                      have hRWDm204 := zR_WD_fr (zdis_fr (zfr_up hmm204 (zfr_rf [(103, 0)] _) zq_194 rfl) rfl) hRWDm192
                      refine zw_b (by omega) ?_
                      have r205 : 0 ≤ (m204 a0 7) ∧ (m204 a0 7) ≤ 700 := zi_rd hIm204 hc0 zb_28_7
                      have e206 : (m204 a0 7) = (m192 a0 7) := (zs_ne hmm204 (Or.inl (zc_ne hc0 zq_194 (by decide))))
                      have r207 : 0 ≤ (m204 a0 8) ∧ (m204 a0 8) ≤ 6 := zi_rd hIm204 hc0 zb_28_8
                      have e208 : (m204 a0 8) = (m192 a0 8) := (zs_ne hmm204 (Or.inl (zc_ne hc0 zq_194 (by decide))))
                      have r209 : (-2147483648) ≤ (m204 a0 4) ∧ (m204 a0 4) ≤ 2147483647 := zi_rd hIm204 hc0 zb_28_4
                      have e210 : (m204 a0 4) = (m0 a0 4) := (Eq.trans (zs_ne hmm204 (Or.inl (zc_ne hc0 zq_194 (by decide)))) (Eq.trans (zfr_ap hfm192 hc0 rfl) (Eq.trans (zs_ne hmm191 (Or.inr (by decide))) (Eq.trans (zfr_ap hfm156 hc0 rfl) (zs_ne hmm155 (Or.inl (zc_ne hc0 zq_193 (by decide))))))))
                      exact zw_some ⟨hIm204, hFm204, hRLRm204, hRNSm204, hRTRm204, hRWDm204, ⟨by omega, by omega⟩, by omega, by omega, by omega⟩
                    · exfalso; omega
                  · exfalso; omega
            · refine zw_bd (zw_eq (zu_call_at (zt_T n) (zm_85 n) (zdp_85 n) _ _ _ _ _ rfl (zr_85_0 n _ _ a0 1 m156)) ?_)
              generalize hmm211 : zu_up m156 a0 4 1 = m211
              have hIm211 := zi_up hmm211 hIm156 hc0 zb_28_4 (by omega) (by omega)
              have hFm211 := zfr_up hmm211 hFm156 hc0 rfl
              have hRNSm211 := zR_NS_fr (zdis_fr (zfr_up hmm211 (zfr_rf [(28, 5)] _) hc0 rfl) rfl) hRNSm156
              have hRTRm211 := zR_TR_fr (zdis_fr (zfr_up hmm211 (zfr_rf [(28, 5)] _) hc0 rfl) rfl) hRTRm156
              have hRWDm211 := zR_WD_fr (zdis_fr (zfr_up hmm211 (zfr_rf [(28, 5)] _) hc0 rfl) rfl) hRWDm156
              have hRLRm211 := zLR_wr (zone_190 hc0) hmm211 (by decide)
              have r212 : 0 ≤ (m211 a0 10) ∧ (m211 a0 10) ≤ 700 := zi_rd hIm211 hc0 zb_28_10
              generalize hmm213 : zu_up m211 a0 5 (m211 a0 10) = m213
              have hIm213 := zi_up hmm213 hIm211 hc0 zb_28_5 (by omega) (by omega)
              have hFm213 := zfr_up hmm213 hFm211 hc0 rfl
              have hRLRm213 := zR_LR_fr (zdis_fr (zfr_up hmm213 (zfr_rf [(28, 6)] _) hc0 rfl) rfl) hRLRm211
              have hRNSm213 := zR_NS_fr (zdis_fr (zfr_up hmm213 (zfr_rf [(28, 6)] _) hc0 rfl) rfl) hRNSm211
              have hRTRm213 := zR_TR_fr (zdis_fr (zfr_up hmm213 (zfr_rf [(28, 6)] _) hc0 rfl) rfl) hRTRm211
              have hRWDm213 := zR_WD_fr (zdis_fr (zfr_up hmm213 (zfr_rf [(28, 6)] _) hc0 rfl) rfl) hRWDm211
              refine zw_b (by omega) ?_
              refine zw_some ?_
              refine zw_b (by omega) ?_
              refine zw_some ?_
              refine zw_ite (fun h214 => ?_) (fun h214 => ?_)
              · exfalso; omega
              · refine zw_b (by omega) ?_
                have r215 : 0 ≤ (m213 a0 7) ∧ (m213 a0 7) ≤ 700 := zi_rd hIm213 hc0 zb_28_7
                have e216 : (m213 a0 7) = (m156 a0 7) := (Eq.trans (zs_ne hmm213 (Or.inr (by decide))) (zs_ne hmm211 (Or.inr (by decide))))
                have r217 : 0 ≤ (m213 a0 8) ∧ (m213 a0 8) ≤ 6 := zi_rd hIm213 hc0 zb_28_8
                have e218 : (m213 a0 8) = (m156 a0 8) := (Eq.trans (zs_ne hmm213 (Or.inr (by decide))) (zs_ne hmm211 (Or.inr (by decide))))
                have r219 : (-2147483648) ≤ (m213 a0 4) ∧ (m213 a0 4) ≤ 2147483647 := zi_rd hIm213 hc0 zb_28_4
                have e220 : (m213 a0 4) = 1 := (Eq.trans (zs_ne hmm213 (Or.inr (by decide))) (zs_eq hmm211))
                exact zw_some ⟨hIm213, hFm213, hRLRm213, hRNSm213, hRTRm213, hRWDm213, ⟨by omega, by omega⟩, by omega, by omega, by omega⟩
        · refine zw_bd (zw_eq (zu_call_at (zt_T n) (zm_85 n) (zdp_85 n) _ _ _ _ _ rfl (zr_85_0 n _ _ a0 3 m0)) ?_)
          generalize hmm221 : zu_up m0 a0 4 3 = m221
          have hIm221 := zi_up hmm221 hIm0 hc0 zb_28_4 (by omega) (by omega)
          have hFm221 := zfr_up hmm221 hFm0 hc0 rfl
          have hRNSm221 := zR_NS_fr (zdis_fr (zfr_up hmm221 (zfr_rf [(28, 5)] _) hc0 rfl) rfl) hRNSm0
          have hRTRm221 := zR_TR_fr (zdis_fr (zfr_up hmm221 (zfr_rf [(28, 5)] _) hc0 rfl) rfl) hRTRm0
          have hRWDm221 := zR_WD_fr (zdis_fr (zfr_up hmm221 (zfr_rf [(28, 5)] _) hc0 rfl) rfl) hRWDm0
          have hRLRm221 := zLR_wr (zone_190 hc0) hmm221 (by decide)
          have r222 : 0 ≤ (m221 a0 10) ∧ (m221 a0 10) ≤ 700 := zi_rd hIm221 hc0 zb_28_10
          generalize hmm223 : zu_up m221 a0 5 (m221 a0 10) = m223
          have hIm223 := zi_up hmm223 hIm221 hc0 zb_28_5 (by omega) (by omega)
          have hFm223 := zfr_up hmm223 hFm221 hc0 rfl
          have hRLRm223 := zR_LR_fr (zdis_fr (zfr_up hmm223 (zfr_rf [(28, 6)] _) hc0 rfl) rfl) hRLRm221
          have hRNSm223 := zR_NS_fr (zdis_fr (zfr_up hmm223 (zfr_rf [(28, 6)] _) hc0 rfl) rfl) hRNSm221
          have hRTRm223 := zR_TR_fr (zdis_fr (zfr_up hmm223 (zfr_rf [(28, 6)] _) hc0 rfl) rfl) hRTRm221
          have hRWDm223 := zR_WD_fr (zdis_fr (zfr_up hmm223 (zfr_rf [(28, 6)] _) hc0 rfl) rfl) hRWDm221
          refine zw_b (by omega) ?_
          refine zw_some ?_
          refine zw_b (by omega) ?_
          refine zw_some ?_
          refine zw_ite (fun h224 => ?_) (fun h224 => ?_)
          · refine zw_b (by omega) ?_
            have r225 : 0 ≤ (m223 a0 7) ∧ (m223 a0 7) ≤ 700 := zi_rd hIm223 hc0 zb_28_7
            have e226 : (m223 a0 7) = (m0 a0 7) := (Eq.trans (zs_ne hmm223 (Or.inr (by decide))) (zs_ne hmm221 (Or.inr (by decide))))
            have r227 : 0 ≤ (m223 a0 8) ∧ (m223 a0 8) ≤ 6 := zi_rd hIm223 hc0 zb_28_8
            have r228 : (-2147483648) ≤ (m223 a0 4) ∧ (m223 a0 4) ≤ 2147483647 := zi_rd hIm223 hc0 zb_28_4
            have e229 : (m223 a0 4) = 3 := (Eq.trans (zs_ne hmm223 (Or.inr (by decide))) (zs_eq hmm221))
            exact zw_some ⟨hIm223, hFm223, hRLRm223, hRNSm223, hRTRm223, hRWDm223, ⟨by omega, by omega⟩, by omega, by omega, by omega⟩
          · exfalso; omega
      · refine zw_ite (fun h230 => ?_) (fun h230 => ?_)
        · refine zw_bd (zw_eq (zu_call_at (zt_T n) (zm_98 n) (zdp_98 n) _ _ _ _ _ rfl (zr_98_0 n _ _ a0 4 m0)) ?_)
          have b231 : 0 ≤ (4 : Int) ∧ (4 : Int) < 6 := by omega
          refine zw_if b231 ?_
          have r232 : 0 ≤ (m0 193 4) ∧ (m0 193 4) ≤ 1 := zi_rd hIm0 zq_193 (zb_102 _)
          refine zw_ite (fun h233 => ?_) (fun h233 => ?_)
          · refine zw_b (by omega) ?_
            have b234 : 0 ≤ (4 : Int) ∧ (4 : Int) < 6 := by omega
            refine zw_if b234 ?_
            generalize hmm235 : zu_up m0 193 4 1 = m235
            have hIm235 := zi_up hmm235 hIm0 zq_193 (zb_102 _) (by omega) (by omega)
            have hFm235 := zfr_up hmm235 hFm0 zq_193 rfl
            have hRLRm235 := zR_LR_fr (zdis_fr (zfr_up hmm235 (zfr_rf [(102, 0)] _) zq_193 rfl) rfl) hRLRm0
            have hRNSm235 := zR_NS_fr (zdis_fr (zfr_up hmm235 (zfr_rf [(102, 0)] _) zq_193 rfl) rfl) hRNSm0
            have hRTRm235 := zR_TR_fr (zdis_fr (zfr_up hmm235 (zfr_rf [(102, 0)] _) zq_193 rfl) rfl) hRTRm0
            have hRWDm235 := zR_WD_fr (zdis_fr (zfr_up hmm235 (zfr_rf [(102, 0)] _) zq_193 rfl) rfl) hRWDm0
            have r238 : 0 ≤ (m235 a0 7) ∧ (m235 a0 7) ≤ 700 := zi_rd hIm235 hc0 zb_28_7
            have e239 : (m235 a0 7) = (m0 a0 7) := (zs_ne hmm235 (Or.inl (zc_ne hc0 zq_193 (by decide))))
            refine zw_bd (zw_mono (zk_89 n hIm235 hc0 hRNSm235 hRWDm235) (fun v237 m236 hqm236 => ?_))
            obtain ⟨hIm236, hfm236, hvm236⟩ := hqm236
            have hFm236 := zfr_tr hFm235 hfm236 rfl
            obtain ⟨hRNSm236, hRTRm236, hRWDm236, hvm236⟩ := hvm236
            have hRLRm236 := zR_LR_fr (zdis_fr hfm236 rfl) hRLRm235
            have s240 := hRNSm236 a0 hc0
            have s241 := hRTRm236 a0 hc0
            have r242 : 0 ≤ (m236 a0 7) ∧ (m236 a0 7) ≤ 700 := zi_rd hIm236 hc0 zb_28_7
            have r243 : 0 ≤ (m236 a0 8) ∧ (m236 a0 8) ≤ 6 := zi_rd hIm236 hc0 zb_28_8
            refine zw_b (by omega) ?_
            refine zw_some ?_
            refine zw_ite (fun h244 => ?_) (fun h244 => ?_)
            · exfalso; omega
            · refine zw_bd (zw_eq (zu_call_at (zt_T n) (zm_94 n) (zdp_94 n) _ _ _ _ _ rfl (zr_94_0 n _ _ a0 0 999 m236)) ?_)
              refine zw_ite (fun h245 => ?_) (fun h245 => ?_)
              · refine zw_bd (zw_eq (zu_call_at (zt_T n) (zm_83 n) (zdp_83 n) _ _ _ _ _ rfl (zr_83_0 n _ _ (m236 a0 9) 0 999 m236)) ?_)
                refine zw_ite (fun h246 => ?_) (fun h246 => ?_)
                · exfalso; omega
                · refine zw_ite (fun h247 => ?_) (fun h247 => ?_)
                  · refine zw_b (by omega) ?_
                    refine zw_some ?_
                    refine zw_ite (fun h248 => ?_) (fun h248 => ?_)
                    · exfalso; omega
                    · refine zw_bd (zw_eq (zu_call_at (zt_T n) (zm_85 n) (zdp_85 n) _ _ _ _ _ rfl (zr_85_0 n _ _ a0 2 m236)) ?_)
                      generalize hmm249 : zu_up m236 a0 4 2 = m249
                      have hIm249 := zi_up hmm249 hIm236 hc0 zb_28_4 (by omega) (by omega)
                      have hFm249 := zfr_up hmm249 hFm236 hc0 rfl
                      have hRNSm249 := zR_NS_fr (zdis_fr (zfr_up hmm249 (zfr_rf [(28, 5)] _) hc0 rfl) rfl) hRNSm236
                      have hRTRm249 := zR_TR_fr (zdis_fr (zfr_up hmm249 (zfr_rf [(28, 5)] _) hc0 rfl) rfl) hRTRm236
                      have hRWDm249 := zR_WD_fr (zdis_fr (zfr_up hmm249 (zfr_rf [(28, 5)] _) hc0 rfl) rfl) hRWDm236
                      have hRLRm249 := zLR_wr (zone_190 hc0) hmm249 (by decide)
                      have r250 : 0 ≤ (m249 a0 10) ∧ (m249 a0 10) ≤ 700 := zi_rd hIm249 hc0 zb_28_10
                      generalize hmm251 : zu_up m249 a0 5 (m249 a0 10) = m251
                      have hIm251 := zi_up hmm251 hIm249 hc0 zb_28_5 (by omega) (by omega)
                      have hFm251 := zfr_up hmm251 hFm249 hc0 rfl
                      have hRLRm251 := zR_LR_fr (zdis_fr (zfr_up hmm251 (zfr_rf [(28, 6)] _) hc0 rfl) rfl) hRLRm249
                      have hRNSm251 := zR_NS_fr (zdis_fr (zfr_up hmm251 (zfr_rf [(28, 6)] _) hc0 rfl) rfl) hRNSm249
                      have hRTRm251 := zR_TR_fr (zdis_fr (zfr_up hmm251 (zfr_rf [(28, 6)] _) hc0 rfl) rfl) hRTRm249
                      have hRWDm251 := zR_WD_fr (zdis_fr (zfr_up hmm251 (zfr_rf [(28, 6)] _) hc0 rfl) rfl) hRWDm249
                      refine zw_b (by omega) ?_
                      refine zw_some ?_
                      refine zw_b (by omega) ?_
                      refine zw_some ?_
                      refine zw_ite (fun h252 => ?_) (fun h252 => ?_)
                      · exfalso; omega
                      · refine zw_b (by omega) ?_
                        have r253 : 0 ≤ (m251 a0 7) ∧ (m251 a0 7) ≤ 700 := zi_rd hIm251 hc0 zb_28_7
                        have e254 : (m251 a0 7) = (m236 a0 7) := (Eq.trans (zs_ne hmm251 (Or.inr (by decide))) (zs_ne hmm249 (Or.inr (by decide))))
                        have r255 : 0 ≤ (m251 a0 8) ∧ (m251 a0 8) ≤ 6 := zi_rd hIm251 hc0 zb_28_8
                        have e256 : (m251 a0 8) = (m236 a0 8) := (Eq.trans (zs_ne hmm251 (Or.inr (by decide))) (zs_ne hmm249 (Or.inr (by decide))))
                        have r257 : (-2147483648) ≤ (m251 a0 4) ∧ (m251 a0 4) ≤ 2147483647 := zi_rd hIm251 hc0 zb_28_4
                        have e258 : (m251 a0 4) = 2 := (Eq.trans (zs_ne hmm251 (Or.inr (by decide))) (zs_eq hmm249))
                        exact zw_some ⟨hIm251, hFm251, hRLRm251, hRNSm251, hRTRm251, hRWDm251, ⟨by omega, by omega⟩, by omega, by omega, by omega⟩
                  · refine zw_b (by omega) ?_
                    refine zw_some ?_
                    refine zw_ite (fun h259 => ?_) (fun h259 => ?_)
                    · generalize hmm260 : zu_up m236 a0 11 (m236 a0 9) = m260
                      have hIm260 := zi_up hmm260 hIm236 hc0 zb_28_11 (by omega) (by omega)
                      have hFm260 := zfr_up hmm260 hFm236 hc0 rfl
                      have hRLRm260 := zR_LR_fr (zdis_fr (zfr_up hmm260 (zfr_rf [(28, 12)] _) hc0 rfl) rfl) hRLRm236
                      have hRNSm260 := zR_NS_fr (zdis_fr (zfr_up hmm260 (zfr_rf [(28, 12)] _) hc0 rfl) rfl) hRNSm236
                      have hRTRm260 := zR_TR_fr (zdis_fr (zfr_up hmm260 (zfr_rf [(28, 12)] _) hc0 rfl) rfl) hRTRm236
                      have hRWDm260 := zR_WD_fr (zdis_fr (zfr_up hmm260 (zfr_rf [(28, 12)] _) hc0 rfl) rfl) hRWDm236
                      have r263 : 0 ≤ (m260 a0 7) ∧ (m260 a0 7) ≤ 700 := zi_rd hIm260 hc0 zb_28_7
                      have e264 : (m260 a0 7) = (m236 a0 7) := (zs_ne hmm260 (Or.inr (by decide)))
                      refine zw_bd (zw_mono (zk_89 n hIm260 hc0 hRNSm260 hRWDm260) (fun v262 m261 hqm261 => ?_))
                      obtain ⟨hIm261, hfm261, hvm261⟩ := hqm261
                      have hFm261 := zfr_tr hFm260 hfm261 rfl
                      obtain ⟨hRNSm261, hRTRm261, hRWDm261, hvm261⟩ := hvm261
                      have hRLRm261 := zR_LR_fr (zdis_fr hfm261 rfl) hRLRm260
                      have s265 := hRNSm261 a0 hc0
                      have s266 := hRTRm261 a0 hc0
                      have r267 : 0 ≤ (m261 a0 7) ∧ (m261 a0 7) ≤ 700 := zi_rd hIm261 hc0 zb_28_7
                      have r268 : 0 ≤ (m261 a0 8) ∧ (m261 a0 8) ≤ 6 := zi_rd hIm261 hc0 zb_28_8
                      refine zw_b (by omega) ?_
                      refine zw_some ?_
                      refine zw_ite (fun h269 => ?_) (fun h269 => ?_)
                      · have r270 : (-2147483648) ≤ (m261 a0 11) ∧ (m261 a0 11) ≤ 2147483647 := zi_rd hIm261 hc0 zb_28_11
                        have e271 : (m261 a0 11) = (m236 a0 9) := (Eq.trans (zfr_ap hfm261 hc0 rfl) (zs_eq hmm260))
                        have b272 : 0 ≤ (8 : Int) ∧ (8 : Int) < 10 := by omega
                        refine zw_if b272 ?_
                        generalize hmm273 : zu_up m261 194 8 (m261 a0 11) = m273
                        have hIm273 := zi_up hmm273 hIm261 zq_194 (zb_103 _) (by omega) (by omega)
                        have hFm273 := zfr_up hmm273 hFm261 zq_194 rfl
                        have hRLRm273 := zR_LR_fr (zdis_fr (zfr_up hmm273 (zfr_rf [(103, 0)] _) zq_194 rfl) rfl) hRLRm261
                        have hRNSm273 := zR_NS_fr (zdis_fr (zfr_up hmm273 (zfr_rf [(103, 0)] _) zq_194 rfl) rfl) hRNSm261
                        have hRTRm273 := zR_TR_fr (zdis_fr (zfr_up hmm273 (zfr_rf [(103, 0)] _) zq_194 rfl) rfl) hRTRm261
                        have hRWDm273 := zR_WD_fr (zdis_fr (zfr_up hmm273 (zfr_rf [(103, 0)] _) zq_194 rfl) rfl) hRWDm261
                        refine zw_b (by omega) ?_
                        have r274 : 0 ≤ (m273 a0 7) ∧ (m273 a0 7) ≤ 700 := zi_rd hIm273 hc0 zb_28_7
                        have e275 : (m273 a0 7) = (m261 a0 7) := (zs_ne hmm273 (Or.inl (zc_ne hc0 zq_194 (by decide))))
                        have r276 : 0 ≤ (m273 a0 8) ∧ (m273 a0 8) ≤ 6 := zi_rd hIm273 hc0 zb_28_8
                        have e277 : (m273 a0 8) = (m261 a0 8) := (zs_ne hmm273 (Or.inl (zc_ne hc0 zq_194 (by decide))))
                        have r278 : (-2147483648) ≤ (m273 a0 4) ∧ (m273 a0 4) ≤ 2147483647 := zi_rd hIm273 hc0 zb_28_4
                        have e279 : (m273 a0 4) = (m0 a0 4) := (Eq.trans (zs_ne hmm273 (Or.inl (zc_ne hc0 zq_194 (by decide)))) (Eq.trans (zfr_ap hfm261 hc0 rfl) (Eq.trans (zs_ne hmm260 (Or.inr (by decide))) (Eq.trans (zfr_ap hfm236 hc0 rfl) (zs_ne hmm235 (Or.inl (zc_ne hc0 zq_193 (by decide))))))))
                        exact zw_some ⟨hIm273, hFm273, hRLRm273, hRNSm273, hRTRm273, hRWDm273, ⟨by omega, by omega⟩, by omega, by omega, by omega⟩
                      · exfalso; omega
                    · exfalso; omega
              · refine zw_bd (zw_eq (zu_call_at (zt_T n) (zm_85 n) (zdp_85 n) _ _ _ _ _ rfl (zr_85_0 n _ _ a0 1 m236)) ?_)
                generalize hmm280 : zu_up m236 a0 4 1 = m280
                have hIm280 := zi_up hmm280 hIm236 hc0 zb_28_4 (by omega) (by omega)
                have hFm280 := zfr_up hmm280 hFm236 hc0 rfl
                have hRNSm280 := zR_NS_fr (zdis_fr (zfr_up hmm280 (zfr_rf [(28, 5)] _) hc0 rfl) rfl) hRNSm236
                have hRTRm280 := zR_TR_fr (zdis_fr (zfr_up hmm280 (zfr_rf [(28, 5)] _) hc0 rfl) rfl) hRTRm236
                have hRWDm280 := zR_WD_fr (zdis_fr (zfr_up hmm280 (zfr_rf [(28, 5)] _) hc0 rfl) rfl) hRWDm236
                have hRLRm280 := zLR_wr (zone_190 hc0) hmm280 (by decide)
                have r281 : 0 ≤ (m280 a0 10) ∧ (m280 a0 10) ≤ 700 := zi_rd hIm280 hc0 zb_28_10
                generalize hmm282 : zu_up m280 a0 5 (m280 a0 10) = m282
                have hIm282 := zi_up hmm282 hIm280 hc0 zb_28_5 (by omega) (by omega)
                have hFm282 := zfr_up hmm282 hFm280 hc0 rfl
                have hRLRm282 := zR_LR_fr (zdis_fr (zfr_up hmm282 (zfr_rf [(28, 6)] _) hc0 rfl) rfl) hRLRm280
                have hRNSm282 := zR_NS_fr (zdis_fr (zfr_up hmm282 (zfr_rf [(28, 6)] _) hc0 rfl) rfl) hRNSm280
                have hRTRm282 := zR_TR_fr (zdis_fr (zfr_up hmm282 (zfr_rf [(28, 6)] _) hc0 rfl) rfl) hRTRm280
                have hRWDm282 := zR_WD_fr (zdis_fr (zfr_up hmm282 (zfr_rf [(28, 6)] _) hc0 rfl) rfl) hRWDm280
                refine zw_b (by omega) ?_
                refine zw_some ?_
                refine zw_b (by omega) ?_
                refine zw_some ?_
                refine zw_ite (fun h283 => ?_) (fun h283 => ?_)
                · exfalso; omega
                · refine zw_b (by omega) ?_
                  have r284 : 0 ≤ (m282 a0 7) ∧ (m282 a0 7) ≤ 700 := zi_rd hIm282 hc0 zb_28_7
                  have e285 : (m282 a0 7) = (m236 a0 7) := (Eq.trans (zs_ne hmm282 (Or.inr (by decide))) (zs_ne hmm280 (Or.inr (by decide))))
                  have r286 : 0 ≤ (m282 a0 8) ∧ (m282 a0 8) ≤ 6 := zi_rd hIm282 hc0 zb_28_8
                  have e287 : (m282 a0 8) = (m236 a0 8) := (Eq.trans (zs_ne hmm282 (Or.inr (by decide))) (zs_ne hmm280 (Or.inr (by decide))))
                  have r288 : (-2147483648) ≤ (m282 a0 4) ∧ (m282 a0 4) ≤ 2147483647 := zi_rd hIm282 hc0 zb_28_4
                  have e289 : (m282 a0 4) = 1 := (Eq.trans (zs_ne hmm282 (Or.inr (by decide))) (zs_eq hmm280))
                  exact zw_some ⟨hIm282, hFm282, hRLRm282, hRNSm282, hRTRm282, hRWDm282, ⟨by omega, by omega⟩, by omega, by omega, by omega⟩
          · refine zw_bd (zw_eq (zu_call_at (zt_T n) (zm_85 n) (zdp_85 n) _ _ _ _ _ rfl (zr_85_0 n _ _ a0 3 m0)) ?_)
            generalize hmm290 : zu_up m0 a0 4 3 = m290
            have hIm290 := zi_up hmm290 hIm0 hc0 zb_28_4 (by omega) (by omega)
            have hFm290 := zfr_up hmm290 hFm0 hc0 rfl
            have hRNSm290 := zR_NS_fr (zdis_fr (zfr_up hmm290 (zfr_rf [(28, 5)] _) hc0 rfl) rfl) hRNSm0
            have hRTRm290 := zR_TR_fr (zdis_fr (zfr_up hmm290 (zfr_rf [(28, 5)] _) hc0 rfl) rfl) hRTRm0
            have hRWDm290 := zR_WD_fr (zdis_fr (zfr_up hmm290 (zfr_rf [(28, 5)] _) hc0 rfl) rfl) hRWDm0
            have hRLRm290 := zLR_wr (zone_190 hc0) hmm290 (by decide)
            have r291 : 0 ≤ (m290 a0 10) ∧ (m290 a0 10) ≤ 700 := zi_rd hIm290 hc0 zb_28_10
            generalize hmm292 : zu_up m290 a0 5 (m290 a0 10) = m292
            have hIm292 := zi_up hmm292 hIm290 hc0 zb_28_5 (by omega) (by omega)
            have hFm292 := zfr_up hmm292 hFm290 hc0 rfl
            have hRLRm292 := zR_LR_fr (zdis_fr (zfr_up hmm292 (zfr_rf [(28, 6)] _) hc0 rfl) rfl) hRLRm290
            have hRNSm292 := zR_NS_fr (zdis_fr (zfr_up hmm292 (zfr_rf [(28, 6)] _) hc0 rfl) rfl) hRNSm290
            have hRTRm292 := zR_TR_fr (zdis_fr (zfr_up hmm292 (zfr_rf [(28, 6)] _) hc0 rfl) rfl) hRTRm290
            have hRWDm292 := zR_WD_fr (zdis_fr (zfr_up hmm292 (zfr_rf [(28, 6)] _) hc0 rfl) rfl) hRWDm290
            refine zw_b (by omega) ?_
            refine zw_some ?_
            refine zw_b (by omega) ?_
            refine zw_some ?_
            refine zw_ite (fun h293 => ?_) (fun h293 => ?_)
            · refine zw_b (by omega) ?_
              have r294 : 0 ≤ (m292 a0 7) ∧ (m292 a0 7) ≤ 700 := zi_rd hIm292 hc0 zb_28_7
              have e295 : (m292 a0 7) = (m0 a0 7) := (Eq.trans (zs_ne hmm292 (Or.inr (by decide))) (zs_ne hmm290 (Or.inr (by decide))))
              have r296 : 0 ≤ (m292 a0 8) ∧ (m292 a0 8) ≤ 6 := zi_rd hIm292 hc0 zb_28_8
              have r297 : (-2147483648) ≤ (m292 a0 4) ∧ (m292 a0 4) ≤ 2147483647 := zi_rd hIm292 hc0 zb_28_4
              have e298 : (m292 a0 4) = 3 := (Eq.trans (zs_ne hmm292 (Or.inr (by decide))) (zs_eq hmm290))
              exact zw_some ⟨hIm292, hFm292, hRLRm292, hRNSm292, hRTRm292, hRWDm292, ⟨by omega, by omega⟩, by omega, by omega, by omega⟩
            · exfalso; omega
        · refine zw_bd (zw_eq (zu_call_at (zt_T n) (zm_98 n) (zdp_98 n) _ _ _ _ _ rfl (zr_98_0 n _ _ a0 5 m0)) ?_)
          have b299 : 0 ≤ (5 : Int) ∧ (5 : Int) < 6 := by omega
          refine zw_if b299 ?_
          have r300 : 0 ≤ (m0 193 5) ∧ (m0 193 5) ≤ 1 := zi_rd hIm0 zq_193 (zb_102 _)
          refine zw_ite (fun h301 => ?_) (fun h301 => ?_)
          · refine zw_b (by omega) ?_
            have b302 : 0 ≤ (5 : Int) ∧ (5 : Int) < 6 := by omega
            refine zw_if b302 ?_
            generalize hmm303 : zu_up m0 193 5 1 = m303
            have hIm303 := zi_up hmm303 hIm0 zq_193 (zb_102 _) (by omega) (by omega)
            have hFm303 := zfr_up hmm303 hFm0 zq_193 rfl
            have hRLRm303 := zR_LR_fr (zdis_fr (zfr_up hmm303 (zfr_rf [(102, 0)] _) zq_193 rfl) rfl) hRLRm0
            have hRNSm303 := zR_NS_fr (zdis_fr (zfr_up hmm303 (zfr_rf [(102, 0)] _) zq_193 rfl) rfl) hRNSm0
            have hRTRm303 := zR_TR_fr (zdis_fr (zfr_up hmm303 (zfr_rf [(102, 0)] _) zq_193 rfl) rfl) hRTRm0
            have hRWDm303 := zR_WD_fr (zdis_fr (zfr_up hmm303 (zfr_rf [(102, 0)] _) zq_193 rfl) rfl) hRWDm0
            have r306 : 0 ≤ (m303 a0 7) ∧ (m303 a0 7) ≤ 700 := zi_rd hIm303 hc0 zb_28_7
            have e307 : (m303 a0 7) = (m0 a0 7) := (zs_ne hmm303 (Or.inl (zc_ne hc0 zq_193 (by decide))))
            refine zw_bd (zw_mono (zk_89 n hIm303 hc0 hRNSm303 hRWDm303) (fun v305 m304 hqm304 => ?_))
            obtain ⟨hIm304, hfm304, hvm304⟩ := hqm304
            have hFm304 := zfr_tr hFm303 hfm304 rfl
            obtain ⟨hRNSm304, hRTRm304, hRWDm304, hvm304⟩ := hvm304
            have hRLRm304 := zR_LR_fr (zdis_fr hfm304 rfl) hRLRm303
            have s308 := hRNSm304 a0 hc0
            have s309 := hRTRm304 a0 hc0
            have r310 : 0 ≤ (m304 a0 7) ∧ (m304 a0 7) ≤ 700 := zi_rd hIm304 hc0 zb_28_7
            have r311 : 0 ≤ (m304 a0 8) ∧ (m304 a0 8) ≤ 6 := zi_rd hIm304 hc0 zb_28_8
            refine zw_b (by omega) ?_
            refine zw_some ?_
            refine zw_ite (fun h312 => ?_) (fun h312 => ?_)
            · exfalso; omega
            · refine zw_bd (zw_eq (zu_call_at (zt_T n) (zm_94 n) (zdp_94 n) _ _ _ _ _ rfl (zr_94_0 n _ _ a0 0 99999 m304)) ?_)
              refine zw_ite (fun h313 => ?_) (fun h313 => ?_)
              · refine zw_bd (zw_eq (zu_call_at (zt_T n) (zm_83 n) (zdp_83 n) _ _ _ _ _ rfl (zr_83_0 n _ _ (m304 a0 9) 0 99999 m304)) ?_)
                refine zw_ite (fun h314 => ?_) (fun h314 => ?_)
                · exfalso; omega
                · refine zw_ite (fun h315 => ?_) (fun h315 => ?_)
                  · refine zw_b (by omega) ?_
                    refine zw_some ?_
                    refine zw_ite (fun h316 => ?_) (fun h316 => ?_)
                    · exfalso; omega
                    · refine zw_bd (zw_eq (zu_call_at (zt_T n) (zm_85 n) (zdp_85 n) _ _ _ _ _ rfl (zr_85_0 n _ _ a0 2 m304)) ?_)
                      generalize hmm317 : zu_up m304 a0 4 2 = m317
                      have hIm317 := zi_up hmm317 hIm304 hc0 zb_28_4 (by omega) (by omega)
                      have hFm317 := zfr_up hmm317 hFm304 hc0 rfl
                      have hRNSm317 := zR_NS_fr (zdis_fr (zfr_up hmm317 (zfr_rf [(28, 5)] _) hc0 rfl) rfl) hRNSm304
                      have hRTRm317 := zR_TR_fr (zdis_fr (zfr_up hmm317 (zfr_rf [(28, 5)] _) hc0 rfl) rfl) hRTRm304
                      have hRWDm317 := zR_WD_fr (zdis_fr (zfr_up hmm317 (zfr_rf [(28, 5)] _) hc0 rfl) rfl) hRWDm304
                      have hRLRm317 := zLR_wr (zone_190 hc0) hmm317 (by decide)
                      have r318 : 0 ≤ (m317 a0 10) ∧ (m317 a0 10) ≤ 700 := zi_rd hIm317 hc0 zb_28_10
                      generalize hmm319 : zu_up m317 a0 5 (m317 a0 10) = m319
                      have hIm319 := zi_up hmm319 hIm317 hc0 zb_28_5 (by omega) (by omega)
                      have hFm319 := zfr_up hmm319 hFm317 hc0 rfl
                      have hRLRm319 := zR_LR_fr (zdis_fr (zfr_up hmm319 (zfr_rf [(28, 6)] _) hc0 rfl) rfl) hRLRm317
                      have hRNSm319 := zR_NS_fr (zdis_fr (zfr_up hmm319 (zfr_rf [(28, 6)] _) hc0 rfl) rfl) hRNSm317
                      have hRTRm319 := zR_TR_fr (zdis_fr (zfr_up hmm319 (zfr_rf [(28, 6)] _) hc0 rfl) rfl) hRTRm317
                      have hRWDm319 := zR_WD_fr (zdis_fr (zfr_up hmm319 (zfr_rf [(28, 6)] _) hc0 rfl) rfl) hRWDm317
                      refine zw_b (by omega) ?_
                      refine zw_some ?_
                      refine zw_b (by omega) ?_
                      refine zw_some ?_
                      refine zw_ite (fun h320 => ?_) (fun h320 => ?_)
                      · exfalso; omega
                      · refine zw_b (by omega) ?_
                        have r321 : 0 ≤ (m319 a0 7) ∧ (m319 a0 7) ≤ 700 := zi_rd hIm319 hc0 zb_28_7
                        have e322 : (m319 a0 7) = (m304 a0 7) := (Eq.trans (zs_ne hmm319 (Or.inr (by decide))) (zs_ne hmm317 (Or.inr (by decide))))
                        have r323 : 0 ≤ (m319 a0 8) ∧ (m319 a0 8) ≤ 6 := zi_rd hIm319 hc0 zb_28_8
                        have e324 : (m319 a0 8) = (m304 a0 8) := (Eq.trans (zs_ne hmm319 (Or.inr (by decide))) (zs_ne hmm317 (Or.inr (by decide))))
                        have r325 : (-2147483648) ≤ (m319 a0 4) ∧ (m319 a0 4) ≤ 2147483647 := zi_rd hIm319 hc0 zb_28_4
                        have e326 : (m319 a0 4) = 2 := (Eq.trans (zs_ne hmm319 (Or.inr (by decide))) (zs_eq hmm317))
                        exact zw_some ⟨hIm319, hFm319, hRLRm319, hRNSm319, hRTRm319, hRWDm319, ⟨by omega, by omega⟩, by omega, by omega, by omega⟩
                  · refine zw_b (by omega) ?_
                    refine zw_some ?_
                    refine zw_ite (fun h327 => ?_) (fun h327 => ?_)
                    · generalize hmm328 : zu_up m304 a0 11 (m304 a0 9) = m328
                      have hIm328 := zi_up hmm328 hIm304 hc0 zb_28_11 (by omega) (by omega)
                      have hFm328 := zfr_up hmm328 hFm304 hc0 rfl
                      have hRLRm328 := zR_LR_fr (zdis_fr (zfr_up hmm328 (zfr_rf [(28, 12)] _) hc0 rfl) rfl) hRLRm304
                      have hRNSm328 := zR_NS_fr (zdis_fr (zfr_up hmm328 (zfr_rf [(28, 12)] _) hc0 rfl) rfl) hRNSm304
                      have hRTRm328 := zR_TR_fr (zdis_fr (zfr_up hmm328 (zfr_rf [(28, 12)] _) hc0 rfl) rfl) hRTRm304
                      have hRWDm328 := zR_WD_fr (zdis_fr (zfr_up hmm328 (zfr_rf [(28, 12)] _) hc0 rfl) rfl) hRWDm304
                      have r331 : 0 ≤ (m328 a0 7) ∧ (m328 a0 7) ≤ 700 := zi_rd hIm328 hc0 zb_28_7
                      have e332 : (m328 a0 7) = (m304 a0 7) := (zs_ne hmm328 (Or.inr (by decide)))
                      refine zw_bd (zw_mono (zk_89 n hIm328 hc0 hRNSm328 hRWDm328) (fun v330 m329 hqm329 => ?_))
                      obtain ⟨hIm329, hfm329, hvm329⟩ := hqm329
                      have hFm329 := zfr_tr hFm328 hfm329 rfl
                      obtain ⟨hRNSm329, hRTRm329, hRWDm329, hvm329⟩ := hvm329
                      have hRLRm329 := zR_LR_fr (zdis_fr hfm329 rfl) hRLRm328
                      have s333 := hRNSm329 a0 hc0
                      have s334 := hRTRm329 a0 hc0
                      have r335 : 0 ≤ (m329 a0 7) ∧ (m329 a0 7) ≤ 700 := zi_rd hIm329 hc0 zb_28_7
                      have r336 : 0 ≤ (m329 a0 8) ∧ (m329 a0 8) ≤ 6 := zi_rd hIm329 hc0 zb_28_8
                      refine zw_b (by omega) ?_
                      refine zw_some ?_
                      refine zw_ite (fun h337 => ?_) (fun h337 => ?_)
                      · have r338 : (-2147483648) ≤ (m329 a0 11) ∧ (m329 a0 11) ≤ 2147483647 := zi_rd hIm329 hc0 zb_28_11
                        have e339 : (m329 a0 11) = (m304 a0 9) := (Eq.trans (zfr_ap hfm329 hc0 rfl) (zs_eq hmm328))
                        have b340 : 0 ≤ (9 : Int) ∧ (9 : Int) < 10 := by omega
                        refine zw_if b340 ?_
                        generalize hmm341 : zu_up m329 194 9 (m329 a0 11) = m341
                        have hIm341 := zi_up hmm341 hIm329 zq_194 (zb_103 _) (by omega) (by omega)
                        have hFm341 := zfr_up hmm341 hFm329 zq_194 rfl
                        have hRLRm341 := zR_LR_fr (zdis_fr (zfr_up hmm341 (zfr_rf [(103, 0)] _) zq_194 rfl) rfl) hRLRm329
                        have hRNSm341 := zR_NS_fr (zdis_fr (zfr_up hmm341 (zfr_rf [(103, 0)] _) zq_194 rfl) rfl) hRNSm329
                        have hRTRm341 := zR_TR_fr (zdis_fr (zfr_up hmm341 (zfr_rf [(103, 0)] _) zq_194 rfl) rfl) hRTRm329
                        have hRWDm341 := zR_WD_fr (zdis_fr (zfr_up hmm341 (zfr_rf [(103, 0)] _) zq_194 rfl) rfl) hRWDm329
                        refine zw_b (by omega) ?_
                        have r342 : 0 ≤ (m341 a0 7) ∧ (m341 a0 7) ≤ 700 := zi_rd hIm341 hc0 zb_28_7
                        have e343 : (m341 a0 7) = (m329 a0 7) := (zs_ne hmm341 (Or.inl (zc_ne hc0 zq_194 (by decide))))
                        have r344 : 0 ≤ (m341 a0 8) ∧ (m341 a0 8) ≤ 6 := zi_rd hIm341 hc0 zb_28_8
                        have e345 : (m341 a0 8) = (m329 a0 8) := (zs_ne hmm341 (Or.inl (zc_ne hc0 zq_194 (by decide))))
                        have r346 : (-2147483648) ≤ (m341 a0 4) ∧ (m341 a0 4) ≤ 2147483647 := zi_rd hIm341 hc0 zb_28_4
                        have e347 : (m341 a0 4) = (m0 a0 4) := (Eq.trans (zs_ne hmm341 (Or.inl (zc_ne hc0 zq_194 (by decide)))) (Eq.trans (zfr_ap hfm329 hc0 rfl) (Eq.trans (zs_ne hmm328 (Or.inr (by decide))) (Eq.trans (zfr_ap hfm304 hc0 rfl) (zs_ne hmm303 (Or.inl (zc_ne hc0 zq_193 (by decide))))))))
                        exact zw_some ⟨hIm341, hFm341, hRLRm341, hRNSm341, hRTRm341, hRWDm341, ⟨by omega, by omega⟩, by omega, by omega, by omega⟩
                      · exfalso; omega
                    · exfalso; omega
              · refine zw_bd (zw_eq (zu_call_at (zt_T n) (zm_85 n) (zdp_85 n) _ _ _ _ _ rfl (zr_85_0 n _ _ a0 1 m304)) ?_)
                generalize hmm348 : zu_up m304 a0 4 1 = m348
                have hIm348 := zi_up hmm348 hIm304 hc0 zb_28_4 (by omega) (by omega)
                have hFm348 := zfr_up hmm348 hFm304 hc0 rfl
                have hRNSm348 := zR_NS_fr (zdis_fr (zfr_up hmm348 (zfr_rf [(28, 5)] _) hc0 rfl) rfl) hRNSm304
                have hRTRm348 := zR_TR_fr (zdis_fr (zfr_up hmm348 (zfr_rf [(28, 5)] _) hc0 rfl) rfl) hRTRm304
                have hRWDm348 := zR_WD_fr (zdis_fr (zfr_up hmm348 (zfr_rf [(28, 5)] _) hc0 rfl) rfl) hRWDm304
                have hRLRm348 := zLR_wr (zone_190 hc0) hmm348 (by decide)
                have r349 : 0 ≤ (m348 a0 10) ∧ (m348 a0 10) ≤ 700 := zi_rd hIm348 hc0 zb_28_10
                generalize hmm350 : zu_up m348 a0 5 (m348 a0 10) = m350
                have hIm350 := zi_up hmm350 hIm348 hc0 zb_28_5 (by omega) (by omega)
                have hFm350 := zfr_up hmm350 hFm348 hc0 rfl
                have hRLRm350 := zR_LR_fr (zdis_fr (zfr_up hmm350 (zfr_rf [(28, 6)] _) hc0 rfl) rfl) hRLRm348
                have hRNSm350 := zR_NS_fr (zdis_fr (zfr_up hmm350 (zfr_rf [(28, 6)] _) hc0 rfl) rfl) hRNSm348
                have hRTRm350 := zR_TR_fr (zdis_fr (zfr_up hmm350 (zfr_rf [(28, 6)] _) hc0 rfl) rfl) hRTRm348
                have hRWDm350 := zR_WD_fr (zdis_fr (zfr_up hmm350 (zfr_rf [(28, 6)] _) hc0 rfl) rfl) hRWDm348
                refine zw_b (by omega) ?_
                refine zw_some ?_
                refine zw_b (by omega) ?_
                refine zw_some ?_
                refine zw_ite (fun h351 => ?_) (fun h351 => ?_)
                · exfalso; omega
                · refine zw_b (by omega) ?_
                  have r352 : 0 ≤ (m350 a0 7) ∧ (m350 a0 7) ≤ 700 := zi_rd hIm350 hc0 zb_28_7
                  have e353 : (m350 a0 7) = (m304 a0 7) := (Eq.trans (zs_ne hmm350 (Or.inr (by decide))) (zs_ne hmm348 (Or.inr (by decide))))
                  have r354 : 0 ≤ (m350 a0 8) ∧ (m350 a0 8) ≤ 6 := zi_rd hIm350 hc0 zb_28_8
                  have e355 : (m350 a0 8) = (m304 a0 8) := (Eq.trans (zs_ne hmm350 (Or.inr (by decide))) (zs_ne hmm348 (Or.inr (by decide))))
                  have r356 : (-2147483648) ≤ (m350 a0 4) ∧ (m350 a0 4) ≤ 2147483647 := zi_rd hIm350 hc0 zb_28_4
                  have e357 : (m350 a0 4) = 1 := (Eq.trans (zs_ne hmm350 (Or.inr (by decide))) (zs_eq hmm348))
                  exact zw_some ⟨hIm350, hFm350, hRLRm350, hRNSm350, hRTRm350, hRWDm350, ⟨by omega, by omega⟩, by omega, by omega, by omega⟩
          · refine zw_bd (zw_eq (zu_call_at (zt_T n) (zm_85 n) (zdp_85 n) _ _ _ _ _ rfl (zr_85_0 n _ _ a0 3 m0)) ?_)
            generalize hmm358 : zu_up m0 a0 4 3 = m358
            have hIm358 := zi_up hmm358 hIm0 hc0 zb_28_4 (by omega) (by omega)
            have hFm358 := zfr_up hmm358 hFm0 hc0 rfl
            have hRNSm358 := zR_NS_fr (zdis_fr (zfr_up hmm358 (zfr_rf [(28, 5)] _) hc0 rfl) rfl) hRNSm0
            have hRTRm358 := zR_TR_fr (zdis_fr (zfr_up hmm358 (zfr_rf [(28, 5)] _) hc0 rfl) rfl) hRTRm0
            have hRWDm358 := zR_WD_fr (zdis_fr (zfr_up hmm358 (zfr_rf [(28, 5)] _) hc0 rfl) rfl) hRWDm0
            have hRLRm358 := zLR_wr (zone_190 hc0) hmm358 (by decide)
            have r359 : 0 ≤ (m358 a0 10) ∧ (m358 a0 10) ≤ 700 := zi_rd hIm358 hc0 zb_28_10
            generalize hmm360 : zu_up m358 a0 5 (m358 a0 10) = m360
            have hIm360 := zi_up hmm360 hIm358 hc0 zb_28_5 (by omega) (by omega)
            have hFm360 := zfr_up hmm360 hFm358 hc0 rfl
            have hRLRm360 := zR_LR_fr (zdis_fr (zfr_up hmm360 (zfr_rf [(28, 6)] _) hc0 rfl) rfl) hRLRm358
            have hRNSm360 := zR_NS_fr (zdis_fr (zfr_up hmm360 (zfr_rf [(28, 6)] _) hc0 rfl) rfl) hRNSm358
            have hRTRm360 := zR_TR_fr (zdis_fr (zfr_up hmm360 (zfr_rf [(28, 6)] _) hc0 rfl) rfl) hRTRm358
            have hRWDm360 := zR_WD_fr (zdis_fr (zfr_up hmm360 (zfr_rf [(28, 6)] _) hc0 rfl) rfl) hRWDm358
            refine zw_b (by omega) ?_
            refine zw_some ?_
            refine zw_b (by omega) ?_
            refine zw_some ?_
            refine zw_ite (fun h361 => ?_) (fun h361 => ?_)
            · refine zw_b (by omega) ?_
              have r362 : 0 ≤ (m360 a0 7) ∧ (m360 a0 7) ≤ 700 := zi_rd hIm360 hc0 zb_28_7
              have e363 : (m360 a0 7) = (m0 a0 7) := (Eq.trans (zs_ne hmm360 (Or.inr (by decide))) (zs_ne hmm358 (Or.inr (by decide))))
              have r364 : 0 ≤ (m360 a0 8) ∧ (m360 a0 8) ≤ 6 := zi_rd hIm360 hc0 zb_28_8
              have r365 : (-2147483648) ≤ (m360 a0 4) ∧ (m360 a0 4) ≤ 2147483647 := zi_rd hIm360 hc0 zb_28_4
              have e366 : (m360 a0 4) = 3 := (Eq.trans (zs_ne hmm360 (Or.inr (by decide))) (zs_eq hmm358))
              exact zw_some ⟨hIm360, hFm360, hRLRm360, hRNSm360, hRTRm360, hRWDm360, ⟨by omega, by omega⟩, by omega, by omega, by omega⟩
            · exfalso; omega
set_option maxHeartbeats 4000000 in
theorem zl_118 (n : Nat) {a0 : Int} {m0 : zu_m} (hc0 : zcls a0 = 28)  (hxp0 : (m0 a0 21) = (m0 a0 48)) : ∀ k : Nat, (∀ (mh : zu_m), zi_I mh → zfr [(28, 5), (28, 6), (28, 8), (28, 9), (28, 10), (28, 11), (28, 22), (28, 46), (28, 47), (28, 48), (28, 49), (28, 50), (28, 51), (117, 0), (118, 0), (119, 0), (120, 0), (121, 0)] m0 mh → ((m0 a0 7) ≤ (mh a0 7)) → ((mh a0 21) + znz mh = (mh a0 48)) → ((mh a0 46) + (mh a0 49) = zbi mh + 1) → ((mh a0 45) = znz mh + (mh a0 47)) → ((mh a0 49) = 0 → 1 ≤ (mh a0 21)) → ((mh a0 4) = (m0 a0 4)) → (zR_KN mh) → (zR_NS mh) → (zR_TR mh) → (zR_WD mh) → (7 * (700 - (mh a0 7)) + (mh a0 8)) * 1 + 0 < (k : Int) → zw (zu_ex (zt_T n) 118 25 [(40, a0)] [] mh) (fun v m => zi_I m ∧ zfr [(28, 5), (28, 6), (28, 8), (28, 9), (28, 10), (28, 11), (28, 22), (28, 46), (28, 47), (28, 48), (28, 49), (28, 50), (28, 51), (117, 0), (118, 0), (119, 0), (120, 0), (121, 0)] m0 m ∧ zR_KN m ∧ zR_NS m ∧ zR_TR m ∧ zR_WD m ∧ (0 ≤ v ∧ v ≤ 1) ∧ ((m0 a0 7) ≤ (m a0 7)) ∧ (v = 1 → ((m a0 21) = (m a0 48) ∧ 1 ≤ (m a0 21))) ∧ (v = 1 → (m a0 4) = (m0 a0 4)) ∧ (v = 0 → (m a0 4) ≠ 0))) := by
  intro k
  induction k with
  | zero => exact fun mh hImh hFmh hH0 hH1 hH2 hH3 hH4 hH5 hRKNmh hRNSmh hRTRmh hRWDmh hM => by have zq0 := zi_rd hImh hc0 zb_28_7; have zq1 := zi_rd hImh hc0 zb_28_8; exfalso; omega
  | succ k ih =>
    intro mh hImh hFmh hH0 hH1 hH2 hH3 hH4 hH5 hRKNmh hRNSmh hRTRmh hRWDmh hM
    refine zw_eq (zu_rega_at (zt_T n) (zm_118 n) (zdp_118 n) _ _ _ _ _ _ (zr_118_25 n _ _ a0 mh)) ?_
    have r1 : 0 ≤ (mh a0 7) ∧ (mh a0 7) ≤ 700 := zi_rd hImh hc0 zb_28_7
    have r2 : 0 ≤ (mh a0 21) ∧ (mh a0 21) ≤ 64 := zi_rd hImh hc0 zb_28_21
    have r3 : 0 ≤ (mh a0 48) ∧ (mh a0 48) ≤ 64 := zi_rd hImh hc0 zb_28_48
    have r4 : 0 ≤ (mh a0 46) ∧ (mh a0 46) ≤ 96 := zi_rd hImh hc0 zb_28_46
    have r5 : 0 ≤ (mh a0 49) ∧ (mh a0 49) ≤ 1 := zi_rd hImh hc0 zb_28_49
    have r6 : 0 ≤ (mh a0 45) ∧ (mh a0 45) ≤ 96 := zi_rd hImh hc0 zb_28_45
    have r7 : 0 ≤ (mh a0 47) ∧ (mh a0 47) ≤ 8 := zi_rd hImh hc0 zb_28_47
    have r8 : (-2147483648) ≤ (mh a0 4) ∧ (mh a0 4) ≤ 2147483647 := zi_rd hImh hc0 zb_28_4
    have r9 : 0 ≤ (mh a0 8) ∧ (mh a0 8) ≤ 6 := zi_rd hImh hc0 zb_28_8
    have g10 := zwt_bd hImh hc0
    have s11 := hRNSmh a0 hc0
    have s12 := hRTRmh a0 hc0
    refine zw_bd (zw_eq (zu_call_at (zt_T n) (zm_93 n) (zdp_93 n) _ _ _ _ _ rfl (zr_93_0 n _ _ a0 59 mh)) ?_)
    refine zw_ite (fun h13 => ?_) (fun h13 => ?_)
    · refine zw_b (by omega) ?_
      refine zw_some ?_
      refine zw_ite (fun h14 => ?_) (fun h14 => ?_)
      · refine zw_ite (fun h15 => ?_) (fun h15 => ?_)
        · refine zw_bd (zw_mono (zk_117 n hImh hc0 ⟨by omega, by omega⟩ (by omega) (by omega) (by omega) (by omega) (by omega) hRKNmh hRNSmh hRTRmh hRWDmh) (fun v17 m16 hqm16 => ?_))
          obtain ⟨hIm16, hfm16, hvm16⟩ := hqm16
          have hFm16 := zfr_tr hFmh hfm16 rfl
          obtain ⟨hRKNm16, hRNSm16, hRTRm16, hRWDm16, hvm16⟩ := hvm16
          have g18 := zwt_bd hIm16 hc0
          have s19 := hRNSm16 a0 hc0
          have s20 := hRTRm16 a0 hc0
          have r21 : 0 ≤ (m16 a0 7) ∧ (m16 a0 7) ≤ 700 := zi_rd hIm16 hc0 zb_28_7
          have r22 : 0 ≤ (m16 a0 8) ∧ (m16 a0 8) ≤ 6 := zi_rd hIm16 hc0 zb_28_8
          have r23 : 0 ≤ (m16 a0 21) ∧ (m16 a0 21) ≤ 64 := zi_rd hIm16 hc0 zb_28_21
          have r24 : 0 ≤ (m16 a0 48) ∧ (m16 a0 48) ≤ 64 := zi_rd hIm16 hc0 zb_28_48
          have r25 : 0 ≤ (m16 a0 46) ∧ (m16 a0 46) ≤ 96 := zi_rd hIm16 hc0 zb_28_46
          have r26 : 0 ≤ (m16 a0 49) ∧ (m16 a0 49) ≤ 1 := zi_rd hIm16 hc0 zb_28_49
          have r27 : 0 ≤ (m16 a0 45) ∧ (m16 a0 45) ≤ 96 := zi_rd hIm16 hc0 zb_28_45
          have r28 : 0 ≤ (m16 a0 47) ∧ (m16 a0 47) ≤ 8 := zi_rd hIm16 hc0 zb_28_47
          have r29 : (-2147483648) ≤ (m16 a0 4) ∧ (m16 a0 4) ≤ 2147483647 := zi_rd hIm16 hc0 zb_28_4
          refine zw_ite (fun h30 => ?_) (fun h30 => ?_)
          · have hM : (7 * (700 - (m16 a0 7)) + (m16 a0 8)) * 1 + 0 < (k : Int) := by omega
            exact ih  m16 hIm16 hFm16 (by omega) (by omega) (by omega) (by omega) (by omega) (by omega) hRKNm16 hRNSm16 hRTRm16 hRWDm16 hM
          · refine zw_b (by omega) ?_
            exact zw_some ⟨hIm16, hFm16, hRKNm16, hRNSm16, hRTRm16, hRWDm16, ⟨by omega, by omega⟩, by omega, by omega, by omega, by omega⟩
        · refine zw_bd (zw_mono (zk_116 n hImh hc0 ⟨by omega, by omega⟩ (by omega) (by omega) (by omega) (by omega) hRKNmh hRNSmh hRTRmh hRWDmh) (fun v32 m31 hqm31 => ?_))
          obtain ⟨hIm31, hfm31, hvm31⟩ := hqm31
          have hFm31 := zfr_tr hFmh hfm31 rfl
          obtain ⟨hRKNm31, hRNSm31, hRTRm31, hRWDm31, hvm31⟩ := hvm31
          have g33 := zwt_bd hIm31 hc0
          have s34 := hRNSm31 a0 hc0
          have s35 := hRTRm31 a0 hc0
          have r36 : 0 ≤ (m31 a0 7) ∧ (m31 a0 7) ≤ 700 := zi_rd hIm31 hc0 zb_28_7
          have r37 : 0 ≤ (m31 a0 8) ∧ (m31 a0 8) ≤ 6 := zi_rd hIm31 hc0 zb_28_8
          have r38 : 0 ≤ (m31 a0 21) ∧ (m31 a0 21) ≤ 64 := zi_rd hIm31 hc0 zb_28_21
          have r39 : 0 ≤ (m31 a0 48) ∧ (m31 a0 48) ≤ 64 := zi_rd hIm31 hc0 zb_28_48
          have r40 : 0 ≤ (m31 a0 46) ∧ (m31 a0 46) ≤ 96 := zi_rd hIm31 hc0 zb_28_46
          have r41 : 0 ≤ (m31 a0 49) ∧ (m31 a0 49) ≤ 1 := zi_rd hIm31 hc0 zb_28_49
          have r42 : 0 ≤ (m31 a0 45) ∧ (m31 a0 45) ≤ 96 := zi_rd hIm31 hc0 zb_28_45
          have r43 : 0 ≤ (m31 a0 47) ∧ (m31 a0 47) ≤ 8 := zi_rd hIm31 hc0 zb_28_47
          have r44 : (-2147483648) ≤ (m31 a0 4) ∧ (m31 a0 4) ≤ 2147483647 := zi_rd hIm31 hc0 zb_28_4
          refine zw_ite (fun h45 => ?_) (fun h45 => ?_)
          · refine zw_b (by omega) ?_
            exact zw_some ⟨hIm31, hFm31, hRKNm31, hRNSm31, hRTRm31, hRWDm31, ⟨by omega, by omega⟩, by omega, by omega, by omega, by omega⟩
          · have hM : (7 * (700 - (m31 a0 7)) + (m31 a0 8)) * 1 + 0 < (k : Int) := by omega
            exact ih  m31 hIm31 hFm31 (by omega) (by omega) (by omega) (by omega) (by omega) (by omega) hRKNm31 hRNSm31 hRTRm31 hRWDm31 hM
      · exfalso; omega
    · have r46 : (-2147483648) ≤ (mh a0 9) ∧ (mh a0 9) ≤ 2147483647 := zi_rd hImh hc0 zb_28_9
      refine zw_ite (fun h47 => ?_) (fun h47 => ?_)
      · refine zw_b (by omega) ?_
        refine zw_some ?_
        refine zw_ite (fun h48 => ?_) (fun h48 => ?_)
        · refine zw_ite (fun h49 => ?_) (fun h49 => ?_)
          · refine zw_bd (zw_mono (zk_117 n hImh hc0 ⟨by omega, by omega⟩ (by omega) (by omega) (by omega) (by omega) (by omega) hRKNmh hRNSmh hRTRmh hRWDmh) (fun v51 m50 hqm50 => ?_))
            obtain ⟨hIm50, hfm50, hvm50⟩ := hqm50
            have hFm50 := zfr_tr hFmh hfm50 rfl
            obtain ⟨hRKNm50, hRNSm50, hRTRm50, hRWDm50, hvm50⟩ := hvm50
            have g52 := zwt_bd hIm50 hc0
            have s53 := hRNSm50 a0 hc0
            have s54 := hRTRm50 a0 hc0
            have r55 : 0 ≤ (m50 a0 7) ∧ (m50 a0 7) ≤ 700 := zi_rd hIm50 hc0 zb_28_7
            have r56 : 0 ≤ (m50 a0 8) ∧ (m50 a0 8) ≤ 6 := zi_rd hIm50 hc0 zb_28_8
            have r57 : 0 ≤ (m50 a0 21) ∧ (m50 a0 21) ≤ 64 := zi_rd hIm50 hc0 zb_28_21
            have r58 : 0 ≤ (m50 a0 48) ∧ (m50 a0 48) ≤ 64 := zi_rd hIm50 hc0 zb_28_48
            have r59 : 0 ≤ (m50 a0 46) ∧ (m50 a0 46) ≤ 96 := zi_rd hIm50 hc0 zb_28_46
            have r60 : 0 ≤ (m50 a0 49) ∧ (m50 a0 49) ≤ 1 := zi_rd hIm50 hc0 zb_28_49
            have r61 : 0 ≤ (m50 a0 45) ∧ (m50 a0 45) ≤ 96 := zi_rd hIm50 hc0 zb_28_45
            have r62 : 0 ≤ (m50 a0 47) ∧ (m50 a0 47) ≤ 8 := zi_rd hIm50 hc0 zb_28_47
            have r63 : (-2147483648) ≤ (m50 a0 4) ∧ (m50 a0 4) ≤ 2147483647 := zi_rd hIm50 hc0 zb_28_4
            refine zw_ite (fun h64 => ?_) (fun h64 => ?_)
            · have hM : (7 * (700 - (m50 a0 7)) + (m50 a0 8)) * 1 + 0 < (k : Int) := by omega
              exact ih  m50 hIm50 hFm50 (by omega) (by omega) (by omega) (by omega) (by omega) (by omega) hRKNm50 hRNSm50 hRTRm50 hRWDm50 hM
            · refine zw_b (by omega) ?_
              exact zw_some ⟨hIm50, hFm50, hRKNm50, hRNSm50, hRTRm50, hRWDm50, ⟨by omega, by omega⟩, by omega, by omega, by omega, by omega⟩
          · refine zw_bd (zw_mono (zk_116 n hImh hc0 ⟨by omega, by omega⟩ (by omega) (by omega) (by omega) (by omega) hRKNmh hRNSmh hRTRmh hRWDmh) (fun v66 m65 hqm65 => ?_))
            obtain ⟨hIm65, hfm65, hvm65⟩ := hqm65
            have hFm65 := zfr_tr hFmh hfm65 rfl
            obtain ⟨hRKNm65, hRNSm65, hRTRm65, hRWDm65, hvm65⟩ := hvm65
            have g67 := zwt_bd hIm65 hc0
            have s68 := hRNSm65 a0 hc0
            have s69 := hRTRm65 a0 hc0
            have r70 : 0 ≤ (m65 a0 7) ∧ (m65 a0 7) ≤ 700 := zi_rd hIm65 hc0 zb_28_7
            have r71 : 0 ≤ (m65 a0 8) ∧ (m65 a0 8) ≤ 6 := zi_rd hIm65 hc0 zb_28_8
            have r72 : 0 ≤ (m65 a0 21) ∧ (m65 a0 21) ≤ 64 := zi_rd hIm65 hc0 zb_28_21
            have r73 : 0 ≤ (m65 a0 48) ∧ (m65 a0 48) ≤ 64 := zi_rd hIm65 hc0 zb_28_48
            have r74 : 0 ≤ (m65 a0 46) ∧ (m65 a0 46) ≤ 96 := zi_rd hIm65 hc0 zb_28_46
            have r75 : 0 ≤ (m65 a0 49) ∧ (m65 a0 49) ≤ 1 := zi_rd hIm65 hc0 zb_28_49
            have r76 : 0 ≤ (m65 a0 45) ∧ (m65 a0 45) ≤ 96 := zi_rd hIm65 hc0 zb_28_45
            have r77 : 0 ≤ (m65 a0 47) ∧ (m65 a0 47) ≤ 8 := zi_rd hIm65 hc0 zb_28_47
            have r78 : (-2147483648) ≤ (m65 a0 4) ∧ (m65 a0 4) ≤ 2147483647 := zi_rd hIm65 hc0 zb_28_4
            refine zw_ite (fun h79 => ?_) (fun h79 => ?_)
            · refine zw_b (by omega) ?_
              exact zw_some ⟨hIm65, hFm65, hRKNm65, hRNSm65, hRTRm65, hRWDm65, ⟨by omega, by omega⟩, by omega, by omega, by omega, by omega⟩
            · have hM : (7 * (700 - (m65 a0 7)) + (m65 a0 8)) * 1 + 0 < (k : Int) := by omega
              exact ih  m65 hIm65 hFm65 (by omega) (by omega) (by omega) (by omega) (by omega) (by omega) hRKNm65 hRNSm65 hRTRm65 hRWDm65 hM
        · exfalso; omega
      · refine zw_b (by omega) ?_
        refine zw_some ?_
        refine zw_ite (fun h80 => ?_) (fun h80 => ?_)
        · exfalso; omega
        · refine zw_ite (fun h81 => ?_) (fun h81 => ?_)
          · refine zw_ite (fun h82 => ?_) (fun h82 => ?_)
            · exfalso; omega
            · refine zw_bd (zw_mono (zk_116 n hImh hc0 ⟨by omega, by omega⟩ (by omega) (by omega) (by omega) (by omega) hRKNmh hRNSmh hRTRmh hRWDmh) (fun v84 m83 hqm83 => ?_))
              obtain ⟨hIm83, hfm83, hvm83⟩ := hqm83
              have hFm83 := zfr_tr hFmh hfm83 rfl
              obtain ⟨hRKNm83, hRNSm83, hRTRm83, hRWDm83, hvm83⟩ := hvm83
              have g85 := zwt_bd hIm83 hc0
              have s86 := hRNSm83 a0 hc0
              have s87 := hRTRm83 a0 hc0
              have r88 : 0 ≤ (m83 a0 7) ∧ (m83 a0 7) ≤ 700 := zi_rd hIm83 hc0 zb_28_7
              have r89 : 0 ≤ (m83 a0 8) ∧ (m83 a0 8) ≤ 6 := zi_rd hIm83 hc0 zb_28_8
              have r90 : 0 ≤ (m83 a0 21) ∧ (m83 a0 21) ≤ 64 := zi_rd hIm83 hc0 zb_28_21
              have r91 : 0 ≤ (m83 a0 48) ∧ (m83 a0 48) ≤ 64 := zi_rd hIm83 hc0 zb_28_48
              have r92 : 0 ≤ (m83 a0 46) ∧ (m83 a0 46) ≤ 96 := zi_rd hIm83 hc0 zb_28_46
              have r93 : 0 ≤ (m83 a0 49) ∧ (m83 a0 49) ≤ 1 := zi_rd hIm83 hc0 zb_28_49
              have r94 : 0 ≤ (m83 a0 45) ∧ (m83 a0 45) ≤ 96 := zi_rd hIm83 hc0 zb_28_45
              have r95 : 0 ≤ (m83 a0 47) ∧ (m83 a0 47) ≤ 8 := zi_rd hIm83 hc0 zb_28_47
              have r96 : (-2147483648) ≤ (m83 a0 4) ∧ (m83 a0 4) ≤ 2147483647 := zi_rd hIm83 hc0 zb_28_4
              refine zw_ite (fun h97 => ?_) (fun h97 => ?_)
              · refine zw_b (by omega) ?_
                exact zw_some ⟨hIm83, hFm83, hRKNm83, hRNSm83, hRTRm83, hRWDm83, ⟨by omega, by omega⟩, by omega, by omega, by omega, by omega⟩
              · have hM : (7 * (700 - (m83 a0 7)) + (m83 a0 8)) * 1 + 0 < (k : Int) := by omega
                exact ih  m83 hIm83 hFm83 (by omega) (by omega) (by omega) (by omega) (by omega) (by omega) hRKNm83 hRNSm83 hRTRm83 hRWDm83 hM
          · refine zw_ite (fun h98 => ?_) (fun h98 => ?_)
            · refine zw_bd (zw_mono (zk_112 n hImh hc0 ⟨by omega, by omega⟩ (by omega) (by omega) (by omega) hRKNmh) (fun v100 m99 hqm99 => ?_))
              obtain ⟨hIm99, hfm99, hvm99⟩ := hqm99
              have hFm99 := zfr_tr hFmh hfm99 rfl
              obtain ⟨hRKNm99, hvm99⟩ := hvm99
              have hRNSm99 := zR_NS_fr (zdis_fr hfm99 rfl) hRNSmh
              have hRTRm99 := zR_TR_fr (zdis_fr hfm99 rfl) hRTRmh
              have hRWDm99 := zR_WD_fr (zdis_fr hfm99 rfl) hRWDmh
              have g101 := zwt_bd hIm99 hc0
              have s102 := hRNSm99 a0 hc0
              have s103 := hRTRm99 a0 hc0
              have r104 : 0 ≤ (m99 a0 21) ∧ (m99 a0 21) ≤ 64 := zi_rd hIm99 hc0 zb_28_21
              have r105 : 0 ≤ (m99 a0 46) ∧ (m99 a0 46) ≤ 96 := zi_rd hIm99 hc0 zb_28_46
              have r106 : 0 ≤ (m99 a0 45) ∧ (m99 a0 45) ≤ 96 := zi_rd hIm99 hc0 zb_28_45
              refine zw_b (by omega) ?_
              have g107 := zwt_top hIm99 hc0
              have r108 : 0 ≤ (m99 a0 7) ∧ (m99 a0 7) ≤ 700 := zi_rd hIm99 hc0 zb_28_7
              have e109 : (m99 a0 7) = (mh a0 7) := (zfr_ap hfm99 hc0 rfl)
              have r110 : 0 ≤ (m99 a0 48) ∧ (m99 a0 48) ≤ 64 := zi_rd hIm99 hc0 zb_28_48
              have e111 : (m99 a0 48) = (mh a0 48) := (zfr_ap hfm99 hc0 rfl)
              have r112 : (-2147483648) ≤ (m99 a0 4) ∧ (m99 a0 4) ≤ 2147483647 := zi_rd hIm99 hc0 zb_28_4
              have e113 : (m99 a0 4) = (mh a0 4) := (zfr_ap hfm99 hc0 rfl)
              exact zw_some ⟨hIm99, hFm99, hRKNm99, hRNSm99, hRTRm99, hRWDm99, ⟨by omega, by omega⟩, by omega, by omega, by omega, by omega⟩
            · refine zw_ite (fun h114 => ?_) (fun h114 => ?_)
              · refine zw_bd (zw_mono (zk_117 n hImh hc0 ⟨by omega, by omega⟩ (by omega) (by omega) (by omega) (by omega) (by omega) hRKNmh hRNSmh hRTRmh hRWDmh) (fun v116 m115 hqm115 => ?_))
                obtain ⟨hIm115, hfm115, hvm115⟩ := hqm115
                have hFm115 := zfr_tr hFmh hfm115 rfl
                obtain ⟨hRKNm115, hRNSm115, hRTRm115, hRWDm115, hvm115⟩ := hvm115
                have g117 := zwt_bd hIm115 hc0
                have s118 := hRNSm115 a0 hc0
                have s119 := hRTRm115 a0 hc0
                have r120 : 0 ≤ (m115 a0 7) ∧ (m115 a0 7) ≤ 700 := zi_rd hIm115 hc0 zb_28_7
                have r121 : 0 ≤ (m115 a0 8) ∧ (m115 a0 8) ≤ 6 := zi_rd hIm115 hc0 zb_28_8
                have r122 : 0 ≤ (m115 a0 21) ∧ (m115 a0 21) ≤ 64 := zi_rd hIm115 hc0 zb_28_21
                have r123 : 0 ≤ (m115 a0 48) ∧ (m115 a0 48) ≤ 64 := zi_rd hIm115 hc0 zb_28_48
                have r124 : 0 ≤ (m115 a0 46) ∧ (m115 a0 46) ≤ 96 := zi_rd hIm115 hc0 zb_28_46
                have r125 : 0 ≤ (m115 a0 49) ∧ (m115 a0 49) ≤ 1 := zi_rd hIm115 hc0 zb_28_49
                have r126 : 0 ≤ (m115 a0 45) ∧ (m115 a0 45) ≤ 96 := zi_rd hIm115 hc0 zb_28_45
                have r127 : 0 ≤ (m115 a0 47) ∧ (m115 a0 47) ≤ 8 := zi_rd hIm115 hc0 zb_28_47
                have r128 : (-2147483648) ≤ (m115 a0 4) ∧ (m115 a0 4) ≤ 2147483647 := zi_rd hIm115 hc0 zb_28_4
                refine zw_ite (fun h129 => ?_) (fun h129 => ?_)
                · have hM : (7 * (700 - (m115 a0 7)) + (m115 a0 8)) * 1 + 0 < (k : Int) := by omega
                  exact ih  m115 hIm115 hFm115 (by omega) (by omega) (by omega) (by omega) (by omega) (by omega) hRKNm115 hRNSm115 hRTRm115 hRWDm115 hM
                · refine zw_b (by omega) ?_
                  exact zw_some ⟨hIm115, hFm115, hRKNm115, hRNSm115, hRTRm115, hRWDm115, ⟨by omega, by omega⟩, by omega, by omega, by omega, by omega⟩
              · exfalso; omega
set_option maxHeartbeats 4000000 in
theorem zk_118 (n : Nat) {a0 : Int} {m0 : zu_m} (hIm0 : zi_I m0) (hc0 : zcls a0 = 28)    (hxp0 : (m0 a0 21) = (m0 a0 48)) (hRKNm0 : zR_KN m0) (hRNSm0 : zR_NS m0) (hRTRm0 : zR_TR m0) (hRWDm0 : zR_WD m0) : zw (zu_call (zt_T n) 118 [(40, a0)] m0) (fun v m => zi_I m ∧ zfr [(28, 5), (28, 6), (28, 8), (28, 9), (28, 10), (28, 11), (28, 22), (28, 46), (28, 47), (28, 48), (28, 49), (28, 50), (28, 51), (117, 0), (118, 0), (119, 0), (120, 0), (121, 0)] m0 m ∧ zR_KN m ∧ zR_NS m ∧ zR_TR m ∧ zR_WD m ∧ (0 ≤ v ∧ v ≤ 1) ∧ ((m0 a0 7) ≤ (m a0 7)) ∧ (v = 1 → ((m a0 21) = (m a0 48) ∧ 1 ≤ (m a0 21))) ∧ (v = 1 → (m a0 4) = (m0 a0 4)) ∧ (v = 0 → (m a0 4) ≠ 0)) := by
  have hFm0 : zfr [(28, 5), (28, 6), (28, 8), (28, 9), (28, 10), (28, 11), (28, 22), (28, 46), (28, 47), (28, 48), (28, 49), (28, 50), (28, 51), (117, 0), (118, 0), (119, 0), (120, 0), (121, 0)] m0 m0 := zfr_rf _ _
  have r130 : 0 ≤ (m0 a0 7) ∧ (m0 a0 7) ≤ 700 := zi_rd hIm0 hc0 zb_28_7
  have r131 : (-2147483648) ≤ (m0 a0 4) ∧ (m0 a0 4) ≤ 2147483647 := zi_rd hIm0 hc0 zb_28_4
  have r132 : 0 ≤ (m0 a0 21) ∧ (m0 a0 21) ≤ 64 := zi_rd hIm0 hc0 zb_28_21
  have r133 : 0 ≤ (m0 a0 48) ∧ (m0 a0 48) ≤ 64 := zi_rd hIm0 hc0 zb_28_48
  have g134 := zwt_bd hIm0 hc0
  have s135 := hRNSm0 a0 hc0
  have s136 := hRTRm0 a0 hc0
  refine zw_eq (zu_call_at (zt_T n) (zm_118 n) (zdp_118 n) _ _ _ _ _ rfl (zr_118_0 n _ _ a0 m0)) ?_
  generalize hmm137 : zu_up m0 a0 45 0 = m137
  have hIm137 := zi_up hmm137 hIm0 hc0 zb_28_45 (by omega) (by omega)
  have hFm137 := zfr_up hmm137 hFm0 hc0 rfl
  have hRKNm137 := zR_KN_fr (zdis_fr (zfr_up hmm137 (zfr_rf [(28, 46)] _) hc0 rfl) rfl) hRKNm0
  have hRNSm137 := zR_NS_fr (zdis_fr (zfr_up hmm137 (zfr_rf [(28, 46)] _) hc0 rfl) rfl) hRNSm0
  have hRTRm137 := zR_TR_fr (zdis_fr (zfr_up hmm137 (zfr_rf [(28, 46)] _) hc0 rfl) rfl) hRTRm0
  have hRWDm137 := zR_WD_fr (zdis_fr (zfr_up hmm137 (zfr_rf [(28, 46)] _) hc0 rfl) rfl) hRWDm0
  have g138 := zwt_zero hmm137 hc0
  generalize hmm139 : zu_up m137 a0 46 0 = m139
  have hIm139 := zi_up hmm139 hIm137 hc0 zb_28_46 (by omega) (by omega)
  have hFm139 := zfr_up hmm139 hFm137 hc0 rfl
  have g140 := zwt_fr (zdis_fr (zfr_up hmm139 (zfr_rf [(28, 47)] _) hc0 rfl) rfl)
  have hRKNm139 := zR_KN_fr (zdis_fr (zfr_up hmm139 (zfr_rf [(28, 47)] _) hc0 rfl) rfl) hRKNm137
  have hRNSm139 := zR_NS_fr (zdis_fr (zfr_up hmm139 (zfr_rf [(28, 47)] _) hc0 rfl) rfl) hRNSm137
  have hRTRm139 := zR_TR_fr (zdis_fr (zfr_up hmm139 (zfr_rf [(28, 47)] _) hc0 rfl) rfl) hRTRm137
  have hRWDm139 := zR_WD_fr (zdis_fr (zfr_up hmm139 (zfr_rf [(28, 47)] _) hc0 rfl) rfl) hRWDm137
  generalize hmm141 : zu_up m139 a0 47 0 = m141
  have hIm141 := zi_up hmm141 hIm139 hc0 zb_28_47 (by omega) (by omega)
  have hFm141 := zfr_up hmm141 hFm139 hc0 rfl
  have g142 := zwt_fr (zdis_fr (zfr_up hmm141 (zfr_rf [(28, 48)] _) hc0 rfl) rfl)
  have hRKNm141 := zR_KN_fr (zdis_fr (zfr_up hmm141 (zfr_rf [(28, 48)] _) hc0 rfl) rfl) hRKNm139
  have hRNSm141 := zR_NS_fr (zdis_fr (zfr_up hmm141 (zfr_rf [(28, 48)] _) hc0 rfl) rfl) hRNSm139
  have hRTRm141 := zR_TR_fr (zdis_fr (zfr_up hmm141 (zfr_rf [(28, 48)] _) hc0 rfl) rfl) hRTRm139
  have hRWDm141 := zR_WD_fr (zdis_fr (zfr_up hmm141 (zfr_rf [(28, 48)] _) hc0 rfl) rfl) hRWDm139
  refine zw_b (by omega) ?_
  generalize hmm143 : zu_up m141 a0 49 1 = m143
  have hIm143 := zi_up hmm143 hIm141 hc0 zb_28_49 (by omega) (by omega)
  have hFm143 := zfr_up hmm143 hFm141 hc0 rfl
  have g144 := zwt_fr (zdis_fr (zfr_up hmm143 (zfr_rf [(28, 50)] _) hc0 rfl) rfl)
  have hRKNm143 := zR_KN_fr (zdis_fr (zfr_up hmm143 (zfr_rf [(28, 50)] _) hc0 rfl) rfl) hRKNm141
  have hRNSm143 := zR_NS_fr (zdis_fr (zfr_up hmm143 (zfr_rf [(28, 50)] _) hc0 rfl) rfl) hRNSm141
  have hRTRm143 := zR_TR_fr (zdis_fr (zfr_up hmm143 (zfr_rf [(28, 50)] _) hc0 rfl) rfl) hRTRm141
  have hRWDm143 := zR_WD_fr (zdis_fr (zfr_up hmm143 (zfr_rf [(28, 50)] _) hc0 rfl) rfl) hRWDm141
  refine zw_b (by omega) ?_
  generalize hmm145 : zu_up m143 a0 50 1 = m145
  have hIm145 := zi_up hmm145 hIm143 hc0 zb_28_50 (by omega) (by omega)
  have hFm145 := zfr_up hmm145 hFm143 hc0 rfl
  have g146 := zwt_fr (zdis_fr (zfr_up hmm145 (zfr_rf [(28, 51)] _) hc0 rfl) rfl)
  have hRKNm145 := zR_KN_fr (zdis_fr (zfr_up hmm145 (zfr_rf [(28, 51)] _) hc0 rfl) rfl) hRKNm143
  have hRNSm145 := zR_NS_fr (zdis_fr (zfr_up hmm145 (zfr_rf [(28, 51)] _) hc0 rfl) rfl) hRNSm143
  have hRTRm145 := zR_TR_fr (zdis_fr (zfr_up hmm145 (zfr_rf [(28, 51)] _) hc0 rfl) rfl) hRTRm143
  have hRWDm145 := zR_WD_fr (zdis_fr (zfr_up hmm145 (zfr_rf [(28, 51)] _) hc0 rfl) rfl) hRWDm143
  have r147 : 0 ≤ (m145 a0 7) ∧ (m145 a0 7) ≤ 700 := zi_rd hIm145 hc0 zb_28_7
  have e148 : (m145 a0 7) = (m0 a0 7) := (Eq.trans (zs_ne hmm145 (Or.inr (by decide))) (Eq.trans (zs_ne hmm143 (Or.inr (by decide))) (Eq.trans (zs_ne hmm141 (Or.inr (by decide))) (Eq.trans (zs_ne hmm139 (Or.inr (by decide))) (zs_ne hmm137 (Or.inr (by decide)))))))
  have r149 : 0 ≤ (m145 a0 21) ∧ (m145 a0 21) ≤ 64 := zi_rd hIm145 hc0 zb_28_21
  have e150 : (m145 a0 21) = (m0 a0 21) := (Eq.trans (zs_ne hmm145 (Or.inr (by decide))) (Eq.trans (zs_ne hmm143 (Or.inr (by decide))) (Eq.trans (zs_ne hmm141 (Or.inr (by decide))) (Eq.trans (zs_ne hmm139 (Or.inr (by decide))) (zs_ne hmm137 (Or.inr (by decide)))))))
  have r151 : 0 ≤ (m145 a0 48) ∧ (m145 a0 48) ≤ 64 := zi_rd hIm145 hc0 zb_28_48
  have e152 : (m145 a0 48) = (m0 a0 48) := (Eq.trans (zs_ne hmm145 (Or.inr (by decide))) (Eq.trans (zs_ne hmm143 (Or.inr (by decide))) (Eq.trans (zs_ne hmm141 (Or.inr (by decide))) (Eq.trans (zs_ne hmm139 (Or.inr (by decide))) (zs_ne hmm137 (Or.inr (by decide)))))))
  have r153 : 0 ≤ (m145 a0 46) ∧ (m145 a0 46) ≤ 96 := zi_rd hIm145 hc0 zb_28_46
  have e154 : (m145 a0 46) = 0 := (Eq.trans (zs_ne hmm145 (Or.inr (by decide))) (Eq.trans (zs_ne hmm143 (Or.inr (by decide))) (Eq.trans (zs_ne hmm141 (Or.inr (by decide))) (zs_eq hmm139))))
  have r155 : 0 ≤ (m145 a0 49) ∧ (m145 a0 49) ≤ 1 := zi_rd hIm145 hc0 zb_28_49
  have e156 : (m145 a0 49) = 1 := (Eq.trans (zs_ne hmm145 (Or.inr (by decide))) (zs_eq hmm143))
  have r157 : 0 ≤ (m145 a0 45) ∧ (m145 a0 45) ≤ 96 := zi_rd hIm145 hc0 zb_28_45
  have e158 : (m145 a0 45) = 0 := (Eq.trans (zs_ne hmm145 (Or.inr (by decide))) (Eq.trans (zs_ne hmm143 (Or.inr (by decide))) (Eq.trans (zs_ne hmm141 (Or.inr (by decide))) (Eq.trans (zs_ne hmm139 (Or.inr (by decide))) (zs_eq hmm137)))))
  have r159 : 0 ≤ (m145 a0 47) ∧ (m145 a0 47) ≤ 8 := zi_rd hIm145 hc0 zb_28_47
  have e160 : (m145 a0 47) = 0 := (Eq.trans (zs_ne hmm145 (Or.inr (by decide))) (Eq.trans (zs_ne hmm143 (Or.inr (by decide))) (zs_eq hmm141)))
  have r161 : (-2147483648) ≤ (m145 a0 4) ∧ (m145 a0 4) ≤ 2147483647 := zi_rd hIm145 hc0 zb_28_4
  have e162 : (m145 a0 4) = (m0 a0 4) := (Eq.trans (zs_ne hmm145 (Or.inr (by decide))) (Eq.trans (zs_ne hmm143 (Or.inr (by decide))) (Eq.trans (zs_ne hmm141 (Or.inr (by decide))) (Eq.trans (zs_ne hmm139 (Or.inr (by decide))) (zs_ne hmm137 (Or.inr (by decide)))))))
  have r163 : 0 ≤ (m145 a0 8) ∧ (m145 a0 8) ≤ 6 := zi_rd hIm145 hc0 zb_28_8
  have hM : (7 * (700 - (m145 a0 7)) + (m145 a0 8)) * 1 + 0 < ((4907 : Nat) : Int) := by omega
  exact (zl_118 n (m0 := m0) hc0 hxp0 4907)  m145 hIm145 hFm145 (by omega) (by omega) (by omega) (by omega) (by omega) (by omega) hRKNm145 hRNSm145 hRTRm145 hRWDm145 hM

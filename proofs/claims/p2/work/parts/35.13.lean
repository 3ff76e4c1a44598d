set_option maxHeartbeats 4000000 in
theorem zk_104 (n : Nat) {a0 : Int} {m0 : zu_m} (hIm0 : zi_I m0) (hc0 : zcls a0 = 28)   (he0 : 6 ≤ m0 a0 9 ∧ m0 a0 9 ≤ 10)  (hRLRm0 : zR_LR m0) (hRNSm0 : zR_NS m0) (hRTRm0 : zR_TR m0) (hRWDm0 : zR_WD m0) : zw (zu_call (zt_T n) 104 [(40, a0)] m0) (fun v m => zi_I m ∧ zfr [(28, 5), (28, 6), (28, 8), (28, 9), (28, 10), (28, 11), (28, 12), (102, 0), (103, 0)] m0 m ∧ zR_LR m ∧ zR_NS m ∧ zR_TR m ∧ zR_WD m ∧ (0 ≤ v ∧ v ≤ 1) ∧ ((m0 a0 7) ≤ (m a0 7)) ∧ (v = 1 → ((m a0 8) = 0 ∨ (m0 a0 7) < (m a0 7))) ∧ (v = 1 → (m a0 4) = (m0 a0 4))) := by
  have hFm0 : zfr [(28, 5), (28, 6), (28, 8), (28, 9), (28, 10), (28, 11), (28, 12), (102, 0), (103, 0)] m0 m0 := zfr_rf _ _
  have r1 : 0 ≤ (m0 a0 7) ∧ (m0 a0 7) ≤ 700 := zi_rd hIm0 hc0 zb_28_7
  have r2 : (-2147483648) ≤ (m0 a0 4) ∧ (m0 a0 4) ≤ 2147483647 := zi_rd hIm0 hc0 zb_28_4
  have s3 := hRNSm0 a0 hc0
  have s4 := hRTRm0 a0 hc0
  refine zw_eq (zu_call_at (zt_T n) (zm_104 n) (zdp_104 n) _ _ _ _ _ rfl (zr_104_0 n _ _ a0 m0)) ?_
  refine zw_ite (fun h5 => ?_) (fun h5 => ?_)
  · refine zw_bd (zw_eq (zu_call_at (zt_T n) (zm_98 n) (zdp_98 n) _ _ _ _ _ rfl (zr_98_0 n _ _ a0 1 m0)) ?_)
    have b6 : 0 ≤ (1 : Int) ∧ (1 : Int) < 6 := by omega
    refine zw_if b6 ?_
    have r7 : 0 ≤ (m0 193 1) ∧ (m0 193 1) ≤ 1 := zi_rd hIm0 zq_193 (zb_102 _)
    refine zw_ite (fun h8 => ?_) (fun h8 => ?_)
    · refine zw_b (by omega) ?_
      have b9 : 0 ≤ (1 : Int) ∧ (1 : Int) < 6 := by omega
      refine zw_if b9 ?_
      generalize hmm10 : zu_up m0 193 1 1 = m10
      have hIm10 := zi_up hmm10 hIm0 zq_193 (zb_102 _) (by omega) (by omega)
      have hFm10 := zfr_up hmm10 hFm0 zq_193 rfl
      have hRLRm10 := zR_LR_fr (zdis_fr (zfr_up hmm10 (zfr_rf [(102, 0)] _) zq_193 rfl) rfl) hRLRm0
      have hRNSm10 := zR_NS_fr (zdis_fr (zfr_up hmm10 (zfr_rf [(102, 0)] _) zq_193 rfl) rfl) hRNSm0
      have hRTRm10 := zR_TR_fr (zdis_fr (zfr_up hmm10 (zfr_rf [(102, 0)] _) zq_193 rfl) rfl) hRTRm0
      have hRWDm10 := zR_WD_fr (zdis_fr (zfr_up hmm10 (zfr_rf [(102, 0)] _) zq_193 rfl) rfl) hRWDm0
      refine zw_bd (zw_mono (zk_89 n hIm10 hc0 hRNSm10 hRWDm10) (fun v12 m11 hqm11 => ?_))
      obtain ⟨hIm11, hfm11, hvm11⟩ := hqm11
      have hFm11 := zfr_tr hFm10 hfm11 rfl
      obtain ⟨hRNSm11, hRTRm11, hRWDm11, hvm11⟩ := hvm11
      have hRLRm11 := zR_LR_fr (zdis_fr hfm11 rfl) hRLRm10
      have s13 := hRNSm11 a0 hc0
      have s14 := hRTRm11 a0 hc0
      refine zw_b (by omega) ?_
      refine zw_some ?_
      refine zw_ite (fun h15 => ?_) (fun h15 => ?_)
      · exfalso; omega
      · refine zw_bd (zw_eq (zu_call_at (zt_T n) (zm_97 n) (zdp_97 n) _ _ _ _ _ rfl (zr_97_0 n _ _ a0 16 18 m11)) ?_)
        have r16 : 0 ≤ (m11 a0 8) ∧ (m11 a0 8) ≤ 6 := zi_rd hIm11 hc0 zb_28_8
        refine zw_ite (fun h17 => ?_) (fun h17 => ?_)
        · refine zw_bd (zw_eq (zu_call_at (zt_T n) (zm_85 n) (zdp_85 n) _ _ _ _ _ rfl (zr_85_0 n _ _ a0 1 m11)) ?_)
          generalize hmm18 : zu_up m11 a0 4 1 = m18
          have hIm18 := zi_up hmm18 hIm11 hc0 zb_28_4 (by omega) (by omega)
          have hFm18 := zfr_up hmm18 hFm11 hc0 rfl
          have hRNSm18 := zR_NS_fr (zdis_fr (zfr_up hmm18 (zfr_rf [(28, 5)] _) hc0 rfl) rfl) hRNSm11
          have hRTRm18 := zR_TR_fr (zdis_fr (zfr_up hmm18 (zfr_rf [(28, 5)] _) hc0 rfl) rfl) hRTRm11
          have hRWDm18 := zR_WD_fr (zdis_fr (zfr_up hmm18 (zfr_rf [(28, 5)] _) hc0 rfl) rfl) hRWDm11
          have hRLRm18 := zLR_wr (zone_190 hc0) hmm18 (by decide)
          have r19 : 0 ≤ (m18 a0 10) ∧ (m18 a0 10) ≤ 700 := zi_rd hIm18 hc0 zb_28_10
          generalize hmm20 : zu_up m18 a0 5 (m18 a0 10) = m20
          have hIm20 := zi_up hmm20 hIm18 hc0 zb_28_5 (by omega) (by omega)
          have hFm20 := zfr_up hmm20 hFm18 hc0 rfl
          have hRLRm20 := zR_LR_fr (zdis_fr (zfr_up hmm20 (zfr_rf [(28, 6)] _) hc0 rfl) rfl) hRLRm18
          have hRNSm20 := zR_NS_fr (zdis_fr (zfr_up hmm20 (zfr_rf [(28, 6)] _) hc0 rfl) rfl) hRNSm18
          have hRTRm20 := zR_TR_fr (zdis_fr (zfr_up hmm20 (zfr_rf [(28, 6)] _) hc0 rfl) rfl) hRTRm18
          have hRWDm20 := zR_WD_fr (zdis_fr (zfr_up hmm20 (zfr_rf [(28, 6)] _) hc0 rfl) rfl) hRWDm18
          refine zw_b (by omega) ?_
          refine zw_some ?_
          refine zw_b (by omega) ?_
          refine zw_some ?_
          refine zw_ite (fun h21 => ?_) (fun h21 => ?_)
          · exfalso; omega
          · refine zw_b (by omega) ?_
            have r22 : 0 ≤ (m20 a0 7) ∧ (m20 a0 7) ≤ 700 := zi_rd hIm20 hc0 zb_28_7
            have r23 : 0 ≤ (m20 a0 8) ∧ (m20 a0 8) ≤ 6 := zi_rd hIm20 hc0 zb_28_8
            have e24 : (m20 a0 8) = (m11 a0 8) := (Eq.trans (zs_ne hmm20 (Or.inr (by decide))) (zs_ne hmm18 (Or.inr (by decide))))
            have r25 : (-2147483648) ≤ (m20 a0 4) ∧ (m20 a0 4) ≤ 2147483647 := zi_rd hIm20 hc0 zb_28_4
            have e26 : (m20 a0 4) = 1 := (Eq.trans (zs_ne hmm20 (Or.inr (by decide))) (zs_eq hmm18))
            exact zw_some ⟨hIm20, hFm20, hRLRm20, hRNSm20, hRTRm20, hRWDm20, ⟨by omega, by omega⟩, by omega, by omega, by omega⟩
        · refine zw_ite (fun h27 => ?_) (fun h27 => ?_)
          · refine zw_bd (zw_eq (zu_call_at (zt_T n) (zm_85 n) (zdp_85 n) _ _ _ _ _ rfl (zr_85_0 n _ _ a0 1 m11)) ?_)
            generalize hmm28 : zu_up m11 a0 4 1 = m28
            have hIm28 := zi_up hmm28 hIm11 hc0 zb_28_4 (by omega) (by omega)
            have hFm28 := zfr_up hmm28 hFm11 hc0 rfl
            have hRNSm28 := zR_NS_fr (zdis_fr (zfr_up hmm28 (zfr_rf [(28, 5)] _) hc0 rfl) rfl) hRNSm11
            have hRTRm28 := zR_TR_fr (zdis_fr (zfr_up hmm28 (zfr_rf [(28, 5)] _) hc0 rfl) rfl) hRTRm11
            have hRWDm28 := zR_WD_fr (zdis_fr (zfr_up hmm28 (zfr_rf [(28, 5)] _) hc0 rfl) rfl) hRWDm11
            have hRLRm28 := zLR_wr (zone_190 hc0) hmm28 (by decide)
            have r29 : 0 ≤ (m28 a0 10) ∧ (m28 a0 10) ≤ 700 := zi_rd hIm28 hc0 zb_28_10
            generalize hmm30 : zu_up m28 a0 5 (m28 a0 10) = m30
            have hIm30 := zi_up hmm30 hIm28 hc0 zb_28_5 (by omega) (by omega)
            have hFm30 := zfr_up hmm30 hFm28 hc0 rfl
            have hRLRm30 := zR_LR_fr (zdis_fr (zfr_up hmm30 (zfr_rf [(28, 6)] _) hc0 rfl) rfl) hRLRm28
            have hRNSm30 := zR_NS_fr (zdis_fr (zfr_up hmm30 (zfr_rf [(28, 6)] _) hc0 rfl) rfl) hRNSm28
            have hRTRm30 := zR_TR_fr (zdis_fr (zfr_up hmm30 (zfr_rf [(28, 6)] _) hc0 rfl) rfl) hRTRm28
            have hRWDm30 := zR_WD_fr (zdis_fr (zfr_up hmm30 (zfr_rf [(28, 6)] _) hc0 rfl) rfl) hRWDm28
            refine zw_b (by omega) ?_
            refine zw_some ?_
            refine zw_b (by omega) ?_
            refine zw_some ?_
            refine zw_ite (fun h31 => ?_) (fun h31 => ?_)
            · exfalso; omega
            · refine zw_b (by omega) ?_
              have r32 : 0 ≤ (m30 a0 7) ∧ (m30 a0 7) ≤ 700 := zi_rd hIm30 hc0 zb_28_7
              have r33 : 0 ≤ (m30 a0 8) ∧ (m30 a0 8) ≤ 6 := zi_rd hIm30 hc0 zb_28_8
              have e34 : (m30 a0 8) = (m11 a0 8) := (Eq.trans (zs_ne hmm30 (Or.inr (by decide))) (zs_ne hmm28 (Or.inr (by decide))))
              have r35 : (-2147483648) ≤ (m30 a0 4) ∧ (m30 a0 4) ≤ 2147483647 := zi_rd hIm30 hc0 zb_28_4
              have e36 : (m30 a0 4) = 1 := (Eq.trans (zs_ne hmm30 (Or.inr (by decide))) (zs_eq hmm28))
              exact zw_some ⟨hIm30, hFm30, hRLRm30, hRNSm30, hRTRm30, hRWDm30, ⟨by omega, by omega⟩, by omega, by omega, by omega⟩
          · refine zw_ite (fun h37 => ?_) (fun h37 => ?_)
            · have w38 := zu_w32_id (z := (m11 a0 9) - 16) (by omega) (by omega)
              refine zw_bd (zw_mono (zk_89 n hIm11 hc0 hRNSm11 hRWDm11) (fun v40 m39 hqm39 => ?_))
              obtain ⟨hIm39, hfm39, hvm39⟩ := hqm39
              have hFm39 := zfr_tr hFm11 hfm39 rfl
              obtain ⟨hRNSm39, hRTRm39, hRWDm39, hvm39⟩ := hvm39
              have hRLRm39 := zR_LR_fr (zdis_fr hfm39 rfl) hRLRm11
              have s41 := hRNSm39 a0 hc0
              have s42 := hRTRm39 a0 hc0
              generalize hmm43 : zu_up m39 a0 11 (zu_w32 ((m11 a0 9) - 16)) = m43
              have hIm43 := zi_up hmm43 hIm39 hc0 zb_28_11 (by omega) (by omega)
              have hFm43 := zfr_up hmm43 hFm39 hc0 rfl
              have hRLRm43 := zR_LR_fr (zdis_fr (zfr_up hmm43 (zfr_rf [(28, 12)] _) hc0 rfl) rfl) hRLRm39
              have hRNSm43 := zR_NS_fr (zdis_fr (zfr_up hmm43 (zfr_rf [(28, 12)] _) hc0 rfl) rfl) hRNSm39
              have hRTRm43 := zR_TR_fr (zdis_fr (zfr_up hmm43 (zfr_rf [(28, 12)] _) hc0 rfl) rfl) hRTRm39
              have hRWDm43 := zR_WD_fr (zdis_fr (zfr_up hmm43 (zfr_rf [(28, 12)] _) hc0 rfl) rfl) hRWDm39
              refine zw_b (by omega) ?_
              refine zw_some ?_
              refine zw_ite (fun h44 => ?_) (fun h44 => ?_)
              · have r45 : (-2147483648) ≤ (m43 a0 11) ∧ (m43 a0 11) ≤ 2147483647 := zi_rd hIm43 hc0 zb_28_11
                have e46 : (m43 a0 11) = (zu_w32 ((m11 a0 9) - 16)) := (zs_eq hmm43)
                have b47 : 0 ≤ (5 : Int) ∧ (5 : Int) < 10 := by omega
                refine zw_if b47 ?_
                generalize hmm48 : zu_up m43 194 5 (m43 a0 11) = m48
                have hIm48 := zi_up hmm48 hIm43 zq_194 (zb_103 _) (by omega) (by omega)
                have hFm48 := zfr_up hmm48 hFm43 zq_194 rfl
                have hRLRm48 := zR_LR_fr (zdis_fr (zfr_up hmm48 (zfr_rf [(103, 0)] _) zq_194 rfl) rfl) hRLRm43
                have hRNSm48 := zR_NS_fr (zdis_fr (zfr_up hmm48 (zfr_rf [(103, 0)] _) zq_194 rfl) rfl) hRNSm43
                have hRTRm48 := zR_TR_fr (zdis_fr (zfr_up hmm48 (zfr_rf [(103, 0)] _) zq_194 rfl) rfl) hRTRm43
                have hRWDm48 := zR_WD_fr (zdis_fr (zfr_up hmm48 (zfr_rf [(103, 0)] _) zq_194 rfl) rfl) hRWDm43
                refine zw_b (by omega) ?_
                have r49 : 0 ≤ (m48 a0 7) ∧ (m48 a0 7) ≤ 700 := zi_rd hIm48 hc0 zb_28_7
                have r50 : 0 ≤ (m48 a0 8) ∧ (m48 a0 8) ≤ 6 := zi_rd hIm48 hc0 zb_28_8
                have r51 : (-2147483648) ≤ (m48 a0 4) ∧ (m48 a0 4) ≤ 2147483647 := zi_rd hIm48 hc0 zb_28_4
                have e52 : (m48 a0 4) = (m0 a0 4) := (Eq.trans (zs_ne hmm48 (Or.inl (zc_ne hc0 zq_194 (by decide)))) (Eq.trans (zs_ne hmm43 (Or.inr (by decide))) (Eq.trans (zfr_ap hfm39 hc0 rfl) (Eq.trans (zfr_ap hfm11 hc0 rfl) (zs_ne hmm10 (Or.inl (zc_ne hc0 zq_193 (by decide))))))))
                exact zw_some ⟨hIm48, hFm48, hRLRm48, hRNSm48, hRTRm48, hRWDm48, ⟨by omega, by omega⟩, by omega, by omega, by omega⟩
              · exfalso; omega
            · refine zw_bd (zw_eq (zu_call_at (zt_T n) (zm_85 n) (zdp_85 n) _ _ _ _ _ rfl (zr_85_0 n _ _ a0 1 m11)) ?_)
              generalize hmm53 : zu_up m11 a0 4 1 = m53
              have hIm53 := zi_up hmm53 hIm11 hc0 zb_28_4 (by omega) (by omega)
              have hFm53 := zfr_up hmm53 hFm11 hc0 rfl
              have hRNSm53 := zR_NS_fr (zdis_fr (zfr_up hmm53 (zfr_rf [(28, 5)] _) hc0 rfl) rfl) hRNSm11
              have hRTRm53 := zR_TR_fr (zdis_fr (zfr_up hmm53 (zfr_rf [(28, 5)] _) hc0 rfl) rfl) hRTRm11
              have hRWDm53 := zR_WD_fr (zdis_fr (zfr_up hmm53 (zfr_rf [(28, 5)] _) hc0 rfl) rfl) hRWDm11
              have hRLRm53 := zLR_wr (zone_190 hc0) hmm53 (by decide)
              have r54 : 0 ≤ (m53 a0 10) ∧ (m53 a0 10) ≤ 700 := zi_rd hIm53 hc0 zb_28_10
              generalize hmm55 : zu_up m53 a0 5 (m53 a0 10) = m55
              have hIm55 := zi_up hmm55 hIm53 hc0 zb_28_5 (by omega) (by omega)
              have hFm55 := zfr_up hmm55 hFm53 hc0 rfl
              have hRLRm55 := zR_LR_fr (zdis_fr (zfr_up hmm55 (zfr_rf [(28, 6)] _) hc0 rfl) rfl) hRLRm53
              have hRNSm55 := zR_NS_fr (zdis_fr (zfr_up hmm55 (zfr_rf [(28, 6)] _) hc0 rfl) rfl) hRNSm53
              have hRTRm55 := zR_TR_fr (zdis_fr (zfr_up hmm55 (zfr_rf [(28, 6)] _) hc0 rfl) rfl) hRTRm53
              have hRWDm55 := zR_WD_fr (zdis_fr (zfr_up hmm55 (zfr_rf [(28, 6)] _) hc0 rfl) rfl) hRWDm53
              refine zw_b (by omega) ?_
              refine zw_some ?_
              refine zw_b (by omega) ?_
              refine zw_some ?_
              refine zw_ite (fun h56 => ?_) (fun h56 => ?_)
              · exfalso; omega
              · refine zw_b (by omega) ?_
                have r57 : 0 ≤ (m55 a0 7) ∧ (m55 a0 7) ≤ 700 := zi_rd hIm55 hc0 zb_28_7
                have r58 : 0 ≤ (m55 a0 8) ∧ (m55 a0 8) ≤ 6 := zi_rd hIm55 hc0 zb_28_8
                have e59 : (m55 a0 8) = (m11 a0 8) := (Eq.trans (zs_ne hmm55 (Or.inr (by decide))) (zs_ne hmm53 (Or.inr (by decide))))
                have r60 : (-2147483648) ≤ (m55 a0 4) ∧ (m55 a0 4) ≤ 2147483647 := zi_rd hIm55 hc0 zb_28_4
                have e61 : (m55 a0 4) = 1 := (Eq.trans (zs_ne hmm55 (Or.inr (by decide))) (zs_eq hmm53))
                exact zw_some ⟨hIm55, hFm55, hRLRm55, hRNSm55, hRTRm55, hRWDm55, ⟨by omega, by omega⟩, by omega, by omega, by omega⟩
    · refine zw_bd (zw_eq (zu_call_at (zt_T n) (zm_85 n) (zdp_85 n) _ _ _ _ _ rfl (zr_85_0 n _ _ a0 3 m0)) ?_)
      generalize hmm62 : zu_up m0 a0 4 3 = m62
      have hIm62 := zi_up hmm62 hIm0 hc0 zb_28_4 (by omega) (by omega)
      have hFm62 := zfr_up hmm62 hFm0 hc0 rfl
      have hRNSm62 := zR_NS_fr (zdis_fr (zfr_up hmm62 (zfr_rf [(28, 5)] _) hc0 rfl) rfl) hRNSm0
      have hRTRm62 := zR_TR_fr (zdis_fr (zfr_up hmm62 (zfr_rf [(28, 5)] _) hc0 rfl) rfl) hRTRm0
      have hRWDm62 := zR_WD_fr (zdis_fr (zfr_up hmm62 (zfr_rf [(28, 5)] _) hc0 rfl) rfl) hRWDm0
      have hRLRm62 := zLR_wr (zone_190 hc0) hmm62 (by decide)
      have r63 : 0 ≤ (m62 a0 10) ∧ (m62 a0 10) ≤ 700 := zi_rd hIm62 hc0 zb_28_10
      generalize hmm64 : zu_up m62 a0 5 (m62 a0 10) = m64
      have hIm64 := zi_up hmm64 hIm62 hc0 zb_28_5 (by omega) (by omega)
      have hFm64 := zfr_up hmm64 hFm62 hc0 rfl
      have hRLRm64 := zR_LR_fr (zdis_fr (zfr_up hmm64 (zfr_rf [(28, 6)] _) hc0 rfl) rfl) hRLRm62
      have hRNSm64 := zR_NS_fr (zdis_fr (zfr_up hmm64 (zfr_rf [(28, 6)] _) hc0 rfl) rfl) hRNSm62
      have hRTRm64 := zR_TR_fr (zdis_fr (zfr_up hmm64 (zfr_rf [(28, 6)] _) hc0 rfl) rfl) hRTRm62
      have hRWDm64 := zR_WD_fr (zdis_fr (zfr_up hmm64 (zfr_rf [(28, 6)] _) hc0 rfl) rfl) hRWDm62
      refine zw_b (by omega) ?_
      refine zw_some ?_
      refine zw_b (by omega) ?_
      refine zw_some ?_
      refine zw_ite (fun h65 => ?_) (fun h65 => ?_)
      · refine zw_b (by omega) ?_
        have r66 : 0 ≤ (m64 a0 7) ∧ (m64 a0 7) ≤ 700 := zi_rd hIm64 hc0 zb_28_7
        have e67 : (m64 a0 7) = (m0 a0 7) := (Eq.trans (zs_ne hmm64 (Or.inr (by decide))) (zs_ne hmm62 (Or.inr (by decide))))
        have r68 : 0 ≤ (m64 a0 8) ∧ (m64 a0 8) ≤ 6 := zi_rd hIm64 hc0 zb_28_8
        have r69 : (-2147483648) ≤ (m64 a0 4) ∧ (m64 a0 4) ≤ 2147483647 := zi_rd hIm64 hc0 zb_28_4
        have e70 : (m64 a0 4) = 3 := (Eq.trans (zs_ne hmm64 (Or.inr (by decide))) (zs_eq hmm62))
        exact zw_some ⟨hIm64, hFm64, hRLRm64, hRNSm64, hRTRm64, hRWDm64, ⟨by omega, by omega⟩, by omega, by omega, by omega⟩
      · exfalso; omega
  · refine zw_ite (fun h71 => ?_) (fun h71 => ?_)
    · refine zw_bd (zw_eq (zu_call_at (zt_T n) (zm_98 n) (zdp_98 n) _ _ _ _ _ rfl (zr_98_0 n _ _ a0 2 m0)) ?_)
      have b72 : 0 ≤ (2 : Int) ∧ (2 : Int) < 6 := by omega
      refine zw_if b72 ?_
      have r73 : 0 ≤ (m0 193 2) ∧ (m0 193 2) ≤ 1 := zi_rd hIm0 zq_193 (zb_102 _)
      refine zw_ite (fun h74 => ?_) (fun h74 => ?_)
      · refine zw_b (by omega) ?_
        have b75 : 0 ≤ (2 : Int) ∧ (2 : Int) < 6 := by omega
        refine zw_if b75 ?_
        generalize hmm76 : zu_up m0 193 2 1 = m76
        have hIm76 := zi_up hmm76 hIm0 zq_193 (zb_102 _) (by omega) (by omega)
        have hFm76 := zfr_up hmm76 hFm0 zq_193 rfl
        have hRLRm76 := zR_LR_fr (zdis_fr (zfr_up hmm76 (zfr_rf [(102, 0)] _) zq_193 rfl) rfl) hRLRm0
        have hRNSm76 := zR_NS_fr (zdis_fr (zfr_up hmm76 (zfr_rf [(102, 0)] _) zq_193 rfl) rfl) hRNSm0
        have hRTRm76 := zR_TR_fr (zdis_fr (zfr_up hmm76 (zfr_rf [(102, 0)] _) zq_193 rfl) rfl) hRTRm0
        have hRWDm76 := zR_WD_fr (zdis_fr (zfr_up hmm76 (zfr_rf [(102, 0)] _) zq_193 rfl) rfl) hRWDm0
        refine zw_bd (zw_mono (zk_89 n hIm76 hc0 hRNSm76 hRWDm76) (fun v78 m77 hqm77 => ?_))
        obtain ⟨hIm77, hfm77, hvm77⟩ := hqm77
        have hFm77 := zfr_tr hFm76 hfm77 rfl
        obtain ⟨hRNSm77, hRTRm77, hRWDm77, hvm77⟩ := hvm77
        have hRLRm77 := zR_LR_fr (zdis_fr hfm77 rfl) hRLRm76
        have s79 := hRNSm77 a0 hc0
        have s80 := hRTRm77 a0 hc0
        refine zw_b (by omega) ?_
        refine zw_some ?_
        refine zw_ite (fun h81 => ?_) (fun h81 => ?_)
        · exfalso; omega
        · refine zw_bd (zw_eq (zu_call_at (zt_T n) (zm_94 n) (zdp_94 n) _ _ _ _ _ rfl (zr_94_0 n _ _ a0 0 6 m77)) ?_)
          have r82 : 0 ≤ (m77 a0 8) ∧ (m77 a0 8) ≤ 6 := zi_rd hIm77 hc0 zb_28_8
          refine zw_ite (fun h83 => ?_) (fun h83 => ?_)
          · refine zw_bd (zw_eq (zu_call_at (zt_T n) (zm_83 n) (zdp_83 n) _ _ _ _ _ rfl (zr_83_0 n _ _ (m77 a0 9) 0 6 m77)) ?_)
            refine zw_ite (fun h84 => ?_) (fun h84 => ?_)
            · exfalso; omega
            · refine zw_ite (fun h85 => ?_) (fun h85 => ?_)
              · refine zw_b (by omega) ?_
                refine zw_some ?_
                refine zw_ite (fun h86 => ?_) (fun h86 => ?_)
                · exfalso; omega
                · refine zw_bd (zw_eq (zu_call_at (zt_T n) (zm_85 n) (zdp_85 n) _ _ _ _ _ rfl (zr_85_0 n _ _ a0 2 m77)) ?_)
                  generalize hmm87 : zu_up m77 a0 4 2 = m87
                  have hIm87 := zi_up hmm87 hIm77 hc0 zb_28_4 (by omega) (by omega)
                  have hFm87 := zfr_up hmm87 hFm77 hc0 rfl
                  have hRNSm87 := zR_NS_fr (zdis_fr (zfr_up hmm87 (zfr_rf [(28, 5)] _) hc0 rfl) rfl) hRNSm77
                  have hRTRm87 := zR_TR_fr (zdis_fr (zfr_up hmm87 (zfr_rf [(28, 5)] _) hc0 rfl) rfl) hRTRm77
                  have hRWDm87 := zR_WD_fr (zdis_fr (zfr_up hmm87 (zfr_rf [(28, 5)] _) hc0 rfl) rfl) hRWDm77
                  have hRLRm87 := zLR_wr (zone_190 hc0) hmm87 (by decide)
                  have r88 : 0 ≤ (m87 a0 10) ∧ (m87 a0 10) ≤ 700 := zi_rd hIm87 hc0 zb_28_10
                  generalize hmm89 : zu_up m87 a0 5 (m87 a0 10) = m89
                  have hIm89 := zi_up hmm89 hIm87 hc0 zb_28_5 (by omega) (by omega)
                  have hFm89 := zfr_up hmm89 hFm87 hc0 rfl
                  have hRLRm89 := zR_LR_fr (zdis_fr (zfr_up hmm89 (zfr_rf [(28, 6)] _) hc0 rfl) rfl) hRLRm87
                  have hRNSm89 := zR_NS_fr (zdis_fr (zfr_up hmm89 (zfr_rf [(28, 6)] _) hc0 rfl) rfl) hRNSm87
                  have hRTRm89 := zR_TR_fr (zdis_fr (zfr_up hmm89 (zfr_rf [(28, 6)] _) hc0 rfl) rfl) hRTRm87
                  have hRWDm89 := zR_WD_fr (zdis_fr (zfr_up hmm89 (zfr_rf [(28, 6)] _) hc0 rfl) rfl) hRWDm87
                  refine zw_b (by omega) ?_
                  refine zw_some ?_
                  refine zw_b (by omega) ?_
                  refine zw_some ?_
                  refine zw_ite (fun h90 => ?_) (fun h90 => ?_)
                  · exfalso; omega
                  · refine zw_b (by omega) ?_
                    have r91 : 0 ≤ (m89 a0 7) ∧ (m89 a0 7) ≤ 700 := zi_rd hIm89 hc0 zb_28_7
                    have r92 : 0 ≤ (m89 a0 8) ∧ (m89 a0 8) ≤ 6 := zi_rd hIm89 hc0 zb_28_8
                    have e93 : (m89 a0 8) = (m77 a0 8) := (Eq.trans (zs_ne hmm89 (Or.inr (by decide))) (zs_ne hmm87 (Or.inr (by decide))))
                    have r94 : (-2147483648) ≤ (m89 a0 4) ∧ (m89 a0 4) ≤ 2147483647 := zi_rd hIm89 hc0 zb_28_4
                    have e95 : (m89 a0 4) = 2 := (Eq.trans (zs_ne hmm89 (Or.inr (by decide))) (zs_eq hmm87))
                    exact zw_some ⟨hIm89, hFm89, hRLRm89, hRNSm89, hRTRm89, hRWDm89, ⟨by omega, by omega⟩, by omega, by omega, by omega⟩
              · refine zw_b (by omega) ?_
                refine zw_some ?_
                refine zw_ite (fun h96 => ?_) (fun h96 => ?_)
                · generalize hmm97 : zu_up m77 a0 11 (m77 a0 9) = m97
                  have hIm97 := zi_up hmm97 hIm77 hc0 zb_28_11 (by omega) (by omega)
                  have hFm97 := zfr_up hmm97 hFm77 hc0 rfl
                  have hRLRm97 := zR_LR_fr (zdis_fr (zfr_up hmm97 (zfr_rf [(28, 12)] _) hc0 rfl) rfl) hRLRm77
                  have hRNSm97 := zR_NS_fr (zdis_fr (zfr_up hmm97 (zfr_rf [(28, 12)] _) hc0 rfl) rfl) hRNSm77
                  have hRTRm97 := zR_TR_fr (zdis_fr (zfr_up hmm97 (zfr_rf [(28, 12)] _) hc0 rfl) rfl) hRTRm77
                  have hRWDm97 := zR_WD_fr (zdis_fr (zfr_up hmm97 (zfr_rf [(28, 12)] _) hc0 rfl) rfl) hRWDm77
                  refine zw_bd (zw_mono (zk_89 n hIm97 hc0 hRNSm97 hRWDm97) (fun v99 m98 hqm98 => ?_))
                  obtain ⟨hIm98, hfm98, hvm98⟩ := hqm98
                  have hFm98 := zfr_tr hFm97 hfm98 rfl
                  obtain ⟨hRNSm98, hRTRm98, hRWDm98, hvm98⟩ := hvm98
                  have hRLRm98 := zR_LR_fr (zdis_fr hfm98 rfl) hRLRm97
                  have s100 := hRNSm98 a0 hc0
                  have s101 := hRTRm98 a0 hc0
                  refine zw_b (by omega) ?_
                  refine zw_some ?_
                  refine zw_ite (fun h102 => ?_) (fun h102 => ?_)
                  · have r103 : (-2147483648) ≤ (m98 a0 11) ∧ (m98 a0 11) ≤ 2147483647 := zi_rd hIm98 hc0 zb_28_11
                    have e104 : (m98 a0 11) = (m77 a0 9) := (Eq.trans (zfr_ap hfm98 hc0 rfl) (zs_eq hmm97))
                    have b105 : 0 ≤ (6 : Int) ∧ (6 : Int) < 10 := by omega
                    refine zw_if b105 ?_
                    generalize hmm106 : zu_up m98 194 6 (m98 a0 11) = m106
                    have hIm106 := zi_up hmm106 hIm98 zq_194 (zb_103 _) (by omega) (by omega)
                    have hFm106 := zfr_up hmm106 hFm98 zq_194 rfl
                    have hRLRm106 := zR_LR_fr (zdis_fr (zfr_up hmm106 (zfr_rf [(103, 0)] _) zq_194 rfl) rfl) hRLRm98
                    have hRNSm106 := zR_NS_fr (zdis_fr (zfr_up hmm106 (zfr_rf [(103, 0)] _) zq_194 rfl) rfl) hRNSm98
                    have hRTRm106 := zR_TR_fr (zdis_fr (zfr_up hmm106 (zfr_rf [(103, 0)] _) zq_194 rfl) rfl) hRTRm98
                    have hRWDm106 := zR_WD_fr (zdis_fr (zfr_up hmm106 (zfr_rf [(103, 0)] _) zq_194 rfl) rfl) hRWDm98
                    refine zw_b (by omega) ?_
                    have r107 : 0 ≤ (m106 a0 7) ∧ (m106 a0 7) ≤ 700 := zi_rd hIm106 hc0 zb_28_7
                    have r108 : 0 ≤ (m106 a0 8) ∧ (m106 a0 8) ≤ 6 := zi_rd hIm106 hc0 zb_28_8
                    have r109 : (-2147483648) ≤ (m106 a0 4) ∧ (m106 a0 4) ≤ 2147483647 := zi_rd hIm106 hc0 zb_28_4
                    have e110 : (m106 a0 4) = (m0 a0 4) := (Eq.trans (zs_ne hmm106 (Or.inl (zc_ne hc0 zq_194 (by decide)))) (Eq.trans (zfr_ap hfm98 hc0 rfl) (Eq.trans (zs_ne hmm97 (Or.inr (by decide))) (Eq.trans (zfr_ap hfm77 hc0 rfl) (zs_ne hmm76 (Or.inl (zc_ne hc0 zq_193 (by decide))))))))
                    exact zw_some ⟨hIm106, hFm106, hRLRm106, hRNSm106, hRTRm106, hRWDm106, ⟨by omega, by omega⟩, by omega, by omega, by omega⟩
                  · exfalso; omega
                · exfalso; omega
          · refine zw_bd (zw_eq (zu_call_at (zt_T n) (zm_85 n) (zdp_85 n) _ _ _ _ _ rfl (zr_85_0 n _ _ a0 1 m77)) ?_)
            generalize hmm111 : zu_up m77 a0 4 1 = m111
            have hIm111 := zi_up hmm111 hIm77 hc0 zb_28_4 (by omega) (by omega)
            have hFm111 := zfr_up hmm111 hFm77 hc0 rfl
            have hRNSm111 := zR_NS_fr (zdis_fr (zfr_up hmm111 (zfr_rf [(28, 5)] _) hc0 rfl) rfl) hRNSm77
            have hRTRm111 := zR_TR_fr (zdis_fr (zfr_up hmm111 (zfr_rf [(28, 5)] _) hc0 rfl) rfl) hRTRm77
            have hRWDm111 := zR_WD_fr (zdis_fr (zfr_up hmm111 (zfr_rf [(28, 5)] _) hc0 rfl) rfl) hRWDm77
            have hRLRm111 := zLR_wr (zone_190 hc0) hmm111 (by decide)
            have r112 : 0 ≤ (m111 a0 10) ∧ (m111 a0 10) ≤ 700 := zi_rd hIm111 hc0 zb_28_10
            generalize hmm113 : zu_up m111 a0 5 (m111 a0 10) = m113
            have hIm113 := zi_up hmm113 hIm111 hc0 zb_28_5 (by omega) (by omega)
            have hFm113 := zfr_up hmm113 hFm111 hc0 rfl
            have hRLRm113 := zR_LR_fr (zdis_fr (zfr_up hmm113 (zfr_rf [(28, 6)] _) hc0 rfl) rfl) hRLRm111
            have hRNSm113 := zR_NS_fr (zdis_fr (zfr_up hmm113 (zfr_rf [(28, 6)] _) hc0 rfl) rfl) hRNSm111
            have hRTRm113 := zR_TR_fr (zdis_fr (zfr_up hmm113 (zfr_rf [(28, 6)] _) hc0 rfl) rfl) hRTRm111
            have hRWDm113 := zR_WD_fr (zdis_fr (zfr_up hmm113 (zfr_rf [(28, 6)] _) hc0 rfl) rfl) hRWDm111
            refine zw_b (by omega) ?_
            refine zw_some ?_
            refine zw_b (by omega) ?_
            refine zw_some ?_
            refine zw_ite (fun h114 => ?_) (fun h114 => ?_)
            · exfalso; omega
            · refine zw_b (by omega) ?_
              have r115 : 0 ≤ (m113 a0 7) ∧ (m113 a0 7) ≤ 700 := zi_rd hIm113 hc0 zb_28_7
              have r116 : 0 ≤ (m113 a0 8) ∧ (m113 a0 8) ≤ 6 := zi_rd hIm113 hc0 zb_28_8
              have e117 : (m113 a0 8) = (m77 a0 8) := (Eq.trans (zs_ne hmm113 (Or.inr (by decide))) (zs_ne hmm111 (Or.inr (by decide))))
              have r118 : (-2147483648) ≤ (m113 a0 4) ∧ (m113 a0 4) ≤ 2147483647 := zi_rd hIm113 hc0 zb_28_4
              have e119 : (m113 a0 4) = 1 := (Eq.trans (zs_ne hmm113 (Or.inr (by decide))) (zs_eq hmm111))
              exact zw_some ⟨hIm113, hFm113, hRLRm113, hRNSm113, hRTRm113, hRWDm113, ⟨by omega, by omega⟩, by omega, by omega, by omega⟩
      · refine zw_bd (zw_eq (zu_call_at (zt_T n) (zm_85 n) (zdp_85 n) _ _ _ _ _ rfl (zr_85_0 n _ _ a0 3 m0)) ?_)
        generalize hmm120 : zu_up m0 a0 4 3 = m120
        have hIm120 := zi_up hmm120 hIm0 hc0 zb_28_4 (by omega) (by omega)
        have hFm120 := zfr_up hmm120 hFm0 hc0 rfl
        have hRNSm120 := zR_NS_fr (zdis_fr (zfr_up hmm120 (zfr_rf [(28, 5)] _) hc0 rfl) rfl) hRNSm0
        have hRTRm120 := zR_TR_fr (zdis_fr (zfr_up hmm120 (zfr_rf [(28, 5)] _) hc0 rfl) rfl) hRTRm0
        have hRWDm120 := zR_WD_fr (zdis_fr (zfr_up hmm120 (zfr_rf [(28, 5)] _) hc0 rfl) rfl) hRWDm0
        have hRLRm120 := zLR_wr (zone_190 hc0) hmm120 (by decide)
        have r121 : 0 ≤ (m120 a0 10) ∧ (m120 a0 10) ≤ 700 := zi_rd hIm120 hc0 zb_28_10
        generalize hmm122 : zu_up m120 a0 5 (m120 a0 10) = m122
        have hIm122 := zi_up hmm122 hIm120 hc0 zb_28_5 (by omega) (by omega)
        have hFm122 := zfr_up hmm122 hFm120 hc0 rfl
        have hRLRm122 := zR_LR_fr (zdis_fr (zfr_up hmm122 (zfr_rf [(28, 6)] _) hc0 rfl) rfl) hRLRm120
        have hRNSm122 := zR_NS_fr (zdis_fr (zfr_up hmm122 (zfr_rf [(28, 6)] _) hc0 rfl) rfl) hRNSm120
        have hRTRm122 := zR_TR_fr (zdis_fr (zfr_up hmm122 (zfr_rf [(28, 6)] _) hc0 rfl) rfl) hRTRm120
        have hRWDm122 := zR_WD_fr (zdis_fr (zfr_up hmm122 (zfr_rf [(28, 6)] _) hc0 rfl) rfl) hRWDm120
        refine zw_b (by omega) ?_
        refine zw_some ?_
        refine zw_b (by omega) ?_
        refine zw_some ?_
        refine zw_ite (fun h123 => ?_) (fun h123 => ?_)
        · refine zw_b (by omega) ?_
          have r124 : 0 ≤ (m122 a0 7) ∧ (m122 a0 7) ≤ 700 := zi_rd hIm122 hc0 zb_28_7
          have e125 : (m122 a0 7) = (m0 a0 7) := (Eq.trans (zs_ne hmm122 (Or.inr (by decide))) (zs_ne hmm120 (Or.inr (by decide))))
          have r126 : 0 ≤ (m122 a0 8) ∧ (m122 a0 8) ≤ 6 := zi_rd hIm122 hc0 zb_28_8
          have r127 : (-2147483648) ≤ (m122 a0 4) ∧ (m122 a0 4) ≤ 2147483647 := zi_rd hIm122 hc0 zb_28_4
          have e128 : (m122 a0 4) = 3 := (Eq.trans (zs_ne hmm122 (Or.inr (by decide))) (zs_eq hmm120))
          exact zw_some ⟨hIm122, hFm122, hRLRm122, hRNSm122, hRTRm122, hRWDm122, ⟨by omega, by omega⟩, by omega, by omega, by omega⟩
        · exfalso; omega
    · refine zw_ite (fun h129 => ?_) (fun h129 => ?_)
      · refine zw_bd (zw_eq (zu_call_at (zt_T n) (zm_98 n) (zdp_98 n) _ _ _ _ _ rfl (zr_98_0 n _ _ a0 3 m0)) ?_)
        have b130 : 0 ≤ (3 : Int) ∧ (3 : Int) < 6 := by omega
        refine zw_if b130 ?_
        have r131 : 0 ≤ (m0 193 3) ∧ (m0 193 3) ≤ 1 := zi_rd hIm0 zq_193 (zb_102 _)
        refine zw_ite (fun h132 => ?_) (fun h132 => ?_)
        · refine zw_b (by omega) ?_
          have b133 : 0 ≤ (3 : Int) ∧ (3 : Int) < 6 := by omega
          refine zw_if b133 ?_
          generalize hmm134 : zu_up m0 193 3 1 = m134
          have hIm134 := zi_up hmm134 hIm0 zq_193 (zb_102 _) (by omega) (by omega)
          have hFm134 := zfr_up hmm134 hFm0 zq_193 rfl
          have hRLRm134 := zR_LR_fr (zdis_fr (zfr_up hmm134 (zfr_rf [(102, 0)] _) zq_193 rfl) rfl) hRLRm0
          have hRNSm134 := zR_NS_fr (zdis_fr (zfr_up hmm134 (zfr_rf [(102, 0)] _) zq_193 rfl) rfl) hRNSm0
          have hRTRm134 := zR_TR_fr (zdis_fr (zfr_up hmm134 (zfr_rf [(102, 0)] _) zq_193 rfl) rfl) hRTRm0
          have hRWDm134 := zR_WD_fr (zdis_fr (zfr_up hmm134 (zfr_rf [(102, 0)] _) zq_193 rfl) rfl) hRWDm0
          refine zw_bd (zw_mono (zk_89 n hIm134 hc0 hRNSm134 hRWDm134) (fun v136 m135 hqm135 => ?_))
          obtain ⟨hIm135, hfm135, hvm135⟩ := hqm135
          have hFm135 := zfr_tr hFm134 hfm135 rfl
          obtain ⟨hRNSm135, hRTRm135, hRWDm135, hvm135⟩ := hvm135
          have hRLRm135 := zR_LR_fr (zdis_fr hfm135 rfl) hRLRm134
          have s137 := hRNSm135 a0 hc0
          have s138 := hRTRm135 a0 hc0
          refine zw_b (by omega) ?_
          refine zw_some ?_
          refine zw_ite (fun h139 => ?_) (fun h139 => ?_)
          · exfalso; omega
          · refine zw_bd (zw_eq (zu_call_at (zt_T n) (zm_94 n) (zdp_94 n) _ _ _ _ _ rfl (zr_94_0 n _ _ a0 1 99 m135)) ?_)
            have r140 : 0 ≤ (m135 a0 8) ∧ (m135 a0 8) ≤ 6 := zi_rd hIm135 hc0 zb_28_8
            refine zw_ite (fun h141 => ?_) (fun h141 => ?_)
            · refine zw_bd (zw_eq (zu_call_at (zt_T n) (zm_83 n) (zdp_83 n) _ _ _ _ _ rfl (zr_83_0 n _ _ (m135 a0 9) 1 99 m135)) ?_)
              refine zw_ite (fun h142 => ?_) (fun h142 => ?_)
              · refine zw_b (by omega) ?_
                refine zw_some ?_
                refine zw_ite (fun h143 => ?_) (fun h143 => ?_)
                · exfalso; omega
                · refine zw_bd (zw_eq (zu_call_at (zt_T n) (zm_85 n) (zdp_85 n) _ _ _ _ _ rfl (zr_85_0 n _ _ a0 2 m135)) ?_)
                  generalize hmm144 : zu_up m135 a0 4 2 = m144
                  have hIm144 := zi_up hmm144 hIm135 hc0 zb_28_4 (by omega) (by omega)
                  have hFm144 := zfr_up hmm144 hFm135 hc0 rfl
                  have hRNSm144 := zR_NS_fr (zdis_fr (zfr_up hmm144 (zfr_rf [(28, 5)] _) hc0 rfl) rfl) hRNSm135
                  have hRTRm144 := zR_TR_fr (zdis_fr (zfr_up hmm144 (zfr_rf [(28, 5)] _) hc0 rfl) rfl) hRTRm135
                  have hRWDm144 := zR_WD_fr (zdis_fr (zfr_up hmm144 (zfr_rf [(28, 5)] _) hc0 rfl) rfl) hRWDm135
                  have hRLRm144 := zLR_wr (zone_190 hc0) hmm144 (by decide)
                  have r145 : 0 ≤ (m144 a0 10) ∧ (m144 a0 10) ≤ 700 := zi_rd hIm144 hc0 zb_28_10
                  generalize hmm146 : zu_up m144 a0 5 (m144 a0 10) = m146
                  have hIm146 := zi_up hmm146 hIm144 hc0 zb_28_5 (by omega) (by omega)
                  have hFm146 := zfr_up hmm146 hFm144 hc0 rfl
                  have hRLRm146 := zR_LR_fr (zdis_fr (zfr_up hmm146 (zfr_rf [(28, 6)] _) hc0 rfl) rfl) hRLRm144
                  have hRNSm146 := zR_NS_fr (zdis_fr (zfr_up hmm146 (zfr_rf [(28, 6)] _) hc0 rfl) rfl) hRNSm144
                  have hRTRm146 := zR_TR_fr (zdis_fr (zfr_up hmm146 (zfr_rf [(28, 6)] _) hc0 rfl) rfl) hRTRm144
                  have hRWDm146 := zR_WD_fr (zdis_fr (zfr_up hmm146 (zfr_rf [(28, 6)] _) hc0 rfl) rfl) hRWDm144
                  refine zw_b (by omega) ?_
                  refine zw_some ?_
                  refine zw_b (by omega) ?_
                  refine zw_some ?_
                  refine zw_ite (fun h147 => ?_) (fun h147 => ?_)
                  · exfalso; omega
                  · refine zw_b (by omega) ?_
                    have r148 : 0 ≤ (m146 a0 7) ∧ (m146 a0 7) ≤ 700 := zi_rd hIm146 hc0 zb_28_7
                    have r149 : 0 ≤ (m146 a0 8) ∧ (m146 a0 8) ≤ 6 := zi_rd hIm146 hc0 zb_28_8
                    have e150 : (m146 a0 8) = (m135 a0 8) := (Eq.trans (zs_ne hmm146 (Or.inr (by decide))) (zs_ne hmm144 (Or.inr (by decide))))
                    have r151 : (-2147483648) ≤ (m146 a0 4) ∧ (m146 a0 4) ≤ 2147483647 := zi_rd hIm146 hc0 zb_28_4
                    have e152 : (m146 a0 4) = 2 := (Eq.trans (zs_ne hmm146 (Or.inr (by decide))) (zs_eq hmm144))
                    exact zw_some ⟨hIm146, hFm146, hRLRm146, hRNSm146, hRTRm146, hRWDm146, ⟨by omega, by omega⟩, by omega, by omega, by omega⟩
              · refine zw_ite (fun h153 => ?_) (fun h153 => ?_)
                · refine zw_b (by omega) ?_
                  refine zw_some ?_
                  refine zw_ite (fun h154 => ?_) (fun h154 => ?_)
                  · exfalso; omega
                  · refine zw_bd (zw_eq (zu_call_at (zt_T n) (zm_85 n) (zdp_85 n) _ _ _ _ _ rfl (zr_85_0 n _ _ a0 2 m135)) ?_)
                    generalize hmm155 : zu_up m135 a0 4 2 = m155
                    have hIm155 := zi_up hmm155 hIm135 hc0 zb_28_4 (by omega) (by omega)
                    have hFm155 := zfr_up hmm155 hFm135 hc0 rfl
                    have hRNSm155 := zR_NS_fr (zdis_fr (zfr_up hmm155 (zfr_rf [(28, 5)] _) hc0 rfl) rfl) hRNSm135
                    have hRTRm155 := zR_TR_fr (zdis_fr (zfr_up hmm155 (zfr_rf [(28, 5)] _) hc0 rfl) rfl) hRTRm135
                    have hRWDm155 := zR_WD_fr (zdis_fr (zfr_up hmm155 (zfr_rf [(28, 5)] _) hc0 rfl) rfl) hRWDm135
                    have hRLRm155 := zLR_wr (zone_190 hc0) hmm155 (by decide)
                    have r156 : 0 ≤ (m155 a0 10) ∧ (m155 a0 10) ≤ 700 := zi_rd hIm155 hc0 zb_28_10
                    generalize hmm157 : zu_up m155 a0 5 (m155 a0 10) = m157
                    have hIm157 := zi_up hmm157 hIm155 hc0 zb_28_5 (by omega) (by omega)
                    have hFm157 := zfr_up hmm157 hFm155 hc0 rfl
                    have hRLRm157 := zR_LR_fr (zdis_fr (zfr_up hmm157 (zfr_rf [(28, 6)] _) hc0 rfl) rfl) hRLRm155
                    have hRNSm157 := zR_NS_fr (zdis_fr (zfr_up hmm157 (zfr_rf [(28, 6)] _) hc0 rfl) rfl) hRNSm155
                    have hRTRm157 := zR_TR_fr (zdis_fr (zfr_up hmm157 (zfr_rf [(28, 6)] _) hc0 rfl) rfl) hRTRm155
                    have hRWDm157 := zR_WD_fr (zdis_fr (zfr_up hmm157 (zfr_rf [(28, 6)] _) hc0 rfl) rfl) hRWDm155
                    refine zw_b (by omega) ?_
                    refine zw_some ?_
                    refine zw_b (by omega) ?_
                    refine zw_some ?_
                    refine zw_ite (fun h158 => ?_) (fun h158 => ?_)
                    · exfalso; omega
                    · refine zw_b (by omega) ?_
                      have r159 : 0 ≤ (m157 a0 7) ∧ (m157 a0 7) ≤ 700 := zi_rd hIm157 hc0 zb_28_7
                      have r160 : 0 ≤ (m157 a0 8) ∧ (m157 a0 8) ≤ 6 := zi_rd hIm157 hc0 zb_28_8
                      have e161 : (m157 a0 8) = (m135 a0 8) := (Eq.trans (zs_ne hmm157 (Or.inr (by decide))) (zs_ne hmm155 (Or.inr (by decide))))
                      have r162 : (-2147483648) ≤ (m157 a0 4) ∧ (m157 a0 4) ≤ 2147483647 := zi_rd hIm157 hc0 zb_28_4
                      have e163 : (m157 a0 4) = 2 := (Eq.trans (zs_ne hmm157 (Or.inr (by decide))) (zs_eq hmm155))
                      exact zw_some ⟨hIm157, hFm157, hRLRm157, hRNSm157, hRTRm157, hRWDm157, ⟨by omega, by omega⟩, by omega, by omega, by omega⟩
                · refine zw_b (by omega) ?_
                  refine zw_some ?_
                  refine zw_ite (fun h164 => ?_) (fun h164 => ?_)
                  · generalize hmm165 : zu_up m135 a0 11 (m135 a0 9) = m165
                    have hIm165 := zi_up hmm165 hIm135 hc0 zb_28_11 (by omega) (by omega)
                    have hFm165 := zfr_up hmm165 hFm135 hc0 rfl
                    have hRLRm165 := zR_LR_fr (zdis_fr (zfr_up hmm165 (zfr_rf [(28, 12)] _) hc0 rfl) rfl) hRLRm135
                    have hRNSm165 := zR_NS_fr (zdis_fr (zfr_up hmm165 (zfr_rf [(28, 12)] _) hc0 rfl) rfl) hRNSm135
                    have hRTRm165 := zR_TR_fr (zdis_fr (zfr_up hmm165 (zfr_rf [(28, 12)] _) hc0 rfl) rfl) hRTRm135
                    have hRWDm165 := zR_WD_fr (zdis_fr (zfr_up hmm165 (zfr_rf [(28, 12)] _) hc0 rfl) rfl) hRWDm135
                    refine zw_bd (zw_mono (zk_89 n hIm165 hc0 hRNSm165 hRWDm165) (fun v167 m166 hqm166 => ?_))
                    obtain ⟨hIm166, hfm166, hvm166⟩ := hqm166
                    have hFm166 := zfr_tr hFm165 hfm166 rfl
                    obtain ⟨hRNSm166, hRTRm166, hRWDm166, hvm166⟩ := hvm166
                    have hRLRm166 := zR_LR_fr (zdis_fr hfm166 rfl) hRLRm165
                    have s168 := hRNSm166 a0 hc0
                    have s169 := hRTRm166 a0 hc0
                    refine zw_b (by omega) ?_
                    refine zw_some ?_
                    refine zw_ite (fun h170 => ?_) (fun h170 => ?_)
                    · have r171 : (-2147483648) ≤ (m166 a0 11) ∧ (m166 a0 11) ≤ 2147483647 := zi_rd hIm166 hc0 zb_28_11
                      have e172 : (m166 a0 11) = (m135 a0 9) := (Eq.trans (zfr_ap hfm166 hc0 rfl) (zs_eq hmm165))
                      have b173 : 0 ≤ (7 : Int) ∧ (7 : Int) < 10 := by omega
                      refine zw_if b173 ?_
                      generalize hmm174 : zu_up m166 194 7 (m166 a0 11) = m174
                      have hIm174 := zi_up hmm174 hIm166 zq_194 (zb_103 _) (by omega) (by omega)
                      have hFm174 := zfr_up hmm174 hFm166 zq_194 rfl
                      have hRLRm174 := zR_LR_fr (zdis_fr (zfr_up hmm174 (zfr_rf [(103, 0)] _) zq_194 rfl) rfl) hRLRm166
                      have hRNSm174 := zR_NS_fr (zdis_fr (zfr_up hmm174 (zfr_rf [(103, 0)] _) zq_194 rfl) rfl) hRNSm166
                      have hRTRm174 := zR_TR_fr (zdis_fr (zfr_up hmm174 (zfr_rf [(103, 0)] _) zq_194 rfl) rfl) hRTRm166
                      have hRWDm174 := zR_WD_fr (zdis_fr (zfr_up hmm174 (zfr_rf [(103, 0)] _) zq_194 rfl) rfl) hRWDm166
                      refine zw_b (by omega) ?_
                      have r175 : 0 ≤ (m174 a0 7) ∧ (m174 a0 7) ≤ 700 := zi_rd hIm174 hc0 zb_28_7
                      have r176 : 0 ≤ (m174 a0 8) ∧ (m174 a0 8) ≤ 6 := zi_rd hIm174 hc0 zb_28_8
                      have r177 : (-2147483648) ≤ (m174 a0 4) ∧ (m174 a0 4) ≤ 2147483647 := zi_rd hIm174 hc0 zb_28_4
                      have e178 : (m174 a0 4) = (m0 a0 4) := (Eq.trans (zs_ne hmm174 (Or.inl (zc_ne hc0 zq_194 (by decide)))) (Eq.trans (zfr_ap hfm166 hc0 rfl) (Eq.trans (zs_ne hmm165 (Or.inr (by decide))) (Eq.trans (zfr_ap hfm135 hc0 rfl) (zs_ne hmm134 (Or.inl (zc_ne hc0 zq_193 (by decide))))))))
                      exact zw_some ⟨hIm174, hFm174, hRLRm174, hRNSm174, hRTRm174, hRWDm174, ⟨by omega, by omega⟩, by omega, by omega, by omega⟩
                    · exfalso; omega
                  · exfalso; omega
            · refine zw_bd (zw_eq (zu_call_at (zt_T n) (zm_85 n) (zdp_85 n) _ _ _ _ _ rfl (zr_85_0 n _ _ a0 1 m135)) ?_)
              generalize hmm179 : zu_up m135 a0 4 1 = m179
              have hIm179 := zi_up hmm179 hIm135 hc0 zb_28_4 (by omega) (by omega)
              have hFm179 := zfr_up hmm179 hFm135 hc0 rfl
              have hRNSm179 := zR_NS_fr (zdis_fr (zfr_up hmm179 (zfr_rf [(28, 5)] _) hc0 rfl) rfl) hRNSm135
              have hRTRm179 := zR_TR_fr (zdis_fr (zfr_up hmm179 (zfr_rf [(28, 5)] _) hc0 rfl) rfl) hRTRm135
              have hRWDm179 := zR_WD_fr (zdis_fr (zfr_up hmm179 (zfr_rf [(28, 5)] _) hc0 rfl) rfl) hRWDm135
              have hRLRm179 := zLR_wr (zone_190 hc0) hmm179 (by decide)
              have r180 : 0 ≤ (m179 a0 10) ∧ (m179 a0 10) ≤ 700 := zi_rd hIm179 hc0 zb_28_10
              generalize hmm181 : zu_up m179 a0 5 (m179 a0 10) = m181
              have hIm181 := zi_up hmm181 hIm179 hc0 zb_28_5 (by omega) (by omega)
              have hFm181 := zfr_up hmm181 hFm179 hc0 rfl
              have hRLRm181 := zR_LR_fr (zdis_fr (zfr_up hmm181 (zfr_rf [(28, 6)] _) hc0 rfl) rfl) hRLRm179
              have hRNSm181 := zR_NS_fr (zdis_fr (zfr_up hmm181 (zfr_rf [(28, 6)] _) hc0 rfl) rfl) hRNSm179
              have hRTRm181 := zR_TR_fr (zdis_fr (zfr_up hmm181 (zfr_rf [(28, 6)] _) hc0 rfl) rfl) hRTRm179
              have hRWDm181 := zR_WD_fr (zdis_fr (zfr_up hmm181 (zfr_rf [(28, 6)] _) hc0 rfl) rfl) hRWDm179
              refine zw_b (by omega) ?_
              refine zw_some ?_
              refine zw_b (by omega) ?_
              refine zw_some ?_
              refine zw_ite (fun h182 => ?_) (fun h182 => ?_)
              · exfalso; omega
              · refine zw_b (by omega) ?_
                have r183 : 0 ≤ (m181 a0 7) ∧ (m181 a0 7) ≤ 700 := zi_rd hIm181 hc0 zb_28_7
                have r184 : 0 ≤ (m181 a0 8) ∧ (m181 a0 8) ≤ 6 := zi_rd hIm181 hc0 zb_28_8
                have e185 : (m181 a0 8) = (m135 a0 8) := (Eq.trans (zs_ne hmm181 (Or.inr (by decide))) (zs_ne hmm179 (Or.inr (by decide))))
                have r186 : (-2147483648) ≤ (m181 a0 4) ∧ (m181 a0 4) ≤ 2147483647 := zi_rd hIm181 hc0 zb_28_4
                have e187 : (m181 a0 4) = 1 := (Eq.trans (zs_ne hmm181 (Or.inr (by decide))) (zs_eq hmm179))
                exact zw_some ⟨hIm181, hFm181, hRLRm181, hRNSm181, hRTRm181, hRWDm181, ⟨by omega, by omega⟩, by omega, by omega, by omega⟩
        · refine zw_bd (zw_eq (zu_call_at (zt_T n) (zm_85 n) (zdp_85 n) _ _ _ _ _ rfl (zr_85_0 n _ _ a0 3 m0)) ?_)
          generalize hmm188 : zu_up m0 a0 4 3 = m188
          have hIm188 := zi_up hmm188 hIm0 hc0 zb_28_4 (by omega) (by omega)
          have hFm188 := zfr_up hmm188 hFm0 hc0 rfl
          have hRNSm188 := zR_NS_fr (zdis_fr (zfr_up hmm188 (zfr_rf [(28, 5)] _) hc0 rfl) rfl) hRNSm0
          have hRTRm188 := zR_TR_fr (zdis_fr (zfr_up hmm188 (zfr_rf [(28, 5)] _) hc0 rfl) rfl) hRTRm0
          have hRWDm188 := zR_WD_fr (zdis_fr (zfr_up hmm188 (zfr_rf [(28, 5)] _) hc0 rfl) rfl) hRWDm0
          have hRLRm188 := zLR_wr (zone_190 hc0) hmm188 (by decide)
          have r189 : 0 ≤ (m188 a0 10) ∧ (m188 a0 10) ≤ 700 := zi_rd hIm188 hc0 zb_28_10
          generalize hmm190 : zu_up m188 a0 5 (m188 a0 10) = m190
          have hIm190 := zi_up hmm190 hIm188 hc0 zb_28_5 (by omega) (by omega)
          have hFm190 := zfr_up hmm190 hFm188 hc0 rfl
          have hRLRm190 := zR_LR_fr (zdis_fr (zfr_up hmm190 (zfr_rf [(28, 6)] _) hc0 rfl) rfl) hRLRm188
          have hRNSm190 := zR_NS_fr (zdis_fr (zfr_up hmm190 (zfr_rf [(28, 6)] _) hc0 rfl) rfl) hRNSm188
          have hRTRm190 := zR_TR_fr (zdis_fr (zfr_up hmm190 (zfr_rf [(28, 6)] _) hc0 rfl) rfl) hRTRm188
          have hRWDm190 := zR_WD_fr (zdis_fr (zfr_up hmm190 (zfr_rf [(28, 6)] _) hc0 rfl) rfl) hRWDm188
          refine zw_b (by omega) ?_
          refine zw_some ?_
          refine zw_b (by omega) ?_
          refine zw_some ?_
          refine zw_ite (fun h191 => ?_) (fun h191 => ?_)
          · refine zw_b (by omega) ?_
            have r192 : 0 ≤ (m190 a0 7) ∧ (m190 a0 7) ≤ 700 := zi_rd hIm190 hc0 zb_28_7
            have e193 : (m190 a0 7) = (m0 a0 7) := (Eq.trans (zs_ne hmm190 (Or.inr (by decide))) (zs_ne hmm188 (Or.inr (by decide))))
            have r194 : 0 ≤ (m190 a0 8) ∧ (m190 a0 8) ≤ 6 := zi_rd hIm190 hc0 zb_28_8
            have r195 : (-2147483648) ≤ (m190 a0 4) ∧ (m190 a0 4) ≤ 2147483647 := zi_rd hIm190 hc0 zb_28_4
            have e196 : (m190 a0 4) = 3 := (Eq.trans (zs_ne hmm190 (Or.inr (by decide))) (zs_eq hmm188))
            exact zw_some ⟨hIm190, hFm190, hRLRm190, hRNSm190, hRTRm190, hRWDm190, ⟨by omega, by omega⟩, by omega, by omega, by omega⟩
          · exfalso; omega
      · refine zw_ite (fun h197 => ?_) (fun h197 => ?_)
        · refine zw_bd (zw_eq (zu_call_at (zt_T n) (zm_98 n) (zdp_98 n) _ _ _ _ _ rfl (zr_98_0 n _ _ a0 4 m0)) ?_)
          have b198 : 0 ≤ (4 : Int) ∧ (4 : Int) < 6 := by omega
          refine zw_if b198 ?_
          have r199 : 0 ≤ (m0 193 4) ∧ (m0 193 4) ≤ 1 := zi_rd hIm0 zq_193 (zb_102 _)
          refine zw_ite (fun h200 => ?_) (fun h200 => ?_)
          · refine zw_b (by omega) ?_
            have b201 : 0 ≤ (4 : Int) ∧ (4 : Int) < 6 := by omega
            refine zw_if b201 ?_
            generalize hmm202 : zu_up m0 193 4 1 = m202
            have hIm202 := zi_up hmm202 hIm0 zq_193 (zb_102 _) (by omega) (by omega)
            have hFm202 := zfr_up hmm202 hFm0 zq_193 rfl
            have hRLRm202 := zR_LR_fr (zdis_fr (zfr_up hmm202 (zfr_rf [(102, 0)] _) zq_193 rfl) rfl) hRLRm0
            have hRNSm202 := zR_NS_fr (zdis_fr (zfr_up hmm202 (zfr_rf [(102, 0)] _) zq_193 rfl) rfl) hRNSm0
            have hRTRm202 := zR_TR_fr (zdis_fr (zfr_up hmm202 (zfr_rf [(102, 0)] _) zq_193 rfl) rfl) hRTRm0
            have hRWDm202 := zR_WD_fr (zdis_fr (zfr_up hmm202 (zfr_rf [(102, 0)] _) zq_193 rfl) rfl) hRWDm0
            refine zw_bd (zw_mono (zk_89 n hIm202 hc0 hRNSm202 hRWDm202) (fun v204 m203 hqm203 => ?_))
            obtain ⟨hIm203, hfm203, hvm203⟩ := hqm203
            have hFm203 := zfr_tr hFm202 hfm203 rfl
            obtain ⟨hRNSm203, hRTRm203, hRWDm203, hvm203⟩ := hvm203
            have hRLRm203 := zR_LR_fr (zdis_fr hfm203 rfl) hRLRm202
            have s205 := hRNSm203 a0 hc0
            have s206 := hRTRm203 a0 hc0
            refine zw_b (by omega) ?_
            refine zw_some ?_
            refine zw_ite (fun h207 => ?_) (fun h207 => ?_)
            · exfalso; omega
            · refine zw_bd (zw_eq (zu_call_at (zt_T n) (zm_94 n) (zdp_94 n) _ _ _ _ _ rfl (zr_94_0 n _ _ a0 0 999 m203)) ?_)
              have r208 : 0 ≤ (m203 a0 8) ∧ (m203 a0 8) ≤ 6 := zi_rd hIm203 hc0 zb_28_8
              refine zw_ite (fun h209 => ?_) (fun h209 => ?_)
              · refine zw_bd (zw_eq (zu_call_at (zt_T n) (zm_83 n) (zdp_83 n) _ _ _ _ _ rfl (zr_83_0 n _ _ (m203 a0 9) 0 999 m203)) ?_)
                refine zw_ite (fun h210 => ?_) (fun h210 => ?_)
                · exfalso; omega
                · refine zw_ite (fun h211 => ?_) (fun h211 => ?_)
                  · refine zw_b (by omega) ?_
                    refine zw_some ?_
                    refine zw_ite (fun h212 => ?_) (fun h212 => ?_)
                    · exfalso; omega
                    · refine zw_bd (zw_eq (zu_call_at (zt_T n) (zm_85 n) (zdp_85 n) _ _ _ _ _ rfl (zr_85_0 n _ _ a0 2 m203)) ?_)
                      generalize hmm213 : zu_up m203 a0 4 2 = m213
                      have hIm213 := zi_up hmm213 hIm203 hc0 zb_28_4 (by omega) (by omega)
                      have hFm213 := zfr_up hmm213 hFm203 hc0 rfl
                      have hRNSm213 := zR_NS_fr (zdis_fr (zfr_up hmm213 (zfr_rf [(28, 5)] _) hc0 rfl) rfl) hRNSm203
                      have hRTRm213 := zR_TR_fr (zdis_fr (zfr_up hmm213 (zfr_rf [(28, 5)] _) hc0 rfl) rfl) hRTRm203
                      have hRWDm213 := zR_WD_fr (zdis_fr (zfr_up hmm213 (zfr_rf [(28, 5)] _) hc0 rfl) rfl) hRWDm203
                      have hRLRm213 := zLR_wr (zone_190 hc0) hmm213 (by decide)
                      have r214 : 0 ≤ (m213 a0 10) ∧ (m213 a0 10) ≤ 700 := zi_rd hIm213 hc0 zb_28_10
                      generalize hmm215 : zu_up m213 a0 5 (m213 a0 10) = m215
                      have hIm215 := zi_up hmm215 hIm213 hc0 zb_28_5 (by omega) (by omega)
                      have hFm215 := zfr_up hmm215 hFm213 hc0 rfl
                      have hRLRm215 := zR_LR_fr (zdis_fr (zfr_up hmm215 (zfr_rf [(28, 6)] _) hc0 rfl) rfl) hRLRm213
                      have hRNSm215 := zR_NS_fr (zdis_fr (zfr_up hmm215 (zfr_rf [(28, 6)] _) hc0 rfl) rfl) hRNSm213
                      have hRTRm215 := zR_TR_fr (zdis_fr (zfr_up hmm215 (zfr_rf [(28, 6)] _) hc0 rfl) rfl) hRTRm213
                      have hRWDm215 := zR_WD_fr (zdis_fr (zfr_up hmm215 (zfr_rf [(28, 6)] _) hc0 rfl) rfl) hRWDm213
                      refine zw_b (by omega) ?_
                      refine zw_some ?_
                      refine zw_b (by omega) ?_
                      refine zw_some ?_
                      refine zw_ite (fun h216 => ?_) (fun h216 => ?_)
                      · exfalso; omega
                      · refine zw_b (by omega) ?_
                        have r217 : 0 ≤ (m215 a0 7) ∧ (m215 a0 7) ≤ 700 := zi_rd hIm215 hc0 zb_28_7
                        have r218 : 0 ≤ (m215 a0 8) ∧ (m215 a0 8) ≤ 6 := zi_rd hIm215 hc0 zb_28_8
                        have e219 : (m215 a0 8) = (m203 a0 8) := (Eq.trans (zs_ne hmm215 (Or.inr (by decide))) (zs_ne hmm213 (Or.inr (by decide))))
                        have r220 : (-2147483648) ≤ (m215 a0 4) ∧ (m215 a0 4) ≤ 2147483647 := zi_rd hIm215 hc0 zb_28_4
                        have e221 : (m215 a0 4) = 2 := (Eq.trans (zs_ne hmm215 (Or.inr (by decide))) (zs_eq hmm213))
                        exact zw_some ⟨hIm215, hFm215, hRLRm215, hRNSm215, hRTRm215, hRWDm215, ⟨by omega, by omega⟩, by omega, by omega, by omega⟩
                  · refine zw_b (by omega) ?_
                    refine zw_some ?_
                    refine zw_ite (fun h222 => ?_) (fun h222 => ?_)
                    · generalize hmm223 : zu_up m203 a0 11 (m203 a0 9) = m223
                      have hIm223 := zi_up hmm223 hIm203 hc0 zb_28_11 (by omega) (by omega)
                      have hFm223 := zfr_up hmm223 hFm203 hc0 rfl
                      have hRLRm223 := zR_LR_fr (zdis_fr (zfr_up hmm223 (zfr_rf [(28, 12)] _) hc0 rfl) rfl) hRLRm203
                      have hRNSm223 := zR_NS_fr (zdis_fr (zfr_up hmm223 (zfr_rf [(28, 12)] _) hc0 rfl) rfl) hRNSm203
                      have hRTRm223 := zR_TR_fr (zdis_fr (zfr_up hmm223 (zfr_rf [(28, 12)] _) hc0 rfl) rfl) hRTRm203
                      have hRWDm223 := zR_WD_fr (zdis_fr (zfr_up hmm223 (zfr_rf [(28, 12)] _) hc0 rfl) rfl) hRWDm203
                      refine zw_bd (zw_mono (zk_89 n hIm223 hc0 hRNSm223 hRWDm223) (fun v225 m224 hqm224 => ?_))
                      obtain ⟨hIm224, hfm224, hvm224⟩ := hqm224
                      have hFm224 := zfr_tr hFm223 hfm224 rfl
                      obtain ⟨hRNSm224, hRTRm224, hRWDm224, hvm224⟩ := hvm224
                      have hRLRm224 := zR_LR_fr (zdis_fr hfm224 rfl) hRLRm223
                      have s226 := hRNSm224 a0 hc0
                      have s227 := hRTRm224 a0 hc0
                      refine zw_b (by omega) ?_
                      refine zw_some ?_
                      refine zw_ite (fun h228 => ?_) (fun h228 => ?_)
                      · have r229 : (-2147483648) ≤ (m224 a0 11) ∧ (m224 a0 11) ≤ 2147483647 := zi_rd hIm224 hc0 zb_28_11
                        have e230 : (m224 a0 11) = (m203 a0 9) := (Eq.trans (zfr_ap hfm224 hc0 rfl) (zs_eq hmm223))
                        have b231 : 0 ≤ (8 : Int) ∧ (8 : Int) < 10 := by omega
                        refine zw_if b231 ?_
                        generalize hmm232 : zu_up m224 194 8 (m224 a0 11) = m232
                        have hIm232 := zi_up hmm232 hIm224 zq_194 (zb_103 _) (by omega) (by omega)
                        have hFm232 := zfr_up hmm232 hFm224 zq_194 rfl
                        have hRLRm232 := zR_LR_fr (zdis_fr (zfr_up hmm232 (zfr_rf [(103, 0)] _) zq_194 rfl) rfl) hRLRm224
                        have hRNSm232 := zR_NS_fr (zdis_fr (zfr_up hmm232 (zfr_rf [(103, 0)] _) zq_194 rfl) rfl) hRNSm224
                        have hRTRm232 := zR_TR_fr (zdis_fr (zfr_up hmm232 (zfr_rf [(103, 0)] _) zq_194 rfl) rfl) hRTRm224
                        have hRWDm232 := zR_WD_fr (zdis_fr (zfr_up hmm232 (zfr_rf [(103, 0)] _) zq_194 rfl) rfl) hRWDm224
                        refine zw_b (by omega) ?_
                        have r233 : 0 ≤ (m232 a0 7) ∧ (m232 a0 7) ≤ 700 := zi_rd hIm232 hc0 zb_28_7
                        have r234 : 0 ≤ (m232 a0 8) ∧ (m232 a0 8) ≤ 6 := zi_rd hIm232 hc0 zb_28_8
                        have r235 : (-2147483648) ≤ (m232 a0 4) ∧ (m232 a0 4) ≤ 2147483647 := zi_rd hIm232 hc0 zb_28_4
                        have e236 : (m232 a0 4) = (m0 a0 4) := (Eq.trans (zs_ne hmm232 (Or.inl (zc_ne hc0 zq_194 (by decide)))) (Eq.trans (zfr_ap hfm224 hc0 rfl) (Eq.trans (zs_ne hmm223 (Or.inr (by decide))) (Eq.trans (zfr_ap hfm203 hc0 rfl) (zs_ne hmm202 (Or.inl (zc_ne hc0 zq_193 (by decide))))))))
                        exact zw_some ⟨hIm232, hFm232, hRLRm232, hRNSm232, hRTRm232, hRWDm232, ⟨by omega, by omega⟩, by omega, by omega, by omega⟩
                      · exfalso; omega
                    · exfalso; omega
              · refine zw_bd (zw_eq (zu_call_at (zt_T n) (zm_85 n) (zdp_85 n) _ _ _ _ _ rfl (zr_85_0 n _ _ a0 1 m203)) ?_)
                generalize hmm237 : zu_up m203 a0 4 1 = m237
                have hIm237 := zi_up hmm237 hIm203 hc0 zb_28_4 (by omega) (by omega)
                have hFm237 := zfr_up hmm237 hFm203 hc0 rfl
                have hRNSm237 := zR_NS_fr (zdis_fr (zfr_up hmm237 (zfr_rf [(28, 5)] _) hc0 rfl) rfl) hRNSm203
                have hRTRm237 := zR_TR_fr (zdis_fr (zfr_up hmm237 (zfr_rf [(28, 5)] _) hc0 rfl) rfl) hRTRm203
                have hRWDm237 := zR_WD_fr (zdis_fr (zfr_up hmm237 (zfr_rf [(28, 5)] _) hc0 rfl) rfl) hRWDm203
                have hRLRm237 := zLR_wr (zone_190 hc0) hmm237 (by decide)
                have r238 : 0 ≤ (m237 a0 10) ∧ (m237 a0 10) ≤ 700 := zi_rd hIm237 hc0 zb_28_10
                generalize hmm239 : zu_up m237 a0 5 (m237 a0 10) = m239
                have hIm239 := zi_up hmm239 hIm237 hc0 zb_28_5 (by omega) (by omega)
                have hFm239 := zfr_up hmm239 hFm237 hc0 rfl
                have hRLRm239 := zR_LR_fr (zdis_fr (zfr_up hmm239 (zfr_rf [(28, 6)] _) hc0 rfl) rfl) hRLRm237
                have hRNSm239 := zR_NS_fr (zdis_fr (zfr_up hmm239 (zfr_rf [(28, 6)] _) hc0 rfl) rfl) hRNSm237
                have hRTRm239 := zR_TR_fr (zdis_fr (zfr_up hmm239 (zfr_rf [(28, 6)] _) hc0 rfl) rfl) hRTRm237
                have hRWDm239 := zR_WD_fr (zdis_fr (zfr_up hmm239 (zfr_rf [(28, 6)] _) hc0 rfl) rfl) hRWDm237
                refine zw_b (by omega) ?_
                refine zw_some ?_
                refine zw_b (by omega) ?_
                refine zw_some ?_
                refine zw_ite (fun h240 => ?_) (fun h240 => ?_)
                · exfalso; omega
                · refine zw_b (by omega) ?_
                  have r241 : 0 ≤ (m239 a0 7) ∧ (m239 a0 7) ≤ 700 := zi_rd hIm239 hc0 zb_28_7
                  have r242 : 0 ≤ (m239 a0 8) ∧ (m239 a0 8) ≤ 6 := zi_rd hIm239 hc0 zb_28_8
                  have e243 : (m239 a0 8) = (m203 a0 8) := (Eq.trans (zs_ne hmm239 (Or.inr (by decide))) (zs_ne hmm237 (Or.inr (by decide))))
                  have r244 : (-2147483648) ≤ (m239 a0 4) ∧ (m239 a0 4) ≤ 2147483647 := zi_rd hIm239 hc0 zb_28_4
                  have e245 : (m239 a0 4) = 1 := (Eq.trans (zs_ne hmm239 (Or.inr (by decide))) (zs_eq hmm237))
                  exact zw_some ⟨hIm239, hFm239, hRLRm239, hRNSm239, hRTRm239, hRWDm239, ⟨by omega, by omega⟩, by omega, by omega, by omega⟩
          · refine zw_bd (zw_eq (zu_call_at (zt_T n) (zm_85 n) (zdp_85 n) _ _ _ _ _ rfl (zr_85_0 n _ _ a0 3 m0)) ?_)
            generalize hmm246 : zu_up m0 a0 4 3 = m246
            have hIm246 := zi_up hmm246 hIm0 hc0 zb_28_4 (by omega) (by omega)
            have hFm246 := zfr_up hmm246 hFm0 hc0 rfl
            have hRNSm246 := zR_NS_fr (zdis_fr (zfr_up hmm246 (zfr_rf [(28, 5)] _) hc0 rfl) rfl) hRNSm0
            have hRTRm246 := zR_TR_fr (zdis_fr (zfr_up hmm246 (zfr_rf [(28, 5)] _) hc0 rfl) rfl) hRTRm0
            have hRWDm246 := zR_WD_fr (zdis_fr (zfr_up hmm246 (zfr_rf [(28, 5)] _) hc0 rfl) rfl) hRWDm0
            have hRLRm246 := zLR_wr (zone_190 hc0) hmm246 (by decide)
            have r247 : 0 ≤ (m246 a0 10) ∧ (m246 a0 10) ≤ 700 := zi_rd hIm246 hc0 zb_28_10
            generalize hmm248 : zu_up m246 a0 5 (m246 a0 10) = m248
            have hIm248 := zi_up hmm248 hIm246 hc0 zb_28_5 (by omega) (by omega)
            have hFm248 := zfr_up hmm248 hFm246 hc0 rfl
            have hRLRm248 := zR_LR_fr (zdis_fr (zfr_up hmm248 (zfr_rf [(28, 6)] _) hc0 rfl) rfl) hRLRm246
            have hRNSm248 := zR_NS_fr (zdis_fr (zfr_up hmm248 (zfr_rf [(28, 6)] _) hc0 rfl) rfl) hRNSm246
            have hRTRm248 := zR_TR_fr (zdis_fr (zfr_up hmm248 (zfr_rf [(28, 6)] _) hc0 rfl) rfl) hRTRm246
            have hRWDm248 := zR_WD_fr (zdis_fr (zfr_up hmm248 (zfr_rf [(28, 6)] _) hc0 rfl) rfl) hRWDm246
            refine zw_b (by omega) ?_
            refine zw_some ?_
            refine zw_b (by omega) ?_
            refine zw_some ?_
            refine zw_ite (fun h249 => ?_) (fun h249 => ?_)
            · refine zw_b (by omega) ?_
              have r250 : 0 ≤ (m248 a0 7) ∧ (m248 a0 7) ≤ 700 := zi_rd hIm248 hc0 zb_28_7
              have e251 : (m248 a0 7) = (m0 a0 7) := (Eq.trans (zs_ne hmm248 (Or.inr (by decide))) (zs_ne hmm246 (Or.inr (by decide))))
              have r252 : 0 ≤ (m248 a0 8) ∧ (m248 a0 8) ≤ 6 := zi_rd hIm248 hc0 zb_28_8
              have r253 : (-2147483648) ≤ (m248 a0 4) ∧ (m248 a0 4) ≤ 2147483647 := zi_rd hIm248 hc0 zb_28_4
              have e254 : (m248 a0 4) = 3 := (Eq.trans (zs_ne hmm248 (Or.inr (by decide))) (zs_eq hmm246))
              exact zw_some ⟨hIm248, hFm248, hRLRm248, hRNSm248, hRTRm248, hRWDm248, ⟨by omega, by omega⟩, by omega, by omega, by omega⟩
            · exfalso; omega
        · refine zw_bd (zw_eq (zu_call_at (zt_T n) (zm_98 n) (zdp_98 n) _ _ _ _ _ rfl (zr_98_0 n _ _ a0 5 m0)) ?_)
          have b255 : 0 ≤ (5 : Int) ∧ (5 : Int) < 6 := by omega
          refine zw_if b255 ?_
          have r256 : 0 ≤ (m0 193 5) ∧ (m0 193 5) ≤ 1 := zi_rd hIm0 zq_193 (zb_102 _)
          refine zw_ite (fun h257 => ?_) (fun h257 => ?_)
          · refine zw_b (by omega) ?_
            have b258 : 0 ≤ (5 : Int) ∧ (5 : Int) < 6 := by omega
            refine zw_if b258 ?_
            generalize hmm259 : zu_up m0 193 5 1 = m259
            have hIm259 := zi_up hmm259 hIm0 zq_193 (zb_102 _) (by omega) (by omega)
            have hFm259 := zfr_up hmm259 hFm0 zq_193 rfl
            have hRLRm259 := zR_LR_fr (zdis_fr (zfr_up hmm259 (zfr_rf [(102, 0)] _) zq_193 rfl) rfl) hRLRm0
            have hRNSm259 := zR_NS_fr (zdis_fr (zfr_up hmm259 (zfr_rf [(102, 0)] _) zq_193 rfl) rfl) hRNSm0
            have hRTRm259 := zR_TR_fr (zdis_fr (zfr_up hmm259 (zfr_rf [(102, 0)] _) zq_193 rfl) rfl) hRTRm0
            have hRWDm259 := zR_WD_fr (zdis_fr (zfr_up hmm259 (zfr_rf [(102, 0)] _) zq_193 rfl) rfl) hRWDm0
            refine zw_bd (zw_mono (zk_89 n hIm259 hc0 hRNSm259 hRWDm259) (fun v261 m260 hqm260 => ?_))
            obtain ⟨hIm260, hfm260, hvm260⟩ := hqm260
            have hFm260 := zfr_tr hFm259 hfm260 rfl
            obtain ⟨hRNSm260, hRTRm260, hRWDm260, hvm260⟩ := hvm260
            have hRLRm260 := zR_LR_fr (zdis_fr hfm260 rfl) hRLRm259
            have s262 := hRNSm260 a0 hc0
            have s263 := hRTRm260 a0 hc0
            refine zw_b (by omega) ?_
            refine zw_some ?_
            refine zw_ite (fun h264 => ?_) (fun h264 => ?_)
            · exfalso; omega
            · refine zw_bd (zw_eq (zu_call_at (zt_T n) (zm_94 n) (zdp_94 n) _ _ _ _ _ rfl (zr_94_0 n _ _ a0 0 99999 m260)) ?_)
              have r265 : 0 ≤ (m260 a0 8) ∧ (m260 a0 8) ≤ 6 := zi_rd hIm260 hc0 zb_28_8
              refine zw_ite (fun h266 => ?_) (fun h266 => ?_)
              · refine zw_bd (zw_eq (zu_call_at (zt_T n) (zm_83 n) (zdp_83 n) _ _ _ _ _ rfl (zr_83_0 n _ _ (m260 a0 9) 0 99999 m260)) ?_)
                refine zw_ite (fun h267 => ?_) (fun h267 => ?_)
                · exfalso; omega
                · refine zw_ite (fun h268 => ?_) (fun h268 => ?_)
                  · refine zw_b (by omega) ?_
                    refine zw_some ?_
                    refine zw_ite (fun h269 => ?_) (fun h269 => ?_)
                    · exfalso; omega
                    · refine zw_bd (zw_eq (zu_call_at (zt_T n) (zm_85 n) (zdp_85 n) _ _ _ _ _ rfl (zr_85_0 n _ _ a0 2 m260)) ?_)
                      generalize hmm270 : zu_up m260 a0 4 2 = m270
                      have hIm270 := zi_up hmm270 hIm260 hc0 zb_28_4 (by omega) (by omega)
                      have hFm270 := zfr_up hmm270 hFm260 hc0 rfl
                      have hRNSm270 := zR_NS_fr (zdis_fr (zfr_up hmm270 (zfr_rf [(28, 5)] _) hc0 rfl) rfl) hRNSm260
                      have hRTRm270 := zR_TR_fr (zdis_fr (zfr_up hmm270 (zfr_rf [(28, 5)] _) hc0 rfl) rfl) hRTRm260
                      have hRWDm270 := zR_WD_fr (zdis_fr (zfr_up hmm270 (zfr_rf [(28, 5)] _) hc0 rfl) rfl) hRWDm260
                      have hRLRm270 := zLR_wr (zone_190 hc0) hmm270 (by decide)
                      have r271 : 0 ≤ (m270 a0 10) ∧ (m270 a0 10) ≤ 700 := zi_rd hIm270 hc0 zb_28_10
                      generalize hmm272 : zu_up m270 a0 5 (m270 a0 10) = m272
                      have hIm272 := zi_up hmm272 hIm270 hc0 zb_28_5 (by omega) (by omega)
                      have hFm272 := zfr_up hmm272 hFm270 hc0 rfl
                      have hRLRm272 := zR_LR_fr (zdis_fr (zfr_up hmm272 (zfr_rf [(28, 6)] _) hc0 rfl) rfl) hRLRm270
                      have hRNSm272 := zR_NS_fr (zdis_fr (zfr_up hmm272 (zfr_rf [(28, 6)] _) hc0 rfl) rfl) hRNSm270
                      have hRTRm272 := zR_TR_fr (zdis_fr (zfr_up hmm272 (zfr_rf [(28, 6)] _) hc0 rfl) rfl) hRTRm270
                      have hRWDm272 := zR_WD_fr (zdis_fr (zfr_up hmm272 (zfr_rf [(28, 6)] _) hc0 rfl) rfl) hRWDm270
                      refine zw_b (by omega) ?_
                      refine zw_some ?_
                      refine zw_b (by omega) ?_
                      refine zw_some ?_
                      refine zw_ite (fun h273 => ?_) (fun h273 => ?_)
                      · exfalso; omega
                      · refine zw_b (by omega) ?_
                        have r274 : 0 ≤ (m272 a0 7) ∧ (m272 a0 7) ≤ 700 := zi_rd hIm272 hc0 zb_28_7
                        have r275 : 0 ≤ (m272 a0 8) ∧ (m272 a0 8) ≤ 6 := zi_rd hIm272 hc0 zb_28_8
                        have e276 : (m272 a0 8) = (m260 a0 8) := (Eq.trans (zs_ne hmm272 (Or.inr (by decide))) (zs_ne hmm270 (Or.inr (by decide))))
                        have r277 : (-2147483648) ≤ (m272 a0 4) ∧ (m272 a0 4) ≤ 2147483647 := zi_rd hIm272 hc0 zb_28_4
                        have e278 : (m272 a0 4) = 2 := (Eq.trans (zs_ne hmm272 (Or.inr (by decide))) (zs_eq hmm270))
                        exact zw_some ⟨hIm272, hFm272, hRLRm272, hRNSm272, hRTRm272, hRWDm272, ⟨by omega, by omega⟩, by omega, by omega, by omega⟩
                  · refine zw_b (by omega) ?_
                    refine zw_some ?_
                    refine zw_ite (fun h279 => ?_) (fun h279 => ?_)
                    · generalize hmm280 : zu_up m260 a0 11 (m260 a0 9) = m280
                      have hIm280 := zi_up hmm280 hIm260 hc0 zb_28_11 (by omega) (by omega)
                      have hFm280 := zfr_up hmm280 hFm260 hc0 rfl
                      have hRLRm280 := zR_LR_fr (zdis_fr (zfr_up hmm280 (zfr_rf [(28, 12)] _) hc0 rfl) rfl) hRLRm260
                      have hRNSm280 := zR_NS_fr (zdis_fr (zfr_up hmm280 (zfr_rf [(28, 12)] _) hc0 rfl) rfl) hRNSm260
                      have hRTRm280 := zR_TR_fr (zdis_fr (zfr_up hmm280 (zfr_rf [(28, 12)] _) hc0 rfl) rfl) hRTRm260
                      have hRWDm280 := zR_WD_fr (zdis_fr (zfr_up hmm280 (zfr_rf [(28, 12)] _) hc0 rfl) rfl) hRWDm260
                      refine zw_bd (zw_mono (zk_89 n hIm280 hc0 hRNSm280 hRWDm280) (fun v282 m281 hqm281 => ?_))
                      obtain ⟨hIm281, hfm281, hvm281⟩ := hqm281
                      have hFm281 := zfr_tr hFm280 hfm281 rfl
                      obtain ⟨hRNSm281, hRTRm281, hRWDm281, hvm281⟩ := hvm281
                      have hRLRm281 := zR_LR_fr (zdis_fr hfm281 rfl) hRLRm280
                      have s283 := hRNSm281 a0 hc0
                      have s284 := hRTRm281 a0 hc0
                      refine zw_b (by omega) ?_
                      refine zw_some ?_
                      refine zw_ite (fun h285 => ?_) (fun h285 => ?_)
                      · have r286 : (-2147483648) ≤ (m281 a0 11) ∧ (m281 a0 11) ≤ 2147483647 := zi_rd hIm281 hc0 zb_28_11
                        have e287 : (m281 a0 11) = (m260 a0 9) := (Eq.trans (zfr_ap hfm281 hc0 rfl) (zs_eq hmm280))
                        have b288 : 0 ≤ (9 : Int) ∧ (9 : Int) < 10 := by omega
                        refine zw_if b288 ?_
                        generalize hmm289 : zu_up m281 194 9 (m281 a0 11) = m289
                        have hIm289 := zi_up hmm289 hIm281 zq_194 (zb_103 _) (by omega) (by omega)
                        have hFm289 := zfr_up hmm289 hFm281 zq_194 rfl
                        have hRLRm289 := zR_LR_fr (zdis_fr (zfr_up hmm289 (zfr_rf [(103, 0)] _) zq_194 rfl) rfl) hRLRm281
                        have hRNSm289 := zR_NS_fr (zdis_fr (zfr_up hmm289 (zfr_rf [(103, 0)] _) zq_194 rfl) rfl) hRNSm281
                        have hRTRm289 := zR_TR_fr (zdis_fr (zfr_up hmm289 (zfr_rf [(103, 0)] _) zq_194 rfl) rfl) hRTRm281
                        have hRWDm289 := zR_WD_fr (zdis_fr (zfr_up hmm289 (zfr_rf [(103, 0)] _) zq_194 rfl) rfl) hRWDm281
                        refine zw_b (by omega) ?_
                        have r290 : 0 ≤ (m289 a0 7) ∧ (m289 a0 7) ≤ 700 := zi_rd hIm289 hc0 zb_28_7
                        have r291 : 0 ≤ (m289 a0 8) ∧ (m289 a0 8) ≤ 6 := zi_rd hIm289 hc0 zb_28_8
                        have r292 : (-2147483648) ≤ (m289 a0 4) ∧ (m289 a0 4) ≤ 2147483647 := zi_rd hIm289 hc0 zb_28_4
                        have e293 : (m289 a0 4) = (m0 a0 4) := (Eq.trans (zs_ne hmm289 (Or.inl (zc_ne hc0 zq_194 (by decide)))) (Eq.trans (zfr_ap hfm281 hc0 rfl) (Eq.trans (zs_ne hmm280 (Or.inr (by decide))) (Eq.trans (zfr_ap hfm260 hc0 rfl) (zs_ne hmm259 (Or.inl (zc_ne hc0 zq_193 (by decide))))))))
                        exact zw_some ⟨hIm289, hFm289, hRLRm289, hRNSm289, hRTRm289, hRWDm289, ⟨by omega, by omega⟩, by omega, by omega, by omega⟩
                      · exfalso; omega
                    · exfalso; omega
              · refine zw_bd (zw_eq (zu_call_at (zt_T n) (zm_85 n) (zdp_85 n) _ _ _ _ _ rfl (zr_85_0 n _ _ a0 1 m260)) ?_)
                generalize hmm294 : zu_up m260 a0 4 1 = m294
                have hIm294 := zi_up hmm294 hIm260 hc0 zb_28_4 (by omega) (by omega)
                have hFm294 := zfr_up hmm294 hFm260 hc0 rfl
                have hRNSm294 := zR_NS_fr (zdis_fr (zfr_up hmm294 (zfr_rf [(28, 5)] _) hc0 rfl) rfl) hRNSm260
                have hRTRm294 := zR_TR_fr (zdis_fr (zfr_up hmm294 (zfr_rf [(28, 5)] _) hc0 rfl) rfl) hRTRm260
                have hRWDm294 := zR_WD_fr (zdis_fr (zfr_up hmm294 (zfr_rf [(28, 5)] _) hc0 rfl) rfl) hRWDm260
                have hRLRm294 := zLR_wr (zone_190 hc0) hmm294 (by decide)
                have r295 : 0 ≤ (m294 a0 10) ∧ (m294 a0 10) ≤ 700 := zi_rd hIm294 hc0 zb_28_10
                generalize hmm296 : zu_up m294 a0 5 (m294 a0 10) = m296
                have hIm296 := zi_up hmm296 hIm294 hc0 zb_28_5 (by omega) (by omega)
                have hFm296 := zfr_up hmm296 hFm294 hc0 rfl
                have hRLRm296 := zR_LR_fr (zdis_fr (zfr_up hmm296 (zfr_rf [(28, 6)] _) hc0 rfl) rfl) hRLRm294
                have hRNSm296 := zR_NS_fr (zdis_fr (zfr_up hmm296 (zfr_rf [(28, 6)] _) hc0 rfl) rfl) hRNSm294
                have hRTRm296 := zR_TR_fr (zdis_fr (zfr_up hmm296 (zfr_rf [(28, 6)] _) hc0 rfl) rfl) hRTRm294
                have hRWDm296 := zR_WD_fr (zdis_fr (zfr_up hmm296 (zfr_rf [(28, 6)] _) hc0 rfl) rfl) hRWDm294
                refine zw_b (by omega) ?_
                refine zw_some ?_
                refine zw_b (by omega) ?_
                refine zw_some ?_
                refine zw_ite (fun h297 => ?_) (fun h297 => ?_)
                · exfalso; omega
                · refine zw_b (by omega) ?_
                  have r298 : 0 ≤ (m296 a0 7) ∧ (m296 a0 7) ≤ 700 := zi_rd hIm296 hc0 zb_28_7
                  have r299 : 0 ≤ (m296 a0 8) ∧ (m296 a0 8) ≤ 6 := zi_rd hIm296 hc0 zb_28_8
                  have e300 : (m296 a0 8) = (m260 a0 8) := (Eq.trans (zs_ne hmm296 (Or.inr (by decide))) (zs_ne hmm294 (Or.inr (by decide))))
                  have r301 : (-2147483648) ≤ (m296 a0 4) ∧ (m296 a0 4) ≤ 2147483647 := zi_rd hIm296 hc0 zb_28_4
                  have e302 : (m296 a0 4) = 1 := (Eq.trans (zs_ne hmm296 (Or.inr (by decide))) (zs_eq hmm294))
                  exact zw_some ⟨hIm296, hFm296, hRLRm296, hRNSm296, hRTRm296, hRWDm296, ⟨by omega, by omega⟩, by omega, by omega, by omega⟩
          · refine zw_bd (zw_eq (zu_call_at (zt_T n) (zm_85 n) (zdp_85 n) _ _ _ _ _ rfl (zr_85_0 n _ _ a0 3 m0)) ?_)
            generalize hmm303 : zu_up m0 a0 4 3 = m303
            have hIm303 := zi_up hmm303 hIm0 hc0 zb_28_4 (by omega) (by omega)
            have hFm303 := zfr_up hmm303 hFm0 hc0 rfl
            have hRNSm303 := zR_NS_fr (zdis_fr (zfr_up hmm303 (zfr_rf [(28, 5)] _) hc0 rfl) rfl) hRNSm0
            have hRTRm303 := zR_TR_fr (zdis_fr (zfr_up hmm303 (zfr_rf [(28, 5)] _) hc0 rfl) rfl) hRTRm0
            have hRWDm303 := zR_WD_fr (zdis_fr (zfr_up hmm303 (zfr_rf [(28, 5)] _) hc0 rfl) rfl) hRWDm0
            have hRLRm303 := zLR_wr (zone_190 hc0) hmm303 (by decide)
            have r304 : 0 ≤ (m303 a0 10) ∧ (m303 a0 10) ≤ 700 := zi_rd hIm303 hc0 zb_28_10
            generalize hmm305 : zu_up m303 a0 5 (m303 a0 10) = m305
            have hIm305 := zi_up hmm305 hIm303 hc0 zb_28_5 (by omega) (by omega)
            have hFm305 := zfr_up hmm305 hFm303 hc0 rfl
            have hRLRm305 := zR_LR_fr (zdis_fr (zfr_up hmm305 (zfr_rf [(28, 6)] _) hc0 rfl) rfl) hRLRm303
            have hRNSm305 := zR_NS_fr (zdis_fr (zfr_up hmm305 (zfr_rf [(28, 6)] _) hc0 rfl) rfl) hRNSm303
            have hRTRm305 := zR_TR_fr (zdis_fr (zfr_up hmm305 (zfr_rf [(28, 6)] _) hc0 rfl) rfl) hRTRm303
            have hRWDm305 := zR_WD_fr (zdis_fr (zfr_up hmm305 (zfr_rf [(28, 6)] _) hc0 rfl) rfl) hRWDm303
            refine zw_b (by omega) ?_
            refine zw_some ?_
            refine zw_b (by omega) ?_
            refine zw_some ?_
            refine zw_ite (fun h306 => ?_) (fun h306 => ?_)
            · refine zw_b (by omega) ?_
              have r307 : 0 ≤ (m305 a0 7) ∧ (m305 a0 7) ≤ 700 := zi_rd hIm305 hc0 zb_28_7
              have e308 : (m305 a0 7) = (m0 a0 7) := (Eq.trans (zs_ne hmm305 (Or.inr (by decide))) (zs_ne hmm303 (Or.inr (by decide))))
              have r309 : 0 ≤ (m305 a0 8) ∧ (m305 a0 8) ≤ 6 := zi_rd hIm305 hc0 zb_28_8
              have r310 : (-2147483648) ≤ (m305 a0 4) ∧ (m305 a0 4) ≤ 2147483647 := zi_rd hIm305 hc0 zb_28_4
              have e311 : (m305 a0 4) = 3 := (Eq.trans (zs_ne hmm305 (Or.inr (by decide))) (zs_eq hmm303))
              exact zw_some ⟨hIm305, hFm305, hRLRm305, hRNSm305, hRTRm305, hRWDm305, ⟨by omega, by omega⟩, by omega, by omega, by omega⟩
            · exfalso; omega
set_option maxHeartbeats 4000000 in
theorem zl_118 (n : Nat) {a0 : Int} {m0 : zu_m} (hc0 : zcls a0 = 28)  (hxp0 : (m0 a0 21) = (m0 a0 48)) : ∀ k : Nat, (∀ (mh : zu_m), zi_I mh → zfr [(28, 5), (28, 6), (28, 8), (28, 9), (28, 10), (28, 11), (28, 22), (28, 46), (28, 47), (28, 48), (28, 49), (28, 50), (28, 51), (117, 0), (118, 0), (119, 0), (120, 0), (121, 0)] m0 mh → ((m0 a0 7) ≤ (mh a0 7)) → ((mh a0 21) + znz mh = (mh a0 48)) → ((mh a0 46) + (mh a0 49) = zbi mh + 1) → ((mh a0 45) = znz mh + (mh a0 47)) → ((mh a0 49) = 0 → 1 ≤ (mh a0 21)) → ((mh a0 4) = (m0 a0 4)) → (zR_KN mh) → (zR_NS mh) → (zR_TR mh) → (zR_WD mh) → (7 * (700 - (mh a0 7)) + (mh a0 8)) * 1 + 0 < (k : Int) → zw (zu_ex (zt_T n) 118 25 [(40, a0)] [] mh) (fun v m => zi_I m ∧ zfr [(28, 5), (28, 6), (28, 8), (28, 9), (28, 10), (28, 11), (28, 22), (28, 46), (28, 47), (28, 48), (28, 49), (28, 50), (28, 51), (117, 0), (118, 0), (119, 0), (120, 0), (121, 0)] m0 m ∧ zR_KN m ∧ zR_NS m ∧ zR_TR m ∧ zR_WD m ∧ (0 ≤ v ∧ v ≤ 1) ∧ ((m0 a0 7) ≤ (m a0 7)) ∧ (v = 1 → ((m a0 21) = (m a0 48) ∧ 1 ≤ (m a0 21))) ∧ (v = 1 → (m a0 4) = (m0 a0 4)) ∧ (v = 0 → (m a0 4) ≠ 0))) := by
  intro k
  induction k with
  | zero => exact fun mh hImh hFmh hH0 hH1 hH2 hH3 hH4 hH5 hRKNmh hRNSmh hRTRmh hRWDmh hM => by exfalso; omega
  | succ k ih =>
    intro mh hImh hFmh hH0 hH1 hH2 hH3 hH4 hH5 hRKNmh hRNSmh hRTRmh hRWDmh hM
    refine zw_eq (zu_rega_at (zt_T n) (zm_118 n) (zdp_118 n) _ _ _ _ _ _ (zr_118_25 n _ _ a0 mh)) ?_
    have r1 : 0 ≤ (mh a0 7) ∧ (mh a0 7) ≤ 700 := zi_rd hImh hc0 zb_28_7
    have r2 : 0 ≤ (mh a0 21) ∧ (mh a0 21) ≤ 64 := zi_rd hImh hc0 zb_28_21
    have r3 : 0 ≤ (mh a0 48) ∧ (mh a0 48) ≤ 64 := zi_rd hImh hc0 zb_28_48
    have r4 : 0 ≤ (mh a0 46) ∧ (mh a0 46) ≤ 96 := zi_rd hImh hc0 zb_28_46
    have r5 : 0 ≤ (mh a0 49) ∧ (mh a0 49) ≤ 1 := zi_rd hImh hc0 zb_28_49
    have r6 : 0 ≤ (mh a0 45) ∧ (mh a0 45) ≤ 96 := zi_rd hImh hc0 zb_28_45
    have r7 : 0 ≤ (mh a0 47) ∧ (mh a0 47) ≤ 8 := zi_rd hImh hc0 zb_28_47
    have r8 : (-2147483648) ≤ (mh a0 4) ∧ (mh a0 4) ≤ 2147483647 := zi_rd hImh hc0 zb_28_4
    have r9 : 0 ≤ (mh a0 8) ∧ (mh a0 8) ≤ 6 := zi_rd hImh hc0 zb_28_8
    have g10 := zwt_bd hImh hc0
    have s11 := hRNSmh a0 hc0
    have s12 := hRTRmh a0 hc0
    refine zw_bd (zw_eq (zu_call_at (zt_T n) (zm_93 n) (zdp_93 n) _ _ _ _ _ rfl (zr_93_0 n _ _ a0 59 mh)) ?_)
    refine zw_ite (fun h13 => ?_) (fun h13 => ?_)
    · refine zw_b (by omega) ?_
      refine zw_some ?_
      refine zw_ite (fun h14 => ?_) (fun h14 => ?_)
      · refine zw_ite (fun h15 => ?_) (fun h15 => ?_)
        · refine zw_bd (zw_mono (zk_117 n hImh hc0 ⟨by omega, by omega⟩ (by omega) (by omega) (by omega) (by omega) (by omega) hRKNmh hRNSmh hRTRmh hRWDmh) (fun v17 m16 hqm16 => ?_))
          obtain ⟨hIm16, hfm16, hvm16⟩ := hqm16
          have hFm16 := zfr_tr hFmh hfm16 rfl
          obtain ⟨hRKNm16, hRNSm16, hRTRm16, hRWDm16, hvm16⟩ := hvm16
          have g18 := zwt_bd hIm16 hc0
          have s19 := hRNSm16 a0 hc0
          have s20 := hRTRm16 a0 hc0
          refine zw_ite (fun h21 => ?_) (fun h21 => ?_)
          · have r22 : 0 ≤ (m16 a0 7) ∧ (m16 a0 7) ≤ 700 := zi_rd hIm16 hc0 zb_28_7
            have r23 : 0 ≤ (m16 a0 21) ∧ (m16 a0 21) ≤ 64 := zi_rd hIm16 hc0 zb_28_21
            have r24 : 0 ≤ (m16 a0 48) ∧ (m16 a0 48) ≤ 64 := zi_rd hIm16 hc0 zb_28_48
            have r25 : 0 ≤ (m16 a0 46) ∧ (m16 a0 46) ≤ 96 := zi_rd hIm16 hc0 zb_28_46
            have r26 : 0 ≤ (m16 a0 49) ∧ (m16 a0 49) ≤ 1 := zi_rd hIm16 hc0 zb_28_49
            have r27 : 0 ≤ (m16 a0 45) ∧ (m16 a0 45) ≤ 96 := zi_rd hIm16 hc0 zb_28_45
            have r28 : 0 ≤ (m16 a0 47) ∧ (m16 a0 47) ≤ 8 := zi_rd hIm16 hc0 zb_28_47
            have r29 : (-2147483648) ≤ (m16 a0 4) ∧ (m16 a0 4) ≤ 2147483647 := zi_rd hIm16 hc0 zb_28_4
            have r30 : 0 ≤ (m16 a0 8) ∧ (m16 a0 8) ≤ 6 := zi_rd hIm16 hc0 zb_28_8
            have hM : (7 * (700 - (m16 a0 7)) + (m16 a0 8)) * 1 + 0 < (k : Int) := by omega
            exact ih  m16 hIm16 hFm16 (by omega) (by omega) (by omega) (by omega) (by omega) (by omega) hRKNm16 hRNSm16 hRTRm16 hRWDm16 hM
          · refine zw_b (by omega) ?_
            have r31 : 0 ≤ (m16 a0 7) ∧ (m16 a0 7) ≤ 700 := zi_rd hIm16 hc0 zb_28_7
            have r32 : 0 ≤ (m16 a0 21) ∧ (m16 a0 21) ≤ 64 := zi_rd hIm16 hc0 zb_28_21
            have r33 : 0 ≤ (m16 a0 48) ∧ (m16 a0 48) ≤ 64 := zi_rd hIm16 hc0 zb_28_48
            have r34 : (-2147483648) ≤ (m16 a0 4) ∧ (m16 a0 4) ≤ 2147483647 := zi_rd hIm16 hc0 zb_28_4
            exact zw_some ⟨hIm16, hFm16, hRKNm16, hRNSm16, hRTRm16, hRWDm16, ⟨by omega, by omega⟩, by omega, by omega, by omega, by omega⟩
        · refine zw_bd (zw_mono (zk_116 n hImh hc0 ⟨by omega, by omega⟩ (by omega) (by omega) (by omega) (by omega) hRKNmh hRNSmh hRTRmh hRWDmh) (fun v36 m35 hqm35 => ?_))
          obtain ⟨hIm35, hfm35, hvm35⟩ := hqm35
          have hFm35 := zfr_tr hFmh hfm35 rfl
          obtain ⟨hRKNm35, hRNSm35, hRTRm35, hRWDm35, hvm35⟩ := hvm35
          have g37 := zwt_bd hIm35 hc0
          have s38 := hRNSm35 a0 hc0
          have s39 := hRTRm35 a0 hc0
          refine zw_ite (fun h40 => ?_) (fun h40 => ?_)
          · refine zw_b (by omega) ?_
            have r41 : 0 ≤ (m35 a0 7) ∧ (m35 a0 7) ≤ 700 := zi_rd hIm35 hc0 zb_28_7
            have r42 : 0 ≤ (m35 a0 21) ∧ (m35 a0 21) ≤ 64 := zi_rd hIm35 hc0 zb_28_21
            have r43 : 0 ≤ (m35 a0 48) ∧ (m35 a0 48) ≤ 64 := zi_rd hIm35 hc0 zb_28_48
            have r44 : (-2147483648) ≤ (m35 a0 4) ∧ (m35 a0 4) ≤ 2147483647 := zi_rd hIm35 hc0 zb_28_4
            exact zw_some ⟨hIm35, hFm35, hRKNm35, hRNSm35, hRTRm35, hRWDm35, ⟨by omega, by omega⟩, by omega, by omega, by omega, by omega⟩
          · have r45 : 0 ≤ (m35 a0 7) ∧ (m35 a0 7) ≤ 700 := zi_rd hIm35 hc0 zb_28_7
            have r46 : 0 ≤ (m35 a0 21) ∧ (m35 a0 21) ≤ 64 := zi_rd hIm35 hc0 zb_28_21
            have r47 : 0 ≤ (m35 a0 48) ∧ (m35 a0 48) ≤ 64 := zi_rd hIm35 hc0 zb_28_48
            have r48 : 0 ≤ (m35 a0 46) ∧ (m35 a0 46) ≤ 96 := zi_rd hIm35 hc0 zb_28_46
            have r49 : 0 ≤ (m35 a0 49) ∧ (m35 a0 49) ≤ 1 := zi_rd hIm35 hc0 zb_28_49
            have r50 : 0 ≤ (m35 a0 45) ∧ (m35 a0 45) ≤ 96 := zi_rd hIm35 hc0 zb_28_45
            have r51 : 0 ≤ (m35 a0 47) ∧ (m35 a0 47) ≤ 8 := zi_rd hIm35 hc0 zb_28_47
            have r52 : (-2147483648) ≤ (m35 a0 4) ∧ (m35 a0 4) ≤ 2147483647 := zi_rd hIm35 hc0 zb_28_4
            have r53 : 0 ≤ (m35 a0 8) ∧ (m35 a0 8) ≤ 6 := zi_rd hIm35 hc0 zb_28_8
            have hM : (7 * (700 - (m35 a0 7)) + (m35 a0 8)) * 1 + 0 < (k : Int) := by omega
            exact ih  m35 hIm35 hFm35 (by omega) (by omega) (by omega) (by omega) (by omega) (by omega) hRKNm35 hRNSm35 hRTRm35 hRWDm35 hM
      · exfalso; omega
    · have r54 : (-2147483648) ≤ (mh a0 9) ∧ (mh a0 9) ≤ 2147483647 := zi_rd hImh hc0 zb_28_9
      refine zw_ite (fun h55 => ?_) (fun h55 => ?_)
      · refine zw_b (by omega) ?_
        refine zw_some ?_
        refine zw_ite (fun h56 => ?_) (fun h56 => ?_)
        · refine zw_ite (fun h57 => ?_) (fun h57 => ?_)
          · refine zw_bd (zw_mono (zk_117 n hImh hc0 ⟨by omega, by omega⟩ (by omega) (by omega) (by omega) (by omega) (by omega) hRKNmh hRNSmh hRTRmh hRWDmh) (fun v59 m58 hqm58 => ?_))
            obtain ⟨hIm58, hfm58, hvm58⟩ := hqm58
            have hFm58 := zfr_tr hFmh hfm58 rfl
            obtain ⟨hRKNm58, hRNSm58, hRTRm58, hRWDm58, hvm58⟩ := hvm58
            have g60 := zwt_bd hIm58 hc0
            have s61 := hRNSm58 a0 hc0
            have s62 := hRTRm58 a0 hc0
            refine zw_ite (fun h63 => ?_) (fun h63 => ?_)
            · have r64 : 0 ≤ (m58 a0 7) ∧ (m58 a0 7) ≤ 700 := zi_rd hIm58 hc0 zb_28_7
              have r65 : 0 ≤ (m58 a0 21) ∧ (m58 a0 21) ≤ 64 := zi_rd hIm58 hc0 zb_28_21
              have r66 : 0 ≤ (m58 a0 48) ∧ (m58 a0 48) ≤ 64 := zi_rd hIm58 hc0 zb_28_48
              have r67 : 0 ≤ (m58 a0 46) ∧ (m58 a0 46) ≤ 96 := zi_rd hIm58 hc0 zb_28_46
              have r68 : 0 ≤ (m58 a0 49) ∧ (m58 a0 49) ≤ 1 := zi_rd hIm58 hc0 zb_28_49
              have r69 : 0 ≤ (m58 a0 45) ∧ (m58 a0 45) ≤ 96 := zi_rd hIm58 hc0 zb_28_45
              have r70 : 0 ≤ (m58 a0 47) ∧ (m58 a0 47) ≤ 8 := zi_rd hIm58 hc0 zb_28_47
              have r71 : (-2147483648) ≤ (m58 a0 4) ∧ (m58 a0 4) ≤ 2147483647 := zi_rd hIm58 hc0 zb_28_4
              have r72 : 0 ≤ (m58 a0 8) ∧ (m58 a0 8) ≤ 6 := zi_rd hIm58 hc0 zb_28_8
              have hM : (7 * (700 - (m58 a0 7)) + (m58 a0 8)) * 1 + 0 < (k : Int) := by omega
              exact ih  m58 hIm58 hFm58 (by omega) (by omega) (by omega) (by omega) (by omega) (by omega) hRKNm58 hRNSm58 hRTRm58 hRWDm58 hM
            · refine zw_b (by omega) ?_
              have r73 : 0 ≤ (m58 a0 7) ∧ (m58 a0 7) ≤ 700 := zi_rd hIm58 hc0 zb_28_7
              have r74 : 0 ≤ (m58 a0 21) ∧ (m58 a0 21) ≤ 64 := zi_rd hIm58 hc0 zb_28_21
              have r75 : 0 ≤ (m58 a0 48) ∧ (m58 a0 48) ≤ 64 := zi_rd hIm58 hc0 zb_28_48
              have r76 : (-2147483648) ≤ (m58 a0 4) ∧ (m58 a0 4) ≤ 2147483647 := zi_rd hIm58 hc0 zb_28_4
              exact zw_some ⟨hIm58, hFm58, hRKNm58, hRNSm58, hRTRm58, hRWDm58, ⟨by omega, by omega⟩, by omega, by omega, by omega, by omega⟩
          · refine zw_bd (zw_mono (zk_116 n hImh hc0 ⟨by omega, by omega⟩ (by omega) (by omega) (by omega) (by omega) hRKNmh hRNSmh hRTRmh hRWDmh) (fun v78 m77 hqm77 => ?_))
            obtain ⟨hIm77, hfm77, hvm77⟩ := hqm77
            have hFm77 := zfr_tr hFmh hfm77 rfl
            obtain ⟨hRKNm77, hRNSm77, hRTRm77, hRWDm77, hvm77⟩ := hvm77
            have g79 := zwt_bd hIm77 hc0
            have s80 := hRNSm77 a0 hc0
            have s81 := hRTRm77 a0 hc0
            refine zw_ite (fun h82 => ?_) (fun h82 => ?_)
            · refine zw_b (by omega) ?_
              have r83 : 0 ≤ (m77 a0 7) ∧ (m77 a0 7) ≤ 700 := zi_rd hIm77 hc0 zb_28_7
              have r84 : 0 ≤ (m77 a0 21) ∧ (m77 a0 21) ≤ 64 := zi_rd hIm77 hc0 zb_28_21
              have r85 : 0 ≤ (m77 a0 48) ∧ (m77 a0 48) ≤ 64 := zi_rd hIm77 hc0 zb_28_48
              have r86 : (-2147483648) ≤ (m77 a0 4) ∧ (m77 a0 4) ≤ 2147483647 := zi_rd hIm77 hc0 zb_28_4
              exact zw_some ⟨hIm77, hFm77, hRKNm77, hRNSm77, hRTRm77, hRWDm77, ⟨by omega, by omega⟩, by omega, by omega, by omega, by omega⟩
            · have r87 : 0 ≤ (m77 a0 7) ∧ (m77 a0 7) ≤ 700 := zi_rd hIm77 hc0 zb_28_7
              have r88 : 0 ≤ (m77 a0 21) ∧ (m77 a0 21) ≤ 64 := zi_rd hIm77 hc0 zb_28_21
              have r89 : 0 ≤ (m77 a0 48) ∧ (m77 a0 48) ≤ 64 := zi_rd hIm77 hc0 zb_28_48
              have r90 : 0 ≤ (m77 a0 46) ∧ (m77 a0 46) ≤ 96 := zi_rd hIm77 hc0 zb_28_46
              have r91 : 0 ≤ (m77 a0 49) ∧ (m77 a0 49) ≤ 1 := zi_rd hIm77 hc0 zb_28_49
              have r92 : 0 ≤ (m77 a0 45) ∧ (m77 a0 45) ≤ 96 := zi_rd hIm77 hc0 zb_28_45
              have r93 : 0 ≤ (m77 a0 47) ∧ (m77 a0 47) ≤ 8 := zi_rd hIm77 hc0 zb_28_47
              have r94 : (-2147483648) ≤ (m77 a0 4) ∧ (m77 a0 4) ≤ 2147483647 := zi_rd hIm77 hc0 zb_28_4
              have r95 : 0 ≤ (m77 a0 8) ∧ (m77 a0 8) ≤ 6 := zi_rd hIm77 hc0 zb_28_8
              have hM : (7 * (700 - (m77 a0 7)) + (m77 a0 8)) * 1 + 0 < (k : Int) := by omega
              exact ih  m77 hIm77 hFm77 (by omega) (by omega) (by omega) (by omega) (by omega) (by omega) hRKNm77 hRNSm77 hRTRm77 hRWDm77 hM
        · exfalso; omega
      · refine zw_b (by omega) ?_
        refine zw_some ?_
        refine zw_ite (fun h96 => ?_) (fun h96 => ?_)
        · exfalso; omega
        · refine zw_ite (fun h97 => ?_) (fun h97 => ?_)
          · refine zw_ite (fun h98 => ?_) (fun h98 => ?_)
            · exfalso; omega
            · refine zw_bd (zw_mono (zk_116 n hImh hc0 ⟨by omega, by omega⟩ (by omega) (by omega) (by omega) (by omega) hRKNmh hRNSmh hRTRmh hRWDmh) (fun v100 m99 hqm99 => ?_))
              obtain ⟨hIm99, hfm99, hvm99⟩ := hqm99
              have hFm99 := zfr_tr hFmh hfm99 rfl
              obtain ⟨hRKNm99, hRNSm99, hRTRm99, hRWDm99, hvm99⟩ := hvm99
              have g101 := zwt_bd hIm99 hc0
              have s102 := hRNSm99 a0 hc0
              have s103 := hRTRm99 a0 hc0
              refine zw_ite (fun h104 => ?_) (fun h104 => ?_)
              · refine zw_b (by omega) ?_
                have r105 : 0 ≤ (m99 a0 7) ∧ (m99 a0 7) ≤ 700 := zi_rd hIm99 hc0 zb_28_7
                have r106 : 0 ≤ (m99 a0 21) ∧ (m99 a0 21) ≤ 64 := zi_rd hIm99 hc0 zb_28_21
                have r107 : 0 ≤ (m99 a0 48) ∧ (m99 a0 48) ≤ 64 := zi_rd hIm99 hc0 zb_28_48
                have r108 : (-2147483648) ≤ (m99 a0 4) ∧ (m99 a0 4) ≤ 2147483647 := zi_rd hIm99 hc0 zb_28_4
                exact zw_some ⟨hIm99, hFm99, hRKNm99, hRNSm99, hRTRm99, hRWDm99, ⟨by omega, by omega⟩, by omega, by omega, by omega, by omega⟩
              · have r109 : 0 ≤ (m99 a0 7) ∧ (m99 a0 7) ≤ 700 := zi_rd hIm99 hc0 zb_28_7
                have r110 : 0 ≤ (m99 a0 21) ∧ (m99 a0 21) ≤ 64 := zi_rd hIm99 hc0 zb_28_21
                have r111 : 0 ≤ (m99 a0 48) ∧ (m99 a0 48) ≤ 64 := zi_rd hIm99 hc0 zb_28_48
                have r112 : 0 ≤ (m99 a0 46) ∧ (m99 a0 46) ≤ 96 := zi_rd hIm99 hc0 zb_28_46
                have r113 : 0 ≤ (m99 a0 49) ∧ (m99 a0 49) ≤ 1 := zi_rd hIm99 hc0 zb_28_49
                have r114 : 0 ≤ (m99 a0 45) ∧ (m99 a0 45) ≤ 96 := zi_rd hIm99 hc0 zb_28_45
                have r115 : 0 ≤ (m99 a0 47) ∧ (m99 a0 47) ≤ 8 := zi_rd hIm99 hc0 zb_28_47
                have r116 : (-2147483648) ≤ (m99 a0 4) ∧ (m99 a0 4) ≤ 2147483647 := zi_rd hIm99 hc0 zb_28_4
                have r117 : 0 ≤ (m99 a0 8) ∧ (m99 a0 8) ≤ 6 := zi_rd hIm99 hc0 zb_28_8
                have hM : (7 * (700 - (m99 a0 7)) + (m99 a0 8)) * 1 + 0 < (k : Int) := by omega
                exact ih  m99 hIm99 hFm99 (by omega) (by omega) (by omega) (by omega) (by omega) (by omega) hRKNm99 hRNSm99 hRTRm99 hRWDm99 hM
          · refine zw_ite (fun h118 => ?_) (fun h118 => ?_)
            · refine zw_bd (zw_mono (zk_112 n hImh hc0 ⟨by omega, by omega⟩ (by omega) (by omega) (by omega) hRKNmh) (fun v120 m119 hqm119 => ?_))
              obtain ⟨hIm119, hfm119, hvm119⟩ := hqm119
              have hFm119 := zfr_tr hFmh hfm119 rfl
              obtain ⟨hRKNm119, hvm119⟩ := hvm119
              have hRNSm119 := zR_NS_fr (zdis_fr hfm119 rfl) hRNSmh
              have hRTRm119 := zR_TR_fr (zdis_fr hfm119 rfl) hRTRmh
              have hRWDm119 := zR_WD_fr (zdis_fr hfm119 rfl) hRWDmh
              have g121 := zwt_bd hIm119 hc0
              have s122 := hRNSm119 a0 hc0
              have s123 := hRTRm119 a0 hc0
              refine zw_b (by omega) ?_
              have r124 : 0 ≤ (m119 a0 45) ∧ (m119 a0 45) ≤ 96 := zi_rd hIm119 hc0 zb_28_45
              have g125 := zwt_top hIm119 hc0
              have r126 : 0 ≤ (m119 a0 7) ∧ (m119 a0 7) ≤ 700 := zi_rd hIm119 hc0 zb_28_7
              have e127 : (m119 a0 7) = (mh a0 7) := (zfr_ap hfm119 hc0 rfl)
              have r128 : 0 ≤ (m119 a0 21) ∧ (m119 a0 21) ≤ 64 := zi_rd hIm119 hc0 zb_28_21
              have r129 : 0 ≤ (m119 a0 48) ∧ (m119 a0 48) ≤ 64 := zi_rd hIm119 hc0 zb_28_48
              have e130 : (m119 a0 48) = (mh a0 48) := (zfr_ap hfm119 hc0 rfl)
              have r131 : (-2147483648) ≤ (m119 a0 4) ∧ (m119 a0 4) ≤ 2147483647 := zi_rd hIm119 hc0 zb_28_4
              have e132 : (m119 a0 4) = (mh a0 4) := (zfr_ap hfm119 hc0 rfl)
              exact zw_some ⟨hIm119, hFm119, hRKNm119, hRNSm119, hRTRm119, hRWDm119, ⟨by omega, by omega⟩, by omega, by omega, by omega, by omega⟩
            · refine zw_ite (fun h133 => ?_) (fun h133 => ?_)
              · refine zw_bd (zw_mono (zk_117 n hImh hc0 ⟨by omega, by omega⟩ (by omega) (by omega) (by omega) (by omega) (by omega) hRKNmh hRNSmh hRTRmh hRWDmh) (fun v135 m134 hqm134 => ?_))
                obtain ⟨hIm134, hfm134, hvm134⟩ := hqm134
                have hFm134 := zfr_tr hFmh hfm134 rfl
                obtain ⟨hRKNm134, hRNSm134, hRTRm134, hRWDm134, hvm134⟩ := hvm134
                have g136 := zwt_bd hIm134 hc0
                have s137 := hRNSm134 a0 hc0
                have s138 := hRTRm134 a0 hc0
                refine zw_ite (fun h139 => ?_) (fun h139 => ?_)
                · have r140 : 0 ≤ (m134 a0 7) ∧ (m134 a0 7) ≤ 700 := zi_rd hIm134 hc0 zb_28_7
                  have r141 : 0 ≤ (m134 a0 21) ∧ (m134 a0 21) ≤ 64 := zi_rd hIm134 hc0 zb_28_21
                  have r142 : 0 ≤ (m134 a0 48) ∧ (m134 a0 48) ≤ 64 := zi_rd hIm134 hc0 zb_28_48
                  have r143 : 0 ≤ (m134 a0 46) ∧ (m134 a0 46) ≤ 96 := zi_rd hIm134 hc0 zb_28_46
                  have r144 : 0 ≤ (m134 a0 49) ∧ (m134 a0 49) ≤ 1 := zi_rd hIm134 hc0 zb_28_49
                  have r145 : 0 ≤ (m134 a0 45) ∧ (m134 a0 45) ≤ 96 := zi_rd hIm134 hc0 zb_28_45
                  have r146 : 0 ≤ (m134 a0 47) ∧ (m134 a0 47) ≤ 8 := zi_rd hIm134 hc0 zb_28_47
                  have r147 : (-2147483648) ≤ (m134 a0 4) ∧ (m134 a0 4) ≤ 2147483647 := zi_rd hIm134 hc0 zb_28_4
                  have r148 : 0 ≤ (m134 a0 8) ∧ (m134 a0 8) ≤ 6 := zi_rd hIm134 hc0 zb_28_8
                  have hM : (7 * (700 - (m134 a0 7)) + (m134 a0 8)) * 1 + 0 < (k : Int) := by omega
                  exact ih  m134 hIm134 hFm134 (by omega) (by omega) (by omega) (by omega) (by omega) (by omega) hRKNm134 hRNSm134 hRTRm134 hRWDm134 hM
                · refine zw_b (by omega) ?_
                  have r149 : 0 ≤ (m134 a0 7) ∧ (m134 a0 7) ≤ 700 := zi_rd hIm134 hc0 zb_28_7
                  have r150 : 0 ≤ (m134 a0 21) ∧ (m134 a0 21) ≤ 64 := zi_rd hIm134 hc0 zb_28_21
                  have r151 : 0 ≤ (m134 a0 48) ∧ (m134 a0 48) ≤ 64 := zi_rd hIm134 hc0 zb_28_48
                  have r152 : (-2147483648) ≤ (m134 a0 4) ∧ (m134 a0 4) ≤ 2147483647 := zi_rd hIm134 hc0 zb_28_4
                  exact zw_some ⟨hIm134, hFm134, hRKNm134, hRNSm134, hRTRm134, hRWDm134, ⟨by omega, by omega⟩, by omega, by omega, by omega, by omega⟩
              · exfalso; omega
set_option maxHeartbeats 4000000 in
theorem zk_118 (n : Nat) {a0 : Int} {m0 : zu_m} (hIm0 : zi_I m0) (hc0 : zcls a0 = 28)    (hxp0 : (m0 a0 21) = (m0 a0 48)) (hRKNm0 : zR_KN m0) (hRNSm0 : zR_NS m0) (hRTRm0 : zR_TR m0) (hRWDm0 : zR_WD m0) : zw (zu_call (zt_T n) 118 [(40, a0)] m0) (fun v m => zi_I m ∧ zfr [(28, 5), (28, 6), (28, 8), (28, 9), (28, 10), (28, 11), (28, 22), (28, 46), (28, 47), (28, 48), (28, 49), (28, 50), (28, 51), (117, 0), (118, 0), (119, 0), (120, 0), (121, 0)] m0 m ∧ zR_KN m ∧ zR_NS m ∧ zR_TR m ∧ zR_WD m ∧ (0 ≤ v ∧ v ≤ 1) ∧ ((m0 a0 7) ≤ (m a0 7)) ∧ (v = 1 → ((m a0 21) = (m a0 48) ∧ 1 ≤ (m a0 21))) ∧ (v = 1 → (m a0 4) = (m0 a0 4)) ∧ (v = 0 → (m a0 4) ≠ 0)) := by
  have hFm0 : zfr [(28, 5), (28, 6), (28, 8), (28, 9), (28, 10), (28, 11), (28, 22), (28, 46), (28, 47), (28, 48), (28, 49), (28, 50), (28, 51), (117, 0), (118, 0), (119, 0), (120, 0), (121, 0)] m0 m0 := zfr_rf _ _
  have r153 : 0 ≤ (m0 a0 7) ∧ (m0 a0 7) ≤ 700 := zi_rd hIm0 hc0 zb_28_7
  have r154 : (-2147483648) ≤ (m0 a0 4) ∧ (m0 a0 4) ≤ 2147483647 := zi_rd hIm0 hc0 zb_28_4
  have r155 : 0 ≤ (m0 a0 21) ∧ (m0 a0 21) ≤ 64 := zi_rd hIm0 hc0 zb_28_21
  have r156 : 0 ≤ (m0 a0 48) ∧ (m0 a0 48) ≤ 64 := zi_rd hIm0 hc0 zb_28_48
  have g157 := zwt_bd hIm0 hc0
  have s158 := hRNSm0 a0 hc0
  have s159 := hRTRm0 a0 hc0
  refine zw_eq (zu_call_at (zt_T n) (zm_118 n) (zdp_118 n) _ _ _ _ _ rfl (zr_118_0 n _ _ a0 m0)) ?_
  generalize hmm160 : zu_up m0 a0 45 0 = m160
  have hIm160 := zi_up hmm160 hIm0 hc0 zb_28_45 (by omega) (by omega)
  have hFm160 := zfr_up hmm160 hFm0 hc0 rfl
  have hRKNm160 := zR_KN_fr (zdis_fr (zfr_up hmm160 (zfr_rf [(28, 46)] _) hc0 rfl) rfl) hRKNm0
  have hRNSm160 := zR_NS_fr (zdis_fr (zfr_up hmm160 (zfr_rf [(28, 46)] _) hc0 rfl) rfl) hRNSm0
  have hRTRm160 := zR_TR_fr (zdis_fr (zfr_up hmm160 (zfr_rf [(28, 46)] _) hc0 rfl) rfl) hRTRm0
  have hRWDm160 := zR_WD_fr (zdis_fr (zfr_up hmm160 (zfr_rf [(28, 46)] _) hc0 rfl) rfl) hRWDm0
  have g161 := zwt_zero hmm160 hc0
  generalize hmm162 : zu_up m160 a0 46 0 = m162
  have hIm162 := zi_up hmm162 hIm160 hc0 zb_28_46 (by omega) (by omega)
  have hFm162 := zfr_up hmm162 hFm160 hc0 rfl
  have g163 := zwt_fr (zdis_fr (zfr_up hmm162 (zfr_rf [(28, 47)] _) hc0 rfl) rfl)
  have hRKNm162 := zR_KN_fr (zdis_fr (zfr_up hmm162 (zfr_rf [(28, 47)] _) hc0 rfl) rfl) hRKNm160
  have hRNSm162 := zR_NS_fr (zdis_fr (zfr_up hmm162 (zfr_rf [(28, 47)] _) hc0 rfl) rfl) hRNSm160
  have hRTRm162 := zR_TR_fr (zdis_fr (zfr_up hmm162 (zfr_rf [(28, 47)] _) hc0 rfl) rfl) hRTRm160
  have hRWDm162 := zR_WD_fr (zdis_fr (zfr_up hmm162 (zfr_rf [(28, 47)] _) hc0 rfl) rfl) hRWDm160
  generalize hmm164 : zu_up m162 a0 47 0 = m164
  have hIm164 := zi_up hmm164 hIm162 hc0 zb_28_47 (by omega) (by omega)
  have hFm164 := zfr_up hmm164 hFm162 hc0 rfl
  have g165 := zwt_fr (zdis_fr (zfr_up hmm164 (zfr_rf [(28, 48)] _) hc0 rfl) rfl)
  have hRKNm164 := zR_KN_fr (zdis_fr (zfr_up hmm164 (zfr_rf [(28, 48)] _) hc0 rfl) rfl) hRKNm162
  have hRNSm164 := zR_NS_fr (zdis_fr (zfr_up hmm164 (zfr_rf [(28, 48)] _) hc0 rfl) rfl) hRNSm162
  have hRTRm164 := zR_TR_fr (zdis_fr (zfr_up hmm164 (zfr_rf [(28, 48)] _) hc0 rfl) rfl) hRTRm162
  have hRWDm164 := zR_WD_fr (zdis_fr (zfr_up hmm164 (zfr_rf [(28, 48)] _) hc0 rfl) rfl) hRWDm162
  refine zw_b (by omega) ?_
  generalize hmm166 : zu_up m164 a0 49 1 = m166
  have hIm166 := zi_up hmm166 hIm164 hc0 zb_28_49 (by omega) (by omega)
  have hFm166 := zfr_up hmm166 hFm164 hc0 rfl
  have g167 := zwt_fr (zdis_fr (zfr_up hmm166 (zfr_rf [(28, 50)] _) hc0 rfl) rfl)
  have hRKNm166 := zR_KN_fr (zdis_fr (zfr_up hmm166 (zfr_rf [(28, 50)] _) hc0 rfl) rfl) hRKNm164
  have hRNSm166 := zR_NS_fr (zdis_fr (zfr_up hmm166 (zfr_rf [(28, 50)] _) hc0 rfl) rfl) hRNSm164
  have hRTRm166 := zR_TR_fr (zdis_fr (zfr_up hmm166 (zfr_rf [(28, 50)] _) hc0 rfl) rfl) hRTRm164
  have hRWDm166 := zR_WD_fr (zdis_fr (zfr_up hmm166 (zfr_rf [(28, 50)] _) hc0 rfl) rfl) hRWDm164
  refine zw_b (by omega) ?_
  generalize hmm168 : zu_up m166 a0 50 1 = m168
  have hIm168 := zi_up hmm168 hIm166 hc0 zb_28_50 (by omega) (by omega)
  have hFm168 := zfr_up hmm168 hFm166 hc0 rfl
  have g169 := zwt_fr (zdis_fr (zfr_up hmm168 (zfr_rf [(28, 51)] _) hc0 rfl) rfl)
  have hRKNm168 := zR_KN_fr (zdis_fr (zfr_up hmm168 (zfr_rf [(28, 51)] _) hc0 rfl) rfl) hRKNm166
  have hRNSm168 := zR_NS_fr (zdis_fr (zfr_up hmm168 (zfr_rf [(28, 51)] _) hc0 rfl) rfl) hRNSm166
  have hRTRm168 := zR_TR_fr (zdis_fr (zfr_up hmm168 (zfr_rf [(28, 51)] _) hc0 rfl) rfl) hRTRm166
  have hRWDm168 := zR_WD_fr (zdis_fr (zfr_up hmm168 (zfr_rf [(28, 51)] _) hc0 rfl) rfl) hRWDm166
  have r170 : 0 ≤ (m168 a0 7) ∧ (m168 a0 7) ≤ 700 := zi_rd hIm168 hc0 zb_28_7
  have e171 : (m168 a0 7) = (m0 a0 7) := (Eq.trans (zs_ne hmm168 (Or.inr (by decide))) (Eq.trans (zs_ne hmm166 (Or.inr (by decide))) (Eq.trans (zs_ne hmm164 (Or.inr (by decide))) (Eq.trans (zs_ne hmm162 (Or.inr (by decide))) (zs_ne hmm160 (Or.inr (by decide)))))))
  have r172 : 0 ≤ (m168 a0 21) ∧ (m168 a0 21) ≤ 64 := zi_rd hIm168 hc0 zb_28_21
  have e173 : (m168 a0 21) = (m0 a0 21) := (Eq.trans (zs_ne hmm168 (Or.inr (by decide))) (Eq.trans (zs_ne hmm166 (Or.inr (by decide))) (Eq.trans (zs_ne hmm164 (Or.inr (by decide))) (Eq.trans (zs_ne hmm162 (Or.inr (by decide))) (zs_ne hmm160 (Or.inr (by decide)))))))
  have r174 : 0 ≤ (m168 a0 48) ∧ (m168 a0 48) ≤ 64 := zi_rd hIm168 hc0 zb_28_48
  have e175 : (m168 a0 48) = (m0 a0 48) := (Eq.trans (zs_ne hmm168 (Or.inr (by decide))) (Eq.trans (zs_ne hmm166 (Or.inr (by decide))) (Eq.trans (zs_ne hmm164 (Or.inr (by decide))) (Eq.trans (zs_ne hmm162 (Or.inr (by decide))) (zs_ne hmm160 (Or.inr (by decide)))))))
  have r176 : 0 ≤ (m168 a0 46) ∧ (m168 a0 46) ≤ 96 := zi_rd hIm168 hc0 zb_28_46
  have e177 : (m168 a0 46) = 0 := (Eq.trans (zs_ne hmm168 (Or.inr (by decide))) (Eq.trans (zs_ne hmm166 (Or.inr (by decide))) (Eq.trans (zs_ne hmm164 (Or.inr (by decide))) (zs_eq hmm162))))
  have r178 : 0 ≤ (m168 a0 49) ∧ (m168 a0 49) ≤ 1 := zi_rd hIm168 hc0 zb_28_49
  have e179 : (m168 a0 49) = 1 := (Eq.trans (zs_ne hmm168 (Or.inr (by decide))) (zs_eq hmm166))
  have r180 : 0 ≤ (m168 a0 45) ∧ (m168 a0 45) ≤ 96 := zi_rd hIm168 hc0 zb_28_45
  have e181 : (m168 a0 45) = 0 := (Eq.trans (zs_ne hmm168 (Or.inr (by decide))) (Eq.trans (zs_ne hmm166 (Or.inr (by decide))) (Eq.trans (zs_ne hmm164 (Or.inr (by decide))) (Eq.trans (zs_ne hmm162 (Or.inr (by decide))) (zs_eq hmm160)))))
  have r182 : 0 ≤ (m168 a0 47) ∧ (m168 a0 47) ≤ 8 := zi_rd hIm168 hc0 zb_28_47
  have e183 : (m168 a0 47) = 0 := (Eq.trans (zs_ne hmm168 (Or.inr (by decide))) (Eq.trans (zs_ne hmm166 (Or.inr (by decide))) (zs_eq hmm164)))
  have r184 : (-2147483648) ≤ (m168 a0 4) ∧ (m168 a0 4) ≤ 2147483647 := zi_rd hIm168 hc0 zb_28_4
  have e185 : (m168 a0 4) = (m0 a0 4) := (Eq.trans (zs_ne hmm168 (Or.inr (by decide))) (Eq.trans (zs_ne hmm166 (Or.inr (by decide))) (Eq.trans (zs_ne hmm164 (Or.inr (by decide))) (Eq.trans (zs_ne hmm162 (Or.inr (by decide))) (zs_ne hmm160 (Or.inr (by decide)))))))
  have r186 : 0 ≤ (m168 a0 8) ∧ (m168 a0 8) ≤ 6 := zi_rd hIm168 hc0 zb_28_8
  have hM : (7 * (700 - (m168 a0 7)) + (m168 a0 8)) * 1 + 0 < ((4907 : Nat) : Int) := by omega
  exact (zl_118 n (m0 := m0) hc0 hxp0 4907)  m168 hIm168 hFm168 (by omega) (by omega) (by omega) (by omega) (by omega) (by omega) hRKNm168 hRNSm168 hRTRm168 hRWDm168 hM

set_option maxHeartbeats 4000000 in
theorem zk_103 (n : Nat) {a0 : Int} {m0 : zu_m} (hIm0 : zi_I m0) (hc0 : zcls a0 = 28)   (he0 : 1 ≤ m0 a0 8 ∧ m0 a0 8 ≤ 1) (he1 : 11 ≤ m0 a0 9 ∧ m0 a0 9 ≤ 11) (hxp0 : (m0 a0 21) = (m0 a0 48)) (hxp1 : (m0 a0 4) = 0) (hRKNm0 : zR_KN m0) (hRLRm0 : zR_LR m0) (hRLTm0 : zR_LT m0) (hRNSm0 : zR_NS m0) (hRTRm0 : zR_TR m0) (hRWDm0 : zR_WD m0) : zw (zu_call (zt_T n) 103 [(40, a0)] m0) (fun v m => zi_I m ∧ zfr [(28, 5), (28, 6), (28, 8), (28, 9), (28, 10), (28, 11), (28, 22), (28, 46), (28, 47), (28, 48), (28, 49), (28, 50), (28, 51), (114, 0), (115, 0), (116, 0), (117, 0), (118, 0), (119, 0), (120, 0), (121, 0)] m0 m ∧ zR_KN m ∧ zR_LR m ∧ zR_LT m ∧ zR_NS m ∧ zR_TR m ∧ zR_WD m ∧ (0 ≤ v ∧ v ≤ 1) ∧ ((m0 a0 7) ≤ (m a0 7)) ∧ (v = 1 → ((m a0 8) = 0 ∨ (m0 a0 7) < (m a0 7))) ∧ (v = 1 → (m a0 21) = (m a0 48)) ∧ (v = 1 → (m a0 4) = (m0 a0 4))) := by
  have hFm0 : zfr [(28, 5), (28, 6), (28, 8), (28, 9), (28, 10), (28, 11), (28, 22), (28, 46), (28, 47), (28, 48), (28, 49), (28, 50), (28, 51), (114, 0), (115, 0), (116, 0), (117, 0), (118, 0), (119, 0), (120, 0), (121, 0)] m0 m0 := zfr_rf _ _
  have r1 : 0 ≤ (m0 a0 7) ∧ (m0 a0 7) ≤ 700 := zi_rd hIm0 hc0 zb_28_7
  have r2 : (-2147483648) ≤ (m0 a0 4) ∧ (m0 a0 4) ≤ 2147483647 := zi_rd hIm0 hc0 zb_28_4
  have r3 : 0 ≤ (m0 a0 21) ∧ (m0 a0 21) ≤ 64 := zi_rd hIm0 hc0 zb_28_21
  have r4 : 0 ≤ (m0 a0 48) ∧ (m0 a0 48) ≤ 64 := zi_rd hIm0 hc0 zb_28_48
  have s5 := hRNSm0 a0 hc0
  refine zw_eq (zu_call_at (zt_T n) (zm_103 n) (zdp_103 n) _ _ _ _ _ rfl (zr_103_0 n _ _ a0 m0)) ?_
  refine zw_bd (zw_mono (zk_89 n hIm0 hc0 hRNSm0 hRWDm0) (fun v7 m6 hqm6 => ?_))
  obtain ⟨hIm6, hfm6, hvm6⟩ := hqm6
  have hFm6 := zfr_tr hFm0 hfm6 rfl
  obtain ⟨hRNSm6, hRTRm6, hRWDm6, hvm6⟩ := hvm6
  have hRKNm6 := zR_KN_fr (zdis_fr hfm6 rfl) hRKNm0
  have hRLRm6 := zR_LR_fr (zdis_fr hfm6 rfl) hRLRm0
  have hRLTm6 := zR_LT_fr (zdis_fr hfm6 rfl) hRLTm0
  have s8 := hRNSm6 a0 hc0
  have r9 : 0 ≤ (m6 a0 7) ∧ (m6 a0 7) ≤ 700 := zi_rd hIm6 hc0 zb_28_7
  have r10 : 0 ≤ (m6 a0 8) ∧ (m6 a0 8) ≤ 6 := zi_rd hIm6 hc0 zb_28_8
  refine zw_ite (fun h11 => ?_) (fun h11 => ?_)
  · refine zw_bd (zw_eq (zu_call_at (zt_T n) (zm_85 n) (zdp_85 n) _ _ _ _ _ rfl (zr_85_0 n _ _ a0 1 m6)) ?_)
    generalize hmm13 : zu_up m6 a0 4 1 = m13
    have hIm13 := zi_up hmm13 hIm6 hc0 zb_28_4 (by omega) (by omega)
    have hFm13 := zfr_up hmm13 hFm6 hc0 rfl
    have hRKNm13 := zR_KN_fr (zdis_fr (zfr_up hmm13 (zfr_rf [(28, 5)] _) hc0 rfl) rfl) hRKNm6
    have hRLTm13 := zR_LT_fr (zdis_fr (zfr_up hmm13 (zfr_rf [(28, 5)] _) hc0 rfl) rfl) hRLTm6
    have hRNSm13 := zR_NS_fr (zdis_fr (zfr_up hmm13 (zfr_rf [(28, 5)] _) hc0 rfl) rfl) hRNSm6
    have hRTRm13 := zR_TR_fr (zdis_fr (zfr_up hmm13 (zfr_rf [(28, 5)] _) hc0 rfl) rfl) hRTRm6
    have hRWDm13 := zR_WD_fr (zdis_fr (zfr_up hmm13 (zfr_rf [(28, 5)] _) hc0 rfl) rfl) hRWDm6
    have hRLRm13 := zLR_wr (zone_190 hc0) hmm13 (by decide)
    have r14 : 0 ≤ (m13 a0 10) ∧ (m13 a0 10) ≤ 700 := zi_rd hIm13 hc0 zb_28_10
    generalize hmm15 : zu_up m13 a0 5 (m13 a0 10) = m15
    have hIm15 := zi_up hmm15 hIm13 hc0 zb_28_5 (by omega) (by omega)
    have hFm15 := zfr_up hmm15 hFm13 hc0 rfl
    have hRKNm15 := zR_KN_fr (zdis_fr (zfr_up hmm15 (zfr_rf [(28, 6)] _) hc0 rfl) rfl) hRKNm13
    have hRLRm15 := zR_LR_fr (zdis_fr (zfr_up hmm15 (zfr_rf [(28, 6)] _) hc0 rfl) rfl) hRLRm13
    have hRLTm15 := zR_LT_fr (zdis_fr (zfr_up hmm15 (zfr_rf [(28, 6)] _) hc0 rfl) rfl) hRLTm13
    have hRNSm15 := zR_NS_fr (zdis_fr (zfr_up hmm15 (zfr_rf [(28, 6)] _) hc0 rfl) rfl) hRNSm13
    have hRTRm15 := zR_TR_fr (zdis_fr (zfr_up hmm15 (zfr_rf [(28, 6)] _) hc0 rfl) rfl) hRTRm13
    have hRWDm15 := zR_WD_fr (zdis_fr (zfr_up hmm15 (zfr_rf [(28, 6)] _) hc0 rfl) rfl) hRWDm13
    refine zw_b (by omega) ?_
    refine zw_some ?_
    refine zw_b (by omega) ?_
    have r16 : 0 ≤ (m15 a0 7) ∧ (m15 a0 7) ≤ 700 := zi_rd hIm15 hc0 zb_28_7
    have e17 : (m15 a0 7) = (m6 a0 7) := (Eq.trans (zs_ne hmm15 (Or.inr (by decide))) (zs_ne hmm13 (Or.inr (by decide))))
    have r18 : 0 ≤ (m15 a0 8) ∧ (m15 a0 8) ≤ 6 := zi_rd hIm15 hc0 zb_28_8
    have e19 : (m15 a0 8) = (m6 a0 8) := (Eq.trans (zs_ne hmm15 (Or.inr (by decide))) (zs_ne hmm13 (Or.inr (by decide))))
    have r20 : 0 ≤ (m15 a0 21) ∧ (m15 a0 21) ≤ 64 := zi_rd hIm15 hc0 zb_28_21
    have e21 : (m15 a0 21) = (m0 a0 21) := (Eq.trans (zs_ne hmm15 (Or.inr (by decide))) (Eq.trans (zs_ne hmm13 (Or.inr (by decide))) (zfr_ap hfm6 hc0 rfl)))
    have r22 : 0 ≤ (m15 a0 48) ∧ (m15 a0 48) ≤ 64 := zi_rd hIm15 hc0 zb_28_48
    have e23 : (m15 a0 48) = (m0 a0 48) := (Eq.trans (zs_ne hmm15 (Or.inr (by decide))) (Eq.trans (zs_ne hmm13 (Or.inr (by decide))) (zfr_ap hfm6 hc0 rfl)))
    have r24 : (-2147483648) ≤ (m15 a0 4) ∧ (m15 a0 4) ≤ 2147483647 := zi_rd hIm15 hc0 zb_28_4
    have e25 : (m15 a0 4) = 1 := (Eq.trans (zs_ne hmm15 (Or.inr (by decide))) (zs_eq hmm13))
    exact zw_some ⟨hIm15, hFm15, hRKNm15, hRLRm15, hRLTm15, hRNSm15, hRTRm15, hRWDm15, ⟨by decide, by decide⟩, by omega, fun h => absurd h (by decide), fun h => absurd h (by decide), fun h => absurd h (by decide)⟩
  · have s12 := (hRTRm6 a0 hc0).2.1 (by omega)
    refine zw_ite (fun h26 => ?_) (fun h26 => ?_)
    · refine zw_bd (zw_eq (zu_call_at (zt_T n) (zm_85 n) (zdp_85 n) _ _ _ _ _ rfl (zr_85_0 n _ _ a0 1 m6)) ?_)
      generalize hmm27 : zu_up m6 a0 4 1 = m27
      have hIm27 := zi_up hmm27 hIm6 hc0 zb_28_4 (by omega) (by omega)
      have hFm27 := zfr_up hmm27 hFm6 hc0 rfl
      have hRKNm27 := zR_KN_fr (zdis_fr (zfr_up hmm27 (zfr_rf [(28, 5)] _) hc0 rfl) rfl) hRKNm6
      have hRLTm27 := zR_LT_fr (zdis_fr (zfr_up hmm27 (zfr_rf [(28, 5)] _) hc0 rfl) rfl) hRLTm6
      have hRNSm27 := zR_NS_fr (zdis_fr (zfr_up hmm27 (zfr_rf [(28, 5)] _) hc0 rfl) rfl) hRNSm6
      have hRTRm27 := zR_TR_fr (zdis_fr (zfr_up hmm27 (zfr_rf [(28, 5)] _) hc0 rfl) rfl) hRTRm6
      have hRWDm27 := zR_WD_fr (zdis_fr (zfr_up hmm27 (zfr_rf [(28, 5)] _) hc0 rfl) rfl) hRWDm6
      have hRLRm27 := zLR_wr (zone_190 hc0) hmm27 (by decide)
      have r28 : 0 ≤ (m27 a0 10) ∧ (m27 a0 10) ≤ 700 := zi_rd hIm27 hc0 zb_28_10
      generalize hmm29 : zu_up m27 a0 5 (m27 a0 10) = m29
      have hIm29 := zi_up hmm29 hIm27 hc0 zb_28_5 (by omega) (by omega)
      have hFm29 := zfr_up hmm29 hFm27 hc0 rfl
      have hRKNm29 := zR_KN_fr (zdis_fr (zfr_up hmm29 (zfr_rf [(28, 6)] _) hc0 rfl) rfl) hRKNm27
      have hRLRm29 := zR_LR_fr (zdis_fr (zfr_up hmm29 (zfr_rf [(28, 6)] _) hc0 rfl) rfl) hRLRm27
      have hRLTm29 := zR_LT_fr (zdis_fr (zfr_up hmm29 (zfr_rf [(28, 6)] _) hc0 rfl) rfl) hRLTm27
      have hRNSm29 := zR_NS_fr (zdis_fr (zfr_up hmm29 (zfr_rf [(28, 6)] _) hc0 rfl) rfl) hRNSm27
      have hRTRm29 := zR_TR_fr (zdis_fr (zfr_up hmm29 (zfr_rf [(28, 6)] _) hc0 rfl) rfl) hRTRm27
      have hRWDm29 := zR_WD_fr (zdis_fr (zfr_up hmm29 (zfr_rf [(28, 6)] _) hc0 rfl) rfl) hRWDm27
      refine zw_b (by omega) ?_
      refine zw_some ?_
      refine zw_b (by omega) ?_
      have r30 : 0 ≤ (m29 a0 7) ∧ (m29 a0 7) ≤ 700 := zi_rd hIm29 hc0 zb_28_7
      have e31 : (m29 a0 7) = (m6 a0 7) := (Eq.trans (zs_ne hmm29 (Or.inr (by decide))) (zs_ne hmm27 (Or.inr (by decide))))
      have r32 : 0 ≤ (m29 a0 8) ∧ (m29 a0 8) ≤ 6 := zi_rd hIm29 hc0 zb_28_8
      have e33 : (m29 a0 8) = (m6 a0 8) := (Eq.trans (zs_ne hmm29 (Or.inr (by decide))) (zs_ne hmm27 (Or.inr (by decide))))
      have r34 : 0 ≤ (m29 a0 21) ∧ (m29 a0 21) ≤ 64 := zi_rd hIm29 hc0 zb_28_21
      have e35 : (m29 a0 21) = (m0 a0 21) := (Eq.trans (zs_ne hmm29 (Or.inr (by decide))) (Eq.trans (zs_ne hmm27 (Or.inr (by decide))) (zfr_ap hfm6 hc0 rfl)))
      have r36 : 0 ≤ (m29 a0 48) ∧ (m29 a0 48) ≤ 64 := zi_rd hIm29 hc0 zb_28_48
      have e37 : (m29 a0 48) = (m0 a0 48) := (Eq.trans (zs_ne hmm29 (Or.inr (by decide))) (Eq.trans (zs_ne hmm27 (Or.inr (by decide))) (zfr_ap hfm6 hc0 rfl)))
      have r38 : (-2147483648) ≤ (m29 a0 4) ∧ (m29 a0 4) ≤ 2147483647 := zi_rd hIm29 hc0 zb_28_4
      have e39 : (m29 a0 4) = 1 := (Eq.trans (zs_ne hmm29 (Or.inr (by decide))) (zs_eq hmm27))
      exact zw_some ⟨hIm29, hFm29, hRKNm29, hRLRm29, hRLTm29, hRNSm29, hRTRm29, hRWDm29, ⟨by decide, by decide⟩, by omega, fun h => absurd h (by decide), fun h => absurd h (by decide), fun h => absurd h (by decide)⟩
    · refine zw_ite (fun h40 => ?_) (fun h40 => ?_)
      · have w41 := zu_w32_id (z := 4 + (m6 a0 9)) (by omega) (by omega)
        have w42 := zu_w32_id (z := (zu_w32 (4 + (m6 a0 9))) - 19) (by omega) (by omega)
        have b43 : 0 ≤ (zu_w32 ((zu_w32 (4 + (m6 a0 9))) - 19)) ∧ (zu_w32 ((zu_w32 (4 + (m6 a0 9))) - 19)) < 8 := by omega
        refine zw_if b43 ?_
        have r44 : 0 ≤ (m6 205 (zu_w32 ((zu_w32 (4 + (m6 a0 9))) - 19))) ∧ (m6 205 (zu_w32 ((zu_w32 (4 + (m6 a0 9))) - 19))) ≤ 1 := zi_rd hIm6 zq_205 (zb_114 _)
        refine zw_ite (fun h45 => ?_) (fun h45 => ?_)
        · refine zw_b (by omega) ?_
          have b46 : 0 ≤ (zu_w32 ((zu_w32 (4 + (m6 a0 9))) - 19)) ∧ (zu_w32 ((zu_w32 (4 + (m6 a0 9))) - 19)) < 8 := by omega
          refine zw_if b46 ?_
          generalize hmm47 : zu_up m6 205 (zu_w32 ((zu_w32 (4 + (m6 a0 9))) - 19)) 1 = m47
          have hIm47 := zi_up hmm47 hIm6 zq_205 (zb_114 _) (by omega) (by omega)
          have hFm47 := zfr_up hmm47 hFm6 zq_205 rfl
          have hRKNm47 := zR_KN_fr (zdis_fr (zfr_up hmm47 (zfr_rf [(114, 0)] _) zq_205 rfl) rfl) hRKNm6
          have hRNSm47 := zR_NS_fr (zdis_fr (zfr_up hmm47 (zfr_rf [(114, 0)] _) zq_205 rfl) rfl) hRNSm6
          have hRTRm47 := zR_TR_fr (zdis_fr (zfr_up hmm47 (zfr_rf [(114, 0)] _) zq_205 rfl) rfl) hRTRm6
          have hRWDm47 := zR_WD_fr (zdis_fr (zfr_up hmm47 (zfr_rf [(114, 0)] _) zq_205 rfl) rfl) hRWDm6
          have r48 : (-2147483648) ≤ (m6 a0 4) ∧ (m6 a0 4) ≤ 2147483647 := zi_rd hIm6 hc0 zb_28_4
          have e49 : (m6 a0 4) = (m0 a0 4) := (zfr_ap hfm6 hc0 rfl)
          have hRLTm47 := zLT_h5 hmm47 (by omega) hRLTm6
          have r52 : 0 ≤ (m47 a0 7) ∧ (m47 a0 7) ≤ 700 := zi_rd hIm47 hc0 zb_28_7
          have e53 : (m47 a0 7) = (m6 a0 7) := (zs_ne hmm47 (Or.inl (zc_ne hc0 zq_205 (by decide))))
          refine zw_bd (zw_mono (zk_89 n hIm47 hc0 hRNSm47 hRWDm47) (fun v51 m50 hqm50 => ?_))
          obtain ⟨hIm50, hfm50, hvm50⟩ := hqm50
          have hFm50 := zfr_tr hFm47 hfm50 rfl
          obtain ⟨hRNSm50, hRTRm50, hRWDm50, hvm50⟩ := hvm50
          have hRKNm50 := zR_KN_fr (zdis_fr hfm50 rfl) hRKNm47
          have hRLTm50 := zR_LT_fr (zdis_fr hfm50 rfl) hRLTm47
          have s54 := hRNSm50 a0 hc0
          have r55 : 0 ≤ (m50 a0 7) ∧ (m50 a0 7) ≤ 700 := zi_rd hIm50 hc0 zb_28_7
          have r56 : 0 ≤ (m50 a0 8) ∧ (m50 a0 8) ≤ 6 := zi_rd hIm50 hc0 zb_28_8
          have r57 : 0 ≤ (m50 a0 21) ∧ (m50 a0 21) ≤ 64 := zi_rd hIm50 hc0 zb_28_21
          have e58 : (m50 a0 21) = (m0 a0 21) := (Eq.trans (zfr_ap hfm50 hc0 rfl) (Eq.trans (zs_ne hmm47 (Or.inl (zc_ne hc0 zq_205 (by decide)))) (zfr_ap hfm6 hc0 rfl)))
          have b59 : 0 ≤ (zu_w32 ((zu_w32 (4 + (m6 a0 9))) - 19)) ∧ (zu_w32 ((zu_w32 (4 + (m6 a0 9))) - 19)) < 8 := by omega
          refine zw_if b59 ?_
          generalize hmm60 : zu_up m50 206 (zu_w32 ((zu_w32 (4 + (m6 a0 9))) - 19)) (m50 a0 21) = m60
          have hIm60 := zi_up hmm60 hIm50 zq_206 (zb_115 _) (by omega) (by omega)
          have hFm60 := zfr_up hmm60 hFm50 zq_206 rfl
          have hRKNm60 := zR_KN_fr (zdis_fr (zfr_up hmm60 (zfr_rf [(115, 0)] _) zq_206 rfl) rfl) hRKNm50
          have hRLTm60 := zR_LT_fr (zdis_fr (zfr_up hmm60 (zfr_rf [(115, 0)] _) zq_206 rfl) rfl) hRLTm50
          have hRNSm60 := zR_NS_fr (zdis_fr (zfr_up hmm60 (zfr_rf [(115, 0)] _) zq_206 rfl) rfl) hRNSm50
          have hRTRm60 := zR_TR_fr (zdis_fr (zfr_up hmm60 (zfr_rf [(115, 0)] _) zq_206 rfl) rfl) hRTRm50
          have hRWDm60 := zR_WD_fr (zdis_fr (zfr_up hmm60 (zfr_rf [(115, 0)] _) zq_206 rfl) rfl) hRWDm50
          have r61 : 0 ≤ (m60 a0 21) ∧ (m60 a0 21) ≤ 64 := zi_rd hIm60 hc0 zb_28_21
          have e62 : (m60 a0 21) = (m50 a0 21) := (zs_ne hmm60 (Or.inl (zc_ne hc0 zq_206 (by decide))))
          have r63 : 0 ≤ (m60 a0 48) ∧ (m60 a0 48) ≤ 64 := zi_rd hIm60 hc0 zb_28_48
          have e64 : (m60 a0 48) = (m0 a0 48) := (Eq.trans (zs_ne hmm60 (Or.inl (zc_ne hc0 zq_206 (by decide)))) (Eq.trans (zfr_ap hfm50 hc0 rfl) (Eq.trans (zs_ne hmm47 (Or.inl (zc_ne hc0 zq_205 (by decide)))) (zfr_ap hfm6 hc0 rfl))))
          have r67 : 0 ≤ (m60 a0 7) ∧ (m60 a0 7) ≤ 700 := zi_rd hIm60 hc0 zb_28_7
          have e68 : (m60 a0 7) = (m50 a0 7) := (zs_ne hmm60 (Or.inl (zc_ne hc0 zq_206 (by decide))))
          have r69 : (-2147483648) ≤ (m60 a0 4) ∧ (m60 a0 4) ≤ 2147483647 := zi_rd hIm60 hc0 zb_28_4
          have e70 : (m60 a0 4) = (m6 a0 4) := (Eq.trans (zs_ne hmm60 (Or.inl (zc_ne hc0 zq_206 (by decide)))) (Eq.trans (zfr_ap hfm50 hc0 rfl) (zs_ne hmm47 (Or.inl (zc_ne hc0 zq_205 (by decide))))))
          refine zw_bd (zw_mono (zk_118 n hIm60 hc0 (by omega) hRKNm60 hRNSm60 hRTRm60 hRWDm60) (fun v66 m65 hqm65 => ?_))
          obtain ⟨hIm65, hfm65, hvm65⟩ := hqm65
          have hFm65 := zfr_tr hFm60 hfm65 rfl
          obtain ⟨hRKNm65, hRNSm65, hRTRm65, hRWDm65, hvm65⟩ := hvm65
          have hRLTm65 := zR_LT_fr (zdis_fr hfm65 rfl) hRLTm60
          have s71 := hRNSm65 a0 hc0
          have r72 : 0 ≤ (m65 a0 7) ∧ (m65 a0 7) ≤ 700 := zi_rd hIm65 hc0 zb_28_7
          have r73 : 0 ≤ (m65 a0 21) ∧ (m65 a0 21) ≤ 64 := zi_rd hIm65 hc0 zb_28_21
          have r74 : 0 ≤ (m65 a0 48) ∧ (m65 a0 48) ≤ 64 := zi_rd hIm65 hc0 zb_28_48
          have r75 : (-2147483648) ≤ (m65 a0 4) ∧ (m65 a0 4) ≤ 2147483647 := zi_rd hIm65 hc0 zb_28_4
          have y76 := (hvm65.1)
          have y77 := (hvm65.2.1)
          have y78 := zhid_mk (hvm65.2.2.1)
          have y79 := zhid_mk (hvm65.2.2.2.1)
          have y80 := zhid_mk (hvm65.2.2.2.2)
          clear hvm65
          have b81 : 0 ≤ (zu_w32 ((zu_w32 (4 + (m6 a0 9))) - 19)) ∧ (zu_w32 ((zu_w32 (4 + (m6 a0 9))) - 19)) < 8 := by omega
          refine zw_if b81 ?_
          generalize hmm82 : zu_up m65 207 (zu_w32 ((zu_w32 (4 + (m6 a0 9))) - 19)) (m65 a0 21) = m82
          have hIm82 := zi_up hmm82 hIm65 zq_207 (zb_116 _) (by omega) (by omega)
          have hFm82 := zfr_up hmm82 hFm65 zq_207 rfl
          have hRKNm82 := zR_KN_fr (zdis_fr (zfr_up hmm82 (zfr_rf [(116, 0)] _) zq_207 rfl) rfl) hRKNm65
          have hRNSm82 := zR_NS_fr (zdis_fr (zfr_up hmm82 (zfr_rf [(116, 0)] _) zq_207 rfl) rfl) hRNSm65
          have hRTRm82 := zR_TR_fr (zdis_fr (zfr_up hmm82 (zfr_rf [(116, 0)] _) zq_207 rfl) rfl) hRTRm65
          have hRWDm82 := zR_WD_fr (zdis_fr (zfr_up hmm82 (zfr_rf [(116, 0)] _) zq_207 rfl) rfl) hRWDm65
          have r83 : (-2147483648) ≤ (m82 a0 4) ∧ (m82 a0 4) ≤ 2147483647 := zi_rd hIm82 hc0 zb_28_4
          have e84 : (m82 a0 4) = (m65 a0 4) := (zs_ne hmm82 (Or.inl (zc_ne hc0 zq_207 (by decide))))
          have s85 := zhid_of y78
          have s86 := zhid_of y79
          have s87 := zhid_of y80
          have hRLTm82 := zLT_h7 hmm82 (by omega) hRLTm65
          have hRLRm82 := zLR_law (zone_190 hc0) hRLRm6 (by omega) hmm47 (fun _ => (Eq.trans (zfr_ap hfm65 zq_205 rfl) (Eq.trans (zs_ne hmm60 (Or.inl (zc_ne zq_205 zq_206 (by decide)))) (zfr_ap hfm50 zq_205 rfl)))) (fun _ => (Eq.trans (zfr_ap hfm65 zq_207 rfl) (Eq.trans (zs_ne hmm60 (Or.inl (zc_ne zq_207 zq_206 (by decide)))) (zfr_ap hfm50 zq_207 rfl)))) hmm82 (by omega)
          refine zw_b (by omega) ?_
          have r88 : 0 ≤ (m82 a0 7) ∧ (m82 a0 7) ≤ 700 := zi_rd hIm82 hc0 zb_28_7
          have e89 : (m82 a0 7) = (m65 a0 7) := (zs_ne hmm82 (Or.inl (zc_ne hc0 zq_207 (by decide))))
          have r90 : 0 ≤ (m82 a0 8) ∧ (m82 a0 8) ≤ 6 := zi_rd hIm82 hc0 zb_28_8
          have r91 : 0 ≤ (m82 a0 21) ∧ (m82 a0 21) ≤ 64 := zi_rd hIm82 hc0 zb_28_21
          have e92 : (m82 a0 21) = (m65 a0 21) := (zs_ne hmm82 (Or.inl (zc_ne hc0 zq_207 (by decide))))
          have r93 : 0 ≤ (m82 a0 48) ∧ (m82 a0 48) ≤ 64 := zi_rd hIm82 hc0 zb_28_48
          have e94 : (m82 a0 48) = (m65 a0 48) := (zs_ne hmm82 (Or.inl (zc_ne hc0 zq_207 (by decide))))
          have s95 := zhid_of y78
          have s96 := zhid_of y79
          have s97 := zhid_of y80
          exact zw_some ⟨hIm82, hFm82, hRKNm82, hRLRm82, hRLTm82, hRNSm82, hRTRm82, hRWDm82, ⟨by omega, by omega⟩, by omega, by omega, by omega, by omega⟩
        · refine zw_bd (zw_eq (zu_call_at (zt_T n) (zm_85 n) (zdp_85 n) _ _ _ _ _ rfl (zr_85_0 n _ _ a0 3 m6)) ?_)
          generalize hmm98 : zu_up m6 a0 4 3 = m98
          have hIm98 := zi_up hmm98 hIm6 hc0 zb_28_4 (by omega) (by omega)
          have hFm98 := zfr_up hmm98 hFm6 hc0 rfl
          have hRKNm98 := zR_KN_fr (zdis_fr (zfr_up hmm98 (zfr_rf [(28, 5)] _) hc0 rfl) rfl) hRKNm6
          have hRLTm98 := zR_LT_fr (zdis_fr (zfr_up hmm98 (zfr_rf [(28, 5)] _) hc0 rfl) rfl) hRLTm6
          have hRNSm98 := zR_NS_fr (zdis_fr (zfr_up hmm98 (zfr_rf [(28, 5)] _) hc0 rfl) rfl) hRNSm6
          have hRTRm98 := zR_TR_fr (zdis_fr (zfr_up hmm98 (zfr_rf [(28, 5)] _) hc0 rfl) rfl) hRTRm6
          have hRWDm98 := zR_WD_fr (zdis_fr (zfr_up hmm98 (zfr_rf [(28, 5)] _) hc0 rfl) rfl) hRWDm6
          have hRLRm98 := zLR_wr (zone_190 hc0) hmm98 (by decide)
          have r99 : 0 ≤ (m98 a0 10) ∧ (m98 a0 10) ≤ 700 := zi_rd hIm98 hc0 zb_28_10
          generalize hmm100 : zu_up m98 a0 5 (m98 a0 10) = m100
          have hIm100 := zi_up hmm100 hIm98 hc0 zb_28_5 (by omega) (by omega)
          have hFm100 := zfr_up hmm100 hFm98 hc0 rfl
          have hRKNm100 := zR_KN_fr (zdis_fr (zfr_up hmm100 (zfr_rf [(28, 6)] _) hc0 rfl) rfl) hRKNm98
          have hRLRm100 := zR_LR_fr (zdis_fr (zfr_up hmm100 (zfr_rf [(28, 6)] _) hc0 rfl) rfl) hRLRm98
          have hRLTm100 := zR_LT_fr (zdis_fr (zfr_up hmm100 (zfr_rf [(28, 6)] _) hc0 rfl) rfl) hRLTm98
          have hRNSm100 := zR_NS_fr (zdis_fr (zfr_up hmm100 (zfr_rf [(28, 6)] _) hc0 rfl) rfl) hRNSm98
          have hRTRm100 := zR_TR_fr (zdis_fr (zfr_up hmm100 (zfr_rf [(28, 6)] _) hc0 rfl) rfl) hRTRm98
          have hRWDm100 := zR_WD_fr (zdis_fr (zfr_up hmm100 (zfr_rf [(28, 6)] _) hc0 rfl) rfl) hRWDm98
          refine zw_b (by omega) ?_
          refine zw_some ?_
          refine zw_b (by omega) ?_
          have r101 : 0 ≤ (m100 a0 7) ∧ (m100 a0 7) ≤ 700 := zi_rd hIm100 hc0 zb_28_7
          have e102 : (m100 a0 7) = (m6 a0 7) := (Eq.trans (zs_ne hmm100 (Or.inr (by decide))) (zs_ne hmm98 (Or.inr (by decide))))
          have r103 : 0 ≤ (m100 a0 8) ∧ (m100 a0 8) ≤ 6 := zi_rd hIm100 hc0 zb_28_8
          have e104 : (m100 a0 8) = (m6 a0 8) := (Eq.trans (zs_ne hmm100 (Or.inr (by decide))) (zs_ne hmm98 (Or.inr (by decide))))
          have r105 : 0 ≤ (m100 a0 21) ∧ (m100 a0 21) ≤ 64 := zi_rd hIm100 hc0 zb_28_21
          have e106 : (m100 a0 21) = (m0 a0 21) := (Eq.trans (zs_ne hmm100 (Or.inr (by decide))) (Eq.trans (zs_ne hmm98 (Or.inr (by decide))) (zfr_ap hfm6 hc0 rfl)))
          have r107 : 0 ≤ (m100 a0 48) ∧ (m100 a0 48) ≤ 64 := zi_rd hIm100 hc0 zb_28_48
          have e108 : (m100 a0 48) = (m0 a0 48) := (Eq.trans (zs_ne hmm100 (Or.inr (by decide))) (Eq.trans (zs_ne hmm98 (Or.inr (by decide))) (zfr_ap hfm6 hc0 rfl)))
          have r109 : (-2147483648) ≤ (m100 a0 4) ∧ (m100 a0 4) ≤ 2147483647 := zi_rd hIm100 hc0 zb_28_4
          have e110 : (m100 a0 4) = 3 := (Eq.trans (zs_ne hmm100 (Or.inr (by decide))) (zs_eq hmm98))
          exact zw_some ⟨hIm100, hFm100, hRKNm100, hRLRm100, hRLTm100, hRNSm100, hRTRm100, hRWDm100, ⟨by decide, by decide⟩, by omega, fun h => absurd h (by decide), fun h => absurd h (by decide), fun h => absurd h (by decide)⟩
      · refine zw_bd (zw_eq (zu_call_at (zt_T n) (zm_85 n) (zdp_85 n) _ _ _ _ _ rfl (zr_85_0 n _ _ a0 1 m6)) ?_)
        generalize hmm111 : zu_up m6 a0 4 1 = m111
        have hIm111 := zi_up hmm111 hIm6 hc0 zb_28_4 (by omega) (by omega)
        have hFm111 := zfr_up hmm111 hFm6 hc0 rfl
        have hRKNm111 := zR_KN_fr (zdis_fr (zfr_up hmm111 (zfr_rf [(28, 5)] _) hc0 rfl) rfl) hRKNm6
        have hRLTm111 := zR_LT_fr (zdis_fr (zfr_up hmm111 (zfr_rf [(28, 5)] _) hc0 rfl) rfl) hRLTm6
        have hRNSm111 := zR_NS_fr (zdis_fr (zfr_up hmm111 (zfr_rf [(28, 5)] _) hc0 rfl) rfl) hRNSm6
        have hRTRm111 := zR_TR_fr (zdis_fr (zfr_up hmm111 (zfr_rf [(28, 5)] _) hc0 rfl) rfl) hRTRm6
        have hRWDm111 := zR_WD_fr (zdis_fr (zfr_up hmm111 (zfr_rf [(28, 5)] _) hc0 rfl) rfl) hRWDm6
        have hRLRm111 := zLR_wr (zone_190 hc0) hmm111 (by decide)
        have r112 : 0 ≤ (m111 a0 10) ∧ (m111 a0 10) ≤ 700 := zi_rd hIm111 hc0 zb_28_10
        generalize hmm113 : zu_up m111 a0 5 (m111 a0 10) = m113
        have hIm113 := zi_up hmm113 hIm111 hc0 zb_28_5 (by omega) (by omega)
        have hFm113 := zfr_up hmm113 hFm111 hc0 rfl
        have hRKNm113 := zR_KN_fr (zdis_fr (zfr_up hmm113 (zfr_rf [(28, 6)] _) hc0 rfl) rfl) hRKNm111
        have hRLRm113 := zR_LR_fr (zdis_fr (zfr_up hmm113 (zfr_rf [(28, 6)] _) hc0 rfl) rfl) hRLRm111
        have hRLTm113 := zR_LT_fr (zdis_fr (zfr_up hmm113 (zfr_rf [(28, 6)] _) hc0 rfl) rfl) hRLTm111
        have hRNSm113 := zR_NS_fr (zdis_fr (zfr_up hmm113 (zfr_rf [(28, 6)] _) hc0 rfl) rfl) hRNSm111
        have hRTRm113 := zR_TR_fr (zdis_fr (zfr_up hmm113 (zfr_rf [(28, 6)] _) hc0 rfl) rfl) hRTRm111
        have hRWDm113 := zR_WD_fr (zdis_fr (zfr_up hmm113 (zfr_rf [(28, 6)] _) hc0 rfl) rfl) hRWDm111
        refine zw_b (by omega) ?_
        refine zw_some ?_
        refine zw_b (by omega) ?_
        have r114 : 0 ≤ (m113 a0 7) ∧ (m113 a0 7) ≤ 700 := zi_rd hIm113 hc0 zb_28_7
        have e115 : (m113 a0 7) = (m6 a0 7) := (Eq.trans (zs_ne hmm113 (Or.inr (by decide))) (zs_ne hmm111 (Or.inr (by decide))))
        have r116 : 0 ≤ (m113 a0 8) ∧ (m113 a0 8) ≤ 6 := zi_rd hIm113 hc0 zb_28_8
        have e117 : (m113 a0 8) = (m6 a0 8) := (Eq.trans (zs_ne hmm113 (Or.inr (by decide))) (zs_ne hmm111 (Or.inr (by decide))))
        have r118 : 0 ≤ (m113 a0 21) ∧ (m113 a0 21) ≤ 64 := zi_rd hIm113 hc0 zb_28_21
        have e119 : (m113 a0 21) = (m0 a0 21) := (Eq.trans (zs_ne hmm113 (Or.inr (by decide))) (Eq.trans (zs_ne hmm111 (Or.inr (by decide))) (zfr_ap hfm6 hc0 rfl)))
        have r120 : 0 ≤ (m113 a0 48) ∧ (m113 a0 48) ≤ 64 := zi_rd hIm113 hc0 zb_28_48
        have e121 : (m113 a0 48) = (m0 a0 48) := (Eq.trans (zs_ne hmm113 (Or.inr (by decide))) (Eq.trans (zs_ne hmm111 (Or.inr (by decide))) (zfr_ap hfm6 hc0 rfl)))
        have r122 : (-2147483648) ≤ (m113 a0 4) ∧ (m113 a0 4) ≤ 2147483647 := zi_rd hIm113 hc0 zb_28_4
        have e123 : (m113 a0 4) = 1 := (Eq.trans (zs_ne hmm113 (Or.inr (by decide))) (zs_eq hmm111))
        exact zw_some ⟨hIm113, hFm113, hRKNm113, hRLRm113, hRLTm113, hRNSm113, hRTRm113, hRWDm113, ⟨by decide, by decide⟩, by omega, fun h => absurd h (by decide), fun h => absurd h (by decide), fun h => absurd h (by decide)⟩
set_option maxHeartbeats 4000000 in
theorem zk_129 (n : Nat) {a0 a1 a2 a3 a4 a5 : Int} {m0 : zu_m} (hIm0 : zi_I m0) (hc0 : zcls a0 = 28) (ha1 : 0 ≤ a1 ∧ a1 ≤ 3) (ha2 : 0 ≤ a2 ∧ a2 ≤ 3) (ha3 : 0 ≤ a3 ∧ a3 ≤ 9) (ha4 : 0 ≤ a4 ∧ a4 ≤ 47) (ha5 : (-2147483648) ≤ a5 ∧ a5 ≤ 2147483647)    (hRKNm0 : zR_KN m0) (hRLTm0 : zR_LT m0) : zw (zu_call (zt_T n) 129 [(40, a0), (0, a1), (0, a2), (0, a3), (0, a4), (0, a5)] m0) (fun v m => zi_I m ∧ zfr [(28, 54), (122, 0), (123, 0)] m0 m ∧ zR_KN m ∧ zR_LT m ∧ (0 ≤ v ∧ v ≤ 999)) := by
  have hFm0 : zfr [(28, 54), (122, 0), (123, 0)] m0 m0 := zfr_rf _ _
  refine zw_eq (zu_call_at (zt_T n) (zm_129 n) (zdp_129 n) _ _ _ _ _ rfl (zr_129_0 n _ _ a0 a1 a2 a3 a4 a5 m0)) ?_
  have w1 := zu_w32_id (z := 10 * a3) (by omega) (by omega)
  have w2 := zu_w32_id (z := 100 - (zu_w32 (10 * a3))) (by omega) (by omega)
  have b3 : 0 ≤ a4 ∧ a4 < 96 := by omega
  refine zw_if b3 ?_
  have r4 : 0 ≤ (m0 195 a4) ∧ (m0 195 a4) ≤ 3 := zi_rd hIm0 zq_195 (zb_104 _)
  refine zw_ite (fun h5 => ?_) (fun h5 => ?_)
  · have w6 := zu_w32_id (z := (zu_w32 (100 - (zu_w32 (10 * a3)))) - 0) (by omega) (by omega)
    refine zw_bd (zw_eq (zu_call_at (zt_T n) (zm_128 n) (zdp_128 n) _ _ _ _ _ rfl (zr_128_0 n _ _ a0 a1 m0)) ?_)
    have r7 : 0 ≤ (m0 a0 68) ∧ (m0 a0 68) ≤ 1 := zi_rd hIm0 hc0 zb_28_68
    refine zw_ite (fun h8 => ?_) (fun h8 => ?_)
    · have b9 : 0 ≤ a1 ∧ a1 < 8 := by omega
      refine zw_if b9 ?_
      have r10 : 0 ≤ (m0 202 a1) ∧ (m0 202 a1) ≤ 15 := zi_rd hIm0 zq_202 (zb_111 _)
      refine zw_some ?_
      refine zw_nif (by omega) ?_
      have d11 : Int.tmod a1 4 = a1 % 4 := Int.tmod_eq_emod_of_nonneg (by omega)
      refine zw_ite (fun h12 => ?_) (fun h12 => ?_)
      · refine zw_bd (zw_mono (zk_38 n hIm0 hc0 ⟨by omega, by omega⟩ ⟨by omega, by omega⟩ ⟨by omega, by omega⟩ ⟨by omega, by omega⟩ ⟨by decide, by decide⟩ ⟨by omega, by omega⟩) (fun v14 m13 hqm13 => ?_))
        obtain ⟨hIm13, hfm13, hvm13⟩ := hqm13
        have hFm13 := zfr_tr hFm0 hfm13 rfl
        have hRKNm13 := zR_KN_fr (zdis_fr hfm13 rfl) hRKNm0
        have hRLTm13 := zR_LT_fr (zdis_fr hfm13 rfl) hRLTm0
        refine zw_ite (fun h15 => ?_) (fun h15 => ?_)
        · refine zw_bd (zw_mono (zk_39 n hIm13 hc0 ⟨by decide, by decide⟩ ⟨by omega, by omega⟩ ⟨by decide, by decide⟩ hRKNm13 hRLTm13) (fun v17 m16 hqm16 => ?_))
          obtain ⟨hIm16, hfm16, hvm16⟩ := hqm16
          have hFm16 := zfr_tr hFm13 hfm16 rfl
          obtain ⟨hRKNm16, hRLTm16, hvm16⟩ := hvm16
          exact zw_some ⟨hIm16, hFm16, hRKNm16, hRLTm16, ⟨by omega, by omega⟩⟩
        · exfalso; omega
      · refine zw_bd (zw_mono (zk_38 n hIm0 hc0 ⟨by omega, by omega⟩ ⟨by omega, by omega⟩ ⟨by omega, by omega⟩ ⟨by omega, by omega⟩ ⟨by decide, by decide⟩ ⟨by omega, by omega⟩) (fun v19 m18 hqm18 => ?_))
        obtain ⟨hIm18, hfm18, hvm18⟩ := hqm18
        have hFm18 := zfr_tr hFm0 hfm18 rfl
        have hRKNm18 := zR_KN_fr (zdis_fr hfm18 rfl) hRKNm0
        have hRLTm18 := zR_LT_fr (zdis_fr hfm18 rfl) hRLTm0
        refine zw_ite (fun h20 => ?_) (fun h20 => ?_)
        · refine zw_bd (zw_mono (zk_39 n hIm18 hc0 ⟨by decide, by decide⟩ ⟨by omega, by omega⟩ ⟨by decide, by decide⟩ hRKNm18 hRLTm18) (fun v22 m21 hqm21 => ?_))
          obtain ⟨hIm21, hfm21, hvm21⟩ := hqm21
          have hFm21 := zfr_tr hFm18 hfm21 rfl
          obtain ⟨hRKNm21, hRLTm21, hvm21⟩ := hvm21
          exact zw_some ⟨hIm21, hFm21, hRKNm21, hRLTm21, ⟨by omega, by omega⟩⟩
        · exfalso; omega
    · refine zw_some ?_
      refine zw_nif (by omega) ?_
      have d23 : Int.tmod a1 4 = a1 % 4 := Int.tmod_eq_emod_of_nonneg (by omega)
      refine zw_ite (fun h24 => ?_) (fun h24 => ?_)
      · refine zw_bd (zw_mono (zk_38 n hIm0 hc0 ⟨by decide, by decide⟩ ⟨by omega, by omega⟩ ⟨by omega, by omega⟩ ⟨by omega, by omega⟩ ⟨by decide, by decide⟩ ⟨by omega, by omega⟩) (fun v26 m25 hqm25 => ?_))
        obtain ⟨hIm25, hfm25, hvm25⟩ := hqm25
        have hFm25 := zfr_tr hFm0 hfm25 rfl
        have hRKNm25 := zR_KN_fr (zdis_fr hfm25 rfl) hRKNm0
        have hRLTm25 := zR_LT_fr (zdis_fr hfm25 rfl) hRLTm0
        refine zw_ite (fun h27 => ?_) (fun h27 => ?_)
        · refine zw_bd (zw_mono (zk_39 n hIm25 hc0 ⟨by decide, by decide⟩ ⟨by omega, by omega⟩ ⟨by decide, by decide⟩ hRKNm25 hRLTm25) (fun v29 m28 hqm28 => ?_))
          obtain ⟨hIm28, hfm28, hvm28⟩ := hqm28
          have hFm28 := zfr_tr hFm25 hfm28 rfl
          obtain ⟨hRKNm28, hRLTm28, hvm28⟩ := hvm28
          exact zw_some ⟨hIm28, hFm28, hRKNm28, hRLTm28, ⟨by omega, by omega⟩⟩
        · exfalso; omega
      · refine zw_bd (zw_mono (zk_38 n hIm0 hc0 ⟨by decide, by decide⟩ ⟨by omega, by omega⟩ ⟨by omega, by omega⟩ ⟨by omega, by omega⟩ ⟨by decide, by decide⟩ ⟨by omega, by omega⟩) (fun v31 m30 hqm30 => ?_))
        obtain ⟨hIm30, hfm30, hvm30⟩ := hqm30
        have hFm30 := zfr_tr hFm0 hfm30 rfl
        have hRKNm30 := zR_KN_fr (zdis_fr hfm30 rfl) hRKNm0
        have hRLTm30 := zR_LT_fr (zdis_fr hfm30 rfl) hRLTm0
        refine zw_ite (fun h32 => ?_) (fun h32 => ?_)
        · refine zw_bd (zw_mono (zk_39 n hIm30 hc0 ⟨by decide, by decide⟩ ⟨by omega, by omega⟩ ⟨by decide, by decide⟩ hRKNm30 hRLTm30) (fun v34 m33 hqm33 => ?_))
          obtain ⟨hIm33, hfm33, hvm33⟩ := hqm33
          have hFm33 := zfr_tr hFm30 hfm33 rfl
          obtain ⟨hRKNm33, hRLTm33, hvm33⟩ := hvm33
          exact zw_some ⟨hIm33, hFm33, hRKNm33, hRLTm33, ⟨by omega, by omega⟩⟩
        · exfalso; omega
  · refine zw_bd (zw_eq (zu_call_at (zt_T n) (zm_128 n) (zdp_128 n) _ _ _ _ _ rfl (zr_128_0 n _ _ a0 a1 m0)) ?_)
    have r35 : 0 ≤ (m0 a0 68) ∧ (m0 a0 68) ≤ 1 := zi_rd hIm0 hc0 zb_28_68
    refine zw_ite (fun h36 => ?_) (fun h36 => ?_)
    · have b37 : 0 ≤ a1 ∧ a1 < 8 := by omega
      refine zw_if b37 ?_
      have r38 : 0 ≤ (m0 202 a1) ∧ (m0 202 a1) ≤ 15 := zi_rd hIm0 zq_202 (zb_111 _)
      refine zw_some ?_
      refine zw_ite (fun h39 => ?_) (fun h39 => ?_)
      · have w40 := zu_w32_id (z := (zu_w32 (100 - (zu_w32 (10 * a3)))) - 0) (by omega) (by omega)
        refine zw_bd (zw_eq (zu_call_at (zt_T n) (zm_128 n) (zdp_128 n) _ _ _ _ _ rfl (zr_128_0 n _ _ a0 a1 m0)) ?_)
        refine zw_ite (fun h41 => ?_) (fun h41 => ?_)
        · have b42 : 0 ≤ a1 ∧ a1 < 8 := by omega
          refine zw_if b42 ?_
          refine zw_some ?_
          refine zw_nif (by omega) ?_
          have d43 : Int.tmod a1 4 = a1 % 4 := Int.tmod_eq_emod_of_nonneg (by omega)
          refine zw_ite (fun h44 => ?_) (fun h44 => ?_)
          · refine zw_bd (zw_mono (zk_38 n hIm0 hc0 ⟨by omega, by omega⟩ ⟨by omega, by omega⟩ ⟨by omega, by omega⟩ ⟨by omega, by omega⟩ ⟨by decide, by decide⟩ ⟨by omega, by omega⟩) (fun v46 m45 hqm45 => ?_))
            obtain ⟨hIm45, hfm45, hvm45⟩ := hqm45
            have hFm45 := zfr_tr hFm0 hfm45 rfl
            have hRKNm45 := zR_KN_fr (zdis_fr hfm45 rfl) hRKNm0
            have hRLTm45 := zR_LT_fr (zdis_fr hfm45 rfl) hRLTm0
            refine zw_ite (fun h47 => ?_) (fun h47 => ?_)
            · refine zw_bd (zw_mono (zk_39 n hIm45 hc0 ⟨by decide, by decide⟩ ⟨by omega, by omega⟩ ⟨by decide, by decide⟩ hRKNm45 hRLTm45) (fun v49 m48 hqm48 => ?_))
              obtain ⟨hIm48, hfm48, hvm48⟩ := hqm48
              have hFm48 := zfr_tr hFm45 hfm48 rfl
              obtain ⟨hRKNm48, hRLTm48, hvm48⟩ := hvm48
              exact zw_some ⟨hIm48, hFm48, hRKNm48, hRLTm48, ⟨by omega, by omega⟩⟩
            · exfalso; omega
          · refine zw_bd (zw_mono (zk_38 n hIm0 hc0 ⟨by omega, by omega⟩ ⟨by omega, by omega⟩ ⟨by omega, by omega⟩ ⟨by omega, by omega⟩ ⟨by decide, by decide⟩ ⟨by omega, by omega⟩) (fun v51 m50 hqm50 => ?_))
            obtain ⟨hIm50, hfm50, hvm50⟩ := hqm50
            have hFm50 := zfr_tr hFm0 hfm50 rfl
            have hRKNm50 := zR_KN_fr (zdis_fr hfm50 rfl) hRKNm0
            have hRLTm50 := zR_LT_fr (zdis_fr hfm50 rfl) hRLTm0
            refine zw_ite (fun h52 => ?_) (fun h52 => ?_)
            · refine zw_bd (zw_mono (zk_39 n hIm50 hc0 ⟨by decide, by decide⟩ ⟨by omega, by omega⟩ ⟨by decide, by decide⟩ hRKNm50 hRLTm50) (fun v54 m53 hqm53 => ?_))
              obtain ⟨hIm53, hfm53, hvm53⟩ := hqm53
              have hFm53 := zfr_tr hFm50 hfm53 rfl
              obtain ⟨hRKNm53, hRLTm53, hvm53⟩ := hvm53
              exact zw_some ⟨hIm53, hFm53, hRKNm53, hRLTm53, ⟨by omega, by omega⟩⟩
            · exfalso; omega
        · exfalso; omega
      · have w55 := zu_w32_id (z := (zu_w32 (100 - (zu_w32 (10 * a3)))) - 20) (by omega) (by omega)
        refine zw_bd (zw_eq (zu_call_at (zt_T n) (zm_128 n) (zdp_128 n) _ _ _ _ _ rfl (zr_128_0 n _ _ a0 a1 m0)) ?_)
        refine zw_ite (fun h56 => ?_) (fun h56 => ?_)
        · have b57 : 0 ≤ a1 ∧ a1 < 8 := by omega
          refine zw_if b57 ?_
          refine zw_some ?_
          refine zw_nif (by omega) ?_
          have d58 : Int.tmod a1 4 = a1 % 4 := Int.tmod_eq_emod_of_nonneg (by omega)
          refine zw_ite (fun h59 => ?_) (fun h59 => ?_)
          · refine zw_bd (zw_mono (zk_38 n hIm0 hc0 ⟨by omega, by omega⟩ ⟨by omega, by omega⟩ ⟨by omega, by omega⟩ ⟨by omega, by omega⟩ ⟨by decide, by decide⟩ ⟨by omega, by omega⟩) (fun v61 m60 hqm60 => ?_))
            obtain ⟨hIm60, hfm60, hvm60⟩ := hqm60
            have hFm60 := zfr_tr hFm0 hfm60 rfl
            have hRKNm60 := zR_KN_fr (zdis_fr hfm60 rfl) hRKNm0
            have hRLTm60 := zR_LT_fr (zdis_fr hfm60 rfl) hRLTm0
            refine zw_ite (fun h62 => ?_) (fun h62 => ?_)
            · refine zw_bd (zw_mono (zk_39 n hIm60 hc0 ⟨by decide, by decide⟩ ⟨by omega, by omega⟩ ⟨by decide, by decide⟩ hRKNm60 hRLTm60) (fun v64 m63 hqm63 => ?_))
              obtain ⟨hIm63, hfm63, hvm63⟩ := hqm63
              have hFm63 := zfr_tr hFm60 hfm63 rfl
              obtain ⟨hRKNm63, hRLTm63, hvm63⟩ := hvm63
              exact zw_some ⟨hIm63, hFm63, hRKNm63, hRLTm63, ⟨by omega, by omega⟩⟩
            · refine zw_bd (zw_mono (zk_39 n hIm60 hc0 ⟨by decide, by decide⟩ ⟨by decide, by decide⟩ ⟨by decide, by decide⟩ hRKNm60 hRLTm60) (fun v66 m65 hqm65 => ?_))
              obtain ⟨hIm65, hfm65, hvm65⟩ := hqm65
              have hFm65 := zfr_tr hFm60 hfm65 rfl
              obtain ⟨hRKNm65, hRLTm65, hvm65⟩ := hvm65
              exact zw_some ⟨hIm65, hFm65, hRKNm65, hRLTm65, ⟨by omega, by omega⟩⟩
          · refine zw_bd (zw_mono (zk_38 n hIm0 hc0 ⟨by omega, by omega⟩ ⟨by omega, by omega⟩ ⟨by omega, by omega⟩ ⟨by omega, by omega⟩ ⟨by decide, by decide⟩ ⟨by omega, by omega⟩) (fun v68 m67 hqm67 => ?_))
            obtain ⟨hIm67, hfm67, hvm67⟩ := hqm67
            have hFm67 := zfr_tr hFm0 hfm67 rfl
            have hRKNm67 := zR_KN_fr (zdis_fr hfm67 rfl) hRKNm0
            have hRLTm67 := zR_LT_fr (zdis_fr hfm67 rfl) hRLTm0
            refine zw_ite (fun h69 => ?_) (fun h69 => ?_)
            · refine zw_bd (zw_mono (zk_39 n hIm67 hc0 ⟨by decide, by decide⟩ ⟨by omega, by omega⟩ ⟨by decide, by decide⟩ hRKNm67 hRLTm67) (fun v71 m70 hqm70 => ?_))
              obtain ⟨hIm70, hfm70, hvm70⟩ := hqm70
              have hFm70 := zfr_tr hFm67 hfm70 rfl
              obtain ⟨hRKNm70, hRLTm70, hvm70⟩ := hvm70
              exact zw_some ⟨hIm70, hFm70, hRKNm70, hRLTm70, ⟨by omega, by omega⟩⟩
            · refine zw_bd (zw_mono (zk_39 n hIm67 hc0 ⟨by decide, by decide⟩ ⟨by decide, by decide⟩ ⟨by decide, by decide⟩ hRKNm67 hRLTm67) (fun v73 m72 hqm72 => ?_))
              obtain ⟨hIm72, hfm72, hvm72⟩ := hqm72
              have hFm72 := zfr_tr hFm67 hfm72 rfl
              obtain ⟨hRKNm72, hRLTm72, hvm72⟩ := hvm72
              exact zw_some ⟨hIm72, hFm72, hRKNm72, hRLTm72, ⟨by omega, by omega⟩⟩
        · exfalso; omega
    · refine zw_some ?_
      refine zw_ite (fun h74 => ?_) (fun h74 => ?_)
      · have w75 := zu_w32_id (z := (zu_w32 (100 - (zu_w32 (10 * a3)))) - 0) (by omega) (by omega)
        refine zw_bd (zw_eq (zu_call_at (zt_T n) (zm_128 n) (zdp_128 n) _ _ _ _ _ rfl (zr_128_0 n _ _ a0 a1 m0)) ?_)
        refine zw_ite (fun h76 => ?_) (fun h76 => ?_)
        · exfalso; omega
        · refine zw_some ?_
          refine zw_nif (by omega) ?_
          have d77 : Int.tmod a1 4 = a1 % 4 := Int.tmod_eq_emod_of_nonneg (by omega)
          refine zw_ite (fun h78 => ?_) (fun h78 => ?_)
          · refine zw_bd (zw_mono (zk_38 n hIm0 hc0 ⟨by decide, by decide⟩ ⟨by omega, by omega⟩ ⟨by omega, by omega⟩ ⟨by omega, by omega⟩ ⟨by decide, by decide⟩ ⟨by omega, by omega⟩) (fun v80 m79 hqm79 => ?_))
            obtain ⟨hIm79, hfm79, hvm79⟩ := hqm79
            have hFm79 := zfr_tr hFm0 hfm79 rfl
            have hRKNm79 := zR_KN_fr (zdis_fr hfm79 rfl) hRKNm0
            have hRLTm79 := zR_LT_fr (zdis_fr hfm79 rfl) hRLTm0
            refine zw_ite (fun h81 => ?_) (fun h81 => ?_)
            · refine zw_bd (zw_mono (zk_39 n hIm79 hc0 ⟨by decide, by decide⟩ ⟨by omega, by omega⟩ ⟨by decide, by decide⟩ hRKNm79 hRLTm79) (fun v83 m82 hqm82 => ?_))
              obtain ⟨hIm82, hfm82, hvm82⟩ := hqm82
              have hFm82 := zfr_tr hFm79 hfm82 rfl
              obtain ⟨hRKNm82, hRLTm82, hvm82⟩ := hvm82
              exact zw_some ⟨hIm82, hFm82, hRKNm82, hRLTm82, ⟨by omega, by omega⟩⟩
            · exfalso; omega
          · refine zw_bd (zw_mono (zk_38 n hIm0 hc0 ⟨by decide, by decide⟩ ⟨by omega, by omega⟩ ⟨by omega, by omega⟩ ⟨by omega, by omega⟩ ⟨by decide, by decide⟩ ⟨by omega, by omega⟩) (fun v85 m84 hqm84 => ?_))
            obtain ⟨hIm84, hfm84, hvm84⟩ := hqm84
            have hFm84 := zfr_tr hFm0 hfm84 rfl
            have hRKNm84 := zR_KN_fr (zdis_fr hfm84 rfl) hRKNm0
            have hRLTm84 := zR_LT_fr (zdis_fr hfm84 rfl) hRLTm0
            refine zw_ite (fun h86 => ?_) (fun h86 => ?_)
            · refine zw_bd (zw_mono (zk_39 n hIm84 hc0 ⟨by decide, by decide⟩ ⟨by omega, by omega⟩ ⟨by decide, by decide⟩ hRKNm84 hRLTm84) (fun v88 m87 hqm87 => ?_))
              obtain ⟨hIm87, hfm87, hvm87⟩ := hqm87
              have hFm87 := zfr_tr hFm84 hfm87 rfl
              obtain ⟨hRKNm87, hRLTm87, hvm87⟩ := hvm87
              exact zw_some ⟨hIm87, hFm87, hRKNm87, hRLTm87, ⟨by omega, by omega⟩⟩
            · exfalso; omega
      · exfalso; omega
set_option maxHeartbeats 4000000 in
theorem zk_132 (n : Nat) {a0 a1 a2 : Int} {m0 : zu_m} (hIm0 : zi_I m0) (hc0 : zcls a0 = 28) (ha1 : 0 ≤ a1 ∧ a1 ≤ 3) (ha2 : 0 ≤ a2 ∧ a2 ≤ 15)    (hRKNm0 : zR_KN m0) (hRLTm0 : zR_LT m0) : zw (zu_call (zt_T n) 132 [(40, a0), (0, a1), (0, a2)] m0) (fun v m => zi_I m ∧ zfr [(28, 54), (122, 0), (123, 0)] m0 m ∧ zR_KN m ∧ zR_LT m ∧ (0 ≤ v ∧ v ≤ 999)) := by
  have hFm0 : zfr [(28, 54), (122, 0), (123, 0)] m0 m0 := zfr_rf _ _
  refine zw_eq (zu_call_at (zt_T n) (zm_132 n) (zdp_132 n) _ _ _ _ _ rfl (zr_132_0 n _ _ a0 a1 a2 m0)) ?_
  have b1 : 0 ≤ a2 ∧ a2 < 36 := by omega
  refine zw_if b1 ?_
  have r2 : 0 ≤ (m0 198 a2) ∧ (m0 198 a2) ≤ 3 := zi_rd hIm0 zq_198 (zb_107 _)
  refine zw_nif (by omega) ?_
  have d3 : Int.tmod a1 4 = a1 % 4 := Int.tmod_eq_emod_of_nonneg (by omega)
  refine zw_ite (fun h4 => ?_) (fun h4 => ?_)
  · have b5 : 0 ≤ a1 ∧ a1 < 8 := by omega
    refine zw_if b5 ?_
    have r6 : 0 ≤ (m0 202 a1) ∧ (m0 202 a1) ≤ 15 := zi_rd hIm0 zq_202 (zb_111 _)
    have b7 : 0 ≤ a2 ∧ a2 < 36 := by omega
    refine zw_if b7 ?_
    have r8 : 0 ≤ (m0 199 a2) ∧ (m0 199 a2) ≤ 9 := zi_rd hIm0 zq_199 (zb_108 _)
    have b9 : 0 ≤ a2 ∧ a2 < 36 := by omega
    refine zw_if b9 ?_
    have r10 : 0 ≤ (m0 197 a2) ∧ (m0 197 a2) ≤ 47 := zi_rd hIm0 zq_197 (zb_106 _)
    have b11 : 0 ≤ a2 ∧ a2 < 36 := by omega
    refine zw_if b11 ?_
    refine zw_ite (fun h12 => ?_) (fun h12 => ?_)
    · refine zw_bd (zw_mono (zk_38 n hIm0 hc0 ⟨by omega, by omega⟩ ⟨by omega, by omega⟩ ⟨by omega, by omega⟩ ⟨by omega, by omega⟩ ⟨by decide, by decide⟩ ⟨by decide, by decide⟩) (fun v14 m13 hqm13 => ?_))
      obtain ⟨hIm13, hfm13, hvm13⟩ := hqm13
      have hFm13 := zfr_tr hFm0 hfm13 rfl
      have hRKNm13 := zR_KN_fr (zdis_fr hfm13 rfl) hRKNm0
      have hRLTm13 := zR_LT_fr (zdis_fr hfm13 rfl) hRLTm0
      refine zw_ite (fun h15 => ?_) (fun h15 => ?_)
      · refine zw_bd (zw_mono (zk_39 n hIm13 hc0 ⟨by decide, by decide⟩ ⟨by decide, by decide⟩ ⟨by decide, by decide⟩ hRKNm13 hRLTm13) (fun v17 m16 hqm16 => ?_))
        obtain ⟨hIm16, hfm16, hvm16⟩ := hqm16
        have hFm16 := zfr_tr hFm13 hfm16 rfl
        obtain ⟨hRKNm16, hRLTm16, hvm16⟩ := hvm16
        exact zw_some ⟨hIm16, hFm16, hRKNm16, hRLTm16, ⟨by omega, by omega⟩⟩
      · exfalso; omega
    · exfalso; omega
  · have b18 : 0 ≤ a1 ∧ a1 < 8 := by omega
    refine zw_if b18 ?_
    have r19 : 0 ≤ (m0 202 a1) ∧ (m0 202 a1) ≤ 15 := zi_rd hIm0 zq_202 (zb_111 _)
    have b20 : 0 ≤ a2 ∧ a2 < 36 := by omega
    refine zw_if b20 ?_
    have r21 : 0 ≤ (m0 199 a2) ∧ (m0 199 a2) ≤ 9 := zi_rd hIm0 zq_199 (zb_108 _)
    have b22 : 0 ≤ a2 ∧ a2 < 36 := by omega
    refine zw_if b22 ?_
    have r23 : 0 ≤ (m0 197 a2) ∧ (m0 197 a2) ≤ 47 := zi_rd hIm0 zq_197 (zb_106 _)
    have b24 : 0 ≤ a2 ∧ a2 < 36 := by omega
    refine zw_if b24 ?_
    refine zw_ite (fun h25 => ?_) (fun h25 => ?_)
    · exfalso; omega
    · refine zw_bd (zw_mono (zk_38 n hIm0 hc0 ⟨by omega, by omega⟩ ⟨by omega, by omega⟩ ⟨by omega, by omega⟩ ⟨by omega, by omega⟩ ⟨by decide, by decide⟩ ⟨by decide, by decide⟩) (fun v27 m26 hqm26 => ?_))
      obtain ⟨hIm26, hfm26, hvm26⟩ := hqm26
      have hFm26 := zfr_tr hFm0 hfm26 rfl
      have hRKNm26 := zR_KN_fr (zdis_fr hfm26 rfl) hRKNm0
      have hRLTm26 := zR_LT_fr (zdis_fr hfm26 rfl) hRLTm0
      refine zw_ite (fun h28 => ?_) (fun h28 => ?_)
      · exfalso; omega
      · refine zw_bd (zw_mono (zk_39 n hIm26 hc0 ⟨by decide, by decide⟩ ⟨by decide, by decide⟩ ⟨by decide, by decide⟩ hRKNm26 hRLTm26) (fun v30 m29 hqm29 => ?_))
        obtain ⟨hIm29, hfm29, hvm29⟩ := hqm29
        have hFm29 := zfr_tr hFm26 hfm29 rfl
        obtain ⟨hRKNm29, hRLTm29, hvm29⟩ := hvm29
        exact zw_some ⟨hIm29, hFm29, hRKNm29, hRLTm29, ⟨by omega, by omega⟩⟩
set_option maxHeartbeats 4000000 in
theorem zk_133 (n : Nat) {a0 a1 : Int} {m0 : zu_m} (hIm0 : zi_I m0) (hc0 : zcls a0 = 28) (ha1 : 0 ≤ a1 ∧ a1 ≤ 15)    (hRKNm0 : zR_KN m0) (hRLTm0 : zR_LT m0) : zw (zu_call (zt_T n) 133 [(40, a0), (0, a1)] m0) (fun v m => zi_I m ∧ zfr [(28, 54), (122, 0), (123, 0)] m0 m ∧ zR_KN m ∧ zR_LT m ∧ (0 ≤ v ∧ v ≤ 999)) := by
  have hFm0 : zfr [(28, 54), (122, 0), (123, 0)] m0 m0 := zfr_rf _ _
  refine zw_eq (zu_call_at (zt_T n) (zm_133 n) (zdp_133 n) _ _ _ _ _ rfl (zr_133_0 n _ _ a0 a1 m0)) ?_
  have b1 : 0 ≤ a1 ∧ a1 < 36 := by omega
  refine zw_if b1 ?_
  have r2 : 0 ≤ (m0 199 a1) ∧ (m0 199 a1) ≤ 9 := zi_rd hIm0 zq_199 (zb_108 _)
  have b3 : 0 ≤ a1 ∧ a1 < 36 := by omega
  refine zw_if b3 ?_
  have r4 : 0 ≤ (m0 197 a1) ∧ (m0 197 a1) ≤ 47 := zi_rd hIm0 zq_197 (zb_106 _)
  have b5 : 0 ≤ a1 ∧ a1 < 36 := by omega
  refine zw_if b5 ?_
  have r6 : 0 ≤ (m0 198 a1) ∧ (m0 198 a1) ≤ 3 := zi_rd hIm0 zq_198 (zb_107 _)
  have b7 : 0 ≤ (0 : Int) ∧ (0 : Int) < 2 := by omega
  refine zw_if b7 ?_
  have r8 : (-2147483648) ≤ (m0 221 0) ∧ (m0 221 0) ≤ 2147483647 := zi_rd hIm0 zq_221 (zb_130 _)
  refine zw_bd (zw_mono (zk_38 n hIm0 hc0 ⟨by decide, by decide⟩ ⟨by omega, by omega⟩ ⟨by omega, by omega⟩ ⟨by omega, by omega⟩ ⟨by decide, by decide⟩ ⟨by omega, by omega⟩) (fun v10 m9 hqm9 => ?_))
  obtain ⟨hIm9, hfm9, hvm9⟩ := hqm9
  have hFm9 := zfr_tr hFm0 hfm9 rfl
  have hRKNm9 := zR_KN_fr (zdis_fr hfm9 rfl) hRKNm0
  have hRLTm9 := zR_LT_fr (zdis_fr hfm9 rfl) hRLTm0
  refine zw_bd (zw_mono (zk_39 n hIm9 hc0 ⟨by decide, by decide⟩ ⟨by decide, by decide⟩ ⟨by decide, by decide⟩ hRKNm9 hRLTm9) (fun v12 m11 hqm11 => ?_))
  obtain ⟨hIm11, hfm11, hvm11⟩ := hqm11
  have hFm11 := zfr_tr hFm9 hfm11 rfl
  obtain ⟨hRKNm11, hRLTm11, hvm11⟩ := hvm11
  exact zw_some ⟨hIm11, hFm11, hRKNm11, hRLTm11, ⟨by omega, by omega⟩⟩
set_option maxHeartbeats 4000000 in
theorem zl_214_16 (n : Nat) {a0 a1 a2 : Int} {m0 : zu_m} (hc0 : zcls a0 = 16)  (hxp0 : (m0 a0 8) + a1 ≤ 9999) : ∀ k : Nat, (∀ (x3 : Int) (mh : zu_m), zi_I mh → zfr [(16, 9), (16, 10), (17, 4), (18, 2), (18, 6), (18, 7), (18, 8), (56, 0), (59, 1), (59, 2), (59, 3), (59, 4), (59, 5), (59, 6), (59, 7), (67, 0), (68, 0)] m0 mh → (0 ≤ a1 ∧ a1 ≤ 200) → (0 ≤ a2 ∧ a2 ≤ 0) → (0 ≤ x3 ∧ x3 ≤ 200) → (x3 ≤ a1) → ((mh a0 8) = (m0 a0 8) + x3) → (zE mh 89 50) → (zgeo mh 50) → (zR_K54 mh) → (200 - x3) * 11 + 10 < (k : Int) → zw (zu_ex (zt_T n) 214 2 [(27, a0), (0, a1), (0, a2), (0, x3), (2, 0)] [] mh) (fun v m => zi_I m ∧ zfr [(16, 9), (16, 10), (17, 4), (18, 2), (18, 6), (18, 7), (18, 8), (56, 0), (59, 1), (59, 2), (59, 3), (59, 4), (59, 5), (59, 6), (59, 7), (67, 0), (68, 0)] m0 m ∧ zE m 89 50 ∧ zgeo m 50 ∧ zR_K54 m ∧ True ∧ ((m a0 8) = (m0 a0 8) + a1))) ∧ (∀ (x3 x4 : Int) (mh : zu_m), zi_I mh → zfr [(16, 9), (16, 10), (17, 4), (18, 2), (18, 6), (18, 7), (18, 8), (56, 0), (59, 1), (59, 2), (59, 3), (59, 4), (59, 5), (59, 6), (59, 7), (67, 0), (68, 0)] m0 mh → (1 ≤ a1 ∧ a1 ≤ 200) → (0 ≤ a2 ∧ a2 ≤ 0) → (0 ≤ x3 ∧ x3 ≤ 199) → (0 ≤ x4 ∧ x4 ≤ 4) → (x3 < a1) → ((mh a0 8) = (m0 a0 8) + x3) → (zE mh 89 50) → (zgeo mh 50) → (zR_K54 mh) → (4 - x4) * 1 + (200 - x3) * 11 + 5 < (k : Int) → zw (zu_ex (zt_T n) 214 10 [(27, a0), (0, a1), (0, a2), (0, x3), (0, x4)] [] mh) (fun v m => zi_I m ∧ zfr [(16, 9), (16, 10), (17, 4), (18, 2), (18, 6), (18, 7), (18, 8), (56, 0), (59, 1), (59, 2), (59, 3), (59, 4), (59, 5), (59, 6), (59, 7), (67, 0), (68, 0)] m0 m ∧ zE m 89 50 ∧ zgeo m 50 ∧ zR_K54 m ∧ True ∧ ((m a0 8) = (m0 a0 8) + a1))) ∧ (∀ (x3 x4 : Int) (mh : zu_m), zi_I mh → zfr [(16, 9), (16, 10), (17, 4), (18, 2), (18, 6), (18, 7), (18, 8), (56, 0), (59, 1), (59, 2), (59, 3), (59, 4), (59, 5), (59, 6), (59, 7), (67, 0), (68, 0)] m0 mh → (1 ≤ a1 ∧ a1 ≤ 200) → (0 ≤ a2 ∧ a2 ≤ 0) → (0 ≤ x3 ∧ x3 ≤ 199) → (0 ≤ x4 ∧ x4 ≤ 4) → (x3 < a1) → ((mh a0 8) = (m0 a0 8) + x3) → (zE mh 89 50) → (zgeo mh 50) → (zR_K54 mh) → (4 - x4) * 1 + (200 - x3) * 11 + 0 < (k : Int) → zw (zu_ex (zt_T n) 214 52 [(27, a0), (0, a1), (0, a2), (0, x3), (0, x4)] [] mh) (fun v m => zi_I m ∧ zfr [(16, 9), (16, 10), (17, 4), (18, 2), (18, 6), (18, 7), (18, 8), (56, 0), (59, 1), (59, 2), (59, 3), (59, 4), (59, 5), (59, 6), (59, 7), (67, 0), (68, 0)] m0 m ∧ zE m 89 50 ∧ zgeo m 50 ∧ zR_K54 m ∧ True ∧ ((m a0 8) = (m0 a0 8) + a1))) := by
  intro k
  induction k with
  | zero => exact ⟨fun x3 mh hImh hFmh hba1 hba2 hbx3 hH0 hH1 hRE89mh hRG5mh hRK54mh hM => by exfalso; omega, fun x3 x4 mh hImh hFmh hba1 hba2 hbx3 hbx4 hH0 hH1 hRE89mh hRG5mh hRK54mh hM => by exfalso; omega, fun x3 x4 mh hImh hFmh hba1 hba2 hbx3 hbx4 hH0 hH1 hRE89mh hRG5mh hRK54mh hM => by exfalso; omega⟩
  | succ k ih =>
    refine ⟨?_, ?_, ?_⟩
    · intro x3 mh hImh hFmh hba1 hba2 hbx3 hH0 hH1 hRE89mh hRG5mh hRK54mh hM
      refine zw_eq (zu_rega_at (zt_T n) (zm_214 n) (zdp_214 n) _ _ _ _ _ _ (zr_214_2 n _ _ a0 a1 a2 x3 mh)) ?_
      have r1 : 0 ≤ (mh a0 8) ∧ (mh a0 8) ≤ 9999 := zi_rd hImh hc0 zb_16_8
      refine zw_ite (fun h2 => ?_) (fun h2 => ?_)
      · exact zw_some ⟨hImh, hFmh, hRE89mh, hRG5mh, hRK54mh, trivial, by omega⟩
      · have hM : (4 - 0) * 1 + (200 - x3) * 11 + 5 < (k : Int) := by omega
        exact ih.2.1 x3 0 mh hImh hFmh ⟨by omega, by omega⟩ ⟨by omega, by omega⟩ ⟨by omega, by omega⟩ ⟨by omega, by omega⟩ (by omega) (by omega) hRE89mh hRG5mh hRK54mh hM
    · intro x3 x4 mh hImh hFmh hba1 hba2 hbx3 hbx4 hH0 hH1 hRE89mh hRG5mh hRK54mh hM
      refine zw_eq (zu_rega_at (zt_T n) (zm_214 n) (zdp_214 n) _ _ _ _ _ _ (zr_214_10 n _ _ a0 a1 a2 x3 x4 mh)) ?_
      have r3 : 0 ≤ (mh a0 8) ∧ (mh a0 8) ≤ 9999 := zi_rd hImh hc0 zb_16_8
      have r4 : 0 ≤ (mh a0 4) ∧ (mh a0 4) ≤ 4 := zi_rd hImh hc0 zb_16_4
      refine zw_ite (fun h5 => ?_) (fun h5 => ?_)
      · have hM : (4 - 0) * 1 + (200 - x3) * 11 + 0 < (k : Int) := by omega
        exact ih.2.2 x3 0 mh hImh hFmh ⟨by omega, by omega⟩ ⟨by omega, by omega⟩ ⟨by omega, by omega⟩ ⟨by omega, by omega⟩ (by omega) (by omega) hRE89mh hRG5mh hRK54mh hM
      · have b6 : 0 ≤ x4 ∧ x4 < 4 := by omega
        refine zw_if b6 ?_
        have r7 : (-2147483648) ≤ (mh ((a0 + 2) + 20 + x4) 4) ∧ (mh ((a0 + 2) + 20 + x4) 4) ≤ 2147483647 := zi_rd hImh (zc_66_e (zc_16_3 hc0) b6) zb_18_4
        refine zw_ite (fun h8 => ?_) (fun h8 => ?_)
        · have w9 := zu_w32_id (z := x4 + 1) (by omega) (by omega)
          have hM : (4 - (zu_w32 (x4 + 1))) * 1 + (200 - x3) * 11 + 5 < (k : Int) := by omega
          exact ih.2.1 x3 (zu_w32 (x4 + 1)) mh hImh hFmh ⟨by omega, by omega⟩ ⟨by omega, by omega⟩ ⟨by omega, by omega⟩ ⟨by omega, by omega⟩ (by omega) (by omega) hRE89mh hRG5mh hRK54mh hM
        · refine zw_bd (zw_mono (zk_216_16 n hImh hc0 ⟨by omega, by omega⟩ ⟨by omega, by omega⟩ hRK54mh) (fun v11 m10 hqm10 => ?_))
          obtain ⟨hIm10, hfm10, hvm10⟩ := hqm10
          have hFm10 := zfr_tr hFmh hfm10 rfl
          obtain ⟨hRK54m10, hvm10⟩ := hvm10
          have hRE89m10 := zR_E89_fr (zdis_fr hfm10 rfl) hRE89mh
          have hRG5m10 := zR_G5_fr (zdis_fr hfm10 rfl) hRG5mh
          have w12 := zu_w32_id (z := x4 + 1) (by omega) (by omega)
          have r13 : 0 ≤ (m10 a0 8) ∧ (m10 a0 8) ≤ 9999 := zi_rd hIm10 hc0 zb_16_8
          have e14 : (m10 a0 8) = (mh a0 8) := (zfr_ap hfm10 hc0 rfl)
          have hM : (4 - (zu_w32 (x4 + 1))) * 1 + (200 - x3) * 11 + 5 < (k : Int) := by omega
          exact ih.2.1 x3 (zu_w32 (x4 + 1)) m10 hIm10 hFm10 ⟨by omega, by omega⟩ ⟨by omega, by omega⟩ ⟨by omega, by omega⟩ ⟨by omega, by omega⟩ (by omega) (by omega) hRE89m10 hRG5m10 hRK54m10 hM
    · intro x3 x4 mh hImh hFmh hba1 hba2 hbx3 hbx4 hH0 hH1 hRE89mh hRG5mh hRK54mh hM
      refine zw_eq (zu_rega_at (zt_T n) (zm_214 n) (zdp_214 n) _ _ _ _ _ _ (zr_214_52 n _ _ a0 a1 a2 x3 x4 mh)) ?_
      have r15 : 0 ≤ (mh a0 8) ∧ (mh a0 8) ≤ 9999 := zi_rd hImh hc0 zb_16_8
      have r16 : 0 ≤ (mh a0 4) ∧ (mh a0 4) ≤ 4 := zi_rd hImh hc0 zb_16_4
      refine zw_ite (fun h17 => ?_) (fun h17 => ?_)
      · refine zw_ite (fun h18 => ?_) (fun h18 => ?_)
        · exfalso; omega
        · refine zw_bd (zw_mono (zk_221_16 n hImh hc0) (fun v20 m19 hqm19 => ?_))
          obtain ⟨hIm19, hfm19, hvm19⟩ := hqm19
          have hFm19 := zfr_tr hFmh hfm19 rfl
          have hRE89m19 := zR_E89_fr (zdis_fr hfm19 rfl) hRE89mh
          have hRG5m19 := zR_G5_fr (zdis_fr hfm19 rfl) hRG5mh
          have hRK54m19 := zR_K54_fr (zdis_fr hfm19 rfl) hRK54mh
          have r21 : 0 ≤ (m19 a0 8) ∧ (m19 a0 8) ≤ 9999 := zi_rd hIm19 hc0 zb_16_8
          have e22 : (m19 a0 8) = (mh a0 8) := (zfr_ap hfm19 hc0 rfl)
          have r23 : (-2147483648) ≤ (m19 a0 11) ∧ (m19 a0 11) ≤ 2147483647 := zi_rd hIm19 hc0 zb_16_11
          refine zw_ite (fun h24 => ?_) (fun h24 => ?_)
          · have w25 := zu_w32_id (z := (m19 a0 8) + 1) (by omega) (by omega)
            generalize hmm26 : zu_up m19 a0 8 (zu_w32 ((m19 a0 8) + 1)) = m26
            have hIm26 := zi_up hmm26 hIm19 hc0 zb_16_8 (by omega) (by omega)
            have hFm26 := zfr_up hmm26 hFm19 hc0 rfl
            have hRE89m26 := zR_E89_fr (zdis_fr (zfr_up hmm26 (zfr_rf [(16, 9)] _) hc0 rfl) rfl) hRE89m19
            have hRG5m26 := zR_G5_fr (zdis_fr (zfr_up hmm26 (zfr_rf [(16, 9)] _) hc0 rfl) rfl) hRG5m19
            have hRK54m26 := zR_K54_fr (zdis_fr (zfr_up hmm26 (zfr_rf [(16, 9)] _) hc0 rfl) rfl) hRK54m19
            have w27 := zu_w32_id (z := x3 + 1) (by omega) (by omega)
            have r28 : 0 ≤ (m26 a0 8) ∧ (m26 a0 8) ≤ 9999 := zi_rd hIm26 hc0 zb_16_8
            have e29 : (m26 a0 8) = (zu_w32 ((m19 a0 8) + 1)) := (zs_eq hmm26)
            have hM : (200 - (zu_w32 (x3 + 1))) * 11 + 10 < (k : Int) := by omega
            exact zw_le (zu_forget (zu_lr_same (zu_lr_same (zu_lr_same (zu_lr_same (zu_lr_drop zu_lr_nil)))))) (ih.1 (zu_w32 (x3 + 1)) m26 hIm26 hFm26 ⟨by omega, by omega⟩ ⟨by omega, by omega⟩ ⟨by omega, by omega⟩ (by omega) (by omega) hRE89m26 hRG5m26 hRK54m26 hM)
          · refine zw_bd (zw_mono (zk_222_16 n hIm19 hc0) (fun v31 m30 hqm30 => ?_))
            obtain ⟨hIm30, hfm30, hvm30⟩ := hqm30
            have hFm30 := zfr_tr hFm19 hfm30 rfl
            have hRE89m30 := zR_E89_fr (zdis_fr hfm30 rfl) hRE89m19
            have hRG5m30 := zR_G5_fr (zdis_fr hfm30 rfl) hRG5m19
            have hRK54m30 := zR_K54_fr (zdis_fr hfm30 rfl) hRK54m19
            have r32 : 0 ≤ (m30 a0 8) ∧ (m30 a0 8) ≤ 9999 := zi_rd hIm30 hc0 zb_16_8
            have e33 : (m30 a0 8) = (m19 a0 8) := (zfr_ap hfm30 hc0 rfl)
            have w34 := zu_w32_id (z := (m30 a0 8) + 1) (by omega) (by omega)
            generalize hmm35 : zu_up m30 a0 8 (zu_w32 ((m30 a0 8) + 1)) = m35
            have hIm35 := zi_up hmm35 hIm30 hc0 zb_16_8 (by omega) (by omega)
            have hFm35 := zfr_up hmm35 hFm30 hc0 rfl
            have hRE89m35 := zR_E89_fr (zdis_fr (zfr_up hmm35 (zfr_rf [(16, 9)] _) hc0 rfl) rfl) hRE89m30
            have hRG5m35 := zR_G5_fr (zdis_fr (zfr_up hmm35 (zfr_rf [(16, 9)] _) hc0 rfl) rfl) hRG5m30
            have hRK54m35 := zR_K54_fr (zdis_fr (zfr_up hmm35 (zfr_rf [(16, 9)] _) hc0 rfl) rfl) hRK54m30
            have w36 := zu_w32_id (z := x3 + 1) (by omega) (by omega)
            have r37 : 0 ≤ (m35 a0 8) ∧ (m35 a0 8) ≤ 9999 := zi_rd hIm35 hc0 zb_16_8
            have e38 : (m35 a0 8) = (zu_w32 ((m30 a0 8) + 1)) := (zs_eq hmm35)
            have hM : (200 - (zu_w32 (x3 + 1))) * 11 + 10 < (k : Int) := by omega
            exact zw_le (zu_forget (zu_lr_same (zu_lr_same (zu_lr_same (zu_lr_same (zu_lr_drop zu_lr_nil)))))) (ih.1 (zu_w32 (x3 + 1)) m35 hIm35 hFm35 ⟨by omega, by omega⟩ ⟨by omega, by omega⟩ ⟨by omega, by omega⟩ (by omega) (by omega) hRE89m35 hRG5m35 hRK54m35 hM)
      · have b39 : 0 ≤ x4 ∧ x4 < 4 := by omega
        refine zw_if b39 ?_
        have r40 : (-2147483648) ≤ (mh ((a0 + 2) + 20 + x4) 4) ∧ (mh ((a0 + 2) + 20 + x4) 4) ≤ 2147483647 := zi_rd hImh (zc_66_e (zc_16_3 hc0) b39) zb_18_4
        refine zw_ite (fun h41 => ?_) (fun h41 => ?_)
        · have w42 := zu_w32_id (z := x4 + 1) (by omega) (by omega)
          have hM : (4 - (zu_w32 (x4 + 1))) * 1 + (200 - x3) * 11 + 0 < (k : Int) := by omega
          exact ih.2.2 x3 (zu_w32 (x4 + 1)) mh hImh hFmh ⟨by omega, by omega⟩ ⟨by omega, by omega⟩ ⟨by omega, by omega⟩ ⟨by omega, by omega⟩ (by omega) (by omega) hRE89mh hRG5mh hRK54mh hM
        · refine zw_bd (zw_mono (zk_219_16 n hImh hc0 ⟨by omega, by omega⟩ ⟨by omega, by omega⟩ (by omega) hRE89mh hRG5mh) (fun v44 m43 hqm43 => ?_))
          obtain ⟨hIm43, hfm43, hvm43⟩ := hqm43
          have hFm43 := zfr_tr hFmh hfm43 rfl
          obtain ⟨hRE89m43, hRG5m43, hvm43⟩ := hvm43
          have hRK54m43 := zR_K54_fr (zdis_fr hfm43 rfl) hRK54mh
          have w45 := zu_w32_id (z := x4 + 1) (by omega) (by omega)
          have r46 : 0 ≤ (m43 a0 8) ∧ (m43 a0 8) ≤ 9999 := zi_rd hIm43 hc0 zb_16_8
          have e47 : (m43 a0 8) = (mh a0 8) := (zfr_ap hfm43 hc0 rfl)
          have hM : (4 - (zu_w32 (x4 + 1))) * 1 + (200 - x3) * 11 + 0 < (k : Int) := by omega
          exact ih.2.2 x3 (zu_w32 (x4 + 1)) m43 hIm43 hFm43 ⟨by omega, by omega⟩ ⟨by omega, by omega⟩ ⟨by omega, by omega⟩ ⟨by omega, by omega⟩ (by omega) (by omega) hRE89m43 hRG5m43 hRK54m43 hM
set_option maxHeartbeats 4000000 in
theorem zk_214_16 (n : Nat) {a0 a1 a2 : Int} {m0 : zu_m} (hIm0 : zi_I m0) (hc0 : zcls a0 = 16) (ha1 : 0 ≤ a1 ∧ a1 ≤ 200) (ha2 : 0 ≤ a2 ∧ a2 ≤ 0)   (hxp0 : (m0 a0 8) + a1 ≤ 9999) (hRE89m0 : zE m0 89 50) (hRG5m0 : zgeo m0 50) (hRK54m0 : zR_K54 m0) : zw (zu_call (zt_T n) 214 [(27, a0), (0, a1), (0, a2)] m0) (fun v m => zi_I m ∧ zfr [(16, 9), (16, 10), (17, 4), (18, 2), (18, 6), (18, 7), (18, 8), (56, 0), (59, 1), (59, 2), (59, 3), (59, 4), (59, 5), (59, 6), (59, 7), (67, 0), (68, 0)] m0 m ∧ zE m 89 50 ∧ zgeo m 50 ∧ zR_K54 m ∧ True ∧ ((m a0 8) = (m0 a0 8) + a1)) := by
  have hFm0 : zfr [(16, 9), (16, 10), (17, 4), (18, 2), (18, 6), (18, 7), (18, 8), (56, 0), (59, 1), (59, 2), (59, 3), (59, 4), (59, 5), (59, 6), (59, 7), (67, 0), (68, 0)] m0 m0 := zfr_rf _ _
  have r48 : 0 ≤ (m0 a0 8) ∧ (m0 a0 8) ≤ 9999 := zi_rd hIm0 hc0 zb_16_8
  refine zw_eq (zu_call_at (zt_T n) (zm_214 n) (zdp_214 n) _ _ _ _ _ rfl (zr_214_0 n _ _ a0 a1 a2 m0)) ?_
  have hM : (200 - 0) * 11 + 10 < ((2211 : Nat) : Int) := by omega
  exact (zl_214_16 n (m0 := m0) hc0 hxp0 2211).1 0 m0 hIm0 hFm0 ⟨by omega, by omega⟩ ⟨by omega, by omega⟩ ⟨by omega, by omega⟩ (by omega) (by omega) hRE89m0 hRG5m0 hRK54m0 hM
set_option maxHeartbeats 4000000 in
theorem zl_214_25 (n : Nat) {a0 a1 a2 : Int} {m0 : zu_m} (hc0 : zcls a0 = 25)  (hxp0 : (m0 a0 8) + a1 ≤ 20000) : ∀ k : Nat, (∀ (x3 : Int) (mh : zu_m), zi_I mh → zfr [(25, 9), (25, 10), (26, 4), (27, 2), (27, 6), (27, 7), (27, 8), (56, 0), (59, 1), (59, 2), (59, 3), (59, 4), (59, 5), (59, 6), (59, 7), (97, 0), (98, 0)] m0 mh → (0 ≤ a1 ∧ a1 ≤ 200) → (0 ≤ a2 ∧ a2 ≤ 1) → (0 ≤ x3 ∧ x3 ≤ 200) → (x3 ≤ a1) → ((mh a0 8) = (m0 a0 8) + x3) → (zE mh 164 50) → (zgeo mh 50) → (zR_K54 mh) → (200 - x3) * 11 + 10 < (k : Int) → zw (zu_ex (zt_T n) 214 2 [(27, a0), (0, a1), (0, a2), (0, x3), (2, 0)] [] mh) (fun v m => zi_I m ∧ zfr [(25, 9), (25, 10), (26, 4), (27, 2), (27, 6), (27, 7), (27, 8), (56, 0), (59, 1), (59, 2), (59, 3), (59, 4), (59, 5), (59, 6), (59, 7), (97, 0), (98, 0)] m0 m ∧ zE m 164 50 ∧ zgeo m 50 ∧ zR_K54 m ∧ True ∧ ((m a0 8) = (m0 a0 8) + a1))) ∧ (∀ (x3 x4 : Int) (mh : zu_m), zi_I mh → zfr [(25, 9), (25, 10), (26, 4), (27, 2), (27, 6), (27, 7), (27, 8), (56, 0), (59, 1), (59, 2), (59, 3), (59, 4), (59, 5), (59, 6), (59, 7), (97, 0), (98, 0)] m0 mh → (1 ≤ a1 ∧ a1 ≤ 200) → (0 ≤ a2 ∧ a2 ≤ 1) → (0 ≤ x3 ∧ x3 ≤ 199) → (0 ≤ x4 ∧ x4 ≤ 4) → (x3 < a1) → ((mh a0 8) = (m0 a0 8) + x3) → (zE mh 164 50) → (zgeo mh 50) → (zR_K54 mh) → (4 - x4) * 1 + (200 - x3) * 11 + 5 < (k : Int) → zw (zu_ex (zt_T n) 214 10 [(27, a0), (0, a1), (0, a2), (0, x3), (0, x4)] [] mh) (fun v m => zi_I m ∧ zfr [(25, 9), (25, 10), (26, 4), (27, 2), (27, 6), (27, 7), (27, 8), (56, 0), (59, 1), (59, 2), (59, 3), (59, 4), (59, 5), (59, 6), (59, 7), (97, 0), (98, 0)] m0 m ∧ zE m 164 50 ∧ zgeo m 50 ∧ zR_K54 m ∧ True ∧ ((m a0 8) = (m0 a0 8) + a1))) ∧ (∀ (x3 x4 : Int) (mh : zu_m), zi_I mh → zfr [(25, 9), (25, 10), (26, 4), (27, 2), (27, 6), (27, 7), (27, 8), (56, 0), (59, 1), (59, 2), (59, 3), (59, 4), (59, 5), (59, 6), (59, 7), (97, 0), (98, 0)] m0 mh → (1 ≤ a1 ∧ a1 ≤ 200) → (0 ≤ a2 ∧ a2 ≤ 1) → (0 ≤ x3 ∧ x3 ≤ 199) → (0 ≤ x4 ∧ x4 ≤ 4) → (x3 < a1) → ((mh a0 8) = (m0 a0 8) + x3) → (zE mh 164 50) → (zgeo mh 50) → (zR_K54 mh) → (4 - x4) * 1 + (200 - x3) * 11 + 0 < (k : Int) → zw (zu_ex (zt_T n) 214 52 [(27, a0), (0, a1), (0, a2), (0, x3), (0, x4)] [] mh) (fun v m => zi_I m ∧ zfr [(25, 9), (25, 10), (26, 4), (27, 2), (27, 6), (27, 7), (27, 8), (56, 0), (59, 1), (59, 2), (59, 3), (59, 4), (59, 5), (59, 6), (59, 7), (97, 0), (98, 0)] m0 m ∧ zE m 164 50 ∧ zgeo m 50 ∧ zR_K54 m ∧ True ∧ ((m a0 8) = (m0 a0 8) + a1))) := by
  intro k
  induction k with
  | zero => exact ⟨fun x3 mh hImh hFmh hba1 hba2 hbx3 hH0 hH1 hRE164mh hRG5mh hRK54mh hM => by exfalso; omega, fun x3 x4 mh hImh hFmh hba1 hba2 hbx3 hbx4 hH0 hH1 hRE164mh hRG5mh hRK54mh hM => by exfalso; omega, fun x3 x4 mh hImh hFmh hba1 hba2 hbx3 hbx4 hH0 hH1 hRE164mh hRG5mh hRK54mh hM => by exfalso; omega⟩
  | succ k ih =>
    refine ⟨?_, ?_, ?_⟩
    · intro x3 mh hImh hFmh hba1 hba2 hbx3 hH0 hH1 hRE164mh hRG5mh hRK54mh hM
      refine zw_eq (zu_rega_at (zt_T n) (zm_214 n) (zdp_214 n) _ _ _ _ _ _ (zr_214_2 n _ _ a0 a1 a2 x3 mh)) ?_
      have r1 : 0 ≤ (mh a0 8) ∧ (mh a0 8) ≤ 20000 := zi_rd hImh hc0 zb_25_8
      refine zw_ite (fun h2 => ?_) (fun h2 => ?_)
      · exact zw_some ⟨hImh, hFmh, hRE164mh, hRG5mh, hRK54mh, trivial, by omega⟩
      · have hM : (4 - 0) * 1 + (200 - x3) * 11 + 5 < (k : Int) := by omega
        exact ih.2.1 x3 0 mh hImh hFmh ⟨by omega, by omega⟩ ⟨by omega, by omega⟩ ⟨by omega, by omega⟩ ⟨by omega, by omega⟩ (by omega) (by omega) hRE164mh hRG5mh hRK54mh hM
    · intro x3 x4 mh hImh hFmh hba1 hba2 hbx3 hbx4 hH0 hH1 hRE164mh hRG5mh hRK54mh hM
      refine zw_eq (zu_rega_at (zt_T n) (zm_214 n) (zdp_214 n) _ _ _ _ _ _ (zr_214_10 n _ _ a0 a1 a2 x3 x4 mh)) ?_
      have r3 : 0 ≤ (mh a0 8) ∧ (mh a0 8) ≤ 20000 := zi_rd hImh hc0 zb_25_8
      have r4 : 0 ≤ (mh a0 4) ∧ (mh a0 4) ≤ 4 := zi_rd hImh hc0 zb_25_4
      refine zw_ite (fun h5 => ?_) (fun h5 => ?_)
      · have hM : (4 - 0) * 1 + (200 - x3) * 11 + 0 < (k : Int) := by omega
        exact ih.2.2 x3 0 mh hImh hFmh ⟨by omega, by omega⟩ ⟨by omega, by omega⟩ ⟨by omega, by omega⟩ ⟨by omega, by omega⟩ (by omega) (by omega) hRE164mh hRG5mh hRK54mh hM
      · have b6 : 0 ≤ x4 ∧ x4 < 4 := by omega
        refine zw_if b6 ?_
        have r7 : (-2147483648) ≤ (mh ((a0 + 2) + 20 + x4) 4) ∧ (mh ((a0 + 2) + 20 + x4) 4) ≤ 2147483647 := zi_rd hImh (zc_96_e (zc_25_3 hc0) b6) zb_27_4
        refine zw_ite (fun h8 => ?_) (fun h8 => ?_)
        · have w9 := zu_w32_id (z := x4 + 1) (by omega) (by omega)
          have hM : (4 - (zu_w32 (x4 + 1))) * 1 + (200 - x3) * 11 + 5 < (k : Int) := by omega
          exact ih.2.1 x3 (zu_w32 (x4 + 1)) mh hImh hFmh ⟨by omega, by omega⟩ ⟨by omega, by omega⟩ ⟨by omega, by omega⟩ ⟨by omega, by omega⟩ (by omega) (by omega) hRE164mh hRG5mh hRK54mh hM
        · refine zw_bd (zw_mono (zk_216_25 n hImh hc0 ⟨by omega, by omega⟩ ⟨by omega, by omega⟩ hRK54mh) (fun v11 m10 hqm10 => ?_))
          obtain ⟨hIm10, hfm10, hvm10⟩ := hqm10
          have hFm10 := zfr_tr hFmh hfm10 rfl
          obtain ⟨hRK54m10, hvm10⟩ := hvm10
          have hRE164m10 := zR_E164_fr (zdis_fr hfm10 rfl) hRE164mh
          have hRG5m10 := zR_G5_fr (zdis_fr hfm10 rfl) hRG5mh
          have w12 := zu_w32_id (z := x4 + 1) (by omega) (by omega)
          have r13 : 0 ≤ (m10 a0 8) ∧ (m10 a0 8) ≤ 20000 := zi_rd hIm10 hc0 zb_25_8
          have e14 : (m10 a0 8) = (mh a0 8) := (zfr_ap hfm10 hc0 rfl)
          have hM : (4 - (zu_w32 (x4 + 1))) * 1 + (200 - x3) * 11 + 5 < (k : Int) := by omega
          exact ih.2.1 x3 (zu_w32 (x4 + 1)) m10 hIm10 hFm10 ⟨by omega, by omega⟩ ⟨by omega, by omega⟩ ⟨by omega, by omega⟩ ⟨by omega, by omega⟩ (by omega) (by omega) hRE164m10 hRG5m10 hRK54m10 hM
    · intro x3 x4 mh hImh hFmh hba1 hba2 hbx3 hbx4 hH0 hH1 hRE164mh hRG5mh hRK54mh hM
      refine zw_eq (zu_rega_at (zt_T n) (zm_214 n) (zdp_214 n) _ _ _ _ _ _ (zr_214_52 n _ _ a0 a1 a2 x3 x4 mh)) ?_
      have r15 : 0 ≤ (mh a0 8) ∧ (mh a0 8) ≤ 20000 := zi_rd hImh hc0 zb_25_8
      have r16 : 0 ≤ (mh a0 4) ∧ (mh a0 4) ≤ 4 := zi_rd hImh hc0 zb_25_4
      refine zw_ite (fun h17 => ?_) (fun h17 => ?_)
      · refine zw_ite (fun h18 => ?_) (fun h18 => ?_)
        · have r19 : (-2147483648) ≤ (mh a0 11) ∧ (mh a0 11) ≤ 2147483647 := zi_rd hImh hc0 zb_25_11
          refine zw_ite (fun h20 => ?_) (fun h20 => ?_)
          · have w21 := zu_w32_id (z := (mh a0 8) + 1) (by omega) (by omega)
            generalize hmm22 : zu_up mh a0 8 (zu_w32 ((mh a0 8) + 1)) = m22
            have hIm22 := zi_up hmm22 hImh hc0 zb_25_8 (by omega) (by omega)
            have hFm22 := zfr_up hmm22 hFmh hc0 rfl
            have hRE164m22 := zR_E164_fr (zdis_fr (zfr_up hmm22 (zfr_rf [(25, 9)] _) hc0 rfl) rfl) hRE164mh
            have hRG5m22 := zR_G5_fr (zdis_fr (zfr_up hmm22 (zfr_rf [(25, 9)] _) hc0 rfl) rfl) hRG5mh
            have hRK54m22 := zR_K54_fr (zdis_fr (zfr_up hmm22 (zfr_rf [(25, 9)] _) hc0 rfl) rfl) hRK54mh
            have w23 := zu_w32_id (z := x3 + 1) (by omega) (by omega)
            have r24 : 0 ≤ (m22 a0 8) ∧ (m22 a0 8) ≤ 20000 := zi_rd hIm22 hc0 zb_25_8
            have e25 : (m22 a0 8) = (zu_w32 ((mh a0 8) + 1)) := (zs_eq hmm22)
            have hM : (200 - (zu_w32 (x3 + 1))) * 11 + 10 < (k : Int) := by omega
            exact zw_le (zu_forget (zu_lr_same (zu_lr_same (zu_lr_same (zu_lr_same (zu_lr_drop zu_lr_nil)))))) (ih.1 (zu_w32 (x3 + 1)) m22 hIm22 hFm22 ⟨by omega, by omega⟩ ⟨by omega, by omega⟩ ⟨by omega, by omega⟩ (by omega) (by omega) hRE164m22 hRG5m22 hRK54m22 hM)
          · refine zw_bd (zw_mono (zk_222_25 n hImh hc0) (fun v27 m26 hqm26 => ?_))
            obtain ⟨hIm26, hfm26, hvm26⟩ := hqm26
            have hFm26 := zfr_tr hFmh hfm26 rfl
            have hRE164m26 := zR_E164_fr (zdis_fr hfm26 rfl) hRE164mh
            have hRG5m26 := zR_G5_fr (zdis_fr hfm26 rfl) hRG5mh
            have hRK54m26 := zR_K54_fr (zdis_fr hfm26 rfl) hRK54mh
            have r28 : 0 ≤ (m26 a0 8) ∧ (m26 a0 8) ≤ 20000 := zi_rd hIm26 hc0 zb_25_8
            have e29 : (m26 a0 8) = (mh a0 8) := (zfr_ap hfm26 hc0 rfl)
            have w30 := zu_w32_id (z := (m26 a0 8) + 1) (by omega) (by omega)
            generalize hmm31 : zu_up m26 a0 8 (zu_w32 ((m26 a0 8) + 1)) = m31
            have hIm31 := zi_up hmm31 hIm26 hc0 zb_25_8 (by omega) (by omega)
            have hFm31 := zfr_up hmm31 hFm26 hc0 rfl
            have hRE164m31 := zR_E164_fr (zdis_fr (zfr_up hmm31 (zfr_rf [(25, 9)] _) hc0 rfl) rfl) hRE164m26
            have hRG5m31 := zR_G5_fr (zdis_fr (zfr_up hmm31 (zfr_rf [(25, 9)] _) hc0 rfl) rfl) hRG5m26
            have hRK54m31 := zR_K54_fr (zdis_fr (zfr_up hmm31 (zfr_rf [(25, 9)] _) hc0 rfl) rfl) hRK54m26
            have w32 := zu_w32_id (z := x3 + 1) (by omega) (by omega)
            have r33 : 0 ≤ (m31 a0 8) ∧ (m31 a0 8) ≤ 20000 := zi_rd hIm31 hc0 zb_25_8
            have e34 : (m31 a0 8) = (zu_w32 ((m26 a0 8) + 1)) := (zs_eq hmm31)
            have hM : (200 - (zu_w32 (x3 + 1))) * 11 + 10 < (k : Int) := by omega
            exact zw_le (zu_forget (zu_lr_same (zu_lr_same (zu_lr_same (zu_lr_same (zu_lr_drop zu_lr_nil)))))) (ih.1 (zu_w32 (x3 + 1)) m31 hIm31 hFm31 ⟨by omega, by omega⟩ ⟨by omega, by omega⟩ ⟨by omega, by omega⟩ (by omega) (by omega) hRE164m31 hRG5m31 hRK54m31 hM)
        · refine zw_bd (zw_mono (zk_221_25 n hImh hc0) (fun v36 m35 hqm35 => ?_))
          obtain ⟨hIm35, hfm35, hvm35⟩ := hqm35
          have hFm35 := zfr_tr hFmh hfm35 rfl
          have hRE164m35 := zR_E164_fr (zdis_fr hfm35 rfl) hRE164mh
          have hRG5m35 := zR_G5_fr (zdis_fr hfm35 rfl) hRG5mh
          have hRK54m35 := zR_K54_fr (zdis_fr hfm35 rfl) hRK54mh
          have r37 : 0 ≤ (m35 a0 8) ∧ (m35 a0 8) ≤ 20000 := zi_rd hIm35 hc0 zb_25_8
          have e38 : (m35 a0 8) = (mh a0 8) := (zfr_ap hfm35 hc0 rfl)
          have r39 : (-2147483648) ≤ (m35 a0 11) ∧ (m35 a0 11) ≤ 2147483647 := zi_rd hIm35 hc0 zb_25_11
          refine zw_ite (fun h40 => ?_) (fun h40 => ?_)
          · have w41 := zu_w32_id (z := (m35 a0 8) + 1) (by omega) (by omega)
            generalize hmm42 : zu_up m35 a0 8 (zu_w32 ((m35 a0 8) + 1)) = m42
            have hIm42 := zi_up hmm42 hIm35 hc0 zb_25_8 (by omega) (by omega)
            have hFm42 := zfr_up hmm42 hFm35 hc0 rfl
            have hRE164m42 := zR_E164_fr (zdis_fr (zfr_up hmm42 (zfr_rf [(25, 9)] _) hc0 rfl) rfl) hRE164m35
            have hRG5m42 := zR_G5_fr (zdis_fr (zfr_up hmm42 (zfr_rf [(25, 9)] _) hc0 rfl) rfl) hRG5m35
            have hRK54m42 := zR_K54_fr (zdis_fr (zfr_up hmm42 (zfr_rf [(25, 9)] _) hc0 rfl) rfl) hRK54m35
            have w43 := zu_w32_id (z := x3 + 1) (by omega) (by omega)
            have r44 : 0 ≤ (m42 a0 8) ∧ (m42 a0 8) ≤ 20000 := zi_rd hIm42 hc0 zb_25_8
            have e45 : (m42 a0 8) = (zu_w32 ((m35 a0 8) + 1)) := (zs_eq hmm42)
            have hM : (200 - (zu_w32 (x3 + 1))) * 11 + 10 < (k : Int) := by omega
            exact zw_le (zu_forget (zu_lr_same (zu_lr_same (zu_lr_same (zu_lr_same (zu_lr_drop zu_lr_nil)))))) (ih.1 (zu_w32 (x3 + 1)) m42 hIm42 hFm42 ⟨by omega, by omega⟩ ⟨by omega, by omega⟩ ⟨by omega, by omega⟩ (by omega) (by omega) hRE164m42 hRG5m42 hRK54m42 hM)
          · refine zw_bd (zw_mono (zk_222_25 n hIm35 hc0) (fun v47 m46 hqm46 => ?_))
            obtain ⟨hIm46, hfm46, hvm46⟩ := hqm46
            have hFm46 := zfr_tr hFm35 hfm46 rfl
            have hRE164m46 := zR_E164_fr (zdis_fr hfm46 rfl) hRE164m35
            have hRG5m46 := zR_G5_fr (zdis_fr hfm46 rfl) hRG5m35
            have hRK54m46 := zR_K54_fr (zdis_fr hfm46 rfl) hRK54m35
            have r48 : 0 ≤ (m46 a0 8) ∧ (m46 a0 8) ≤ 20000 := zi_rd hIm46 hc0 zb_25_8
            have e49 : (m46 a0 8) = (m35 a0 8) := (zfr_ap hfm46 hc0 rfl)
            have w50 := zu_w32_id (z := (m46 a0 8) + 1) (by omega) (by omega)
            generalize hmm51 : zu_up m46 a0 8 (zu_w32 ((m46 a0 8) + 1)) = m51
            have hIm51 := zi_up hmm51 hIm46 hc0 zb_25_8 (by omega) (by omega)
            have hFm51 := zfr_up hmm51 hFm46 hc0 rfl
            have hRE164m51 := zR_E164_fr (zdis_fr (zfr_up hmm51 (zfr_rf [(25, 9)] _) hc0 rfl) rfl) hRE164m46
            have hRG5m51 := zR_G5_fr (zdis_fr (zfr_up hmm51 (zfr_rf [(25, 9)] _) hc0 rfl) rfl) hRG5m46
            have hRK54m51 := zR_K54_fr (zdis_fr (zfr_up hmm51 (zfr_rf [(25, 9)] _) hc0 rfl) rfl) hRK54m46
            have w52 := zu_w32_id (z := x3 + 1) (by omega) (by omega)
            have r53 : 0 ≤ (m51 a0 8) ∧ (m51 a0 8) ≤ 20000 := zi_rd hIm51 hc0 zb_25_8
            have e54 : (m51 a0 8) = (zu_w32 ((m46 a0 8) + 1)) := (zs_eq hmm51)
            have hM : (200 - (zu_w32 (x3 + 1))) * 11 + 10 < (k : Int) := by omega
            exact zw_le (zu_forget (zu_lr_same (zu_lr_same (zu_lr_same (zu_lr_same (zu_lr_drop zu_lr_nil)))))) (ih.1 (zu_w32 (x3 + 1)) m51 hIm51 hFm51 ⟨by omega, by omega⟩ ⟨by omega, by omega⟩ ⟨by omega, by omega⟩ (by omega) (by omega) hRE164m51 hRG5m51 hRK54m51 hM)
      · have b55 : 0 ≤ x4 ∧ x4 < 4 := by omega
        refine zw_if b55 ?_
        have r56 : (-2147483648) ≤ (mh ((a0 + 2) + 20 + x4) 4) ∧ (mh ((a0 + 2) + 20 + x4) 4) ≤ 2147483647 := zi_rd hImh (zc_96_e (zc_25_3 hc0) b55) zb_27_4
        refine zw_ite (fun h57 => ?_) (fun h57 => ?_)
        · have w58 := zu_w32_id (z := x4 + 1) (by omega) (by omega)
          have hM : (4 - (zu_w32 (x4 + 1))) * 1 + (200 - x3) * 11 + 0 < (k : Int) := by omega
          exact ih.2.2 x3 (zu_w32 (x4 + 1)) mh hImh hFmh ⟨by omega, by omega⟩ ⟨by omega, by omega⟩ ⟨by omega, by omega⟩ ⟨by omega, by omega⟩ (by omega) (by omega) hRE164mh hRG5mh hRK54mh hM
        · refine zw_bd (zw_mono (zk_219_25 n hImh hc0 ⟨by omega, by omega⟩ ⟨by omega, by omega⟩ (by omega) hRE164mh hRG5mh) (fun v60 m59 hqm59 => ?_))
          obtain ⟨hIm59, hfm59, hvm59⟩ := hqm59
          have hFm59 := zfr_tr hFmh hfm59 rfl
          obtain ⟨hRE164m59, hRG5m59, hvm59⟩ := hvm59
          have hRK54m59 := zR_K54_fr (zdis_fr hfm59 rfl) hRK54mh
          have w61 := zu_w32_id (z := x4 + 1) (by omega) (by omega)
          have r62 : 0 ≤ (m59 a0 8) ∧ (m59 a0 8) ≤ 20000 := zi_rd hIm59 hc0 zb_25_8
          have e63 : (m59 a0 8) = (mh a0 8) := (zfr_ap hfm59 hc0 rfl)
          have hM : (4 - (zu_w32 (x4 + 1))) * 1 + (200 - x3) * 11 + 0 < (k : Int) := by omega
          exact ih.2.2 x3 (zu_w32 (x4 + 1)) m59 hIm59 hFm59 ⟨by omega, by omega⟩ ⟨by omega, by omega⟩ ⟨by omega, by omega⟩ ⟨by omega, by omega⟩ (by omega) (by omega) hRE164m59 hRG5m59 hRK54m59 hM
set_option maxHeartbeats 4000000 in
theorem zk_214_25 (n : Nat) {a0 a1 a2 : Int} {m0 : zu_m} (hIm0 : zi_I m0) (hc0 : zcls a0 = 25) (ha1 : 0 ≤ a1 ∧ a1 ≤ 200) (ha2 : 0 ≤ a2 ∧ a2 ≤ 1)   (hxp0 : (m0 a0 8) + a1 ≤ 20000) (hRE164m0 : zE m0 164 50) (hRG5m0 : zgeo m0 50) (hRK54m0 : zR_K54 m0) : zw (zu_call (zt_T n) 214 [(27, a0), (0, a1), (0, a2)] m0) (fun v m => zi_I m ∧ zfr [(25, 9), (25, 10), (26, 4), (27, 2), (27, 6), (27, 7), (27, 8), (56, 0), (59, 1), (59, 2), (59, 3), (59, 4), (59, 5), (59, 6), (59, 7), (97, 0), (98, 0)] m0 m ∧ zE m 164 50 ∧ zgeo m 50 ∧ zR_K54 m ∧ True ∧ ((m a0 8) = (m0 a0 8) + a1)) := by
  have hFm0 : zfr [(25, 9), (25, 10), (26, 4), (27, 2), (27, 6), (27, 7), (27, 8), (56, 0), (59, 1), (59, 2), (59, 3), (59, 4), (59, 5), (59, 6), (59, 7), (97, 0), (98, 0)] m0 m0 := zfr_rf _ _
  have r64 : 0 ≤ (m0 a0 8) ∧ (m0 a0 8) ≤ 20000 := zi_rd hIm0 hc0 zb_25_8
  refine zw_eq (zu_call_at (zt_T n) (zm_214 n) (zdp_214 n) _ _ _ _ _ rfl (zr_214_0 n _ _ a0 a1 a2 m0)) ?_
  have hM : (200 - 0) * 11 + 10 < ((2211 : Nat) : Int) := by omega
  exact (zl_214_25 n (m0 := m0) hc0 hxp0 2211).1 0 m0 hIm0 hFm0 ⟨by omega, by omega⟩ ⟨by omega, by omega⟩ ⟨by omega, by omega⟩ (by omega) (by omega) hRE164m0 hRG5m0 hRK54m0 hM
set_option maxHeartbeats 4000000 in
theorem zl_237 (n : Nat) {a0 a1 : Int} {m0 : zu_m} (hc0 : zcls a0 = 16)   : ∀ k : Nat, (∀ (x2 x3 : Int) (mh : zu_m), zi_I mh → zfr [(56, 0), (59, 1), (59, 2), (59, 3), (59, 4), (59, 5), (59, 6), (59, 7)] m0 mh → (0 ≤ a1 ∧ a1 ≤ 3) → ((-2147483648) ≤ x2 ∧ x2 ≤ 2147483647) → (0 ≤ x3 ∧ x3 ≤ 16) → (zR_K54 mh) → (16 - x3) * 1 + 0 < (k : Int) → zw (zu_ex (zt_T n) 237 4 [(27, a0), (0, a1), (0, x2), (0, x3)] [] mh) (fun v m => zi_I m ∧ zfr [(56, 0), (59, 1), (59, 2), (59, 3), (59, 4), (59, 5), (59, 6), (59, 7)] m0 m ∧ zR_K54 m ∧ ((-2147483648) ≤ v ∧ v ≤ 2147483647))) := by
  intro k
  induction k with
  | zero => exact fun x2 x3 mh hImh hFmh hba1 hbx2 hbx3 hRK54mh hM => by exfalso; omega
  | succ k ih =>
    intro x2 x3 mh hImh hFmh hba1 hbx2 hbx3 hRK54mh hM
    refine zw_eq (zu_rega_at (zt_T n) (zm_237 n) (zdp_237 n) _ _ _ _ _ _ (zr_237_4 n _ _ a0 a1 x2 x3 mh)) ?_
    have r1 : 0 ≤ (mh a0 2) ∧ (mh a0 2) ≤ 16 := zi_rd hImh hc0 zb_16_2
    refine zw_ite (fun h2 => ?_) (fun h2 => ?_)
    · exact zw_some ⟨hImh, hFmh, hRK54mh, ⟨by omega, by omega⟩⟩
    · have b3 : 0 ≤ x3 ∧ x3 < 16 := by omega
      refine zw_if b3 ?_
      have r4 : (-3) ≤ (mh ((a0 + 1) + 5 + x3) 3) ∧ (mh ((a0 + 1) + 5 + x3) 3) ≤ 3 := zi_rd hImh (zc_65_e (zc_16_1 hc0) b3) zb_17_3
      refine zw_ite (fun h5 => ?_) (fun h5 => ?_)
      · have w6 := zu_w32_id (z := x3 + 1) (by omega) (by omega)
        have hM : (16 - (zu_w32 (x3 + 1))) * 1 + 0 < (k : Int) := by omega
        exact ih x2 (zu_w32 (x3 + 1)) mh hImh hFmh ⟨by omega, by omega⟩ ⟨by omega, by omega⟩ ⟨by omega, by omega⟩ hRK54mh hM
      · refine zw_bd (zw_mono (zk_226 n hImh hc0 ⟨by omega, by omega⟩ ⟨by omega, by omega⟩ hRK54mh) (fun v8 m7 hqm7 => ?_))
        obtain ⟨hIm7, hfm7, hvm7⟩ := hqm7
        have hFm7 := zfr_tr hFmh hfm7 rfl
        obtain ⟨hRK54m7, hvm7⟩ := hvm7
        have w9 := zu_w32_rg (x2 + v8)
        have w10 := zu_w32_id (z := x3 + 1) (by omega) (by omega)
        have hM : (16 - (zu_w32 (x3 + 1))) * 1 + 0 < (k : Int) := by omega
        exact ih (zu_w32 (x2 + v8)) (zu_w32 (x3 + 1)) m7 hIm7 hFm7 ⟨by omega, by omega⟩ ⟨by omega, by omega⟩ ⟨by omega, by omega⟩ hRK54m7 hM
set_option maxHeartbeats 4000000 in
theorem zk_237 (n : Nat) {a0 a1 : Int} {m0 : zu_m} (hIm0 : zi_I m0) (hc0 : zcls a0 = 16) (ha1 : 0 ≤ a1 ∧ a1 ≤ 3)    (hRK54m0 : zR_K54 m0) : zw (zu_call (zt_T n) 237 [(27, a0), (0, a1)] m0) (fun v m => zi_I m ∧ zfr [(56, 0), (59, 1), (59, 2), (59, 3), (59, 4), (59, 5), (59, 6), (59, 7)] m0 m ∧ zR_K54 m ∧ ((-2147483648) ≤ v ∧ v ≤ 2147483647)) := by
  have hFm0 : zfr [(56, 0), (59, 1), (59, 2), (59, 3), (59, 4), (59, 5), (59, 6), (59, 7)] m0 m0 := zfr_rf _ _
  refine zw_eq (zu_call_at (zt_T n) (zm_237 n) (zdp_237 n) _ _ _ _ _ rfl (zr_237_0 n _ _ a0 a1 m0)) ?_
  have hM : (16 - 0) * 1 + 0 < ((17 : Nat) : Int) := by omega
  exact (zl_237 n (m0 := m0) hc0 17) 0 0 m0 hIm0 hFm0 ⟨by omega, by omega⟩ ⟨by omega, by omega⟩ ⟨by omega, by omega⟩ hRK54m0 hM
set_option maxHeartbeats 4000000 in
theorem zl_242 (n : Nat) {a0 a1 a2 : Int} {m0 : zu_m} (hc0 : zcls a0 = 16)   : ∀ k : Nat, (∀ (x3 : Int) (mh : zu_m), zi_I mh → zfr [(56, 0), (59, 1), (59, 2), (59, 3), (59, 4), (59, 5), (59, 6), (59, 7)] m0 mh → (0 ≤ a1 ∧ a1 ≤ 3) → (1 ≤ a2 ∧ a2 ≤ 3) → (0 ≤ x3 ∧ x3 ≤ 16) → (zR_K54 mh) → (16 - x3) * 18 + 17 < (k : Int) → zw (zu_ex (zt_T n) 242 2 [(27, a0), (0, a1), (0, a2), (0, x3), (2, 0)] [] mh) (fun v m => zi_I m ∧ zfr [(56, 0), (59, 1), (59, 2), (59, 3), (59, 4), (59, 5), (59, 6), (59, 7)] m0 m ∧ zR_K54 m ∧ ((-1) ≤ v ∧ v ≤ 255))) ∧ (∀ (x3 x4 : Int) (mh : zu_m), zi_I mh → zfr [(56, 0), (59, 1), (59, 2), (59, 3), (59, 4), (59, 5), (59, 6), (59, 7)] m0 mh → (0 ≤ a1 ∧ a1 ≤ 3) → (1 ≤ a2 ∧ a2 ≤ 3) → (0 ≤ x3 ∧ x3 ≤ 15) → (0 ≤ x4 ∧ x4 ≤ 16) → (1 ≤ mh a0 2 ∧ mh a0 2 ≤ 16) → (zR_K54 mh) → (16 - x4) * 1 + (16 - x3) * 18 + 0 < (k : Int) → zw (zu_ex (zt_T n) 242 13 [(27, a0), (0, a1), (0, a2), (0, x3), (0, x4)] [] mh) (fun v m => zi_I m ∧ zfr [(56, 0), (59, 1), (59, 2), (59, 3), (59, 4), (59, 5), (59, 6), (59, 7)] m0 m ∧ zR_K54 m ∧ ((-1) ≤ v ∧ v ≤ 255))) := by
  intro k
  induction k with
  | zero => exact ⟨fun x3 mh hImh hFmh hba1 hba2 hbx3 hRK54mh hM => by exfalso; omega, fun x3 x4 mh hImh hFmh hba1 hba2 hbx3 hbx4 hg4 hRK54mh hM => by exfalso; omega⟩
  | succ k ih =>
    refine ⟨?_, ?_⟩
    · intro x3 mh hImh hFmh hba1 hba2 hbx3 hRK54mh hM
      refine zw_eq (zu_rega_at (zt_T n) (zm_242 n) (zdp_242 n) _ _ _ _ _ _ (zr_242_2 n _ _ a0 a1 a2 x3 mh)) ?_
      have r1 : 0 ≤ (mh a0 2) ∧ (mh a0 2) ≤ 16 := zi_rd hImh hc0 zb_16_2
      refine zw_ite (fun h2 => ?_) (fun h2 => ?_)
      · exact zw_some ⟨hImh, hFmh, hRK54mh, ⟨by decide, by decide⟩⟩
      · have hM : (16 - 0) * 1 + (16 - x3) * 18 + 0 < (k : Int) := by omega
        exact ih.2 x3 0 mh hImh hFmh ⟨by omega, by omega⟩ ⟨by omega, by omega⟩ ⟨by omega, by omega⟩ ⟨by omega, by omega⟩ ⟨by omega, by omega⟩ hRK54mh hM
    · intro x3 x4 mh hImh hFmh hba1 hba2 hbx3 hbx4 hg4 hRK54mh hM
      refine zw_eq (zu_rega_at (zt_T n) (zm_242 n) (zdp_242 n) _ _ _ _ _ _ (zr_242_13 n _ _ a0 a1 a2 x3 x4 mh)) ?_
      refine zw_ite (fun h3 => ?_) (fun h3 => ?_)
      · have w4 := zu_w32_id (z := x3 + 1) (by omega) (by omega)
        have hM : (16 - (zu_w32 (x3 + 1))) * 18 + 17 < (k : Int) := by omega
        exact zw_le (zu_forget (zu_lr_same (zu_lr_same (zu_lr_same (zu_lr_same (zu_lr_drop zu_lr_nil)))))) (ih.1 (zu_w32 (x3 + 1)) mh hImh hFmh ⟨by omega, by omega⟩ ⟨by omega, by omega⟩ ⟨by omega, by omega⟩ hRK54mh hM)
      · have b5 : 0 ≤ x3 ∧ x3 < 16 := by omega
        refine zw_if b5 ?_
        have r6 : (-3) ≤ (mh ((a0 + 1) + 5 + x3) 3) ∧ (mh ((a0 + 1) + 5 + x3) 3) ≤ 3 := zi_rd hImh (zc_65_e (zc_16_1 hc0) b5) zb_17_3
        refine zw_ite (fun h7 => ?_) (fun h7 => ?_)
        · have w8 := zu_w32_id (z := x3 + 1) (by omega) (by omega)
          have hM : (16 - (zu_w32 (x3 + 1))) * 18 + 17 < (k : Int) := by omega
          exact zw_le (zu_forget (zu_lr_same (zu_lr_same (zu_lr_same (zu_lr_same (zu_lr_drop zu_lr_nil)))))) (ih.1 (zu_w32 (x3 + 1)) mh hImh hFmh ⟨by omega, by omega⟩ ⟨by omega, by omega⟩ ⟨by omega, by omega⟩ hRK54mh hM)
        · have b9 : 0 ≤ x4 ∧ x4 < 16 := by omega
          refine zw_if b9 ?_
          have r10 : (-3) ≤ (mh ((a0 + 1) + 5 + x4) 3) ∧ (mh ((a0 + 1) + 5 + x4) 3) ≤ 3 := zi_rd hImh (zc_65_e (zc_16_1 hc0) b9) zb_17_3
          refine zw_ite (fun h11 => ?_) (fun h11 => ?_)
          · have w12 := zu_w32_id (z := x4 + 1) (by omega) (by omega)
            have hM : (16 - (zu_w32 (x4 + 1))) * 1 + (16 - x3) * 18 + 0 < (k : Int) := by omega
            exact ih.2 x3 (zu_w32 (x4 + 1)) mh hImh hFmh ⟨by omega, by omega⟩ ⟨by omega, by omega⟩ ⟨by omega, by omega⟩ ⟨by omega, by omega⟩ ⟨by omega, by omega⟩ hRK54mh hM
          · refine zw_bd (zw_mono (zk_226 n hImh hc0 ⟨by omega, by omega⟩ ⟨by omega, by omega⟩ hRK54mh) (fun v14 m13 hqm13 => ?_))
            obtain ⟨hIm13, hfm13, hvm13⟩ := hqm13
            have hFm13 := zfr_tr hFmh hfm13 rfl
            obtain ⟨hRK54m13, hvm13⟩ := hvm13
            refine zw_bd (zw_mono (zk_226 n hIm13 hc0 ⟨by omega, by omega⟩ ⟨by omega, by omega⟩ hRK54m13) (fun v16 m15 hqm15 => ?_))
            obtain ⟨hIm15, hfm15, hvm15⟩ := hqm15
            have hFm15 := zfr_tr hFm13 hfm15 rfl
            obtain ⟨hRK54m15, hvm15⟩ := hvm15
            refine zw_ite (fun h17 => ?_) (fun h17 => ?_)
            · have w18 := zu_w32_id (z := x4 + 1) (by omega) (by omega)
              have r19 : 0 ≤ (m15 a0 2) ∧ (m15 a0 2) ≤ 16 := zi_rd hIm15 hc0 zb_16_2
              have e20 : (m15 a0 2) = (mh a0 2) := (Eq.trans (zfr_ap hfm15 hc0 rfl) (zfr_ap hfm13 hc0 rfl))
              have hM : (16 - (zu_w32 (x4 + 1))) * 1 + (16 - x3) * 18 + 0 < (k : Int) := by omega
              exact ih.2 x3 (zu_w32 (x4 + 1)) m15 hIm15 hFm15 ⟨by omega, by omega⟩ ⟨by omega, by omega⟩ ⟨by omega, by omega⟩ ⟨by omega, by omega⟩ ⟨by omega, by omega⟩ hRK54m15 hM
            · refine zw_bd (zw_mono (zk_226 n hIm15 hc0 ⟨by omega, by omega⟩ ⟨by omega, by omega⟩ hRK54m15) (fun v22 m21 hqm21 => ?_))
              obtain ⟨hIm21, hfm21, hvm21⟩ := hqm21
              have hFm21 := zfr_tr hFm15 hfm21 rfl
              obtain ⟨hRK54m21, hvm21⟩ := hvm21
              refine zw_bd (zw_mono (zk_226 n hIm21 hc0 ⟨by omega, by omega⟩ ⟨by omega, by omega⟩ hRK54m21) (fun v24 m23 hqm23 => ?_))
              obtain ⟨hIm23, hfm23, hvm23⟩ := hqm23
              have hFm23 := zfr_tr hFm21 hfm23 rfl
              obtain ⟨hRK54m23, hvm23⟩ := hvm23
              refine zw_ite (fun h25 => ?_) (fun h25 => ?_)
              · have w26 := zu_w32_id (z := x4 + 1) (by omega) (by omega)
                have r27 : 0 ≤ (m23 a0 2) ∧ (m23 a0 2) ≤ 16 := zi_rd hIm23 hc0 zb_16_2
                have e28 : (m23 a0 2) = (mh a0 2) := (Eq.trans (zfr_ap hfm23 hc0 rfl) (Eq.trans (zfr_ap hfm21 hc0 rfl) (Eq.trans (zfr_ap hfm15 hc0 rfl) (zfr_ap hfm13 hc0 rfl))))
                have hM : (16 - (zu_w32 (x4 + 1))) * 1 + (16 - x3) * 18 + 0 < (k : Int) := by omega
                exact ih.2 x3 (zu_w32 (x4 + 1)) m23 hIm23 hFm23 ⟨by omega, by omega⟩ ⟨by omega, by omega⟩ ⟨by omega, by omega⟩ ⟨by omega, by omega⟩ ⟨by omega, by omega⟩ hRK54m23 hM
              · have w29 := zu_w32_id (z := x3 * 16) (by omega) (by omega)
                have w30 := zu_w32_id (z := (zu_w32 (x3 * 16)) + x4) (by omega) (by omega)
                exact zw_some ⟨hIm23, hFm23, hRK54m23, ⟨by omega, by omega⟩⟩
set_option maxHeartbeats 4000000 in
theorem zk_242 (n : Nat) {a0 a1 a2 : Int} {m0 : zu_m} (hIm0 : zi_I m0) (hc0 : zcls a0 = 16) (ha1 : 0 ≤ a1 ∧ a1 ≤ 3) (ha2 : 1 ≤ a2 ∧ a2 ≤ 3)    (hRK54m0 : zR_K54 m0) : zw (zu_call (zt_T n) 242 [(27, a0), (0, a1), (0, a2)] m0) (fun v m => zi_I m ∧ zfr [(56, 0), (59, 1), (59, 2), (59, 3), (59, 4), (59, 5), (59, 6), (59, 7)] m0 m ∧ zR_K54 m ∧ ((-1) ≤ v ∧ v ≤ 255)) := by
  have hFm0 : zfr [(56, 0), (59, 1), (59, 2), (59, 3), (59, 4), (59, 5), (59, 6), (59, 7)] m0 m0 := zfr_rf _ _
  refine zw_eq (zu_call_at (zt_T n) (zm_242 n) (zdp_242 n) _ _ _ _ _ rfl (zr_242_0 n _ _ a0 a1 a2 m0)) ?_
  have hM : (16 - 0) * 18 + 17 < ((306 : Nat) : Int) := by omega
  exact (zl_242 n (m0 := m0) hc0 306).1 0 m0 hIm0 hFm0 ⟨by omega, by omega⟩ ⟨by omega, by omega⟩ ⟨by omega, by omega⟩ hRK54m0 hM
set_option maxHeartbeats 4000000 in
theorem zl_243 (n : Nat) {a0 a1 : Int} {m0 : zu_m} (hc0 : zcls a0 = 16)   : ∀ k : Nat, (∀ (x2 : Int) (mh : zu_m), zi_I mh → zfr [(56, 0), (59, 1), (59, 2), (59, 3), (59, 4), (59, 5), (59, 6), (59, 7), (69, 0)] m0 mh → (0 ≤ a1 ∧ a1 ≤ 15) → (0 ≤ x2 ∧ x2 ≤ 4) → (1 ≤ mh a0 2 ∧ mh a0 2 ≤ 16) → (zR_K54 mh) → (4 - x2) * 1 + 85 < (k : Int) → zw (zu_ex (zt_T n) 243 2 [(27, a0), (0, a1), (0, x2), (2, 0), (2, 0)] [] mh) (fun v m => zi_I m ∧ zfr [(56, 0), (59, 1), (59, 2), (59, 3), (59, 4), (59, 5), (59, 6), (59, 7), (69, 0)] m0 m ∧ zR_K54 m ∧ ((-8) ≤ v ∧ v ≤ 3))) ∧ (∀ (x2 : Int) (mh : zu_m), zi_I mh → zfr [(56, 0), (59, 1), (59, 2), (59, 3), (59, 4), (59, 5), (59, 6), (59, 7), (69, 0)] m0 mh → (0 ≤ a1 ∧ a1 ≤ 15) → (0 ≤ x2 ∧ x2 ≤ 16) → (1 ≤ mh a0 2 ∧ mh a0 2 ≤ 16) → (zR_K54 mh) → (16 - x2) * 5 + 4 < (k : Int) → zw (zu_ex (zt_T n) 243 22 [(27, a0), (0, a1), (0, x2), (2, 0), (2, 0)] [] mh) (fun v m => zi_I m ∧ zfr [(56, 0), (59, 1), (59, 2), (59, 3), (59, 4), (59, 5), (59, 6), (59, 7), (69, 0)] m0 m ∧ zR_K54 m ∧ ((-8) ≤ v ∧ v ≤ 3))) ∧ (∀ (x2 x3 x4 : Int) (mh : zu_m), zi_I mh → zfr [(56, 0), (59, 1), (59, 2), (59, 3), (59, 4), (59, 5), (59, 6), (59, 7), (69, 0)] m0 mh → (0 ≤ a1 ∧ a1 ≤ 15) → (0 ≤ x2 ∧ x2 ≤ 15) → (0 ≤ x3 ∧ x3 ≤ 3) → (1 ≤ x4 ∧ x4 ≤ 4) → (1 ≤ mh a0 2 ∧ mh a0 2 ≤ 16) → (zR_K54 mh) → (4 - x4) * 1 + (16 - x2) * 5 + 0 < (k : Int) → zw (zu_ex (zt_T n) 243 47 [(27, a0), (0, a1), (0, x2), (0, x3), (0, x4)] [] mh) (fun v m => zi_I m ∧ zfr [(56, 0), (59, 1), (59, 2), (59, 3), (59, 4), (59, 5), (59, 6), (59, 7), (69, 0)] m0 m ∧ zR_K54 m ∧ ((-8) ≤ v ∧ v ≤ 3))) := by
  intro k
  induction k with
  | zero => exact ⟨fun x2 mh hImh hFmh hba1 hbx2 hg2 hRK54mh hM => by exfalso; omega, fun x2 mh hImh hFmh hba1 hbx2 hg2 hRK54mh hM => by exfalso; omega, fun x2 x3 x4 mh hImh hFmh hba1 hbx2 hbx3 hbx4 hg4 hRK54mh hM => by exfalso; omega⟩
  | succ k ih =>
    refine ⟨?_, ?_, ?_⟩
    · intro x2 mh hImh hFmh hba1 hbx2 hg2 hRK54mh hM
      refine zw_eq (zu_rega_at (zt_T n) (zm_243 n) (zdp_243 n) _ _ _ _ _ _ (zr_243_2 n _ _ a0 a1 x2 mh)) ?_
      refine zw_ite (fun h1 => ?_) (fun h1 => ?_)
      · have hM : (16 - 0) * 5 + 4 < (k : Int) := by omega
        exact ih.2.1 0 mh hImh hFmh ⟨by omega, by omega⟩ ⟨by omega, by omega⟩ ⟨by omega, by omega⟩ hRK54mh hM
      · have b2 : 0 ≤ x2 ∧ x2 < 4 := by omega
        refine zw_if b2 ?_
        generalize hmm3 : zu_up mh (a0 + 5) x2 0 = m3
        have hIm3 := zi_up hmm3 hImh (zc_16_7 hc0) (zb_69 _) (by omega) (by omega)
        have hFm3 := zfr_up hmm3 hFmh (zc_16_7 hc0) rfl
        have hRK54m3 := zR_K54_fr (zdis_fr (zfr_up hmm3 (zfr_rf [(69, 0)] _) (zc_16_7 hc0) rfl) rfl) hRK54mh
        have w4 := zu_w32_id (z := x2 + 1) (by omega) (by omega)
        have r5 : 0 ≤ (m3 a0 2) ∧ (m3 a0 2) ≤ 16 := zi_rd hIm3 hc0 zb_16_2
        have e6 : (m3 a0 2) = (mh a0 2) := (zs_ne hmm3 (Or.inl (zc_ne hc0 (zc_16_7 hc0) (by decide))))
        have hM : (4 - (zu_w32 (x2 + 1))) * 1 + 85 < (k : Int) := by omega
        exact ih.1 (zu_w32 (x2 + 1)) m3 hIm3 hFm3 ⟨by omega, by omega⟩ ⟨by omega, by omega⟩ ⟨by omega, by omega⟩ hRK54m3 hM
    · intro x2 mh hImh hFmh hba1 hbx2 hg2 hRK54mh hM
      refine zw_eq (zu_rega_at (zt_T n) (zm_243 n) (zdp_243 n) _ _ _ _ _ _ (zr_243_22 n _ _ a0 a1 x2 mh)) ?_
      refine zw_ite (fun h7 => ?_) (fun h7 => ?_)
      · exact zw_some ⟨hImh, hFmh, hRK54mh, ⟨by decide, by decide⟩⟩
      · have b8 : 0 ≤ x2 ∧ x2 < 16 := by omega
        refine zw_if b8 ?_
        have r9 : (-3) ≤ (mh ((a0 + 1) + 5 + x2) 3) ∧ (mh ((a0 + 1) + 5 + x2) 3) ≤ 3 := zi_rd hImh (zc_65_e (zc_16_1 hc0) b8) zb_17_3
        refine zw_ite (fun h10 => ?_) (fun h10 => ?_)
        · have w11 := zu_w32_id (z := x2 + 1) (by omega) (by omega)
          have hM : (16 - (zu_w32 (x2 + 1))) * 5 + 4 < (k : Int) := by omega
          exact ih.2.1 (zu_w32 (x2 + 1)) mh hImh hFmh ⟨by omega, by omega⟩ ⟨by omega, by omega⟩ ⟨by omega, by omega⟩ hRK54mh hM
        · have hM : (4 - 1) * 1 + (16 - x2) * 5 + 0 < (k : Int) := by omega
          exact ih.2.2 x2 0 1 mh hImh hFmh ⟨by omega, by omega⟩ ⟨by omega, by omega⟩ ⟨by omega, by omega⟩ ⟨by omega, by omega⟩ ⟨by omega, by omega⟩ hRK54mh hM
    · intro x2 x3 x4 mh hImh hFmh hba1 hbx2 hbx3 hbx4 hg4 hRK54mh hM
      refine zw_eq (zu_rega_at (zt_T n) (zm_243 n) (zdp_243 n) _ _ _ _ _ _ (zr_243_47 n _ _ a0 a1 x2 x3 x4 mh)) ?_
      have r12 : 0 ≤ (mh a0 4) ∧ (mh a0 4) ≤ 4 := zi_rd hImh hc0 zb_16_4
      refine zw_ite (fun h13 => ?_) (fun h13 => ?_)
      · refine zw_ite (fun h14 => ?_) (fun h14 => ?_)
        · have b15 : 0 ≤ x3 ∧ x3 < 4 := by omega
          refine zw_if b15 ?_
          have r16 : (-2147483648) ≤ (mh (a0 + 5) x3) ∧ (mh (a0 + 5) x3) ≤ 2147483647 := zi_rd hImh (zc_16_7 hc0) (zb_69 _)
          refine zw_bd (zw_mono (zk_226 n hImh hc0 ⟨by omega, by omega⟩ ⟨by omega, by omega⟩ hRK54mh) (fun v18 m17 hqm17 => ?_))
          obtain ⟨hIm17, hfm17, hvm17⟩ := hqm17
          have hFm17 := zfr_tr hFmh hfm17 rfl
          obtain ⟨hRK54m17, hvm17⟩ := hvm17
          have w19 := zu_w32_rg ((mh (a0 + 5) x3) + v18)
          have b20 : 0 ≤ x3 ∧ x3 < 4 := by omega
          refine zw_if b20 ?_
          generalize hmm21 : zu_up m17 (a0 + 5) x3 (zu_w32 ((mh (a0 + 5) x3) + v18)) = m21
          have hIm21 := zi_up hmm21 hIm17 (zc_16_7 hc0) (zb_69 _) (by omega) (by omega)
          have hFm21 := zfr_up hmm21 hFm17 (zc_16_7 hc0) rfl
          have hRK54m21 := zR_K54_fr (zdis_fr (zfr_up hmm21 (zfr_rf [(69, 0)] _) (zc_16_7 hc0) rfl) rfl) hRK54m17
          have w22 := zu_w32_id (z := x2 + 1) (by omega) (by omega)
          have r23 : 0 ≤ (m21 a0 2) ∧ (m21 a0 2) ≤ 16 := zi_rd hIm21 hc0 zb_16_2
          have e24 : (m21 a0 2) = (mh a0 2) := (Eq.trans (zs_ne hmm21 (Or.inl (zc_ne hc0 (zc_16_7 hc0) (by decide)))) (zfr_ap hfm17 hc0 rfl))
          have hM : (16 - (zu_w32 (x2 + 1))) * 5 + 4 < (k : Int) := by omega
          exact zw_le (zu_forget (zu_lr_same (zu_lr_same (zu_lr_same (zu_lr_drop (zu_lr_drop zu_lr_nil)))))) (ih.2.1 (zu_w32 (x2 + 1)) m21 hIm21 hFm21 ⟨by omega, by omega⟩ ⟨by omega, by omega⟩ ⟨by omega, by omega⟩ hRK54m21 hM)
        · exact zw_some ⟨hImh, hFmh, hRK54mh, ⟨by omega, by omega⟩⟩
      · have b25 : 0 ≤ x4 ∧ x4 < 4 := by omega
        refine zw_if b25 ?_
        have r26 : (-2147483648) ≤ (mh (a0 + 5) x4) ∧ (mh (a0 + 5) x4) ≤ 2147483647 := zi_rd hImh (zc_16_7 hc0) (zb_69 _)
        have b27 : 0 ≤ x3 ∧ x3 < 4 := by omega
        refine zw_if b27 ?_
        have r28 : (-2147483648) ≤ (mh (a0 + 5) x3) ∧ (mh (a0 + 5) x3) ≤ 2147483647 := zi_rd hImh (zc_16_7 hc0) (zb_69 _)
        refine zw_ite (fun h29 => ?_) (fun h29 => ?_)
        · have w30 := zu_w32_id (z := x4 + 1) (by omega) (by omega)
          have hM : (4 - (zu_w32 (x4 + 1))) * 1 + (16 - x2) * 5 + 0 < (k : Int) := by omega
          exact ih.2.2 x2 x3 (zu_w32 (x4 + 1)) mh hImh hFmh ⟨by omega, by omega⟩ ⟨by omega, by omega⟩ ⟨by omega, by omega⟩ ⟨by omega, by omega⟩ ⟨by omega, by omega⟩ hRK54mh hM
        · have w31 := zu_w32_id (z := x4 + 1) (by omega) (by omega)
          have hM : (4 - (zu_w32 (x4 + 1))) * 1 + (16 - x2) * 5 + 0 < (k : Int) := by omega
          exact ih.2.2 x2 x4 (zu_w32 (x4 + 1)) mh hImh hFmh ⟨by omega, by omega⟩ ⟨by omega, by omega⟩ ⟨by omega, by omega⟩ ⟨by omega, by omega⟩ ⟨by omega, by omega⟩ hRK54mh hM
set_option maxHeartbeats 4000000 in
theorem zk_243 (n : Nat) {a0 a1 : Int} {m0 : zu_m} (hIm0 : zi_I m0) (hc0 : zcls a0 = 16) (ha1 : 0 ≤ a1 ∧ a1 ≤ 15)  (he0 : 1 ≤ m0 a0 2 ∧ m0 a0 2 ≤ 16)  (hRK54m0 : zR_K54 m0) : zw (zu_call (zt_T n) 243 [(27, a0), (0, a1)] m0) (fun v m => zi_I m ∧ zfr [(56, 0), (59, 1), (59, 2), (59, 3), (59, 4), (59, 5), (59, 6), (59, 7), (69, 0)] m0 m ∧ zR_K54 m ∧ ((-8) ≤ v ∧ v ≤ 3)) := by
  have hFm0 : zfr [(56, 0), (59, 1), (59, 2), (59, 3), (59, 4), (59, 5), (59, 6), (59, 7), (69, 0)] m0 m0 := zfr_rf _ _
  refine zw_eq (zu_call_at (zt_T n) (zm_243 n) (zdp_243 n) _ _ _ _ _ rfl (zr_243_0 n _ _ a0 a1 m0)) ?_
  have hM : (4 - 0) * 1 + 85 < ((90 : Nat) : Int) := by omega
  exact (zl_243 n (m0 := m0) hc0 90).1 0 m0 hIm0 hFm0 ⟨by omega, by omega⟩ ⟨by omega, by omega⟩ ⟨by omega, by omega⟩ hRK54m0 hM
set_option maxHeartbeats 4000000 in
theorem zk_265 (n : Nat) {a0 : Int} {m0 : zu_m} (hIm0 : zi_I m0) (hc0 : zcls a0 = 3)   (he0 : 1 ≤ m0 45 5 ∧ m0 45 5 ≤ 3)  (hRCTm0 : (m0 5 6 = 0 → m0 19 4 = 0)) : zw (zu_call (zt_T n) 265 [(7, a0)] m0) (fun v m => zi_I m ∧ zfr [(3, 6), (3, 7), (3, 8), (3, 9), (3, 10), (3, 11), (9, 4), (9, 5), (9, 6), (9, 7), (32, 0)] m0 m ∧ (m 5 6 = 0 → m 19 4 = 0) ∧ (0 ≤ v ∧ v ≤ 1)) := by
  have hFm0 : zfr [(3, 6), (3, 7), (3, 8), (3, 9), (3, 10), (3, 11), (9, 4), (9, 5), (9, 6), (9, 7), (32, 0)] m0 m0 := zfr_rf _ _
  refine zw_eq (zu_call_at (zt_T n) (zm_265 n) (zdp_265 n) _ _ _ _ _ rfl (zr_265_0 n _ _ a0 m0)) ?_
  have r1 : 0 ≤ (m0 a0 5) ∧ (m0 a0 5) ≤ 16 := zi_rd hIm0 hc0 zb_3_5
  refine zw_ite (fun h2 => ?_) (fun h2 => ?_)
  · refine zw_bd (zw_eq (zu_call_at (zt_T n) (zm_262 n) (zdp_262 n) _ _ _ _ _ rfl (zr_262_0 n _ _ a0 m0)) ?_)
    refine zw_b (by omega) ?_
    generalize hmm3 : zu_up m0 a0 6 1 = m3
    have hIm3 := zi_up hmm3 hIm0 hc0 zb_3_6 (by omega) (by omega)
    have hFm3 := zfr_up hmm3 hFm0 hc0 rfl
    have hRCTm3 := zCT_t (zone_5 hc0) hmm3 rfl
    have r4 : 1 ≤ (m3 6 0) ∧ (m3 6 0) ≤ 8 := zi_rd hIm3 zq_6 zb_4_0
    have w5 := zu_w32_id (z := (m3 6 0) - 1) (by omega) (by omega)
    refine zw_bd (zw_eq (zu_call_at (zt_T n) (zm_260 n) (zdp_260 n) _ _ _ _ _ rfl (zr_260_0 n _ _ a0 0 (zu_w32 ((m3 6 0) - 1)) m3)) ?_)
    refine zw_bd (zw_mono (zk_18 n hIm3 zq_45) (fun v7 m6 hqm6 => ?_))
    obtain ⟨hIm6, hfm6, hvm6⟩ := hqm6
    have hFm6 := zfr_tr hFm3 hfm6 rfl
    obtain ⟨hRTVm6, hvm6⟩ := hvm6
    have hRCTm6 := zR_CT_fr (zdis_fr hfm6 rfl) hRCTm3
    have s8 := hRTVm6 45 zq_45
    have r9 : 0 ≤ (m6 45 4) ∧ (m6 45 4) ≤ 5 := zi_rd hIm6 zq_45 zb_9_4
    refine zw_ite (fun h10 => ?_) (fun h10 => ?_)
    · have r11 : (-2147483648) ≤ (m6 45 5) ∧ (m6 45 5) ≤ 2147483647 := zi_rd hIm6 zq_45 zb_9_5
      generalize hmm12 : zu_up m6 a0 7 (m6 45 5) = m12
      have hIm12 := zi_up hmm12 hIm6 hc0 zb_3_7 (by omega) (by omega)
      have hFm12 := zfr_up hmm12 hFm6 hc0 rfl
      have hRCTm12 := zR_CT_fr (zdis_fr (zfr_up hmm12 (zfr_rf [(3, 8)] _) hc0 rfl) rfl) hRCTm6
      have hRTVm12 := zR_TV_fr (zdis_fr (zfr_up hmm12 (zfr_rf [(3, 8)] _) hc0 rfl) rfl) hRTVm6
      have r13 : (-2147483648) ≤ (m12 a0 7) ∧ (m12 a0 7) ≤ 2147483647 := zi_rd hIm12 hc0 zb_3_7
      have e14 : (m12 a0 7) = (m6 45 5) := (zs_eq hmm12)
      refine zw_ite (fun h15 => ?_) (fun h15 => ?_)
      · refine zw_bd (zw_eq (zu_call_at (zt_T n) (zm_257 n) (zdp_257 n) _ _ _ _ _ rfl (zr_257_0 n _ _ a0 2 m12)) ?_)
        generalize hmm16 : zu_up m12 a0 9 2 = m16
        have hIm16 := zi_up hmm16 hIm12 hc0 zb_3_9 (by omega) (by omega)
        have hFm16 := zfr_up hmm16 hFm12 hc0 rfl
        have hRCTm16 := zR_CT_fr (zdis_fr (zfr_up hmm16 (zfr_rf [(3, 10)] _) hc0 rfl) rfl) hRCTm12
        have hRTVm16 := zR_TV_fr (zdis_fr (zfr_up hmm16 (zfr_rf [(3, 10)] _) hc0 rfl) rfl) hRTVm12
        have r17 : 0 ≤ (m16 45 6) ∧ (m16 45 6) ≤ 700 := zi_rd hIm16 zq_45 zb_9_6
        generalize hmm18 : zu_up m16 a0 10 (m16 45 6) = m18
        have hIm18 := zi_up hmm18 hIm16 hc0 zb_3_10 (by omega) (by omega)
        have hFm18 := zfr_up hmm18 hFm16 hc0 rfl
        have hRCTm18 := zR_CT_fr (zdis_fr (zfr_up hmm18 (zfr_rf [(3, 11)] _) hc0 rfl) rfl) hRCTm16
        have hRTVm18 := zR_TV_fr (zdis_fr (zfr_up hmm18 (zfr_rf [(3, 11)] _) hc0 rfl) rfl) hRTVm16
        refine zw_b (by omega) ?_
        refine zw_some ?_
        refine zw_ite (fun h19 => ?_) (fun h19 => ?_)
        · refine zw_b (by omega) ?_
          refine zw_some ?_
          refine zw_ite (fun h20 => ?_) (fun h20 => ?_)
          · exfalso; omega
          · refine zw_b (by omega) ?_
            refine zw_some ?_
            refine zw_ite (fun h21 => ?_) (fun h21 => ?_)
            · exfalso; omega
            · refine zw_b (by omega) ?_
              exact zw_some ⟨hIm18, hFm18, hRCTm18, ⟨by decide, by decide⟩⟩
        · exfalso; omega
      · refine zw_ite (fun h22 => ?_) (fun h22 => ?_)
        · refine zw_b (by omega) ?_
          refine zw_some ?_
          refine zw_ite (fun h23 => ?_) (fun h23 => ?_)
          · have r24 : 1 ≤ (m12 6 1) ∧ (m12 6 1) ≤ 6 := zi_rd hIm12 zq_6 zb_4_1
            have w25 := zu_w32_id (z := (m12 6 1) - 1) (by omega) (by omega)
            refine zw_bd (zw_eq (zu_call_at (zt_T n) (zm_260 n) (zdp_260 n) _ _ _ _ _ rfl (zr_260_0 n _ _ a0 0 (zu_w32 ((m12 6 1) - 1)) m12)) ?_)
            refine zw_bd (zw_mono (zk_18 n hIm12 zq_45) (fun v27 m26 hqm26 => ?_))
            obtain ⟨hIm26, hfm26, hvm26⟩ := hqm26
            have hFm26 := zfr_tr hFm12 hfm26 rfl
            obtain ⟨hRTVm26, hvm26⟩ := hvm26
            have hRCTm26 := zR_CT_fr (zdis_fr hfm26 rfl) hRCTm12
            have s28 := hRTVm26 45 zq_45
            have r29 : 0 ≤ (m26 45 4) ∧ (m26 45 4) ≤ 5 := zi_rd hIm26 zq_45 zb_9_4
            refine zw_ite (fun h30 => ?_) (fun h30 => ?_)
            · have r31 : (-2147483648) ≤ (m26 45 5) ∧ (m26 45 5) ≤ 2147483647 := zi_rd hIm26 zq_45 zb_9_5
              generalize hmm32 : zu_up m26 a0 7 (m26 45 5) = m32
              have hIm32 := zi_up hmm32 hIm26 hc0 zb_3_7 (by omega) (by omega)
              have hFm32 := zfr_up hmm32 hFm26 hc0 rfl
              have hRCTm32 := zR_CT_fr (zdis_fr (zfr_up hmm32 (zfr_rf [(3, 8)] _) hc0 rfl) rfl) hRCTm26
              have hRTVm32 := zR_TV_fr (zdis_fr (zfr_up hmm32 (zfr_rf [(3, 8)] _) hc0 rfl) rfl) hRTVm26
              have r33 : (-2147483648) ≤ (m32 a0 7) ∧ (m32 a0 7) ≤ 2147483647 := zi_rd hIm32 hc0 zb_3_7
              have e34 : (m32 a0 7) = (m26 45 5) := (zs_eq hmm32)
              refine zw_ite (fun h35 => ?_) (fun h35 => ?_)
              · refine zw_bd (zw_eq (zu_call_at (zt_T n) (zm_257 n) (zdp_257 n) _ _ _ _ _ rfl (zr_257_0 n _ _ a0 2 m32)) ?_)
                generalize hmm36 : zu_up m32 a0 9 2 = m36
                have hIm36 := zi_up hmm36 hIm32 hc0 zb_3_9 (by omega) (by omega)
                have hFm36 := zfr_up hmm36 hFm32 hc0 rfl
                have hRCTm36 := zR_CT_fr (zdis_fr (zfr_up hmm36 (zfr_rf [(3, 10)] _) hc0 rfl) rfl) hRCTm32
                have hRTVm36 := zR_TV_fr (zdis_fr (zfr_up hmm36 (zfr_rf [(3, 10)] _) hc0 rfl) rfl) hRTVm32
                have r37 : 0 ≤ (m36 45 6) ∧ (m36 45 6) ≤ 700 := zi_rd hIm36 zq_45 zb_9_6
                generalize hmm38 : zu_up m36 a0 10 (m36 45 6) = m38
                have hIm38 := zi_up hmm38 hIm36 hc0 zb_3_10 (by omega) (by omega)
                have hFm38 := zfr_up hmm38 hFm36 hc0 rfl
                have hRCTm38 := zR_CT_fr (zdis_fr (zfr_up hmm38 (zfr_rf [(3, 11)] _) hc0 rfl) rfl) hRCTm36
                have hRTVm38 := zR_TV_fr (zdis_fr (zfr_up hmm38 (zfr_rf [(3, 11)] _) hc0 rfl) rfl) hRTVm36
                refine zw_b (by omega) ?_
                refine zw_some ?_
                refine zw_ite (fun h39 => ?_) (fun h39 => ?_)
                · refine zw_b (by omega) ?_
                  refine zw_some ?_
                  refine zw_ite (fun h40 => ?_) (fun h40 => ?_)
                  · exfalso; omega
                  · refine zw_b (by omega) ?_
                    refine zw_some ?_
                    refine zw_ite (fun h41 => ?_) (fun h41 => ?_)
                    · exfalso; omega
                    · refine zw_b (by omega) ?_
                      exact zw_some ⟨hIm38, hFm38, hRCTm38, ⟨by decide, by decide⟩⟩
                · exfalso; omega
              · refine zw_ite (fun h42 => ?_) (fun h42 => ?_)
                · refine zw_b (by omega) ?_
                  refine zw_some ?_
                  refine zw_ite (fun h43 => ?_) (fun h43 => ?_)
                  · have r44 : 1 ≤ (m32 6 0) ∧ (m32 6 0) ≤ 8 := zi_rd hIm32 zq_6 zb_4_0
                    have e45 : (m32 6 0) = (m3 6 0) := (Eq.trans (zs_ne hmm32 (Or.inl (zc_ne zq_6 hc0 (by decide)))) (Eq.trans (zfr_ap hfm26 zq_6 rfl) (Eq.trans (zs_ne hmm12 (Or.inl (zc_ne zq_6 hc0 (by decide)))) (zfr_ap hfm6 zq_6 rfl))))
                    have p46 := zmul_bd (x := (m32 a0 7)) (y := (m32 6 0)) (a := 0) (b := 1) (A := 5) (B := 8) (by omega) (by omega) (by omega) (by omega) (by omega) (by omega)
                    have w47 := zu_w32_id (z := (m32 a0 7) * (m32 6 0)) (by omega) (by omega)
                    have w48 := zu_w32_id (z := (zu_w32 ((m32 a0 7) * (m32 6 0))) + (m12 a0 7)) (by omega) (by omega)
                    generalize hmm49 : zu_up m32 a0 8 (zu_w32 ((zu_w32 ((m32 a0 7) * (m32 6 0))) + (m12 a0 7))) = m49
                    have hIm49 := zi_up hmm49 hIm32 hc0 zb_3_8 (by omega) (by omega)
                    have hFm49 := zfr_up hmm49 hFm32 hc0 rfl
                    have hRCTm49 := zR_CT_fr (zdis_fr (zfr_up hmm49 (zfr_rf [(3, 9)] _) hc0 rfl) rfl) hRCTm32
                    have hRTVm49 := zR_TV_fr (zdis_fr (zfr_up hmm49 (zfr_rf [(3, 9)] _) hc0 rfl) rfl) hRTVm32
                    refine zw_b (by omega) ?_
                    refine zw_some ?_
                    refine zw_ite (fun h50 => ?_) (fun h50 => ?_)
                    · have r51 : 0 ≤ (m49 a0 8) ∧ (m49 a0 8) ≤ 47 := zi_rd hIm49 hc0 zb_3_8
                      have e52 : (m49 a0 8) = (zu_w32 ((zu_w32 ((m32 a0 7) * (m32 6 0))) + (m12 a0 7))) := (zs_eq hmm49)
                      have b53 : 0 ≤ (m49 a0 8) ∧ (m49 a0 8) < 48 := by omega
                      refine zw_if b53 ?_
                      have r54 : 0 ≤ (m49 (6 + 3) (m49 a0 8)) ∧ (m49 (6 + 3) (m49 a0 8)) ≤ 3 := zi_rd hIm49 (zc_4_8 zq_6) (zb_32 _)
                      refine zw_ite (fun h55 => ?_) (fun h55 => ?_)
                      · have b56 : 0 ≤ (m49 a0 8) ∧ (m49 a0 8) < 48 := by omega
                        refine zw_if b56 ?_
                        generalize hmm57 : zu_up m49 (6 + 3) (m49 a0 8) (m0 45 5) = m57
                        have hIm57 := zi_up hmm57 hIm49 (zc_4_8 zq_6) (zb_32 _) (by omega) (by omega)
                        have hFm57 := zfr_up hmm57 hFm49 (zc_4_8 zq_6) rfl
                        have hRCTm57 := zR_CT_fr (zdis_fr (zfr_up hmm57 (zfr_rf [(32, 0)] _) (zc_4_8 zq_6) rfl) rfl) hRCTm49
                        have hRTVm57 := zR_TV_fr (zdis_fr (zfr_up hmm57 (zfr_rf [(32, 0)] _) (zc_4_8 zq_6) rfl) rfl) hRTVm49
                        have r58 : 0 ≤ (m57 a0 5) ∧ (m57 a0 5) ≤ 16 := zi_rd hIm57 hc0 zb_3_5
                        have e59 : (m57 a0 5) = (m0 a0 5) := (Eq.trans (zs_ne hmm57 (Or.inl (zc_ne hc0 (zc_4_8 zq_6) (by decide)))) (Eq.trans (zs_ne hmm49 (Or.inr (by decide))) (Eq.trans (zs_ne hmm32 (Or.inr (by decide))) (Eq.trans (zfr_ap hfm26 hc0 rfl) (Eq.trans (zs_ne hmm12 (Or.inr (by decide))) (Eq.trans (zfr_ap hfm6 hc0 rfl) (zs_ne hmm3 (Or.inr (by decide)))))))))
                        have w60 := zu_w32_id (z := (m57 a0 5) + 1) (by omega) (by omega)
                        generalize hmm61 : zu_up m57 a0 5 (zu_w32 ((m57 a0 5) + 1)) = m61
                        have hIm61 := zi_up hmm61 hIm57 hc0 zb_3_5 (by omega) (by omega)
                        have hFm61 := zfr_up hmm61 hFm57 hc0 rfl
                        have hRCTm61 := zR_CT_fr (zdis_fr (zfr_up hmm61 (zfr_rf [(3, 6)] _) hc0 rfl) rfl) hRCTm57
                        have hRTVm61 := zR_TV_fr (zdis_fr (zfr_up hmm61 (zfr_rf [(3, 6)] _) hc0 rfl) rfl) hRTVm57
                        refine zw_b (by omega) ?_
                        exact zw_some ⟨hIm61, hFm61, hRCTm61, ⟨by decide, by decide⟩⟩
                      · refine zw_bd (zw_eq (zu_call_at (zt_T n) (zm_257 n) (zdp_257 n) _ _ _ _ _ rfl (zr_257_0 n _ _ a0 3 m49)) ?_)
                        generalize hmm62 : zu_up m49 a0 9 3 = m62
                        have hIm62 := zi_up hmm62 hIm49 hc0 zb_3_9 (by omega) (by omega)
                        have hFm62 := zfr_up hmm62 hFm49 hc0 rfl
                        have hRCTm62 := zR_CT_fr (zdis_fr (zfr_up hmm62 (zfr_rf [(3, 10)] _) hc0 rfl) rfl) hRCTm49
                        have hRTVm62 := zR_TV_fr (zdis_fr (zfr_up hmm62 (zfr_rf [(3, 10)] _) hc0 rfl) rfl) hRTVm49
                        have r63 : 0 ≤ (m62 45 6) ∧ (m62 45 6) ≤ 700 := zi_rd hIm62 zq_45 zb_9_6
                        generalize hmm64 : zu_up m62 a0 10 (m62 45 6) = m64
                        have hIm64 := zi_up hmm64 hIm62 hc0 zb_3_10 (by omega) (by omega)
                        have hFm64 := zfr_up hmm64 hFm62 hc0 rfl
                        have hRCTm64 := zR_CT_fr (zdis_fr (zfr_up hmm64 (zfr_rf [(3, 11)] _) hc0 rfl) rfl) hRCTm62
                        have hRTVm64 := zR_TV_fr (zdis_fr (zfr_up hmm64 (zfr_rf [(3, 11)] _) hc0 rfl) rfl) hRTVm62
                        refine zw_b (by omega) ?_
                        refine zw_some ?_
                        refine zw_b (by omega) ?_
                        exact zw_some ⟨hIm64, hFm64, hRCTm64, ⟨by decide, by decide⟩⟩
                    · exfalso; omega
                  · exfalso; omega
                · refine zw_bd (zw_eq (zu_call_at (zt_T n) (zm_257 n) (zdp_257 n) _ _ _ _ _ rfl (zr_257_0 n _ _ a0 2 m32)) ?_)
                  generalize hmm65 : zu_up m32 a0 9 2 = m65
                  have hIm65 := zi_up hmm65 hIm32 hc0 zb_3_9 (by omega) (by omega)
                  have hFm65 := zfr_up hmm65 hFm32 hc0 rfl
                  have hRCTm65 := zR_CT_fr (zdis_fr (zfr_up hmm65 (zfr_rf [(3, 10)] _) hc0 rfl) rfl) hRCTm32
                  have hRTVm65 := zR_TV_fr (zdis_fr (zfr_up hmm65 (zfr_rf [(3, 10)] _) hc0 rfl) rfl) hRTVm32
                  have r66 : 0 ≤ (m65 45 6) ∧ (m65 45 6) ≤ 700 := zi_rd hIm65 zq_45 zb_9_6
                  generalize hmm67 : zu_up m65 a0 10 (m65 45 6) = m67
                  have hIm67 := zi_up hmm67 hIm65 hc0 zb_3_10 (by omega) (by omega)
                  have hFm67 := zfr_up hmm67 hFm65 hc0 rfl
                  have hRCTm67 := zR_CT_fr (zdis_fr (zfr_up hmm67 (zfr_rf [(3, 11)] _) hc0 rfl) rfl) hRCTm65
                  have hRTVm67 := zR_TV_fr (zdis_fr (zfr_up hmm67 (zfr_rf [(3, 11)] _) hc0 rfl) rfl) hRTVm65
                  refine zw_b (by omega) ?_
                  refine zw_some ?_
                  refine zw_ite (fun h68 => ?_) (fun h68 => ?_)
                  · refine zw_b (by omega) ?_
                    refine zw_some ?_
                    refine zw_ite (fun h69 => ?_) (fun h69 => ?_)
                    · exfalso; omega
                    · refine zw_b (by omega) ?_
                      refine zw_some ?_
                      refine zw_ite (fun h70 => ?_) (fun h70 => ?_)
                      · exfalso; omega
                      · refine zw_b (by omega) ?_
                        exact zw_some ⟨hIm67, hFm67, hRCTm67, ⟨by decide, by decide⟩⟩
                  · exfalso; omega
            · refine zw_bd (zw_eq (zu_call_at (zt_T n) (zm_257 n) (zdp_257 n) _ _ _ _ _ rfl (zr_257_0 n _ _ a0 1 m26)) ?_)
              generalize hmm71 : zu_up m26 a0 9 1 = m71
              have hIm71 := zi_up hmm71 hIm26 hc0 zb_3_9 (by omega) (by omega)
              have hFm71 := zfr_up hmm71 hFm26 hc0 rfl
              have hRCTm71 := zR_CT_fr (zdis_fr (zfr_up hmm71 (zfr_rf [(3, 10)] _) hc0 rfl) rfl) hRCTm26
              have hRTVm71 := zR_TV_fr (zdis_fr (zfr_up hmm71 (zfr_rf [(3, 10)] _) hc0 rfl) rfl) hRTVm26
              have r72 : 0 ≤ (m71 45 6) ∧ (m71 45 6) ≤ 700 := zi_rd hIm71 zq_45 zb_9_6
              generalize hmm73 : zu_up m71 a0 10 (m71 45 6) = m73
              have hIm73 := zi_up hmm73 hIm71 hc0 zb_3_10 (by omega) (by omega)
              have hFm73 := zfr_up hmm73 hFm71 hc0 rfl
              have hRCTm73 := zR_CT_fr (zdis_fr (zfr_up hmm73 (zfr_rf [(3, 11)] _) hc0 rfl) rfl) hRCTm71
              have hRTVm73 := zR_TV_fr (zdis_fr (zfr_up hmm73 (zfr_rf [(3, 11)] _) hc0 rfl) rfl) hRTVm71
              refine zw_b (by omega) ?_
              refine zw_some ?_
              refine zw_b (by omega) ?_
              refine zw_some ?_
              refine zw_ite (fun h74 => ?_) (fun h74 => ?_)
              · exfalso; omega
              · refine zw_b (by omega) ?_
                refine zw_some ?_
                refine zw_ite (fun h75 => ?_) (fun h75 => ?_)
                · exfalso; omega
                · refine zw_b (by omega) ?_
                  exact zw_some ⟨hIm73, hFm73, hRCTm73, ⟨by decide, by decide⟩⟩
          · exfalso; omega
        · refine zw_bd (zw_eq (zu_call_at (zt_T n) (zm_257 n) (zdp_257 n) _ _ _ _ _ rfl (zr_257_0 n _ _ a0 2 m12)) ?_)
          generalize hmm76 : zu_up m12 a0 9 2 = m76
          have hIm76 := zi_up hmm76 hIm12 hc0 zb_3_9 (by omega) (by omega)
          have hFm76 := zfr_up hmm76 hFm12 hc0 rfl
          have hRCTm76 := zR_CT_fr (zdis_fr (zfr_up hmm76 (zfr_rf [(3, 10)] _) hc0 rfl) rfl) hRCTm12
          have hRTVm76 := zR_TV_fr (zdis_fr (zfr_up hmm76 (zfr_rf [(3, 10)] _) hc0 rfl) rfl) hRTVm12
          have r77 : 0 ≤ (m76 45 6) ∧ (m76 45 6) ≤ 700 := zi_rd hIm76 zq_45 zb_9_6
          generalize hmm78 : zu_up m76 a0 10 (m76 45 6) = m78
          have hIm78 := zi_up hmm78 hIm76 hc0 zb_3_10 (by omega) (by omega)
          have hFm78 := zfr_up hmm78 hFm76 hc0 rfl
          have hRCTm78 := zR_CT_fr (zdis_fr (zfr_up hmm78 (zfr_rf [(3, 11)] _) hc0 rfl) rfl) hRCTm76
          have hRTVm78 := zR_TV_fr (zdis_fr (zfr_up hmm78 (zfr_rf [(3, 11)] _) hc0 rfl) rfl) hRTVm76
          refine zw_b (by omega) ?_
          refine zw_some ?_
          refine zw_ite (fun h79 => ?_) (fun h79 => ?_)
          · refine zw_b (by omega) ?_
            refine zw_some ?_
            refine zw_ite (fun h80 => ?_) (fun h80 => ?_)
            · exfalso; omega
            · refine zw_b (by omega) ?_
              refine zw_some ?_
              refine zw_ite (fun h81 => ?_) (fun h81 => ?_)
              · exfalso; omega
              · refine zw_b (by omega) ?_
                exact zw_some ⟨hIm78, hFm78, hRCTm78, ⟨by decide, by decide⟩⟩
          · exfalso; omega
    · refine zw_bd (zw_eq (zu_call_at (zt_T n) (zm_257 n) (zdp_257 n) _ _ _ _ _ rfl (zr_257_0 n _ _ a0 1 m6)) ?_)
      generalize hmm82 : zu_up m6 a0 9 1 = m82
      have hIm82 := zi_up hmm82 hIm6 hc0 zb_3_9 (by omega) (by omega)
      have hFm82 := zfr_up hmm82 hFm6 hc0 rfl
      have hRCTm82 := zR_CT_fr (zdis_fr (zfr_up hmm82 (zfr_rf [(3, 10)] _) hc0 rfl) rfl) hRCTm6
      have hRTVm82 := zR_TV_fr (zdis_fr (zfr_up hmm82 (zfr_rf [(3, 10)] _) hc0 rfl) rfl) hRTVm6
      have r83 : 0 ≤ (m82 45 6) ∧ (m82 45 6) ≤ 700 := zi_rd hIm82 zq_45 zb_9_6
      generalize hmm84 : zu_up m82 a0 10 (m82 45 6) = m84
      have hIm84 := zi_up hmm84 hIm82 hc0 zb_3_10 (by omega) (by omega)
      have hFm84 := zfr_up hmm84 hFm82 hc0 rfl
      have hRCTm84 := zR_CT_fr (zdis_fr (zfr_up hmm84 (zfr_rf [(3, 11)] _) hc0 rfl) rfl) hRCTm82
      have hRTVm84 := zR_TV_fr (zdis_fr (zfr_up hmm84 (zfr_rf [(3, 11)] _) hc0 rfl) rfl) hRTVm82
      refine zw_b (by omega) ?_
      refine zw_some ?_
      refine zw_b (by omega) ?_
      refine zw_some ?_
      refine zw_ite (fun h85 => ?_) (fun h85 => ?_)
      · exfalso; omega
      · refine zw_b (by omega) ?_
        refine zw_some ?_
        refine zw_ite (fun h86 => ?_) (fun h86 => ?_)
        · exfalso; omega
        · refine zw_b (by omega) ?_
          exact zw_some ⟨hIm84, hFm84, hRCTm84, ⟨by decide, by decide⟩⟩
  · refine zw_bd (zw_eq (zu_call_at (zt_T n) (zm_257 n) (zdp_257 n) _ _ _ _ _ rfl (zr_257_0 n _ _ a0 2 m0)) ?_)
    generalize hmm87 : zu_up m0 a0 9 2 = m87
    have hIm87 := zi_up hmm87 hIm0 hc0 zb_3_9 (by omega) (by omega)
    have hFm87 := zfr_up hmm87 hFm0 hc0 rfl
    have hRCTm87 := zR_CT_fr (zdis_fr (zfr_up hmm87 (zfr_rf [(3, 10)] _) hc0 rfl) rfl) hRCTm0
    have r88 : 0 ≤ (m87 45 6) ∧ (m87 45 6) ≤ 700 := zi_rd hIm87 zq_45 zb_9_6
    generalize hmm89 : zu_up m87 a0 10 (m87 45 6) = m89
    have hIm89 := zi_up hmm89 hIm87 hc0 zb_3_10 (by omega) (by omega)
    have hFm89 := zfr_up hmm89 hFm87 hc0 rfl
    have hRCTm89 := zR_CT_fr (zdis_fr (zfr_up hmm89 (zfr_rf [(3, 11)] _) hc0 rfl) rfl) hRCTm87
    refine zw_b (by omega) ?_
    refine zw_some ?_
    refine zw_b (by omega) ?_
    exact zw_some ⟨hIm89, hFm89, hRCTm89, ⟨by decide, by decide⟩⟩

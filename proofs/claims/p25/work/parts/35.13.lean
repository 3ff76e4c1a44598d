set_option maxHeartbeats 4000000 in
theorem zk_104 (n : Nat) {a0 : Int} {m0 : zu_m} (hIm0 : zi_I m0) (hc0 : zcls a0 = 28)   (he0 : 6 ≤ m0 a0 9 ∧ m0 a0 9 ≤ 10)  (hRLRm0 : zR_LR m0) (hRNSm0 : zR_NS m0) (hRTRm0 : zR_TR m0) (hRWDm0 : zR_WD m0) : zw (zu_call (zt_T n) 104 [(40, a0)] m0) (fun v m => zi_I m ∧ zfr [(28, 5), (28, 6), (28, 8), (28, 9), (28, 10), (28, 11), (28, 12), (102, 0), (103, 0)] m0 m ∧ zR_LR m ∧ zR_NS m ∧ zR_TR m ∧ zR_WD m ∧ (0 ≤ v ∧ v ≤ 1) ∧ ((m0 a0 7) ≤ (m a0 7)) ∧ (v = 1 → ((m a0 8) = 0 ∨ (m0 a0 7) < (m a0 7))) ∧ (v = 1 → (m a0 4) = (m0 a0 4))) := by
  have hFm0 : zfr [(28, 5), (28, 6), (28, 8), (28, 9), (28, 10), (28, 11), (28, 12), (102, 0), (103, 0)] m0 m0 := zfr_rf _ _
  have r1 : 0 ≤ (m0 a0 7) ∧ (m0 a0 7) ≤ 700 := zi_rd hIm0 hc0 zb_28_7
  have r2 : (-2147483648) ≤ (m0 a0 4) ∧ (m0 a0 4) ≤ 2147483647 := zi_rd hIm0 hc0 zb_28_4
  have s3 := hRNSm0 a0 hc0
  refine zw_eq (zu_call_at (zt_T n) (zm_104 n) (zdp_104 n) _ _ _ _ _ rfl (zr_104_0 n _ _ a0 m0)) ?_
  refine zw_ite (fun h4 => ?_) (fun h4 => ?_)
  · refine zw_bd (zw_eq (zu_call_at (zt_T n) (zm_98 n) (zdp_98 n) _ _ _ _ _ rfl (zr_98_0 n _ _ a0 1 m0)) ?_)
    have b5 : 0 ≤ (1 : Int) ∧ (1 : Int) < 6 := by omega
    refine zw_if b5 ?_
    have r6 : 0 ≤ (m0 193 1) ∧ (m0 193 1) ≤ 1 := zi_rd hIm0 zq_193 (zb_102 _)
    refine zw_ite (fun h7 => ?_) (fun h7 => ?_)
    · refine zw_b (by omega) ?_
      have b8 : 0 ≤ (1 : Int) ∧ (1 : Int) < 6 := by omega
      refine zw_if b8 ?_
      generalize hmm9 : zu_up m0 193 1 1 = m9
      have hIm9 := zi_up hmm9 hIm0 zq_193 (zb_102 _) (by omega) (by omega)
      have hFm9 := zfr_up hmm9 hFm0 zq_193 rfl
      have hRLRm9 := zR_LR_fr (zdis_fr (zfr_up hmm9 (zfr_rf [(102, 0)] _) zq_193 rfl) rfl) hRLRm0
      have hRNSm9 := zR_NS_fr (zdis_fr (zfr_up hmm9 (zfr_rf [(102, 0)] _) zq_193 rfl) rfl) hRNSm0
      have hRTRm9 := zR_TR_fr (zdis_fr (zfr_up hmm9 (zfr_rf [(102, 0)] _) zq_193 rfl) rfl) hRTRm0
      have hRWDm9 := zR_WD_fr (zdis_fr (zfr_up hmm9 (zfr_rf [(102, 0)] _) zq_193 rfl) rfl) hRWDm0
      have r12 : 0 ≤ (m9 a0 7) ∧ (m9 a0 7) ≤ 700 := zi_rd hIm9 hc0 zb_28_7
      have e13 : (m9 a0 7) = (m0 a0 7) := (zs_ne hmm9 (Or.inl (zc_ne hc0 zq_193 (by decide))))
      refine zw_bd (zw_mono (zk_89 n hIm9 hc0 hRNSm9 hRWDm9) (fun v11 m10 hqm10 => ?_))
      obtain ⟨hIm10, hfm10, hvm10⟩ := hqm10
      have hFm10 := zfr_tr hFm9 hfm10 rfl
      obtain ⟨hRNSm10, hRTRm10, hRWDm10, hvm10⟩ := hvm10
      have hRLRm10 := zR_LR_fr (zdis_fr hfm10 rfl) hRLRm9
      have s14 := hRNSm10 a0 hc0
      have r15 : 0 ≤ (m10 a0 7) ∧ (m10 a0 7) ≤ 700 := zi_rd hIm10 hc0 zb_28_7
      have r16 : 0 ≤ (m10 a0 8) ∧ (m10 a0 8) ≤ 6 := zi_rd hIm10 hc0 zb_28_8
      refine zw_b (by omega) ?_
      refine zw_some ?_
      refine zw_ite (fun h17 => ?_) (fun h17 => ?_)
      · exfalso; omega
      · refine zw_bd (zw_eq (zu_call_at (zt_T n) (zm_97 n) (zdp_97 n) _ _ _ _ _ rfl (zr_97_0 n _ _ a0 16 18 m10)) ?_)
        refine zw_ite (fun h18 => ?_) (fun h18 => ?_)
        · refine zw_bd (zw_eq (zu_call_at (zt_T n) (zm_85 n) (zdp_85 n) _ _ _ _ _ rfl (zr_85_0 n _ _ a0 1 m10)) ?_)
          generalize hmm20 : zu_up m10 a0 4 1 = m20
          have hIm20 := zi_up hmm20 hIm10 hc0 zb_28_4 (by omega) (by omega)
          have hFm20 := zfr_up hmm20 hFm10 hc0 rfl
          have hRNSm20 := zR_NS_fr (zdis_fr (zfr_up hmm20 (zfr_rf [(28, 5)] _) hc0 rfl) rfl) hRNSm10
          have hRTRm20 := zR_TR_fr (zdis_fr (zfr_up hmm20 (zfr_rf [(28, 5)] _) hc0 rfl) rfl) hRTRm10
          have hRWDm20 := zR_WD_fr (zdis_fr (zfr_up hmm20 (zfr_rf [(28, 5)] _) hc0 rfl) rfl) hRWDm10
          have hRLRm20 := zLR_wr (zone_190 hc0) hmm20 (by decide)
          have r21 : 0 ≤ (m20 a0 10) ∧ (m20 a0 10) ≤ 700 := zi_rd hIm20 hc0 zb_28_10
          generalize hmm22 : zu_up m20 a0 5 (m20 a0 10) = m22
          have hIm22 := zi_up hmm22 hIm20 hc0 zb_28_5 (by omega) (by omega)
          have hFm22 := zfr_up hmm22 hFm20 hc0 rfl
          have hRLRm22 := zR_LR_fr (zdis_fr (zfr_up hmm22 (zfr_rf [(28, 6)] _) hc0 rfl) rfl) hRLRm20
          have hRNSm22 := zR_NS_fr (zdis_fr (zfr_up hmm22 (zfr_rf [(28, 6)] _) hc0 rfl) rfl) hRNSm20
          have hRTRm22 := zR_TR_fr (zdis_fr (zfr_up hmm22 (zfr_rf [(28, 6)] _) hc0 rfl) rfl) hRTRm20
          have hRWDm22 := zR_WD_fr (zdis_fr (zfr_up hmm22 (zfr_rf [(28, 6)] _) hc0 rfl) rfl) hRWDm20
          refine zw_b (by omega) ?_
          refine zw_some ?_
          refine zw_b (by omega) ?_
          refine zw_some ?_
          refine zw_ite (fun h23 => ?_) (fun h23 => ?_)
          · exfalso; omega
          · refine zw_b (by omega) ?_
            have r24 : 0 ≤ (m22 a0 7) ∧ (m22 a0 7) ≤ 700 := zi_rd hIm22 hc0 zb_28_7
            have e25 : (m22 a0 7) = (m10 a0 7) := (Eq.trans (zs_ne hmm22 (Or.inr (by decide))) (zs_ne hmm20 (Or.inr (by decide))))
            have r26 : 0 ≤ (m22 a0 8) ∧ (m22 a0 8) ≤ 6 := zi_rd hIm22 hc0 zb_28_8
            have e27 : (m22 a0 8) = (m10 a0 8) := (Eq.trans (zs_ne hmm22 (Or.inr (by decide))) (zs_ne hmm20 (Or.inr (by decide))))
            have r28 : (-2147483648) ≤ (m22 a0 4) ∧ (m22 a0 4) ≤ 2147483647 := zi_rd hIm22 hc0 zb_28_4
            have e29 : (m22 a0 4) = 1 := (Eq.trans (zs_ne hmm22 (Or.inr (by decide))) (zs_eq hmm20))
            exact zw_some ⟨hIm22, hFm22, hRLRm22, hRNSm22, hRTRm22, hRWDm22, ⟨by decide, by decide⟩, by omega, fun h => absurd h (by decide), fun h => absurd h (by decide)⟩
        · have s19 := (hRTRm10 a0 hc0).2.1 (by omega)
          refine zw_ite (fun h30 => ?_) (fun h30 => ?_)
          · refine zw_bd (zw_eq (zu_call_at (zt_T n) (zm_85 n) (zdp_85 n) _ _ _ _ _ rfl (zr_85_0 n _ _ a0 1 m10)) ?_)
            generalize hmm31 : zu_up m10 a0 4 1 = m31
            have hIm31 := zi_up hmm31 hIm10 hc0 zb_28_4 (by omega) (by omega)
            have hFm31 := zfr_up hmm31 hFm10 hc0 rfl
            have hRNSm31 := zR_NS_fr (zdis_fr (zfr_up hmm31 (zfr_rf [(28, 5)] _) hc0 rfl) rfl) hRNSm10
            have hRTRm31 := zR_TR_fr (zdis_fr (zfr_up hmm31 (zfr_rf [(28, 5)] _) hc0 rfl) rfl) hRTRm10
            have hRWDm31 := zR_WD_fr (zdis_fr (zfr_up hmm31 (zfr_rf [(28, 5)] _) hc0 rfl) rfl) hRWDm10
            have hRLRm31 := zLR_wr (zone_190 hc0) hmm31 (by decide)
            have r32 : 0 ≤ (m31 a0 10) ∧ (m31 a0 10) ≤ 700 := zi_rd hIm31 hc0 zb_28_10
            generalize hmm33 : zu_up m31 a0 5 (m31 a0 10) = m33
            have hIm33 := zi_up hmm33 hIm31 hc0 zb_28_5 (by omega) (by omega)
            have hFm33 := zfr_up hmm33 hFm31 hc0 rfl
            have hRLRm33 := zR_LR_fr (zdis_fr (zfr_up hmm33 (zfr_rf [(28, 6)] _) hc0 rfl) rfl) hRLRm31
            have hRNSm33 := zR_NS_fr (zdis_fr (zfr_up hmm33 (zfr_rf [(28, 6)] _) hc0 rfl) rfl) hRNSm31
            have hRTRm33 := zR_TR_fr (zdis_fr (zfr_up hmm33 (zfr_rf [(28, 6)] _) hc0 rfl) rfl) hRTRm31
            have hRWDm33 := zR_WD_fr (zdis_fr (zfr_up hmm33 (zfr_rf [(28, 6)] _) hc0 rfl) rfl) hRWDm31
            refine zw_b (by omega) ?_
            refine zw_some ?_
            refine zw_b (by omega) ?_
            refine zw_some ?_
            refine zw_ite (fun h34 => ?_) (fun h34 => ?_)
            · exfalso; omega
            · refine zw_b (by omega) ?_
              have r35 : 0 ≤ (m33 a0 7) ∧ (m33 a0 7) ≤ 700 := zi_rd hIm33 hc0 zb_28_7
              have e36 : (m33 a0 7) = (m10 a0 7) := (Eq.trans (zs_ne hmm33 (Or.inr (by decide))) (zs_ne hmm31 (Or.inr (by decide))))
              have r37 : 0 ≤ (m33 a0 8) ∧ (m33 a0 8) ≤ 6 := zi_rd hIm33 hc0 zb_28_8
              have e38 : (m33 a0 8) = (m10 a0 8) := (Eq.trans (zs_ne hmm33 (Or.inr (by decide))) (zs_ne hmm31 (Or.inr (by decide))))
              have r39 : (-2147483648) ≤ (m33 a0 4) ∧ (m33 a0 4) ≤ 2147483647 := zi_rd hIm33 hc0 zb_28_4
              have e40 : (m33 a0 4) = 1 := (Eq.trans (zs_ne hmm33 (Or.inr (by decide))) (zs_eq hmm31))
              exact zw_some ⟨hIm33, hFm33, hRLRm33, hRNSm33, hRTRm33, hRWDm33, ⟨by decide, by decide⟩, by omega, fun h => absurd h (by decide), fun h => absurd h (by decide)⟩
          · refine zw_ite (fun h41 => ?_) (fun h41 => ?_)
            · have w42 := zu_w32_id (z := (m10 a0 9) - 16) (by omega) (by omega)
              refine zw_bd (zw_mono (zk_89 n hIm10 hc0 hRNSm10 hRWDm10) (fun v44 m43 hqm43 => ?_))
              obtain ⟨hIm43, hfm43, hvm43⟩ := hqm43
              have hFm43 := zfr_tr hFm10 hfm43 rfl
              obtain ⟨hRNSm43, hRTRm43, hRWDm43, hvm43⟩ := hvm43
              have hRLRm43 := zR_LR_fr (zdis_fr hfm43 rfl) hRLRm10
              have s45 := hRNSm43 a0 hc0
              have r46 : 0 ≤ (m43 a0 7) ∧ (m43 a0 7) ≤ 700 := zi_rd hIm43 hc0 zb_28_7
              have r47 : 0 ≤ (m43 a0 8) ∧ (m43 a0 8) ≤ 6 := zi_rd hIm43 hc0 zb_28_8
              generalize hmm48 : zu_up m43 a0 11 (zu_w32 ((m10 a0 9) - 16)) = m48
              have hIm48 := zi_up hmm48 hIm43 hc0 zb_28_11 (by omega) (by omega)
              have hFm48 := zfr_up hmm48 hFm43 hc0 rfl
              have hRLRm48 := zR_LR_fr (zdis_fr (zfr_up hmm48 (zfr_rf [(28, 12)] _) hc0 rfl) rfl) hRLRm43
              have hRNSm48 := zR_NS_fr (zdis_fr (zfr_up hmm48 (zfr_rf [(28, 12)] _) hc0 rfl) rfl) hRNSm43
              have hRTRm48 := zR_TR_fr (zdis_fr (zfr_up hmm48 (zfr_rf [(28, 12)] _) hc0 rfl) rfl) hRTRm43
              have hRWDm48 := zR_WD_fr (zdis_fr (zfr_up hmm48 (zfr_rf [(28, 12)] _) hc0 rfl) rfl) hRWDm43
              refine zw_b (by omega) ?_
              refine zw_some ?_
              refine zw_ite (fun h49 => ?_) (fun h49 => ?_)
              · have r50 : (-2147483648) ≤ (m48 a0 11) ∧ (m48 a0 11) ≤ 2147483647 := zi_rd hIm48 hc0 zb_28_11
                have e51 : (m48 a0 11) = (zu_w32 ((m10 a0 9) - 16)) := (zs_eq hmm48)
                have b52 : 0 ≤ (5 : Int) ∧ (5 : Int) < 10 := by omega
                refine zw_if b52 ?_
                generalize hmm53 : zu_up m48 194 5 (m48 a0 11) = m53
                have hIm53 := zi_up hmm53 hIm48 zq_194 (zb_103 _) (by omega) (by omega)
                have hFm53 := zfr_up hmm53 hFm48 zq_194 rfl
                have hRLRm53 := zR_LR_fr (zdis_fr (zfr_up hmm53 (zfr_rf [(103, 0)] _) zq_194 rfl) rfl) hRLRm48
                have hRNSm53 := zR_NS_fr (zdis_fr (zfr_up hmm53 (zfr_rf [(103, 0)] _) zq_194 rfl) rfl) hRNSm48
                have hRTRm53 := zR_TR_fr (zdis_fr (zfr_up hmm53 (zfr_rf [(103, 0)] _) zq_194 rfl) rfl) hRTRm48
                have hRWDm53 := zR_WD_fr (zdis_fr (zfr_up hmm53 (zfr_rf [(103, 0)] _) zq_194 rfl) rfl) hRWDm48
                refine zw_b (by omega) ?_
                have r54 : 0 ≤ (m53 a0 7) ∧ (m53 a0 7) ≤ 700 := zi_rd hIm53 hc0 zb_28_7
                have e55 : (m53 a0 7) = (m43 a0 7) := (Eq.trans (zs_ne hmm53 (Or.inl (zc_ne hc0 zq_194 (by decide)))) (zs_ne hmm48 (Or.inr (by decide))))
                have r56 : 0 ≤ (m53 a0 8) ∧ (m53 a0 8) ≤ 6 := zi_rd hIm53 hc0 zb_28_8
                have e57 : (m53 a0 8) = (m43 a0 8) := (Eq.trans (zs_ne hmm53 (Or.inl (zc_ne hc0 zq_194 (by decide)))) (zs_ne hmm48 (Or.inr (by decide))))
                have r58 : (-2147483648) ≤ (m53 a0 4) ∧ (m53 a0 4) ≤ 2147483647 := zi_rd hIm53 hc0 zb_28_4
                have e59 : (m53 a0 4) = (m0 a0 4) := (Eq.trans (zs_ne hmm53 (Or.inl (zc_ne hc0 zq_194 (by decide)))) (Eq.trans (zs_ne hmm48 (Or.inr (by decide))) (Eq.trans (zfr_ap hfm43 hc0 rfl) (Eq.trans (zfr_ap hfm10 hc0 rfl) (zs_ne hmm9 (Or.inl (zc_ne hc0 zq_193 (by decide))))))))
                exact zw_some ⟨hIm53, hFm53, hRLRm53, hRNSm53, hRTRm53, hRWDm53, ⟨by decide, by decide⟩, by omega, fun _ => by omega, fun _ => by omega⟩
              · exfalso; omega
            · refine zw_bd (zw_eq (zu_call_at (zt_T n) (zm_85 n) (zdp_85 n) _ _ _ _ _ rfl (zr_85_0 n _ _ a0 1 m10)) ?_)
              generalize hmm60 : zu_up m10 a0 4 1 = m60
              have hIm60 := zi_up hmm60 hIm10 hc0 zb_28_4 (by omega) (by omega)
              have hFm60 := zfr_up hmm60 hFm10 hc0 rfl
              have hRNSm60 := zR_NS_fr (zdis_fr (zfr_up hmm60 (zfr_rf [(28, 5)] _) hc0 rfl) rfl) hRNSm10
              have hRTRm60 := zR_TR_fr (zdis_fr (zfr_up hmm60 (zfr_rf [(28, 5)] _) hc0 rfl) rfl) hRTRm10
              have hRWDm60 := zR_WD_fr (zdis_fr (zfr_up hmm60 (zfr_rf [(28, 5)] _) hc0 rfl) rfl) hRWDm10
              have hRLRm60 := zLR_wr (zone_190 hc0) hmm60 (by decide)
              have r61 : 0 ≤ (m60 a0 10) ∧ (m60 a0 10) ≤ 700 := zi_rd hIm60 hc0 zb_28_10
              generalize hmm62 : zu_up m60 a0 5 (m60 a0 10) = m62
              have hIm62 := zi_up hmm62 hIm60 hc0 zb_28_5 (by omega) (by omega)
              have hFm62 := zfr_up hmm62 hFm60 hc0 rfl
              have hRLRm62 := zR_LR_fr (zdis_fr (zfr_up hmm62 (zfr_rf [(28, 6)] _) hc0 rfl) rfl) hRLRm60
              have hRNSm62 := zR_NS_fr (zdis_fr (zfr_up hmm62 (zfr_rf [(28, 6)] _) hc0 rfl) rfl) hRNSm60
              have hRTRm62 := zR_TR_fr (zdis_fr (zfr_up hmm62 (zfr_rf [(28, 6)] _) hc0 rfl) rfl) hRTRm60
              have hRWDm62 := zR_WD_fr (zdis_fr (zfr_up hmm62 (zfr_rf [(28, 6)] _) hc0 rfl) rfl) hRWDm60
              refine zw_b (by omega) ?_
              refine zw_some ?_
              refine zw_b (by omega) ?_
              refine zw_some ?_
              refine zw_ite (fun h63 => ?_) (fun h63 => ?_)
              · exfalso; omega
              · refine zw_b (by omega) ?_
                have r64 : 0 ≤ (m62 a0 7) ∧ (m62 a0 7) ≤ 700 := zi_rd hIm62 hc0 zb_28_7
                have e65 : (m62 a0 7) = (m10 a0 7) := (Eq.trans (zs_ne hmm62 (Or.inr (by decide))) (zs_ne hmm60 (Or.inr (by decide))))
                have r66 : 0 ≤ (m62 a0 8) ∧ (m62 a0 8) ≤ 6 := zi_rd hIm62 hc0 zb_28_8
                have e67 : (m62 a0 8) = (m10 a0 8) := (Eq.trans (zs_ne hmm62 (Or.inr (by decide))) (zs_ne hmm60 (Or.inr (by decide))))
                have r68 : (-2147483648) ≤ (m62 a0 4) ∧ (m62 a0 4) ≤ 2147483647 := zi_rd hIm62 hc0 zb_28_4
                have e69 : (m62 a0 4) = 1 := (Eq.trans (zs_ne hmm62 (Or.inr (by decide))) (zs_eq hmm60))
                exact zw_some ⟨hIm62, hFm62, hRLRm62, hRNSm62, hRTRm62, hRWDm62, ⟨by decide, by decide⟩, by omega, fun h => absurd h (by decide), fun h => absurd h (by decide)⟩
    · refine zw_bd (zw_eq (zu_call_at (zt_T n) (zm_85 n) (zdp_85 n) _ _ _ _ _ rfl (zr_85_0 n _ _ a0 3 m0)) ?_)
      generalize hmm70 : zu_up m0 a0 4 3 = m70
      have hIm70 := zi_up hmm70 hIm0 hc0 zb_28_4 (by omega) (by omega)
      have hFm70 := zfr_up hmm70 hFm0 hc0 rfl
      have hRNSm70 := zR_NS_fr (zdis_fr (zfr_up hmm70 (zfr_rf [(28, 5)] _) hc0 rfl) rfl) hRNSm0
      have hRTRm70 := zR_TR_fr (zdis_fr (zfr_up hmm70 (zfr_rf [(28, 5)] _) hc0 rfl) rfl) hRTRm0
      have hRWDm70 := zR_WD_fr (zdis_fr (zfr_up hmm70 (zfr_rf [(28, 5)] _) hc0 rfl) rfl) hRWDm0
      have hRLRm70 := zLR_wr (zone_190 hc0) hmm70 (by decide)
      have r71 : 0 ≤ (m70 a0 10) ∧ (m70 a0 10) ≤ 700 := zi_rd hIm70 hc0 zb_28_10
      generalize hmm72 : zu_up m70 a0 5 (m70 a0 10) = m72
      have hIm72 := zi_up hmm72 hIm70 hc0 zb_28_5 (by omega) (by omega)
      have hFm72 := zfr_up hmm72 hFm70 hc0 rfl
      have hRLRm72 := zR_LR_fr (zdis_fr (zfr_up hmm72 (zfr_rf [(28, 6)] _) hc0 rfl) rfl) hRLRm70
      have hRNSm72 := zR_NS_fr (zdis_fr (zfr_up hmm72 (zfr_rf [(28, 6)] _) hc0 rfl) rfl) hRNSm70
      have hRTRm72 := zR_TR_fr (zdis_fr (zfr_up hmm72 (zfr_rf [(28, 6)] _) hc0 rfl) rfl) hRTRm70
      have hRWDm72 := zR_WD_fr (zdis_fr (zfr_up hmm72 (zfr_rf [(28, 6)] _) hc0 rfl) rfl) hRWDm70
      refine zw_b (by omega) ?_
      refine zw_some ?_
      refine zw_b (by omega) ?_
      refine zw_some ?_
      refine zw_ite (fun h73 => ?_) (fun h73 => ?_)
      · refine zw_b (by omega) ?_
        have r74 : 0 ≤ (m72 a0 7) ∧ (m72 a0 7) ≤ 700 := zi_rd hIm72 hc0 zb_28_7
        have e75 : (m72 a0 7) = (m0 a0 7) := (Eq.trans (zs_ne hmm72 (Or.inr (by decide))) (zs_ne hmm70 (Or.inr (by decide))))
        have r76 : 0 ≤ (m72 a0 8) ∧ (m72 a0 8) ≤ 6 := zi_rd hIm72 hc0 zb_28_8
        have r77 : (-2147483648) ≤ (m72 a0 4) ∧ (m72 a0 4) ≤ 2147483647 := zi_rd hIm72 hc0 zb_28_4
        have e78 : (m72 a0 4) = 3 := (Eq.trans (zs_ne hmm72 (Or.inr (by decide))) (zs_eq hmm70))
        exact zw_some ⟨hIm72, hFm72, hRLRm72, hRNSm72, hRTRm72, hRWDm72, ⟨by decide, by decide⟩, by omega, fun h => absurd h (by decide), fun h => absurd h (by decide)⟩
      · exfalso; omega
  · refine zw_ite (fun h79 => ?_) (fun h79 => ?_)
    · refine zw_bd (zw_eq (zu_call_at (zt_T n) (zm_98 n) (zdp_98 n) _ _ _ _ _ rfl (zr_98_0 n _ _ a0 2 m0)) ?_)
      have b80 : 0 ≤ (2 : Int) ∧ (2 : Int) < 6 := by omega
      refine zw_if b80 ?_
      have r81 : 0 ≤ (m0 193 2) ∧ (m0 193 2) ≤ 1 := zi_rd hIm0 zq_193 (zb_102 _)
      refine zw_ite (fun h82 => ?_) (fun h82 => ?_)
      · refine zw_b (by omega) ?_
        have b83 : 0 ≤ (2 : Int) ∧ (2 : Int) < 6 := by omega
        refine zw_if b83 ?_
        generalize hmm84 : zu_up m0 193 2 1 = m84
        have hIm84 := zi_up hmm84 hIm0 zq_193 (zb_102 _) (by omega) (by omega)
        have hFm84 := zfr_up hmm84 hFm0 zq_193 rfl
        have hRLRm84 := zR_LR_fr (zdis_fr (zfr_up hmm84 (zfr_rf [(102, 0)] _) zq_193 rfl) rfl) hRLRm0
        have hRNSm84 := zR_NS_fr (zdis_fr (zfr_up hmm84 (zfr_rf [(102, 0)] _) zq_193 rfl) rfl) hRNSm0
        have hRTRm84 := zR_TR_fr (zdis_fr (zfr_up hmm84 (zfr_rf [(102, 0)] _) zq_193 rfl) rfl) hRTRm0
        have hRWDm84 := zR_WD_fr (zdis_fr (zfr_up hmm84 (zfr_rf [(102, 0)] _) zq_193 rfl) rfl) hRWDm0
        have r87 : 0 ≤ (m84 a0 7) ∧ (m84 a0 7) ≤ 700 := zi_rd hIm84 hc0 zb_28_7
        have e88 : (m84 a0 7) = (m0 a0 7) := (zs_ne hmm84 (Or.inl (zc_ne hc0 zq_193 (by decide))))
        refine zw_bd (zw_mono (zk_89 n hIm84 hc0 hRNSm84 hRWDm84) (fun v86 m85 hqm85 => ?_))
        obtain ⟨hIm85, hfm85, hvm85⟩ := hqm85
        have hFm85 := zfr_tr hFm84 hfm85 rfl
        obtain ⟨hRNSm85, hRTRm85, hRWDm85, hvm85⟩ := hvm85
        have hRLRm85 := zR_LR_fr (zdis_fr hfm85 rfl) hRLRm84
        have s89 := hRNSm85 a0 hc0
        have r90 : 0 ≤ (m85 a0 7) ∧ (m85 a0 7) ≤ 700 := zi_rd hIm85 hc0 zb_28_7
        have r91 : 0 ≤ (m85 a0 8) ∧ (m85 a0 8) ≤ 6 := zi_rd hIm85 hc0 zb_28_8
        refine zw_b (by omega) ?_
        refine zw_some ?_
        refine zw_ite (fun h92 => ?_) (fun h92 => ?_)
        · exfalso; omega
        · refine zw_bd (zw_eq (zu_call_at (zt_T n) (zm_94 n) (zdp_94 n) _ _ _ _ _ rfl (zr_94_0 n _ _ a0 0 6 m85)) ?_)
          refine zw_ite (fun h93 => ?_) (fun h93 => ?_)
          · have s94 := (hRTRm85 a0 hc0).2.2 (by omega)
            refine zw_bd (zw_eq (zu_call_at (zt_T n) (zm_83 n) (zdp_83 n) _ _ _ _ _ rfl (zr_83_0 n _ _ (m85 a0 9) 0 6 m85)) ?_)
            refine zw_ite (fun h95 => ?_) (fun h95 => ?_)
            · exfalso; omega
            · refine zw_ite (fun h96 => ?_) (fun h96 => ?_)
              · refine zw_b (by omega) ?_
                refine zw_some ?_
                refine zw_ite (fun h97 => ?_) (fun h97 => ?_)
                · exfalso; omega
                · refine zw_bd (zw_eq (zu_call_at (zt_T n) (zm_85 n) (zdp_85 n) _ _ _ _ _ rfl (zr_85_0 n _ _ a0 2 m85)) ?_)
                  generalize hmm98 : zu_up m85 a0 4 2 = m98
                  have hIm98 := zi_up hmm98 hIm85 hc0 zb_28_4 (by omega) (by omega)
                  have hFm98 := zfr_up hmm98 hFm85 hc0 rfl
                  have hRNSm98 := zR_NS_fr (zdis_fr (zfr_up hmm98 (zfr_rf [(28, 5)] _) hc0 rfl) rfl) hRNSm85
                  have hRTRm98 := zR_TR_fr (zdis_fr (zfr_up hmm98 (zfr_rf [(28, 5)] _) hc0 rfl) rfl) hRTRm85
                  have hRWDm98 := zR_WD_fr (zdis_fr (zfr_up hmm98 (zfr_rf [(28, 5)] _) hc0 rfl) rfl) hRWDm85
                  have hRLRm98 := zLR_wr (zone_190 hc0) hmm98 (by decide)
                  have r99 : 0 ≤ (m98 a0 10) ∧ (m98 a0 10) ≤ 700 := zi_rd hIm98 hc0 zb_28_10
                  generalize hmm100 : zu_up m98 a0 5 (m98 a0 10) = m100
                  have hIm100 := zi_up hmm100 hIm98 hc0 zb_28_5 (by omega) (by omega)
                  have hFm100 := zfr_up hmm100 hFm98 hc0 rfl
                  have hRLRm100 := zR_LR_fr (zdis_fr (zfr_up hmm100 (zfr_rf [(28, 6)] _) hc0 rfl) rfl) hRLRm98
                  have hRNSm100 := zR_NS_fr (zdis_fr (zfr_up hmm100 (zfr_rf [(28, 6)] _) hc0 rfl) rfl) hRNSm98
                  have hRTRm100 := zR_TR_fr (zdis_fr (zfr_up hmm100 (zfr_rf [(28, 6)] _) hc0 rfl) rfl) hRTRm98
                  have hRWDm100 := zR_WD_fr (zdis_fr (zfr_up hmm100 (zfr_rf [(28, 6)] _) hc0 rfl) rfl) hRWDm98
                  refine zw_b (by omega) ?_
                  refine zw_some ?_
                  refine zw_b (by omega) ?_
                  refine zw_some ?_
                  refine zw_ite (fun h101 => ?_) (fun h101 => ?_)
                  · exfalso; omega
                  · refine zw_b (by omega) ?_
                    have r102 : 0 ≤ (m100 a0 7) ∧ (m100 a0 7) ≤ 700 := zi_rd hIm100 hc0 zb_28_7
                    have e103 : (m100 a0 7) = (m85 a0 7) := (Eq.trans (zs_ne hmm100 (Or.inr (by decide))) (zs_ne hmm98 (Or.inr (by decide))))
                    have r104 : 0 ≤ (m100 a0 8) ∧ (m100 a0 8) ≤ 6 := zi_rd hIm100 hc0 zb_28_8
                    have e105 : (m100 a0 8) = (m85 a0 8) := (Eq.trans (zs_ne hmm100 (Or.inr (by decide))) (zs_ne hmm98 (Or.inr (by decide))))
                    have r106 : (-2147483648) ≤ (m100 a0 4) ∧ (m100 a0 4) ≤ 2147483647 := zi_rd hIm100 hc0 zb_28_4
                    have e107 : (m100 a0 4) = 2 := (Eq.trans (zs_ne hmm100 (Or.inr (by decide))) (zs_eq hmm98))
                    exact zw_some ⟨hIm100, hFm100, hRLRm100, hRNSm100, hRTRm100, hRWDm100, ⟨by decide, by decide⟩, by omega, fun h => absurd h (by decide), fun h => absurd h (by decide)⟩
              · refine zw_b (by omega) ?_
                refine zw_some ?_
                refine zw_ite (fun h108 => ?_) (fun h108 => ?_)
                · generalize hmm109 : zu_up m85 a0 11 (m85 a0 9) = m109
                  have hIm109 := zi_up hmm109 hIm85 hc0 zb_28_11 (by omega) (by omega)
                  have hFm109 := zfr_up hmm109 hFm85 hc0 rfl
                  have hRLRm109 := zR_LR_fr (zdis_fr (zfr_up hmm109 (zfr_rf [(28, 12)] _) hc0 rfl) rfl) hRLRm85
                  have hRNSm109 := zR_NS_fr (zdis_fr (zfr_up hmm109 (zfr_rf [(28, 12)] _) hc0 rfl) rfl) hRNSm85
                  have hRTRm109 := zR_TR_fr (zdis_fr (zfr_up hmm109 (zfr_rf [(28, 12)] _) hc0 rfl) rfl) hRTRm85
                  have hRWDm109 := zR_WD_fr (zdis_fr (zfr_up hmm109 (zfr_rf [(28, 12)] _) hc0 rfl) rfl) hRWDm85
                  have r112 : 0 ≤ (m109 a0 7) ∧ (m109 a0 7) ≤ 700 := zi_rd hIm109 hc0 zb_28_7
                  have e113 : (m109 a0 7) = (m85 a0 7) := (zs_ne hmm109 (Or.inr (by decide)))
                  refine zw_bd (zw_mono (zk_89 n hIm109 hc0 hRNSm109 hRWDm109) (fun v111 m110 hqm110 => ?_))
                  obtain ⟨hIm110, hfm110, hvm110⟩ := hqm110
                  have hFm110 := zfr_tr hFm109 hfm110 rfl
                  obtain ⟨hRNSm110, hRTRm110, hRWDm110, hvm110⟩ := hvm110
                  have hRLRm110 := zR_LR_fr (zdis_fr hfm110 rfl) hRLRm109
                  have s114 := hRNSm110 a0 hc0
                  have r115 : 0 ≤ (m110 a0 7) ∧ (m110 a0 7) ≤ 700 := zi_rd hIm110 hc0 zb_28_7
                  have r116 : 0 ≤ (m110 a0 8) ∧ (m110 a0 8) ≤ 6 := zi_rd hIm110 hc0 zb_28_8
                  refine zw_b (by omega) ?_
                  refine zw_some ?_
                  refine zw_ite (fun h117 => ?_) (fun h117 => ?_)
                  · have r118 : (-2147483648) ≤ (m110 a0 11) ∧ (m110 a0 11) ≤ 2147483647 := zi_rd hIm110 hc0 zb_28_11
                    have e119 : (m110 a0 11) = (m85 a0 9) := (Eq.trans (zfr_ap hfm110 hc0 rfl) (zs_eq hmm109))
                    have b120 : 0 ≤ (6 : Int) ∧ (6 : Int) < 10 := by omega
                    refine zw_if b120 ?_
                    generalize hmm121 : zu_up m110 194 6 (m110 a0 11) = m121
                    have hIm121 := zi_up hmm121 hIm110 zq_194 (zb_103 _) (by omega) (by omega)
                    have hFm121 := zfr_up hmm121 hFm110 zq_194 rfl
                    have hRLRm121 := zR_LR_fr (zdis_fr (zfr_up hmm121 (zfr_rf [(103, 0)] _) zq_194 rfl) rfl) hRLRm110
                    have hRNSm121 := zR_NS_fr (zdis_fr (zfr_up hmm121 (zfr_rf [(103, 0)] _) zq_194 rfl) rfl) hRNSm110
                    have hRTRm121 := zR_TR_fr (zdis_fr (zfr_up hmm121 (zfr_rf [(103, 0)] _) zq_194 rfl) rfl) hRTRm110
                    have hRWDm121 := zR_WD_fr (zdis_fr (zfr_up hmm121 (zfr_rf [(103, 0)] _) zq_194 rfl) rfl) hRWDm110
                    refine zw_b (by omega) ?_
                    have r122 : 0 ≤ (m121 a0 7) ∧ (m121 a0 7) ≤ 700 := zi_rd hIm121 hc0 zb_28_7
                    have e123 : (m121 a0 7) = (m110 a0 7) := (zs_ne hmm121 (Or.inl (zc_ne hc0 zq_194 (by decide))))
                    have r124 : 0 ≤ (m121 a0 8) ∧ (m121 a0 8) ≤ 6 := zi_rd hIm121 hc0 zb_28_8
                    have e125 : (m121 a0 8) = (m110 a0 8) := (zs_ne hmm121 (Or.inl (zc_ne hc0 zq_194 (by decide))))
                    have r126 : (-2147483648) ≤ (m121 a0 4) ∧ (m121 a0 4) ≤ 2147483647 := zi_rd hIm121 hc0 zb_28_4
                    have e127 : (m121 a0 4) = (m0 a0 4) := (Eq.trans (zs_ne hmm121 (Or.inl (zc_ne hc0 zq_194 (by decide)))) (Eq.trans (zfr_ap hfm110 hc0 rfl) (Eq.trans (zs_ne hmm109 (Or.inr (by decide))) (Eq.trans (zfr_ap hfm85 hc0 rfl) (zs_ne hmm84 (Or.inl (zc_ne hc0 zq_193 (by decide))))))))
                    exact zw_some ⟨hIm121, hFm121, hRLRm121, hRNSm121, hRTRm121, hRWDm121, ⟨by decide, by decide⟩, by omega, fun _ => by omega, fun _ => by omega⟩
                  · exfalso; omega
                · exfalso; omega
          · refine zw_bd (zw_eq (zu_call_at (zt_T n) (zm_85 n) (zdp_85 n) _ _ _ _ _ rfl (zr_85_0 n _ _ a0 1 m85)) ?_)
            generalize hmm128 : zu_up m85 a0 4 1 = m128
            have hIm128 := zi_up hmm128 hIm85 hc0 zb_28_4 (by omega) (by omega)
            have hFm128 := zfr_up hmm128 hFm85 hc0 rfl
            have hRNSm128 := zR_NS_fr (zdis_fr (zfr_up hmm128 (zfr_rf [(28, 5)] _) hc0 rfl) rfl) hRNSm85
            have hRTRm128 := zR_TR_fr (zdis_fr (zfr_up hmm128 (zfr_rf [(28, 5)] _) hc0 rfl) rfl) hRTRm85
            have hRWDm128 := zR_WD_fr (zdis_fr (zfr_up hmm128 (zfr_rf [(28, 5)] _) hc0 rfl) rfl) hRWDm85
            have hRLRm128 := zLR_wr (zone_190 hc0) hmm128 (by decide)
            have r129 : 0 ≤ (m128 a0 10) ∧ (m128 a0 10) ≤ 700 := zi_rd hIm128 hc0 zb_28_10
            generalize hmm130 : zu_up m128 a0 5 (m128 a0 10) = m130
            have hIm130 := zi_up hmm130 hIm128 hc0 zb_28_5 (by omega) (by omega)
            have hFm130 := zfr_up hmm130 hFm128 hc0 rfl
            have hRLRm130 := zR_LR_fr (zdis_fr (zfr_up hmm130 (zfr_rf [(28, 6)] _) hc0 rfl) rfl) hRLRm128
            have hRNSm130 := zR_NS_fr (zdis_fr (zfr_up hmm130 (zfr_rf [(28, 6)] _) hc0 rfl) rfl) hRNSm128
            have hRTRm130 := zR_TR_fr (zdis_fr (zfr_up hmm130 (zfr_rf [(28, 6)] _) hc0 rfl) rfl) hRTRm128
            have hRWDm130 := zR_WD_fr (zdis_fr (zfr_up hmm130 (zfr_rf [(28, 6)] _) hc0 rfl) rfl) hRWDm128
            refine zw_b (by omega) ?_
            refine zw_some ?_
            refine zw_b (by omega) ?_
            refine zw_some ?_
            refine zw_ite (fun h131 => ?_) (fun h131 => ?_)
            · exfalso; omega
            · refine zw_b (by omega) ?_
              have r132 : 0 ≤ (m130 a0 7) ∧ (m130 a0 7) ≤ 700 := zi_rd hIm130 hc0 zb_28_7
              have e133 : (m130 a0 7) = (m85 a0 7) := (Eq.trans (zs_ne hmm130 (Or.inr (by decide))) (zs_ne hmm128 (Or.inr (by decide))))
              have r134 : 0 ≤ (m130 a0 8) ∧ (m130 a0 8) ≤ 6 := zi_rd hIm130 hc0 zb_28_8
              have e135 : (m130 a0 8) = (m85 a0 8) := (Eq.trans (zs_ne hmm130 (Or.inr (by decide))) (zs_ne hmm128 (Or.inr (by decide))))
              have r136 : (-2147483648) ≤ (m130 a0 4) ∧ (m130 a0 4) ≤ 2147483647 := zi_rd hIm130 hc0 zb_28_4
              have e137 : (m130 a0 4) = 1 := (Eq.trans (zs_ne hmm130 (Or.inr (by decide))) (zs_eq hmm128))
              exact zw_some ⟨hIm130, hFm130, hRLRm130, hRNSm130, hRTRm130, hRWDm130, ⟨by decide, by decide⟩, by omega, fun h => absurd h (by decide), fun h => absurd h (by decide)⟩
      · refine zw_bd (zw_eq (zu_call_at (zt_T n) (zm_85 n) (zdp_85 n) _ _ _ _ _ rfl (zr_85_0 n _ _ a0 3 m0)) ?_)
        generalize hmm138 : zu_up m0 a0 4 3 = m138
        have hIm138 := zi_up hmm138 hIm0 hc0 zb_28_4 (by omega) (by omega)
        have hFm138 := zfr_up hmm138 hFm0 hc0 rfl
        have hRNSm138 := zR_NS_fr (zdis_fr (zfr_up hmm138 (zfr_rf [(28, 5)] _) hc0 rfl) rfl) hRNSm0
        have hRTRm138 := zR_TR_fr (zdis_fr (zfr_up hmm138 (zfr_rf [(28, 5)] _) hc0 rfl) rfl) hRTRm0
        have hRWDm138 := zR_WD_fr (zdis_fr (zfr_up hmm138 (zfr_rf [(28, 5)] _) hc0 rfl) rfl) hRWDm0
        have hRLRm138 := zLR_wr (zone_190 hc0) hmm138 (by decide)
        have r139 : 0 ≤ (m138 a0 10) ∧ (m138 a0 10) ≤ 700 := zi_rd hIm138 hc0 zb_28_10
        generalize hmm140 : zu_up m138 a0 5 (m138 a0 10) = m140
        have hIm140 := zi_up hmm140 hIm138 hc0 zb_28_5 (by omega) (by omega)
        have hFm140 := zfr_up hmm140 hFm138 hc0 rfl
        have hRLRm140 := zR_LR_fr (zdis_fr (zfr_up hmm140 (zfr_rf [(28, 6)] _) hc0 rfl) rfl) hRLRm138
        have hRNSm140 := zR_NS_fr (zdis_fr (zfr_up hmm140 (zfr_rf [(28, 6)] _) hc0 rfl) rfl) hRNSm138
        have hRTRm140 := zR_TR_fr (zdis_fr (zfr_up hmm140 (zfr_rf [(28, 6)] _) hc0 rfl) rfl) hRTRm138
        have hRWDm140 := zR_WD_fr (zdis_fr (zfr_up hmm140 (zfr_rf [(28, 6)] _) hc0 rfl) rfl) hRWDm138
        refine zw_b (by omega) ?_
        refine zw_some ?_
        refine zw_b (by omega) ?_
        refine zw_some ?_
        refine zw_ite (fun h141 => ?_) (fun h141 => ?_)
        · refine zw_b (by omega) ?_
          have r142 : 0 ≤ (m140 a0 7) ∧ (m140 a0 7) ≤ 700 := zi_rd hIm140 hc0 zb_28_7
          have e143 : (m140 a0 7) = (m0 a0 7) := (Eq.trans (zs_ne hmm140 (Or.inr (by decide))) (zs_ne hmm138 (Or.inr (by decide))))
          have r144 : 0 ≤ (m140 a0 8) ∧ (m140 a0 8) ≤ 6 := zi_rd hIm140 hc0 zb_28_8
          have r145 : (-2147483648) ≤ (m140 a0 4) ∧ (m140 a0 4) ≤ 2147483647 := zi_rd hIm140 hc0 zb_28_4
          have e146 : (m140 a0 4) = 3 := (Eq.trans (zs_ne hmm140 (Or.inr (by decide))) (zs_eq hmm138))
          exact zw_some ⟨hIm140, hFm140, hRLRm140, hRNSm140, hRTRm140, hRWDm140, ⟨by decide, by decide⟩, by omega, fun h => absurd h (by decide), fun h => absurd h (by decide)⟩
        · exfalso; omega
    · refine zw_ite (fun h147 => ?_) (fun h147 => ?_)
      · refine zw_bd (zw_eq (zu_call_at (zt_T n) (zm_98 n) (zdp_98 n) _ _ _ _ _ rfl (zr_98_0 n _ _ a0 3 m0)) ?_)
        have b148 : 0 ≤ (3 : Int) ∧ (3 : Int) < 6 := by omega
        refine zw_if b148 ?_
        have r149 : 0 ≤ (m0 193 3) ∧ (m0 193 3) ≤ 1 := zi_rd hIm0 zq_193 (zb_102 _)
        refine zw_ite (fun h150 => ?_) (fun h150 => ?_)
        · refine zw_b (by omega) ?_
          have b151 : 0 ≤ (3 : Int) ∧ (3 : Int) < 6 := by omega
          refine zw_if b151 ?_
          generalize hmm152 : zu_up m0 193 3 1 = m152
          have hIm152 := zi_up hmm152 hIm0 zq_193 (zb_102 _) (by omega) (by omega)
          have hFm152 := zfr_up hmm152 hFm0 zq_193 rfl
          have hRLRm152 := zR_LR_fr (zdis_fr (zfr_up hmm152 (zfr_rf [(102, 0)] _) zq_193 rfl) rfl) hRLRm0
          have hRNSm152 := zR_NS_fr (zdis_fr (zfr_up hmm152 (zfr_rf [(102, 0)] _) zq_193 rfl) rfl) hRNSm0
          have hRTRm152 := zR_TR_fr (zdis_fr (zfr_up hmm152 (zfr_rf [(102, 0)] _) zq_193 rfl) rfl) hRTRm0
          have hRWDm152 := zR_WD_fr (zdis_fr (zfr_up hmm152 (zfr_rf [(102, 0)] _) zq_193 rfl) rfl) hRWDm0
          have r155 : 0 ≤ (m152 a0 7) ∧ (m152 a0 7) ≤ 700 := zi_rd hIm152 hc0 zb_28_7
          have e156 : (m152 a0 7) = (m0 a0 7) := (zs_ne hmm152 (Or.inl (zc_ne hc0 zq_193 (by decide))))
          refine zw_bd (zw_mono (zk_89 n hIm152 hc0 hRNSm152 hRWDm152) (fun v154 m153 hqm153 => ?_))
          obtain ⟨hIm153, hfm153, hvm153⟩ := hqm153
          have hFm153 := zfr_tr hFm152 hfm153 rfl
          obtain ⟨hRNSm153, hRTRm153, hRWDm153, hvm153⟩ := hvm153
          have hRLRm153 := zR_LR_fr (zdis_fr hfm153 rfl) hRLRm152
          have s157 := hRNSm153 a0 hc0
          have r158 : 0 ≤ (m153 a0 7) ∧ (m153 a0 7) ≤ 700 := zi_rd hIm153 hc0 zb_28_7
          have r159 : 0 ≤ (m153 a0 8) ∧ (m153 a0 8) ≤ 6 := zi_rd hIm153 hc0 zb_28_8
          refine zw_b (by omega) ?_
          refine zw_some ?_
          refine zw_ite (fun h160 => ?_) (fun h160 => ?_)
          · exfalso; omega
          · refine zw_bd (zw_eq (zu_call_at (zt_T n) (zm_94 n) (zdp_94 n) _ _ _ _ _ rfl (zr_94_0 n _ _ a0 1 99 m153)) ?_)
            refine zw_ite (fun h161 => ?_) (fun h161 => ?_)
            · have s162 := (hRTRm153 a0 hc0).2.2 (by omega)
              refine zw_bd (zw_eq (zu_call_at (zt_T n) (zm_83 n) (zdp_83 n) _ _ _ _ _ rfl (zr_83_0 n _ _ (m153 a0 9) 1 99 m153)) ?_)
              refine zw_ite (fun h163 => ?_) (fun h163 => ?_)
              · refine zw_b (by omega) ?_
                refine zw_some ?_
                refine zw_ite (fun h164 => ?_) (fun h164 => ?_)
                · exfalso; omega
                · refine zw_bd (zw_eq (zu_call_at (zt_T n) (zm_85 n) (zdp_85 n) _ _ _ _ _ rfl (zr_85_0 n _ _ a0 2 m153)) ?_)
                  generalize hmm165 : zu_up m153 a0 4 2 = m165
                  have hIm165 := zi_up hmm165 hIm153 hc0 zb_28_4 (by omega) (by omega)
                  have hFm165 := zfr_up hmm165 hFm153 hc0 rfl
                  have hRNSm165 := zR_NS_fr (zdis_fr (zfr_up hmm165 (zfr_rf [(28, 5)] _) hc0 rfl) rfl) hRNSm153
                  have hRTRm165 := zR_TR_fr (zdis_fr (zfr_up hmm165 (zfr_rf [(28, 5)] _) hc0 rfl) rfl) hRTRm153
                  have hRWDm165 := zR_WD_fr (zdis_fr (zfr_up hmm165 (zfr_rf [(28, 5)] _) hc0 rfl) rfl) hRWDm153
                  have hRLRm165 := zLR_wr (zone_190 hc0) hmm165 (by decide)
                  have r166 : 0 ≤ (m165 a0 10) ∧ (m165 a0 10) ≤ 700 := zi_rd hIm165 hc0 zb_28_10
                  generalize hmm167 : zu_up m165 a0 5 (m165 a0 10) = m167
                  have hIm167 := zi_up hmm167 hIm165 hc0 zb_28_5 (by omega) (by omega)
                  have hFm167 := zfr_up hmm167 hFm165 hc0 rfl
                  have hRLRm167 := zR_LR_fr (zdis_fr (zfr_up hmm167 (zfr_rf [(28, 6)] _) hc0 rfl) rfl) hRLRm165
                  have hRNSm167 := zR_NS_fr (zdis_fr (zfr_up hmm167 (zfr_rf [(28, 6)] _) hc0 rfl) rfl) hRNSm165
                  have hRTRm167 := zR_TR_fr (zdis_fr (zfr_up hmm167 (zfr_rf [(28, 6)] _) hc0 rfl) rfl) hRTRm165
                  have hRWDm167 := zR_WD_fr (zdis_fr (zfr_up hmm167 (zfr_rf [(28, 6)] _) hc0 rfl) rfl) hRWDm165
                  refine zw_b (by omega) ?_
                  refine zw_some ?_
                  refine zw_b (by omega) ?_
                  refine zw_some ?_
                  refine zw_ite (fun h168 => ?_) (fun h168 => ?_)
                  · exfalso; omega
                  · refine zw_b (by omega) ?_
                    have r169 : 0 ≤ (m167 a0 7) ∧ (m167 a0 7) ≤ 700 := zi_rd hIm167 hc0 zb_28_7
                    have e170 : (m167 a0 7) = (m153 a0 7) := (Eq.trans (zs_ne hmm167 (Or.inr (by decide))) (zs_ne hmm165 (Or.inr (by decide))))
                    have r171 : 0 ≤ (m167 a0 8) ∧ (m167 a0 8) ≤ 6 := zi_rd hIm167 hc0 zb_28_8
                    have e172 : (m167 a0 8) = (m153 a0 8) := (Eq.trans (zs_ne hmm167 (Or.inr (by decide))) (zs_ne hmm165 (Or.inr (by decide))))
                    have r173 : (-2147483648) ≤ (m167 a0 4) ∧ (m167 a0 4) ≤ 2147483647 := zi_rd hIm167 hc0 zb_28_4
                    have e174 : (m167 a0 4) = 2 := (Eq.trans (zs_ne hmm167 (Or.inr (by decide))) (zs_eq hmm165))
                    exact zw_some ⟨hIm167, hFm167, hRLRm167, hRNSm167, hRTRm167, hRWDm167, ⟨by decide, by decide⟩, by omega, fun h => absurd h (by decide), fun h => absurd h (by decide)⟩
              · refine zw_ite (fun h175 => ?_) (fun h175 => ?_)
                · refine zw_b (by omega) ?_
                  refine zw_some ?_
                  refine zw_ite (fun h176 => ?_) (fun h176 => ?_)
                  · exfalso; omega
                  · refine zw_bd (zw_eq (zu_call_at (zt_T n) (zm_85 n) (zdp_85 n) _ _ _ _ _ rfl (zr_85_0 n _ _ a0 2 m153)) ?_)
                    generalize hmm177 : zu_up m153 a0 4 2 = m177
                    have hIm177 := zi_up hmm177 hIm153 hc0 zb_28_4 (by omega) (by omega)
                    have hFm177 := zfr_up hmm177 hFm153 hc0 rfl
                    have hRNSm177 := zR_NS_fr (zdis_fr (zfr_up hmm177 (zfr_rf [(28, 5)] _) hc0 rfl) rfl) hRNSm153
                    have hRTRm177 := zR_TR_fr (zdis_fr (zfr_up hmm177 (zfr_rf [(28, 5)] _) hc0 rfl) rfl) hRTRm153
                    have hRWDm177 := zR_WD_fr (zdis_fr (zfr_up hmm177 (zfr_rf [(28, 5)] _) hc0 rfl) rfl) hRWDm153
                    have hRLRm177 := zLR_wr (zone_190 hc0) hmm177 (by decide)
                    have r178 : 0 ≤ (m177 a0 10) ∧ (m177 a0 10) ≤ 700 := zi_rd hIm177 hc0 zb_28_10
                    generalize hmm179 : zu_up m177 a0 5 (m177 a0 10) = m179
                    have hIm179 := zi_up hmm179 hIm177 hc0 zb_28_5 (by omega) (by omega)
                    have hFm179 := zfr_up hmm179 hFm177 hc0 rfl
                    have hRLRm179 := zR_LR_fr (zdis_fr (zfr_up hmm179 (zfr_rf [(28, 6)] _) hc0 rfl) rfl) hRLRm177
                    have hRNSm179 := zR_NS_fr (zdis_fr (zfr_up hmm179 (zfr_rf [(28, 6)] _) hc0 rfl) rfl) hRNSm177
                    have hRTRm179 := zR_TR_fr (zdis_fr (zfr_up hmm179 (zfr_rf [(28, 6)] _) hc0 rfl) rfl) hRTRm177
                    have hRWDm179 := zR_WD_fr (zdis_fr (zfr_up hmm179 (zfr_rf [(28, 6)] _) hc0 rfl) rfl) hRWDm177
                    refine zw_b (by omega) ?_
                    refine zw_some ?_
                    refine zw_b (by omega) ?_
                    refine zw_some ?_
                    refine zw_ite (fun h180 => ?_) (fun h180 => ?_)
                    · exfalso; omega
                    · refine zw_b (by omega) ?_
                      have r181 : 0 ≤ (m179 a0 7) ∧ (m179 a0 7) ≤ 700 := zi_rd hIm179 hc0 zb_28_7
                      have e182 : (m179 a0 7) = (m153 a0 7) := (Eq.trans (zs_ne hmm179 (Or.inr (by decide))) (zs_ne hmm177 (Or.inr (by decide))))
                      have r183 : 0 ≤ (m179 a0 8) ∧ (m179 a0 8) ≤ 6 := zi_rd hIm179 hc0 zb_28_8
                      have e184 : (m179 a0 8) = (m153 a0 8) := (Eq.trans (zs_ne hmm179 (Or.inr (by decide))) (zs_ne hmm177 (Or.inr (by decide))))
                      have r185 : (-2147483648) ≤ (m179 a0 4) ∧ (m179 a0 4) ≤ 2147483647 := zi_rd hIm179 hc0 zb_28_4
                      have e186 : (m179 a0 4) = 2 := (Eq.trans (zs_ne hmm179 (Or.inr (by decide))) (zs_eq hmm177))
                      exact zw_some ⟨hIm179, hFm179, hRLRm179, hRNSm179, hRTRm179, hRWDm179, ⟨by decide, by decide⟩, by omega, fun h => absurd h (by decide), fun h => absurd h (by decide)⟩
                · refine zw_b (by omega) ?_
                  refine zw_some ?_
                  refine zw_ite (fun h187 => ?_) (fun h187 => ?_)
                  · generalize hmm188 : zu_up m153 a0 11 (m153 a0 9) = m188
                    have hIm188 := zi_up hmm188 hIm153 hc0 zb_28_11 (by omega) (by omega)
                    have hFm188 := zfr_up hmm188 hFm153 hc0 rfl
                    have hRLRm188 := zR_LR_fr (zdis_fr (zfr_up hmm188 (zfr_rf [(28, 12)] _) hc0 rfl) rfl) hRLRm153
                    have hRNSm188 := zR_NS_fr (zdis_fr (zfr_up hmm188 (zfr_rf [(28, 12)] _) hc0 rfl) rfl) hRNSm153
                    have hRTRm188 := zR_TR_fr (zdis_fr (zfr_up hmm188 (zfr_rf [(28, 12)] _) hc0 rfl) rfl) hRTRm153
                    have hRWDm188 := zR_WD_fr (zdis_fr (zfr_up hmm188 (zfr_rf [(28, 12)] _) hc0 rfl) rfl) hRWDm153
                    have r191 : 0 ≤ (m188 a0 7) ∧ (m188 a0 7) ≤ 700 := zi_rd hIm188 hc0 zb_28_7
                    have e192 : (m188 a0 7) = (m153 a0 7) := (zs_ne hmm188 (Or.inr (by decide)))
                    refine zw_bd (zw_mono (zk_89 n hIm188 hc0 hRNSm188 hRWDm188) (fun v190 m189 hqm189 => ?_))
                    obtain ⟨hIm189, hfm189, hvm189⟩ := hqm189
                    have hFm189 := zfr_tr hFm188 hfm189 rfl
                    obtain ⟨hRNSm189, hRTRm189, hRWDm189, hvm189⟩ := hvm189
                    have hRLRm189 := zR_LR_fr (zdis_fr hfm189 rfl) hRLRm188
                    have s193 := hRNSm189 a0 hc0
                    have r194 : 0 ≤ (m189 a0 7) ∧ (m189 a0 7) ≤ 700 := zi_rd hIm189 hc0 zb_28_7
                    have r195 : 0 ≤ (m189 a0 8) ∧ (m189 a0 8) ≤ 6 := zi_rd hIm189 hc0 zb_28_8
                    refine zw_b (by omega) ?_
                    refine zw_some ?_
                    refine zw_ite (fun h196 => ?_) (fun h196 => ?_)
                    · have r197 : (-2147483648) ≤ (m189 a0 11) ∧ (m189 a0 11) ≤ 2147483647 := zi_rd hIm189 hc0 zb_28_11
                      have e198 : (m189 a0 11) = (m153 a0 9) := (Eq.trans (zfr_ap hfm189 hc0 rfl) (zs_eq hmm188))
                      have b199 : 0 ≤ (7 : Int) ∧ (7 : Int) < 10 := by omega
                      refine zw_if b199 ?_
                      generalize hmm200 : zu_up m189 194 7 (m189 a0 11) = m200
                      have hIm200 := zi_up hmm200 hIm189 zq_194 (zb_103 _) (by omega) (by omega)
                      have hFm200 := zfr_up hmm200 hFm189 zq_194 rfl
                      have hRLRm200 := zR_LR_fr (zdis_fr (zfr_up hmm200 (zfr_rf [(103, 0)] _) zq_194 rfl) rfl) hRLRm189
                      have hRNSm200 := zR_NS_fr (zdis_fr (zfr_up hmm200 (zfr_rf [(103, 0)] _) zq_194 rfl) rfl) hRNSm189
                      have hRTRm200 := zR_TR_fr (zdis_fr (zfr_up hmm200 (zfr_rf [(103, 0)] _) zq_194 rfl) rfl) hRTRm189
                      have hRWDm200 := zR_WD_fr (zdis_fr (zfr_up hmm200 (zfr_rf [(103, 0)] _) zq_194 rfl) rfl) hRWDm189
                      refine zw_b (by omega) ?_
                      have r201 : 0 ≤ (m200 a0 7) ∧ (m200 a0 7) ≤ 700 := zi_rd hIm200 hc0 zb_28_7
                      have e202 : (m200 a0 7) = (m189 a0 7) := (zs_ne hmm200 (Or.inl (zc_ne hc0 zq_194 (by decide))))
                      have r203 : 0 ≤ (m200 a0 8) ∧ (m200 a0 8) ≤ 6 := zi_rd hIm200 hc0 zb_28_8
                      have e204 : (m200 a0 8) = (m189 a0 8) := (zs_ne hmm200 (Or.inl (zc_ne hc0 zq_194 (by decide))))
                      have r205 : (-2147483648) ≤ (m200 a0 4) ∧ (m200 a0 4) ≤ 2147483647 := zi_rd hIm200 hc0 zb_28_4
                      have e206 : (m200 a0 4) = (m0 a0 4) := (Eq.trans (zs_ne hmm200 (Or.inl (zc_ne hc0 zq_194 (by decide)))) (Eq.trans (zfr_ap hfm189 hc0 rfl) (Eq.trans (zs_ne hmm188 (Or.inr (by decide))) (Eq.trans (zfr_ap hfm153 hc0 rfl) (zs_ne hmm152 (Or.inl (zc_ne hc0 zq_193 (by decide))))))))
                      exact zw_some ⟨hIm200, hFm200, hRLRm200, hRNSm200, hRTRm200, hRWDm200, ⟨by decide, by decide⟩, by omega, fun _ => by omega, fun _ => by omega⟩
                    · exfalso; omega
                  · exfalso; omega
            · refine zw_bd (zw_eq (zu_call_at (zt_T n) (zm_85 n) (zdp_85 n) _ _ _ _ _ rfl (zr_85_0 n _ _ a0 1 m153)) ?_)
              generalize hmm207 : zu_up m153 a0 4 1 = m207
              have hIm207 := zi_up hmm207 hIm153 hc0 zb_28_4 (by omega) (by omega)
              have hFm207 := zfr_up hmm207 hFm153 hc0 rfl
              have hRNSm207 := zR_NS_fr (zdis_fr (zfr_up hmm207 (zfr_rf [(28, 5)] _) hc0 rfl) rfl) hRNSm153
              have hRTRm207 := zR_TR_fr (zdis_fr (zfr_up hmm207 (zfr_rf [(28, 5)] _) hc0 rfl) rfl) hRTRm153
              have hRWDm207 := zR_WD_fr (zdis_fr (zfr_up hmm207 (zfr_rf [(28, 5)] _) hc0 rfl) rfl) hRWDm153
              have hRLRm207 := zLR_wr (zone_190 hc0) hmm207 (by decide)
              have r208 : 0 ≤ (m207 a0 10) ∧ (m207 a0 10) ≤ 700 := zi_rd hIm207 hc0 zb_28_10
              generalize hmm209 : zu_up m207 a0 5 (m207 a0 10) = m209
              have hIm209 := zi_up hmm209 hIm207 hc0 zb_28_5 (by omega) (by omega)
              have hFm209 := zfr_up hmm209 hFm207 hc0 rfl
              have hRLRm209 := zR_LR_fr (zdis_fr (zfr_up hmm209 (zfr_rf [(28, 6)] _) hc0 rfl) rfl) hRLRm207
              have hRNSm209 := zR_NS_fr (zdis_fr (zfr_up hmm209 (zfr_rf [(28, 6)] _) hc0 rfl) rfl) hRNSm207
              have hRTRm209 := zR_TR_fr (zdis_fr (zfr_up hmm209 (zfr_rf [(28, 6)] _) hc0 rfl) rfl) hRTRm207
              have hRWDm209 := zR_WD_fr (zdis_fr (zfr_up hmm209 (zfr_rf [(28, 6)] _) hc0 rfl) rfl) hRWDm207
              refine zw_b (by omega) ?_
              refine zw_some ?_
              refine zw_b (by omega) ?_
              refine zw_some ?_
              refine zw_ite (fun h210 => ?_) (fun h210 => ?_)
              · exfalso; omega
              · refine zw_b (by omega) ?_
                have r211 : 0 ≤ (m209 a0 7) ∧ (m209 a0 7) ≤ 700 := zi_rd hIm209 hc0 zb_28_7
                have e212 : (m209 a0 7) = (m153 a0 7) := (Eq.trans (zs_ne hmm209 (Or.inr (by decide))) (zs_ne hmm207 (Or.inr (by decide))))
                have r213 : 0 ≤ (m209 a0 8) ∧ (m209 a0 8) ≤ 6 := zi_rd hIm209 hc0 zb_28_8
                have e214 : (m209 a0 8) = (m153 a0 8) := (Eq.trans (zs_ne hmm209 (Or.inr (by decide))) (zs_ne hmm207 (Or.inr (by decide))))
                have r215 : (-2147483648) ≤ (m209 a0 4) ∧ (m209 a0 4) ≤ 2147483647 := zi_rd hIm209 hc0 zb_28_4
                have e216 : (m209 a0 4) = 1 := (Eq.trans (zs_ne hmm209 (Or.inr (by decide))) (zs_eq hmm207))
                exact zw_some ⟨hIm209, hFm209, hRLRm209, hRNSm209, hRTRm209, hRWDm209, ⟨by decide, by decide⟩, by omega, fun h => absurd h (by decide), fun h => absurd h (by decide)⟩
        · refine zw_bd (zw_eq (zu_call_at (zt_T n) (zm_85 n) (zdp_85 n) _ _ _ _ _ rfl (zr_85_0 n _ _ a0 3 m0)) ?_)
          generalize hmm217 : zu_up m0 a0 4 3 = m217
          have hIm217 := zi_up hmm217 hIm0 hc0 zb_28_4 (by omega) (by omega)
          have hFm217 := zfr_up hmm217 hFm0 hc0 rfl
          have hRNSm217 := zR_NS_fr (zdis_fr (zfr_up hmm217 (zfr_rf [(28, 5)] _) hc0 rfl) rfl) hRNSm0
          have hRTRm217 := zR_TR_fr (zdis_fr (zfr_up hmm217 (zfr_rf [(28, 5)] _) hc0 rfl) rfl) hRTRm0
          have hRWDm217 := zR_WD_fr (zdis_fr (zfr_up hmm217 (zfr_rf [(28, 5)] _) hc0 rfl) rfl) hRWDm0
          have hRLRm217 := zLR_wr (zone_190 hc0) hmm217 (by decide)
          have r218 : 0 ≤ (m217 a0 10) ∧ (m217 a0 10) ≤ 700 := zi_rd hIm217 hc0 zb_28_10
          generalize hmm219 : zu_up m217 a0 5 (m217 a0 10) = m219
          have hIm219 := zi_up hmm219 hIm217 hc0 zb_28_5 (by omega) (by omega)
          have hFm219 := zfr_up hmm219 hFm217 hc0 rfl
          have hRLRm219 := zR_LR_fr (zdis_fr (zfr_up hmm219 (zfr_rf [(28, 6)] _) hc0 rfl) rfl) hRLRm217
          have hRNSm219 := zR_NS_fr (zdis_fr (zfr_up hmm219 (zfr_rf [(28, 6)] _) hc0 rfl) rfl) hRNSm217
          have hRTRm219 := zR_TR_fr (zdis_fr (zfr_up hmm219 (zfr_rf [(28, 6)] _) hc0 rfl) rfl) hRTRm217
          have hRWDm219 := zR_WD_fr (zdis_fr (zfr_up hmm219 (zfr_rf [(28, 6)] _) hc0 rfl) rfl) hRWDm217
          refine zw_b (by omega) ?_
          refine zw_some ?_
          refine zw_b (by omega) ?_
          refine zw_some ?_
          refine zw_ite (fun h220 => ?_) (fun h220 => ?_)
          · refine zw_b (by omega) ?_
            have r221 : 0 ≤ (m219 a0 7) ∧ (m219 a0 7) ≤ 700 := zi_rd hIm219 hc0 zb_28_7
            have e222 : (m219 a0 7) = (m0 a0 7) := (Eq.trans (zs_ne hmm219 (Or.inr (by decide))) (zs_ne hmm217 (Or.inr (by decide))))
            have r223 : 0 ≤ (m219 a0 8) ∧ (m219 a0 8) ≤ 6 := zi_rd hIm219 hc0 zb_28_8
            have r224 : (-2147483648) ≤ (m219 a0 4) ∧ (m219 a0 4) ≤ 2147483647 := zi_rd hIm219 hc0 zb_28_4
            have e225 : (m219 a0 4) = 3 := (Eq.trans (zs_ne hmm219 (Or.inr (by decide))) (zs_eq hmm217))
            exact zw_some ⟨hIm219, hFm219, hRLRm219, hRNSm219, hRTRm219, hRWDm219, ⟨by decide, by decide⟩, by omega, fun h => absurd h (by decide), fun h => absurd h (by decide)⟩
          · exfalso; omega
      · refine zw_ite (fun h226 => ?_) (fun h226 => ?_)
        · refine zw_bd (zw_eq (zu_call_at (zt_T n) (zm_98 n) (zdp_98 n) _ _ _ _ _ rfl (zr_98_0 n _ _ a0 4 m0)) ?_)
          have b227 : 0 ≤ (4 : Int) ∧ (4 : Int) < 6 := by omega
          refine zw_if b227 ?_
          have r228 : 0 ≤ (m0 193 4) ∧ (m0 193 4) ≤ 1 := zi_rd hIm0 zq_193 (zb_102 _)
          refine zw_ite (fun h229 => ?_) (fun h229 => ?_)
          · refine zw_b (by omega) ?_
            have b230 : 0 ≤ (4 : Int) ∧ (4 : Int) < 6 := by omega
            refine zw_if b230 ?_
            generalize hmm231 : zu_up m0 193 4 1 = m231
            have hIm231 := zi_up hmm231 hIm0 zq_193 (zb_102 _) (by omega) (by omega)
            have hFm231 := zfr_up hmm231 hFm0 zq_193 rfl
            have hRLRm231 := zR_LR_fr (zdis_fr (zfr_up hmm231 (zfr_rf [(102, 0)] _) zq_193 rfl) rfl) hRLRm0
            have hRNSm231 := zR_NS_fr (zdis_fr (zfr_up hmm231 (zfr_rf [(102, 0)] _) zq_193 rfl) rfl) hRNSm0
            have hRTRm231 := zR_TR_fr (zdis_fr (zfr_up hmm231 (zfr_rf [(102, 0)] _) zq_193 rfl) rfl) hRTRm0
            have hRWDm231 := zR_WD_fr (zdis_fr (zfr_up hmm231 (zfr_rf [(102, 0)] _) zq_193 rfl) rfl) hRWDm0
            have r234 : 0 ≤ (m231 a0 7) ∧ (m231 a0 7) ≤ 700 := zi_rd hIm231 hc0 zb_28_7
            have e235 : (m231 a0 7) = (m0 a0 7) := (zs_ne hmm231 (Or.inl (zc_ne hc0 zq_193 (by decide))))
            refine zw_bd (zw_mono (zk_89 n hIm231 hc0 hRNSm231 hRWDm231) (fun v233 m232 hqm232 => ?_))
            obtain ⟨hIm232, hfm232, hvm232⟩ := hqm232
            have hFm232 := zfr_tr hFm231 hfm232 rfl
            obtain ⟨hRNSm232, hRTRm232, hRWDm232, hvm232⟩ := hvm232
            have hRLRm232 := zR_LR_fr (zdis_fr hfm232 rfl) hRLRm231
            have s236 := hRNSm232 a0 hc0
            have r237 : 0 ≤ (m232 a0 7) ∧ (m232 a0 7) ≤ 700 := zi_rd hIm232 hc0 zb_28_7
            have r238 : 0 ≤ (m232 a0 8) ∧ (m232 a0 8) ≤ 6 := zi_rd hIm232 hc0 zb_28_8
            refine zw_b (by omega) ?_
            refine zw_some ?_
            refine zw_ite (fun h239 => ?_) (fun h239 => ?_)
            · exfalso; omega
            · refine zw_bd (zw_eq (zu_call_at (zt_T n) (zm_94 n) (zdp_94 n) _ _ _ _ _ rfl (zr_94_0 n _ _ a0 0 999 m232)) ?_)
              refine zw_ite (fun h240 => ?_) (fun h240 => ?_)
              · have s241 := (hRTRm232 a0 hc0).2.2 (by omega)
                refine zw_bd (zw_eq (zu_call_at (zt_T n) (zm_83 n) (zdp_83 n) _ _ _ _ _ rfl (zr_83_0 n _ _ (m232 a0 9) 0 999 m232)) ?_)
                refine zw_ite (fun h242 => ?_) (fun h242 => ?_)
                · exfalso; omega
                · refine zw_ite (fun h243 => ?_) (fun h243 => ?_)
                  · refine zw_b (by omega) ?_
                    refine zw_some ?_
                    refine zw_ite (fun h244 => ?_) (fun h244 => ?_)
                    · exfalso; omega
                    · refine zw_bd (zw_eq (zu_call_at (zt_T n) (zm_85 n) (zdp_85 n) _ _ _ _ _ rfl (zr_85_0 n _ _ a0 2 m232)) ?_)
                      generalize hmm245 : zu_up m232 a0 4 2 = m245
                      have hIm245 := zi_up hmm245 hIm232 hc0 zb_28_4 (by omega) (by omega)
                      have hFm245 := zfr_up hmm245 hFm232 hc0 rfl
                      have hRNSm245 := zR_NS_fr (zdis_fr (zfr_up hmm245 (zfr_rf [(28, 5)] _) hc0 rfl) rfl) hRNSm232
                      have hRTRm245 := zR_TR_fr (zdis_fr (zfr_up hmm245 (zfr_rf [(28, 5)] _) hc0 rfl) rfl) hRTRm232
                      have hRWDm245 := zR_WD_fr (zdis_fr (zfr_up hmm245 (zfr_rf [(28, 5)] _) hc0 rfl) rfl) hRWDm232
                      have hRLRm245 := zLR_wr (zone_190 hc0) hmm245 (by decide)
                      have r246 : 0 ≤ (m245 a0 10) ∧ (m245 a0 10) ≤ 700 := zi_rd hIm245 hc0 zb_28_10
                      generalize hmm247 : zu_up m245 a0 5 (m245 a0 10) = m247
                      have hIm247 := zi_up hmm247 hIm245 hc0 zb_28_5 (by omega) (by omega)
                      have hFm247 := zfr_up hmm247 hFm245 hc0 rfl
                      have hRLRm247 := zR_LR_fr (zdis_fr (zfr_up hmm247 (zfr_rf [(28, 6)] _) hc0 rfl) rfl) hRLRm245
                      have hRNSm247 := zR_NS_fr (zdis_fr (zfr_up hmm247 (zfr_rf [(28, 6)] _) hc0 rfl) rfl) hRNSm245
                      have hRTRm247 := zR_TR_fr (zdis_fr (zfr_up hmm247 (zfr_rf [(28, 6)] _) hc0 rfl) rfl) hRTRm245
                      have hRWDm247 := zR_WD_fr (zdis_fr (zfr_up hmm247 (zfr_rf [(28, 6)] _) hc0 rfl) rfl) hRWDm245
                      refine zw_b (by omega) ?_
                      refine zw_some ?_
                      refine zw_b (by omega) ?_
                      refine zw_some ?_
                      refine zw_ite (fun h248 => ?_) (fun h248 => ?_)
                      · exfalso; omega
                      · refine zw_b (by omega) ?_
                        have r249 : 0 ≤ (m247 a0 7) ∧ (m247 a0 7) ≤ 700 := zi_rd hIm247 hc0 zb_28_7
                        have e250 : (m247 a0 7) = (m232 a0 7) := (Eq.trans (zs_ne hmm247 (Or.inr (by decide))) (zs_ne hmm245 (Or.inr (by decide))))
                        have r251 : 0 ≤ (m247 a0 8) ∧ (m247 a0 8) ≤ 6 := zi_rd hIm247 hc0 zb_28_8
                        have e252 : (m247 a0 8) = (m232 a0 8) := (Eq.trans (zs_ne hmm247 (Or.inr (by decide))) (zs_ne hmm245 (Or.inr (by decide))))
                        have r253 : (-2147483648) ≤ (m247 a0 4) ∧ (m247 a0 4) ≤ 2147483647 := zi_rd hIm247 hc0 zb_28_4
                        have e254 : (m247 a0 4) = 2 := (Eq.trans (zs_ne hmm247 (Or.inr (by decide))) (zs_eq hmm245))
                        exact zw_some ⟨hIm247, hFm247, hRLRm247, hRNSm247, hRTRm247, hRWDm247, ⟨by decide, by decide⟩, by omega, fun h => absurd h (by decide), fun h => absurd h (by decide)⟩
                  · refine zw_b (by omega) ?_
                    refine zw_some ?_
                    refine zw_ite (fun h255 => ?_) (fun h255 => ?_)
                    · generalize hmm256 : zu_up m232 a0 11 (m232 a0 9) = m256
                      have hIm256 := zi_up hmm256 hIm232 hc0 zb_28_11 (by omega) (by omega)
                      have hFm256 := zfr_up hmm256 hFm232 hc0 rfl
                      have hRLRm256 := zR_LR_fr (zdis_fr (zfr_up hmm256 (zfr_rf [(28, 12)] _) hc0 rfl) rfl) hRLRm232
                      have hRNSm256 := zR_NS_fr (zdis_fr (zfr_up hmm256 (zfr_rf [(28, 12)] _) hc0 rfl) rfl) hRNSm232
                      have hRTRm256 := zR_TR_fr (zdis_fr (zfr_up hmm256 (zfr_rf [(28, 12)] _) hc0 rfl) rfl) hRTRm232
                      have hRWDm256 := zR_WD_fr (zdis_fr (zfr_up hmm256 (zfr_rf [(28, 12)] _) hc0 rfl) rfl) hRWDm232
                      have r259 : 0 ≤ (m256 a0 7) ∧ (m256 a0 7) ≤ 700 := zi_rd hIm256 hc0 zb_28_7
                      have e260 : (m256 a0 7) = (m232 a0 7) := (zs_ne hmm256 (Or.inr (by decide)))
                      refine zw_bd (zw_mono (zk_89 n hIm256 hc0 hRNSm256 hRWDm256) (fun v258 m257 hqm257 => ?_))
                      obtain ⟨hIm257, hfm257, hvm257⟩ := hqm257
                      have hFm257 := zfr_tr hFm256 hfm257 rfl
                      obtain ⟨hRNSm257, hRTRm257, hRWDm257, hvm257⟩ := hvm257
                      have hRLRm257 := zR_LR_fr (zdis_fr hfm257 rfl) hRLRm256
                      have s261 := hRNSm257 a0 hc0
                      have r262 : 0 ≤ (m257 a0 7) ∧ (m257 a0 7) ≤ 700 := zi_rd hIm257 hc0 zb_28_7
                      have r263 : 0 ≤ (m257 a0 8) ∧ (m257 a0 8) ≤ 6 := zi_rd hIm257 hc0 zb_28_8
                      refine zw_b (by omega) ?_
                      refine zw_some ?_
                      refine zw_ite (fun h264 => ?_) (fun h264 => ?_)
                      · have r265 : (-2147483648) ≤ (m257 a0 11) ∧ (m257 a0 11) ≤ 2147483647 := zi_rd hIm257 hc0 zb_28_11
                        have e266 : (m257 a0 11) = (m232 a0 9) := (Eq.trans (zfr_ap hfm257 hc0 rfl) (zs_eq hmm256))
                        have b267 : 0 ≤ (8 : Int) ∧ (8 : Int) < 10 := by omega
                        refine zw_if b267 ?_
                        generalize hmm268 : zu_up m257 194 8 (m257 a0 11) = m268
                        have hIm268 := zi_up hmm268 hIm257 zq_194 (zb_103 _) (by omega) (by omega)
                        have hFm268 := zfr_up hmm268 hFm257 zq_194 rfl
                        have hRLRm268 := zR_LR_fr (zdis_fr (zfr_up hmm268 (zfr_rf [(103, 0)] _) zq_194 rfl) rfl) hRLRm257
                        have hRNSm268 := zR_NS_fr (zdis_fr (zfr_up hmm268 (zfr_rf [(103, 0)] _) zq_194 rfl) rfl) hRNSm257
                        have hRTRm268 := zR_TR_fr (zdis_fr (zfr_up hmm268 (zfr_rf [(103, 0)] _) zq_194 rfl) rfl) hRTRm257
                        have hRWDm268 := zR_WD_fr (zdis_fr (zfr_up hmm268 (zfr_rf [(103, 0)] _) zq_194 rfl) rfl) hRWDm257
                        refine zw_b (by omega) ?_
                        have r269 : 0 ≤ (m268 a0 7) ∧ (m268 a0 7) ≤ 700 := zi_rd hIm268 hc0 zb_28_7
                        have e270 : (m268 a0 7) = (m257 a0 7) := (zs_ne hmm268 (Or.inl (zc_ne hc0 zq_194 (by decide))))
                        have r271 : 0 ≤ (m268 a0 8) ∧ (m268 a0 8) ≤ 6 := zi_rd hIm268 hc0 zb_28_8
                        have e272 : (m268 a0 8) = (m257 a0 8) := (zs_ne hmm268 (Or.inl (zc_ne hc0 zq_194 (by decide))))
                        have r273 : (-2147483648) ≤ (m268 a0 4) ∧ (m268 a0 4) ≤ 2147483647 := zi_rd hIm268 hc0 zb_28_4
                        have e274 : (m268 a0 4) = (m0 a0 4) := (Eq.trans (zs_ne hmm268 (Or.inl (zc_ne hc0 zq_194 (by decide)))) (Eq.trans (zfr_ap hfm257 hc0 rfl) (Eq.trans (zs_ne hmm256 (Or.inr (by decide))) (Eq.trans (zfr_ap hfm232 hc0 rfl) (zs_ne hmm231 (Or.inl (zc_ne hc0 zq_193 (by decide))))))))
                        exact zw_some ⟨hIm268, hFm268, hRLRm268, hRNSm268, hRTRm268, hRWDm268, ⟨by decide, by decide⟩, by omega, fun _ => by omega, fun _ => by omega⟩
                      · exfalso; omega
                    · exfalso; omega
              · refine zw_bd (zw_eq (zu_call_at (zt_T n) (zm_85 n) (zdp_85 n) _ _ _ _ _ rfl (zr_85_0 n _ _ a0 1 m232)) ?_)
                generalize hmm275 : zu_up m232 a0 4 1 = m275
                have hIm275 := zi_up hmm275 hIm232 hc0 zb_28_4 (by omega) (by omega)
                have hFm275 := zfr_up hmm275 hFm232 hc0 rfl
                have hRNSm275 := zR_NS_fr (zdis_fr (zfr_up hmm275 (zfr_rf [(28, 5)] _) hc0 rfl) rfl) hRNSm232
                have hRTRm275 := zR_TR_fr (zdis_fr (zfr_up hmm275 (zfr_rf [(28, 5)] _) hc0 rfl) rfl) hRTRm232
                have hRWDm275 := zR_WD_fr (zdis_fr (zfr_up hmm275 (zfr_rf [(28, 5)] _) hc0 rfl) rfl) hRWDm232
                have hRLRm275 := zLR_wr (zone_190 hc0) hmm275 (by decide)
                have r276 : 0 ≤ (m275 a0 10) ∧ (m275 a0 10) ≤ 700 := zi_rd hIm275 hc0 zb_28_10
                generalize hmm277 : zu_up m275 a0 5 (m275 a0 10) = m277
                have hIm277 := zi_up hmm277 hIm275 hc0 zb_28_5 (by omega) (by omega)
                have hFm277 := zfr_up hmm277 hFm275 hc0 rfl
                have hRLRm277 := zR_LR_fr (zdis_fr (zfr_up hmm277 (zfr_rf [(28, 6)] _) hc0 rfl) rfl) hRLRm275
                have hRNSm277 := zR_NS_fr (zdis_fr (zfr_up hmm277 (zfr_rf [(28, 6)] _) hc0 rfl) rfl) hRNSm275
                have hRTRm277 := zR_TR_fr (zdis_fr (zfr_up hmm277 (zfr_rf [(28, 6)] _) hc0 rfl) rfl) hRTRm275
                have hRWDm277 := zR_WD_fr (zdis_fr (zfr_up hmm277 (zfr_rf [(28, 6)] _) hc0 rfl) rfl) hRWDm275
                refine zw_b (by omega) ?_
                refine zw_some ?_
                refine zw_b (by omega) ?_
                refine zw_some ?_
                refine zw_ite (fun h278 => ?_) (fun h278 => ?_)
                · exfalso; omega
                · refine zw_b (by omega) ?_
                  have r279 : 0 ≤ (m277 a0 7) ∧ (m277 a0 7) ≤ 700 := zi_rd hIm277 hc0 zb_28_7
                  have e280 : (m277 a0 7) = (m232 a0 7) := (Eq.trans (zs_ne hmm277 (Or.inr (by decide))) (zs_ne hmm275 (Or.inr (by decide))))
                  have r281 : 0 ≤ (m277 a0 8) ∧ (m277 a0 8) ≤ 6 := zi_rd hIm277 hc0 zb_28_8
                  have e282 : (m277 a0 8) = (m232 a0 8) := (Eq.trans (zs_ne hmm277 (Or.inr (by decide))) (zs_ne hmm275 (Or.inr (by decide))))
                  have r283 : (-2147483648) ≤ (m277 a0 4) ∧ (m277 a0 4) ≤ 2147483647 := zi_rd hIm277 hc0 zb_28_4
                  have e284 : (m277 a0 4) = 1 := (Eq.trans (zs_ne hmm277 (Or.inr (by decide))) (zs_eq hmm275))
                  exact zw_some ⟨hIm277, hFm277, hRLRm277, hRNSm277, hRTRm277, hRWDm277, ⟨by decide, by decide⟩, by omega, fun h => absurd h (by decide), fun h => absurd h (by decide)⟩
          · refine zw_bd (zw_eq (zu_call_at (zt_T n) (zm_85 n) (zdp_85 n) _ _ _ _ _ rfl (zr_85_0 n _ _ a0 3 m0)) ?_)
            generalize hmm285 : zu_up m0 a0 4 3 = m285
            have hIm285 := zi_up hmm285 hIm0 hc0 zb_28_4 (by omega) (by omega)
            have hFm285 := zfr_up hmm285 hFm0 hc0 rfl
            have hRNSm285 := zR_NS_fr (zdis_fr (zfr_up hmm285 (zfr_rf [(28, 5)] _) hc0 rfl) rfl) hRNSm0
            have hRTRm285 := zR_TR_fr (zdis_fr (zfr_up hmm285 (zfr_rf [(28, 5)] _) hc0 rfl) rfl) hRTRm0
            have hRWDm285 := zR_WD_fr (zdis_fr (zfr_up hmm285 (zfr_rf [(28, 5)] _) hc0 rfl) rfl) hRWDm0
            have hRLRm285 := zLR_wr (zone_190 hc0) hmm285 (by decide)
            have r286 : 0 ≤ (m285 a0 10) ∧ (m285 a0 10) ≤ 700 := zi_rd hIm285 hc0 zb_28_10
            generalize hmm287 : zu_up m285 a0 5 (m285 a0 10) = m287
            have hIm287 := zi_up hmm287 hIm285 hc0 zb_28_5 (by omega) (by omega)
            have hFm287 := zfr_up hmm287 hFm285 hc0 rfl
            have hRLRm287 := zR_LR_fr (zdis_fr (zfr_up hmm287 (zfr_rf [(28, 6)] _) hc0 rfl) rfl) hRLRm285
            have hRNSm287 := zR_NS_fr (zdis_fr (zfr_up hmm287 (zfr_rf [(28, 6)] _) hc0 rfl) rfl) hRNSm285
            have hRTRm287 := zR_TR_fr (zdis_fr (zfr_up hmm287 (zfr_rf [(28, 6)] _) hc0 rfl) rfl) hRTRm285
            have hRWDm287 := zR_WD_fr (zdis_fr (zfr_up hmm287 (zfr_rf [(28, 6)] _) hc0 rfl) rfl) hRWDm285
            refine zw_b (by omega) ?_
            refine zw_some ?_
            refine zw_b (by omega) ?_
            refine zw_some ?_
            refine zw_ite (fun h288 => ?_) (fun h288 => ?_)
            · refine zw_b (by omega) ?_
              have r289 : 0 ≤ (m287 a0 7) ∧ (m287 a0 7) ≤ 700 := zi_rd hIm287 hc0 zb_28_7
              have e290 : (m287 a0 7) = (m0 a0 7) := (Eq.trans (zs_ne hmm287 (Or.inr (by decide))) (zs_ne hmm285 (Or.inr (by decide))))
              have r291 : 0 ≤ (m287 a0 8) ∧ (m287 a0 8) ≤ 6 := zi_rd hIm287 hc0 zb_28_8
              have r292 : (-2147483648) ≤ (m287 a0 4) ∧ (m287 a0 4) ≤ 2147483647 := zi_rd hIm287 hc0 zb_28_4
              have e293 : (m287 a0 4) = 3 := (Eq.trans (zs_ne hmm287 (Or.inr (by decide))) (zs_eq hmm285))
              exact zw_some ⟨hIm287, hFm287, hRLRm287, hRNSm287, hRTRm287, hRWDm287, ⟨by decide, by decide⟩, by omega, fun h => absurd h (by decide), fun h => absurd h (by decide)⟩
            · exfalso; omega
        · refine zw_bd (zw_eq (zu_call_at (zt_T n) (zm_98 n) (zdp_98 n) _ _ _ _ _ rfl (zr_98_0 n _ _ a0 5 m0)) ?_)
          have b294 : 0 ≤ (5 : Int) ∧ (5 : Int) < 6 := by omega
          refine zw_if b294 ?_
          have r295 : 0 ≤ (m0 193 5) ∧ (m0 193 5) ≤ 1 := zi_rd hIm0 zq_193 (zb_102 _)
          refine zw_ite (fun h296 => ?_) (fun h296 => ?_)
          · refine zw_b (by omega) ?_
            have b297 : 0 ≤ (5 : Int) ∧ (5 : Int) < 6 := by omega
            refine zw_if b297 ?_
            generalize hmm298 : zu_up m0 193 5 1 = m298
            have hIm298 := zi_up hmm298 hIm0 zq_193 (zb_102 _) (by omega) (by omega)
            have hFm298 := zfr_up hmm298 hFm0 zq_193 rfl
            have hRLRm298 := zR_LR_fr (zdis_fr (zfr_up hmm298 (zfr_rf [(102, 0)] _) zq_193 rfl) rfl) hRLRm0
            have hRNSm298 := zR_NS_fr (zdis_fr (zfr_up hmm298 (zfr_rf [(102, 0)] _) zq_193 rfl) rfl) hRNSm0
            have hRTRm298 := zR_TR_fr (zdis_fr (zfr_up hmm298 (zfr_rf [(102, 0)] _) zq_193 rfl) rfl) hRTRm0
            have hRWDm298 := zR_WD_fr (zdis_fr (zfr_up hmm298 (zfr_rf [(102, 0)] _) zq_193 rfl) rfl) hRWDm0
            have r301 : 0 ≤ (m298 a0 7) ∧ (m298 a0 7) ≤ 700 := zi_rd hIm298 hc0 zb_28_7
            have e302 : (m298 a0 7) = (m0 a0 7) := (zs_ne hmm298 (Or.inl (zc_ne hc0 zq_193 (by decide))))
            refine zw_bd (zw_mono (zk_89 n hIm298 hc0 hRNSm298 hRWDm298) (fun v300 m299 hqm299 => ?_))
            obtain ⟨hIm299, hfm299, hvm299⟩ := hqm299
            have hFm299 := zfr_tr hFm298 hfm299 rfl
            obtain ⟨hRNSm299, hRTRm299, hRWDm299, hvm299⟩ := hvm299
            have hRLRm299 := zR_LR_fr (zdis_fr hfm299 rfl) hRLRm298
            have s303 := hRNSm299 a0 hc0
            have r304 : 0 ≤ (m299 a0 7) ∧ (m299 a0 7) ≤ 700 := zi_rd hIm299 hc0 zb_28_7
            have r305 : 0 ≤ (m299 a0 8) ∧ (m299 a0 8) ≤ 6 := zi_rd hIm299 hc0 zb_28_8
            refine zw_b (by omega) ?_
            refine zw_some ?_
            refine zw_ite (fun h306 => ?_) (fun h306 => ?_)
            · exfalso; omega
            · refine zw_bd (zw_eq (zu_call_at (zt_T n) (zm_94 n) (zdp_94 n) _ _ _ _ _ rfl (zr_94_0 n _ _ a0 0 99999 m299)) ?_)
              refine zw_ite (fun h307 => ?_) (fun h307 => ?_)
              · have s308 := (hRTRm299 a0 hc0).2.2 (by omega)
                refine zw_bd (zw_eq (zu_call_at (zt_T n) (zm_83 n) (zdp_83 n) _ _ _ _ _ rfl (zr_83_0 n _ _ (m299 a0 9) 0 99999 m299)) ?_)
                refine zw_ite (fun h309 => ?_) (fun h309 => ?_)
                · exfalso; omega
                · refine zw_ite (fun h310 => ?_) (fun h310 => ?_)
                  · refine zw_b (by omega) ?_
                    refine zw_some ?_
                    refine zw_ite (fun h311 => ?_) (fun h311 => ?_)
                    · exfalso; omega
                    · refine zw_bd (zw_eq (zu_call_at (zt_T n) (zm_85 n) (zdp_85 n) _ _ _ _ _ rfl (zr_85_0 n _ _ a0 2 m299)) ?_)
                      generalize hmm312 : zu_up m299 a0 4 2 = m312
                      have hIm312 := zi_up hmm312 hIm299 hc0 zb_28_4 (by omega) (by omega)
                      have hFm312 := zfr_up hmm312 hFm299 hc0 rfl
                      have hRNSm312 := zR_NS_fr (zdis_fr (zfr_up hmm312 (zfr_rf [(28, 5)] _) hc0 rfl) rfl) hRNSm299
                      have hRTRm312 := zR_TR_fr (zdis_fr (zfr_up hmm312 (zfr_rf [(28, 5)] _) hc0 rfl) rfl) hRTRm299
                      have hRWDm312 := zR_WD_fr (zdis_fr (zfr_up hmm312 (zfr_rf [(28, 5)] _) hc0 rfl) rfl) hRWDm299
                      have hRLRm312 := zLR_wr (zone_190 hc0) hmm312 (by decide)
                      have r313 : 0 ≤ (m312 a0 10) ∧ (m312 a0 10) ≤ 700 := zi_rd hIm312 hc0 zb_28_10
                      generalize hmm314 : zu_up m312 a0 5 (m312 a0 10) = m314
                      have hIm314 := zi_up hmm314 hIm312 hc0 zb_28_5 (by omega) (by omega)
                      have hFm314 := zfr_up hmm314 hFm312 hc0 rfl
                      have hRLRm314 := zR_LR_fr (zdis_fr (zfr_up hmm314 (zfr_rf [(28, 6)] _) hc0 rfl) rfl) hRLRm312
                      have hRNSm314 := zR_NS_fr (zdis_fr (zfr_up hmm314 (zfr_rf [(28, 6)] _) hc0 rfl) rfl) hRNSm312
                      have hRTRm314 := zR_TR_fr (zdis_fr (zfr_up hmm314 (zfr_rf [(28, 6)] _) hc0 rfl) rfl) hRTRm312
                      have hRWDm314 := zR_WD_fr (zdis_fr (zfr_up hmm314 (zfr_rf [(28, 6)] _) hc0 rfl) rfl) hRWDm312
                      refine zw_b (by omega) ?_
                      refine zw_some ?_
                      refine zw_b (by omega) ?_
                      refine zw_some ?_
                      refine zw_ite (fun h315 => ?_) (fun h315 => ?_)
                      · exfalso; omega
                      · refine zw_b (by omega) ?_
                        have r316 : 0 ≤ (m314 a0 7) ∧ (m314 a0 7) ≤ 700 := zi_rd hIm314 hc0 zb_28_7
                        have e317 : (m314 a0 7) = (m299 a0 7) := (Eq.trans (zs_ne hmm314 (Or.inr (by decide))) (zs_ne hmm312 (Or.inr (by decide))))
                        have r318 : 0 ≤ (m314 a0 8) ∧ (m314 a0 8) ≤ 6 := zi_rd hIm314 hc0 zb_28_8
                        have e319 : (m314 a0 8) = (m299 a0 8) := (Eq.trans (zs_ne hmm314 (Or.inr (by decide))) (zs_ne hmm312 (Or.inr (by decide))))
                        have r320 : (-2147483648) ≤ (m314 a0 4) ∧ (m314 a0 4) ≤ 2147483647 := zi_rd hIm314 hc0 zb_28_4
                        have e321 : (m314 a0 4) = 2 := (Eq.trans (zs_ne hmm314 (Or.inr (by decide))) (zs_eq hmm312))
                        exact zw_some ⟨hIm314, hFm314, hRLRm314, hRNSm314, hRTRm314, hRWDm314, ⟨by decide, by decide⟩, by omega, fun h => absurd h (by decide), fun h => absurd h (by decide)⟩
                  · refine zw_b (by omega) ?_
                    refine zw_some ?_
                    refine zw_ite (fun h322 => ?_) (fun h322 => ?_)
                    · generalize hmm323 : zu_up m299 a0 11 (m299 a0 9) = m323
                      have hIm323 := zi_up hmm323 hIm299 hc0 zb_28_11 (by omega) (by omega)
                      have hFm323 := zfr_up hmm323 hFm299 hc0 rfl
                      have hRLRm323 := zR_LR_fr (zdis_fr (zfr_up hmm323 (zfr_rf [(28, 12)] _) hc0 rfl) rfl) hRLRm299
                      have hRNSm323 := zR_NS_fr (zdis_fr (zfr_up hmm323 (zfr_rf [(28, 12)] _) hc0 rfl) rfl) hRNSm299
                      have hRTRm323 := zR_TR_fr (zdis_fr (zfr_up hmm323 (zfr_rf [(28, 12)] _) hc0 rfl) rfl) hRTRm299
                      have hRWDm323 := zR_WD_fr (zdis_fr (zfr_up hmm323 (zfr_rf [(28, 12)] _) hc0 rfl) rfl) hRWDm299
                      have r326 : 0 ≤ (m323 a0 7) ∧ (m323 a0 7) ≤ 700 := zi_rd hIm323 hc0 zb_28_7
                      have e327 : (m323 a0 7) = (m299 a0 7) := (zs_ne hmm323 (Or.inr (by decide)))
                      refine zw_bd (zw_mono (zk_89 n hIm323 hc0 hRNSm323 hRWDm323) (fun v325 m324 hqm324 => ?_))
                      obtain ⟨hIm324, hfm324, hvm324⟩ := hqm324
                      have hFm324 := zfr_tr hFm323 hfm324 rfl
                      obtain ⟨hRNSm324, hRTRm324, hRWDm324, hvm324⟩ := hvm324
                      have hRLRm324 := zR_LR_fr (zdis_fr hfm324 rfl) hRLRm323
                      have s328 := hRNSm324 a0 hc0
                      have r329 : 0 ≤ (m324 a0 7) ∧ (m324 a0 7) ≤ 700 := zi_rd hIm324 hc0 zb_28_7
                      have r330 : 0 ≤ (m324 a0 8) ∧ (m324 a0 8) ≤ 6 := zi_rd hIm324 hc0 zb_28_8
                      refine zw_b (by omega) ?_
                      refine zw_some ?_
                      refine zw_ite (fun h331 => ?_) (fun h331 => ?_)
                      · have r332 : (-2147483648) ≤ (m324 a0 11) ∧ (m324 a0 11) ≤ 2147483647 := zi_rd hIm324 hc0 zb_28_11
                        have e333 : (m324 a0 11) = (m299 a0 9) := (Eq.trans (zfr_ap hfm324 hc0 rfl) (zs_eq hmm323))
                        have b334 : 0 ≤ (9 : Int) ∧ (9 : Int) < 10 := by omega
                        refine zw_if b334 ?_
                        generalize hmm335 : zu_up m324 194 9 (m324 a0 11) = m335
                        have hIm335 := zi_up hmm335 hIm324 zq_194 (zb_103 _) (by omega) (by omega)
                        have hFm335 := zfr_up hmm335 hFm324 zq_194 rfl
                        have hRLRm335 := zR_LR_fr (zdis_fr (zfr_up hmm335 (zfr_rf [(103, 0)] _) zq_194 rfl) rfl) hRLRm324
                        have hRNSm335 := zR_NS_fr (zdis_fr (zfr_up hmm335 (zfr_rf [(103, 0)] _) zq_194 rfl) rfl) hRNSm324
                        have hRTRm335 := zR_TR_fr (zdis_fr (zfr_up hmm335 (zfr_rf [(103, 0)] _) zq_194 rfl) rfl) hRTRm324
                        have hRWDm335 := zR_WD_fr (zdis_fr (zfr_up hmm335 (zfr_rf [(103, 0)] _) zq_194 rfl) rfl) hRWDm324
                        refine zw_b (by omega) ?_
                        have r336 : 0 ≤ (m335 a0 7) ∧ (m335 a0 7) ≤ 700 := zi_rd hIm335 hc0 zb_28_7
                        have e337 : (m335 a0 7) = (m324 a0 7) := (zs_ne hmm335 (Or.inl (zc_ne hc0 zq_194 (by decide))))
                        have r338 : 0 ≤ (m335 a0 8) ∧ (m335 a0 8) ≤ 6 := zi_rd hIm335 hc0 zb_28_8
                        have e339 : (m335 a0 8) = (m324 a0 8) := (zs_ne hmm335 (Or.inl (zc_ne hc0 zq_194 (by decide))))
                        have r340 : (-2147483648) ≤ (m335 a0 4) ∧ (m335 a0 4) ≤ 2147483647 := zi_rd hIm335 hc0 zb_28_4
                        have e341 : (m335 a0 4) = (m0 a0 4) := (Eq.trans (zs_ne hmm335 (Or.inl (zc_ne hc0 zq_194 (by decide)))) (Eq.trans (zfr_ap hfm324 hc0 rfl) (Eq.trans (zs_ne hmm323 (Or.inr (by decide))) (Eq.trans (zfr_ap hfm299 hc0 rfl) (zs_ne hmm298 (Or.inl (zc_ne hc0 zq_193 (by decide))))))))
                        exact zw_some ⟨hIm335, hFm335, hRLRm335, hRNSm335, hRTRm335, hRWDm335, ⟨by decide, by decide⟩, by omega, fun _ => by omega, fun _ => by omega⟩
                      · exfalso; omega
                    · exfalso; omega
              · refine zw_bd (zw_eq (zu_call_at (zt_T n) (zm_85 n) (zdp_85 n) _ _ _ _ _ rfl (zr_85_0 n _ _ a0 1 m299)) ?_)
                generalize hmm342 : zu_up m299 a0 4 1 = m342
                have hIm342 := zi_up hmm342 hIm299 hc0 zb_28_4 (by omega) (by omega)
                have hFm342 := zfr_up hmm342 hFm299 hc0 rfl
                have hRNSm342 := zR_NS_fr (zdis_fr (zfr_up hmm342 (zfr_rf [(28, 5)] _) hc0 rfl) rfl) hRNSm299
                have hRTRm342 := zR_TR_fr (zdis_fr (zfr_up hmm342 (zfr_rf [(28, 5)] _) hc0 rfl) rfl) hRTRm299
                have hRWDm342 := zR_WD_fr (zdis_fr (zfr_up hmm342 (zfr_rf [(28, 5)] _) hc0 rfl) rfl) hRWDm299
                have hRLRm342 := zLR_wr (zone_190 hc0) hmm342 (by decide)
                have r343 : 0 ≤ (m342 a0 10) ∧ (m342 a0 10) ≤ 700 := zi_rd hIm342 hc0 zb_28_10
                generalize hmm344 : zu_up m342 a0 5 (m342 a0 10) = m344
                have hIm344 := zi_up hmm344 hIm342 hc0 zb_28_5 (by omega) (by omega)
                have hFm344 := zfr_up hmm344 hFm342 hc0 rfl
                have hRLRm344 := zR_LR_fr (zdis_fr (zfr_up hmm344 (zfr_rf [(28, 6)] _) hc0 rfl) rfl) hRLRm342
                have hRNSm344 := zR_NS_fr (zdis_fr (zfr_up hmm344 (zfr_rf [(28, 6)] _) hc0 rfl) rfl) hRNSm342
                have hRTRm344 := zR_TR_fr (zdis_fr (zfr_up hmm344 (zfr_rf [(28, 6)] _) hc0 rfl) rfl) hRTRm342
                have hRWDm344 := zR_WD_fr (zdis_fr (zfr_up hmm344 (zfr_rf [(28, 6)] _) hc0 rfl) rfl) hRWDm342
                refine zw_b (by omega) ?_
                refine zw_some ?_
                refine zw_b (by omega) ?_
                refine zw_some ?_
                refine zw_ite (fun h345 => ?_) (fun h345 => ?_)
                · exfalso; omega
                · refine zw_b (by omega) ?_
                  have r346 : 0 ≤ (m344 a0 7) ∧ (m344 a0 7) ≤ 700 := zi_rd hIm344 hc0 zb_28_7
                  have e347 : (m344 a0 7) = (m299 a0 7) := (Eq.trans (zs_ne hmm344 (Or.inr (by decide))) (zs_ne hmm342 (Or.inr (by decide))))
                  have r348 : 0 ≤ (m344 a0 8) ∧ (m344 a0 8) ≤ 6 := zi_rd hIm344 hc0 zb_28_8
                  have e349 : (m344 a0 8) = (m299 a0 8) := (Eq.trans (zs_ne hmm344 (Or.inr (by decide))) (zs_ne hmm342 (Or.inr (by decide))))
                  have r350 : (-2147483648) ≤ (m344 a0 4) ∧ (m344 a0 4) ≤ 2147483647 := zi_rd hIm344 hc0 zb_28_4
                  have e351 : (m344 a0 4) = 1 := (Eq.trans (zs_ne hmm344 (Or.inr (by decide))) (zs_eq hmm342))
                  exact zw_some ⟨hIm344, hFm344, hRLRm344, hRNSm344, hRTRm344, hRWDm344, ⟨by decide, by decide⟩, by omega, fun h => absurd h (by decide), fun h => absurd h (by decide)⟩
          · refine zw_bd (zw_eq (zu_call_at (zt_T n) (zm_85 n) (zdp_85 n) _ _ _ _ _ rfl (zr_85_0 n _ _ a0 3 m0)) ?_)
            generalize hmm352 : zu_up m0 a0 4 3 = m352
            have hIm352 := zi_up hmm352 hIm0 hc0 zb_28_4 (by omega) (by omega)
            have hFm352 := zfr_up hmm352 hFm0 hc0 rfl
            have hRNSm352 := zR_NS_fr (zdis_fr (zfr_up hmm352 (zfr_rf [(28, 5)] _) hc0 rfl) rfl) hRNSm0
            have hRTRm352 := zR_TR_fr (zdis_fr (zfr_up hmm352 (zfr_rf [(28, 5)] _) hc0 rfl) rfl) hRTRm0
            have hRWDm352 := zR_WD_fr (zdis_fr (zfr_up hmm352 (zfr_rf [(28, 5)] _) hc0 rfl) rfl) hRWDm0
            have hRLRm352 := zLR_wr (zone_190 hc0) hmm352 (by decide)
            have r353 : 0 ≤ (m352 a0 10) ∧ (m352 a0 10) ≤ 700 := zi_rd hIm352 hc0 zb_28_10
            generalize hmm354 : zu_up m352 a0 5 (m352 a0 10) = m354
            have hIm354 := zi_up hmm354 hIm352 hc0 zb_28_5 (by omega) (by omega)
            have hFm354 := zfr_up hmm354 hFm352 hc0 rfl
            have hRLRm354 := zR_LR_fr (zdis_fr (zfr_up hmm354 (zfr_rf [(28, 6)] _) hc0 rfl) rfl) hRLRm352
            have hRNSm354 := zR_NS_fr (zdis_fr (zfr_up hmm354 (zfr_rf [(28, 6)] _) hc0 rfl) rfl) hRNSm352
            have hRTRm354 := zR_TR_fr (zdis_fr (zfr_up hmm354 (zfr_rf [(28, 6)] _) hc0 rfl) rfl) hRTRm352
            have hRWDm354 := zR_WD_fr (zdis_fr (zfr_up hmm354 (zfr_rf [(28, 6)] _) hc0 rfl) rfl) hRWDm352
            refine zw_b (by omega) ?_
            refine zw_some ?_
            refine zw_b (by omega) ?_
            refine zw_some ?_
            refine zw_ite (fun h355 => ?_) (fun h355 => ?_)
            · refine zw_b (by omega) ?_
              have r356 : 0 ≤ (m354 a0 7) ∧ (m354 a0 7) ≤ 700 := zi_rd hIm354 hc0 zb_28_7
              have e357 : (m354 a0 7) = (m0 a0 7) := (Eq.trans (zs_ne hmm354 (Or.inr (by decide))) (zs_ne hmm352 (Or.inr (by decide))))
              have r358 : 0 ≤ (m354 a0 8) ∧ (m354 a0 8) ≤ 6 := zi_rd hIm354 hc0 zb_28_8
              have r359 : (-2147483648) ≤ (m354 a0 4) ∧ (m354 a0 4) ≤ 2147483647 := zi_rd hIm354 hc0 zb_28_4
              have e360 : (m354 a0 4) = 3 := (Eq.trans (zs_ne hmm354 (Or.inr (by decide))) (zs_eq hmm352))
              exact zw_some ⟨hIm354, hFm354, hRLRm354, hRNSm354, hRTRm354, hRWDm354, ⟨by decide, by decide⟩, by omega, fun h => absurd h (by decide), fun h => absurd h (by decide)⟩
            · exfalso; omega
set_option maxHeartbeats 4000000 in
theorem zl_118 (n : Nat) {a0 : Int} {m0 : zu_m} (hc0 : zcls a0 = 28)  (hxp0 : (m0 a0 21) = (m0 a0 48)) : ∀ k : Nat, (∀ (mh : zu_m), zi_I mh → zfr [(28, 5), (28, 6), (28, 8), (28, 9), (28, 10), (28, 11), (28, 22), (28, 46), (28, 47), (28, 48), (28, 49), (28, 50), (28, 51), (117, 0), (118, 0), (119, 0), (120, 0), (121, 0)] m0 mh → ((m0 a0 7) ≤ (mh a0 7)) → ((mh a0 21) + znz mh = (mh a0 48)) → ((mh a0 46) + (mh a0 49) = zbi mh + 1) → ((mh a0 45) = znz mh + (mh a0 47)) → ((mh a0 49) = 0 → 1 ≤ (mh a0 21)) → ((mh a0 4) = (m0 a0 4)) → (zR_KN mh) → (zR_NS mh) → (zR_TR mh) → (zR_WD mh) → (7 * (700 - (mh a0 7)) + (mh a0 8)) * 1 + 0 < (k : Int) → zw (zu_ex (zt_T n) 118 25 [(40, a0)] [] mh) (fun v m => zi_I m ∧ zfr [(28, 5), (28, 6), (28, 8), (28, 9), (28, 10), (28, 11), (28, 22), (28, 46), (28, 47), (28, 48), (28, 49), (28, 50), (28, 51), (117, 0), (118, 0), (119, 0), (120, 0), (121, 0)] m0 m ∧ zR_KN m ∧ zR_NS m ∧ zR_TR m ∧ zR_WD m ∧ (0 ≤ v ∧ v ≤ 1) ∧ ((m0 a0 7) ≤ (m a0 7)) ∧ (v = 1 → ((m a0 21) = (m a0 48) ∧ 1 ≤ (m a0 21))) ∧ (v = 1 → (m a0 4) = (m0 a0 4)) ∧ (v = 0 → (m a0 4) ≠ 0))) := by
  intro k
  induction k with
  | zero => exact fun mh hImh hFmh hH0 hH1 hH2 hH3 hH4 hH5 hRKNmh hRNSmh hRTRmh hRWDmh hM => by have zq0 := zi_rd hImh hc0 zb_28_7; have zq1 := zi_rd hImh hc0 zb_28_8; exfalso; omega
  | succ k ih =>
    intro mh hImh hFmh hH0 hH1 hH2 hH3 hH4 hH5 hRKNmh hRNSmh hRTRmh hRWDmh hM
    refine zw_eq (zu_rega_at (zt_T n) (zm_118 n) (zdp_118 n) _ _ _ _ _ _ (zr_118_25 n _ _ a0 mh)) ?_
    have r1 : 0 ≤ (mh a0 7) ∧ (mh a0 7) ≤ 700 := zi_rd hImh hc0 zb_28_7
    have r2 : 0 ≤ (mh a0 21) ∧ (mh a0 21) ≤ 64 := zi_rd hImh hc0 zb_28_21
    have r3 : 0 ≤ (mh a0 48) ∧ (mh a0 48) ≤ 64 := zi_rd hImh hc0 zb_28_48
    have r4 : 0 ≤ (mh a0 46) ∧ (mh a0 46) ≤ 96 := zi_rd hImh hc0 zb_28_46
    have r5 : 0 ≤ (mh a0 49) ∧ (mh a0 49) ≤ 1 := zi_rd hImh hc0 zb_28_49
    have r6 : 0 ≤ (mh a0 45) ∧ (mh a0 45) ≤ 96 := zi_rd hImh hc0 zb_28_45
    have r7 : 0 ≤ (mh a0 47) ∧ (mh a0 47) ≤ 8 := zi_rd hImh hc0 zb_28_47
    have r8 : (-2147483648) ≤ (mh a0 4) ∧ (mh a0 4) ≤ 2147483647 := zi_rd hImh hc0 zb_28_4
    have r9 : 0 ≤ (mh a0 8) ∧ (mh a0 8) ≤ 6 := zi_rd hImh hc0 zb_28_8
    have g10 := zwt_bd hImh hc0
    have s11 := hRNSmh a0 hc0
    refine zw_bd (zw_eq (zu_call_at (zt_T n) (zm_93 n) (zdp_93 n) _ _ _ _ _ rfl (zr_93_0 n _ _ a0 59 mh)) ?_)
    refine zw_ite (fun h12 => ?_) (fun h12 => ?_)
    · refine zw_b (by omega) ?_
      refine zw_some ?_
      refine zw_ite (fun h13 => ?_) (fun h13 => ?_)
      · refine zw_ite (fun h14 => ?_) (fun h14 => ?_)
        · refine zw_bd (zw_mono (zk_117 n hImh hc0 ⟨by omega, by omega⟩ (by omega) (by omega) (by omega) (by omega) (by omega) hRKNmh hRNSmh hRTRmh hRWDmh) (fun v16 m15 hqm15 => ?_))
          obtain ⟨hIm15, hfm15, hvm15⟩ := hqm15
          have hFm15 := zfr_tr hFmh hfm15 rfl
          obtain ⟨hRKNm15, hRNSm15, hRTRm15, hRWDm15, hvm15⟩ := hvm15
          have g17 := zwt_bd hIm15 hc0
          have s18 := hRNSm15 a0 hc0
          have r19 : 0 ≤ (m15 a0 7) ∧ (m15 a0 7) ≤ 700 := zi_rd hIm15 hc0 zb_28_7
          have r20 : 0 ≤ (m15 a0 8) ∧ (m15 a0 8) ≤ 6 := zi_rd hIm15 hc0 zb_28_8
          have r21 : 0 ≤ (m15 a0 21) ∧ (m15 a0 21) ≤ 64 := zi_rd hIm15 hc0 zb_28_21
          have r22 : 0 ≤ (m15 a0 48) ∧ (m15 a0 48) ≤ 64 := zi_rd hIm15 hc0 zb_28_48
          have r23 : 0 ≤ (m15 a0 46) ∧ (m15 a0 46) ≤ 96 := zi_rd hIm15 hc0 zb_28_46
          have r24 : 0 ≤ (m15 a0 49) ∧ (m15 a0 49) ≤ 1 := zi_rd hIm15 hc0 zb_28_49
          have r25 : 0 ≤ (m15 a0 45) ∧ (m15 a0 45) ≤ 96 := zi_rd hIm15 hc0 zb_28_45
          have r26 : 0 ≤ (m15 a0 47) ∧ (m15 a0 47) ≤ 8 := zi_rd hIm15 hc0 zb_28_47
          have r27 : (-2147483648) ≤ (m15 a0 4) ∧ (m15 a0 4) ≤ 2147483647 := zi_rd hIm15 hc0 zb_28_4
          have y28 := (hvm15.1)
          have y29 := (hvm15.2.1)
          have y30 := zhid_mk (hvm15.2.2.1)
          have y31 := zhid_mk (hvm15.2.2.2.1)
          have y32 := zhid_mk (hvm15.2.2.2.2.1)
          have y33 := zhid_mk (hvm15.2.2.2.2.2.1)
          have y34 := zhid_mk (hvm15.2.2.2.2.2.2.1)
          have y35 := zhid_mk (hvm15.2.2.2.2.2.2.2.1)
          have y36 := zhid_mk (hvm15.2.2.2.2.2.2.2.2)
          clear hvm15
          refine zw_ite (fun h37 => ?_) (fun h37 => ?_)
          · have s38 := (zhid_of y30) (by omega)
            have s39 := (zhid_of y31) (by omega)
            have s40 := (zhid_of y32) (by omega)
            have s41 := (zhid_of y33) (by omega)
            have s42 := (zhid_of y34) (by omega)
            have s43 := (zhid_of y35) (by omega)
            have hM : (7 * (700 - (m15 a0 7)) + (m15 a0 8)) * 1 + 0 < (k : Int) := by omega
            exact ih  m15 hIm15 hFm15 (by omega) (by omega) (by omega) (by omega) (by omega) (by omega) hRKNm15 hRNSm15 hRTRm15 hRWDm15 hM
          · have s44 := (zhid_of y36) (by omega)
            refine zw_b (by omega) ?_
            exact zw_some ⟨hIm15, hFm15, hRKNm15, hRNSm15, hRTRm15, hRWDm15, ⟨by decide, by decide⟩, by omega, fun h => absurd h (by decide), fun h => absurd h (by decide), fun _ => by omega⟩
        · refine zw_bd (zw_mono (zk_116 n hImh hc0 ⟨by omega, by omega⟩ (by omega) (by omega) (by omega) (by omega) hRKNmh hRNSmh hRTRmh hRWDmh) (fun v46 m45 hqm45 => ?_))
          obtain ⟨hIm45, hfm45, hvm45⟩ := hqm45
          have hFm45 := zfr_tr hFmh hfm45 rfl
          obtain ⟨hRKNm45, hRNSm45, hRTRm45, hRWDm45, hvm45⟩ := hvm45
          have g47 := zwt_bd hIm45 hc0
          have s48 := hRNSm45 a0 hc0
          have r49 : 0 ≤ (m45 a0 7) ∧ (m45 a0 7) ≤ 700 := zi_rd hIm45 hc0 zb_28_7
          have r50 : 0 ≤ (m45 a0 8) ∧ (m45 a0 8) ≤ 6 := zi_rd hIm45 hc0 zb_28_8
          have r51 : 0 ≤ (m45 a0 21) ∧ (m45 a0 21) ≤ 64 := zi_rd hIm45 hc0 zb_28_21
          have r52 : 0 ≤ (m45 a0 48) ∧ (m45 a0 48) ≤ 64 := zi_rd hIm45 hc0 zb_28_48
          have r53 : 0 ≤ (m45 a0 46) ∧ (m45 a0 46) ≤ 96 := zi_rd hIm45 hc0 zb_28_46
          have r54 : 0 ≤ (m45 a0 49) ∧ (m45 a0 49) ≤ 1 := zi_rd hIm45 hc0 zb_28_49
          have r55 : 0 ≤ (m45 a0 45) ∧ (m45 a0 45) ≤ 96 := zi_rd hIm45 hc0 zb_28_45
          have r56 : 0 ≤ (m45 a0 47) ∧ (m45 a0 47) ≤ 8 := zi_rd hIm45 hc0 zb_28_47
          have r57 : (-2147483648) ≤ (m45 a0 4) ∧ (m45 a0 4) ≤ 2147483647 := zi_rd hIm45 hc0 zb_28_4
          have y58 := (hvm45.1)
          have y59 := (hvm45.2.1)
          have y60 := zhid_mk (hvm45.2.2.1)
          have y61 := zhid_mk (hvm45.2.2.2.1)
          have y62 := zhid_mk (hvm45.2.2.2.2.1)
          have y63 := zhid_mk (hvm45.2.2.2.2.2.1)
          have y64 := zhid_mk (hvm45.2.2.2.2.2.2.1)
          have y65 := zhid_mk (hvm45.2.2.2.2.2.2.2.1)
          have y66 := zhid_mk (hvm45.2.2.2.2.2.2.2.2)
          clear hvm45
          refine zw_ite (fun h67 => ?_) (fun h67 => ?_)
          · have s68 := (zhid_of y66) (by omega)
            refine zw_b (by omega) ?_
            exact zw_some ⟨hIm45, hFm45, hRKNm45, hRNSm45, hRTRm45, hRWDm45, ⟨by decide, by decide⟩, by omega, fun h => absurd h (by decide), fun h => absurd h (by decide), fun _ => by omega⟩
          · have s69 := (zhid_of y60) (by omega)
            have s70 := (zhid_of y61) (by omega)
            have s71 := (zhid_of y62) (by omega)
            have s72 := (zhid_of y63) (by omega)
            have s73 := (zhid_of y64) (by omega)
            have s74 := (zhid_of y65) (by omega)
            have hM : (7 * (700 - (m45 a0 7)) + (m45 a0 8)) * 1 + 0 < (k : Int) := by omega
            exact ih  m45 hIm45 hFm45 (by omega) (by omega) (by omega) (by omega) (by omega) (by omega) hRKNm45 hRNSm45 hRTRm45 hRWDm45 hM
      · exfalso; omega
    · have r75 : (-2147483648) ≤ (mh a0 9) ∧ (mh a0 9) ≤ 2147483647 := zi_rd hImh hc0 zb_28_9
      refine zw_ite (fun h76 => ?_) (fun h76 => ?_)
      · refine zw_b (by omega) ?_
        refine zw_some ?_
        refine zw_ite (fun h77 => ?_) (fun h77 => ?_)
        · refine zw_ite (fun h78 => ?_) (fun h78 => ?_)
          · refine zw_bd (zw_mono (zk_117 n hImh hc0 ⟨by omega, by omega⟩ (by omega) (by omega) (by omega) (by omega) (by omega) hRKNmh hRNSmh hRTRmh hRWDmh) (fun v80 m79 hqm79 => ?_))
            obtain ⟨hIm79, hfm79, hvm79⟩ := hqm79
            have hFm79 := zfr_tr hFmh hfm79 rfl
            obtain ⟨hRKNm79, hRNSm79, hRTRm79, hRWDm79, hvm79⟩ := hvm79
            have g81 := zwt_bd hIm79 hc0
            have s82 := hRNSm79 a0 hc0
            have r83 : 0 ≤ (m79 a0 7) ∧ (m79 a0 7) ≤ 700 := zi_rd hIm79 hc0 zb_28_7
            have r84 : 0 ≤ (m79 a0 8) ∧ (m79 a0 8) ≤ 6 := zi_rd hIm79 hc0 zb_28_8
            have r85 : 0 ≤ (m79 a0 21) ∧ (m79 a0 21) ≤ 64 := zi_rd hIm79 hc0 zb_28_21
            have r86 : 0 ≤ (m79 a0 48) ∧ (m79 a0 48) ≤ 64 := zi_rd hIm79 hc0 zb_28_48
            have r87 : 0 ≤ (m79 a0 46) ∧ (m79 a0 46) ≤ 96 := zi_rd hIm79 hc0 zb_28_46
            have r88 : 0 ≤ (m79 a0 49) ∧ (m79 a0 49) ≤ 1 := zi_rd hIm79 hc0 zb_28_49
            have r89 : 0 ≤ (m79 a0 45) ∧ (m79 a0 45) ≤ 96 := zi_rd hIm79 hc0 zb_28_45
            have r90 : 0 ≤ (m79 a0 47) ∧ (m79 a0 47) ≤ 8 := zi_rd hIm79 hc0 zb_28_47
            have r91 : (-2147483648) ≤ (m79 a0 4) ∧ (m79 a0 4) ≤ 2147483647 := zi_rd hIm79 hc0 zb_28_4
            have y92 := (hvm79.1)
            have y93 := (hvm79.2.1)
            have y94 := zhid_mk (hvm79.2.2.1)
            have y95 := zhid_mk (hvm79.2.2.2.1)
            have y96 := zhid_mk (hvm79.2.2.2.2.1)
            have y97 := zhid_mk (hvm79.2.2.2.2.2.1)
            have y98 := zhid_mk (hvm79.2.2.2.2.2.2.1)
            have y99 := zhid_mk (hvm79.2.2.2.2.2.2.2.1)
            have y100 := zhid_mk (hvm79.2.2.2.2.2.2.2.2)
            clear hvm79
            refine zw_ite (fun h101 => ?_) (fun h101 => ?_)
            · have s102 := (zhid_of y94) (by omega)
              have s103 := (zhid_of y95) (by omega)
              have s104 := (zhid_of y96) (by omega)
              have s105 := (zhid_of y97) (by omega)
              have s106 := (zhid_of y98) (by omega)
              have s107 := (zhid_of y99) (by omega)
              have hM : (7 * (700 - (m79 a0 7)) + (m79 a0 8)) * 1 + 0 < (k : Int) := by omega
              exact ih  m79 hIm79 hFm79 (by omega) (by omega) (by omega) (by omega) (by omega) (by omega) hRKNm79 hRNSm79 hRTRm79 hRWDm79 hM
            · have s108 := (zhid_of y100) (by omega)
              refine zw_b (by omega) ?_
              exact zw_some ⟨hIm79, hFm79, hRKNm79, hRNSm79, hRTRm79, hRWDm79, ⟨by decide, by decide⟩, by omega, fun h => absurd h (by decide), fun h => absurd h (by decide), fun _ => by omega⟩
          · refine zw_bd (zw_mono (zk_116 n hImh hc0 ⟨by omega, by omega⟩ (by omega) (by omega) (by omega) (by omega) hRKNmh hRNSmh hRTRmh hRWDmh) (fun v110 m109 hqm109 => ?_))
            obtain ⟨hIm109, hfm109, hvm109⟩ := hqm109
            have hFm109 := zfr_tr hFmh hfm109 rfl
            obtain ⟨hRKNm109, hRNSm109, hRTRm109, hRWDm109, hvm109⟩ := hvm109
            have g111 := zwt_bd hIm109 hc0
            have s112 := hRNSm109 a0 hc0
            have r113 : 0 ≤ (m109 a0 7) ∧ (m109 a0 7) ≤ 700 := zi_rd hIm109 hc0 zb_28_7
            have r114 : 0 ≤ (m109 a0 8) ∧ (m109 a0 8) ≤ 6 := zi_rd hIm109 hc0 zb_28_8
            have r115 : 0 ≤ (m109 a0 21) ∧ (m109 a0 21) ≤ 64 := zi_rd hIm109 hc0 zb_28_21
            have r116 : 0 ≤ (m109 a0 48) ∧ (m109 a0 48) ≤ 64 := zi_rd hIm109 hc0 zb_28_48
            have r117 : 0 ≤ (m109 a0 46) ∧ (m109 a0 46) ≤ 96 := zi_rd hIm109 hc0 zb_28_46
            have r118 : 0 ≤ (m109 a0 49) ∧ (m109 a0 49) ≤ 1 := zi_rd hIm109 hc0 zb_28_49
            have r119 : 0 ≤ (m109 a0 45) ∧ (m109 a0 45) ≤ 96 := zi_rd hIm109 hc0 zb_28_45
            have r120 : 0 ≤ (m109 a0 47) ∧ (m109 a0 47) ≤ 8 := zi_rd hIm109 hc0 zb_28_47
            have r121 : (-2147483648) ≤ (m109 a0 4) ∧ (m109 a0 4) ≤ 2147483647 := zi_rd hIm109 hc0 zb_28_4
            have y122 := (hvm109.1)
            have y123 := (hvm109.2.1)
            have y124 := zhid_mk (hvm109.2.2.1)
            have y125 := zhid_mk (hvm109.2.2.2.1)
            have y126 := zhid_mk (hvm109.2.2.2.2.1)
            have y127 := zhid_mk (hvm109.2.2.2.2.2.1)
            have y128 := zhid_mk (hvm109.2.2.2.2.2.2.1)
            have y129 := zhid_mk (hvm109.2.2.2.2.2.2.2.1)
            have y130 := zhid_mk (hvm109.2.2.2.2.2.2.2.2)
            clear hvm109
            refine zw_ite (fun h131 => ?_) (fun h131 => ?_)
            · have s132 := (zhid_of y130) (by omega)
              refine zw_b (by omega) ?_
              exact zw_some ⟨hIm109, hFm109, hRKNm109, hRNSm109, hRTRm109, hRWDm109, ⟨by decide, by decide⟩, by omega, fun h => absurd h (by decide), fun h => absurd h (by decide), fun _ => by omega⟩
            · have s133 := (zhid_of y124) (by omega)
              have s134 := (zhid_of y125) (by omega)
              have s135 := (zhid_of y126) (by omega)
              have s136 := (zhid_of y127) (by omega)
              have s137 := (zhid_of y128) (by omega)
              have s138 := (zhid_of y129) (by omega)
              have hM : (7 * (700 - (m109 a0 7)) + (m109 a0 8)) * 1 + 0 < (k : Int) := by omega
              exact ih  m109 hIm109 hFm109 (by omega) (by omega) (by omega) (by omega) (by omega) (by omega) hRKNm109 hRNSm109 hRTRm109 hRWDm109 hM
        · exfalso; omega
      · refine zw_b (by omega) ?_
        refine zw_some ?_
        refine zw_ite (fun h139 => ?_) (fun h139 => ?_)
        · exfalso; omega
        · refine zw_ite (fun h140 => ?_) (fun h140 => ?_)
          · refine zw_ite (fun h141 => ?_) (fun h141 => ?_)
            · exfalso; omega
            · refine zw_bd (zw_mono (zk_116 n hImh hc0 ⟨by omega, by omega⟩ (by omega) (by omega) (by omega) (by omega) hRKNmh hRNSmh hRTRmh hRWDmh) (fun v143 m142 hqm142 => ?_))
              obtain ⟨hIm142, hfm142, hvm142⟩ := hqm142
              have hFm142 := zfr_tr hFmh hfm142 rfl
              obtain ⟨hRKNm142, hRNSm142, hRTRm142, hRWDm142, hvm142⟩ := hvm142
              have g144 := zwt_bd hIm142 hc0
              have s145 := hRNSm142 a0 hc0
              have r146 : 0 ≤ (m142 a0 7) ∧ (m142 a0 7) ≤ 700 := zi_rd hIm142 hc0 zb_28_7
              have r147 : 0 ≤ (m142 a0 8) ∧ (m142 a0 8) ≤ 6 := zi_rd hIm142 hc0 zb_28_8
              have r148 : 0 ≤ (m142 a0 21) ∧ (m142 a0 21) ≤ 64 := zi_rd hIm142 hc0 zb_28_21
              have r149 : 0 ≤ (m142 a0 48) ∧ (m142 a0 48) ≤ 64 := zi_rd hIm142 hc0 zb_28_48
              have r150 : 0 ≤ (m142 a0 46) ∧ (m142 a0 46) ≤ 96 := zi_rd hIm142 hc0 zb_28_46
              have r151 : 0 ≤ (m142 a0 49) ∧ (m142 a0 49) ≤ 1 := zi_rd hIm142 hc0 zb_28_49
              have r152 : 0 ≤ (m142 a0 45) ∧ (m142 a0 45) ≤ 96 := zi_rd hIm142 hc0 zb_28_45
              have r153 : 0 ≤ (m142 a0 47) ∧ (m142 a0 47) ≤ 8 := zi_rd hIm142 hc0 zb_28_47
              have r154 : (-2147483648) ≤ (m142 a0 4) ∧ (m142 a0 4) ≤ 2147483647 := zi_rd hIm142 hc0 zb_28_4
              have y155 := (hvm142.1)
              have y156 := (hvm142.2.1)
              have y157 := zhid_mk (hvm142.2.2.1)
              have y158 := zhid_mk (hvm142.2.2.2.1)
              have y159 := zhid_mk (hvm142.2.2.2.2.1)
              have y160 := zhid_mk (hvm142.2.2.2.2.2.1)
              have y161 := zhid_mk (hvm142.2.2.2.2.2.2.1)
              have y162 := zhid_mk (hvm142.2.2.2.2.2.2.2.1)
              have y163 := zhid_mk (hvm142.2.2.2.2.2.2.2.2)
              clear hvm142
              refine zw_ite (fun h164 => ?_) (fun h164 => ?_)
              · have s165 := (zhid_of y163) (by omega)
                refine zw_b (by omega) ?_
                exact zw_some ⟨hIm142, hFm142, hRKNm142, hRNSm142, hRTRm142, hRWDm142, ⟨by decide, by decide⟩, by omega, fun h => absurd h (by decide), fun h => absurd h (by decide), fun _ => by omega⟩
              · have s166 := (zhid_of y157) (by omega)
                have s167 := (zhid_of y158) (by omega)
                have s168 := (zhid_of y159) (by omega)
                have s169 := (zhid_of y160) (by omega)
                have s170 := (zhid_of y161) (by omega)
                have s171 := (zhid_of y162) (by omega)
                have hM : (7 * (700 - (m142 a0 7)) + (m142 a0 8)) * 1 + 0 < (k : Int) := by omega
                exact ih  m142 hIm142 hFm142 (by omega) (by omega) (by omega) (by omega) (by omega) (by omega) hRKNm142 hRNSm142 hRTRm142 hRWDm142 hM
          · refine zw_ite (fun h172 => ?_) (fun h172 => ?_)
            · refine zw_bd (zw_mono (zk_112 n hImh hc0 ⟨by decide, by decide⟩ (by omega) (by omega) (by omega) hRKNmh) (fun v174 m173 hqm173 => ?_))
              obtain ⟨hIm173, hfm173, hvm173⟩ := hqm173
              have hFm173 := zfr_tr hFmh hfm173 rfl
              obtain ⟨hRKNm173, hvm173⟩ := hvm173
              have hRNSm173 := zR_NS_fr (zdis_fr hfm173 rfl) hRNSmh
              have hRTRm173 := zR_TR_fr (zdis_fr hfm173 rfl) hRTRmh
              have hRWDm173 := zR_WD_fr (zdis_fr hfm173 rfl) hRWDmh
              have g175 := zwt_bd hIm173 hc0
              have s176 := hRNSm173 a0 hc0
              have r177 : 0 ≤ (m173 a0 21) ∧ (m173 a0 21) ≤ 64 := zi_rd hIm173 hc0 zb_28_21
              have r178 : 0 ≤ (m173 a0 46) ∧ (m173 a0 46) ≤ 96 := zi_rd hIm173 hc0 zb_28_46
              have r179 : 0 ≤ (m173 a0 45) ∧ (m173 a0 45) ≤ 96 := zi_rd hIm173 hc0 zb_28_45
              refine zw_b (by omega) ?_
              have g180 := zwt_top hIm173 hc0
              have r181 : 0 ≤ (m173 a0 7) ∧ (m173 a0 7) ≤ 700 := zi_rd hIm173 hc0 zb_28_7
              have e182 : (m173 a0 7) = (mh a0 7) := (zfr_ap hfm173 hc0 rfl)
              have r183 : 0 ≤ (m173 a0 48) ∧ (m173 a0 48) ≤ 64 := zi_rd hIm173 hc0 zb_28_48
              have e184 : (m173 a0 48) = (mh a0 48) := (zfr_ap hfm173 hc0 rfl)
              have r185 : (-2147483648) ≤ (m173 a0 4) ∧ (m173 a0 4) ≤ 2147483647 := zi_rd hIm173 hc0 zb_28_4
              have e186 : (m173 a0 4) = (mh a0 4) := (zfr_ap hfm173 hc0 rfl)
              exact zw_some ⟨hIm173, hFm173, hRKNm173, hRNSm173, hRTRm173, hRWDm173, ⟨by decide, by decide⟩, by omega, fun _ => by omega, fun _ => by omega, fun h => absurd h (by decide)⟩
            · refine zw_ite (fun h187 => ?_) (fun h187 => ?_)
              · refine zw_bd (zw_mono (zk_117 n hImh hc0 ⟨by omega, by omega⟩ (by omega) (by omega) (by omega) (by omega) (by omega) hRKNmh hRNSmh hRTRmh hRWDmh) (fun v189 m188 hqm188 => ?_))
                obtain ⟨hIm188, hfm188, hvm188⟩ := hqm188
                have hFm188 := zfr_tr hFmh hfm188 rfl
                obtain ⟨hRKNm188, hRNSm188, hRTRm188, hRWDm188, hvm188⟩ := hvm188
                have g190 := zwt_bd hIm188 hc0
                have s191 := hRNSm188 a0 hc0
                have r192 : 0 ≤ (m188 a0 7) ∧ (m188 a0 7) ≤ 700 := zi_rd hIm188 hc0 zb_28_7
                have r193 : 0 ≤ (m188 a0 8) ∧ (m188 a0 8) ≤ 6 := zi_rd hIm188 hc0 zb_28_8
                have r194 : 0 ≤ (m188 a0 21) ∧ (m188 a0 21) ≤ 64 := zi_rd hIm188 hc0 zb_28_21
                have r195 : 0 ≤ (m188 a0 48) ∧ (m188 a0 48) ≤ 64 := zi_rd hIm188 hc0 zb_28_48
                have r196 : 0 ≤ (m188 a0 46) ∧ (m188 a0 46) ≤ 96 := zi_rd hIm188 hc0 zb_28_46
                have r197 : 0 ≤ (m188 a0 49) ∧ (m188 a0 49) ≤ 1 := zi_rd hIm188 hc0 zb_28_49
                have r198 : 0 ≤ (m188 a0 45) ∧ (m188 a0 45) ≤ 96 := zi_rd hIm188 hc0 zb_28_45
                have r199 : 0 ≤ (m188 a0 47) ∧ (m188 a0 47) ≤ 8 := zi_rd hIm188 hc0 zb_28_47
                have r200 : (-2147483648) ≤ (m188 a0 4) ∧ (m188 a0 4) ≤ 2147483647 := zi_rd hIm188 hc0 zb_28_4
                have y201 := (hvm188.1)
                have y202 := (hvm188.2.1)
                have y203 := zhid_mk (hvm188.2.2.1)
                have y204 := zhid_mk (hvm188.2.2.2.1)
                have y205 := zhid_mk (hvm188.2.2.2.2.1)
                have y206 := zhid_mk (hvm188.2.2.2.2.2.1)
                have y207 := zhid_mk (hvm188.2.2.2.2.2.2.1)
                have y208 := zhid_mk (hvm188.2.2.2.2.2.2.2.1)
                have y209 := zhid_mk (hvm188.2.2.2.2.2.2.2.2)
                clear hvm188
                refine zw_ite (fun h210 => ?_) (fun h210 => ?_)
                · have s211 := (zhid_of y203) (by omega)
                  have s212 := (zhid_of y204) (by omega)
                  have s213 := (zhid_of y205) (by omega)
                  have s214 := (zhid_of y206) (by omega)
                  have s215 := (zhid_of y207) (by omega)
                  have s216 := (zhid_of y208) (by omega)
                  have hM : (7 * (700 - (m188 a0 7)) + (m188 a0 8)) * 1 + 0 < (k : Int) := by omega
                  exact ih  m188 hIm188 hFm188 (by omega) (by omega) (by omega) (by omega) (by omega) (by omega) hRKNm188 hRNSm188 hRTRm188 hRWDm188 hM
                · have s217 := (zhid_of y209) (by omega)
                  refine zw_b (by omega) ?_
                  exact zw_some ⟨hIm188, hFm188, hRKNm188, hRNSm188, hRTRm188, hRWDm188, ⟨by decide, by decide⟩, by omega, fun h => absurd h (by decide), fun h => absurd h (by decide), fun _ => by omega⟩
              · exfalso; omega
set_option maxHeartbeats 4000000 in
theorem zk_118 (n : Nat) {a0 : Int} {m0 : zu_m} (hIm0 : zi_I m0) (hc0 : zcls a0 = 28)    (hxp0 : (m0 a0 21) = (m0 a0 48)) (hRKNm0 : zR_KN m0) (hRNSm0 : zR_NS m0) (hRTRm0 : zR_TR m0) (hRWDm0 : zR_WD m0) : zw (zu_call (zt_T n) 118 [(40, a0)] m0) (fun v m => zi_I m ∧ zfr [(28, 5), (28, 6), (28, 8), (28, 9), (28, 10), (28, 11), (28, 22), (28, 46), (28, 47), (28, 48), (28, 49), (28, 50), (28, 51), (117, 0), (118, 0), (119, 0), (120, 0), (121, 0)] m0 m ∧ zR_KN m ∧ zR_NS m ∧ zR_TR m ∧ zR_WD m ∧ (0 ≤ v ∧ v ≤ 1) ∧ ((m0 a0 7) ≤ (m a0 7)) ∧ (v = 1 → ((m a0 21) = (m a0 48) ∧ 1 ≤ (m a0 21))) ∧ (v = 1 → (m a0 4) = (m0 a0 4)) ∧ (v = 0 → (m a0 4) ≠ 0)) := by
  have hFm0 : zfr [(28, 5), (28, 6), (28, 8), (28, 9), (28, 10), (28, 11), (28, 22), (28, 46), (28, 47), (28, 48), (28, 49), (28, 50), (28, 51), (117, 0), (118, 0), (119, 0), (120, 0), (121, 0)] m0 m0 := zfr_rf _ _
  have r218 : 0 ≤ (m0 a0 7) ∧ (m0 a0 7) ≤ 700 := zi_rd hIm0 hc0 zb_28_7
  have r219 : (-2147483648) ≤ (m0 a0 4) ∧ (m0 a0 4) ≤ 2147483647 := zi_rd hIm0 hc0 zb_28_4
  have r220 : 0 ≤ (m0 a0 21) ∧ (m0 a0 21) ≤ 64 := zi_rd hIm0 hc0 zb_28_21
  have r221 : 0 ≤ (m0 a0 48) ∧ (m0 a0 48) ≤ 64 := zi_rd hIm0 hc0 zb_28_48
  have g222 := zwt_bd hIm0 hc0
  have s223 := hRNSm0 a0 hc0
  refine zw_eq (zu_call_at (zt_T n) (zm_118 n) (zdp_118 n) _ _ _ _ _ rfl (zr_118_0 n _ _ a0 m0)) ?_
  generalize hmm224 : zu_up m0 a0 45 0 = m224
  have hIm224 := zi_up hmm224 hIm0 hc0 zb_28_45 (by omega) (by omega)
  have hFm224 := zfr_up hmm224 hFm0 hc0 rfl
  have hRKNm224 := zR_KN_fr (zdis_fr (zfr_up hmm224 (zfr_rf [(28, 46)] _) hc0 rfl) rfl) hRKNm0
  have hRNSm224 := zR_NS_fr (zdis_fr (zfr_up hmm224 (zfr_rf [(28, 46)] _) hc0 rfl) rfl) hRNSm0
  have hRTRm224 := zR_TR_fr (zdis_fr (zfr_up hmm224 (zfr_rf [(28, 46)] _) hc0 rfl) rfl) hRTRm0
  have hRWDm224 := zR_WD_fr (zdis_fr (zfr_up hmm224 (zfr_rf [(28, 46)] _) hc0 rfl) rfl) hRWDm0
  have g225 := zwt_zero hmm224 hc0
  generalize hmm226 : zu_up m224 a0 46 0 = m226
  have hIm226 := zi_up hmm226 hIm224 hc0 zb_28_46 (by omega) (by omega)
  have hFm226 := zfr_up hmm226 hFm224 hc0 rfl
  have g227 := zwt_fr (zdis_fr (zfr_up hmm226 (zfr_rf [(28, 47)] _) hc0 rfl) rfl)
  have hRKNm226 := zR_KN_fr (zdis_fr (zfr_up hmm226 (zfr_rf [(28, 47)] _) hc0 rfl) rfl) hRKNm224
  have hRNSm226 := zR_NS_fr (zdis_fr (zfr_up hmm226 (zfr_rf [(28, 47)] _) hc0 rfl) rfl) hRNSm224
  have hRTRm226 := zR_TR_fr (zdis_fr (zfr_up hmm226 (zfr_rf [(28, 47)] _) hc0 rfl) rfl) hRTRm224
  have hRWDm226 := zR_WD_fr (zdis_fr (zfr_up hmm226 (zfr_rf [(28, 47)] _) hc0 rfl) rfl) hRWDm224
  generalize hmm228 : zu_up m226 a0 47 0 = m228
  have hIm228 := zi_up hmm228 hIm226 hc0 zb_28_47 (by omega) (by omega)
  have hFm228 := zfr_up hmm228 hFm226 hc0 rfl
  have g229 := zwt_fr (zdis_fr (zfr_up hmm228 (zfr_rf [(28, 48)] _) hc0 rfl) rfl)
  have hRKNm228 := zR_KN_fr (zdis_fr (zfr_up hmm228 (zfr_rf [(28, 48)] _) hc0 rfl) rfl) hRKNm226
  have hRNSm228 := zR_NS_fr (zdis_fr (zfr_up hmm228 (zfr_rf [(28, 48)] _) hc0 rfl) rfl) hRNSm226
  have hRTRm228 := zR_TR_fr (zdis_fr (zfr_up hmm228 (zfr_rf [(28, 48)] _) hc0 rfl) rfl) hRTRm226
  have hRWDm228 := zR_WD_fr (zdis_fr (zfr_up hmm228 (zfr_rf [(28, 48)] _) hc0 rfl) rfl) hRWDm226
  refine zw_b (by omega) ?_
  generalize hmm230 : zu_up m228 a0 49 1 = m230
  have hIm230 := zi_up hmm230 hIm228 hc0 zb_28_49 (by omega) (by omega)
  have hFm230 := zfr_up hmm230 hFm228 hc0 rfl
  have g231 := zwt_fr (zdis_fr (zfr_up hmm230 (zfr_rf [(28, 50)] _) hc0 rfl) rfl)
  have hRKNm230 := zR_KN_fr (zdis_fr (zfr_up hmm230 (zfr_rf [(28, 50)] _) hc0 rfl) rfl) hRKNm228
  have hRNSm230 := zR_NS_fr (zdis_fr (zfr_up hmm230 (zfr_rf [(28, 50)] _) hc0 rfl) rfl) hRNSm228
  have hRTRm230 := zR_TR_fr (zdis_fr (zfr_up hmm230 (zfr_rf [(28, 50)] _) hc0 rfl) rfl) hRTRm228
  have hRWDm230 := zR_WD_fr (zdis_fr (zfr_up hmm230 (zfr_rf [(28, 50)] _) hc0 rfl) rfl) hRWDm228
  refine zw_b (by omega) ?_
  generalize hmm232 : zu_up m230 a0 50 1 = m232
  have hIm232 := zi_up hmm232 hIm230 hc0 zb_28_50 (by omega) (by omega)
  have hFm232 := zfr_up hmm232 hFm230 hc0 rfl
  have g233 := zwt_fr (zdis_fr (zfr_up hmm232 (zfr_rf [(28, 51)] _) hc0 rfl) rfl)
  have hRKNm232 := zR_KN_fr (zdis_fr (zfr_up hmm232 (zfr_rf [(28, 51)] _) hc0 rfl) rfl) hRKNm230
  have hRNSm232 := zR_NS_fr (zdis_fr (zfr_up hmm232 (zfr_rf [(28, 51)] _) hc0 rfl) rfl) hRNSm230
  have hRTRm232 := zR_TR_fr (zdis_fr (zfr_up hmm232 (zfr_rf [(28, 51)] _) hc0 rfl) rfl) hRTRm230
  have hRWDm232 := zR_WD_fr (zdis_fr (zfr_up hmm232 (zfr_rf [(28, 51)] _) hc0 rfl) rfl) hRWDm230
  have r234 : 0 ≤ (m232 a0 7) ∧ (m232 a0 7) ≤ 700 := zi_rd hIm232 hc0 zb_28_7
  have e235 : (m232 a0 7) = (m0 a0 7) := (Eq.trans (zs_ne hmm232 (Or.inr (by decide))) (Eq.trans (zs_ne hmm230 (Or.inr (by decide))) (Eq.trans (zs_ne hmm228 (Or.inr (by decide))) (Eq.trans (zs_ne hmm226 (Or.inr (by decide))) (zs_ne hmm224 (Or.inr (by decide)))))))
  have r236 : 0 ≤ (m232 a0 21) ∧ (m232 a0 21) ≤ 64 := zi_rd hIm232 hc0 zb_28_21
  have e237 : (m232 a0 21) = (m0 a0 21) := (Eq.trans (zs_ne hmm232 (Or.inr (by decide))) (Eq.trans (zs_ne hmm230 (Or.inr (by decide))) (Eq.trans (zs_ne hmm228 (Or.inr (by decide))) (Eq.trans (zs_ne hmm226 (Or.inr (by decide))) (zs_ne hmm224 (Or.inr (by decide)))))))
  have r238 : 0 ≤ (m232 a0 48) ∧ (m232 a0 48) ≤ 64 := zi_rd hIm232 hc0 zb_28_48
  have e239 : (m232 a0 48) = (m0 a0 48) := (Eq.trans (zs_ne hmm232 (Or.inr (by decide))) (Eq.trans (zs_ne hmm230 (Or.inr (by decide))) (Eq.trans (zs_ne hmm228 (Or.inr (by decide))) (Eq.trans (zs_ne hmm226 (Or.inr (by decide))) (zs_ne hmm224 (Or.inr (by decide)))))))
  have r240 : 0 ≤ (m232 a0 46) ∧ (m232 a0 46) ≤ 96 := zi_rd hIm232 hc0 zb_28_46
  have e241 : (m232 a0 46) = 0 := (Eq.trans (zs_ne hmm232 (Or.inr (by decide))) (Eq.trans (zs_ne hmm230 (Or.inr (by decide))) (Eq.trans (zs_ne hmm228 (Or.inr (by decide))) (zs_eq hmm226))))
  have r242 : 0 ≤ (m232 a0 49) ∧ (m232 a0 49) ≤ 1 := zi_rd hIm232 hc0 zb_28_49
  have e243 : (m232 a0 49) = 1 := (Eq.trans (zs_ne hmm232 (Or.inr (by decide))) (zs_eq hmm230))
  have r244 : 0 ≤ (m232 a0 45) ∧ (m232 a0 45) ≤ 96 := zi_rd hIm232 hc0 zb_28_45
  have e245 : (m232 a0 45) = 0 := (Eq.trans (zs_ne hmm232 (Or.inr (by decide))) (Eq.trans (zs_ne hmm230 (Or.inr (by decide))) (Eq.trans (zs_ne hmm228 (Or.inr (by decide))) (Eq.trans (zs_ne hmm226 (Or.inr (by decide))) (zs_eq hmm224)))))
  have r246 : 0 ≤ (m232 a0 47) ∧ (m232 a0 47) ≤ 8 := zi_rd hIm232 hc0 zb_28_47
  have e247 : (m232 a0 47) = 0 := (Eq.trans (zs_ne hmm232 (Or.inr (by decide))) (Eq.trans (zs_ne hmm230 (Or.inr (by decide))) (zs_eq hmm228)))
  have r248 : (-2147483648) ≤ (m232 a0 4) ∧ (m232 a0 4) ≤ 2147483647 := zi_rd hIm232 hc0 zb_28_4
  have e249 : (m232 a0 4) = (m0 a0 4) := (Eq.trans (zs_ne hmm232 (Or.inr (by decide))) (Eq.trans (zs_ne hmm230 (Or.inr (by decide))) (Eq.trans (zs_ne hmm228 (Or.inr (by decide))) (Eq.trans (zs_ne hmm226 (Or.inr (by decide))) (zs_ne hmm224 (Or.inr (by decide)))))))
  have r250 : 0 ≤ (m232 a0 8) ∧ (m232 a0 8) ≤ 6 := zi_rd hIm232 hc0 zb_28_8
  have hM : (7 * (700 - (m232 a0 7)) + (m232 a0 8)) * 1 + 0 < ((4907 : Nat) : Int) := by omega
  exact (zl_118 n (m0 := m0) hc0 hxp0 4907)  m232 hIm232 hFm232 (by omega) (by omega) (by omega) (by omega) (by omega) (by omega) hRKNm232 hRNSm232 hRTRm232 hRWDm232 hM

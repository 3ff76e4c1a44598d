set_option maxHeartbeats 4000000 in
theorem zk_102 (n : Nat) {a0 : Int} {m0 : zu_m} (hIm0 : zi_I m0) (hc0 : zcls a0 = 28)   (he0 : 1 ≤ m0 a0 8 ∧ m0 a0 8 ≤ 1) (he1 : 5 ≤ m0 a0 9 ∧ m0 a0 9 ≤ 5)  (hRC0m0 : zR_C0 m0) (hRCRm0 : zR_CR m0) (hRLRm0 : zR_LR m0) (hRNSm0 : zR_NS m0) (hRTRm0 : zR_TR m0) (hRWDm0 : zR_WD m0) : zw (zu_call (zt_T n) 102 [(40, a0)] m0) (fun v m => zi_I m ∧ zfr [(28, 5), (28, 6), (28, 8), (28, 9), (28, 10), (28, 11), (28, 12), (28, 21), (28, 24), (28, 43), (109, 0), (110, 0), (111, 0), (112, 0), (113, 0)] m0 m ∧ zR_C0 m ∧ zR_CR m ∧ zR_LR m ∧ zR_NS m ∧ zR_TR m ∧ zR_WD m ∧ (0 ≤ v ∧ v ≤ 1) ∧ ((m0 a0 7) ≤ (m a0 7)) ∧ (v = 1 → ((m a0 8) = 0 ∨ (m0 a0 7) < (m a0 7))) ∧ (v = 1 → (m a0 4) = (m0 a0 4))) := by
  have hFm0 : zfr [(28, 5), (28, 6), (28, 8), (28, 9), (28, 10), (28, 11), (28, 12), (28, 21), (28, 24), (28, 43), (109, 0), (110, 0), (111, 0), (112, 0), (113, 0)] m0 m0 := zfr_rf _ _
  have r1 : 0 ≤ (m0 a0 7) ∧ (m0 a0 7) ≤ 700 := zi_rd hIm0 hc0 zb_28_7
  have r2 : (-2147483648) ≤ (m0 a0 4) ∧ (m0 a0 4) ≤ 2147483647 := zi_rd hIm0 hc0 zb_28_4
  have s3 := hRNSm0 a0 hc0
  refine zw_eq (zu_call_at (zt_T n) (zm_102 n) (zdp_102 n) _ _ _ _ _ rfl (zr_102_0 n _ _ a0 m0)) ?_
  have r4 : 0 ≤ (m0 a0 20) ∧ (m0 a0 20) ≤ 4 := zi_rd hIm0 hc0 zb_28_20
  refine zw_ite (fun h5 => ?_) (fun h5 => ?_)
  · refine zw_bd (zw_mono (zk_89 n hIm0 hc0 hRNSm0 hRWDm0) (fun v7 m6 hqm6 => ?_))
    obtain ⟨hIm6, hfm6, hvm6⟩ := hqm6
    have hFm6 := zfr_tr hFm0 hfm6 rfl
    obtain ⟨hRNSm6, hRTRm6, hRWDm6, hvm6⟩ := hvm6
    have hRC0m6 := zR_C0_fr (zdis_fr hfm6 rfl) hRC0m0
    have hRCRm6 := zR_CR_fr (zdis_fr hfm6 rfl) hRCRm0
    have hRLRm6 := zR_LR_fr (zdis_fr hfm6 rfl) hRLRm0
    have s8 := hRNSm6 a0 hc0
    have r9 : 0 ≤ (m6 a0 7) ∧ (m6 a0 7) ≤ 700 := zi_rd hIm6 hc0 zb_28_7
    have r10 : 0 ≤ (m6 a0 8) ∧ (m6 a0 8) ≤ 6 := zi_rd hIm6 hc0 zb_28_8
    refine zw_ite (fun h11 => ?_) (fun h11 => ?_)
    · have r12 : 0 ≤ (m6 a0 20) ∧ (m6 a0 20) ≤ 4 := zi_rd hIm6 hc0 zb_28_20
      have e13 : (m6 a0 20) = (m0 a0 20) := (zfr_ap hfm6 hc0 rfl)
      have r14 : (-2147483648) ≤ (m6 a0 9) ∧ (m6 a0 9) ≤ 2147483647 := zi_rd hIm6 hc0 zb_28_9
      refine zw_bd (zw_mono (zk_95 n hIm6 zq_200 ⟨by decide, by decide⟩ ⟨by omega, by omega⟩ ⟨by omega, by omega⟩) (fun v16 m15 hqm15 => ?_))
      obtain ⟨hIm15, hfm15, hvm15⟩ := hqm15
      have hFm15 := zfr_tr hFm6 hfm15 rfl
      have hRC0m15 := zR_C0_fr (zdis_fr hfm15 rfl) hRC0m6
      have hRCRm15 := zR_CR_fr (zdis_fr hfm15 rfl) hRCRm6
      have hRLRm15 := zR_LR_fr (zdis_fr hfm15 rfl) hRLRm6
      have hRNSm15 := zR_NS_fr (zdis_fr hfm15 rfl) hRNSm6
      have hRTRm15 := zR_TR_fr (zdis_fr hfm15 rfl) hRTRm6
      have hRWDm15 := zR_WD_fr (zdis_fr hfm15 rfl) hRWDm6
      have s17 := hRNSm15 a0 hc0
      refine zw_ite (fun h18 => ?_) (fun h18 => ?_)
      · have r19 : 0 ≤ (m15 a0 20) ∧ (m15 a0 20) ≤ 4 := zi_rd hIm15 hc0 zb_28_20
        have e20 : (m15 a0 20) = (m6 a0 20) := (zfr_ap hfm15 hc0 rfl)
        have w21 := zu_w32_id (z := 4 + (m15 a0 20)) (by omega) (by omega)
        have r22 : (-2147483648) ≤ (m15 a0 9) ∧ (m15 a0 9) ≤ 2147483647 := zi_rd hIm15 hc0 zb_28_9
        have e23 : (m15 a0 9) = (m6 a0 9) := (zfr_ap hfm15 hc0 rfl)
        have b24 : 0 ≤ (zu_w32 (4 + (m15 a0 20))) ∧ (zu_w32 (4 + (m15 a0 20))) < 8 := by omega
        refine zw_if b24 ?_
        generalize hmm25 : zu_up m15 200 (zu_w32 (4 + (m15 a0 20))) (m15 a0 9) = m25
        have hIm25 := zi_up hmm25 hIm15 zq_200 (zb_109 _) (by omega) (by omega)
        have hFm25 := zfr_up hmm25 hFm15 zq_200 rfl
        have hRC0m25 := zR_C0_fr (zdis_fr (zfr_up hmm25 (zfr_rf [(109, 0)] _) zq_200 rfl) rfl) hRC0m15
        have hRCRm25 := zR_CR_fr (zdis_fr (zfr_up hmm25 (zfr_rf [(109, 0)] _) zq_200 rfl) rfl) hRCRm15
        have hRLRm25 := zR_LR_fr (zdis_fr (zfr_up hmm25 (zfr_rf [(109, 0)] _) zq_200 rfl) rfl) hRLRm15
        have hRNSm25 := zR_NS_fr (zdis_fr (zfr_up hmm25 (zfr_rf [(109, 0)] _) zq_200 rfl) rfl) hRNSm15
        have hRTRm25 := zR_TR_fr (zdis_fr (zfr_up hmm25 (zfr_rf [(109, 0)] _) zq_200 rfl) rfl) hRTRm15
        have hRWDm25 := zR_WD_fr (zdis_fr (zfr_up hmm25 (zfr_rf [(109, 0)] _) zq_200 rfl) rfl) hRWDm15
        have r28 : 0 ≤ (m25 a0 7) ∧ (m25 a0 7) ≤ 700 := zi_rd hIm25 hc0 zb_28_7
        have e29 : (m25 a0 7) = (m6 a0 7) := (Eq.trans (zs_ne hmm25 (Or.inl (zc_ne hc0 zq_200 (by decide)))) (zfr_ap hfm15 hc0 rfl))
        refine zw_bd (zw_mono (zk_89 n hIm25 hc0 hRNSm25 hRWDm25) (fun v27 m26 hqm26 => ?_))
        obtain ⟨hIm26, hfm26, hvm26⟩ := hqm26
        have hFm26 := zfr_tr hFm25 hfm26 rfl
        obtain ⟨hRNSm26, hRTRm26, hRWDm26, hvm26⟩ := hvm26
        have hRC0m26 := zR_C0_fr (zdis_fr hfm26 rfl) hRC0m25
        have hRCRm26 := zR_CR_fr (zdis_fr hfm26 rfl) hRCRm25
        have hRLRm26 := zR_LR_fr (zdis_fr hfm26 rfl) hRLRm25
        have s30 := hRNSm26 a0 hc0
        have r31 : 0 ≤ (m26 a0 7) ∧ (m26 a0 7) ≤ 700 := zi_rd hIm26 hc0 zb_28_7
        have r32 : 0 ≤ (m26 a0 8) ∧ (m26 a0 8) ≤ 6 := zi_rd hIm26 hc0 zb_28_8
        refine zw_bd (zw_eq (zu_call_at (zt_T n) (zm_96 n) (zdp_96 n) _ _ _ _ _ rfl (zr_96_0 n _ _ a0 m26)) ?_)
        refine zw_b (by omega) ?_
        generalize hmm33 : zu_up m26 a0 23 1 = m33
        have hIm33 := zi_up hmm33 hIm26 hc0 zb_28_23 (by omega) (by omega)
        have hFm33 := zfr_up hmm33 hFm26 hc0 rfl
        have hRC0m33 := zR_C0_fr (zdis_fr (zfr_up hmm33 (zfr_rf [(28, 24)] _) hc0 rfl) rfl) hRC0m26
        have hRLRm33 := zR_LR_fr (zdis_fr (zfr_up hmm33 (zfr_rf [(28, 24)] _) hc0 rfl) rfl) hRLRm26
        have hRNSm33 := zR_NS_fr (zdis_fr (zfr_up hmm33 (zfr_rf [(28, 24)] _) hc0 rfl) rfl) hRNSm26
        have hRTRm33 := zR_TR_fr (zdis_fr (zfr_up hmm33 (zfr_rf [(28, 24)] _) hc0 rfl) rfl) hRTRm26
        have hRWDm33 := zR_WD_fr (zdis_fr (zfr_up hmm33 (zfr_rf [(28, 24)] _) hc0 rfl) rfl) hRWDm26
        have hRCRm33 := zCR_cells (zone_190 hc0) hmm33 rfl hRCRm26
        have r34 : 1 ≤ (m33 a0 17) ∧ (m33 a0 17) ≤ 8 := zi_rd hIm33 hc0 zb_28_17
        have w35 := zu_w32_id (z := (m33 a0 17) - 1) (by omega) (by omega)
        refine zw_bd (zw_eq (zu_call_at (zt_T n) (zm_94 n) (zdp_94 n) _ _ _ _ _ rfl (zr_94_0 n _ _ a0 0 (zu_w32 ((m33 a0 17) - 1)) m33)) ?_)
        have r36 : 0 ≤ (m33 a0 8) ∧ (m33 a0 8) ≤ 6 := zi_rd hIm33 hc0 zb_28_8
        have e37 : (m33 a0 8) = (m26 a0 8) := (zs_ne hmm33 (Or.inr (by decide)))
        refine zw_ite (fun h38 => ?_) (fun h38 => ?_)
        · have s39 := (hRTRm26 a0 hc0).2.2 (by omega)
          have r40 : (-2147483648) ≤ (m33 a0 9) ∧ (m33 a0 9) ≤ 2147483647 := zi_rd hIm33 hc0 zb_28_9
          have e41 : (m33 a0 9) = (m26 a0 9) := (zs_ne hmm33 (Or.inr (by decide)))
          refine zw_bd (zw_eq (zu_call_at (zt_T n) (zm_83 n) (zdp_83 n) _ _ _ _ _ rfl (zr_83_0 n _ _ (m33 a0 9) 0 (zu_w32 ((m33 a0 17) - 1)) m33)) ?_)
          refine zw_ite (fun h42 => ?_) (fun h42 => ?_)
          · exfalso; omega
          · refine zw_ite (fun h43 => ?_) (fun h43 => ?_)
            · refine zw_b (by omega) ?_
              refine zw_some ?_
              refine zw_ite (fun h44 => ?_) (fun h44 => ?_)
              · exfalso; omega
              · refine zw_bd (zw_eq (zu_call_at (zt_T n) (zm_85 n) (zdp_85 n) _ _ _ _ _ rfl (zr_85_0 n _ _ a0 2 m33)) ?_)
                generalize hmm45 : zu_up m33 a0 4 2 = m45
                have hIm45 := zi_up hmm45 hIm33 hc0 zb_28_4 (by omega) (by omega)
                have hFm45 := zfr_up hmm45 hFm33 hc0 rfl
                have hRC0m45 := zR_C0_fr (zdis_fr (zfr_up hmm45 (zfr_rf [(28, 5)] _) hc0 rfl) rfl) hRC0m33
                have hRCRm45 := zR_CR_fr (zdis_fr (zfr_up hmm45 (zfr_rf [(28, 5)] _) hc0 rfl) rfl) hRCRm33
                have hRNSm45 := zR_NS_fr (zdis_fr (zfr_up hmm45 (zfr_rf [(28, 5)] _) hc0 rfl) rfl) hRNSm33
                have hRTRm45 := zR_TR_fr (zdis_fr (zfr_up hmm45 (zfr_rf [(28, 5)] _) hc0 rfl) rfl) hRTRm33
                have hRWDm45 := zR_WD_fr (zdis_fr (zfr_up hmm45 (zfr_rf [(28, 5)] _) hc0 rfl) rfl) hRWDm33
                have hRLRm45 := zLR_wr (zone_190 hc0) hmm45 (by decide)
                have r46 : 0 ≤ (m45 a0 10) ∧ (m45 a0 10) ≤ 700 := zi_rd hIm45 hc0 zb_28_10
                generalize hmm47 : zu_up m45 a0 5 (m45 a0 10) = m47
                have hIm47 := zi_up hmm47 hIm45 hc0 zb_28_5 (by omega) (by omega)
                have hFm47 := zfr_up hmm47 hFm45 hc0 rfl
                have hRC0m47 := zR_C0_fr (zdis_fr (zfr_up hmm47 (zfr_rf [(28, 6)] _) hc0 rfl) rfl) hRC0m45
                have hRCRm47 := zR_CR_fr (zdis_fr (zfr_up hmm47 (zfr_rf [(28, 6)] _) hc0 rfl) rfl) hRCRm45
                have hRLRm47 := zR_LR_fr (zdis_fr (zfr_up hmm47 (zfr_rf [(28, 6)] _) hc0 rfl) rfl) hRLRm45
                have hRNSm47 := zR_NS_fr (zdis_fr (zfr_up hmm47 (zfr_rf [(28, 6)] _) hc0 rfl) rfl) hRNSm45
                have hRTRm47 := zR_TR_fr (zdis_fr (zfr_up hmm47 (zfr_rf [(28, 6)] _) hc0 rfl) rfl) hRTRm45
                have hRWDm47 := zR_WD_fr (zdis_fr (zfr_up hmm47 (zfr_rf [(28, 6)] _) hc0 rfl) rfl) hRWDm45
                refine zw_b (by omega) ?_
                refine zw_some ?_
                refine zw_b (by omega) ?_
                refine zw_some ?_
                refine zw_ite (fun h48 => ?_) (fun h48 => ?_)
                · exfalso; omega
                · refine zw_b (by omega) ?_
                  refine zw_some ?_
                  refine zw_ite (fun h49 => ?_) (fun h49 => ?_)
                  · exfalso; omega
                  · refine zw_b (by omega) ?_
                    have r50 : 0 ≤ (m47 a0 7) ∧ (m47 a0 7) ≤ 700 := zi_rd hIm47 hc0 zb_28_7
                    have e51 : (m47 a0 7) = (m26 a0 7) := (Eq.trans (zs_ne hmm47 (Or.inr (by decide))) (Eq.trans (zs_ne hmm45 (Or.inr (by decide))) (zs_ne hmm33 (Or.inr (by decide)))))
                    have r52 : 0 ≤ (m47 a0 8) ∧ (m47 a0 8) ≤ 6 := zi_rd hIm47 hc0 zb_28_8
                    have e53 : (m47 a0 8) = (m33 a0 8) := (Eq.trans (zs_ne hmm47 (Or.inr (by decide))) (zs_ne hmm45 (Or.inr (by decide))))
                    have r54 : (-2147483648) ≤ (m47 a0 4) ∧ (m47 a0 4) ≤ 2147483647 := zi_rd hIm47 hc0 zb_28_4
                    have e55 : (m47 a0 4) = 2 := (Eq.trans (zs_ne hmm47 (Or.inr (by decide))) (zs_eq hmm45))
                    exact zw_some ⟨hIm47, hFm47, hRC0m47, hRCRm47, hRLRm47, hRNSm47, hRTRm47, hRWDm47, ⟨by decide, by decide⟩, by omega, fun h => absurd h (by decide), fun h => absurd h (by decide)⟩
            · refine zw_b (by omega) ?_
              refine zw_some ?_
              refine zw_ite (fun h56 => ?_) (fun h56 => ?_)
              · generalize hmm57 : zu_up m33 a0 11 (m33 a0 9) = m57
                have hIm57 := zi_up hmm57 hIm33 hc0 zb_28_11 (by omega) (by omega)
                have hFm57 := zfr_up hmm57 hFm33 hc0 rfl
                have hRC0m57 := zR_C0_fr (zdis_fr (zfr_up hmm57 (zfr_rf [(28, 12)] _) hc0 rfl) rfl) hRC0m33
                have hRCRm57 := zR_CR_fr (zdis_fr (zfr_up hmm57 (zfr_rf [(28, 12)] _) hc0 rfl) rfl) hRCRm33
                have hRLRm57 := zR_LR_fr (zdis_fr (zfr_up hmm57 (zfr_rf [(28, 12)] _) hc0 rfl) rfl) hRLRm33
                have hRNSm57 := zR_NS_fr (zdis_fr (zfr_up hmm57 (zfr_rf [(28, 12)] _) hc0 rfl) rfl) hRNSm33
                have hRTRm57 := zR_TR_fr (zdis_fr (zfr_up hmm57 (zfr_rf [(28, 12)] _) hc0 rfl) rfl) hRTRm33
                have hRWDm57 := zR_WD_fr (zdis_fr (zfr_up hmm57 (zfr_rf [(28, 12)] _) hc0 rfl) rfl) hRWDm33
                have r60 : 0 ≤ (m57 a0 7) ∧ (m57 a0 7) ≤ 700 := zi_rd hIm57 hc0 zb_28_7
                have e61 : (m57 a0 7) = (m26 a0 7) := (Eq.trans (zs_ne hmm57 (Or.inr (by decide))) (zs_ne hmm33 (Or.inr (by decide))))
                refine zw_bd (zw_mono (zk_89 n hIm57 hc0 hRNSm57 hRWDm57) (fun v59 m58 hqm58 => ?_))
                obtain ⟨hIm58, hfm58, hvm58⟩ := hqm58
                have hFm58 := zfr_tr hFm57 hfm58 rfl
                obtain ⟨hRNSm58, hRTRm58, hRWDm58, hvm58⟩ := hvm58
                have hRC0m58 := zR_C0_fr (zdis_fr hfm58 rfl) hRC0m57
                have hRCRm58 := zR_CR_fr (zdis_fr hfm58 rfl) hRCRm57
                have hRLRm58 := zR_LR_fr (zdis_fr hfm58 rfl) hRLRm57
                have s62 := hRNSm58 a0 hc0
                have r63 : 0 ≤ (m58 a0 7) ∧ (m58 a0 7) ≤ 700 := zi_rd hIm58 hc0 zb_28_7
                have r64 : 0 ≤ (m58 a0 8) ∧ (m58 a0 8) ≤ 6 := zi_rd hIm58 hc0 zb_28_8
                refine zw_b (by omega) ?_
                refine zw_some ?_
                refine zw_ite (fun h65 => ?_) (fun h65 => ?_)
                · have r66 : (-2147483648) ≤ (m58 a0 11) ∧ (m58 a0 11) ≤ 2147483647 := zi_rd hIm58 hc0 zb_28_11
                  have e67 : (m58 a0 11) = (m33 a0 9) := (Eq.trans (zfr_ap hfm58 hc0 rfl) (zs_eq hmm57))
                  have r68 : 0 ≤ (m58 a0 10) ∧ (m58 a0 10) ≤ 700 := zi_rd hIm58 hc0 zb_28_10
                  generalize hmm69 : zu_up m58 a0 42 (m58 a0 10) = m69
                  have hIm69 := zi_up hmm69 hIm58 hc0 zb_28_42 (by omega) (by omega)
                  have hFm69 := zfr_up hmm69 hFm58 hc0 rfl
                  have hRC0m69 := zR_C0_fr (zdis_fr (zfr_up hmm69 (zfr_rf [(28, 43)] _) hc0 rfl) rfl) hRC0m58
                  have hRCRm69 := zR_CR_fr (zdis_fr (zfr_up hmm69 (zfr_rf [(28, 43)] _) hc0 rfl) rfl) hRCRm58
                  have hRLRm69 := zR_LR_fr (zdis_fr (zfr_up hmm69 (zfr_rf [(28, 43)] _) hc0 rfl) rfl) hRLRm58
                  have hRNSm69 := zR_NS_fr (zdis_fr (zfr_up hmm69 (zfr_rf [(28, 43)] _) hc0 rfl) rfl) hRNSm58
                  have hRTRm69 := zR_TR_fr (zdis_fr (zfr_up hmm69 (zfr_rf [(28, 43)] _) hc0 rfl) rfl) hRTRm58
                  have hRWDm69 := zR_WD_fr (zdis_fr (zfr_up hmm69 (zfr_rf [(28, 43)] _) hc0 rfl) rfl) hRWDm58
                  have r70 : 1 ≤ (m69 a0 18) ∧ (m69 a0 18) ≤ 6 := zi_rd hIm69 hc0 zb_28_18
                  have w71 := zu_w32_id (z := (m69 a0 18) - 1) (by omega) (by omega)
                  refine zw_bd (zw_eq (zu_call_at (zt_T n) (zm_94 n) (zdp_94 n) _ _ _ _ _ rfl (zr_94_0 n _ _ a0 0 (zu_w32 ((m69 a0 18) - 1)) m69)) ?_)
                  have r72 : 0 ≤ (m69 a0 8) ∧ (m69 a0 8) ≤ 6 := zi_rd hIm69 hc0 zb_28_8
                  have e73 : (m69 a0 8) = (m58 a0 8) := (zs_ne hmm69 (Or.inr (by decide)))
                  refine zw_ite (fun h74 => ?_) (fun h74 => ?_)
                  · have s75 := (hRTRm58 a0 hc0).2.2 (by omega)
                    have r76 : (-2147483648) ≤ (m69 a0 9) ∧ (m69 a0 9) ≤ 2147483647 := zi_rd hIm69 hc0 zb_28_9
                    have e77 : (m69 a0 9) = (m58 a0 9) := (zs_ne hmm69 (Or.inr (by decide)))
                    refine zw_bd (zw_eq (zu_call_at (zt_T n) (zm_83 n) (zdp_83 n) _ _ _ _ _ rfl (zr_83_0 n _ _ (m69 a0 9) 0 (zu_w32 ((m69 a0 18) - 1)) m69)) ?_)
                    refine zw_ite (fun h78 => ?_) (fun h78 => ?_)
                    · exfalso; omega
                    · refine zw_ite (fun h79 => ?_) (fun h79 => ?_)
                      · refine zw_b (by omega) ?_
                        refine zw_some ?_
                        refine zw_ite (fun h80 => ?_) (fun h80 => ?_)
                        · exfalso; omega
                        · refine zw_bd (zw_eq (zu_call_at (zt_T n) (zm_85 n) (zdp_85 n) _ _ _ _ _ rfl (zr_85_0 n _ _ a0 2 m69)) ?_)
                          generalize hmm81 : zu_up m69 a0 4 2 = m81
                          have hIm81 := zi_up hmm81 hIm69 hc0 zb_28_4 (by omega) (by omega)
                          have hFm81 := zfr_up hmm81 hFm69 hc0 rfl
                          have hRC0m81 := zR_C0_fr (zdis_fr (zfr_up hmm81 (zfr_rf [(28, 5)] _) hc0 rfl) rfl) hRC0m69
                          have hRCRm81 := zR_CR_fr (zdis_fr (zfr_up hmm81 (zfr_rf [(28, 5)] _) hc0 rfl) rfl) hRCRm69
                          have hRNSm81 := zR_NS_fr (zdis_fr (zfr_up hmm81 (zfr_rf [(28, 5)] _) hc0 rfl) rfl) hRNSm69
                          have hRTRm81 := zR_TR_fr (zdis_fr (zfr_up hmm81 (zfr_rf [(28, 5)] _) hc0 rfl) rfl) hRTRm69
                          have hRWDm81 := zR_WD_fr (zdis_fr (zfr_up hmm81 (zfr_rf [(28, 5)] _) hc0 rfl) rfl) hRWDm69
                          have hRLRm81 := zLR_wr (zone_190 hc0) hmm81 (by decide)
                          have r82 : 0 ≤ (m81 a0 10) ∧ (m81 a0 10) ≤ 700 := zi_rd hIm81 hc0 zb_28_10
                          have e83 : (m81 a0 10) = (m58 a0 10) := (Eq.trans (zs_ne hmm81 (Or.inr (by decide))) (zs_ne hmm69 (Or.inr (by decide))))
                          generalize hmm84 : zu_up m81 a0 5 (m81 a0 10) = m84
                          have hIm84 := zi_up hmm84 hIm81 hc0 zb_28_5 (by omega) (by omega)
                          have hFm84 := zfr_up hmm84 hFm81 hc0 rfl
                          have hRC0m84 := zR_C0_fr (zdis_fr (zfr_up hmm84 (zfr_rf [(28, 6)] _) hc0 rfl) rfl) hRC0m81
                          have hRCRm84 := zR_CR_fr (zdis_fr (zfr_up hmm84 (zfr_rf [(28, 6)] _) hc0 rfl) rfl) hRCRm81
                          have hRLRm84 := zR_LR_fr (zdis_fr (zfr_up hmm84 (zfr_rf [(28, 6)] _) hc0 rfl) rfl) hRLRm81
                          have hRNSm84 := zR_NS_fr (zdis_fr (zfr_up hmm84 (zfr_rf [(28, 6)] _) hc0 rfl) rfl) hRNSm81
                          have hRTRm84 := zR_TR_fr (zdis_fr (zfr_up hmm84 (zfr_rf [(28, 6)] _) hc0 rfl) rfl) hRTRm81
                          have hRWDm84 := zR_WD_fr (zdis_fr (zfr_up hmm84 (zfr_rf [(28, 6)] _) hc0 rfl) rfl) hRWDm81
                          refine zw_b (by omega) ?_
                          refine zw_some ?_
                          refine zw_b (by omega) ?_
                          refine zw_some ?_
                          refine zw_ite (fun h85 => ?_) (fun h85 => ?_)
                          · exfalso; omega
                          · refine zw_b (by omega) ?_
                            refine zw_some ?_
                            refine zw_ite (fun h86 => ?_) (fun h86 => ?_)
                            · exfalso; omega
                            · refine zw_b (by omega) ?_
                              have r87 : 0 ≤ (m84 a0 7) ∧ (m84 a0 7) ≤ 700 := zi_rd hIm84 hc0 zb_28_7
                              have e88 : (m84 a0 7) = (m58 a0 7) := (Eq.trans (zs_ne hmm84 (Or.inr (by decide))) (Eq.trans (zs_ne hmm81 (Or.inr (by decide))) (zs_ne hmm69 (Or.inr (by decide)))))
                              have r89 : 0 ≤ (m84 a0 8) ∧ (m84 a0 8) ≤ 6 := zi_rd hIm84 hc0 zb_28_8
                              have e90 : (m84 a0 8) = (m69 a0 8) := (Eq.trans (zs_ne hmm84 (Or.inr (by decide))) (zs_ne hmm81 (Or.inr (by decide))))
                              have r91 : (-2147483648) ≤ (m84 a0 4) ∧ (m84 a0 4) ≤ 2147483647 := zi_rd hIm84 hc0 zb_28_4
                              have e92 : (m84 a0 4) = 2 := (Eq.trans (zs_ne hmm84 (Or.inr (by decide))) (zs_eq hmm81))
                              exact zw_some ⟨hIm84, hFm84, hRC0m84, hRCRm84, hRLRm84, hRNSm84, hRTRm84, hRWDm84, ⟨by decide, by decide⟩, by omega, fun h => absurd h (by decide), fun h => absurd h (by decide)⟩
                      · refine zw_b (by omega) ?_
                        refine zw_some ?_
                        refine zw_ite (fun h93 => ?_) (fun h93 => ?_)
                        · generalize hmm94 : zu_up m69 a0 11 (m69 a0 9) = m94
                          have hIm94 := zi_up hmm94 hIm69 hc0 zb_28_11 (by omega) (by omega)
                          have hFm94 := zfr_up hmm94 hFm69 hc0 rfl
                          have hRC0m94 := zR_C0_fr (zdis_fr (zfr_up hmm94 (zfr_rf [(28, 12)] _) hc0 rfl) rfl) hRC0m69
                          have hRCRm94 := zR_CR_fr (zdis_fr (zfr_up hmm94 (zfr_rf [(28, 12)] _) hc0 rfl) rfl) hRCRm69
                          have hRLRm94 := zR_LR_fr (zdis_fr (zfr_up hmm94 (zfr_rf [(28, 12)] _) hc0 rfl) rfl) hRLRm69
                          have hRNSm94 := zR_NS_fr (zdis_fr (zfr_up hmm94 (zfr_rf [(28, 12)] _) hc0 rfl) rfl) hRNSm69
                          have hRTRm94 := zR_TR_fr (zdis_fr (zfr_up hmm94 (zfr_rf [(28, 12)] _) hc0 rfl) rfl) hRTRm69
                          have hRWDm94 := zR_WD_fr (zdis_fr (zfr_up hmm94 (zfr_rf [(28, 12)] _) hc0 rfl) rfl) hRWDm69
                          have r97 : 0 ≤ (m94 a0 7) ∧ (m94 a0 7) ≤ 700 := zi_rd hIm94 hc0 zb_28_7
                          have e98 : (m94 a0 7) = (m58 a0 7) := (Eq.trans (zs_ne hmm94 (Or.inr (by decide))) (zs_ne hmm69 (Or.inr (by decide))))
                          refine zw_bd (zw_mono (zk_89 n hIm94 hc0 hRNSm94 hRWDm94) (fun v96 m95 hqm95 => ?_))
                          obtain ⟨hIm95, hfm95, hvm95⟩ := hqm95
                          have hFm95 := zfr_tr hFm94 hfm95 rfl
                          obtain ⟨hRNSm95, hRTRm95, hRWDm95, hvm95⟩ := hvm95
                          have hRC0m95 := zR_C0_fr (zdis_fr hfm95 rfl) hRC0m94
                          have hRCRm95 := zR_CR_fr (zdis_fr hfm95 rfl) hRCRm94
                          have hRLRm95 := zR_LR_fr (zdis_fr hfm95 rfl) hRLRm94
                          have s99 := hRNSm95 a0 hc0
                          have r100 : 0 ≤ (m95 a0 7) ∧ (m95 a0 7) ≤ 700 := zi_rd hIm95 hc0 zb_28_7
                          have r101 : 0 ≤ (m95 a0 8) ∧ (m95 a0 8) ≤ 6 := zi_rd hIm95 hc0 zb_28_8
                          refine zw_b (by omega) ?_
                          refine zw_some ?_
                          refine zw_ite (fun h102 => ?_) (fun h102 => ?_)
                          · have r103 : 1 ≤ (m95 a0 17) ∧ (m95 a0 17) ≤ 8 := zi_rd hIm95 hc0 zb_28_17
                            have e104 : (m95 a0 17) = (m33 a0 17) := (Eq.trans (zfr_ap hfm95 hc0 rfl) (Eq.trans (zs_ne hmm94 (Or.inr (by decide))) (Eq.trans (zs_ne hmm69 (Or.inr (by decide))) (Eq.trans (zfr_ap hfm58 hc0 rfl) (zs_ne hmm57 (Or.inr (by decide)))))))
                            have r105 : (-2147483648) ≤ (m95 a0 11) ∧ (m95 a0 11) ≤ 2147483647 := zi_rd hIm95 hc0 zb_28_11
                            have e106 : (m95 a0 11) = (m69 a0 9) := (Eq.trans (zfr_ap hfm95 hc0 rfl) (zs_eq hmm94))
                            have p107 := zmul_bd (x := (m95 a0 17)) (y := (m95 a0 11)) (a := 1) (b := 0) (A := 8) (B := 5) (by omega) (by omega) (by omega) (by omega) (by omega) (by omega)
                            have w108 := zu_w32_id (z := (m95 a0 17) * (m95 a0 11)) (by omega) (by omega)
                            have w109 := zu_w32_id (z := (zu_w32 ((m95 a0 17) * (m95 a0 11))) + (m58 a0 11)) (by omega) (by omega)
                            have r110 : 1 ≤ (m95 a0 18) ∧ (m95 a0 18) ≤ 6 := zi_rd hIm95 hc0 zb_28_18
                            have e111 : (m95 a0 18) = (m69 a0 18) := (Eq.trans (zfr_ap hfm95 hc0 rfl) (zs_ne hmm94 (Or.inr (by decide))))
                            have hgl : (zu_w32 ((zu_w32 ((m95 a0 17) * (m95 a0 11))) + (m58 a0 11))) < (m95 a0 17) * (m95 a0 18) := zcell_lt2 (n := (m95 a0 11)) (x := (m58 a0 11)) rfl (by omega) (by omega) (by omega) (by omega) (by omega)
                            generalize hmm112 : zu_up m95 a0 11 (zu_w32 ((zu_w32 ((m95 a0 17) * (m95 a0 11))) + (m58 a0 11))) = m112
                            have hIm112 := zi_up hmm112 hIm95 hc0 zb_28_11 (by omega) (by omega)
                            have hFm112 := zfr_up hmm112 hFm95 hc0 rfl
                            have hRC0m112 := zR_C0_fr (zdis_fr (zfr_up hmm112 (zfr_rf [(28, 12)] _) hc0 rfl) rfl) hRC0m95
                            have hRCRm112 := zR_CR_fr (zdis_fr (zfr_up hmm112 (zfr_rf [(28, 12)] _) hc0 rfl) rfl) hRCRm95
                            have hRLRm112 := zR_LR_fr (zdis_fr (zfr_up hmm112 (zfr_rf [(28, 12)] _) hc0 rfl) rfl) hRLRm95
                            have hRNSm112 := zR_NS_fr (zdis_fr (zfr_up hmm112 (zfr_rf [(28, 12)] _) hc0 rfl) rfl) hRNSm95
                            have hRTRm112 := zR_TR_fr (zdis_fr (zfr_up hmm112 (zfr_rf [(28, 12)] _) hc0 rfl) rfl) hRTRm95
                            have hRWDm112 := zR_WD_fr (zdis_fr (zfr_up hmm112 (zfr_rf [(28, 12)] _) hc0 rfl) rfl) hRWDm95
                            refine zw_b (by omega) ?_
                            refine zw_some ?_
                            refine zw_ite (fun h113 => ?_) (fun h113 => ?_)
                            · have r114 : (-2147483648) ≤ (m112 a0 11) ∧ (m112 a0 11) ≤ 2147483647 := zi_rd hIm112 hc0 zb_28_11
                              have e115 : (m112 a0 11) = (zu_w32 ((zu_w32 ((m95 a0 17) * (m95 a0 11))) + (m58 a0 11))) := (zs_eq hmm112)
                              have b116 : 0 ≤ (zu_w32 (4 + (m15 a0 20))) ∧ (zu_w32 (4 + (m15 a0 20))) < 8 := by omega
                              refine zw_if b116 ?_
                              generalize hmm117 : zu_up m112 201 (zu_w32 (4 + (m15 a0 20))) (m112 a0 11) = m117
                              have hIm117 := zi_up hmm117 hIm112 zq_201 (zb_110 _) (by omega) (by omega)
                              have hFm117 := zfr_up hmm117 hFm112 zq_201 rfl
                              have hRLRm117 := zR_LR_fr (zdis_fr (zfr_up hmm117 (zfr_rf [(110, 0)] _) zq_201 rfl) rfl) hRLRm112
                              have hRNSm117 := zR_NS_fr (zdis_fr (zfr_up hmm117 (zfr_rf [(110, 0)] _) zq_201 rfl) rfl) hRNSm112
                              have hRTRm117 := zR_TR_fr (zdis_fr (zfr_up hmm117 (zfr_rf [(110, 0)] _) zq_201 rfl) rfl) hRTRm112
                              have hRWDm117 := zR_WD_fr (zdis_fr (zfr_up hmm117 (zfr_rf [(110, 0)] _) zq_201 rfl) rfl) hRWDm112
                              have r118 : 0 ≤ (m112 a0 20) ∧ (m112 a0 20) ≤ 4 := zi_rd hIm112 hc0 zb_28_20
                              have e119 : (m112 a0 20) = (m15 a0 20) := (Eq.trans (zs_ne hmm112 (Or.inr (by decide))) (Eq.trans (zfr_ap hfm95 hc0 rfl) (Eq.trans (zs_ne hmm94 (Or.inr (by decide))) (Eq.trans (zs_ne hmm69 (Or.inr (by decide))) (Eq.trans (zfr_ap hfm58 hc0 rfl) (Eq.trans (zs_ne hmm57 (Or.inr (by decide))) (Eq.trans (zs_ne hmm33 (Or.inr (by decide))) (Eq.trans (zfr_ap hfm26 hc0 rfl) (zs_ne hmm25 (Or.inl (zc_ne hc0 zq_200 (by decide))))))))))))
                              have hRC0m117 := zC0_hi hmm117 (by omega) hRC0m112
                              have hRCRm117 := zCR_hi (zone_190 hc0) hmm117 (by omega) hRCRm112
                              refine zw_bd (zw_eq (zu_call_at (zt_T n) (zm_94 n) (zdp_94 n) _ _ _ _ _ rfl (zr_94_0 n _ _ a0 1 15 m117)) ?_)
                              have r120 : 0 ≤ (m117 a0 8) ∧ (m117 a0 8) ≤ 6 := zi_rd hIm117 hc0 zb_28_8
                              have e121 : (m117 a0 8) = (m95 a0 8) := (Eq.trans (zs_ne hmm117 (Or.inl (zc_ne hc0 zq_201 (by decide)))) (zs_ne hmm112 (Or.inr (by decide))))
                              refine zw_ite (fun h122 => ?_) (fun h122 => ?_)
                              · have s123 := (hRTRm95 a0 hc0).2.2 (by omega)
                                have r124 : (-2147483648) ≤ (m117 a0 9) ∧ (m117 a0 9) ≤ 2147483647 := zi_rd hIm117 hc0 zb_28_9
                                have e125 : (m117 a0 9) = (m95 a0 9) := (Eq.trans (zs_ne hmm117 (Or.inl (zc_ne hc0 zq_201 (by decide)))) (zs_ne hmm112 (Or.inr (by decide))))
                                refine zw_bd (zw_eq (zu_call_at (zt_T n) (zm_83 n) (zdp_83 n) _ _ _ _ _ rfl (zr_83_0 n _ _ (m117 a0 9) 1 15 m117)) ?_)
                                refine zw_ite (fun h126 => ?_) (fun h126 => ?_)
                                · refine zw_b (by omega) ?_
                                  refine zw_some ?_
                                  refine zw_ite (fun h127 => ?_) (fun h127 => ?_)
                                  · exfalso; omega
                                  · refine zw_bd (zw_eq (zu_call_at (zt_T n) (zm_85 n) (zdp_85 n) _ _ _ _ _ rfl (zr_85_0 n _ _ a0 2 m117)) ?_)
                                    generalize hmm128 : zu_up m117 a0 4 2 = m128
                                    have hIm128 := zi_up hmm128 hIm117 hc0 zb_28_4 (by omega) (by omega)
                                    have hFm128 := zfr_up hmm128 hFm117 hc0 rfl
                                    have hRC0m128 := zR_C0_fr (zdis_fr (zfr_up hmm128 (zfr_rf [(28, 5)] _) hc0 rfl) rfl) hRC0m117
                                    have hRCRm128 := zR_CR_fr (zdis_fr (zfr_up hmm128 (zfr_rf [(28, 5)] _) hc0 rfl) rfl) hRCRm117
                                    have hRNSm128 := zR_NS_fr (zdis_fr (zfr_up hmm128 (zfr_rf [(28, 5)] _) hc0 rfl) rfl) hRNSm117
                                    have hRTRm128 := zR_TR_fr (zdis_fr (zfr_up hmm128 (zfr_rf [(28, 5)] _) hc0 rfl) rfl) hRTRm117
                                    have hRWDm128 := zR_WD_fr (zdis_fr (zfr_up hmm128 (zfr_rf [(28, 5)] _) hc0 rfl) rfl) hRWDm117
                                    have hRLRm128 := zLR_wr (zone_190 hc0) hmm128 (by decide)
                                    have r129 : 0 ≤ (m128 a0 10) ∧ (m128 a0 10) ≤ 700 := zi_rd hIm128 hc0 zb_28_10
                                    generalize hmm130 : zu_up m128 a0 5 (m128 a0 10) = m130
                                    have hIm130 := zi_up hmm130 hIm128 hc0 zb_28_5 (by omega) (by omega)
                                    have hFm130 := zfr_up hmm130 hFm128 hc0 rfl
                                    have hRC0m130 := zR_C0_fr (zdis_fr (zfr_up hmm130 (zfr_rf [(28, 6)] _) hc0 rfl) rfl) hRC0m128
                                    have hRCRm130 := zR_CR_fr (zdis_fr (zfr_up hmm130 (zfr_rf [(28, 6)] _) hc0 rfl) rfl) hRCRm128
                                    have hRLRm130 := zR_LR_fr (zdis_fr (zfr_up hmm130 (zfr_rf [(28, 6)] _) hc0 rfl) rfl) hRLRm128
                                    have hRNSm130 := zR_NS_fr (zdis_fr (zfr_up hmm130 (zfr_rf [(28, 6)] _) hc0 rfl) rfl) hRNSm128
                                    have hRTRm130 := zR_TR_fr (zdis_fr (zfr_up hmm130 (zfr_rf [(28, 6)] _) hc0 rfl) rfl) hRTRm128
                                    have hRWDm130 := zR_WD_fr (zdis_fr (zfr_up hmm130 (zfr_rf [(28, 6)] _) hc0 rfl) rfl) hRWDm128
                                    refine zw_b (by omega) ?_
                                    refine zw_some ?_
                                    refine zw_b (by omega) ?_
                                    refine zw_some ?_
                                    refine zw_ite (fun h131 => ?_) (fun h131 => ?_)
                                    · exfalso; omega
                                    · refine zw_b (by omega) ?_
                                      have r132 : 0 ≤ (m130 a0 7) ∧ (m130 a0 7) ≤ 700 := zi_rd hIm130 hc0 zb_28_7
                                      have e133 : (m130 a0 7) = (m95 a0 7) := (Eq.trans (zs_ne hmm130 (Or.inr (by decide))) (Eq.trans (zs_ne hmm128 (Or.inr (by decide))) (Eq.trans (zs_ne hmm117 (Or.inl (zc_ne hc0 zq_201 (by decide)))) (zs_ne hmm112 (Or.inr (by decide))))))
                                      have r134 : 0 ≤ (m130 a0 8) ∧ (m130 a0 8) ≤ 6 := zi_rd hIm130 hc0 zb_28_8
                                      have e135 : (m130 a0 8) = (m117 a0 8) := (Eq.trans (zs_ne hmm130 (Or.inr (by decide))) (zs_ne hmm128 (Or.inr (by decide))))
                                      have r136 : (-2147483648) ≤ (m130 a0 4) ∧ (m130 a0 4) ≤ 2147483647 := zi_rd hIm130 hc0 zb_28_4
                                      have e137 : (m130 a0 4) = 2 := (Eq.trans (zs_ne hmm130 (Or.inr (by decide))) (zs_eq hmm128))
                                      exact zw_some ⟨hIm130, hFm130, hRC0m130, hRCRm130, hRLRm130, hRNSm130, hRTRm130, hRWDm130, ⟨by decide, by decide⟩, by omega, fun h => absurd h (by decide), fun h => absurd h (by decide)⟩
                                · refine zw_ite (fun h138 => ?_) (fun h138 => ?_)
                                  · refine zw_b (by omega) ?_
                                    refine zw_some ?_
                                    refine zw_ite (fun h139 => ?_) (fun h139 => ?_)
                                    · exfalso; omega
                                    · refine zw_bd (zw_eq (zu_call_at (zt_T n) (zm_85 n) (zdp_85 n) _ _ _ _ _ rfl (zr_85_0 n _ _ a0 2 m117)) ?_)
                                      generalize hmm140 : zu_up m117 a0 4 2 = m140
                                      have hIm140 := zi_up hmm140 hIm117 hc0 zb_28_4 (by omega) (by omega)
                                      have hFm140 := zfr_up hmm140 hFm117 hc0 rfl
                                      have hRC0m140 := zR_C0_fr (zdis_fr (zfr_up hmm140 (zfr_rf [(28, 5)] _) hc0 rfl) rfl) hRC0m117
                                      have hRCRm140 := zR_CR_fr (zdis_fr (zfr_up hmm140 (zfr_rf [(28, 5)] _) hc0 rfl) rfl) hRCRm117
                                      have hRNSm140 := zR_NS_fr (zdis_fr (zfr_up hmm140 (zfr_rf [(28, 5)] _) hc0 rfl) rfl) hRNSm117
                                      have hRTRm140 := zR_TR_fr (zdis_fr (zfr_up hmm140 (zfr_rf [(28, 5)] _) hc0 rfl) rfl) hRTRm117
                                      have hRWDm140 := zR_WD_fr (zdis_fr (zfr_up hmm140 (zfr_rf [(28, 5)] _) hc0 rfl) rfl) hRWDm117
                                      have hRLRm140 := zLR_wr (zone_190 hc0) hmm140 (by decide)
                                      have r141 : 0 ≤ (m140 a0 10) ∧ (m140 a0 10) ≤ 700 := zi_rd hIm140 hc0 zb_28_10
                                      generalize hmm142 : zu_up m140 a0 5 (m140 a0 10) = m142
                                      have hIm142 := zi_up hmm142 hIm140 hc0 zb_28_5 (by omega) (by omega)
                                      have hFm142 := zfr_up hmm142 hFm140 hc0 rfl
                                      have hRC0m142 := zR_C0_fr (zdis_fr (zfr_up hmm142 (zfr_rf [(28, 6)] _) hc0 rfl) rfl) hRC0m140
                                      have hRCRm142 := zR_CR_fr (zdis_fr (zfr_up hmm142 (zfr_rf [(28, 6)] _) hc0 rfl) rfl) hRCRm140
                                      have hRLRm142 := zR_LR_fr (zdis_fr (zfr_up hmm142 (zfr_rf [(28, 6)] _) hc0 rfl) rfl) hRLRm140
                                      have hRNSm142 := zR_NS_fr (zdis_fr (zfr_up hmm142 (zfr_rf [(28, 6)] _) hc0 rfl) rfl) hRNSm140
                                      have hRTRm142 := zR_TR_fr (zdis_fr (zfr_up hmm142 (zfr_rf [(28, 6)] _) hc0 rfl) rfl) hRTRm140
                                      have hRWDm142 := zR_WD_fr (zdis_fr (zfr_up hmm142 (zfr_rf [(28, 6)] _) hc0 rfl) rfl) hRWDm140
                                      refine zw_b (by omega) ?_
                                      refine zw_some ?_
                                      refine zw_b (by omega) ?_
                                      refine zw_some ?_
                                      refine zw_ite (fun h143 => ?_) (fun h143 => ?_)
                                      · exfalso; omega
                                      · refine zw_b (by omega) ?_
                                        have r144 : 0 ≤ (m142 a0 7) ∧ (m142 a0 7) ≤ 700 := zi_rd hIm142 hc0 zb_28_7
                                        have e145 : (m142 a0 7) = (m95 a0 7) := (Eq.trans (zs_ne hmm142 (Or.inr (by decide))) (Eq.trans (zs_ne hmm140 (Or.inr (by decide))) (Eq.trans (zs_ne hmm117 (Or.inl (zc_ne hc0 zq_201 (by decide)))) (zs_ne hmm112 (Or.inr (by decide))))))
                                        have r146 : 0 ≤ (m142 a0 8) ∧ (m142 a0 8) ≤ 6 := zi_rd hIm142 hc0 zb_28_8
                                        have e147 : (m142 a0 8) = (m117 a0 8) := (Eq.trans (zs_ne hmm142 (Or.inr (by decide))) (zs_ne hmm140 (Or.inr (by decide))))
                                        have r148 : (-2147483648) ≤ (m142 a0 4) ∧ (m142 a0 4) ≤ 2147483647 := zi_rd hIm142 hc0 zb_28_4
                                        have e149 : (m142 a0 4) = 2 := (Eq.trans (zs_ne hmm142 (Or.inr (by decide))) (zs_eq hmm140))
                                        exact zw_some ⟨hIm142, hFm142, hRC0m142, hRCRm142, hRLRm142, hRNSm142, hRTRm142, hRWDm142, ⟨by decide, by decide⟩, by omega, fun h => absurd h (by decide), fun h => absurd h (by decide)⟩
                                  · refine zw_b (by omega) ?_
                                    refine zw_some ?_
                                    refine zw_ite (fun h150 => ?_) (fun h150 => ?_)
                                    · generalize hmm151 : zu_up m117 a0 11 (m117 a0 9) = m151
                                      have hIm151 := zi_up hmm151 hIm117 hc0 zb_28_11 (by omega) (by omega)
                                      have hFm151 := zfr_up hmm151 hFm117 hc0 rfl
                                      have hRC0m151 := zR_C0_fr (zdis_fr (zfr_up hmm151 (zfr_rf [(28, 12)] _) hc0 rfl) rfl) hRC0m117
                                      have hRCRm151 := zR_CR_fr (zdis_fr (zfr_up hmm151 (zfr_rf [(28, 12)] _) hc0 rfl) rfl) hRCRm117
                                      have hRLRm151 := zR_LR_fr (zdis_fr (zfr_up hmm151 (zfr_rf [(28, 12)] _) hc0 rfl) rfl) hRLRm117
                                      have hRNSm151 := zR_NS_fr (zdis_fr (zfr_up hmm151 (zfr_rf [(28, 12)] _) hc0 rfl) rfl) hRNSm117
                                      have hRTRm151 := zR_TR_fr (zdis_fr (zfr_up hmm151 (zfr_rf [(28, 12)] _) hc0 rfl) rfl) hRTRm117
                                      have hRWDm151 := zR_WD_fr (zdis_fr (zfr_up hmm151 (zfr_rf [(28, 12)] _) hc0 rfl) rfl) hRWDm117
                                      have r154 : 0 ≤ (m151 a0 7) ∧ (m151 a0 7) ≤ 700 := zi_rd hIm151 hc0 zb_28_7
                                      have e155 : (m151 a0 7) = (m95 a0 7) := (Eq.trans (zs_ne hmm151 (Or.inr (by decide))) (Eq.trans (zs_ne hmm117 (Or.inl (zc_ne hc0 zq_201 (by decide)))) (zs_ne hmm112 (Or.inr (by decide)))))
                                      refine zw_bd (zw_mono (zk_89 n hIm151 hc0 hRNSm151 hRWDm151) (fun v153 m152 hqm152 => ?_))
                                      obtain ⟨hIm152, hfm152, hvm152⟩ := hqm152
                                      have hFm152 := zfr_tr hFm151 hfm152 rfl
                                      obtain ⟨hRNSm152, hRTRm152, hRWDm152, hvm152⟩ := hvm152
                                      have hRC0m152 := zR_C0_fr (zdis_fr hfm152 rfl) hRC0m151
                                      have hRCRm152 := zR_CR_fr (zdis_fr hfm152 rfl) hRCRm151
                                      have hRLRm152 := zR_LR_fr (zdis_fr hfm152 rfl) hRLRm151
                                      have s156 := hRNSm152 a0 hc0
                                      have r157 : 0 ≤ (m152 a0 7) ∧ (m152 a0 7) ≤ 700 := zi_rd hIm152 hc0 zb_28_7
                                      have r158 : 0 ≤ (m152 a0 8) ∧ (m152 a0 8) ≤ 6 := zi_rd hIm152 hc0 zb_28_8
                                      refine zw_b (by omega) ?_
                                      refine zw_some ?_
                                      refine zw_ite (fun h159 => ?_) (fun h159 => ?_)
                                      · have r160 : (-2147483648) ≤ (m152 a0 11) ∧ (m152 a0 11) ≤ 2147483647 := zi_rd hIm152 hc0 zb_28_11
                                        have e161 : (m152 a0 11) = (m117 a0 9) := (Eq.trans (zfr_ap hfm152 hc0 rfl) (zs_eq hmm151))
                                        have b162 : 0 ≤ (zu_w32 (4 + (m15 a0 20))) ∧ (zu_w32 (4 + (m15 a0 20))) < 8 := by omega
                                        refine zw_if b162 ?_
                                        generalize hmm163 : zu_up m152 202 (zu_w32 (4 + (m15 a0 20))) (m152 a0 11) = m163
                                        have hIm163 := zi_up hmm163 hIm152 zq_202 (zb_111 _) (by omega) (by omega)
                                        have hFm163 := zfr_up hmm163 hFm152 zq_202 rfl
                                        have hRC0m163 := zR_C0_fr (zdis_fr (zfr_up hmm163 (zfr_rf [(111, 0)] _) zq_202 rfl) rfl) hRC0m152
                                        have hRCRm163 := zR_CR_fr (zdis_fr (zfr_up hmm163 (zfr_rf [(111, 0)] _) zq_202 rfl) rfl) hRCRm152
                                        have hRLRm163 := zR_LR_fr (zdis_fr (zfr_up hmm163 (zfr_rf [(111, 0)] _) zq_202 rfl) rfl) hRLRm152
                                        have hRNSm163 := zR_NS_fr (zdis_fr (zfr_up hmm163 (zfr_rf [(111, 0)] _) zq_202 rfl) rfl) hRNSm152
                                        have hRTRm163 := zR_TR_fr (zdis_fr (zfr_up hmm163 (zfr_rf [(111, 0)] _) zq_202 rfl) rfl) hRTRm152
                                        have hRWDm163 := zR_WD_fr (zdis_fr (zfr_up hmm163 (zfr_rf [(111, 0)] _) zq_202 rfl) rfl) hRWDm152
                                        refine zw_bd (zw_eq (zu_call_at (zt_T n) (zm_94 n) (zdp_94 n) _ _ _ _ _ rfl (zr_94_0 n _ _ a0 0 3 m163)) ?_)
                                        have r164 : 0 ≤ (m163 a0 8) ∧ (m163 a0 8) ≤ 6 := zi_rd hIm163 hc0 zb_28_8
                                        have e165 : (m163 a0 8) = (m152 a0 8) := (zs_ne hmm163 (Or.inl (zc_ne hc0 zq_202 (by decide))))
                                        refine zw_ite (fun h166 => ?_) (fun h166 => ?_)
                                        · have s167 := (hRTRm152 a0 hc0).2.2 (by omega)
                                          have r168 : (-2147483648) ≤ (m163 a0 9) ∧ (m163 a0 9) ≤ 2147483647 := zi_rd hIm163 hc0 zb_28_9
                                          have e169 : (m163 a0 9) = (m152 a0 9) := (zs_ne hmm163 (Or.inl (zc_ne hc0 zq_202 (by decide))))
                                          refine zw_bd (zw_eq (zu_call_at (zt_T n) (zm_83 n) (zdp_83 n) _ _ _ _ _ rfl (zr_83_0 n _ _ (m163 a0 9) 0 3 m163)) ?_)
                                          refine zw_ite (fun h170 => ?_) (fun h170 => ?_)
                                          · exfalso; omega
                                          · refine zw_ite (fun h171 => ?_) (fun h171 => ?_)
                                            · refine zw_b (by omega) ?_
                                              refine zw_some ?_
                                              refine zw_ite (fun h172 => ?_) (fun h172 => ?_)
                                              · exfalso; omega
                                              · refine zw_bd (zw_eq (zu_call_at (zt_T n) (zm_85 n) (zdp_85 n) _ _ _ _ _ rfl (zr_85_0 n _ _ a0 2 m163)) ?_)
                                                generalize hmm173 : zu_up m163 a0 4 2 = m173
                                                have hIm173 := zi_up hmm173 hIm163 hc0 zb_28_4 (by omega) (by omega)
                                                have hFm173 := zfr_up hmm173 hFm163 hc0 rfl
                                                have hRC0m173 := zR_C0_fr (zdis_fr (zfr_up hmm173 (zfr_rf [(28, 5)] _) hc0 rfl) rfl) hRC0m163
                                                have hRCRm173 := zR_CR_fr (zdis_fr (zfr_up hmm173 (zfr_rf [(28, 5)] _) hc0 rfl) rfl) hRCRm163
                                                have hRNSm173 := zR_NS_fr (zdis_fr (zfr_up hmm173 (zfr_rf [(28, 5)] _) hc0 rfl) rfl) hRNSm163
                                                have hRTRm173 := zR_TR_fr (zdis_fr (zfr_up hmm173 (zfr_rf [(28, 5)] _) hc0 rfl) rfl) hRTRm163
                                                have hRWDm173 := zR_WD_fr (zdis_fr (zfr_up hmm173 (zfr_rf [(28, 5)] _) hc0 rfl) rfl) hRWDm163
                                                have hRLRm173 := zLR_wr (zone_190 hc0) hmm173 (by decide)
                                                have r174 : 0 ≤ (m173 a0 10) ∧ (m173 a0 10) ≤ 700 := zi_rd hIm173 hc0 zb_28_10
                                                generalize hmm175 : zu_up m173 a0 5 (m173 a0 10) = m175
                                                have hIm175 := zi_up hmm175 hIm173 hc0 zb_28_5 (by omega) (by omega)
                                                have hFm175 := zfr_up hmm175 hFm173 hc0 rfl
                                                have hRC0m175 := zR_C0_fr (zdis_fr (zfr_up hmm175 (zfr_rf [(28, 6)] _) hc0 rfl) rfl) hRC0m173
                                                have hRCRm175 := zR_CR_fr (zdis_fr (zfr_up hmm175 (zfr_rf [(28, 6)] _) hc0 rfl) rfl) hRCRm173
                                                have hRLRm175 := zR_LR_fr (zdis_fr (zfr_up hmm175 (zfr_rf [(28, 6)] _) hc0 rfl) rfl) hRLRm173
                                                have hRNSm175 := zR_NS_fr (zdis_fr (zfr_up hmm175 (zfr_rf [(28, 6)] _) hc0 rfl) rfl) hRNSm173
                                                have hRTRm175 := zR_TR_fr (zdis_fr (zfr_up hmm175 (zfr_rf [(28, 6)] _) hc0 rfl) rfl) hRTRm173
                                                have hRWDm175 := zR_WD_fr (zdis_fr (zfr_up hmm175 (zfr_rf [(28, 6)] _) hc0 rfl) rfl) hRWDm173
                                                refine zw_b (by omega) ?_
                                                refine zw_some ?_
                                                refine zw_b (by omega) ?_
                                                refine zw_some ?_
                                                refine zw_ite (fun h176 => ?_) (fun h176 => ?_)
                                                · exfalso; omega
                                                · refine zw_b (by omega) ?_
                                                  have r177 : 0 ≤ (m175 a0 7) ∧ (m175 a0 7) ≤ 700 := zi_rd hIm175 hc0 zb_28_7
                                                  have e178 : (m175 a0 7) = (m152 a0 7) := (Eq.trans (zs_ne hmm175 (Or.inr (by decide))) (Eq.trans (zs_ne hmm173 (Or.inr (by decide))) (zs_ne hmm163 (Or.inl (zc_ne hc0 zq_202 (by decide))))))
                                                  have r179 : 0 ≤ (m175 a0 8) ∧ (m175 a0 8) ≤ 6 := zi_rd hIm175 hc0 zb_28_8
                                                  have e180 : (m175 a0 8) = (m163 a0 8) := (Eq.trans (zs_ne hmm175 (Or.inr (by decide))) (zs_ne hmm173 (Or.inr (by decide))))
                                                  have r181 : (-2147483648) ≤ (m175 a0 4) ∧ (m175 a0 4) ≤ 2147483647 := zi_rd hIm175 hc0 zb_28_4
                                                  have e182 : (m175 a0 4) = 2 := (Eq.trans (zs_ne hmm175 (Or.inr (by decide))) (zs_eq hmm173))
                                                  exact zw_some ⟨hIm175, hFm175, hRC0m175, hRCRm175, hRLRm175, hRNSm175, hRTRm175, hRWDm175, ⟨by decide, by decide⟩, by omega, fun h => absurd h (by decide), fun h => absurd h (by decide)⟩
                                            · refine zw_b (by omega) ?_
                                              refine zw_some ?_
                                              refine zw_ite (fun h183 => ?_) (fun h183 => ?_)
                                              · generalize hmm184 : zu_up m163 a0 11 (m163 a0 9) = m184
                                                have hIm184 := zi_up hmm184 hIm163 hc0 zb_28_11 (by omega) (by omega)
                                                have hFm184 := zfr_up hmm184 hFm163 hc0 rfl
                                                have hRC0m184 := zR_C0_fr (zdis_fr (zfr_up hmm184 (zfr_rf [(28, 12)] _) hc0 rfl) rfl) hRC0m163
                                                have hRCRm184 := zR_CR_fr (zdis_fr (zfr_up hmm184 (zfr_rf [(28, 12)] _) hc0 rfl) rfl) hRCRm163
                                                have hRLRm184 := zR_LR_fr (zdis_fr (zfr_up hmm184 (zfr_rf [(28, 12)] _) hc0 rfl) rfl) hRLRm163
                                                have hRNSm184 := zR_NS_fr (zdis_fr (zfr_up hmm184 (zfr_rf [(28, 12)] _) hc0 rfl) rfl) hRNSm163
                                                have hRTRm184 := zR_TR_fr (zdis_fr (zfr_up hmm184 (zfr_rf [(28, 12)] _) hc0 rfl) rfl) hRTRm163
                                                have hRWDm184 := zR_WD_fr (zdis_fr (zfr_up hmm184 (zfr_rf [(28, 12)] _) hc0 rfl) rfl) hRWDm163
                                                have r187 : 0 ≤ (m184 a0 7) ∧ (m184 a0 7) ≤ 700 := zi_rd hIm184 hc0 zb_28_7
                                                have e188 : (m184 a0 7) = (m152 a0 7) := (Eq.trans (zs_ne hmm184 (Or.inr (by decide))) (zs_ne hmm163 (Or.inl (zc_ne hc0 zq_202 (by decide)))))
                                                refine zw_bd (zw_mono (zk_89 n hIm184 hc0 hRNSm184 hRWDm184) (fun v186 m185 hqm185 => ?_))
                                                obtain ⟨hIm185, hfm185, hvm185⟩ := hqm185
                                                have hFm185 := zfr_tr hFm184 hfm185 rfl
                                                obtain ⟨hRNSm185, hRTRm185, hRWDm185, hvm185⟩ := hvm185
                                                have hRC0m185 := zR_C0_fr (zdis_fr hfm185 rfl) hRC0m184
                                                have hRCRm185 := zR_CR_fr (zdis_fr hfm185 rfl) hRCRm184
                                                have hRLRm185 := zR_LR_fr (zdis_fr hfm185 rfl) hRLRm184
                                                have s189 := hRNSm185 a0 hc0
                                                have r190 : 0 ≤ (m185 a0 7) ∧ (m185 a0 7) ≤ 700 := zi_rd hIm185 hc0 zb_28_7
                                                have r191 : 0 ≤ (m185 a0 8) ∧ (m185 a0 8) ≤ 6 := zi_rd hIm185 hc0 zb_28_8
                                                refine zw_b (by omega) ?_
                                                refine zw_some ?_
                                                refine zw_ite (fun h192 => ?_) (fun h192 => ?_)
                                                · have r193 : (-2147483648) ≤ (m185 a0 11) ∧ (m185 a0 11) ≤ 2147483647 := zi_rd hIm185 hc0 zb_28_11
                                                  have e194 : (m185 a0 11) = (m163 a0 9) := (Eq.trans (zfr_ap hfm185 hc0 rfl) (zs_eq hmm184))
                                                  have b195 : 0 ≤ (zu_w32 (4 + (m15 a0 20))) ∧ (zu_w32 (4 + (m15 a0 20))) < 8 := by omega
                                                  refine zw_if b195 ?_
                                                  generalize hmm196 : zu_up m185 203 (zu_w32 (4 + (m15 a0 20))) (m185 a0 11) = m196
                                                  have hIm196 := zi_up hmm196 hIm185 zq_203 (zb_112 _) (by omega) (by omega)
                                                  have hFm196 := zfr_up hmm196 hFm185 zq_203 rfl
                                                  have hRC0m196 := zR_C0_fr (zdis_fr (zfr_up hmm196 (zfr_rf [(112, 0)] _) zq_203 rfl) rfl) hRC0m185
                                                  have hRCRm196 := zR_CR_fr (zdis_fr (zfr_up hmm196 (zfr_rf [(112, 0)] _) zq_203 rfl) rfl) hRCRm185
                                                  have hRLRm196 := zR_LR_fr (zdis_fr (zfr_up hmm196 (zfr_rf [(112, 0)] _) zq_203 rfl) rfl) hRLRm185
                                                  have hRNSm196 := zR_NS_fr (zdis_fr (zfr_up hmm196 (zfr_rf [(112, 0)] _) zq_203 rfl) rfl) hRNSm185
                                                  have hRTRm196 := zR_TR_fr (zdis_fr (zfr_up hmm196 (zfr_rf [(112, 0)] _) zq_203 rfl) rfl) hRTRm185
                                                  have hRWDm196 := zR_WD_fr (zdis_fr (zfr_up hmm196 (zfr_rf [(112, 0)] _) zq_203 rfl) rfl) hRWDm185
                                                  refine zw_bd (zw_eq (zu_call_at (zt_T n) (zm_94 n) (zdp_94 n) _ _ _ _ _ rfl (zr_94_0 n _ _ a0 0 99 m196)) ?_)
                                                  have r197 : 0 ≤ (m196 a0 8) ∧ (m196 a0 8) ≤ 6 := zi_rd hIm196 hc0 zb_28_8
                                                  have e198 : (m196 a0 8) = (m185 a0 8) := (zs_ne hmm196 (Or.inl (zc_ne hc0 zq_203 (by decide))))
                                                  refine zw_ite (fun h199 => ?_) (fun h199 => ?_)
                                                  · have s200 := (hRTRm185 a0 hc0).2.2 (by omega)
                                                    have r201 : (-2147483648) ≤ (m196 a0 9) ∧ (m196 a0 9) ≤ 2147483647 := zi_rd hIm196 hc0 zb_28_9
                                                    have e202 : (m196 a0 9) = (m185 a0 9) := (zs_ne hmm196 (Or.inl (zc_ne hc0 zq_203 (by decide))))
                                                    refine zw_bd (zw_eq (zu_call_at (zt_T n) (zm_83 n) (zdp_83 n) _ _ _ _ _ rfl (zr_83_0 n _ _ (m196 a0 9) 0 99 m196)) ?_)
                                                    refine zw_ite (fun h203 => ?_) (fun h203 => ?_)
                                                    · exfalso; omega
                                                    · refine zw_ite (fun h204 => ?_) (fun h204 => ?_)
                                                      · refine zw_b (by omega) ?_
                                                        refine zw_some ?_
                                                        refine zw_ite (fun h205 => ?_) (fun h205 => ?_)
                                                        · exfalso; omega
                                                        · refine zw_bd (zw_eq (zu_call_at (zt_T n) (zm_85 n) (zdp_85 n) _ _ _ _ _ rfl (zr_85_0 n _ _ a0 2 m196)) ?_)
                                                          generalize hmm206 : zu_up m196 a0 4 2 = m206
                                                          have hIm206 := zi_up hmm206 hIm196 hc0 zb_28_4 (by omega) (by omega)
                                                          have hFm206 := zfr_up hmm206 hFm196 hc0 rfl
                                                          have hRC0m206 := zR_C0_fr (zdis_fr (zfr_up hmm206 (zfr_rf [(28, 5)] _) hc0 rfl) rfl) hRC0m196
                                                          have hRCRm206 := zR_CR_fr (zdis_fr (zfr_up hmm206 (zfr_rf [(28, 5)] _) hc0 rfl) rfl) hRCRm196
                                                          have hRNSm206 := zR_NS_fr (zdis_fr (zfr_up hmm206 (zfr_rf [(28, 5)] _) hc0 rfl) rfl) hRNSm196
                                                          have hRTRm206 := zR_TR_fr (zdis_fr (zfr_up hmm206 (zfr_rf [(28, 5)] _) hc0 rfl) rfl) hRTRm196
                                                          have hRWDm206 := zR_WD_fr (zdis_fr (zfr_up hmm206 (zfr_rf [(28, 5)] _) hc0 rfl) rfl) hRWDm196
                                                          have hRLRm206 := zLR_wr (zone_190 hc0) hmm206 (by decide)
                                                          have r207 : 0 ≤ (m206 a0 10) ∧ (m206 a0 10) ≤ 700 := zi_rd hIm206 hc0 zb_28_10
                                                          generalize hmm208 : zu_up m206 a0 5 (m206 a0 10) = m208
                                                          have hIm208 := zi_up hmm208 hIm206 hc0 zb_28_5 (by omega) (by omega)
                                                          have hFm208 := zfr_up hmm208 hFm206 hc0 rfl
                                                          have hRC0m208 := zR_C0_fr (zdis_fr (zfr_up hmm208 (zfr_rf [(28, 6)] _) hc0 rfl) rfl) hRC0m206
                                                          have hRCRm208 := zR_CR_fr (zdis_fr (zfr_up hmm208 (zfr_rf [(28, 6)] _) hc0 rfl) rfl) hRCRm206
                                                          have hRLRm208 := zR_LR_fr (zdis_fr (zfr_up hmm208 (zfr_rf [(28, 6)] _) hc0 rfl) rfl) hRLRm206
                                                          have hRNSm208 := zR_NS_fr (zdis_fr (zfr_up hmm208 (zfr_rf [(28, 6)] _) hc0 rfl) rfl) hRNSm206
                                                          have hRTRm208 := zR_TR_fr (zdis_fr (zfr_up hmm208 (zfr_rf [(28, 6)] _) hc0 rfl) rfl) hRTRm206
                                                          have hRWDm208 := zR_WD_fr (zdis_fr (zfr_up hmm208 (zfr_rf [(28, 6)] _) hc0 rfl) rfl) hRWDm206
                                                          refine zw_b (by omega) ?_
                                                          refine zw_some ?_
                                                          refine zw_b (by omega) ?_
                                                          refine zw_some ?_
                                                          refine zw_ite (fun h209 => ?_) (fun h209 => ?_)
                                                          · exfalso; omega
                                                          · refine zw_b (by omega) ?_
                                                            have r210 : 0 ≤ (m208 a0 7) ∧ (m208 a0 7) ≤ 700 := zi_rd hIm208 hc0 zb_28_7
                                                            have e211 : (m208 a0 7) = (m185 a0 7) := (Eq.trans (zs_ne hmm208 (Or.inr (by decide))) (Eq.trans (zs_ne hmm206 (Or.inr (by decide))) (zs_ne hmm196 (Or.inl (zc_ne hc0 zq_203 (by decide))))))
                                                            have r212 : 0 ≤ (m208 a0 8) ∧ (m208 a0 8) ≤ 6 := zi_rd hIm208 hc0 zb_28_8
                                                            have e213 : (m208 a0 8) = (m196 a0 8) := (Eq.trans (zs_ne hmm208 (Or.inr (by decide))) (zs_ne hmm206 (Or.inr (by decide))))
                                                            have r214 : (-2147483648) ≤ (m208 a0 4) ∧ (m208 a0 4) ≤ 2147483647 := zi_rd hIm208 hc0 zb_28_4
                                                            have e215 : (m208 a0 4) = 2 := (Eq.trans (zs_ne hmm208 (Or.inr (by decide))) (zs_eq hmm206))
                                                            exact zw_some ⟨hIm208, hFm208, hRC0m208, hRCRm208, hRLRm208, hRNSm208, hRTRm208, hRWDm208, ⟨by decide, by decide⟩, by omega, fun h => absurd h (by decide), fun h => absurd h (by decide)⟩
                                                      · refine zw_b (by omega) ?_
                                                        refine zw_some ?_
                                                        refine zw_ite (fun h216 => ?_) (fun h216 => ?_)
                                                        · generalize hmm217 : zu_up m196 a0 11 (m196 a0 9) = m217
                                                          have hIm217 := zi_up hmm217 hIm196 hc0 zb_28_11 (by omega) (by omega)
                                                          have hFm217 := zfr_up hmm217 hFm196 hc0 rfl
                                                          have hRC0m217 := zR_C0_fr (zdis_fr (zfr_up hmm217 (zfr_rf [(28, 12)] _) hc0 rfl) rfl) hRC0m196
                                                          have hRCRm217 := zR_CR_fr (zdis_fr (zfr_up hmm217 (zfr_rf [(28, 12)] _) hc0 rfl) rfl) hRCRm196
                                                          have hRLRm217 := zR_LR_fr (zdis_fr (zfr_up hmm217 (zfr_rf [(28, 12)] _) hc0 rfl) rfl) hRLRm196
                                                          have hRNSm217 := zR_NS_fr (zdis_fr (zfr_up hmm217 (zfr_rf [(28, 12)] _) hc0 rfl) rfl) hRNSm196
                                                          have hRTRm217 := zR_TR_fr (zdis_fr (zfr_up hmm217 (zfr_rf [(28, 12)] _) hc0 rfl) rfl) hRTRm196
                                                          have hRWDm217 := zR_WD_fr (zdis_fr (zfr_up hmm217 (zfr_rf [(28, 12)] _) hc0 rfl) rfl) hRWDm196
                                                          have r220 : 0 ≤ (m217 a0 7) ∧ (m217 a0 7) ≤ 700 := zi_rd hIm217 hc0 zb_28_7
                                                          have e221 : (m217 a0 7) = (m185 a0 7) := (Eq.trans (zs_ne hmm217 (Or.inr (by decide))) (zs_ne hmm196 (Or.inl (zc_ne hc0 zq_203 (by decide)))))
                                                          refine zw_bd (zw_mono (zk_89 n hIm217 hc0 hRNSm217 hRWDm217) (fun v219 m218 hqm218 => ?_))
                                                          obtain ⟨hIm218, hfm218, hvm218⟩ := hqm218
                                                          have hFm218 := zfr_tr hFm217 hfm218 rfl
                                                          obtain ⟨hRNSm218, hRTRm218, hRWDm218, hvm218⟩ := hvm218
                                                          have hRC0m218 := zR_C0_fr (zdis_fr hfm218 rfl) hRC0m217
                                                          have hRCRm218 := zR_CR_fr (zdis_fr hfm218 rfl) hRCRm217
                                                          have hRLRm218 := zR_LR_fr (zdis_fr hfm218 rfl) hRLRm217
                                                          have s222 := hRNSm218 a0 hc0
                                                          have r223 : 0 ≤ (m218 a0 7) ∧ (m218 a0 7) ≤ 700 := zi_rd hIm218 hc0 zb_28_7
                                                          have r224 : 0 ≤ (m218 a0 8) ∧ (m218 a0 8) ≤ 6 := zi_rd hIm218 hc0 zb_28_8
                                                          refine zw_b (by omega) ?_
                                                          refine zw_some ?_
                                                          refine zw_ite (fun h225 => ?_) (fun h225 => ?_)
                                                          · have r226 : (-2147483648) ≤ (m218 a0 11) ∧ (m218 a0 11) ≤ 2147483647 := zi_rd hIm218 hc0 zb_28_11
                                                            have e227 : (m218 a0 11) = (m196 a0 9) := (Eq.trans (zfr_ap hfm218 hc0 rfl) (zs_eq hmm217))
                                                            have b228 : 0 ≤ (zu_w32 (4 + (m15 a0 20))) ∧ (zu_w32 (4 + (m15 a0 20))) < 8 := by omega
                                                            refine zw_if b228 ?_
                                                            generalize hmm229 : zu_up m218 204 (zu_w32 (4 + (m15 a0 20))) (m218 a0 11) = m229
                                                            have hIm229 := zi_up hmm229 hIm218 zq_204 (zb_113 _) (by omega) (by omega)
                                                            have hFm229 := zfr_up hmm229 hFm218 zq_204 rfl
                                                            have hRC0m229 := zR_C0_fr (zdis_fr (zfr_up hmm229 (zfr_rf [(113, 0)] _) zq_204 rfl) rfl) hRC0m218
                                                            have hRCRm229 := zR_CR_fr (zdis_fr (zfr_up hmm229 (zfr_rf [(113, 0)] _) zq_204 rfl) rfl) hRCRm218
                                                            have hRLRm229 := zR_LR_fr (zdis_fr (zfr_up hmm229 (zfr_rf [(113, 0)] _) zq_204 rfl) rfl) hRLRm218
                                                            have hRNSm229 := zR_NS_fr (zdis_fr (zfr_up hmm229 (zfr_rf [(113, 0)] _) zq_204 rfl) rfl) hRNSm218
                                                            have hRTRm229 := zR_TR_fr (zdis_fr (zfr_up hmm229 (zfr_rf [(113, 0)] _) zq_204 rfl) rfl) hRTRm218
                                                            have hRWDm229 := zR_WD_fr (zdis_fr (zfr_up hmm229 (zfr_rf [(113, 0)] _) zq_204 rfl) rfl) hRWDm218
                                                            have r230 : 0 ≤ (m229 a0 20) ∧ (m229 a0 20) ≤ 4 := zi_rd hIm229 hc0 zb_28_20
                                                            have e231 : (m229 a0 20) = (m112 a0 20) := (Eq.trans (zs_ne hmm229 (Or.inl (zc_ne hc0 zq_204 (by decide)))) (Eq.trans (zfr_ap hfm218 hc0 rfl) (Eq.trans (zs_ne hmm217 (Or.inr (by decide))) (Eq.trans (zs_ne hmm196 (Or.inl (zc_ne hc0 zq_203 (by decide)))) (Eq.trans (zfr_ap hfm185 hc0 rfl) (Eq.trans (zs_ne hmm184 (Or.inr (by decide))) (Eq.trans (zs_ne hmm163 (Or.inl (zc_ne hc0 zq_202 (by decide)))) (Eq.trans (zfr_ap hfm152 hc0 rfl) (Eq.trans (zs_ne hmm151 (Or.inr (by decide))) (zs_ne hmm117 (Or.inl (zc_ne hc0 zq_201 (by decide)))))))))))))
                                                            have w232 := zu_w32_id (z := (m229 a0 20) + 1) (by omega) (by omega)
                                                            generalize hmm233 : zu_up m229 a0 20 (zu_w32 ((m229 a0 20) + 1)) = m233
                                                            have hIm233 := zi_up hmm233 hIm229 hc0 zb_28_20 (by omega) (by omega)
                                                            have hFm233 := zfr_up hmm233 hFm229 hc0 rfl
                                                            have hRC0m233 := zR_C0_fr (zdis_fr (zfr_up hmm233 (zfr_rf [(28, 21)] _) hc0 rfl) rfl) hRC0m229
                                                            have hRLRm233 := zR_LR_fr (zdis_fr (zfr_up hmm233 (zfr_rf [(28, 21)] _) hc0 rfl) rfl) hRLRm229
                                                            have hRNSm233 := zR_NS_fr (zdis_fr (zfr_up hmm233 (zfr_rf [(28, 21)] _) hc0 rfl) rfl) hRNSm229
                                                            have hRTRm233 := zR_TR_fr (zdis_fr (zfr_up hmm233 (zfr_rf [(28, 21)] _) hc0 rfl) rfl) hRTRm229
                                                            have hRWDm233 := zR_WD_fr (zdis_fr (zfr_up hmm233 (zfr_rf [(28, 21)] _) hc0 rfl) rfl) hRWDm229
                                                            have r234 : 0 ≤ (m229 201 (zu_w32 (4 + (m15 a0 20)))) ∧ (m229 201 (zu_w32 (4 + (m15 a0 20)))) ≤ 47 := zi_rd hIm229 zq_201 (zb_110 _)
                                                            have e235 : (m229 201 (zu_w32 (4 + (m15 a0 20)))) = (m112 a0 11) := (Eq.trans (zs_ne hmm229 (Or.inl (zc_ne zq_201 zq_204 (by decide)))) (Eq.trans (zfr_ap hfm218 zq_201 rfl) (Eq.trans (zs_ne hmm217 (Or.inl (zc_ne zq_201 hc0 (by decide)))) (Eq.trans (zs_ne hmm196 (Or.inl (zc_ne zq_201 zq_203 (by decide)))) (Eq.trans (zfr_ap hfm185 zq_201 rfl) (Eq.trans (zs_ne hmm184 (Or.inl (zc_ne zq_201 hc0 (by decide)))) (Eq.trans (zs_ne hmm163 (Or.inl (zc_ne zq_201 zq_202 (by decide)))) (Eq.trans (zfr_ap hfm152 zq_201 rfl) (Eq.trans (zs_ne hmm151 (Or.inl (zc_ne zq_201 hc0 (by decide)))) (zs_eq hmm117))))))))))
                                                            have r236 : 0 ≤ (m229 a0 23) ∧ (m229 a0 23) ≤ 1 := zi_rd hIm229 hc0 zb_28_23
                                                            have e237 : (m229 a0 23) = 1 := (Eq.trans (zs_ne hmm229 (Or.inl (zc_ne hc0 zq_204 (by decide)))) (Eq.trans (zfr_ap hfm218 hc0 rfl) (Eq.trans (zs_ne hmm217 (Or.inr (by decide))) (Eq.trans (zs_ne hmm196 (Or.inl (zc_ne hc0 zq_203 (by decide)))) (Eq.trans (zfr_ap hfm185 hc0 rfl) (Eq.trans (zs_ne hmm184 (Or.inr (by decide))) (Eq.trans (zs_ne hmm163 (Or.inl (zc_ne hc0 zq_202 (by decide)))) (Eq.trans (zfr_ap hfm152 hc0 rfl) (Eq.trans (zs_ne hmm151 (Or.inr (by decide))) (Eq.trans (zs_ne hmm117 (Or.inl (zc_ne hc0 zq_201 (by decide)))) (Eq.trans (zs_ne hmm112 (Or.inr (by decide))) (Eq.trans (zfr_ap hfm95 hc0 rfl) (Eq.trans (zs_ne hmm94 (Or.inr (by decide))) (Eq.trans (zs_ne hmm69 (Or.inr (by decide))) (Eq.trans (zfr_ap hfm58 hc0 rfl) (Eq.trans (zs_ne hmm57 (Or.inr (by decide))) (zs_eq hmm33)))))))))))))))))
                                                            have hRCRm233 := zCR_inc (p := (zu_w32 (4 + (m15 a0 20)))) (zone_190 hc0) hmm233 (by omega) (by omega) (by omega) (zlt_pr (by omega) hgl (zprod2 (Eq.trans (zs_ne hmm229 (Or.inl (zc_ne hc0 zq_204 (by decide)))) (Eq.trans (zfr_ap hfm218 hc0 rfl) (Eq.trans (zs_ne hmm217 (Or.inr (by decide))) (Eq.trans (zs_ne hmm196 (Or.inl (zc_ne hc0 zq_203 (by decide)))) (Eq.trans (zfr_ap hfm185 hc0 rfl) (Eq.trans (zs_ne hmm184 (Or.inr (by decide))) (Eq.trans (zs_ne hmm163 (Or.inl (zc_ne hc0 zq_202 (by decide)))) (Eq.trans (zfr_ap hfm152 hc0 rfl) (Eq.trans (zs_ne hmm151 (Or.inr (by decide))) (Eq.trans (zs_ne hmm117 (Or.inl (zc_ne hc0 zq_201 (by decide)))) (zs_ne hmm112 (Or.inr (by decide))))))))))))) (Eq.trans (zs_ne hmm229 (Or.inl (zc_ne hc0 zq_204 (by decide)))) (Eq.trans (zfr_ap hfm218 hc0 rfl) (Eq.trans (zs_ne hmm217 (Or.inr (by decide))) (Eq.trans (zs_ne hmm196 (Or.inl (zc_ne hc0 zq_203 (by decide)))) (Eq.trans (zfr_ap hfm185 hc0 rfl) (Eq.trans (zs_ne hmm184 (Or.inr (by decide))) (Eq.trans (zs_ne hmm163 (Or.inl (zc_ne hc0 zq_202 (by decide)))) (Eq.trans (zfr_ap hfm152 hc0 rfl) (Eq.trans (zs_ne hmm151 (Or.inr (by decide))) (Eq.trans (zs_ne hmm117 (Or.inl (zc_ne hc0 zq_201 (by decide)))) (zs_ne hmm112 (Or.inr (by decide))))))))))))))) hRCRm229
                                                            refine zw_b (by omega) ?_
                                                            have r238 : 0 ≤ (m233 a0 7) ∧ (m233 a0 7) ≤ 700 := zi_rd hIm233 hc0 zb_28_7
                                                            have e239 : (m233 a0 7) = (m218 a0 7) := (Eq.trans (zs_ne hmm233 (Or.inr (by decide))) (zs_ne hmm229 (Or.inl (zc_ne hc0 zq_204 (by decide)))))
                                                            have r240 : 0 ≤ (m233 a0 8) ∧ (m233 a0 8) ≤ 6 := zi_rd hIm233 hc0 zb_28_8
                                                            have e241 : (m233 a0 8) = (m218 a0 8) := (Eq.trans (zs_ne hmm233 (Or.inr (by decide))) (zs_ne hmm229 (Or.inl (zc_ne hc0 zq_204 (by decide)))))
                                                            have r242 : (-2147483648) ≤ (m233 a0 4) ∧ (m233 a0 4) ≤ 2147483647 := zi_rd hIm233 hc0 zb_28_4
                                                            have e243 : (m233 a0 4) = (m0 a0 4) := (Eq.trans (zs_ne hmm233 (Or.inr (by decide))) (Eq.trans (zs_ne hmm229 (Or.inl (zc_ne hc0 zq_204 (by decide)))) (Eq.trans (zfr_ap hfm218 hc0 rfl) (Eq.trans (zs_ne hmm217 (Or.inr (by decide))) (Eq.trans (zs_ne hmm196 (Or.inl (zc_ne hc0 zq_203 (by decide)))) (Eq.trans (zfr_ap hfm185 hc0 rfl) (Eq.trans (zs_ne hmm184 (Or.inr (by decide))) (Eq.trans (zs_ne hmm163 (Or.inl (zc_ne hc0 zq_202 (by decide)))) (Eq.trans (zfr_ap hfm152 hc0 rfl) (Eq.trans (zs_ne hmm151 (Or.inr (by decide))) (Eq.trans (zs_ne hmm117 (Or.inl (zc_ne hc0 zq_201 (by decide)))) (Eq.trans (zs_ne hmm112 (Or.inr (by decide))) (Eq.trans (zfr_ap hfm95 hc0 rfl) (Eq.trans (zs_ne hmm94 (Or.inr (by decide))) (Eq.trans (zs_ne hmm69 (Or.inr (by decide))) (Eq.trans (zfr_ap hfm58 hc0 rfl) (Eq.trans (zs_ne hmm57 (Or.inr (by decide))) (Eq.trans (zs_ne hmm33 (Or.inr (by decide))) (Eq.trans (zfr_ap hfm26 hc0 rfl) (Eq.trans (zs_ne hmm25 (Or.inl (zc_ne hc0 zq_200 (by decide)))) (Eq.trans (zfr_ap hfm15 hc0 rfl) (zfr_ap hfm6 hc0 rfl))))))))))))))))))))))
                                                            exact zw_some ⟨hIm233, hFm233, hRC0m233, hRCRm233, hRLRm233, hRNSm233, hRTRm233, hRWDm233, ⟨by decide, by decide⟩, by omega, fun _ => by omega, fun _ => by omega⟩
                                                          · exfalso; omega
                                                        · exfalso; omega
                                                  · refine zw_bd (zw_eq (zu_call_at (zt_T n) (zm_85 n) (zdp_85 n) _ _ _ _ _ rfl (zr_85_0 n _ _ a0 1 m196)) ?_)
                                                    generalize hmm244 : zu_up m196 a0 4 1 = m244
                                                    have hIm244 := zi_up hmm244 hIm196 hc0 zb_28_4 (by omega) (by omega)
                                                    have hFm244 := zfr_up hmm244 hFm196 hc0 rfl
                                                    have hRC0m244 := zR_C0_fr (zdis_fr (zfr_up hmm244 (zfr_rf [(28, 5)] _) hc0 rfl) rfl) hRC0m196
                                                    have hRCRm244 := zR_CR_fr (zdis_fr (zfr_up hmm244 (zfr_rf [(28, 5)] _) hc0 rfl) rfl) hRCRm196
                                                    have hRNSm244 := zR_NS_fr (zdis_fr (zfr_up hmm244 (zfr_rf [(28, 5)] _) hc0 rfl) rfl) hRNSm196
                                                    have hRTRm244 := zR_TR_fr (zdis_fr (zfr_up hmm244 (zfr_rf [(28, 5)] _) hc0 rfl) rfl) hRTRm196
                                                    have hRWDm244 := zR_WD_fr (zdis_fr (zfr_up hmm244 (zfr_rf [(28, 5)] _) hc0 rfl) rfl) hRWDm196
                                                    have hRLRm244 := zLR_wr (zone_190 hc0) hmm244 (by decide)
                                                    have r245 : 0 ≤ (m244 a0 10) ∧ (m244 a0 10) ≤ 700 := zi_rd hIm244 hc0 zb_28_10
                                                    generalize hmm246 : zu_up m244 a0 5 (m244 a0 10) = m246
                                                    have hIm246 := zi_up hmm246 hIm244 hc0 zb_28_5 (by omega) (by omega)
                                                    have hFm246 := zfr_up hmm246 hFm244 hc0 rfl
                                                    have hRC0m246 := zR_C0_fr (zdis_fr (zfr_up hmm246 (zfr_rf [(28, 6)] _) hc0 rfl) rfl) hRC0m244
                                                    have hRCRm246 := zR_CR_fr (zdis_fr (zfr_up hmm246 (zfr_rf [(28, 6)] _) hc0 rfl) rfl) hRCRm244
                                                    have hRLRm246 := zR_LR_fr (zdis_fr (zfr_up hmm246 (zfr_rf [(28, 6)] _) hc0 rfl) rfl) hRLRm244
                                                    have hRNSm246 := zR_NS_fr (zdis_fr (zfr_up hmm246 (zfr_rf [(28, 6)] _) hc0 rfl) rfl) hRNSm244
                                                    have hRTRm246 := zR_TR_fr (zdis_fr (zfr_up hmm246 (zfr_rf [(28, 6)] _) hc0 rfl) rfl) hRTRm244
                                                    have hRWDm246 := zR_WD_fr (zdis_fr (zfr_up hmm246 (zfr_rf [(28, 6)] _) hc0 rfl) rfl) hRWDm244
                                                    refine zw_b (by omega) ?_
                                                    refine zw_some ?_
                                                    refine zw_b (by omega) ?_
                                                    refine zw_some ?_
                                                    refine zw_ite (fun h247 => ?_) (fun h247 => ?_)
                                                    · exfalso; omega
                                                    · refine zw_b (by omega) ?_
                                                      have r248 : 0 ≤ (m246 a0 7) ∧ (m246 a0 7) ≤ 700 := zi_rd hIm246 hc0 zb_28_7
                                                      have e249 : (m246 a0 7) = (m185 a0 7) := (Eq.trans (zs_ne hmm246 (Or.inr (by decide))) (Eq.trans (zs_ne hmm244 (Or.inr (by decide))) (zs_ne hmm196 (Or.inl (zc_ne hc0 zq_203 (by decide))))))
                                                      have r250 : 0 ≤ (m246 a0 8) ∧ (m246 a0 8) ≤ 6 := zi_rd hIm246 hc0 zb_28_8
                                                      have e251 : (m246 a0 8) = (m196 a0 8) := (Eq.trans (zs_ne hmm246 (Or.inr (by decide))) (zs_ne hmm244 (Or.inr (by decide))))
                                                      have r252 : (-2147483648) ≤ (m246 a0 4) ∧ (m246 a0 4) ≤ 2147483647 := zi_rd hIm246 hc0 zb_28_4
                                                      have e253 : (m246 a0 4) = 1 := (Eq.trans (zs_ne hmm246 (Or.inr (by decide))) (zs_eq hmm244))
                                                      exact zw_some ⟨hIm246, hFm246, hRC0m246, hRCRm246, hRLRm246, hRNSm246, hRTRm246, hRWDm246, ⟨by decide, by decide⟩, by omega, fun h => absurd h (by decide), fun h => absurd h (by decide)⟩
                                                · exfalso; omega
                                              · exfalso; omega
                                        · refine zw_bd (zw_eq (zu_call_at (zt_T n) (zm_85 n) (zdp_85 n) _ _ _ _ _ rfl (zr_85_0 n _ _ a0 1 m163)) ?_)
                                          generalize hmm254 : zu_up m163 a0 4 1 = m254
                                          have hIm254 := zi_up hmm254 hIm163 hc0 zb_28_4 (by omega) (by omega)
                                          have hFm254 := zfr_up hmm254 hFm163 hc0 rfl
                                          have hRC0m254 := zR_C0_fr (zdis_fr (zfr_up hmm254 (zfr_rf [(28, 5)] _) hc0 rfl) rfl) hRC0m163
                                          have hRCRm254 := zR_CR_fr (zdis_fr (zfr_up hmm254 (zfr_rf [(28, 5)] _) hc0 rfl) rfl) hRCRm163
                                          have hRNSm254 := zR_NS_fr (zdis_fr (zfr_up hmm254 (zfr_rf [(28, 5)] _) hc0 rfl) rfl) hRNSm163
                                          have hRTRm254 := zR_TR_fr (zdis_fr (zfr_up hmm254 (zfr_rf [(28, 5)] _) hc0 rfl) rfl) hRTRm163
                                          have hRWDm254 := zR_WD_fr (zdis_fr (zfr_up hmm254 (zfr_rf [(28, 5)] _) hc0 rfl) rfl) hRWDm163
                                          have hRLRm254 := zLR_wr (zone_190 hc0) hmm254 (by decide)
                                          have r255 : 0 ≤ (m254 a0 10) ∧ (m254 a0 10) ≤ 700 := zi_rd hIm254 hc0 zb_28_10
                                          generalize hmm256 : zu_up m254 a0 5 (m254 a0 10) = m256
                                          have hIm256 := zi_up hmm256 hIm254 hc0 zb_28_5 (by omega) (by omega)
                                          have hFm256 := zfr_up hmm256 hFm254 hc0 rfl
                                          have hRC0m256 := zR_C0_fr (zdis_fr (zfr_up hmm256 (zfr_rf [(28, 6)] _) hc0 rfl) rfl) hRC0m254
                                          have hRCRm256 := zR_CR_fr (zdis_fr (zfr_up hmm256 (zfr_rf [(28, 6)] _) hc0 rfl) rfl) hRCRm254
                                          have hRLRm256 := zR_LR_fr (zdis_fr (zfr_up hmm256 (zfr_rf [(28, 6)] _) hc0 rfl) rfl) hRLRm254
                                          have hRNSm256 := zR_NS_fr (zdis_fr (zfr_up hmm256 (zfr_rf [(28, 6)] _) hc0 rfl) rfl) hRNSm254
                                          have hRTRm256 := zR_TR_fr (zdis_fr (zfr_up hmm256 (zfr_rf [(28, 6)] _) hc0 rfl) rfl) hRTRm254
                                          have hRWDm256 := zR_WD_fr (zdis_fr (zfr_up hmm256 (zfr_rf [(28, 6)] _) hc0 rfl) rfl) hRWDm254
                                          refine zw_b (by omega) ?_
                                          refine zw_some ?_
                                          refine zw_b (by omega) ?_
                                          refine zw_some ?_
                                          refine zw_ite (fun h257 => ?_) (fun h257 => ?_)
                                          · exfalso; omega
                                          · refine zw_b (by omega) ?_
                                            have r258 : 0 ≤ (m256 a0 7) ∧ (m256 a0 7) ≤ 700 := zi_rd hIm256 hc0 zb_28_7
                                            have e259 : (m256 a0 7) = (m152 a0 7) := (Eq.trans (zs_ne hmm256 (Or.inr (by decide))) (Eq.trans (zs_ne hmm254 (Or.inr (by decide))) (zs_ne hmm163 (Or.inl (zc_ne hc0 zq_202 (by decide))))))
                                            have r260 : 0 ≤ (m256 a0 8) ∧ (m256 a0 8) ≤ 6 := zi_rd hIm256 hc0 zb_28_8
                                            have e261 : (m256 a0 8) = (m163 a0 8) := (Eq.trans (zs_ne hmm256 (Or.inr (by decide))) (zs_ne hmm254 (Or.inr (by decide))))
                                            have r262 : (-2147483648) ≤ (m256 a0 4) ∧ (m256 a0 4) ≤ 2147483647 := zi_rd hIm256 hc0 zb_28_4
                                            have e263 : (m256 a0 4) = 1 := (Eq.trans (zs_ne hmm256 (Or.inr (by decide))) (zs_eq hmm254))
                                            exact zw_some ⟨hIm256, hFm256, hRC0m256, hRCRm256, hRLRm256, hRNSm256, hRTRm256, hRWDm256, ⟨by decide, by decide⟩, by omega, fun h => absurd h (by decide), fun h => absurd h (by decide)⟩
                                      · exfalso; omega
                                    · exfalso; omega
                              · refine zw_bd (zw_eq (zu_call_at (zt_T n) (zm_85 n) (zdp_85 n) _ _ _ _ _ rfl (zr_85_0 n _ _ a0 1 m117)) ?_)
                                generalize hmm264 : zu_up m117 a0 4 1 = m264
                                have hIm264 := zi_up hmm264 hIm117 hc0 zb_28_4 (by omega) (by omega)
                                have hFm264 := zfr_up hmm264 hFm117 hc0 rfl
                                have hRC0m264 := zR_C0_fr (zdis_fr (zfr_up hmm264 (zfr_rf [(28, 5)] _) hc0 rfl) rfl) hRC0m117
                                have hRCRm264 := zR_CR_fr (zdis_fr (zfr_up hmm264 (zfr_rf [(28, 5)] _) hc0 rfl) rfl) hRCRm117
                                have hRNSm264 := zR_NS_fr (zdis_fr (zfr_up hmm264 (zfr_rf [(28, 5)] _) hc0 rfl) rfl) hRNSm117
                                have hRTRm264 := zR_TR_fr (zdis_fr (zfr_up hmm264 (zfr_rf [(28, 5)] _) hc0 rfl) rfl) hRTRm117
                                have hRWDm264 := zR_WD_fr (zdis_fr (zfr_up hmm264 (zfr_rf [(28, 5)] _) hc0 rfl) rfl) hRWDm117
                                have hRLRm264 := zLR_wr (zone_190 hc0) hmm264 (by decide)
                                have r265 : 0 ≤ (m264 a0 10) ∧ (m264 a0 10) ≤ 700 := zi_rd hIm264 hc0 zb_28_10
                                generalize hmm266 : zu_up m264 a0 5 (m264 a0 10) = m266
                                have hIm266 := zi_up hmm266 hIm264 hc0 zb_28_5 (by omega) (by omega)
                                have hFm266 := zfr_up hmm266 hFm264 hc0 rfl
                                have hRC0m266 := zR_C0_fr (zdis_fr (zfr_up hmm266 (zfr_rf [(28, 6)] _) hc0 rfl) rfl) hRC0m264
                                have hRCRm266 := zR_CR_fr (zdis_fr (zfr_up hmm266 (zfr_rf [(28, 6)] _) hc0 rfl) rfl) hRCRm264
                                have hRLRm266 := zR_LR_fr (zdis_fr (zfr_up hmm266 (zfr_rf [(28, 6)] _) hc0 rfl) rfl) hRLRm264
                                have hRNSm266 := zR_NS_fr (zdis_fr (zfr_up hmm266 (zfr_rf [(28, 6)] _) hc0 rfl) rfl) hRNSm264
                                have hRTRm266 := zR_TR_fr (zdis_fr (zfr_up hmm266 (zfr_rf [(28, 6)] _) hc0 rfl) rfl) hRTRm264
                                have hRWDm266 := zR_WD_fr (zdis_fr (zfr_up hmm266 (zfr_rf [(28, 6)] _) hc0 rfl) rfl) hRWDm264
                                refine zw_b (by omega) ?_
                                refine zw_some ?_
                                refine zw_b (by omega) ?_
                                refine zw_some ?_
                                refine zw_ite (fun h267 => ?_) (fun h267 => ?_)
                                · exfalso; omega
                                · refine zw_b (by omega) ?_
                                  have r268 : 0 ≤ (m266 a0 7) ∧ (m266 a0 7) ≤ 700 := zi_rd hIm266 hc0 zb_28_7
                                  have e269 : (m266 a0 7) = (m95 a0 7) := (Eq.trans (zs_ne hmm266 (Or.inr (by decide))) (Eq.trans (zs_ne hmm264 (Or.inr (by decide))) (Eq.trans (zs_ne hmm117 (Or.inl (zc_ne hc0 zq_201 (by decide)))) (zs_ne hmm112 (Or.inr (by decide))))))
                                  have r270 : 0 ≤ (m266 a0 8) ∧ (m266 a0 8) ≤ 6 := zi_rd hIm266 hc0 zb_28_8
                                  have e271 : (m266 a0 8) = (m117 a0 8) := (Eq.trans (zs_ne hmm266 (Or.inr (by decide))) (zs_ne hmm264 (Or.inr (by decide))))
                                  have r272 : (-2147483648) ≤ (m266 a0 4) ∧ (m266 a0 4) ≤ 2147483647 := zi_rd hIm266 hc0 zb_28_4
                                  have e273 : (m266 a0 4) = 1 := (Eq.trans (zs_ne hmm266 (Or.inr (by decide))) (zs_eq hmm264))
                                  exact zw_some ⟨hIm266, hFm266, hRC0m266, hRCRm266, hRLRm266, hRNSm266, hRTRm266, hRWDm266, ⟨by decide, by decide⟩, by omega, fun h => absurd h (by decide), fun h => absurd h (by decide)⟩
                            · exfalso; omega
                          · exfalso; omega
                        · exfalso; omega
                  · refine zw_bd (zw_eq (zu_call_at (zt_T n) (zm_85 n) (zdp_85 n) _ _ _ _ _ rfl (zr_85_0 n _ _ a0 1 m69)) ?_)
                    generalize hmm274 : zu_up m69 a0 4 1 = m274
                    have hIm274 := zi_up hmm274 hIm69 hc0 zb_28_4 (by omega) (by omega)
                    have hFm274 := zfr_up hmm274 hFm69 hc0 rfl
                    have hRC0m274 := zR_C0_fr (zdis_fr (zfr_up hmm274 (zfr_rf [(28, 5)] _) hc0 rfl) rfl) hRC0m69
                    have hRCRm274 := zR_CR_fr (zdis_fr (zfr_up hmm274 (zfr_rf [(28, 5)] _) hc0 rfl) rfl) hRCRm69
                    have hRNSm274 := zR_NS_fr (zdis_fr (zfr_up hmm274 (zfr_rf [(28, 5)] _) hc0 rfl) rfl) hRNSm69
                    have hRTRm274 := zR_TR_fr (zdis_fr (zfr_up hmm274 (zfr_rf [(28, 5)] _) hc0 rfl) rfl) hRTRm69
                    have hRWDm274 := zR_WD_fr (zdis_fr (zfr_up hmm274 (zfr_rf [(28, 5)] _) hc0 rfl) rfl) hRWDm69
                    have hRLRm274 := zLR_wr (zone_190 hc0) hmm274 (by decide)
                    have r275 : 0 ≤ (m274 a0 10) ∧ (m274 a0 10) ≤ 700 := zi_rd hIm274 hc0 zb_28_10
                    have e276 : (m274 a0 10) = (m58 a0 10) := (Eq.trans (zs_ne hmm274 (Or.inr (by decide))) (zs_ne hmm69 (Or.inr (by decide))))
                    generalize hmm277 : zu_up m274 a0 5 (m274 a0 10) = m277
                    have hIm277 := zi_up hmm277 hIm274 hc0 zb_28_5 (by omega) (by omega)
                    have hFm277 := zfr_up hmm277 hFm274 hc0 rfl
                    have hRC0m277 := zR_C0_fr (zdis_fr (zfr_up hmm277 (zfr_rf [(28, 6)] _) hc0 rfl) rfl) hRC0m274
                    have hRCRm277 := zR_CR_fr (zdis_fr (zfr_up hmm277 (zfr_rf [(28, 6)] _) hc0 rfl) rfl) hRCRm274
                    have hRLRm277 := zR_LR_fr (zdis_fr (zfr_up hmm277 (zfr_rf [(28, 6)] _) hc0 rfl) rfl) hRLRm274
                    have hRNSm277 := zR_NS_fr (zdis_fr (zfr_up hmm277 (zfr_rf [(28, 6)] _) hc0 rfl) rfl) hRNSm274
                    have hRTRm277 := zR_TR_fr (zdis_fr (zfr_up hmm277 (zfr_rf [(28, 6)] _) hc0 rfl) rfl) hRTRm274
                    have hRWDm277 := zR_WD_fr (zdis_fr (zfr_up hmm277 (zfr_rf [(28, 6)] _) hc0 rfl) rfl) hRWDm274
                    refine zw_b (by omega) ?_
                    refine zw_some ?_
                    refine zw_b (by omega) ?_
                    refine zw_some ?_
                    refine zw_ite (fun h278 => ?_) (fun h278 => ?_)
                    · exfalso; omega
                    · refine zw_b (by omega) ?_
                      refine zw_some ?_
                      refine zw_ite (fun h279 => ?_) (fun h279 => ?_)
                      · exfalso; omega
                      · refine zw_b (by omega) ?_
                        have r280 : 0 ≤ (m277 a0 7) ∧ (m277 a0 7) ≤ 700 := zi_rd hIm277 hc0 zb_28_7
                        have e281 : (m277 a0 7) = (m58 a0 7) := (Eq.trans (zs_ne hmm277 (Or.inr (by decide))) (Eq.trans (zs_ne hmm274 (Or.inr (by decide))) (zs_ne hmm69 (Or.inr (by decide)))))
                        have r282 : 0 ≤ (m277 a0 8) ∧ (m277 a0 8) ≤ 6 := zi_rd hIm277 hc0 zb_28_8
                        have e283 : (m277 a0 8) = (m69 a0 8) := (Eq.trans (zs_ne hmm277 (Or.inr (by decide))) (zs_ne hmm274 (Or.inr (by decide))))
                        have r284 : (-2147483648) ≤ (m277 a0 4) ∧ (m277 a0 4) ≤ 2147483647 := zi_rd hIm277 hc0 zb_28_4
                        have e285 : (m277 a0 4) = 1 := (Eq.trans (zs_ne hmm277 (Or.inr (by decide))) (zs_eq hmm274))
                        exact zw_some ⟨hIm277, hFm277, hRC0m277, hRCRm277, hRLRm277, hRNSm277, hRTRm277, hRWDm277, ⟨by decide, by decide⟩, by omega, fun h => absurd h (by decide), fun h => absurd h (by decide)⟩
                · exfalso; omega
              · exfalso; omega
        · refine zw_bd (zw_eq (zu_call_at (zt_T n) (zm_85 n) (zdp_85 n) _ _ _ _ _ rfl (zr_85_0 n _ _ a0 1 m33)) ?_)
          generalize hmm286 : zu_up m33 a0 4 1 = m286
          have hIm286 := zi_up hmm286 hIm33 hc0 zb_28_4 (by omega) (by omega)
          have hFm286 := zfr_up hmm286 hFm33 hc0 rfl
          have hRC0m286 := zR_C0_fr (zdis_fr (zfr_up hmm286 (zfr_rf [(28, 5)] _) hc0 rfl) rfl) hRC0m33
          have hRCRm286 := zR_CR_fr (zdis_fr (zfr_up hmm286 (zfr_rf [(28, 5)] _) hc0 rfl) rfl) hRCRm33
          have hRNSm286 := zR_NS_fr (zdis_fr (zfr_up hmm286 (zfr_rf [(28, 5)] _) hc0 rfl) rfl) hRNSm33
          have hRTRm286 := zR_TR_fr (zdis_fr (zfr_up hmm286 (zfr_rf [(28, 5)] _) hc0 rfl) rfl) hRTRm33
          have hRWDm286 := zR_WD_fr (zdis_fr (zfr_up hmm286 (zfr_rf [(28, 5)] _) hc0 rfl) rfl) hRWDm33
          have hRLRm286 := zLR_wr (zone_190 hc0) hmm286 (by decide)
          have r287 : 0 ≤ (m286 a0 10) ∧ (m286 a0 10) ≤ 700 := zi_rd hIm286 hc0 zb_28_10
          generalize hmm288 : zu_up m286 a0 5 (m286 a0 10) = m288
          have hIm288 := zi_up hmm288 hIm286 hc0 zb_28_5 (by omega) (by omega)
          have hFm288 := zfr_up hmm288 hFm286 hc0 rfl
          have hRC0m288 := zR_C0_fr (zdis_fr (zfr_up hmm288 (zfr_rf [(28, 6)] _) hc0 rfl) rfl) hRC0m286
          have hRCRm288 := zR_CR_fr (zdis_fr (zfr_up hmm288 (zfr_rf [(28, 6)] _) hc0 rfl) rfl) hRCRm286
          have hRLRm288 := zR_LR_fr (zdis_fr (zfr_up hmm288 (zfr_rf [(28, 6)] _) hc0 rfl) rfl) hRLRm286
          have hRNSm288 := zR_NS_fr (zdis_fr (zfr_up hmm288 (zfr_rf [(28, 6)] _) hc0 rfl) rfl) hRNSm286
          have hRTRm288 := zR_TR_fr (zdis_fr (zfr_up hmm288 (zfr_rf [(28, 6)] _) hc0 rfl) rfl) hRTRm286
          have hRWDm288 := zR_WD_fr (zdis_fr (zfr_up hmm288 (zfr_rf [(28, 6)] _) hc0 rfl) rfl) hRWDm286
          refine zw_b (by omega) ?_
          refine zw_some ?_
          refine zw_b (by omega) ?_
          refine zw_some ?_
          refine zw_ite (fun h289 => ?_) (fun h289 => ?_)
          · exfalso; omega
          · refine zw_b (by omega) ?_
            refine zw_some ?_
            refine zw_ite (fun h290 => ?_) (fun h290 => ?_)
            · exfalso; omega
            · refine zw_b (by omega) ?_
              have r291 : 0 ≤ (m288 a0 7) ∧ (m288 a0 7) ≤ 700 := zi_rd hIm288 hc0 zb_28_7
              have e292 : (m288 a0 7) = (m26 a0 7) := (Eq.trans (zs_ne hmm288 (Or.inr (by decide))) (Eq.trans (zs_ne hmm286 (Or.inr (by decide))) (zs_ne hmm33 (Or.inr (by decide)))))
              have r293 : 0 ≤ (m288 a0 8) ∧ (m288 a0 8) ≤ 6 := zi_rd hIm288 hc0 zb_28_8
              have e294 : (m288 a0 8) = (m33 a0 8) := (Eq.trans (zs_ne hmm288 (Or.inr (by decide))) (zs_ne hmm286 (Or.inr (by decide))))
              have r295 : (-2147483648) ≤ (m288 a0 4) ∧ (m288 a0 4) ≤ 2147483647 := zi_rd hIm288 hc0 zb_28_4
              have e296 : (m288 a0 4) = 1 := (Eq.trans (zs_ne hmm288 (Or.inr (by decide))) (zs_eq hmm286))
              exact zw_some ⟨hIm288, hFm288, hRC0m288, hRCRm288, hRLRm288, hRNSm288, hRTRm288, hRWDm288, ⟨by decide, by decide⟩, by omega, fun h => absurd h (by decide), fun h => absurd h (by decide)⟩
      · refine zw_bd (zw_eq (zu_call_at (zt_T n) (zm_85 n) (zdp_85 n) _ _ _ _ _ rfl (zr_85_0 n _ _ a0 3 m15)) ?_)
        generalize hmm297 : zu_up m15 a0 4 3 = m297
        have hIm297 := zi_up hmm297 hIm15 hc0 zb_28_4 (by omega) (by omega)
        have hFm297 := zfr_up hmm297 hFm15 hc0 rfl
        have hRC0m297 := zR_C0_fr (zdis_fr (zfr_up hmm297 (zfr_rf [(28, 5)] _) hc0 rfl) rfl) hRC0m15
        have hRCRm297 := zR_CR_fr (zdis_fr (zfr_up hmm297 (zfr_rf [(28, 5)] _) hc0 rfl) rfl) hRCRm15
        have hRNSm297 := zR_NS_fr (zdis_fr (zfr_up hmm297 (zfr_rf [(28, 5)] _) hc0 rfl) rfl) hRNSm15
        have hRTRm297 := zR_TR_fr (zdis_fr (zfr_up hmm297 (zfr_rf [(28, 5)] _) hc0 rfl) rfl) hRTRm15
        have hRWDm297 := zR_WD_fr (zdis_fr (zfr_up hmm297 (zfr_rf [(28, 5)] _) hc0 rfl) rfl) hRWDm15
        have hRLRm297 := zLR_wr (zone_190 hc0) hmm297 (by decide)
        have r298 : 0 ≤ (m297 a0 10) ∧ (m297 a0 10) ≤ 700 := zi_rd hIm297 hc0 zb_28_10
        generalize hmm299 : zu_up m297 a0 5 (m297 a0 10) = m299
        have hIm299 := zi_up hmm299 hIm297 hc0 zb_28_5 (by omega) (by omega)
        have hFm299 := zfr_up hmm299 hFm297 hc0 rfl
        have hRC0m299 := zR_C0_fr (zdis_fr (zfr_up hmm299 (zfr_rf [(28, 6)] _) hc0 rfl) rfl) hRC0m297
        have hRCRm299 := zR_CR_fr (zdis_fr (zfr_up hmm299 (zfr_rf [(28, 6)] _) hc0 rfl) rfl) hRCRm297
        have hRLRm299 := zR_LR_fr (zdis_fr (zfr_up hmm299 (zfr_rf [(28, 6)] _) hc0 rfl) rfl) hRLRm297
        have hRNSm299 := zR_NS_fr (zdis_fr (zfr_up hmm299 (zfr_rf [(28, 6)] _) hc0 rfl) rfl) hRNSm297
        have hRTRm299 := zR_TR_fr (zdis_fr (zfr_up hmm299 (zfr_rf [(28, 6)] _) hc0 rfl) rfl) hRTRm297
        have hRWDm299 := zR_WD_fr (zdis_fr (zfr_up hmm299 (zfr_rf [(28, 6)] _) hc0 rfl) rfl) hRWDm297
        refine zw_b (by omega) ?_
        refine zw_some ?_
        refine zw_b (by omega) ?_
        have r300 : 0 ≤ (m299 a0 7) ∧ (m299 a0 7) ≤ 700 := zi_rd hIm299 hc0 zb_28_7
        have e301 : (m299 a0 7) = (m6 a0 7) := (Eq.trans (zs_ne hmm299 (Or.inr (by decide))) (Eq.trans (zs_ne hmm297 (Or.inr (by decide))) (zfr_ap hfm15 hc0 rfl)))
        have r302 : 0 ≤ (m299 a0 8) ∧ (m299 a0 8) ≤ 6 := zi_rd hIm299 hc0 zb_28_8
        have e303 : (m299 a0 8) = (m6 a0 8) := (Eq.trans (zs_ne hmm299 (Or.inr (by decide))) (Eq.trans (zs_ne hmm297 (Or.inr (by decide))) (zfr_ap hfm15 hc0 rfl)))
        have r304 : (-2147483648) ≤ (m299 a0 4) ∧ (m299 a0 4) ≤ 2147483647 := zi_rd hIm299 hc0 zb_28_4
        have e305 : (m299 a0 4) = 3 := (Eq.trans (zs_ne hmm299 (Or.inr (by decide))) (zs_eq hmm297))
        exact zw_some ⟨hIm299, hFm299, hRC0m299, hRCRm299, hRLRm299, hRNSm299, hRTRm299, hRWDm299, ⟨by decide, by decide⟩, by omega, fun h => absurd h (by decide), fun h => absurd h (by decide)⟩
    · refine zw_bd (zw_eq (zu_call_at (zt_T n) (zm_85 n) (zdp_85 n) _ _ _ _ _ rfl (zr_85_0 n _ _ a0 1 m6)) ?_)
      generalize hmm306 : zu_up m6 a0 4 1 = m306
      have hIm306 := zi_up hmm306 hIm6 hc0 zb_28_4 (by omega) (by omega)
      have hFm306 := zfr_up hmm306 hFm6 hc0 rfl
      have hRC0m306 := zR_C0_fr (zdis_fr (zfr_up hmm306 (zfr_rf [(28, 5)] _) hc0 rfl) rfl) hRC0m6
      have hRCRm306 := zR_CR_fr (zdis_fr (zfr_up hmm306 (zfr_rf [(28, 5)] _) hc0 rfl) rfl) hRCRm6
      have hRNSm306 := zR_NS_fr (zdis_fr (zfr_up hmm306 (zfr_rf [(28, 5)] _) hc0 rfl) rfl) hRNSm6
      have hRTRm306 := zR_TR_fr (zdis_fr (zfr_up hmm306 (zfr_rf [(28, 5)] _) hc0 rfl) rfl) hRTRm6
      have hRWDm306 := zR_WD_fr (zdis_fr (zfr_up hmm306 (zfr_rf [(28, 5)] _) hc0 rfl) rfl) hRWDm6
      have hRLRm306 := zLR_wr (zone_190 hc0) hmm306 (by decide)
      have r307 : 0 ≤ (m306 a0 10) ∧ (m306 a0 10) ≤ 700 := zi_rd hIm306 hc0 zb_28_10
      generalize hmm308 : zu_up m306 a0 5 (m306 a0 10) = m308
      have hIm308 := zi_up hmm308 hIm306 hc0 zb_28_5 (by omega) (by omega)
      have hFm308 := zfr_up hmm308 hFm306 hc0 rfl
      have hRC0m308 := zR_C0_fr (zdis_fr (zfr_up hmm308 (zfr_rf [(28, 6)] _) hc0 rfl) rfl) hRC0m306
      have hRCRm308 := zR_CR_fr (zdis_fr (zfr_up hmm308 (zfr_rf [(28, 6)] _) hc0 rfl) rfl) hRCRm306
      have hRLRm308 := zR_LR_fr (zdis_fr (zfr_up hmm308 (zfr_rf [(28, 6)] _) hc0 rfl) rfl) hRLRm306
      have hRNSm308 := zR_NS_fr (zdis_fr (zfr_up hmm308 (zfr_rf [(28, 6)] _) hc0 rfl) rfl) hRNSm306
      have hRTRm308 := zR_TR_fr (zdis_fr (zfr_up hmm308 (zfr_rf [(28, 6)] _) hc0 rfl) rfl) hRTRm306
      have hRWDm308 := zR_WD_fr (zdis_fr (zfr_up hmm308 (zfr_rf [(28, 6)] _) hc0 rfl) rfl) hRWDm306
      refine zw_b (by omega) ?_
      refine zw_some ?_
      refine zw_b (by omega) ?_
      have r309 : 0 ≤ (m308 a0 7) ∧ (m308 a0 7) ≤ 700 := zi_rd hIm308 hc0 zb_28_7
      have e310 : (m308 a0 7) = (m6 a0 7) := (Eq.trans (zs_ne hmm308 (Or.inr (by decide))) (zs_ne hmm306 (Or.inr (by decide))))
      have r311 : 0 ≤ (m308 a0 8) ∧ (m308 a0 8) ≤ 6 := zi_rd hIm308 hc0 zb_28_8
      have e312 : (m308 a0 8) = (m6 a0 8) := (Eq.trans (zs_ne hmm308 (Or.inr (by decide))) (zs_ne hmm306 (Or.inr (by decide))))
      have r313 : (-2147483648) ≤ (m308 a0 4) ∧ (m308 a0 4) ≤ 2147483647 := zi_rd hIm308 hc0 zb_28_4
      have e314 : (m308 a0 4) = 1 := (Eq.trans (zs_ne hmm308 (Or.inr (by decide))) (zs_eq hmm306))
      exact zw_some ⟨hIm308, hFm308, hRC0m308, hRCRm308, hRLRm308, hRNSm308, hRTRm308, hRWDm308, ⟨by decide, by decide⟩, by omega, fun h => absurd h (by decide), fun h => absurd h (by decide)⟩
  · refine zw_bd (zw_eq (zu_call_at (zt_T n) (zm_85 n) (zdp_85 n) _ _ _ _ _ rfl (zr_85_0 n _ _ a0 2 m0)) ?_)
    generalize hmm315 : zu_up m0 a0 4 2 = m315
    have hIm315 := zi_up hmm315 hIm0 hc0 zb_28_4 (by omega) (by omega)
    have hFm315 := zfr_up hmm315 hFm0 hc0 rfl
    have hRC0m315 := zR_C0_fr (zdis_fr (zfr_up hmm315 (zfr_rf [(28, 5)] _) hc0 rfl) rfl) hRC0m0
    have hRCRm315 := zR_CR_fr (zdis_fr (zfr_up hmm315 (zfr_rf [(28, 5)] _) hc0 rfl) rfl) hRCRm0
    have hRNSm315 := zR_NS_fr (zdis_fr (zfr_up hmm315 (zfr_rf [(28, 5)] _) hc0 rfl) rfl) hRNSm0
    have hRTRm315 := zR_TR_fr (zdis_fr (zfr_up hmm315 (zfr_rf [(28, 5)] _) hc0 rfl) rfl) hRTRm0
    have hRWDm315 := zR_WD_fr (zdis_fr (zfr_up hmm315 (zfr_rf [(28, 5)] _) hc0 rfl) rfl) hRWDm0
    have hRLRm315 := zLR_wr (zone_190 hc0) hmm315 (by decide)
    have r316 : 0 ≤ (m315 a0 10) ∧ (m315 a0 10) ≤ 700 := zi_rd hIm315 hc0 zb_28_10
    generalize hmm317 : zu_up m315 a0 5 (m315 a0 10) = m317
    have hIm317 := zi_up hmm317 hIm315 hc0 zb_28_5 (by omega) (by omega)
    have hFm317 := zfr_up hmm317 hFm315 hc0 rfl
    have hRC0m317 := zR_C0_fr (zdis_fr (zfr_up hmm317 (zfr_rf [(28, 6)] _) hc0 rfl) rfl) hRC0m315
    have hRCRm317 := zR_CR_fr (zdis_fr (zfr_up hmm317 (zfr_rf [(28, 6)] _) hc0 rfl) rfl) hRCRm315
    have hRLRm317 := zR_LR_fr (zdis_fr (zfr_up hmm317 (zfr_rf [(28, 6)] _) hc0 rfl) rfl) hRLRm315
    have hRNSm317 := zR_NS_fr (zdis_fr (zfr_up hmm317 (zfr_rf [(28, 6)] _) hc0 rfl) rfl) hRNSm315
    have hRTRm317 := zR_TR_fr (zdis_fr (zfr_up hmm317 (zfr_rf [(28, 6)] _) hc0 rfl) rfl) hRTRm315
    have hRWDm317 := zR_WD_fr (zdis_fr (zfr_up hmm317 (zfr_rf [(28, 6)] _) hc0 rfl) rfl) hRWDm315
    refine zw_b (by omega) ?_
    refine zw_some ?_
    refine zw_b (by omega) ?_
    have r318 : 0 ≤ (m317 a0 7) ∧ (m317 a0 7) ≤ 700 := zi_rd hIm317 hc0 zb_28_7
    have e319 : (m317 a0 7) = (m0 a0 7) := (Eq.trans (zs_ne hmm317 (Or.inr (by decide))) (zs_ne hmm315 (Or.inr (by decide))))
    have r320 : 0 ≤ (m317 a0 8) ∧ (m317 a0 8) ≤ 6 := zi_rd hIm317 hc0 zb_28_8
    have e321 : (m317 a0 8) = (m0 a0 8) := (Eq.trans (zs_ne hmm317 (Or.inr (by decide))) (zs_ne hmm315 (Or.inr (by decide))))
    have r322 : (-2147483648) ≤ (m317 a0 4) ∧ (m317 a0 4) ≤ 2147483647 := zi_rd hIm317 hc0 zb_28_4
    have e323 : (m317 a0 4) = 2 := (Eq.trans (zs_ne hmm317 (Or.inr (by decide))) (zs_eq hmm315))
    exact zw_some ⟨hIm317, hFm317, hRC0m317, hRCRm317, hRLRm317, hRNSm317, hRTRm317, hRWDm317, ⟨by decide, by decide⟩, by omega, fun h => absurd h (by decide), fun h => absurd h (by decide)⟩

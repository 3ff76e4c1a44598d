set_option maxHeartbeats 4000000 in
theorem zk_102 (n : Nat) {a0 : Int} {m0 : zu_m} (hIm0 : zi_I m0) (hc0 : zcls a0 = 28)   (he0 : 1 ≤ m0 a0 8 ∧ m0 a0 8 ≤ 1) (he1 : 5 ≤ m0 a0 9 ∧ m0 a0 9 ≤ 5)  (hRC0m0 : zR_C0 m0) (hRCRm0 : zR_CR m0) (hRLRm0 : zR_LR m0) (hRNSm0 : zR_NS m0) (hRTRm0 : zR_TR m0) (hRWDm0 : zR_WD m0) : zw (zu_call (zt_T n) 102 [(40, a0)] m0) (fun v m => zi_I m ∧ zfr [(28, 5), (28, 6), (28, 8), (28, 9), (28, 10), (28, 11), (28, 12), (28, 21), (28, 24), (28, 43), (109, 0), (110, 0), (111, 0), (112, 0), (113, 0)] m0 m ∧ zR_C0 m ∧ zR_CR m ∧ zR_LR m ∧ zR_NS m ∧ zR_TR m ∧ zR_WD m ∧ (0 ≤ v ∧ v ≤ 1) ∧ ((m0 a0 7) ≤ (m a0 7)) ∧ (v = 1 → ((m a0 8) = 0 ∨ (m0 a0 7) < (m a0 7))) ∧ (v = 1 → (m a0 4) = (m0 a0 4))) := by
  have hFm0 : zfr [(28, 5), (28, 6), (28, 8), (28, 9), (28, 10), (28, 11), (28, 12), (28, 21), (28, 24), (28, 43), (109, 0), (110, 0), (111, 0), (112, 0), (113, 0)] m0 m0 := zfr_rf _ _
  have r1 : 0 ≤ (m0 a0 7) ∧ (m0 a0 7) ≤ 700 := zi_rd hIm0 hc0 zb_28_7
  have r2 : (-2147483648) ≤ (m0 a0 4) ∧ (m0 a0 4) ≤ 2147483647 := zi_rd hIm0 hc0 zb_28_4
  have s3 := hRNSm0 a0 hc0
  have s4 := hRTRm0 a0 hc0
  refine zw_eq (zu_call_at (zt_T n) (zm_102 n) (zdp_102 n) _ _ _ _ _ rfl (zr_102_0 n _ _ a0 m0)) ?_
  have r5 : 0 ≤ (m0 a0 20) ∧ (m0 a0 20) ≤ 4 := zi_rd hIm0 hc0 zb_28_20
  refine zw_ite (fun h6 => ?_) (fun h6 => ?_)
  · refine zw_bd (zw_mono (zk_89 n hIm0 hc0 hRNSm0 hRWDm0) (fun v8 m7 hqm7 => ?_))
    obtain ⟨hIm7, hfm7, hvm7⟩ := hqm7
    have hFm7 := zfr_tr hFm0 hfm7 rfl
    obtain ⟨hRNSm7, hRTRm7, hRWDm7, hvm7⟩ := hvm7
    have hRC0m7 := zR_C0_fr (zdis_fr hfm7 rfl) hRC0m0
    have hRCRm7 := zR_CR_fr (zdis_fr hfm7 rfl) hRCRm0
    have hRLRm7 := zR_LR_fr (zdis_fr hfm7 rfl) hRLRm0
    have s9 := hRNSm7 a0 hc0
    have s10 := hRTRm7 a0 hc0
    have r11 : 0 ≤ (m7 a0 7) ∧ (m7 a0 7) ≤ 700 := zi_rd hIm7 hc0 zb_28_7
    have r12 : 0 ≤ (m7 a0 8) ∧ (m7 a0 8) ≤ 6 := zi_rd hIm7 hc0 zb_28_8
    refine zw_ite (fun h13 => ?_) (fun h13 => ?_)
    · have r14 : 0 ≤ (m7 a0 20) ∧ (m7 a0 20) ≤ 4 := zi_rd hIm7 hc0 zb_28_20
      have e15 : (m7 a0 20) = (m0 a0 20) := (zfr_ap hfm7 hc0 rfl)
      have r16 : (-2147483648) ≤ (m7 a0 9) ∧ (m7 a0 9) ≤ 2147483647 := zi_rd hIm7 hc0 zb_28_9
      refine zw_bd (zw_mono (zk_95 n hIm7 zq_200 ⟨by omega, by omega⟩ ⟨by omega, by omega⟩ ⟨by omega, by omega⟩) (fun v18 m17 hqm17 => ?_))
      obtain ⟨hIm17, hfm17, hvm17⟩ := hqm17
      have hFm17 := zfr_tr hFm7 hfm17 rfl
      have hRC0m17 := zR_C0_fr (zdis_fr hfm17 rfl) hRC0m7
      have hRCRm17 := zR_CR_fr (zdis_fr hfm17 rfl) hRCRm7
      have hRLRm17 := zR_LR_fr (zdis_fr hfm17 rfl) hRLRm7
      have hRNSm17 := zR_NS_fr (zdis_fr hfm17 rfl) hRNSm7
      have hRTRm17 := zR_TR_fr (zdis_fr hfm17 rfl) hRTRm7
      have hRWDm17 := zR_WD_fr (zdis_fr hfm17 rfl) hRWDm7
      have s19 := hRNSm17 a0 hc0
      have s20 := hRTRm17 a0 hc0
      refine zw_ite (fun h21 => ?_) (fun h21 => ?_)
      · have r22 : 0 ≤ (m17 a0 20) ∧ (m17 a0 20) ≤ 4 := zi_rd hIm17 hc0 zb_28_20
        have e23 : (m17 a0 20) = (m7 a0 20) := (zfr_ap hfm17 hc0 rfl)
        have w24 := zu_w32_id (z := 4 + (m17 a0 20)) (by omega) (by omega)
        have r25 : (-2147483648) ≤ (m17 a0 9) ∧ (m17 a0 9) ≤ 2147483647 := zi_rd hIm17 hc0 zb_28_9
        have e26 : (m17 a0 9) = (m7 a0 9) := (zfr_ap hfm17 hc0 rfl)
        have b27 : 0 ≤ (zu_w32 (4 + (m17 a0 20))) ∧ (zu_w32 (4 + (m17 a0 20))) < 8 := by omega
        refine zw_if b27 ?_
        generalize hmm28 : zu_up m17 200 (zu_w32 (4 + (m17 a0 20))) (m17 a0 9) = m28
        have hIm28 := zi_up hmm28 hIm17 zq_200 (zb_109 _) (by omega) (by omega)
        have hFm28 := zfr_up hmm28 hFm17 zq_200 rfl
        have hRC0m28 := zR_C0_fr (zdis_fr (zfr_up hmm28 (zfr_rf [(109, 0)] _) zq_200 rfl) rfl) hRC0m17
        have hRCRm28 := zR_CR_fr (zdis_fr (zfr_up hmm28 (zfr_rf [(109, 0)] _) zq_200 rfl) rfl) hRCRm17
        have hRLRm28 := zR_LR_fr (zdis_fr (zfr_up hmm28 (zfr_rf [(109, 0)] _) zq_200 rfl) rfl) hRLRm17
        have hRNSm28 := zR_NS_fr (zdis_fr (zfr_up hmm28 (zfr_rf [(109, 0)] _) zq_200 rfl) rfl) hRNSm17
        have hRTRm28 := zR_TR_fr (zdis_fr (zfr_up hmm28 (zfr_rf [(109, 0)] _) zq_200 rfl) rfl) hRTRm17
        have hRWDm28 := zR_WD_fr (zdis_fr (zfr_up hmm28 (zfr_rf [(109, 0)] _) zq_200 rfl) rfl) hRWDm17
        have r31 : 0 ≤ (m28 a0 7) ∧ (m28 a0 7) ≤ 700 := zi_rd hIm28 hc0 zb_28_7
        have e32 : (m28 a0 7) = (m7 a0 7) := (Eq.trans (zs_ne hmm28 (Or.inl (zc_ne hc0 zq_200 (by decide)))) (zfr_ap hfm17 hc0 rfl))
        refine zw_bd (zw_mono (zk_89 n hIm28 hc0 hRNSm28 hRWDm28) (fun v30 m29 hqm29 => ?_))
        obtain ⟨hIm29, hfm29, hvm29⟩ := hqm29
        have hFm29 := zfr_tr hFm28 hfm29 rfl
        obtain ⟨hRNSm29, hRTRm29, hRWDm29, hvm29⟩ := hvm29
        have hRC0m29 := zR_C0_fr (zdis_fr hfm29 rfl) hRC0m28
        have hRCRm29 := zR_CR_fr (zdis_fr hfm29 rfl) hRCRm28
        have hRLRm29 := zR_LR_fr (zdis_fr hfm29 rfl) hRLRm28
        have s33 := hRNSm29 a0 hc0
        have s34 := hRTRm29 a0 hc0
        have r35 : 0 ≤ (m29 a0 7) ∧ (m29 a0 7) ≤ 700 := zi_rd hIm29 hc0 zb_28_7
        have r36 : 0 ≤ (m29 a0 8) ∧ (m29 a0 8) ≤ 6 := zi_rd hIm29 hc0 zb_28_8
        refine zw_bd (zw_eq (zu_call_at (zt_T n) (zm_96 n) (zdp_96 n) _ _ _ _ _ rfl (zr_96_0 n _ _ a0 m29)) ?_)
        refine zw_b (by omega) ?_
        generalize hmm37 : zu_up m29 a0 23 1 = m37
        have hIm37 := zi_up hmm37 hIm29 hc0 zb_28_23 (by omega) (by omega)
        have hFm37 := zfr_up hmm37 hFm29 hc0 rfl
        have hRC0m37 := zR_C0_fr (zdis_fr (zfr_up hmm37 (zfr_rf [(28, 24)] _) hc0 rfl) rfl) hRC0m29
        have hRLRm37 := zR_LR_fr (zdis_fr (zfr_up hmm37 (zfr_rf [(28, 24)] _) hc0 rfl) rfl) hRLRm29
        have hRNSm37 := zR_NS_fr (zdis_fr (zfr_up hmm37 (zfr_rf [(28, 24)] _) hc0 rfl) rfl) hRNSm29
        have hRTRm37 := zR_TR_fr (zdis_fr (zfr_up hmm37 (zfr_rf [(28, 24)] _) hc0 rfl) rfl) hRTRm29
        have hRWDm37 := zR_WD_fr (zdis_fr (zfr_up hmm37 (zfr_rf [(28, 24)] _) hc0 rfl) rfl) hRWDm29
        have hRCRm37 := zCR_cells (zone_190 hc0) hmm37 rfl hRCRm29
        have r38 : 1 ≤ (m37 a0 17) ∧ (m37 a0 17) ≤ 8 := zi_rd hIm37 hc0 zb_28_17
        have w39 := zu_w32_id (z := (m37 a0 17) - 1) (by omega) (by omega)
        refine zw_bd (zw_eq (zu_call_at (zt_T n) (zm_94 n) (zdp_94 n) _ _ _ _ _ rfl (zr_94_0 n _ _ a0 0 (zu_w32 ((m37 a0 17) - 1)) m37)) ?_)
        have r40 : 0 ≤ (m37 a0 8) ∧ (m37 a0 8) ≤ 6 := zi_rd hIm37 hc0 zb_28_8
        have e41 : (m37 a0 8) = (m29 a0 8) := (zs_ne hmm37 (Or.inr (by decide)))
        refine zw_ite (fun h42 => ?_) (fun h42 => ?_)
        · have r43 : (-2147483648) ≤ (m37 a0 9) ∧ (m37 a0 9) ≤ 2147483647 := zi_rd hIm37 hc0 zb_28_9
          have e44 : (m37 a0 9) = (m29 a0 9) := (zs_ne hmm37 (Or.inr (by decide)))
          refine zw_bd (zw_eq (zu_call_at (zt_T n) (zm_83 n) (zdp_83 n) _ _ _ _ _ rfl (zr_83_0 n _ _ (m37 a0 9) 0 (zu_w32 ((m37 a0 17) - 1)) m37)) ?_)
          refine zw_ite (fun h45 => ?_) (fun h45 => ?_)
          · exfalso; omega
          · refine zw_ite (fun h46 => ?_) (fun h46 => ?_)
            · refine zw_b (by omega) ?_
              refine zw_some ?_
              refine zw_ite (fun h47 => ?_) (fun h47 => ?_)
              · exfalso; omega
              · refine zw_bd (zw_eq (zu_call_at (zt_T n) (zm_85 n) (zdp_85 n) _ _ _ _ _ rfl (zr_85_0 n _ _ a0 2 m37)) ?_)
                generalize hmm48 : zu_up m37 a0 4 2 = m48
                have hIm48 := zi_up hmm48 hIm37 hc0 zb_28_4 (by omega) (by omega)
                have hFm48 := zfr_up hmm48 hFm37 hc0 rfl
                have hRC0m48 := zR_C0_fr (zdis_fr (zfr_up hmm48 (zfr_rf [(28, 5)] _) hc0 rfl) rfl) hRC0m37
                have hRCRm48 := zR_CR_fr (zdis_fr (zfr_up hmm48 (zfr_rf [(28, 5)] _) hc0 rfl) rfl) hRCRm37
                have hRNSm48 := zR_NS_fr (zdis_fr (zfr_up hmm48 (zfr_rf [(28, 5)] _) hc0 rfl) rfl) hRNSm37
                have hRTRm48 := zR_TR_fr (zdis_fr (zfr_up hmm48 (zfr_rf [(28, 5)] _) hc0 rfl) rfl) hRTRm37
                have hRWDm48 := zR_WD_fr (zdis_fr (zfr_up hmm48 (zfr_rf [(28, 5)] _) hc0 rfl) rfl) hRWDm37
                have hRLRm48 := zLR_wr (zone_190 hc0) hmm48 (by decide)
                have r49 : 0 ≤ (m48 a0 10) ∧ (m48 a0 10) ≤ 700 := zi_rd hIm48 hc0 zb_28_10
                generalize hmm50 : zu_up m48 a0 5 (m48 a0 10) = m50
                have hIm50 := zi_up hmm50 hIm48 hc0 zb_28_5 (by omega) (by omega)
                have hFm50 := zfr_up hmm50 hFm48 hc0 rfl
                have hRC0m50 := zR_C0_fr (zdis_fr (zfr_up hmm50 (zfr_rf [(28, 6)] _) hc0 rfl) rfl) hRC0m48
                have hRCRm50 := zR_CR_fr (zdis_fr (zfr_up hmm50 (zfr_rf [(28, 6)] _) hc0 rfl) rfl) hRCRm48
                have hRLRm50 := zR_LR_fr (zdis_fr (zfr_up hmm50 (zfr_rf [(28, 6)] _) hc0 rfl) rfl) hRLRm48
                have hRNSm50 := zR_NS_fr (zdis_fr (zfr_up hmm50 (zfr_rf [(28, 6)] _) hc0 rfl) rfl) hRNSm48
                have hRTRm50 := zR_TR_fr (zdis_fr (zfr_up hmm50 (zfr_rf [(28, 6)] _) hc0 rfl) rfl) hRTRm48
                have hRWDm50 := zR_WD_fr (zdis_fr (zfr_up hmm50 (zfr_rf [(28, 6)] _) hc0 rfl) rfl) hRWDm48
                refine zw_b (by omega) ?_
                refine zw_some ?_
                refine zw_b (by omega) ?_
                refine zw_some ?_
                refine zw_ite (fun h51 => ?_) (fun h51 => ?_)
                · exfalso; omega
                · refine zw_b (by omega) ?_
                  refine zw_some ?_
                  refine zw_ite (fun h52 => ?_) (fun h52 => ?_)
                  · exfalso; omega
                  · refine zw_b (by omega) ?_
                    have r53 : 0 ≤ (m50 a0 7) ∧ (m50 a0 7) ≤ 700 := zi_rd hIm50 hc0 zb_28_7
                    have e54 : (m50 a0 7) = (m29 a0 7) := (Eq.trans (zs_ne hmm50 (Or.inr (by decide))) (Eq.trans (zs_ne hmm48 (Or.inr (by decide))) (zs_ne hmm37 (Or.inr (by decide)))))
                    have r55 : 0 ≤ (m50 a0 8) ∧ (m50 a0 8) ≤ 6 := zi_rd hIm50 hc0 zb_28_8
                    have e56 : (m50 a0 8) = (m37 a0 8) := (Eq.trans (zs_ne hmm50 (Or.inr (by decide))) (zs_ne hmm48 (Or.inr (by decide))))
                    have r57 : (-2147483648) ≤ (m50 a0 4) ∧ (m50 a0 4) ≤ 2147483647 := zi_rd hIm50 hc0 zb_28_4
                    have e58 : (m50 a0 4) = 2 := (Eq.trans (zs_ne hmm50 (Or.inr (by decide))) (zs_eq hmm48))
                    exact zw_some ⟨hIm50, hFm50, hRC0m50, hRCRm50, hRLRm50, hRNSm50, hRTRm50, hRWDm50, ⟨by omega, by omega⟩, by omega, by omega, by omega⟩
            · refine zw_b (by omega) ?_
              refine zw_some ?_
              refine zw_ite (fun h59 => ?_) (fun h59 => ?_)
              · generalize hmm60 : zu_up m37 a0 11 (m37 a0 9) = m60
                have hIm60 := zi_up hmm60 hIm37 hc0 zb_28_11 (by omega) (by omega)
                have hFm60 := zfr_up hmm60 hFm37 hc0 rfl
                have hRC0m60 := zR_C0_fr (zdis_fr (zfr_up hmm60 (zfr_rf [(28, 12)] _) hc0 rfl) rfl) hRC0m37
                have hRCRm60 := zR_CR_fr (zdis_fr (zfr_up hmm60 (zfr_rf [(28, 12)] _) hc0 rfl) rfl) hRCRm37
                have hRLRm60 := zR_LR_fr (zdis_fr (zfr_up hmm60 (zfr_rf [(28, 12)] _) hc0 rfl) rfl) hRLRm37
                have hRNSm60 := zR_NS_fr (zdis_fr (zfr_up hmm60 (zfr_rf [(28, 12)] _) hc0 rfl) rfl) hRNSm37
                have hRTRm60 := zR_TR_fr (zdis_fr (zfr_up hmm60 (zfr_rf [(28, 12)] _) hc0 rfl) rfl) hRTRm37
                have hRWDm60 := zR_WD_fr (zdis_fr (zfr_up hmm60 (zfr_rf [(28, 12)] _) hc0 rfl) rfl) hRWDm37
                have r63 : 0 ≤ (m60 a0 7) ∧ (m60 a0 7) ≤ 700 := zi_rd hIm60 hc0 zb_28_7
                have e64 : (m60 a0 7) = (m29 a0 7) := (Eq.trans (zs_ne hmm60 (Or.inr (by decide))) (zs_ne hmm37 (Or.inr (by decide))))
                refine zw_bd (zw_mono (zk_89 n hIm60 hc0 hRNSm60 hRWDm60) (fun v62 m61 hqm61 => ?_))
                obtain ⟨hIm61, hfm61, hvm61⟩ := hqm61
                have hFm61 := zfr_tr hFm60 hfm61 rfl
                obtain ⟨hRNSm61, hRTRm61, hRWDm61, hvm61⟩ := hvm61
                have hRC0m61 := zR_C0_fr (zdis_fr hfm61 rfl) hRC0m60
                have hRCRm61 := zR_CR_fr (zdis_fr hfm61 rfl) hRCRm60
                have hRLRm61 := zR_LR_fr (zdis_fr hfm61 rfl) hRLRm60
                have s65 := hRNSm61 a0 hc0
                have s66 := hRTRm61 a0 hc0
                have r67 : 0 ≤ (m61 a0 7) ∧ (m61 a0 7) ≤ 700 := zi_rd hIm61 hc0 zb_28_7
                have r68 : 0 ≤ (m61 a0 8) ∧ (m61 a0 8) ≤ 6 := zi_rd hIm61 hc0 zb_28_8
                refine zw_b (by omega) ?_
                refine zw_some ?_
                refine zw_ite (fun h69 => ?_) (fun h69 => ?_)
                · have r70 : (-2147483648) ≤ (m61 a0 11) ∧ (m61 a0 11) ≤ 2147483647 := zi_rd hIm61 hc0 zb_28_11
                  have e71 : (m61 a0 11) = (m37 a0 9) := (Eq.trans (zfr_ap hfm61 hc0 rfl) (zs_eq hmm60))
                  have r72 : 0 ≤ (m61 a0 10) ∧ (m61 a0 10) ≤ 700 := zi_rd hIm61 hc0 zb_28_10
                  generalize hmm73 : zu_up m61 a0 42 (m61 a0 10) = m73
                  have hIm73 := zi_up hmm73 hIm61 hc0 zb_28_42 (by omega) (by omega)
                  have hFm73 := zfr_up hmm73 hFm61 hc0 rfl
                  have hRC0m73 := zR_C0_fr (zdis_fr (zfr_up hmm73 (zfr_rf [(28, 43)] _) hc0 rfl) rfl) hRC0m61
                  have hRCRm73 := zR_CR_fr (zdis_fr (zfr_up hmm73 (zfr_rf [(28, 43)] _) hc0 rfl) rfl) hRCRm61
                  have hRLRm73 := zR_LR_fr (zdis_fr (zfr_up hmm73 (zfr_rf [(28, 43)] _) hc0 rfl) rfl) hRLRm61
                  have hRNSm73 := zR_NS_fr (zdis_fr (zfr_up hmm73 (zfr_rf [(28, 43)] _) hc0 rfl) rfl) hRNSm61
                  have hRTRm73 := zR_TR_fr (zdis_fr (zfr_up hmm73 (zfr_rf [(28, 43)] _) hc0 rfl) rfl) hRTRm61
                  have hRWDm73 := zR_WD_fr (zdis_fr (zfr_up hmm73 (zfr_rf [(28, 43)] _) hc0 rfl) rfl) hRWDm61
                  have r74 : 1 ≤ (m73 a0 18) ∧ (m73 a0 18) ≤ 6 := zi_rd hIm73 hc0 zb_28_18
                  have w75 := zu_w32_id (z := (m73 a0 18) - 1) (by omega) (by omega)
                  refine zw_bd (zw_eq (zu_call_at (zt_T n) (zm_94 n) (zdp_94 n) _ _ _ _ _ rfl (zr_94_0 n _ _ a0 0 (zu_w32 ((m73 a0 18) - 1)) m73)) ?_)
                  have r76 : 0 ≤ (m73 a0 8) ∧ (m73 a0 8) ≤ 6 := zi_rd hIm73 hc0 zb_28_8
                  have e77 : (m73 a0 8) = (m61 a0 8) := (zs_ne hmm73 (Or.inr (by decide)))
                  refine zw_ite (fun h78 => ?_) (fun h78 => ?_)
                  · have r79 : (-2147483648) ≤ (m73 a0 9) ∧ (m73 a0 9) ≤ 2147483647 := zi_rd hIm73 hc0 zb_28_9
                    have e80 : (m73 a0 9) = (m61 a0 9) := (zs_ne hmm73 (Or.inr (by decide)))
                    refine zw_bd (zw_eq (zu_call_at (zt_T n) (zm_83 n) (zdp_83 n) _ _ _ _ _ rfl (zr_83_0 n _ _ (m73 a0 9) 0 (zu_w32 ((m73 a0 18) - 1)) m73)) ?_)
                    refine zw_ite (fun h81 => ?_) (fun h81 => ?_)
                    · exfalso; omega
                    · refine zw_ite (fun h82 => ?_) (fun h82 => ?_)
                      · refine zw_b (by omega) ?_
                        refine zw_some ?_
                        refine zw_ite (fun h83 => ?_) (fun h83 => ?_)
                        · exfalso; omega
                        · refine zw_bd (zw_eq (zu_call_at (zt_T n) (zm_85 n) (zdp_85 n) _ _ _ _ _ rfl (zr_85_0 n _ _ a0 2 m73)) ?_)
                          generalize hmm84 : zu_up m73 a0 4 2 = m84
                          have hIm84 := zi_up hmm84 hIm73 hc0 zb_28_4 (by omega) (by omega)
                          have hFm84 := zfr_up hmm84 hFm73 hc0 rfl
                          have hRC0m84 := zR_C0_fr (zdis_fr (zfr_up hmm84 (zfr_rf [(28, 5)] _) hc0 rfl) rfl) hRC0m73
                          have hRCRm84 := zR_CR_fr (zdis_fr (zfr_up hmm84 (zfr_rf [(28, 5)] _) hc0 rfl) rfl) hRCRm73
                          have hRNSm84 := zR_NS_fr (zdis_fr (zfr_up hmm84 (zfr_rf [(28, 5)] _) hc0 rfl) rfl) hRNSm73
                          have hRTRm84 := zR_TR_fr (zdis_fr (zfr_up hmm84 (zfr_rf [(28, 5)] _) hc0 rfl) rfl) hRTRm73
                          have hRWDm84 := zR_WD_fr (zdis_fr (zfr_up hmm84 (zfr_rf [(28, 5)] _) hc0 rfl) rfl) hRWDm73
                          have hRLRm84 := zLR_wr (zone_190 hc0) hmm84 (by decide)
                          have r85 : 0 ≤ (m84 a0 10) ∧ (m84 a0 10) ≤ 700 := zi_rd hIm84 hc0 zb_28_10
                          have e86 : (m84 a0 10) = (m61 a0 10) := (Eq.trans (zs_ne hmm84 (Or.inr (by decide))) (zs_ne hmm73 (Or.inr (by decide))))
                          generalize hmm87 : zu_up m84 a0 5 (m84 a0 10) = m87
                          have hIm87 := zi_up hmm87 hIm84 hc0 zb_28_5 (by omega) (by omega)
                          have hFm87 := zfr_up hmm87 hFm84 hc0 rfl
                          have hRC0m87 := zR_C0_fr (zdis_fr (zfr_up hmm87 (zfr_rf [(28, 6)] _) hc0 rfl) rfl) hRC0m84
                          have hRCRm87 := zR_CR_fr (zdis_fr (zfr_up hmm87 (zfr_rf [(28, 6)] _) hc0 rfl) rfl) hRCRm84
                          have hRLRm87 := zR_LR_fr (zdis_fr (zfr_up hmm87 (zfr_rf [(28, 6)] _) hc0 rfl) rfl) hRLRm84
                          have hRNSm87 := zR_NS_fr (zdis_fr (zfr_up hmm87 (zfr_rf [(28, 6)] _) hc0 rfl) rfl) hRNSm84
                          have hRTRm87 := zR_TR_fr (zdis_fr (zfr_up hmm87 (zfr_rf [(28, 6)] _) hc0 rfl) rfl) hRTRm84
                          have hRWDm87 := zR_WD_fr (zdis_fr (zfr_up hmm87 (zfr_rf [(28, 6)] _) hc0 rfl) rfl) hRWDm84
                          refine zw_b (by omega) ?_
                          refine zw_some ?_
                          refine zw_b (by omega) ?_
                          refine zw_some ?_
                          refine zw_ite (fun h88 => ?_) (fun h88 => ?_)
                          · exfalso; omega
                          · refine zw_b (by omega) ?_
                            refine zw_some ?_
                            refine zw_ite (fun h89 => ?_) (fun h89 => ?_)
                            · exfalso; omega
                            · refine zw_b (by omega) ?_
                              have r90 : 0 ≤ (m87 a0 7) ∧ (m87 a0 7) ≤ 700 := zi_rd hIm87 hc0 zb_28_7
                              have e91 : (m87 a0 7) = (m61 a0 7) := (Eq.trans (zs_ne hmm87 (Or.inr (by decide))) (Eq.trans (zs_ne hmm84 (Or.inr (by decide))) (zs_ne hmm73 (Or.inr (by decide)))))
                              have r92 : 0 ≤ (m87 a0 8) ∧ (m87 a0 8) ≤ 6 := zi_rd hIm87 hc0 zb_28_8
                              have e93 : (m87 a0 8) = (m73 a0 8) := (Eq.trans (zs_ne hmm87 (Or.inr (by decide))) (zs_ne hmm84 (Or.inr (by decide))))
                              have r94 : (-2147483648) ≤ (m87 a0 4) ∧ (m87 a0 4) ≤ 2147483647 := zi_rd hIm87 hc0 zb_28_4
                              have e95 : (m87 a0 4) = 2 := (Eq.trans (zs_ne hmm87 (Or.inr (by decide))) (zs_eq hmm84))
                              exact zw_some ⟨hIm87, hFm87, hRC0m87, hRCRm87, hRLRm87, hRNSm87, hRTRm87, hRWDm87, ⟨by omega, by omega⟩, by omega, by omega, by omega⟩
                      · refine zw_b (by omega) ?_
                        refine zw_some ?_
                        refine zw_ite (fun h96 => ?_) (fun h96 => ?_)
                        · generalize hmm97 : zu_up m73 a0 11 (m73 a0 9) = m97
                          have hIm97 := zi_up hmm97 hIm73 hc0 zb_28_11 (by omega) (by omega)
                          have hFm97 := zfr_up hmm97 hFm73 hc0 rfl
                          have hRC0m97 := zR_C0_fr (zdis_fr (zfr_up hmm97 (zfr_rf [(28, 12)] _) hc0 rfl) rfl) hRC0m73
                          have hRCRm97 := zR_CR_fr (zdis_fr (zfr_up hmm97 (zfr_rf [(28, 12)] _) hc0 rfl) rfl) hRCRm73
                          have hRLRm97 := zR_LR_fr (zdis_fr (zfr_up hmm97 (zfr_rf [(28, 12)] _) hc0 rfl) rfl) hRLRm73
                          have hRNSm97 := zR_NS_fr (zdis_fr (zfr_up hmm97 (zfr_rf [(28, 12)] _) hc0 rfl) rfl) hRNSm73
                          have hRTRm97 := zR_TR_fr (zdis_fr (zfr_up hmm97 (zfr_rf [(28, 12)] _) hc0 rfl) rfl) hRTRm73
                          have hRWDm97 := zR_WD_fr (zdis_fr (zfr_up hmm97 (zfr_rf [(28, 12)] _) hc0 rfl) rfl) hRWDm73
                          have r100 : 0 ≤ (m97 a0 7) ∧ (m97 a0 7) ≤ 700 := zi_rd hIm97 hc0 zb_28_7
                          have e101 : (m97 a0 7) = (m61 a0 7) := (Eq.trans (zs_ne hmm97 (Or.inr (by decide))) (zs_ne hmm73 (Or.inr (by decide))))
                          refine zw_bd (zw_mono (zk_89 n hIm97 hc0 hRNSm97 hRWDm97) (fun v99 m98 hqm98 => ?_))
                          obtain ⟨hIm98, hfm98, hvm98⟩ := hqm98
                          have hFm98 := zfr_tr hFm97 hfm98 rfl
                          obtain ⟨hRNSm98, hRTRm98, hRWDm98, hvm98⟩ := hvm98
                          have hRC0m98 := zR_C0_fr (zdis_fr hfm98 rfl) hRC0m97
                          have hRCRm98 := zR_CR_fr (zdis_fr hfm98 rfl) hRCRm97
                          have hRLRm98 := zR_LR_fr (zdis_fr hfm98 rfl) hRLRm97
                          have s102 := hRNSm98 a0 hc0
                          have s103 := hRTRm98 a0 hc0
                          have r104 : 0 ≤ (m98 a0 7) ∧ (m98 a0 7) ≤ 700 := zi_rd hIm98 hc0 zb_28_7
                          have r105 : 0 ≤ (m98 a0 8) ∧ (m98 a0 8) ≤ 6 := zi_rd hIm98 hc0 zb_28_8
                          refine zw_b (by omega) ?_
                          refine zw_some ?_
                          refine zw_ite (fun h106 => ?_) (fun h106 => ?_)
                          · have r107 : 1 ≤ (m98 a0 17) ∧ (m98 a0 17) ≤ 8 := zi_rd hIm98 hc0 zb_28_17
                            have e108 : (m98 a0 17) = (m37 a0 17) := (Eq.trans (zfr_ap hfm98 hc0 rfl) (Eq.trans (zs_ne hmm97 (Or.inr (by decide))) (Eq.trans (zs_ne hmm73 (Or.inr (by decide))) (Eq.trans (zfr_ap hfm61 hc0 rfl) (zs_ne hmm60 (Or.inr (by decide)))))))
                            have r109 : (-2147483648) ≤ (m98 a0 11) ∧ (m98 a0 11) ≤ 2147483647 := zi_rd hIm98 hc0 zb_28_11
                            have e110 : (m98 a0 11) = (m73 a0 9) := (Eq.trans (zfr_ap hfm98 hc0 rfl) (zs_eq hmm97))
                            have p111 := zmul_bd (x := (m98 a0 17)) (y := (m98 a0 11)) (a := 1) (b := 0) (A := 8) (B := 5) (by omega) (by omega) (by omega) (by omega) (by omega) (by omega)
                            have w112 := zu_w32_id (z := (m98 a0 17) * (m98 a0 11)) (by omega) (by omega)
                            have w113 := zu_w32_id (z := (zu_w32 ((m98 a0 17) * (m98 a0 11))) + (m61 a0 11)) (by omega) (by omega)
                            have r114 : 1 ≤ (m98 a0 18) ∧ (m98 a0 18) ≤ 6 := zi_rd hIm98 hc0 zb_28_18
                            have e115 : (m98 a0 18) = (m73 a0 18) := (Eq.trans (zfr_ap hfm98 hc0 rfl) (zs_ne hmm97 (Or.inr (by decide))))
                            have hgl : (zu_w32 ((zu_w32 ((m98 a0 17) * (m98 a0 11))) + (m61 a0 11))) < (m98 a0 17) * (m98 a0 18) := zcell_lt2 (n := (m98 a0 11)) (x := (m61 a0 11)) rfl (by omega) (by omega) (by omega) (by omega) (by omega)
                            generalize hmm116 : zu_up m98 a0 11 (zu_w32 ((zu_w32 ((m98 a0 17) * (m98 a0 11))) + (m61 a0 11))) = m116
                            have hIm116 := zi_up hmm116 hIm98 hc0 zb_28_11 (by omega) (by omega)
                            have hFm116 := zfr_up hmm116 hFm98 hc0 rfl
                            have hRC0m116 := zR_C0_fr (zdis_fr (zfr_up hmm116 (zfr_rf [(28, 12)] _) hc0 rfl) rfl) hRC0m98
                            have hRCRm116 := zR_CR_fr (zdis_fr (zfr_up hmm116 (zfr_rf [(28, 12)] _) hc0 rfl) rfl) hRCRm98
                            have hRLRm116 := zR_LR_fr (zdis_fr (zfr_up hmm116 (zfr_rf [(28, 12)] _) hc0 rfl) rfl) hRLRm98
                            have hRNSm116 := zR_NS_fr (zdis_fr (zfr_up hmm116 (zfr_rf [(28, 12)] _) hc0 rfl) rfl) hRNSm98
                            have hRTRm116 := zR_TR_fr (zdis_fr (zfr_up hmm116 (zfr_rf [(28, 12)] _) hc0 rfl) rfl) hRTRm98
                            have hRWDm116 := zR_WD_fr (zdis_fr (zfr_up hmm116 (zfr_rf [(28, 12)] _) hc0 rfl) rfl) hRWDm98
                            refine zw_b (by omega) ?_
                            refine zw_some ?_
                            refine zw_ite (fun h117 => ?_) (fun h117 => ?_)
                            · have r118 : (-2147483648) ≤ (m116 a0 11) ∧ (m116 a0 11) ≤ 2147483647 := zi_rd hIm116 hc0 zb_28_11
                              have e119 : (m116 a0 11) = (zu_w32 ((zu_w32 ((m98 a0 17) * (m98 a0 11))) + (m61 a0 11))) := (zs_eq hmm116)
                              have b120 : 0 ≤ (zu_w32 (4 + (m17 a0 20))) ∧ (zu_w32 (4 + (m17 a0 20))) < 8 := by omega
                              refine zw_if b120 ?_
                              generalize hmm121 : zu_up m116 201 (zu_w32 (4 + (m17 a0 20))) (m116 a0 11) = m121
                              have hIm121 := zi_up hmm121 hIm116 zq_201 (zb_110 _) (by omega) (by omega)
                              have hFm121 := zfr_up hmm121 hFm116 zq_201 rfl
                              have hRLRm121 := zR_LR_fr (zdis_fr (zfr_up hmm121 (zfr_rf [(110, 0)] _) zq_201 rfl) rfl) hRLRm116
                              have hRNSm121 := zR_NS_fr (zdis_fr (zfr_up hmm121 (zfr_rf [(110, 0)] _) zq_201 rfl) rfl) hRNSm116
                              have hRTRm121 := zR_TR_fr (zdis_fr (zfr_up hmm121 (zfr_rf [(110, 0)] _) zq_201 rfl) rfl) hRTRm116
                              have hRWDm121 := zR_WD_fr (zdis_fr (zfr_up hmm121 (zfr_rf [(110, 0)] _) zq_201 rfl) rfl) hRWDm116
                              have r122 : 0 ≤ (m116 a0 20) ∧ (m116 a0 20) ≤ 4 := zi_rd hIm116 hc0 zb_28_20
                              have e123 : (m116 a0 20) = (m17 a0 20) := (Eq.trans (zs_ne hmm116 (Or.inr (by decide))) (Eq.trans (zfr_ap hfm98 hc0 rfl) (Eq.trans (zs_ne hmm97 (Or.inr (by decide))) (Eq.trans (zs_ne hmm73 (Or.inr (by decide))) (Eq.trans (zfr_ap hfm61 hc0 rfl) (Eq.trans (zs_ne hmm60 (Or.inr (by decide))) (Eq.trans (zs_ne hmm37 (Or.inr (by decide))) (Eq.trans (zfr_ap hfm29 hc0 rfl) (zs_ne hmm28 (Or.inl (zc_ne hc0 zq_200 (by decide))))))))))))
                              have hRC0m121 := zC0_hi hmm121 (by omega) hRC0m116
                              have hRCRm121 := zCR_hi (zone_190 hc0) hmm121 (by omega) hRCRm116
                              refine zw_bd (zw_eq (zu_call_at (zt_T n) (zm_94 n) (zdp_94 n) _ _ _ _ _ rfl (zr_94_0 n _ _ a0 1 15 m121)) ?_)
                              have r124 : 0 ≤ (m121 a0 8) ∧ (m121 a0 8) ≤ 6 := zi_rd hIm121 hc0 zb_28_8
                              have e125 : (m121 a0 8) = (m98 a0 8) := (Eq.trans (zs_ne hmm121 (Or.inl (zc_ne hc0 zq_201 (by decide)))) (zs_ne hmm116 (Or.inr (by decide))))
                              refine zw_ite (fun h126 => ?_) (fun h126 => ?_)
                              · have r127 : (-2147483648) ≤ (m121 a0 9) ∧ (m121 a0 9) ≤ 2147483647 := zi_rd hIm121 hc0 zb_28_9
                                have e128 : (m121 a0 9) = (m98 a0 9) := (Eq.trans (zs_ne hmm121 (Or.inl (zc_ne hc0 zq_201 (by decide)))) (zs_ne hmm116 (Or.inr (by decide))))
                                refine zw_bd (zw_eq (zu_call_at (zt_T n) (zm_83 n) (zdp_83 n) _ _ _ _ _ rfl (zr_83_0 n _ _ (m121 a0 9) 1 15 m121)) ?_)
                                refine zw_ite (fun h129 => ?_) (fun h129 => ?_)
                                · refine zw_b (by omega) ?_
                                  refine zw_some ?_
                                  refine zw_ite (fun h130 => ?_) (fun h130 => ?_)
                                  · exfalso; omega
                                  · refine zw_bd (zw_eq (zu_call_at (zt_T n) (zm_85 n) (zdp_85 n) _ _ _ _ _ rfl (zr_85_0 n _ _ a0 2 m121)) ?_)
                                    generalize hmm131 : zu_up m121 a0 4 2 = m131
                                    have hIm131 := zi_up hmm131 hIm121 hc0 zb_28_4 (by omega) (by omega)
                                    have hFm131 := zfr_up hmm131 hFm121 hc0 rfl
                                    have hRC0m131 := zR_C0_fr (zdis_fr (zfr_up hmm131 (zfr_rf [(28, 5)] _) hc0 rfl) rfl) hRC0m121
                                    have hRCRm131 := zR_CR_fr (zdis_fr (zfr_up hmm131 (zfr_rf [(28, 5)] _) hc0 rfl) rfl) hRCRm121
                                    have hRNSm131 := zR_NS_fr (zdis_fr (zfr_up hmm131 (zfr_rf [(28, 5)] _) hc0 rfl) rfl) hRNSm121
                                    have hRTRm131 := zR_TR_fr (zdis_fr (zfr_up hmm131 (zfr_rf [(28, 5)] _) hc0 rfl) rfl) hRTRm121
                                    have hRWDm131 := zR_WD_fr (zdis_fr (zfr_up hmm131 (zfr_rf [(28, 5)] _) hc0 rfl) rfl) hRWDm121
                                    have hRLRm131 := zLR_wr (zone_190 hc0) hmm131 (by decide)
                                    have r132 : 0 ≤ (m131 a0 10) ∧ (m131 a0 10) ≤ 700 := zi_rd hIm131 hc0 zb_28_10
                                    generalize hmm133 : zu_up m131 a0 5 (m131 a0 10) = m133
                                    have hIm133 := zi_up hmm133 hIm131 hc0 zb_28_5 (by omega) (by omega)
                                    have hFm133 := zfr_up hmm133 hFm131 hc0 rfl
                                    have hRC0m133 := zR_C0_fr (zdis_fr (zfr_up hmm133 (zfr_rf [(28, 6)] _) hc0 rfl) rfl) hRC0m131
                                    have hRCRm133 := zR_CR_fr (zdis_fr (zfr_up hmm133 (zfr_rf [(28, 6)] _) hc0 rfl) rfl) hRCRm131
                                    have hRLRm133 := zR_LR_fr (zdis_fr (zfr_up hmm133 (zfr_rf [(28, 6)] _) hc0 rfl) rfl) hRLRm131
                                    have hRNSm133 := zR_NS_fr (zdis_fr (zfr_up hmm133 (zfr_rf [(28, 6)] _) hc0 rfl) rfl) hRNSm131
                                    have hRTRm133 := zR_TR_fr (zdis_fr (zfr_up hmm133 (zfr_rf [(28, 6)] _) hc0 rfl) rfl) hRTRm131
                                    have hRWDm133 := zR_WD_fr (zdis_fr (zfr_up hmm133 (zfr_rf [(28, 6)] _) hc0 rfl) rfl) hRWDm131
                                    refine zw_b (by omega) ?_
                                    refine zw_some ?_
                                    refine zw_b (by omega) ?_
                                    refine zw_some ?_
                                    refine zw_ite (fun h134 => ?_) (fun h134 => ?_)
                                    · exfalso; omega
                                    · refine zw_b (by omega) ?_
                                      have r135 : 0 ≤ (m133 a0 7) ∧ (m133 a0 7) ≤ 700 := zi_rd hIm133 hc0 zb_28_7
                                      have e136 : (m133 a0 7) = (m98 a0 7) := (Eq.trans (zs_ne hmm133 (Or.inr (by decide))) (Eq.trans (zs_ne hmm131 (Or.inr (by decide))) (Eq.trans (zs_ne hmm121 (Or.inl (zc_ne hc0 zq_201 (by decide)))) (zs_ne hmm116 (Or.inr (by decide))))))
                                      have r137 : 0 ≤ (m133 a0 8) ∧ (m133 a0 8) ≤ 6 := zi_rd hIm133 hc0 zb_28_8
                                      have e138 : (m133 a0 8) = (m121 a0 8) := (Eq.trans (zs_ne hmm133 (Or.inr (by decide))) (zs_ne hmm131 (Or.inr (by decide))))
                                      have r139 : (-2147483648) ≤ (m133 a0 4) ∧ (m133 a0 4) ≤ 2147483647 := zi_rd hIm133 hc0 zb_28_4
                                      have e140 : (m133 a0 4) = 2 := (Eq.trans (zs_ne hmm133 (Or.inr (by decide))) (zs_eq hmm131))
                                      exact zw_some ⟨hIm133, hFm133, hRC0m133, hRCRm133, hRLRm133, hRNSm133, hRTRm133, hRWDm133, ⟨by omega, by omega⟩, by omega, by omega, by omega⟩
                                · refine zw_ite (fun h141 => ?_) (fun h141 => ?_)
                                  · refine zw_b (by omega) ?_
                                    refine zw_some ?_
                                    refine zw_ite (fun h142 => ?_) (fun h142 => ?_)
                                    · exfalso; omega
                                    · refine zw_bd (zw_eq (zu_call_at (zt_T n) (zm_85 n) (zdp_85 n) _ _ _ _ _ rfl (zr_85_0 n _ _ a0 2 m121)) ?_)
                                      generalize hmm143 : zu_up m121 a0 4 2 = m143
                                      have hIm143 := zi_up hmm143 hIm121 hc0 zb_28_4 (by omega) (by omega)
                                      have hFm143 := zfr_up hmm143 hFm121 hc0 rfl
                                      have hRC0m143 := zR_C0_fr (zdis_fr (zfr_up hmm143 (zfr_rf [(28, 5)] _) hc0 rfl) rfl) hRC0m121
                                      have hRCRm143 := zR_CR_fr (zdis_fr (zfr_up hmm143 (zfr_rf [(28, 5)] _) hc0 rfl) rfl) hRCRm121
                                      have hRNSm143 := zR_NS_fr (zdis_fr (zfr_up hmm143 (zfr_rf [(28, 5)] _) hc0 rfl) rfl) hRNSm121
                                      have hRTRm143 := zR_TR_fr (zdis_fr (zfr_up hmm143 (zfr_rf [(28, 5)] _) hc0 rfl) rfl) hRTRm121
                                      have hRWDm143 := zR_WD_fr (zdis_fr (zfr_up hmm143 (zfr_rf [(28, 5)] _) hc0 rfl) rfl) hRWDm121
                                      have hRLRm143 := zLR_wr (zone_190 hc0) hmm143 (by decide)
                                      have r144 : 0 ≤ (m143 a0 10) ∧ (m143 a0 10) ≤ 700 := zi_rd hIm143 hc0 zb_28_10
                                      generalize hmm145 : zu_up m143 a0 5 (m143 a0 10) = m145
                                      have hIm145 := zi_up hmm145 hIm143 hc0 zb_28_5 (by omega) (by omega)
                                      have hFm145 := zfr_up hmm145 hFm143 hc0 rfl
                                      have hRC0m145 := zR_C0_fr (zdis_fr (zfr_up hmm145 (zfr_rf [(28, 6)] _) hc0 rfl) rfl) hRC0m143
                                      have hRCRm145 := zR_CR_fr (zdis_fr (zfr_up hmm145 (zfr_rf [(28, 6)] _) hc0 rfl) rfl) hRCRm143
                                      have hRLRm145 := zR_LR_fr (zdis_fr (zfr_up hmm145 (zfr_rf [(28, 6)] _) hc0 rfl) rfl) hRLRm143
                                      have hRNSm145 := zR_NS_fr (zdis_fr (zfr_up hmm145 (zfr_rf [(28, 6)] _) hc0 rfl) rfl) hRNSm143
                                      have hRTRm145 := zR_TR_fr (zdis_fr (zfr_up hmm145 (zfr_rf [(28, 6)] _) hc0 rfl) rfl) hRTRm143
                                      have hRWDm145 := zR_WD_fr (zdis_fr (zfr_up hmm145 (zfr_rf [(28, 6)] _) hc0 rfl) rfl) hRWDm143
                                      refine zw_b (by omega) ?_
                                      refine zw_some ?_
                                      refine zw_b (by omega) ?_
                                      refine zw_some ?_
                                      refine zw_ite (fun h146 => ?_) (fun h146 => ?_)
                                      · exfalso; omega
                                      · refine zw_b (by omega) ?_
                                        have r147 : 0 ≤ (m145 a0 7) ∧ (m145 a0 7) ≤ 700 := zi_rd hIm145 hc0 zb_28_7
                                        have e148 : (m145 a0 7) = (m98 a0 7) := (Eq.trans (zs_ne hmm145 (Or.inr (by decide))) (Eq.trans (zs_ne hmm143 (Or.inr (by decide))) (Eq.trans (zs_ne hmm121 (Or.inl (zc_ne hc0 zq_201 (by decide)))) (zs_ne hmm116 (Or.inr (by decide))))))
                                        have r149 : 0 ≤ (m145 a0 8) ∧ (m145 a0 8) ≤ 6 := zi_rd hIm145 hc0 zb_28_8
                                        have e150 : (m145 a0 8) = (m121 a0 8) := (Eq.trans (zs_ne hmm145 (Or.inr (by decide))) (zs_ne hmm143 (Or.inr (by decide))))
                                        have r151 : (-2147483648) ≤ (m145 a0 4) ∧ (m145 a0 4) ≤ 2147483647 := zi_rd hIm145 hc0 zb_28_4
                                        have e152 : (m145 a0 4) = 2 := (Eq.trans (zs_ne hmm145 (Or.inr (by decide))) (zs_eq hmm143))
                                        exact zw_some ⟨hIm145, hFm145, hRC0m145, hRCRm145, hRLRm145, hRNSm145, hRTRm145, hRWDm145, ⟨by omega, by omega⟩, by omega, by omega, by omega⟩
                                  · refine zw_b (by omega) ?_
                                    refine zw_some ?_
                                    refine zw_ite (fun h153 => ?_) (fun h153 => ?_)
                                    · generalize hmm154 : zu_up m121 a0 11 (m121 a0 9) = m154
                                      have hIm154 := zi_up hmm154 hIm121 hc0 zb_28_11 (by omega) (by omega)
                                      have hFm154 := zfr_up hmm154 hFm121 hc0 rfl
                                      have hRC0m154 := zR_C0_fr (zdis_fr (zfr_up hmm154 (zfr_rf [(28, 12)] _) hc0 rfl) rfl) hRC0m121
                                      have hRCRm154 := zR_CR_fr (zdis_fr (zfr_up hmm154 (zfr_rf [(28, 12)] _) hc0 rfl) rfl) hRCRm121
                                      have hRLRm154 := zR_LR_fr (zdis_fr (zfr_up hmm154 (zfr_rf [(28, 12)] _) hc0 rfl) rfl) hRLRm121
                                      have hRNSm154 := zR_NS_fr (zdis_fr (zfr_up hmm154 (zfr_rf [(28, 12)] _) hc0 rfl) rfl) hRNSm121
                                      have hRTRm154 := zR_TR_fr (zdis_fr (zfr_up hmm154 (zfr_rf [(28, 12)] _) hc0 rfl) rfl) hRTRm121
                                      have hRWDm154 := zR_WD_fr (zdis_fr (zfr_up hmm154 (zfr_rf [(28, 12)] _) hc0 rfl) rfl) hRWDm121
                                      have r157 : 0 ≤ (m154 a0 7) ∧ (m154 a0 7) ≤ 700 := zi_rd hIm154 hc0 zb_28_7
                                      have e158 : (m154 a0 7) = (m98 a0 7) := (Eq.trans (zs_ne hmm154 (Or.inr (by decide))) (Eq.trans (zs_ne hmm121 (Or.inl (zc_ne hc0 zq_201 (by decide)))) (zs_ne hmm116 (Or.inr (by decide)))))
                                      refine zw_bd (zw_mono (zk_89 n hIm154 hc0 hRNSm154 hRWDm154) (fun v156 m155 hqm155 => ?_))
                                      obtain ⟨hIm155, hfm155, hvm155⟩ := hqm155
                                      have hFm155 := zfr_tr hFm154 hfm155 rfl
                                      obtain ⟨hRNSm155, hRTRm155, hRWDm155, hvm155⟩ := hvm155
                                      have hRC0m155 := zR_C0_fr (zdis_fr hfm155 rfl) hRC0m154
                                      have hRCRm155 := zR_CR_fr (zdis_fr hfm155 rfl) hRCRm154
                                      have hRLRm155 := zR_LR_fr (zdis_fr hfm155 rfl) hRLRm154
                                      have s159 := hRNSm155 a0 hc0
                                      have s160 := hRTRm155 a0 hc0
                                      have r161 : 0 ≤ (m155 a0 7) ∧ (m155 a0 7) ≤ 700 := zi_rd hIm155 hc0 zb_28_7
                                      have r162 : 0 ≤ (m155 a0 8) ∧ (m155 a0 8) ≤ 6 := zi_rd hIm155 hc0 zb_28_8
                                      refine zw_b (by omega) ?_
                                      refine zw_some ?_
                                      refine zw_ite (fun h163 => ?_) (fun h163 => ?_)
                                      · have r164 : (-2147483648) ≤ (m155 a0 11) ∧ (m155 a0 11) ≤ 2147483647 := zi_rd hIm155 hc0 zb_28_11
                                        have e165 : (m155 a0 11) = (m121 a0 9) := (Eq.trans (zfr_ap hfm155 hc0 rfl) (zs_eq hmm154))
                                        have b166 : 0 ≤ (zu_w32 (4 + (m17 a0 20))) ∧ (zu_w32 (4 + (m17 a0 20))) < 8 := by omega
                                        refine zw_if b166 ?_
                                        generalize hmm167 : zu_up m155 202 (zu_w32 (4 + (m17 a0 20))) (m155 a0 11) = m167
                                        have hIm167 := zi_up hmm167 hIm155 zq_202 (zb_111 _) (by omega) (by omega)
                                        have hFm167 := zfr_up hmm167 hFm155 zq_202 rfl
                                        have hRC0m167 := zR_C0_fr (zdis_fr (zfr_up hmm167 (zfr_rf [(111, 0)] _) zq_202 rfl) rfl) hRC0m155
                                        have hRCRm167 := zR_CR_fr (zdis_fr (zfr_up hmm167 (zfr_rf [(111, 0)] _) zq_202 rfl) rfl) hRCRm155
                                        have hRLRm167 := zR_LR_fr (zdis_fr (zfr_up hmm167 (zfr_rf [(111, 0)] _) zq_202 rfl) rfl) hRLRm155
                                        have hRNSm167 := zR_NS_fr (zdis_fr (zfr_up hmm167 (zfr_rf [(111, 0)] _) zq_202 rfl) rfl) hRNSm155
                                        have hRTRm167 := zR_TR_fr (zdis_fr (zfr_up hmm167 (zfr_rf [(111, 0)] _) zq_202 rfl) rfl) hRTRm155
                                        have hRWDm167 := zR_WD_fr (zdis_fr (zfr_up hmm167 (zfr_rf [(111, 0)] _) zq_202 rfl) rfl) hRWDm155
                                        refine zw_bd (zw_eq (zu_call_at (zt_T n) (zm_94 n) (zdp_94 n) _ _ _ _ _ rfl (zr_94_0 n _ _ a0 0 3 m167)) ?_)
                                        have r168 : 0 ≤ (m167 a0 8) ∧ (m167 a0 8) ≤ 6 := zi_rd hIm167 hc0 zb_28_8
                                        have e169 : (m167 a0 8) = (m155 a0 8) := (zs_ne hmm167 (Or.inl (zc_ne hc0 zq_202 (by decide))))
                                        refine zw_ite (fun h170 => ?_) (fun h170 => ?_)
                                        · have r171 : (-2147483648) ≤ (m167 a0 9) ∧ (m167 a0 9) ≤ 2147483647 := zi_rd hIm167 hc0 zb_28_9
                                          have e172 : (m167 a0 9) = (m155 a0 9) := (zs_ne hmm167 (Or.inl (zc_ne hc0 zq_202 (by decide))))
                                          refine zw_bd (zw_eq (zu_call_at (zt_T n) (zm_83 n) (zdp_83 n) _ _ _ _ _ rfl (zr_83_0 n _ _ (m167 a0 9) 0 3 m167)) ?_)
                                          refine zw_ite (fun h173 => ?_) (fun h173 => ?_)
                                          · exfalso; omega
                                          · refine zw_ite (fun h174 => ?_) (fun h174 => ?_)
                                            · refine zw_b (by omega) ?_
                                              refine zw_some ?_
                                              refine zw_ite (fun h175 => ?_) (fun h175 => ?_)
                                              · exfalso; omega
                                              · refine zw_bd (zw_eq (zu_call_at (zt_T n) (zm_85 n) (zdp_85 n) _ _ _ _ _ rfl (zr_85_0 n _ _ a0 2 m167)) ?_)
                                                generalize hmm176 : zu_up m167 a0 4 2 = m176
                                                have hIm176 := zi_up hmm176 hIm167 hc0 zb_28_4 (by omega) (by omega)
                                                have hFm176 := zfr_up hmm176 hFm167 hc0 rfl
                                                have hRC0m176 := zR_C0_fr (zdis_fr (zfr_up hmm176 (zfr_rf [(28, 5)] _) hc0 rfl) rfl) hRC0m167
                                                have hRCRm176 := zR_CR_fr (zdis_fr (zfr_up hmm176 (zfr_rf [(28, 5)] _) hc0 rfl) rfl) hRCRm167
                                                have hRNSm176 := zR_NS_fr (zdis_fr (zfr_up hmm176 (zfr_rf [(28, 5)] _) hc0 rfl) rfl) hRNSm167
                                                have hRTRm176 := zR_TR_fr (zdis_fr (zfr_up hmm176 (zfr_rf [(28, 5)] _) hc0 rfl) rfl) hRTRm167
                                                have hRWDm176 := zR_WD_fr (zdis_fr (zfr_up hmm176 (zfr_rf [(28, 5)] _) hc0 rfl) rfl) hRWDm167
                                                have hRLRm176 := zLR_wr (zone_190 hc0) hmm176 (by decide)
                                                have r177 : 0 ≤ (m176 a0 10) ∧ (m176 a0 10) ≤ 700 := zi_rd hIm176 hc0 zb_28_10
                                                generalize hmm178 : zu_up m176 a0 5 (m176 a0 10) = m178
                                                have hIm178 := zi_up hmm178 hIm176 hc0 zb_28_5 (by omega) (by omega)
                                                have hFm178 := zfr_up hmm178 hFm176 hc0 rfl
                                                have hRC0m178 := zR_C0_fr (zdis_fr (zfr_up hmm178 (zfr_rf [(28, 6)] _) hc0 rfl) rfl) hRC0m176
                                                have hRCRm178 := zR_CR_fr (zdis_fr (zfr_up hmm178 (zfr_rf [(28, 6)] _) hc0 rfl) rfl) hRCRm176
                                                have hRLRm178 := zR_LR_fr (zdis_fr (zfr_up hmm178 (zfr_rf [(28, 6)] _) hc0 rfl) rfl) hRLRm176
                                                have hRNSm178 := zR_NS_fr (zdis_fr (zfr_up hmm178 (zfr_rf [(28, 6)] _) hc0 rfl) rfl) hRNSm176
                                                have hRTRm178 := zR_TR_fr (zdis_fr (zfr_up hmm178 (zfr_rf [(28, 6)] _) hc0 rfl) rfl) hRTRm176
                                                have hRWDm178 := zR_WD_fr (zdis_fr (zfr_up hmm178 (zfr_rf [(28, 6)] _) hc0 rfl) rfl) hRWDm176
                                                refine zw_b (by omega) ?_
                                                refine zw_some ?_
                                                refine zw_b (by omega) ?_
                                                refine zw_some ?_
                                                refine zw_ite (fun h179 => ?_) (fun h179 => ?_)
                                                · exfalso; omega
                                                · refine zw_b (by omega) ?_
                                                  have r180 : 0 ≤ (m178 a0 7) ∧ (m178 a0 7) ≤ 700 := zi_rd hIm178 hc0 zb_28_7
                                                  have e181 : (m178 a0 7) = (m155 a0 7) := (Eq.trans (zs_ne hmm178 (Or.inr (by decide))) (Eq.trans (zs_ne hmm176 (Or.inr (by decide))) (zs_ne hmm167 (Or.inl (zc_ne hc0 zq_202 (by decide))))))
                                                  have r182 : 0 ≤ (m178 a0 8) ∧ (m178 a0 8) ≤ 6 := zi_rd hIm178 hc0 zb_28_8
                                                  have e183 : (m178 a0 8) = (m167 a0 8) := (Eq.trans (zs_ne hmm178 (Or.inr (by decide))) (zs_ne hmm176 (Or.inr (by decide))))
                                                  have r184 : (-2147483648) ≤ (m178 a0 4) ∧ (m178 a0 4) ≤ 2147483647 := zi_rd hIm178 hc0 zb_28_4
                                                  have e185 : (m178 a0 4) = 2 := (Eq.trans (zs_ne hmm178 (Or.inr (by decide))) (zs_eq hmm176))
                                                  exact zw_some ⟨hIm178, hFm178, hRC0m178, hRCRm178, hRLRm178, hRNSm178, hRTRm178, hRWDm178, ⟨by omega, by omega⟩, by omega, by omega, by omega⟩
                                            · refine zw_b (by omega) ?_
                                              refine zw_some ?_
                                              refine zw_ite (fun h186 => ?_) (fun h186 => ?_)
                                              · generalize hmm187 : zu_up m167 a0 11 (m167 a0 9) = m187
                                                have hIm187 := zi_up hmm187 hIm167 hc0 zb_28_11 (by omega) (by omega)
                                                have hFm187 := zfr_up hmm187 hFm167 hc0 rfl
                                                have hRC0m187 := zR_C0_fr (zdis_fr (zfr_up hmm187 (zfr_rf [(28, 12)] _) hc0 rfl) rfl) hRC0m167
                                                have hRCRm187 := zR_CR_fr (zdis_fr (zfr_up hmm187 (zfr_rf [(28, 12)] _) hc0 rfl) rfl) hRCRm167
                                                have hRLRm187 := zR_LR_fr (zdis_fr (zfr_up hmm187 (zfr_rf [(28, 12)] _) hc0 rfl) rfl) hRLRm167
                                                have hRNSm187 := zR_NS_fr (zdis_fr (zfr_up hmm187 (zfr_rf [(28, 12)] _) hc0 rfl) rfl) hRNSm167
                                                have hRTRm187 := zR_TR_fr (zdis_fr (zfr_up hmm187 (zfr_rf [(28, 12)] _) hc0 rfl) rfl) hRTRm167
                                                have hRWDm187 := zR_WD_fr (zdis_fr (zfr_up hmm187 (zfr_rf [(28, 12)] _) hc0 rfl) rfl) hRWDm167
                                                have r190 : 0 ≤ (m187 a0 7) ∧ (m187 a0 7) ≤ 700 := zi_rd hIm187 hc0 zb_28_7
                                                have e191 : (m187 a0 7) = (m155 a0 7) := (Eq.trans (zs_ne hmm187 (Or.inr (by decide))) (zs_ne hmm167 (Or.inl (zc_ne hc0 zq_202 (by decide)))))
                                                refine zw_bd (zw_mono (zk_89 n hIm187 hc0 hRNSm187 hRWDm187) (fun v189 m188 hqm188 => ?_))
                                                obtain ⟨hIm188, hfm188, hvm188⟩ := hqm188
                                                have hFm188 := zfr_tr hFm187 hfm188 rfl
                                                obtain ⟨hRNSm188, hRTRm188, hRWDm188, hvm188⟩ := hvm188
                                                have hRC0m188 := zR_C0_fr (zdis_fr hfm188 rfl) hRC0m187
                                                have hRCRm188 := zR_CR_fr (zdis_fr hfm188 rfl) hRCRm187
                                                have hRLRm188 := zR_LR_fr (zdis_fr hfm188 rfl) hRLRm187
                                                have s192 := hRNSm188 a0 hc0
                                                have s193 := hRTRm188 a0 hc0
                                                have r194 : 0 ≤ (m188 a0 7) ∧ (m188 a0 7) ≤ 700 := zi_rd hIm188 hc0 zb_28_7
                                                have r195 : 0 ≤ (m188 a0 8) ∧ (m188 a0 8) ≤ 6 := zi_rd hIm188 hc0 zb_28_8
                                                refine zw_b (by omega) ?_
                                                refine zw_some ?_
                                                refine zw_ite (fun h196 => ?_) (fun h196 => ?_)
                                                · have r197 : (-2147483648) ≤ (m188 a0 11) ∧ (m188 a0 11) ≤ 2147483647 := zi_rd hIm188 hc0 zb_28_11
                                                  have e198 : (m188 a0 11) = (m167 a0 9) := (Eq.trans (zfr_ap hfm188 hc0 rfl) (zs_eq hmm187))
                                                  have b199 : 0 ≤ (zu_w32 (4 + (m17 a0 20))) ∧ (zu_w32 (4 + (m17 a0 20))) < 8 := by omega
                                                  refine zw_if b199 ?_
                                                  generalize hmm200 : zu_up m188 203 (zu_w32 (4 + (m17 a0 20))) (m188 a0 11) = m200
                                                  have hIm200 := zi_up hmm200 hIm188 zq_203 (zb_112 _) (by omega) (by omega)
                                                  have hFm200 := zfr_up hmm200 hFm188 zq_203 rfl
                                                  have hRC0m200 := zR_C0_fr (zdis_fr (zfr_up hmm200 (zfr_rf [(112, 0)] _) zq_203 rfl) rfl) hRC0m188
                                                  have hRCRm200 := zR_CR_fr (zdis_fr (zfr_up hmm200 (zfr_rf [(112, 0)] _) zq_203 rfl) rfl) hRCRm188
                                                  have hRLRm200 := zR_LR_fr (zdis_fr (zfr_up hmm200 (zfr_rf [(112, 0)] _) zq_203 rfl) rfl) hRLRm188
                                                  have hRNSm200 := zR_NS_fr (zdis_fr (zfr_up hmm200 (zfr_rf [(112, 0)] _) zq_203 rfl) rfl) hRNSm188
                                                  have hRTRm200 := zR_TR_fr (zdis_fr (zfr_up hmm200 (zfr_rf [(112, 0)] _) zq_203 rfl) rfl) hRTRm188
                                                  have hRWDm200 := zR_WD_fr (zdis_fr (zfr_up hmm200 (zfr_rf [(112, 0)] _) zq_203 rfl) rfl) hRWDm188
                                                  refine zw_bd (zw_eq (zu_call_at (zt_T n) (zm_94 n) (zdp_94 n) _ _ _ _ _ rfl (zr_94_0 n _ _ a0 0 99 m200)) ?_)
                                                  have r201 : 0 ≤ (m200 a0 8) ∧ (m200 a0 8) ≤ 6 := zi_rd hIm200 hc0 zb_28_8
                                                  have e202 : (m200 a0 8) = (m188 a0 8) := (zs_ne hmm200 (Or.inl (zc_ne hc0 zq_203 (by decide))))
                                                  refine zw_ite (fun h203 => ?_) (fun h203 => ?_)
                                                  · have r204 : (-2147483648) ≤ (m200 a0 9) ∧ (m200 a0 9) ≤ 2147483647 := zi_rd hIm200 hc0 zb_28_9
                                                    have e205 : (m200 a0 9) = (m188 a0 9) := (zs_ne hmm200 (Or.inl (zc_ne hc0 zq_203 (by decide))))
                                                    refine zw_bd (zw_eq (zu_call_at (zt_T n) (zm_83 n) (zdp_83 n) _ _ _ _ _ rfl (zr_83_0 n _ _ (m200 a0 9) 0 99 m200)) ?_)
                                                    refine zw_ite (fun h206 => ?_) (fun h206 => ?_)
                                                    · exfalso; omega
                                                    · refine zw_ite (fun h207 => ?_) (fun h207 => ?_)
                                                      · refine zw_b (by omega) ?_
                                                        refine zw_some ?_
                                                        refine zw_ite (fun h208 => ?_) (fun h208 => ?_)
                                                        · exfalso; omega
                                                        · refine zw_bd (zw_eq (zu_call_at (zt_T n) (zm_85 n) (zdp_85 n) _ _ _ _ _ rfl (zr_85_0 n _ _ a0 2 m200)) ?_)
                                                          generalize hmm209 : zu_up m200 a0 4 2 = m209
                                                          have hIm209 := zi_up hmm209 hIm200 hc0 zb_28_4 (by omega) (by omega)
                                                          have hFm209 := zfr_up hmm209 hFm200 hc0 rfl
                                                          have hRC0m209 := zR_C0_fr (zdis_fr (zfr_up hmm209 (zfr_rf [(28, 5)] _) hc0 rfl) rfl) hRC0m200
                                                          have hRCRm209 := zR_CR_fr (zdis_fr (zfr_up hmm209 (zfr_rf [(28, 5)] _) hc0 rfl) rfl) hRCRm200
                                                          have hRNSm209 := zR_NS_fr (zdis_fr (zfr_up hmm209 (zfr_rf [(28, 5)] _) hc0 rfl) rfl) hRNSm200
                                                          have hRTRm209 := zR_TR_fr (zdis_fr (zfr_up hmm209 (zfr_rf [(28, 5)] _) hc0 rfl) rfl) hRTRm200
                                                          have hRWDm209 := zR_WD_fr (zdis_fr (zfr_up hmm209 (zfr_rf [(28, 5)] _) hc0 rfl) rfl) hRWDm200
                                                          have hRLRm209 := zLR_wr (zone_190 hc0) hmm209 (by decide)
                                                          have r210 : 0 ≤ (m209 a0 10) ∧ (m209 a0 10) ≤ 700 := zi_rd hIm209 hc0 zb_28_10
                                                          generalize hmm211 : zu_up m209 a0 5 (m209 a0 10) = m211
                                                          have hIm211 := zi_up hmm211 hIm209 hc0 zb_28_5 (by omega) (by omega)
                                                          have hFm211 := zfr_up hmm211 hFm209 hc0 rfl
                                                          have hRC0m211 := zR_C0_fr (zdis_fr (zfr_up hmm211 (zfr_rf [(28, 6)] _) hc0 rfl) rfl) hRC0m209
                                                          have hRCRm211 := zR_CR_fr (zdis_fr (zfr_up hmm211 (zfr_rf [(28, 6)] _) hc0 rfl) rfl) hRCRm209
                                                          have hRLRm211 := zR_LR_fr (zdis_fr (zfr_up hmm211 (zfr_rf [(28, 6)] _) hc0 rfl) rfl) hRLRm209
                                                          have hRNSm211 := zR_NS_fr (zdis_fr (zfr_up hmm211 (zfr_rf [(28, 6)] _) hc0 rfl) rfl) hRNSm209
                                                          have hRTRm211 := zR_TR_fr (zdis_fr (zfr_up hmm211 (zfr_rf [(28, 6)] _) hc0 rfl) rfl) hRTRm209
                                                          have hRWDm211 := zR_WD_fr (zdis_fr (zfr_up hmm211 (zfr_rf [(28, 6)] _) hc0 rfl) rfl) hRWDm209
                                                          refine zw_b (by omega) ?_
                                                          refine zw_some ?_
                                                          refine zw_b (by omega) ?_
                                                          refine zw_some ?_
                                                          refine zw_ite (fun h212 => ?_) (fun h212 => ?_)
                                                          · exfalso; omega
                                                          · refine zw_b (by omega) ?_
                                                            have r213 : 0 ≤ (m211 a0 7) ∧ (m211 a0 7) ≤ 700 := zi_rd hIm211 hc0 zb_28_7
                                                            have e214 : (m211 a0 7) = (m188 a0 7) := (Eq.trans (zs_ne hmm211 (Or.inr (by decide))) (Eq.trans (zs_ne hmm209 (Or.inr (by decide))) (zs_ne hmm200 (Or.inl (zc_ne hc0 zq_203 (by decide))))))
                                                            have r215 : 0 ≤ (m211 a0 8) ∧ (m211 a0 8) ≤ 6 := zi_rd hIm211 hc0 zb_28_8
                                                            have e216 : (m211 a0 8) = (m200 a0 8) := (Eq.trans (zs_ne hmm211 (Or.inr (by decide))) (zs_ne hmm209 (Or.inr (by decide))))
                                                            have r217 : (-2147483648) ≤ (m211 a0 4) ∧ (m211 a0 4) ≤ 2147483647 := zi_rd hIm211 hc0 zb_28_4
                                                            have e218 : (m211 a0 4) = 2 := (Eq.trans (zs_ne hmm211 (Or.inr (by decide))) (zs_eq hmm209))
                                                            exact zw_some ⟨hIm211, hFm211, hRC0m211, hRCRm211, hRLRm211, hRNSm211, hRTRm211, hRWDm211, ⟨by omega, by omega⟩, by omega, by omega, by omega⟩
                                                      · refine zw_b (by omega) ?_
                                                        refine zw_some ?_
                                                        refine zw_ite (fun h219 => ?_) (fun h219 => ?_)
                                                        · generalize hmm220 : zu_up m200 a0 11 (m200 a0 9) = m220
                                                          have hIm220 := zi_up hmm220 hIm200 hc0 zb_28_11 (by omega) (by omega)
                                                          have hFm220 := zfr_up hmm220 hFm200 hc0 rfl
                                                          have hRC0m220 := zR_C0_fr (zdis_fr (zfr_up hmm220 (zfr_rf [(28, 12)] _) hc0 rfl) rfl) hRC0m200
                                                          have hRCRm220 := zR_CR_fr (zdis_fr (zfr_up hmm220 (zfr_rf [(28, 12)] _) hc0 rfl) rfl) hRCRm200
                                                          have hRLRm220 := zR_LR_fr (zdis_fr (zfr_up hmm220 (zfr_rf [(28, 12)] _) hc0 rfl) rfl) hRLRm200
                                                          have hRNSm220 := zR_NS_fr (zdis_fr (zfr_up hmm220 (zfr_rf [(28, 12)] _) hc0 rfl) rfl) hRNSm200
                                                          have hRTRm220 := zR_TR_fr (zdis_fr (zfr_up hmm220 (zfr_rf [(28, 12)] _) hc0 rfl) rfl) hRTRm200
                                                          have hRWDm220 := zR_WD_fr (zdis_fr (zfr_up hmm220 (zfr_rf [(28, 12)] _) hc0 rfl) rfl) hRWDm200
                                                          have r223 : 0 ≤ (m220 a0 7) ∧ (m220 a0 7) ≤ 700 := zi_rd hIm220 hc0 zb_28_7
                                                          have e224 : (m220 a0 7) = (m188 a0 7) := (Eq.trans (zs_ne hmm220 (Or.inr (by decide))) (zs_ne hmm200 (Or.inl (zc_ne hc0 zq_203 (by decide)))))
                                                          refine zw_bd (zw_mono (zk_89 n hIm220 hc0 hRNSm220 hRWDm220) (fun v222 m221 hqm221 => ?_))
                                                          obtain ⟨hIm221, hfm221, hvm221⟩ := hqm221
                                                          have hFm221 := zfr_tr hFm220 hfm221 rfl
                                                          obtain ⟨hRNSm221, hRTRm221, hRWDm221, hvm221⟩ := hvm221
                                                          have hRC0m221 := zR_C0_fr (zdis_fr hfm221 rfl) hRC0m220
                                                          have hRCRm221 := zR_CR_fr (zdis_fr hfm221 rfl) hRCRm220
                                                          have hRLRm221 := zR_LR_fr (zdis_fr hfm221 rfl) hRLRm220
                                                          have s225 := hRNSm221 a0 hc0
                                                          have s226 := hRTRm221 a0 hc0
                                                          have r227 : 0 ≤ (m221 a0 7) ∧ (m221 a0 7) ≤ 700 := zi_rd hIm221 hc0 zb_28_7
                                                          have r228 : 0 ≤ (m221 a0 8) ∧ (m221 a0 8) ≤ 6 := zi_rd hIm221 hc0 zb_28_8
                                                          refine zw_b (by omega) ?_
                                                          refine zw_some ?_
                                                          refine zw_ite (fun h229 => ?_) (fun h229 => ?_)
                                                          · have r230 : (-2147483648) ≤ (m221 a0 11) ∧ (m221 a0 11) ≤ 2147483647 := zi_rd hIm221 hc0 zb_28_11
                                                            have e231 : (m221 a0 11) = (m200 a0 9) := (Eq.trans (zfr_ap hfm221 hc0 rfl) (zs_eq hmm220))
                                                            have b232 : 0 ≤ (zu_w32 (4 + (m17 a0 20))) ∧ (zu_w32 (4 + (m17 a0 20))) < 8 := by omega
                                                            refine zw_if b232 ?_
                                                            generalize hmm233 : zu_up m221 204 (zu_w32 (4 + (m17 a0 20))) (m221 a0 11) = m233
                                                            have hIm233 := zi_up hmm233 hIm221 zq_204 (zb_113 _) (by omega) (by omega)
                                                            have hFm233 := zfr_up hmm233 hFm221 zq_204 rfl
                                                            have hRC0m233 := zR_C0_fr (zdis_fr (zfr_up hmm233 (zfr_rf [(113, 0)] _) zq_204 rfl) rfl) hRC0m221
                                                            have hRCRm233 := zR_CR_fr (zdis_fr (zfr_up hmm233 (zfr_rf [(113, 0)] _) zq_204 rfl) rfl) hRCRm221
                                                            have hRLRm233 := zR_LR_fr (zdis_fr (zfr_up hmm233 (zfr_rf [(113, 0)] _) zq_204 rfl) rfl) hRLRm221
                                                            have hRNSm233 := zR_NS_fr (zdis_fr (zfr_up hmm233 (zfr_rf [(113, 0)] _) zq_204 rfl) rfl) hRNSm221
                                                            have hRTRm233 := zR_TR_fr (zdis_fr (zfr_up hmm233 (zfr_rf [(113, 0)] _) zq_204 rfl) rfl) hRTRm221
                                                            have hRWDm233 := zR_WD_fr (zdis_fr (zfr_up hmm233 (zfr_rf [(113, 0)] _) zq_204 rfl) rfl) hRWDm221
                                                            have r234 : 0 ≤ (m233 a0 20) ∧ (m233 a0 20) ≤ 4 := zi_rd hIm233 hc0 zb_28_20
                                                            have e235 : (m233 a0 20) = (m116 a0 20) := (Eq.trans (zs_ne hmm233 (Or.inl (zc_ne hc0 zq_204 (by decide)))) (Eq.trans (zfr_ap hfm221 hc0 rfl) (Eq.trans (zs_ne hmm220 (Or.inr (by decide))) (Eq.trans (zs_ne hmm200 (Or.inl (zc_ne hc0 zq_203 (by decide)))) (Eq.trans (zfr_ap hfm188 hc0 rfl) (Eq.trans (zs_ne hmm187 (Or.inr (by decide))) (Eq.trans (zs_ne hmm167 (Or.inl (zc_ne hc0 zq_202 (by decide)))) (Eq.trans (zfr_ap hfm155 hc0 rfl) (Eq.trans (zs_ne hmm154 (Or.inr (by decide))) (zs_ne hmm121 (Or.inl (zc_ne hc0 zq_201 (by decide)))))))))))))
                                                            have w236 := zu_w32_id (z := (m233 a0 20) + 1) (by omega) (by omega)
                                                            generalize hmm237 : zu_up m233 a0 20 (zu_w32 ((m233 a0 20) + 1)) = m237
                                                            have hIm237 := zi_up hmm237 hIm233 hc0 zb_28_20 (by omega) (by omega)
                                                            have hFm237 := zfr_up hmm237 hFm233 hc0 rfl
                                                            have hRC0m237 := zR_C0_fr (zdis_fr (zfr_up hmm237 (zfr_rf [(28, 21)] _) hc0 rfl) rfl) hRC0m233
                                                            have hRLRm237 := zR_LR_fr (zdis_fr (zfr_up hmm237 (zfr_rf [(28, 21)] _) hc0 rfl) rfl) hRLRm233
                                                            have hRNSm237 := zR_NS_fr (zdis_fr (zfr_up hmm237 (zfr_rf [(28, 21)] _) hc0 rfl) rfl) hRNSm233
                                                            have hRTRm237 := zR_TR_fr (zdis_fr (zfr_up hmm237 (zfr_rf [(28, 21)] _) hc0 rfl) rfl) hRTRm233
                                                            have hRWDm237 := zR_WD_fr (zdis_fr (zfr_up hmm237 (zfr_rf [(28, 21)] _) hc0 rfl) rfl) hRWDm233
                                                            have r238 : 0 ≤ (m233 201 (zu_w32 (4 + (m17 a0 20)))) ∧ (m233 201 (zu_w32 (4 + (m17 a0 20)))) ≤ 47 := zi_rd hIm233 zq_201 (zb_110 _)
                                                            have e239 : (m233 201 (zu_w32 (4 + (m17 a0 20)))) = (m116 a0 11) := (Eq.trans (zs_ne hmm233 (Or.inl (zc_ne zq_201 zq_204 (by decide)))) (Eq.trans (zfr_ap hfm221 zq_201 rfl) (Eq.trans (zs_ne hmm220 (Or.inl (zc_ne zq_201 hc0 (by decide)))) (Eq.trans (zs_ne hmm200 (Or.inl (zc_ne zq_201 zq_203 (by decide)))) (Eq.trans (zfr_ap hfm188 zq_201 rfl) (Eq.trans (zs_ne hmm187 (Or.inl (zc_ne zq_201 hc0 (by decide)))) (Eq.trans (zs_ne hmm167 (Or.inl (zc_ne zq_201 zq_202 (by decide)))) (Eq.trans (zfr_ap hfm155 zq_201 rfl) (Eq.trans (zs_ne hmm154 (Or.inl (zc_ne zq_201 hc0 (by decide)))) (zs_eq hmm121))))))))))
                                                            have r240 : 0 ≤ (m233 a0 23) ∧ (m233 a0 23) ≤ 1 := zi_rd hIm233 hc0 zb_28_23
                                                            have e241 : (m233 a0 23) = 1 := (Eq.trans (zs_ne hmm233 (Or.inl (zc_ne hc0 zq_204 (by decide)))) (Eq.trans (zfr_ap hfm221 hc0 rfl) (Eq.trans (zs_ne hmm220 (Or.inr (by decide))) (Eq.trans (zs_ne hmm200 (Or.inl (zc_ne hc0 zq_203 (by decide)))) (Eq.trans (zfr_ap hfm188 hc0 rfl) (Eq.trans (zs_ne hmm187 (Or.inr (by decide))) (Eq.trans (zs_ne hmm167 (Or.inl (zc_ne hc0 zq_202 (by decide)))) (Eq.trans (zfr_ap hfm155 hc0 rfl) (Eq.trans (zs_ne hmm154 (Or.inr (by decide))) (Eq.trans (zs_ne hmm121 (Or.inl (zc_ne hc0 zq_201 (by decide)))) (Eq.trans (zs_ne hmm116 (Or.inr (by decide))) (Eq.trans (zfr_ap hfm98 hc0 rfl) (Eq.trans (zs_ne hmm97 (Or.inr (by decide))) (Eq.trans (zs_ne hmm73 (Or.inr (by decide))) (Eq.trans (zfr_ap hfm61 hc0 rfl) (Eq.trans (zs_ne hmm60 (Or.inr (by decide))) (zs_eq hmm37)))))))))))))))))
                                                            have hRCRm237 := zCR_inc (p := (zu_w32 (4 + (m17 a0 20)))) (zone_190 hc0) hmm237 (by omega) (by omega) (by omega) (zlt_pr (by omega) hgl (zprod2 (Eq.trans (zs_ne hmm233 (Or.inl (zc_ne hc0 zq_204 (by decide)))) (Eq.trans (zfr_ap hfm221 hc0 rfl) (Eq.trans (zs_ne hmm220 (Or.inr (by decide))) (Eq.trans (zs_ne hmm200 (Or.inl (zc_ne hc0 zq_203 (by decide)))) (Eq.trans (zfr_ap hfm188 hc0 rfl) (Eq.trans (zs_ne hmm187 (Or.inr (by decide))) (Eq.trans (zs_ne hmm167 (Or.inl (zc_ne hc0 zq_202 (by decide)))) (Eq.trans (zfr_ap hfm155 hc0 rfl) (Eq.trans (zs_ne hmm154 (Or.inr (by decide))) (Eq.trans (zs_ne hmm121 (Or.inl (zc_ne hc0 zq_201 (by decide)))) (zs_ne hmm116 (Or.inr (by decide))))))))))))) (Eq.trans (zs_ne hmm233 (Or.inl (zc_ne hc0 zq_204 (by decide)))) (Eq.trans (zfr_ap hfm221 hc0 rfl) (Eq.trans (zs_ne hmm220 (Or.inr (by decide))) (Eq.trans (zs_ne hmm200 (Or.inl (zc_ne hc0 zq_203 (by decide)))) (Eq.trans (zfr_ap hfm188 hc0 rfl) (Eq.trans (zs_ne hmm187 (Or.inr (by decide))) (Eq.trans (zs_ne hmm167 (Or.inl (zc_ne hc0 zq_202 (by decide)))) (Eq.trans (zfr_ap hfm155 hc0 rfl) (Eq.trans (zs_ne hmm154 (Or.inr (by decide))) (Eq.trans (zs_ne hmm121 (Or.inl (zc_ne hc0 zq_201 (by decide)))) (zs_ne hmm116 (Or.inr (by decide))))))))))))))) hRCRm233
                                                            refine zw_b (by omega) ?_
                                                            have r242 : 0 ≤ (m237 a0 7) ∧ (m237 a0 7) ≤ 700 := zi_rd hIm237 hc0 zb_28_7
                                                            have e243 : (m237 a0 7) = (m221 a0 7) := (Eq.trans (zs_ne hmm237 (Or.inr (by decide))) (zs_ne hmm233 (Or.inl (zc_ne hc0 zq_204 (by decide)))))
                                                            have r244 : 0 ≤ (m237 a0 8) ∧ (m237 a0 8) ≤ 6 := zi_rd hIm237 hc0 zb_28_8
                                                            have e245 : (m237 a0 8) = (m221 a0 8) := (Eq.trans (zs_ne hmm237 (Or.inr (by decide))) (zs_ne hmm233 (Or.inl (zc_ne hc0 zq_204 (by decide)))))
                                                            have r246 : (-2147483648) ≤ (m237 a0 4) ∧ (m237 a0 4) ≤ 2147483647 := zi_rd hIm237 hc0 zb_28_4
                                                            have e247 : (m237 a0 4) = (m0 a0 4) := (Eq.trans (zs_ne hmm237 (Or.inr (by decide))) (Eq.trans (zs_ne hmm233 (Or.inl (zc_ne hc0 zq_204 (by decide)))) (Eq.trans (zfr_ap hfm221 hc0 rfl) (Eq.trans (zs_ne hmm220 (Or.inr (by decide))) (Eq.trans (zs_ne hmm200 (Or.inl (zc_ne hc0 zq_203 (by decide)))) (Eq.trans (zfr_ap hfm188 hc0 rfl) (Eq.trans (zs_ne hmm187 (Or.inr (by decide))) (Eq.trans (zs_ne hmm167 (Or.inl (zc_ne hc0 zq_202 (by decide)))) (Eq.trans (zfr_ap hfm155 hc0 rfl) (Eq.trans (zs_ne hmm154 (Or.inr (by decide))) (Eq.trans (zs_ne hmm121 (Or.inl (zc_ne hc0 zq_201 (by decide)))) (Eq.trans (zs_ne hmm116 (Or.inr (by decide))) (Eq.trans (zfr_ap hfm98 hc0 rfl) (Eq.trans (zs_ne hmm97 (Or.inr (by decide))) (Eq.trans (zs_ne hmm73 (Or.inr (by decide))) (Eq.trans (zfr_ap hfm61 hc0 rfl) (Eq.trans (zs_ne hmm60 (Or.inr (by decide))) (Eq.trans (zs_ne hmm37 (Or.inr (by decide))) (Eq.trans (zfr_ap hfm29 hc0 rfl) (Eq.trans (zs_ne hmm28 (Or.inl (zc_ne hc0 zq_200 (by decide)))) (Eq.trans (zfr_ap hfm17 hc0 rfl) (zfr_ap hfm7 hc0 rfl))))))))))))))))))))))
                                                            exact zw_some ⟨hIm237, hFm237, hRC0m237, hRCRm237, hRLRm237, hRNSm237, hRTRm237, hRWDm237, ⟨by omega, by omega⟩, by omega, by omega, by omega⟩
                                                          · exfalso; omega
                                                        · exfalso; omega
                                                  · refine zw_bd (zw_eq (zu_call_at (zt_T n) (zm_85 n) (zdp_85 n) _ _ _ _ _ rfl (zr_85_0 n _ _ a0 1 m200)) ?_)
                                                    generalize hmm248 : zu_up m200 a0 4 1 = m248
                                                    have hIm248 := zi_up hmm248 hIm200 hc0 zb_28_4 (by omega) (by omega)
                                                    have hFm248 := zfr_up hmm248 hFm200 hc0 rfl
                                                    have hRC0m248 := zR_C0_fr (zdis_fr (zfr_up hmm248 (zfr_rf [(28, 5)] _) hc0 rfl) rfl) hRC0m200
                                                    have hRCRm248 := zR_CR_fr (zdis_fr (zfr_up hmm248 (zfr_rf [(28, 5)] _) hc0 rfl) rfl) hRCRm200
                                                    have hRNSm248 := zR_NS_fr (zdis_fr (zfr_up hmm248 (zfr_rf [(28, 5)] _) hc0 rfl) rfl) hRNSm200
                                                    have hRTRm248 := zR_TR_fr (zdis_fr (zfr_up hmm248 (zfr_rf [(28, 5)] _) hc0 rfl) rfl) hRTRm200
                                                    have hRWDm248 := zR_WD_fr (zdis_fr (zfr_up hmm248 (zfr_rf [(28, 5)] _) hc0 rfl) rfl) hRWDm200
                                                    have hRLRm248 := zLR_wr (zone_190 hc0) hmm248 (by decide)
                                                    have r249 : 0 ≤ (m248 a0 10) ∧ (m248 a0 10) ≤ 700 := zi_rd hIm248 hc0 zb_28_10
                                                    generalize hmm250 : zu_up m248 a0 5 (m248 a0 10) = m250
                                                    have hIm250 := zi_up hmm250 hIm248 hc0 zb_28_5 (by omega) (by omega)
                                                    have hFm250 := zfr_up hmm250 hFm248 hc0 rfl
                                                    have hRC0m250 := zR_C0_fr (zdis_fr (zfr_up hmm250 (zfr_rf [(28, 6)] _) hc0 rfl) rfl) hRC0m248
                                                    have hRCRm250 := zR_CR_fr (zdis_fr (zfr_up hmm250 (zfr_rf [(28, 6)] _) hc0 rfl) rfl) hRCRm248
                                                    have hRLRm250 := zR_LR_fr (zdis_fr (zfr_up hmm250 (zfr_rf [(28, 6)] _) hc0 rfl) rfl) hRLRm248
                                                    have hRNSm250 := zR_NS_fr (zdis_fr (zfr_up hmm250 (zfr_rf [(28, 6)] _) hc0 rfl) rfl) hRNSm248
                                                    have hRTRm250 := zR_TR_fr (zdis_fr (zfr_up hmm250 (zfr_rf [(28, 6)] _) hc0 rfl) rfl) hRTRm248
                                                    have hRWDm250 := zR_WD_fr (zdis_fr (zfr_up hmm250 (zfr_rf [(28, 6)] _) hc0 rfl) rfl) hRWDm248
                                                    refine zw_b (by omega) ?_
                                                    refine zw_some ?_
                                                    refine zw_b (by omega) ?_
                                                    refine zw_some ?_
                                                    refine zw_ite (fun h251 => ?_) (fun h251 => ?_)
                                                    · exfalso; omega
                                                    · refine zw_b (by omega) ?_
                                                      have r252 : 0 ≤ (m250 a0 7) ∧ (m250 a0 7) ≤ 700 := zi_rd hIm250 hc0 zb_28_7
                                                      have e253 : (m250 a0 7) = (m188 a0 7) := (Eq.trans (zs_ne hmm250 (Or.inr (by decide))) (Eq.trans (zs_ne hmm248 (Or.inr (by decide))) (zs_ne hmm200 (Or.inl (zc_ne hc0 zq_203 (by decide))))))
                                                      have r254 : 0 ≤ (m250 a0 8) ∧ (m250 a0 8) ≤ 6 := zi_rd hIm250 hc0 zb_28_8
                                                      have e255 : (m250 a0 8) = (m200 a0 8) := (Eq.trans (zs_ne hmm250 (Or.inr (by decide))) (zs_ne hmm248 (Or.inr (by decide))))
                                                      have r256 : (-2147483648) ≤ (m250 a0 4) ∧ (m250 a0 4) ≤ 2147483647 := zi_rd hIm250 hc0 zb_28_4
                                                      have e257 : (m250 a0 4) = 1 := (Eq.trans (zs_ne hmm250 (Or.inr (by decide))) (zs_eq hmm248))
                                                      exact zw_some ⟨hIm250, hFm250, hRC0m250, hRCRm250, hRLRm250, hRNSm250, hRTRm250, hRWDm250, ⟨by omega, by omega⟩, by omega, by omega, by omega⟩
                                                · exfalso; omega
                                              · exfalso; omega
                                        · refine zw_bd (zw_eq (zu_call_at (zt_T n) (zm_85 n) (zdp_85 n) _ _ _ _ _ rfl (zr_85_0 n _ _ a0 1 m167)) ?_)
                                          generalize hmm258 : zu_up m167 a0 4 1 = m258
                                          have hIm258 := zi_up hmm258 hIm167 hc0 zb_28_4 (by omega) (by omega)
                                          have hFm258 := zfr_up hmm258 hFm167 hc0 rfl
                                          have hRC0m258 := zR_C0_fr (zdis_fr (zfr_up hmm258 (zfr_rf [(28, 5)] _) hc0 rfl) rfl) hRC0m167
                                          have hRCRm258 := zR_CR_fr (zdis_fr (zfr_up hmm258 (zfr_rf [(28, 5)] _) hc0 rfl) rfl) hRCRm167
                                          have hRNSm258 := zR_NS_fr (zdis_fr (zfr_up hmm258 (zfr_rf [(28, 5)] _) hc0 rfl) rfl) hRNSm167
                                          have hRTRm258 := zR_TR_fr (zdis_fr (zfr_up hmm258 (zfr_rf [(28, 5)] _) hc0 rfl) rfl) hRTRm167
                                          have hRWDm258 := zR_WD_fr (zdis_fr (zfr_up hmm258 (zfr_rf [(28, 5)] _) hc0 rfl) rfl) hRWDm167
                                          have hRLRm258 := zLR_wr (zone_190 hc0) hmm258 (by decide)
                                          have r259 : 0 ≤ (m258 a0 10) ∧ (m258 a0 10) ≤ 700 := zi_rd hIm258 hc0 zb_28_10
                                          generalize hmm260 : zu_up m258 a0 5 (m258 a0 10) = m260
                                          have hIm260 := zi_up hmm260 hIm258 hc0 zb_28_5 (by omega) (by omega)
                                          have hFm260 := zfr_up hmm260 hFm258 hc0 rfl
                                          have hRC0m260 := zR_C0_fr (zdis_fr (zfr_up hmm260 (zfr_rf [(28, 6)] _) hc0 rfl) rfl) hRC0m258
                                          have hRCRm260 := zR_CR_fr (zdis_fr (zfr_up hmm260 (zfr_rf [(28, 6)] _) hc0 rfl) rfl) hRCRm258
                                          have hRLRm260 := zR_LR_fr (zdis_fr (zfr_up hmm260 (zfr_rf [(28, 6)] _) hc0 rfl) rfl) hRLRm258
                                          have hRNSm260 := zR_NS_fr (zdis_fr (zfr_up hmm260 (zfr_rf [(28, 6)] _) hc0 rfl) rfl) hRNSm258
                                          have hRTRm260 := zR_TR_fr (zdis_fr (zfr_up hmm260 (zfr_rf [(28, 6)] _) hc0 rfl) rfl) hRTRm258
                                          have hRWDm260 := zR_WD_fr (zdis_fr (zfr_up hmm260 (zfr_rf [(28, 6)] _) hc0 rfl) rfl) hRWDm258
                                          refine zw_b (by omega) ?_
                                          refine zw_some ?_
                                          refine zw_b (by omega) ?_
                                          refine zw_some ?_
                                          refine zw_ite (fun h261 => ?_) (fun h261 => ?_)
                                          · exfalso; omega
                                          · refine zw_b (by omega) ?_
                                            have r262 : 0 ≤ (m260 a0 7) ∧ (m260 a0 7) ≤ 700 := zi_rd hIm260 hc0 zb_28_7
                                            have e263 : (m260 a0 7) = (m155 a0 7) := (Eq.trans (zs_ne hmm260 (Or.inr (by decide))) (Eq.trans (zs_ne hmm258 (Or.inr (by decide))) (zs_ne hmm167 (Or.inl (zc_ne hc0 zq_202 (by decide))))))
                                            have r264 : 0 ≤ (m260 a0 8) ∧ (m260 a0 8) ≤ 6 := zi_rd hIm260 hc0 zb_28_8
                                            have e265 : (m260 a0 8) = (m167 a0 8) := (Eq.trans (zs_ne hmm260 (Or.inr (by decide))) (zs_ne hmm258 (Or.inr (by decide))))
                                            have r266 : (-2147483648) ≤ (m260 a0 4) ∧ (m260 a0 4) ≤ 2147483647 := zi_rd hIm260 hc0 zb_28_4
                                            have e267 : (m260 a0 4) = 1 := (Eq.trans (zs_ne hmm260 (Or.inr (by decide))) (zs_eq hmm258))
                                            exact zw_some ⟨hIm260, hFm260, hRC0m260, hRCRm260, hRLRm260, hRNSm260, hRTRm260, hRWDm260, ⟨by omega, by omega⟩, by omega, by omega, by omega⟩
                                      · exfalso; omega
                                    · exfalso; omega
                              · refine zw_bd (zw_eq (zu_call_at (zt_T n) (zm_85 n) (zdp_85 n) _ _ _ _ _ rfl (zr_85_0 n _ _ a0 1 m121)) ?_)
                                generalize hmm268 : zu_up m121 a0 4 1 = m268
                                have hIm268 := zi_up hmm268 hIm121 hc0 zb_28_4 (by omega) (by omega)
                                have hFm268 := zfr_up hmm268 hFm121 hc0 rfl
                                have hRC0m268 := zR_C0_fr (zdis_fr (zfr_up hmm268 (zfr_rf [(28, 5)] _) hc0 rfl) rfl) hRC0m121
                                have hRCRm268 := zR_CR_fr (zdis_fr (zfr_up hmm268 (zfr_rf [(28, 5)] _) hc0 rfl) rfl) hRCRm121
                                have hRNSm268 := zR_NS_fr (zdis_fr (zfr_up hmm268 (zfr_rf [(28, 5)] _) hc0 rfl) rfl) hRNSm121
                                have hRTRm268 := zR_TR_fr (zdis_fr (zfr_up hmm268 (zfr_rf [(28, 5)] _) hc0 rfl) rfl) hRTRm121
                                have hRWDm268 := zR_WD_fr (zdis_fr (zfr_up hmm268 (zfr_rf [(28, 5)] _) hc0 rfl) rfl) hRWDm121
                                have hRLRm268 := zLR_wr (zone_190 hc0) hmm268 (by decide)
                                have r269 : 0 ≤ (m268 a0 10) ∧ (m268 a0 10) ≤ 700 := zi_rd hIm268 hc0 zb_28_10
                                generalize hmm270 : zu_up m268 a0 5 (m268 a0 10) = m270
                                have hIm270 := zi_up hmm270 hIm268 hc0 zb_28_5 (by omega) (by omega)
                                have hFm270 := zfr_up hmm270 hFm268 hc0 rfl
                                have hRC0m270 := zR_C0_fr (zdis_fr (zfr_up hmm270 (zfr_rf [(28, 6)] _) hc0 rfl) rfl) hRC0m268
                                have hRCRm270 := zR_CR_fr (zdis_fr (zfr_up hmm270 (zfr_rf [(28, 6)] _) hc0 rfl) rfl) hRCRm268
                                have hRLRm270 := zR_LR_fr (zdis_fr (zfr_up hmm270 (zfr_rf [(28, 6)] _) hc0 rfl) rfl) hRLRm268
                                have hRNSm270 := zR_NS_fr (zdis_fr (zfr_up hmm270 (zfr_rf [(28, 6)] _) hc0 rfl) rfl) hRNSm268
                                have hRTRm270 := zR_TR_fr (zdis_fr (zfr_up hmm270 (zfr_rf [(28, 6)] _) hc0 rfl) rfl) hRTRm268
                                have hRWDm270 := zR_WD_fr (zdis_fr (zfr_up hmm270 (zfr_rf [(28, 6)] _) hc0 rfl) rfl) hRWDm268
                                refine zw_b (by omega) ?_
                                refine zw_some ?_
                                refine zw_b (by omega) ?_
                                refine zw_some ?_
                                refine zw_ite (fun h271 => ?_) (fun h271 => ?_)
                                · exfalso; omega
                                · refine zw_b (by omega) ?_
                                  have r272 : 0 ≤ (m270 a0 7) ∧ (m270 a0 7) ≤ 700 := zi_rd hIm270 hc0 zb_28_7
                                  have e273 : (m270 a0 7) = (m98 a0 7) := (Eq.trans (zs_ne hmm270 (Or.inr (by decide))) (Eq.trans (zs_ne hmm268 (Or.inr (by decide))) (Eq.trans (zs_ne hmm121 (Or.inl (zc_ne hc0 zq_201 (by decide)))) (zs_ne hmm116 (Or.inr (by decide))))))
                                  have r274 : 0 ≤ (m270 a0 8) ∧ (m270 a0 8) ≤ 6 := zi_rd hIm270 hc0 zb_28_8
                                  have e275 : (m270 a0 8) = (m121 a0 8) := (Eq.trans (zs_ne hmm270 (Or.inr (by decide))) (zs_ne hmm268 (Or.inr (by decide))))
                                  have r276 : (-2147483648) ≤ (m270 a0 4) ∧ (m270 a0 4) ≤ 2147483647 := zi_rd hIm270 hc0 zb_28_4
                                  have e277 : (m270 a0 4) = 1 := (Eq.trans (zs_ne hmm270 (Or.inr (by decide))) (zs_eq hmm268))
                                  exact zw_some ⟨hIm270, hFm270, hRC0m270, hRCRm270, hRLRm270, hRNSm270, hRTRm270, hRWDm270, ⟨by omega, by omega⟩, by omega, by omega, by omega⟩
                            · exfalso; omega
                          · exfalso; omega
                        · exfalso; omega
                  · refine zw_bd (zw_eq (zu_call_at (zt_T n) (zm_85 n) (zdp_85 n) _ _ _ _ _ rfl (zr_85_0 n _ _ a0 1 m73)) ?_)
                    generalize hmm278 : zu_up m73 a0 4 1 = m278
                    have hIm278 := zi_up hmm278 hIm73 hc0 zb_28_4 (by omega) (by omega)
                    have hFm278 := zfr_up hmm278 hFm73 hc0 rfl
                    have hRC0m278 := zR_C0_fr (zdis_fr (zfr_up hmm278 (zfr_rf [(28, 5)] _) hc0 rfl) rfl) hRC0m73
                    have hRCRm278 := zR_CR_fr (zdis_fr (zfr_up hmm278 (zfr_rf [(28, 5)] _) hc0 rfl) rfl) hRCRm73
                    have hRNSm278 := zR_NS_fr (zdis_fr (zfr_up hmm278 (zfr_rf [(28, 5)] _) hc0 rfl) rfl) hRNSm73
                    have hRTRm278 := zR_TR_fr (zdis_fr (zfr_up hmm278 (zfr_rf [(28, 5)] _) hc0 rfl) rfl) hRTRm73
                    have hRWDm278 := zR_WD_fr (zdis_fr (zfr_up hmm278 (zfr_rf [(28, 5)] _) hc0 rfl) rfl) hRWDm73
                    have hRLRm278 := zLR_wr (zone_190 hc0) hmm278 (by decide)
                    have r279 : 0 ≤ (m278 a0 10) ∧ (m278 a0 10) ≤ 700 := zi_rd hIm278 hc0 zb_28_10
                    have e280 : (m278 a0 10) = (m61 a0 10) := (Eq.trans (zs_ne hmm278 (Or.inr (by decide))) (zs_ne hmm73 (Or.inr (by decide))))
                    generalize hmm281 : zu_up m278 a0 5 (m278 a0 10) = m281
                    have hIm281 := zi_up hmm281 hIm278 hc0 zb_28_5 (by omega) (by omega)
                    have hFm281 := zfr_up hmm281 hFm278 hc0 rfl
                    have hRC0m281 := zR_C0_fr (zdis_fr (zfr_up hmm281 (zfr_rf [(28, 6)] _) hc0 rfl) rfl) hRC0m278
                    have hRCRm281 := zR_CR_fr (zdis_fr (zfr_up hmm281 (zfr_rf [(28, 6)] _) hc0 rfl) rfl) hRCRm278
                    have hRLRm281 := zR_LR_fr (zdis_fr (zfr_up hmm281 (zfr_rf [(28, 6)] _) hc0 rfl) rfl) hRLRm278
                    have hRNSm281 := zR_NS_fr (zdis_fr (zfr_up hmm281 (zfr_rf [(28, 6)] _) hc0 rfl) rfl) hRNSm278
                    have hRTRm281 := zR_TR_fr (zdis_fr (zfr_up hmm281 (zfr_rf [(28, 6)] _) hc0 rfl) rfl) hRTRm278
                    have hRWDm281 := zR_WD_fr (zdis_fr (zfr_up hmm281 (zfr_rf [(28, 6)] _) hc0 rfl) rfl) hRWDm278
                    refine zw_b (by omega) ?_
                    refine zw_some ?_
                    refine zw_b (by omega) ?_
                    refine zw_some ?_
                    refine zw_ite (fun h282 => ?_) (fun h282 => ?_)
                    · exfalso; omega
                    · refine zw_b (by omega) ?_
                      refine zw_some ?_
                      refine zw_ite (fun h283 => ?_) (fun h283 => ?_)
                      · exfalso; omega
                      · refine zw_b (by omega) ?_
                        have r284 : 0 ≤ (m281 a0 7) ∧ (m281 a0 7) ≤ 700 := zi_rd hIm281 hc0 zb_28_7
                        have e285 : (m281 a0 7) = (m61 a0 7) := (Eq.trans (zs_ne hmm281 (Or.inr (by decide))) (Eq.trans (zs_ne hmm278 (Or.inr (by decide))) (zs_ne hmm73 (Or.inr (by decide)))))
                        have r286 : 0 ≤ (m281 a0 8) ∧ (m281 a0 8) ≤ 6 := zi_rd hIm281 hc0 zb_28_8
                        have e287 : (m281 a0 8) = (m73 a0 8) := (Eq.trans (zs_ne hmm281 (Or.inr (by decide))) (zs_ne hmm278 (Or.inr (by decide))))
                        have r288 : (-2147483648) ≤ (m281 a0 4) ∧ (m281 a0 4) ≤ 2147483647 := zi_rd hIm281 hc0 zb_28_4
                        have e289 : (m281 a0 4) = 1 := (Eq.trans (zs_ne hmm281 (Or.inr (by decide))) (zs_eq hmm278))
                        exact zw_some ⟨hIm281, hFm281, hRC0m281, hRCRm281, hRLRm281, hRNSm281, hRTRm281, hRWDm281, ⟨by omega, by omega⟩, by omega, by omega, by omega⟩
                · exfalso; omega
              · exfalso; omega
        · refine zw_bd (zw_eq (zu_call_at (zt_T n) (zm_85 n) (zdp_85 n) _ _ _ _ _ rfl (zr_85_0 n _ _ a0 1 m37)) ?_)
          generalize hmm290 : zu_up m37 a0 4 1 = m290
          have hIm290 := zi_up hmm290 hIm37 hc0 zb_28_4 (by omega) (by omega)
          have hFm290 := zfr_up hmm290 hFm37 hc0 rfl
          have hRC0m290 := zR_C0_fr (zdis_fr (zfr_up hmm290 (zfr_rf [(28, 5)] _) hc0 rfl) rfl) hRC0m37
          have hRCRm290 := zR_CR_fr (zdis_fr (zfr_up hmm290 (zfr_rf [(28, 5)] _) hc0 rfl) rfl) hRCRm37
          have hRNSm290 := zR_NS_fr (zdis_fr (zfr_up hmm290 (zfr_rf [(28, 5)] _) hc0 rfl) rfl) hRNSm37
          have hRTRm290 := zR_TR_fr (zdis_fr (zfr_up hmm290 (zfr_rf [(28, 5)] _) hc0 rfl) rfl) hRTRm37
          have hRWDm290 := zR_WD_fr (zdis_fr (zfr_up hmm290 (zfr_rf [(28, 5)] _) hc0 rfl) rfl) hRWDm37
          have hRLRm290 := zLR_wr (zone_190 hc0) hmm290 (by decide)
          have r291 : 0 ≤ (m290 a0 10) ∧ (m290 a0 10) ≤ 700 := zi_rd hIm290 hc0 zb_28_10
          generalize hmm292 : zu_up m290 a0 5 (m290 a0 10) = m292
          have hIm292 := zi_up hmm292 hIm290 hc0 zb_28_5 (by omega) (by omega)
          have hFm292 := zfr_up hmm292 hFm290 hc0 rfl
          have hRC0m292 := zR_C0_fr (zdis_fr (zfr_up hmm292 (zfr_rf [(28, 6)] _) hc0 rfl) rfl) hRC0m290
          have hRCRm292 := zR_CR_fr (zdis_fr (zfr_up hmm292 (zfr_rf [(28, 6)] _) hc0 rfl) rfl) hRCRm290
          have hRLRm292 := zR_LR_fr (zdis_fr (zfr_up hmm292 (zfr_rf [(28, 6)] _) hc0 rfl) rfl) hRLRm290
          have hRNSm292 := zR_NS_fr (zdis_fr (zfr_up hmm292 (zfr_rf [(28, 6)] _) hc0 rfl) rfl) hRNSm290
          have hRTRm292 := zR_TR_fr (zdis_fr (zfr_up hmm292 (zfr_rf [(28, 6)] _) hc0 rfl) rfl) hRTRm290
          have hRWDm292 := zR_WD_fr (zdis_fr (zfr_up hmm292 (zfr_rf [(28, 6)] _) hc0 rfl) rfl) hRWDm290
          refine zw_b (by omega) ?_
          refine zw_some ?_
          refine zw_b (by omega) ?_
          refine zw_some ?_
          refine zw_ite (fun h293 => ?_) (fun h293 => ?_)
          · exfalso; omega
          · refine zw_b (by omega) ?_
            refine zw_some ?_
            refine zw_ite (fun h294 => ?_) (fun h294 => ?_)
            · exfalso; omega
            · refine zw_b (by omega) ?_
              have r295 : 0 ≤ (m292 a0 7) ∧ (m292 a0 7) ≤ 700 := zi_rd hIm292 hc0 zb_28_7
              have e296 : (m292 a0 7) = (m29 a0 7) := (Eq.trans (zs_ne hmm292 (Or.inr (by decide))) (Eq.trans (zs_ne hmm290 (Or.inr (by decide))) (zs_ne hmm37 (Or.inr (by decide)))))
              have r297 : 0 ≤ (m292 a0 8) ∧ (m292 a0 8) ≤ 6 := zi_rd hIm292 hc0 zb_28_8
              have e298 : (m292 a0 8) = (m37 a0 8) := (Eq.trans (zs_ne hmm292 (Or.inr (by decide))) (zs_ne hmm290 (Or.inr (by decide))))
              have r299 : (-2147483648) ≤ (m292 a0 4) ∧ (m292 a0 4) ≤ 2147483647 := zi_rd hIm292 hc0 zb_28_4
              have e300 : (m292 a0 4) = 1 := (Eq.trans (zs_ne hmm292 (Or.inr (by decide))) (zs_eq hmm290))
              exact zw_some ⟨hIm292, hFm292, hRC0m292, hRCRm292, hRLRm292, hRNSm292, hRTRm292, hRWDm292, ⟨by omega, by omega⟩, by omega, by omega, by omega⟩
      · refine zw_bd (zw_eq (zu_call_at (zt_T n) (zm_85 n) (zdp_85 n) _ _ _ _ _ rfl (zr_85_0 n _ _ a0 3 m17)) ?_)
        generalize hmm301 : zu_up m17 a0 4 3 = m301
        have hIm301 := zi_up hmm301 hIm17 hc0 zb_28_4 (by omega) (by omega)
        have hFm301 := zfr_up hmm301 hFm17 hc0 rfl
        have hRC0m301 := zR_C0_fr (zdis_fr (zfr_up hmm301 (zfr_rf [(28, 5)] _) hc0 rfl) rfl) hRC0m17
        have hRCRm301 := zR_CR_fr (zdis_fr (zfr_up hmm301 (zfr_rf [(28, 5)] _) hc0 rfl) rfl) hRCRm17
        have hRNSm301 := zR_NS_fr (zdis_fr (zfr_up hmm301 (zfr_rf [(28, 5)] _) hc0 rfl) rfl) hRNSm17
        have hRTRm301 := zR_TR_fr (zdis_fr (zfr_up hmm301 (zfr_rf [(28, 5)] _) hc0 rfl) rfl) hRTRm17
        have hRWDm301 := zR_WD_fr (zdis_fr (zfr_up hmm301 (zfr_rf [(28, 5)] _) hc0 rfl) rfl) hRWDm17
        have hRLRm301 := zLR_wr (zone_190 hc0) hmm301 (by decide)
        have r302 : 0 ≤ (m301 a0 10) ∧ (m301 a0 10) ≤ 700 := zi_rd hIm301 hc0 zb_28_10
        generalize hmm303 : zu_up m301 a0 5 (m301 a0 10) = m303
        have hIm303 := zi_up hmm303 hIm301 hc0 zb_28_5 (by omega) (by omega)
        have hFm303 := zfr_up hmm303 hFm301 hc0 rfl
        have hRC0m303 := zR_C0_fr (zdis_fr (zfr_up hmm303 (zfr_rf [(28, 6)] _) hc0 rfl) rfl) hRC0m301
        have hRCRm303 := zR_CR_fr (zdis_fr (zfr_up hmm303 (zfr_rf [(28, 6)] _) hc0 rfl) rfl) hRCRm301
        have hRLRm303 := zR_LR_fr (zdis_fr (zfr_up hmm303 (zfr_rf [(28, 6)] _) hc0 rfl) rfl) hRLRm301
        have hRNSm303 := zR_NS_fr (zdis_fr (zfr_up hmm303 (zfr_rf [(28, 6)] _) hc0 rfl) rfl) hRNSm301
        have hRTRm303 := zR_TR_fr (zdis_fr (zfr_up hmm303 (zfr_rf [(28, 6)] _) hc0 rfl) rfl) hRTRm301
        have hRWDm303 := zR_WD_fr (zdis_fr (zfr_up hmm303 (zfr_rf [(28, 6)] _) hc0 rfl) rfl) hRWDm301
        refine zw_b (by omega) ?_
        refine zw_some ?_
        refine zw_b (by omega) ?_
        have r304 : 0 ≤ (m303 a0 7) ∧ (m303 a0 7) ≤ 700 := zi_rd hIm303 hc0 zb_28_7
        have e305 : (m303 a0 7) = (m7 a0 7) := (Eq.trans (zs_ne hmm303 (Or.inr (by decide))) (Eq.trans (zs_ne hmm301 (Or.inr (by decide))) (zfr_ap hfm17 hc0 rfl)))
        have r306 : 0 ≤ (m303 a0 8) ∧ (m303 a0 8) ≤ 6 := zi_rd hIm303 hc0 zb_28_8
        have e307 : (m303 a0 8) = (m7 a0 8) := (Eq.trans (zs_ne hmm303 (Or.inr (by decide))) (Eq.trans (zs_ne hmm301 (Or.inr (by decide))) (zfr_ap hfm17 hc0 rfl)))
        have r308 : (-2147483648) ≤ (m303 a0 4) ∧ (m303 a0 4) ≤ 2147483647 := zi_rd hIm303 hc0 zb_28_4
        have e309 : (m303 a0 4) = 3 := (Eq.trans (zs_ne hmm303 (Or.inr (by decide))) (zs_eq hmm301))
        exact zw_some ⟨hIm303, hFm303, hRC0m303, hRCRm303, hRLRm303, hRNSm303, hRTRm303, hRWDm303, ⟨by omega, by omega⟩, by omega, by omega, by omega⟩
    · refine zw_bd (zw_eq (zu_call_at (zt_T n) (zm_85 n) (zdp_85 n) _ _ _ _ _ rfl (zr_85_0 n _ _ a0 1 m7)) ?_)
      generalize hmm310 : zu_up m7 a0 4 1 = m310
      have hIm310 := zi_up hmm310 hIm7 hc0 zb_28_4 (by omega) (by omega)
      have hFm310 := zfr_up hmm310 hFm7 hc0 rfl
      have hRC0m310 := zR_C0_fr (zdis_fr (zfr_up hmm310 (zfr_rf [(28, 5)] _) hc0 rfl) rfl) hRC0m7
      have hRCRm310 := zR_CR_fr (zdis_fr (zfr_up hmm310 (zfr_rf [(28, 5)] _) hc0 rfl) rfl) hRCRm7
      have hRNSm310 := zR_NS_fr (zdis_fr (zfr_up hmm310 (zfr_rf [(28, 5)] _) hc0 rfl) rfl) hRNSm7
      have hRTRm310 := zR_TR_fr (zdis_fr (zfr_up hmm310 (zfr_rf [(28, 5)] _) hc0 rfl) rfl) hRTRm7
      have hRWDm310 := zR_WD_fr (zdis_fr (zfr_up hmm310 (zfr_rf [(28, 5)] _) hc0 rfl) rfl) hRWDm7
      have hRLRm310 := zLR_wr (zone_190 hc0) hmm310 (by decide)
      have r311 : 0 ≤ (m310 a0 10) ∧ (m310 a0 10) ≤ 700 := zi_rd hIm310 hc0 zb_28_10
      generalize hmm312 : zu_up m310 a0 5 (m310 a0 10) = m312
      have hIm312 := zi_up hmm312 hIm310 hc0 zb_28_5 (by omega) (by omega)
      have hFm312 := zfr_up hmm312 hFm310 hc0 rfl
      have hRC0m312 := zR_C0_fr (zdis_fr (zfr_up hmm312 (zfr_rf [(28, 6)] _) hc0 rfl) rfl) hRC0m310
      have hRCRm312 := zR_CR_fr (zdis_fr (zfr_up hmm312 (zfr_rf [(28, 6)] _) hc0 rfl) rfl) hRCRm310
      have hRLRm312 := zR_LR_fr (zdis_fr (zfr_up hmm312 (zfr_rf [(28, 6)] _) hc0 rfl) rfl) hRLRm310
      have hRNSm312 := zR_NS_fr (zdis_fr (zfr_up hmm312 (zfr_rf [(28, 6)] _) hc0 rfl) rfl) hRNSm310
      have hRTRm312 := zR_TR_fr (zdis_fr (zfr_up hmm312 (zfr_rf [(28, 6)] _) hc0 rfl) rfl) hRTRm310
      have hRWDm312 := zR_WD_fr (zdis_fr (zfr_up hmm312 (zfr_rf [(28, 6)] _) hc0 rfl) rfl) hRWDm310
      refine zw_b (by omega) ?_
      refine zw_some ?_
      refine zw_b (by omega) ?_
      have r313 : 0 ≤ (m312 a0 7) ∧ (m312 a0 7) ≤ 700 := zi_rd hIm312 hc0 zb_28_7
      have e314 : (m312 a0 7) = (m7 a0 7) := (Eq.trans (zs_ne hmm312 (Or.inr (by decide))) (zs_ne hmm310 (Or.inr (by decide))))
      have r315 : 0 ≤ (m312 a0 8) ∧ (m312 a0 8) ≤ 6 := zi_rd hIm312 hc0 zb_28_8
      have e316 : (m312 a0 8) = (m7 a0 8) := (Eq.trans (zs_ne hmm312 (Or.inr (by decide))) (zs_ne hmm310 (Or.inr (by decide))))
      have r317 : (-2147483648) ≤ (m312 a0 4) ∧ (m312 a0 4) ≤ 2147483647 := zi_rd hIm312 hc0 zb_28_4
      have e318 : (m312 a0 4) = 1 := (Eq.trans (zs_ne hmm312 (Or.inr (by decide))) (zs_eq hmm310))
      exact zw_some ⟨hIm312, hFm312, hRC0m312, hRCRm312, hRLRm312, hRNSm312, hRTRm312, hRWDm312, ⟨by omega, by omega⟩, by omega, by omega, by omega⟩
  · refine zw_bd (zw_eq (zu_call_at (zt_T n) (zm_85 n) (zdp_85 n) _ _ _ _ _ rfl (zr_85_0 n _ _ a0 2 m0)) ?_)
    generalize hmm319 : zu_up m0 a0 4 2 = m319
    have hIm319 := zi_up hmm319 hIm0 hc0 zb_28_4 (by omega) (by omega)
    have hFm319 := zfr_up hmm319 hFm0 hc0 rfl
    have hRC0m319 := zR_C0_fr (zdis_fr (zfr_up hmm319 (zfr_rf [(28, 5)] _) hc0 rfl) rfl) hRC0m0
    have hRCRm319 := zR_CR_fr (zdis_fr (zfr_up hmm319 (zfr_rf [(28, 5)] _) hc0 rfl) rfl) hRCRm0
    have hRNSm319 := zR_NS_fr (zdis_fr (zfr_up hmm319 (zfr_rf [(28, 5)] _) hc0 rfl) rfl) hRNSm0
    have hRTRm319 := zR_TR_fr (zdis_fr (zfr_up hmm319 (zfr_rf [(28, 5)] _) hc0 rfl) rfl) hRTRm0
    have hRWDm319 := zR_WD_fr (zdis_fr (zfr_up hmm319 (zfr_rf [(28, 5)] _) hc0 rfl) rfl) hRWDm0
    have hRLRm319 := zLR_wr (zone_190 hc0) hmm319 (by decide)
    have r320 : 0 ≤ (m319 a0 10) ∧ (m319 a0 10) ≤ 700 := zi_rd hIm319 hc0 zb_28_10
    generalize hmm321 : zu_up m319 a0 5 (m319 a0 10) = m321
    have hIm321 := zi_up hmm321 hIm319 hc0 zb_28_5 (by omega) (by omega)
    have hFm321 := zfr_up hmm321 hFm319 hc0 rfl
    have hRC0m321 := zR_C0_fr (zdis_fr (zfr_up hmm321 (zfr_rf [(28, 6)] _) hc0 rfl) rfl) hRC0m319
    have hRCRm321 := zR_CR_fr (zdis_fr (zfr_up hmm321 (zfr_rf [(28, 6)] _) hc0 rfl) rfl) hRCRm319
    have hRLRm321 := zR_LR_fr (zdis_fr (zfr_up hmm321 (zfr_rf [(28, 6)] _) hc0 rfl) rfl) hRLRm319
    have hRNSm321 := zR_NS_fr (zdis_fr (zfr_up hmm321 (zfr_rf [(28, 6)] _) hc0 rfl) rfl) hRNSm319
    have hRTRm321 := zR_TR_fr (zdis_fr (zfr_up hmm321 (zfr_rf [(28, 6)] _) hc0 rfl) rfl) hRTRm319
    have hRWDm321 := zR_WD_fr (zdis_fr (zfr_up hmm321 (zfr_rf [(28, 6)] _) hc0 rfl) rfl) hRWDm319
    refine zw_b (by omega) ?_
    refine zw_some ?_
    refine zw_b (by omega) ?_
    have r322 : 0 ≤ (m321 a0 7) ∧ (m321 a0 7) ≤ 700 := zi_rd hIm321 hc0 zb_28_7
    have e323 : (m321 a0 7) = (m0 a0 7) := (Eq.trans (zs_ne hmm321 (Or.inr (by decide))) (zs_ne hmm319 (Or.inr (by decide))))
    have r324 : 0 ≤ (m321 a0 8) ∧ (m321 a0 8) ≤ 6 := zi_rd hIm321 hc0 zb_28_8
    have e325 : (m321 a0 8) = (m0 a0 8) := (Eq.trans (zs_ne hmm321 (Or.inr (by decide))) (zs_ne hmm319 (Or.inr (by decide))))
    have r326 : (-2147483648) ≤ (m321 a0 4) ∧ (m321 a0 4) ≤ 2147483647 := zi_rd hIm321 hc0 zb_28_4
    have e327 : (m321 a0 4) = 2 := (Eq.trans (zs_ne hmm321 (Or.inr (by decide))) (zs_eq hmm319))
    exact zw_some ⟨hIm321, hFm321, hRC0m321, hRCRm321, hRLRm321, hRNSm321, hRTRm321, hRWDm321, ⟨by omega, by omega⟩, by omega, by omega, by omega⟩

set_option maxHeartbeats 4000000 in
theorem zk_102 (n : Nat) {a0 : Int} {m0 : zu_m} (hIm0 : zi_I m0) (hc0 : zcls a0 = 28)   (he0 : 1 ≤ m0 a0 8 ∧ m0 a0 8 ≤ 1) (he1 : 5 ≤ m0 a0 9 ∧ m0 a0 9 ≤ 5)  (hRC0m0 : zR_C0 m0) (hRCRm0 : zR_CR m0) (hRLRm0 : zR_LR m0) (hRNSm0 : zR_NS m0) (hRTRm0 : zR_TR m0) (hRWDm0 : zR_WD m0) : zw (zu_call (zt_T n) 102 [(40, a0)] m0) (fun v m => zi_I m ∧ zfr [(28, 5), (28, 6), (28, 8), (28, 9), (28, 10), (28, 11), (28, 12), (28, 21), (28, 24), (28, 43), (109, 0), (110, 0), (111, 0), (112, 0), (113, 0)] m0 m ∧ zR_C0 m ∧ zR_CR m ∧ zR_LR m ∧ zR_NS m ∧ zR_TR m ∧ zR_WD m ∧ (0 ≤ v ∧ v ≤ 1) ∧ ((m0 a0 7) ≤ (m a0 7)) ∧ (v = 1 → ((m a0 8) = 0 ∨ (m0 a0 7) < (m a0 7))) ∧ (v = 1 → (m a0 4) = (m0 a0 4))) := by
  have hFm0 : zfr [(28, 5), (28, 6), (28, 8), (28, 9), (28, 10), (28, 11), (28, 12), (28, 21), (28, 24), (28, 43), (109, 0), (110, 0), (111, 0), (112, 0), (113, 0)] m0 m0 := zfr_rf _ _
  have r1 : 0 ≤ (m0 a0 7) ∧ (m0 a0 7) ≤ 700 := zi_rd hIm0 hc0 zb_28_7
  have r2 : (-2147483648) ≤ (m0 a0 4) ∧ (m0 a0 4) ≤ 2147483647 := zi_rd hIm0 hc0 zb_28_4
  have s3 := hRNSm0 a0 hc0
  have s4 := hRTRm0 a0 hc0
  refine zw_eq (zu_call_at (zt_T n) (zm_102 n) (zdp_102 n) _ _ _ _ _ rfl (zr_102_0 n _ _ a0 m0)) ?_
  have r5 : 0 ≤ (m0 a0 20) ∧ (m0 a0 20) ≤ 4 := zi_rd hIm0 hc0 zb_28_20
  refine zw_ite (fun h6 => ?_) (fun h6 => ?_)
  · refine zw_bd (zw_mono (zk_89 n hIm0 hc0 hRNSm0 hRWDm0) (fun v8 m7 hqm7 => ?_))
    obtain ⟨hIm7, hfm7, hvm7⟩ := hqm7
    have hFm7 := zfr_tr hFm0 hfm7 rfl
    obtain ⟨hRNSm7, hRTRm7, hRWDm7, hvm7⟩ := hvm7
    have hRC0m7 := zR_C0_fr (zdis_fr hfm7 rfl) hRC0m0
    have hRCRm7 := zR_CR_fr (zdis_fr hfm7 rfl) hRCRm0
    have hRLRm7 := zR_LR_fr (zdis_fr hfm7 rfl) hRLRm0
    have s9 := hRNSm7 a0 hc0
    have s10 := hRTRm7 a0 hc0
    have r11 : 0 ≤ (m7 a0 8) ∧ (m7 a0 8) ≤ 6 := zi_rd hIm7 hc0 zb_28_8
    refine zw_ite (fun h12 => ?_) (fun h12 => ?_)
    · have r13 : 0 ≤ (m7 a0 20) ∧ (m7 a0 20) ≤ 4 := zi_rd hIm7 hc0 zb_28_20
      have e14 : (m7 a0 20) = (m0 a0 20) := (zfr_ap hfm7 hc0 rfl)
      have r15 : (-2147483648) ≤ (m7 a0 9) ∧ (m7 a0 9) ≤ 2147483647 := zi_rd hIm7 hc0 zb_28_9
      refine zw_bd (zw_mono (zk_95 n hIm7 zq_200 ⟨by omega, by omega⟩ ⟨by omega, by omega⟩ ⟨by omega, by omega⟩) (fun v17 m16 hqm16 => ?_))
      obtain ⟨hIm16, hfm16, hvm16⟩ := hqm16
      have hFm16 := zfr_tr hFm7 hfm16 rfl
      have hRC0m16 := zR_C0_fr (zdis_fr hfm16 rfl) hRC0m7
      have hRCRm16 := zR_CR_fr (zdis_fr hfm16 rfl) hRCRm7
      have hRLRm16 := zR_LR_fr (zdis_fr hfm16 rfl) hRLRm7
      have hRNSm16 := zR_NS_fr (zdis_fr hfm16 rfl) hRNSm7
      have hRTRm16 := zR_TR_fr (zdis_fr hfm16 rfl) hRTRm7
      have hRWDm16 := zR_WD_fr (zdis_fr hfm16 rfl) hRWDm7
      have s18 := hRNSm16 a0 hc0
      have s19 := hRTRm16 a0 hc0
      refine zw_ite (fun h20 => ?_) (fun h20 => ?_)
      · have r21 : 0 ≤ (m16 a0 20) ∧ (m16 a0 20) ≤ 4 := zi_rd hIm16 hc0 zb_28_20
        have e22 : (m16 a0 20) = (m7 a0 20) := (zfr_ap hfm16 hc0 rfl)
        have w23 := zu_w32_id (z := 4 + (m16 a0 20)) (by omega) (by omega)
        have r24 : (-2147483648) ≤ (m16 a0 9) ∧ (m16 a0 9) ≤ 2147483647 := zi_rd hIm16 hc0 zb_28_9
        have e25 : (m16 a0 9) = (m7 a0 9) := (zfr_ap hfm16 hc0 rfl)
        have b26 : 0 ≤ (zu_w32 (4 + (m16 a0 20))) ∧ (zu_w32 (4 + (m16 a0 20))) < 8 := by omega
        refine zw_if b26 ?_
        generalize hmm27 : zu_up m16 200 (zu_w32 (4 + (m16 a0 20))) (m16 a0 9) = m27
        have hIm27 := zi_up hmm27 hIm16 zq_200 (zb_109 _) (by omega) (by omega)
        have hFm27 := zfr_up hmm27 hFm16 zq_200 rfl
        have hRC0m27 := zR_C0_fr (zdis_fr (zfr_up hmm27 (zfr_rf [(109, 0)] _) zq_200 rfl) rfl) hRC0m16
        have hRCRm27 := zR_CR_fr (zdis_fr (zfr_up hmm27 (zfr_rf [(109, 0)] _) zq_200 rfl) rfl) hRCRm16
        have hRLRm27 := zR_LR_fr (zdis_fr (zfr_up hmm27 (zfr_rf [(109, 0)] _) zq_200 rfl) rfl) hRLRm16
        have hRNSm27 := zR_NS_fr (zdis_fr (zfr_up hmm27 (zfr_rf [(109, 0)] _) zq_200 rfl) rfl) hRNSm16
        have hRTRm27 := zR_TR_fr (zdis_fr (zfr_up hmm27 (zfr_rf [(109, 0)] _) zq_200 rfl) rfl) hRTRm16
        have hRWDm27 := zR_WD_fr (zdis_fr (zfr_up hmm27 (zfr_rf [(109, 0)] _) zq_200 rfl) rfl) hRWDm16
        refine zw_bd (zw_mono (zk_89 n hIm27 hc0 hRNSm27 hRWDm27) (fun v29 m28 hqm28 => ?_))
        obtain ⟨hIm28, hfm28, hvm28⟩ := hqm28
        have hFm28 := zfr_tr hFm27 hfm28 rfl
        obtain ⟨hRNSm28, hRTRm28, hRWDm28, hvm28⟩ := hvm28
        have hRC0m28 := zR_C0_fr (zdis_fr hfm28 rfl) hRC0m27
        have hRCRm28 := zR_CR_fr (zdis_fr hfm28 rfl) hRCRm27
        have hRLRm28 := zR_LR_fr (zdis_fr hfm28 rfl) hRLRm27
        have s30 := hRNSm28 a0 hc0
        have s31 := hRTRm28 a0 hc0
        refine zw_bd (zw_eq (zu_call_at (zt_T n) (zm_96 n) (zdp_96 n) _ _ _ _ _ rfl (zr_96_0 n _ _ a0 m28)) ?_)
        refine zw_b (by omega) ?_
        generalize hmm32 : zu_up m28 a0 23 1 = m32
        have hIm32 := zi_up hmm32 hIm28 hc0 zb_28_23 (by omega) (by omega)
        have hFm32 := zfr_up hmm32 hFm28 hc0 rfl
        have hRC0m32 := zR_C0_fr (zdis_fr (zfr_up hmm32 (zfr_rf [(28, 24)] _) hc0 rfl) rfl) hRC0m28
        have hRLRm32 := zR_LR_fr (zdis_fr (zfr_up hmm32 (zfr_rf [(28, 24)] _) hc0 rfl) rfl) hRLRm28
        have hRNSm32 := zR_NS_fr (zdis_fr (zfr_up hmm32 (zfr_rf [(28, 24)] _) hc0 rfl) rfl) hRNSm28
        have hRTRm32 := zR_TR_fr (zdis_fr (zfr_up hmm32 (zfr_rf [(28, 24)] _) hc0 rfl) rfl) hRTRm28
        have hRWDm32 := zR_WD_fr (zdis_fr (zfr_up hmm32 (zfr_rf [(28, 24)] _) hc0 rfl) rfl) hRWDm28
        have hRCRm32 := zCR_cells (zone_190 hc0) hmm32 rfl hRCRm28
        have r33 : 1 ≤ (m32 a0 17) ∧ (m32 a0 17) ≤ 8 := zi_rd hIm32 hc0 zb_28_17
        have w34 := zu_w32_id (z := (m32 a0 17) - 1) (by omega) (by omega)
        refine zw_bd (zw_eq (zu_call_at (zt_T n) (zm_94 n) (zdp_94 n) _ _ _ _ _ rfl (zr_94_0 n _ _ a0 0 (zu_w32 ((m32 a0 17) - 1)) m32)) ?_)
        have r35 : 0 ≤ (m32 a0 8) ∧ (m32 a0 8) ≤ 6 := zi_rd hIm32 hc0 zb_28_8
        refine zw_ite (fun h36 => ?_) (fun h36 => ?_)
        · have r37 : (-2147483648) ≤ (m32 a0 9) ∧ (m32 a0 9) ≤ 2147483647 := zi_rd hIm32 hc0 zb_28_9
          refine zw_bd (zw_eq (zu_call_at (zt_T n) (zm_83 n) (zdp_83 n) _ _ _ _ _ rfl (zr_83_0 n _ _ (m32 a0 9) 0 (zu_w32 ((m32 a0 17) - 1)) m32)) ?_)
          refine zw_ite (fun h38 => ?_) (fun h38 => ?_)
          · refine zw_b (by omega) ?_
            refine zw_some ?_
            refine zw_ite (fun h39 => ?_) (fun h39 => ?_)
            · exfalso; omega
            · refine zw_bd (zw_eq (zu_call_at (zt_T n) (zm_85 n) (zdp_85 n) _ _ _ _ _ rfl (zr_85_0 n _ _ a0 2 m32)) ?_)
              generalize hmm40 : zu_up m32 a0 4 2 = m40
              have hIm40 := zi_up hmm40 hIm32 hc0 zb_28_4 (by omega) (by omega)
              have hFm40 := zfr_up hmm40 hFm32 hc0 rfl
              have hRC0m40 := zR_C0_fr (zdis_fr (zfr_up hmm40 (zfr_rf [(28, 5)] _) hc0 rfl) rfl) hRC0m32
              have hRCRm40 := zR_CR_fr (zdis_fr (zfr_up hmm40 (zfr_rf [(28, 5)] _) hc0 rfl) rfl) hRCRm32
              have hRNSm40 := zR_NS_fr (zdis_fr (zfr_up hmm40 (zfr_rf [(28, 5)] _) hc0 rfl) rfl) hRNSm32
              have hRTRm40 := zR_TR_fr (zdis_fr (zfr_up hmm40 (zfr_rf [(28, 5)] _) hc0 rfl) rfl) hRTRm32
              have hRWDm40 := zR_WD_fr (zdis_fr (zfr_up hmm40 (zfr_rf [(28, 5)] _) hc0 rfl) rfl) hRWDm32
              have hRLRm40 := zLR_wr (zone_190 hc0) hmm40 (by decide)
              have r41 : 0 ≤ (m40 a0 10) ∧ (m40 a0 10) ≤ 700 := zi_rd hIm40 hc0 zb_28_10
              generalize hmm42 : zu_up m40 a0 5 (m40 a0 10) = m42
              have hIm42 := zi_up hmm42 hIm40 hc0 zb_28_5 (by omega) (by omega)
              have hFm42 := zfr_up hmm42 hFm40 hc0 rfl
              have hRC0m42 := zR_C0_fr (zdis_fr (zfr_up hmm42 (zfr_rf [(28, 6)] _) hc0 rfl) rfl) hRC0m40
              have hRCRm42 := zR_CR_fr (zdis_fr (zfr_up hmm42 (zfr_rf [(28, 6)] _) hc0 rfl) rfl) hRCRm40
              have hRLRm42 := zR_LR_fr (zdis_fr (zfr_up hmm42 (zfr_rf [(28, 6)] _) hc0 rfl) rfl) hRLRm40
              have hRNSm42 := zR_NS_fr (zdis_fr (zfr_up hmm42 (zfr_rf [(28, 6)] _) hc0 rfl) rfl) hRNSm40
              have hRTRm42 := zR_TR_fr (zdis_fr (zfr_up hmm42 (zfr_rf [(28, 6)] _) hc0 rfl) rfl) hRTRm40
              have hRWDm42 := zR_WD_fr (zdis_fr (zfr_up hmm42 (zfr_rf [(28, 6)] _) hc0 rfl) rfl) hRWDm40
              refine zw_b (by omega) ?_
              refine zw_some ?_
              refine zw_b (by omega) ?_
              refine zw_some ?_
              refine zw_ite (fun h43 => ?_) (fun h43 => ?_)
              · exfalso; omega
              · refine zw_b (by omega) ?_
                refine zw_some ?_
                refine zw_ite (fun h44 => ?_) (fun h44 => ?_)
                · exfalso; omega
                · refine zw_b (by omega) ?_
                  have r45 : 0 ≤ (m42 a0 7) ∧ (m42 a0 7) ≤ 700 := zi_rd hIm42 hc0 zb_28_7
                  have r46 : 0 ≤ (m42 a0 8) ∧ (m42 a0 8) ≤ 6 := zi_rd hIm42 hc0 zb_28_8
                  have e47 : (m42 a0 8) = (m32 a0 8) := (Eq.trans (zs_ne hmm42 (Or.inr (by decide))) (zs_ne hmm40 (Or.inr (by decide))))
                  have r48 : (-2147483648) ≤ (m42 a0 4) ∧ (m42 a0 4) ≤ 2147483647 := zi_rd hIm42 hc0 zb_28_4
                  have e49 : (m42 a0 4) = 2 := (Eq.trans (zs_ne hmm42 (Or.inr (by decide))) (zs_eq hmm40))
                  exact zw_some ⟨hIm42, hFm42, hRC0m42, hRCRm42, hRLRm42, hRNSm42, hRTRm42, hRWDm42, ⟨by omega, by omega⟩, by omega, by omega, by omega⟩
          · refine zw_ite (fun h50 => ?_) (fun h50 => ?_)
            · refine zw_b (by omega) ?_
              refine zw_some ?_
              refine zw_ite (fun h51 => ?_) (fun h51 => ?_)
              · exfalso; omega
              · refine zw_bd (zw_eq (zu_call_at (zt_T n) (zm_85 n) (zdp_85 n) _ _ _ _ _ rfl (zr_85_0 n _ _ a0 2 m32)) ?_)
                generalize hmm52 : zu_up m32 a0 4 2 = m52
                have hIm52 := zi_up hmm52 hIm32 hc0 zb_28_4 (by omega) (by omega)
                have hFm52 := zfr_up hmm52 hFm32 hc0 rfl
                have hRC0m52 := zR_C0_fr (zdis_fr (zfr_up hmm52 (zfr_rf [(28, 5)] _) hc0 rfl) rfl) hRC0m32
                have hRCRm52 := zR_CR_fr (zdis_fr (zfr_up hmm52 (zfr_rf [(28, 5)] _) hc0 rfl) rfl) hRCRm32
                have hRNSm52 := zR_NS_fr (zdis_fr (zfr_up hmm52 (zfr_rf [(28, 5)] _) hc0 rfl) rfl) hRNSm32
                have hRTRm52 := zR_TR_fr (zdis_fr (zfr_up hmm52 (zfr_rf [(28, 5)] _) hc0 rfl) rfl) hRTRm32
                have hRWDm52 := zR_WD_fr (zdis_fr (zfr_up hmm52 (zfr_rf [(28, 5)] _) hc0 rfl) rfl) hRWDm32
                have hRLRm52 := zLR_wr (zone_190 hc0) hmm52 (by decide)
                have r53 : 0 ≤ (m52 a0 10) ∧ (m52 a0 10) ≤ 700 := zi_rd hIm52 hc0 zb_28_10
                generalize hmm54 : zu_up m52 a0 5 (m52 a0 10) = m54
                have hIm54 := zi_up hmm54 hIm52 hc0 zb_28_5 (by omega) (by omega)
                have hFm54 := zfr_up hmm54 hFm52 hc0 rfl
                have hRC0m54 := zR_C0_fr (zdis_fr (zfr_up hmm54 (zfr_rf [(28, 6)] _) hc0 rfl) rfl) hRC0m52
                have hRCRm54 := zR_CR_fr (zdis_fr (zfr_up hmm54 (zfr_rf [(28, 6)] _) hc0 rfl) rfl) hRCRm52
                have hRLRm54 := zR_LR_fr (zdis_fr (zfr_up hmm54 (zfr_rf [(28, 6)] _) hc0 rfl) rfl) hRLRm52
                have hRNSm54 := zR_NS_fr (zdis_fr (zfr_up hmm54 (zfr_rf [(28, 6)] _) hc0 rfl) rfl) hRNSm52
                have hRTRm54 := zR_TR_fr (zdis_fr (zfr_up hmm54 (zfr_rf [(28, 6)] _) hc0 rfl) rfl) hRTRm52
                have hRWDm54 := zR_WD_fr (zdis_fr (zfr_up hmm54 (zfr_rf [(28, 6)] _) hc0 rfl) rfl) hRWDm52
                refine zw_b (by omega) ?_
                refine zw_some ?_
                refine zw_b (by omega) ?_
                refine zw_some ?_
                refine zw_ite (fun h55 => ?_) (fun h55 => ?_)
                · exfalso; omega
                · refine zw_b (by omega) ?_
                  refine zw_some ?_
                  refine zw_ite (fun h56 => ?_) (fun h56 => ?_)
                  · exfalso; omega
                  · refine zw_b (by omega) ?_
                    have r57 : 0 ≤ (m54 a0 7) ∧ (m54 a0 7) ≤ 700 := zi_rd hIm54 hc0 zb_28_7
                    have r58 : 0 ≤ (m54 a0 8) ∧ (m54 a0 8) ≤ 6 := zi_rd hIm54 hc0 zb_28_8
                    have e59 : (m54 a0 8) = (m32 a0 8) := (Eq.trans (zs_ne hmm54 (Or.inr (by decide))) (zs_ne hmm52 (Or.inr (by decide))))
                    have r60 : (-2147483648) ≤ (m54 a0 4) ∧ (m54 a0 4) ≤ 2147483647 := zi_rd hIm54 hc0 zb_28_4
                    have e61 : (m54 a0 4) = 2 := (Eq.trans (zs_ne hmm54 (Or.inr (by decide))) (zs_eq hmm52))
                    exact zw_some ⟨hIm54, hFm54, hRC0m54, hRCRm54, hRLRm54, hRNSm54, hRTRm54, hRWDm54, ⟨by omega, by omega⟩, by omega, by omega, by omega⟩
            · refine zw_b (by omega) ?_
              refine zw_some ?_
              refine zw_ite (fun h62 => ?_) (fun h62 => ?_)
              · generalize hmm63 : zu_up m32 a0 11 (m32 a0 9) = m63
                have hIm63 := zi_up hmm63 hIm32 hc0 zb_28_11 (by omega) (by omega)
                have hFm63 := zfr_up hmm63 hFm32 hc0 rfl
                have hRC0m63 := zR_C0_fr (zdis_fr (zfr_up hmm63 (zfr_rf [(28, 12)] _) hc0 rfl) rfl) hRC0m32
                have hRCRm63 := zR_CR_fr (zdis_fr (zfr_up hmm63 (zfr_rf [(28, 12)] _) hc0 rfl) rfl) hRCRm32
                have hRLRm63 := zR_LR_fr (zdis_fr (zfr_up hmm63 (zfr_rf [(28, 12)] _) hc0 rfl) rfl) hRLRm32
                have hRNSm63 := zR_NS_fr (zdis_fr (zfr_up hmm63 (zfr_rf [(28, 12)] _) hc0 rfl) rfl) hRNSm32
                have hRTRm63 := zR_TR_fr (zdis_fr (zfr_up hmm63 (zfr_rf [(28, 12)] _) hc0 rfl) rfl) hRTRm32
                have hRWDm63 := zR_WD_fr (zdis_fr (zfr_up hmm63 (zfr_rf [(28, 12)] _) hc0 rfl) rfl) hRWDm32
                refine zw_bd (zw_mono (zk_89 n hIm63 hc0 hRNSm63 hRWDm63) (fun v65 m64 hqm64 => ?_))
                obtain ⟨hIm64, hfm64, hvm64⟩ := hqm64
                have hFm64 := zfr_tr hFm63 hfm64 rfl
                obtain ⟨hRNSm64, hRTRm64, hRWDm64, hvm64⟩ := hvm64
                have hRC0m64 := zR_C0_fr (zdis_fr hfm64 rfl) hRC0m63
                have hRCRm64 := zR_CR_fr (zdis_fr hfm64 rfl) hRCRm63
                have hRLRm64 := zR_LR_fr (zdis_fr hfm64 rfl) hRLRm63
                have s66 := hRNSm64 a0 hc0
                have s67 := hRTRm64 a0 hc0
                refine zw_b (by omega) ?_
                refine zw_some ?_
                refine zw_ite (fun h68 => ?_) (fun h68 => ?_)
                · have r69 : (-2147483648) ≤ (m64 a0 11) ∧ (m64 a0 11) ≤ 2147483647 := zi_rd hIm64 hc0 zb_28_11
                  have e70 : (m64 a0 11) = (m32 a0 9) := (Eq.trans (zfr_ap hfm64 hc0 rfl) (zs_eq hmm63))
                  have r71 : 0 ≤ (m64 a0 10) ∧ (m64 a0 10) ≤ 700 := zi_rd hIm64 hc0 zb_28_10
                  generalize hmm72 : zu_up m64 a0 42 (m64 a0 10) = m72
                  have hIm72 := zi_up hmm72 hIm64 hc0 zb_28_42 (by omega) (by omega)
                  have hFm72 := zfr_up hmm72 hFm64 hc0 rfl
                  have hRC0m72 := zR_C0_fr (zdis_fr (zfr_up hmm72 (zfr_rf [(28, 43)] _) hc0 rfl) rfl) hRC0m64
                  have hRCRm72 := zR_CR_fr (zdis_fr (zfr_up hmm72 (zfr_rf [(28, 43)] _) hc0 rfl) rfl) hRCRm64
                  have hRLRm72 := zR_LR_fr (zdis_fr (zfr_up hmm72 (zfr_rf [(28, 43)] _) hc0 rfl) rfl) hRLRm64
                  have hRNSm72 := zR_NS_fr (zdis_fr (zfr_up hmm72 (zfr_rf [(28, 43)] _) hc0 rfl) rfl) hRNSm64
                  have hRTRm72 := zR_TR_fr (zdis_fr (zfr_up hmm72 (zfr_rf [(28, 43)] _) hc0 rfl) rfl) hRTRm64
                  have hRWDm72 := zR_WD_fr (zdis_fr (zfr_up hmm72 (zfr_rf [(28, 43)] _) hc0 rfl) rfl) hRWDm64
                  have r73 : 1 ≤ (m72 a0 18) ∧ (m72 a0 18) ≤ 6 := zi_rd hIm72 hc0 zb_28_18
                  have w74 := zu_w32_id (z := (m72 a0 18) - 1) (by omega) (by omega)
                  refine zw_bd (zw_eq (zu_call_at (zt_T n) (zm_94 n) (zdp_94 n) _ _ _ _ _ rfl (zr_94_0 n _ _ a0 0 (zu_w32 ((m72 a0 18) - 1)) m72)) ?_)
                  have r75 : 0 ≤ (m72 a0 8) ∧ (m72 a0 8) ≤ 6 := zi_rd hIm72 hc0 zb_28_8
                  refine zw_ite (fun h76 => ?_) (fun h76 => ?_)
                  · have r77 : (-2147483648) ≤ (m72 a0 9) ∧ (m72 a0 9) ≤ 2147483647 := zi_rd hIm72 hc0 zb_28_9
                    refine zw_bd (zw_eq (zu_call_at (zt_T n) (zm_83 n) (zdp_83 n) _ _ _ _ _ rfl (zr_83_0 n _ _ (m72 a0 9) 0 (zu_w32 ((m72 a0 18) - 1)) m72)) ?_)
                    refine zw_ite (fun h78 => ?_) (fun h78 => ?_)
                    · refine zw_b (by omega) ?_
                      refine zw_some ?_
                      refine zw_ite (fun h79 => ?_) (fun h79 => ?_)
                      · exfalso; omega
                      · refine zw_bd (zw_eq (zu_call_at (zt_T n) (zm_85 n) (zdp_85 n) _ _ _ _ _ rfl (zr_85_0 n _ _ a0 2 m72)) ?_)
                        generalize hmm80 : zu_up m72 a0 4 2 = m80
                        have hIm80 := zi_up hmm80 hIm72 hc0 zb_28_4 (by omega) (by omega)
                        have hFm80 := zfr_up hmm80 hFm72 hc0 rfl
                        have hRC0m80 := zR_C0_fr (zdis_fr (zfr_up hmm80 (zfr_rf [(28, 5)] _) hc0 rfl) rfl) hRC0m72
                        have hRCRm80 := zR_CR_fr (zdis_fr (zfr_up hmm80 (zfr_rf [(28, 5)] _) hc0 rfl) rfl) hRCRm72
                        have hRNSm80 := zR_NS_fr (zdis_fr (zfr_up hmm80 (zfr_rf [(28, 5)] _) hc0 rfl) rfl) hRNSm72
                        have hRTRm80 := zR_TR_fr (zdis_fr (zfr_up hmm80 (zfr_rf [(28, 5)] _) hc0 rfl) rfl) hRTRm72
                        have hRWDm80 := zR_WD_fr (zdis_fr (zfr_up hmm80 (zfr_rf [(28, 5)] _) hc0 rfl) rfl) hRWDm72
                        have hRLRm80 := zLR_wr (zone_190 hc0) hmm80 (by decide)
                        have r81 : 0 ≤ (m80 a0 10) ∧ (m80 a0 10) ≤ 700 := zi_rd hIm80 hc0 zb_28_10
                        have e82 : (m80 a0 10) = (m64 a0 10) := (Eq.trans (zs_ne hmm80 (Or.inr (by decide))) (zs_ne hmm72 (Or.inr (by decide))))
                        generalize hmm83 : zu_up m80 a0 5 (m80 a0 10) = m83
                        have hIm83 := zi_up hmm83 hIm80 hc0 zb_28_5 (by omega) (by omega)
                        have hFm83 := zfr_up hmm83 hFm80 hc0 rfl
                        have hRC0m83 := zR_C0_fr (zdis_fr (zfr_up hmm83 (zfr_rf [(28, 6)] _) hc0 rfl) rfl) hRC0m80
                        have hRCRm83 := zR_CR_fr (zdis_fr (zfr_up hmm83 (zfr_rf [(28, 6)] _) hc0 rfl) rfl) hRCRm80
                        have hRLRm83 := zR_LR_fr (zdis_fr (zfr_up hmm83 (zfr_rf [(28, 6)] _) hc0 rfl) rfl) hRLRm80
                        have hRNSm83 := zR_NS_fr (zdis_fr (zfr_up hmm83 (zfr_rf [(28, 6)] _) hc0 rfl) rfl) hRNSm80
                        have hRTRm83 := zR_TR_fr (zdis_fr (zfr_up hmm83 (zfr_rf [(28, 6)] _) hc0 rfl) rfl) hRTRm80
                        have hRWDm83 := zR_WD_fr (zdis_fr (zfr_up hmm83 (zfr_rf [(28, 6)] _) hc0 rfl) rfl) hRWDm80
                        refine zw_b (by omega) ?_
                        refine zw_some ?_
                        refine zw_b (by omega) ?_
                        refine zw_some ?_
                        refine zw_ite (fun h84 => ?_) (fun h84 => ?_)
                        · exfalso; omega
                        · refine zw_b (by omega) ?_
                          refine zw_some ?_
                          refine zw_ite (fun h85 => ?_) (fun h85 => ?_)
                          · exfalso; omega
                          · refine zw_b (by omega) ?_
                            have r86 : 0 ≤ (m83 a0 7) ∧ (m83 a0 7) ≤ 700 := zi_rd hIm83 hc0 zb_28_7
                            have r87 : 0 ≤ (m83 a0 8) ∧ (m83 a0 8) ≤ 6 := zi_rd hIm83 hc0 zb_28_8
                            have e88 : (m83 a0 8) = (m72 a0 8) := (Eq.trans (zs_ne hmm83 (Or.inr (by decide))) (zs_ne hmm80 (Or.inr (by decide))))
                            have r89 : (-2147483648) ≤ (m83 a0 4) ∧ (m83 a0 4) ≤ 2147483647 := zi_rd hIm83 hc0 zb_28_4
                            have e90 : (m83 a0 4) = 2 := (Eq.trans (zs_ne hmm83 (Or.inr (by decide))) (zs_eq hmm80))
                            exact zw_some ⟨hIm83, hFm83, hRC0m83, hRCRm83, hRLRm83, hRNSm83, hRTRm83, hRWDm83, ⟨by omega, by omega⟩, by omega, by omega, by omega⟩
                    · refine zw_ite (fun h91 => ?_) (fun h91 => ?_)
                      · refine zw_b (by omega) ?_
                        refine zw_some ?_
                        refine zw_ite (fun h92 => ?_) (fun h92 => ?_)
                        · exfalso; omega
                        · refine zw_bd (zw_eq (zu_call_at (zt_T n) (zm_85 n) (zdp_85 n) _ _ _ _ _ rfl (zr_85_0 n _ _ a0 2 m72)) ?_)
                          generalize hmm93 : zu_up m72 a0 4 2 = m93
                          have hIm93 := zi_up hmm93 hIm72 hc0 zb_28_4 (by omega) (by omega)
                          have hFm93 := zfr_up hmm93 hFm72 hc0 rfl
                          have hRC0m93 := zR_C0_fr (zdis_fr (zfr_up hmm93 (zfr_rf [(28, 5)] _) hc0 rfl) rfl) hRC0m72
                          have hRCRm93 := zR_CR_fr (zdis_fr (zfr_up hmm93 (zfr_rf [(28, 5)] _) hc0 rfl) rfl) hRCRm72
                          have hRNSm93 := zR_NS_fr (zdis_fr (zfr_up hmm93 (zfr_rf [(28, 5)] _) hc0 rfl) rfl) hRNSm72
                          have hRTRm93 := zR_TR_fr (zdis_fr (zfr_up hmm93 (zfr_rf [(28, 5)] _) hc0 rfl) rfl) hRTRm72
                          have hRWDm93 := zR_WD_fr (zdis_fr (zfr_up hmm93 (zfr_rf [(28, 5)] _) hc0 rfl) rfl) hRWDm72
                          have hRLRm93 := zLR_wr (zone_190 hc0) hmm93 (by decide)
                          have r94 : 0 ≤ (m93 a0 10) ∧ (m93 a0 10) ≤ 700 := zi_rd hIm93 hc0 zb_28_10
                          have e95 : (m93 a0 10) = (m64 a0 10) := (Eq.trans (zs_ne hmm93 (Or.inr (by decide))) (zs_ne hmm72 (Or.inr (by decide))))
                          generalize hmm96 : zu_up m93 a0 5 (m93 a0 10) = m96
                          have hIm96 := zi_up hmm96 hIm93 hc0 zb_28_5 (by omega) (by omega)
                          have hFm96 := zfr_up hmm96 hFm93 hc0 rfl
                          have hRC0m96 := zR_C0_fr (zdis_fr (zfr_up hmm96 (zfr_rf [(28, 6)] _) hc0 rfl) rfl) hRC0m93
                          have hRCRm96 := zR_CR_fr (zdis_fr (zfr_up hmm96 (zfr_rf [(28, 6)] _) hc0 rfl) rfl) hRCRm93
                          have hRLRm96 := zR_LR_fr (zdis_fr (zfr_up hmm96 (zfr_rf [(28, 6)] _) hc0 rfl) rfl) hRLRm93
                          have hRNSm96 := zR_NS_fr (zdis_fr (zfr_up hmm96 (zfr_rf [(28, 6)] _) hc0 rfl) rfl) hRNSm93
                          have hRTRm96 := zR_TR_fr (zdis_fr (zfr_up hmm96 (zfr_rf [(28, 6)] _) hc0 rfl) rfl) hRTRm93
                          have hRWDm96 := zR_WD_fr (zdis_fr (zfr_up hmm96 (zfr_rf [(28, 6)] _) hc0 rfl) rfl) hRWDm93
                          refine zw_b (by omega) ?_
                          refine zw_some ?_
                          refine zw_b (by omega) ?_
                          refine zw_some ?_
                          refine zw_ite (fun h97 => ?_) (fun h97 => ?_)
                          · exfalso; omega
                          · refine zw_b (by omega) ?_
                            refine zw_some ?_
                            refine zw_ite (fun h98 => ?_) (fun h98 => ?_)
                            · exfalso; omega
                            · refine zw_b (by omega) ?_
                              have r99 : 0 ≤ (m96 a0 7) ∧ (m96 a0 7) ≤ 700 := zi_rd hIm96 hc0 zb_28_7
                              have r100 : 0 ≤ (m96 a0 8) ∧ (m96 a0 8) ≤ 6 := zi_rd hIm96 hc0 zb_28_8
                              have e101 : (m96 a0 8) = (m72 a0 8) := (Eq.trans (zs_ne hmm96 (Or.inr (by decide))) (zs_ne hmm93 (Or.inr (by decide))))
                              have r102 : (-2147483648) ≤ (m96 a0 4) ∧ (m96 a0 4) ≤ 2147483647 := zi_rd hIm96 hc0 zb_28_4
                              have e103 : (m96 a0 4) = 2 := (Eq.trans (zs_ne hmm96 (Or.inr (by decide))) (zs_eq hmm93))
                              exact zw_some ⟨hIm96, hFm96, hRC0m96, hRCRm96, hRLRm96, hRNSm96, hRTRm96, hRWDm96, ⟨by omega, by omega⟩, by omega, by omega, by omega⟩
                      · refine zw_b (by omega) ?_
                        refine zw_some ?_
                        refine zw_ite (fun h104 => ?_) (fun h104 => ?_)
                        · generalize hmm105 : zu_up m72 a0 11 (m72 a0 9) = m105
                          have hIm105 := zi_up hmm105 hIm72 hc0 zb_28_11 (by omega) (by omega)
                          have hFm105 := zfr_up hmm105 hFm72 hc0 rfl
                          have hRC0m105 := zR_C0_fr (zdis_fr (zfr_up hmm105 (zfr_rf [(28, 12)] _) hc0 rfl) rfl) hRC0m72
                          have hRCRm105 := zR_CR_fr (zdis_fr (zfr_up hmm105 (zfr_rf [(28, 12)] _) hc0 rfl) rfl) hRCRm72
                          have hRLRm105 := zR_LR_fr (zdis_fr (zfr_up hmm105 (zfr_rf [(28, 12)] _) hc0 rfl) rfl) hRLRm72
                          have hRNSm105 := zR_NS_fr (zdis_fr (zfr_up hmm105 (zfr_rf [(28, 12)] _) hc0 rfl) rfl) hRNSm72
                          have hRTRm105 := zR_TR_fr (zdis_fr (zfr_up hmm105 (zfr_rf [(28, 12)] _) hc0 rfl) rfl) hRTRm72
                          have hRWDm105 := zR_WD_fr (zdis_fr (zfr_up hmm105 (zfr_rf [(28, 12)] _) hc0 rfl) rfl) hRWDm72
                          refine zw_bd (zw_mono (zk_89 n hIm105 hc0 hRNSm105 hRWDm105) (fun v107 m106 hqm106 => ?_))
                          obtain ⟨hIm106, hfm106, hvm106⟩ := hqm106
                          have hFm106 := zfr_tr hFm105 hfm106 rfl
                          obtain ⟨hRNSm106, hRTRm106, hRWDm106, hvm106⟩ := hvm106
                          have hRC0m106 := zR_C0_fr (zdis_fr hfm106 rfl) hRC0m105
                          have hRCRm106 := zR_CR_fr (zdis_fr hfm106 rfl) hRCRm105
                          have hRLRm106 := zR_LR_fr (zdis_fr hfm106 rfl) hRLRm105
                          have s108 := hRNSm106 a0 hc0
                          have s109 := hRTRm106 a0 hc0
                          refine zw_b (by omega) ?_
                          refine zw_some ?_
                          refine zw_ite (fun h110 => ?_) (fun h110 => ?_)
                          · have r111 : 1 ≤ (m106 a0 17) ∧ (m106 a0 17) ≤ 8 := zi_rd hIm106 hc0 zb_28_17
                            have e112 : (m106 a0 17) = (m32 a0 17) := (Eq.trans (zfr_ap hfm106 hc0 rfl) (Eq.trans (zs_ne hmm105 (Or.inr (by decide))) (Eq.trans (zs_ne hmm72 (Or.inr (by decide))) (Eq.trans (zfr_ap hfm64 hc0 rfl) (zs_ne hmm63 (Or.inr (by decide)))))))
                            have r113 : (-2147483648) ≤ (m106 a0 11) ∧ (m106 a0 11) ≤ 2147483647 := zi_rd hIm106 hc0 zb_28_11
                            have e114 : (m106 a0 11) = (m72 a0 9) := (Eq.trans (zfr_ap hfm106 hc0 rfl) (zs_eq hmm105))
                            have p115 := zmul_bd (x := (m106 a0 17)) (y := (m106 a0 11)) (a := 1) (b := 0) (A := 8) (B := 5) (by omega) (by omega) (by omega) (by omega) (by omega) (by omega)
                            have w116 := zu_w32_id (z := (m106 a0 17) * (m106 a0 11)) (by omega) (by omega)
                            have w117 := zu_w32_id (z := (zu_w32 ((m106 a0 17) * (m106 a0 11))) + (m64 a0 11)) (by omega) (by omega)
                            have r118 : 1 ≤ (m106 a0 18) ∧ (m106 a0 18) ≤ 6 := zi_rd hIm106 hc0 zb_28_18
                            have e119 : (m106 a0 18) = (m72 a0 18) := (Eq.trans (zfr_ap hfm106 hc0 rfl) (zs_ne hmm105 (Or.inr (by decide))))
                            have hgl : (zu_w32 ((zu_w32 ((m106 a0 17) * (m106 a0 11))) + (m64 a0 11))) < (m106 a0 17) * (m106 a0 18) := zcell_lt2 (n := (m106 a0 11)) (x := (m64 a0 11)) rfl (by omega) (by omega) (by omega) (by omega) (by omega)
                            generalize hmm120 : zu_up m106 a0 11 (zu_w32 ((zu_w32 ((m106 a0 17) * (m106 a0 11))) + (m64 a0 11))) = m120
                            have hIm120 := zi_up hmm120 hIm106 hc0 zb_28_11 (by omega) (by omega)
                            have hFm120 := zfr_up hmm120 hFm106 hc0 rfl
                            have hRC0m120 := zR_C0_fr (zdis_fr (zfr_up hmm120 (zfr_rf [(28, 12)] _) hc0 rfl) rfl) hRC0m106
                            have hRCRm120 := zR_CR_fr (zdis_fr (zfr_up hmm120 (zfr_rf [(28, 12)] _) hc0 rfl) rfl) hRCRm106
                            have hRLRm120 := zR_LR_fr (zdis_fr (zfr_up hmm120 (zfr_rf [(28, 12)] _) hc0 rfl) rfl) hRLRm106
                            have hRNSm120 := zR_NS_fr (zdis_fr (zfr_up hmm120 (zfr_rf [(28, 12)] _) hc0 rfl) rfl) hRNSm106
                            have hRTRm120 := zR_TR_fr (zdis_fr (zfr_up hmm120 (zfr_rf [(28, 12)] _) hc0 rfl) rfl) hRTRm106
                            have hRWDm120 := zR_WD_fr (zdis_fr (zfr_up hmm120 (zfr_rf [(28, 12)] _) hc0 rfl) rfl) hRWDm106
                            refine zw_b (by omega) ?_
                            refine zw_some ?_
                            refine zw_ite (fun h121 => ?_) (fun h121 => ?_)
                            · have r122 : (-2147483648) ≤ (m120 a0 11) ∧ (m120 a0 11) ≤ 2147483647 := zi_rd hIm120 hc0 zb_28_11
                              have e123 : (m120 a0 11) = (zu_w32 ((zu_w32 ((m106 a0 17) * (m106 a0 11))) + (m64 a0 11))) := (zs_eq hmm120)
                              have b124 : 0 ≤ (zu_w32 (4 + (m16 a0 20))) ∧ (zu_w32 (4 + (m16 a0 20))) < 8 := by omega
                              refine zw_if b124 ?_
                              generalize hmm125 : zu_up m120 201 (zu_w32 (4 + (m16 a0 20))) (m120 a0 11) = m125
                              have hIm125 := zi_up hmm125 hIm120 zq_201 (zb_110 _) (by omega) (by omega)
                              have hFm125 := zfr_up hmm125 hFm120 zq_201 rfl
                              have hRLRm125 := zR_LR_fr (zdis_fr (zfr_up hmm125 (zfr_rf [(110, 0)] _) zq_201 rfl) rfl) hRLRm120
                              have hRNSm125 := zR_NS_fr (zdis_fr (zfr_up hmm125 (zfr_rf [(110, 0)] _) zq_201 rfl) rfl) hRNSm120
                              have hRTRm125 := zR_TR_fr (zdis_fr (zfr_up hmm125 (zfr_rf [(110, 0)] _) zq_201 rfl) rfl) hRTRm120
                              have hRWDm125 := zR_WD_fr (zdis_fr (zfr_up hmm125 (zfr_rf [(110, 0)] _) zq_201 rfl) rfl) hRWDm120
                              have r126 : 0 ≤ (m120 a0 20) ∧ (m120 a0 20) ≤ 4 := zi_rd hIm120 hc0 zb_28_20
                              have e127 : (m120 a0 20) = (m16 a0 20) := (Eq.trans (zs_ne hmm120 (Or.inr (by decide))) (Eq.trans (zfr_ap hfm106 hc0 rfl) (Eq.trans (zs_ne hmm105 (Or.inr (by decide))) (Eq.trans (zs_ne hmm72 (Or.inr (by decide))) (Eq.trans (zfr_ap hfm64 hc0 rfl) (Eq.trans (zs_ne hmm63 (Or.inr (by decide))) (Eq.trans (zs_ne hmm32 (Or.inr (by decide))) (Eq.trans (zfr_ap hfm28 hc0 rfl) (zs_ne hmm27 (Or.inl (zc_ne hc0 zq_200 (by decide))))))))))))
                              have hRC0m125 := zC0_hi hmm125 (by omega) hRC0m120
                              have hRCRm125 := zCR_hi (zone_190 hc0) hmm125 (by omega) hRCRm120
                              refine zw_bd (zw_eq (zu_call_at (zt_T n) (zm_94 n) (zdp_94 n) _ _ _ _ _ rfl (zr_94_0 n _ _ a0 1 15 m125)) ?_)
                              have r128 : 0 ≤ (m125 a0 8) ∧ (m125 a0 8) ≤ 6 := zi_rd hIm125 hc0 zb_28_8
                              refine zw_ite (fun h129 => ?_) (fun h129 => ?_)
                              · have r130 : (-2147483648) ≤ (m125 a0 9) ∧ (m125 a0 9) ≤ 2147483647 := zi_rd hIm125 hc0 zb_28_9
                                refine zw_bd (zw_eq (zu_call_at (zt_T n) (zm_83 n) (zdp_83 n) _ _ _ _ _ rfl (zr_83_0 n _ _ (m125 a0 9) 1 15 m125)) ?_)
                                refine zw_ite (fun h131 => ?_) (fun h131 => ?_)
                                · refine zw_b (by omega) ?_
                                  refine zw_some ?_
                                  refine zw_ite (fun h132 => ?_) (fun h132 => ?_)
                                  · exfalso; omega
                                  · refine zw_bd (zw_eq (zu_call_at (zt_T n) (zm_85 n) (zdp_85 n) _ _ _ _ _ rfl (zr_85_0 n _ _ a0 2 m125)) ?_)
                                    generalize hmm133 : zu_up m125 a0 4 2 = m133
                                    have hIm133 := zi_up hmm133 hIm125 hc0 zb_28_4 (by omega) (by omega)
                                    have hFm133 := zfr_up hmm133 hFm125 hc0 rfl
                                    have hRC0m133 := zR_C0_fr (zdis_fr (zfr_up hmm133 (zfr_rf [(28, 5)] _) hc0 rfl) rfl) hRC0m125
                                    have hRCRm133 := zR_CR_fr (zdis_fr (zfr_up hmm133 (zfr_rf [(28, 5)] _) hc0 rfl) rfl) hRCRm125
                                    have hRNSm133 := zR_NS_fr (zdis_fr (zfr_up hmm133 (zfr_rf [(28, 5)] _) hc0 rfl) rfl) hRNSm125
                                    have hRTRm133 := zR_TR_fr (zdis_fr (zfr_up hmm133 (zfr_rf [(28, 5)] _) hc0 rfl) rfl) hRTRm125
                                    have hRWDm133 := zR_WD_fr (zdis_fr (zfr_up hmm133 (zfr_rf [(28, 5)] _) hc0 rfl) rfl) hRWDm125
                                    have hRLRm133 := zLR_wr (zone_190 hc0) hmm133 (by decide)
                                    have r134 : 0 ≤ (m133 a0 10) ∧ (m133 a0 10) ≤ 700 := zi_rd hIm133 hc0 zb_28_10
                                    generalize hmm135 : zu_up m133 a0 5 (m133 a0 10) = m135
                                    have hIm135 := zi_up hmm135 hIm133 hc0 zb_28_5 (by omega) (by omega)
                                    have hFm135 := zfr_up hmm135 hFm133 hc0 rfl
                                    have hRC0m135 := zR_C0_fr (zdis_fr (zfr_up hmm135 (zfr_rf [(28, 6)] _) hc0 rfl) rfl) hRC0m133
                                    have hRCRm135 := zR_CR_fr (zdis_fr (zfr_up hmm135 (zfr_rf [(28, 6)] _) hc0 rfl) rfl) hRCRm133
                                    have hRLRm135 := zR_LR_fr (zdis_fr (zfr_up hmm135 (zfr_rf [(28, 6)] _) hc0 rfl) rfl) hRLRm133
                                    have hRNSm135 := zR_NS_fr (zdis_fr (zfr_up hmm135 (zfr_rf [(28, 6)] _) hc0 rfl) rfl) hRNSm133
                                    have hRTRm135 := zR_TR_fr (zdis_fr (zfr_up hmm135 (zfr_rf [(28, 6)] _) hc0 rfl) rfl) hRTRm133
                                    have hRWDm135 := zR_WD_fr (zdis_fr (zfr_up hmm135 (zfr_rf [(28, 6)] _) hc0 rfl) rfl) hRWDm133
                                    refine zw_b (by omega) ?_
                                    refine zw_some ?_
                                    refine zw_b (by omega) ?_
                                    refine zw_some ?_
                                    refine zw_ite (fun h136 => ?_) (fun h136 => ?_)
                                    · exfalso; omega
                                    · refine zw_b (by omega) ?_
                                      have r137 : 0 ≤ (m135 a0 7) ∧ (m135 a0 7) ≤ 700 := zi_rd hIm135 hc0 zb_28_7
                                      have r138 : 0 ≤ (m135 a0 8) ∧ (m135 a0 8) ≤ 6 := zi_rd hIm135 hc0 zb_28_8
                                      have e139 : (m135 a0 8) = (m125 a0 8) := (Eq.trans (zs_ne hmm135 (Or.inr (by decide))) (zs_ne hmm133 (Or.inr (by decide))))
                                      have r140 : (-2147483648) ≤ (m135 a0 4) ∧ (m135 a0 4) ≤ 2147483647 := zi_rd hIm135 hc0 zb_28_4
                                      have e141 : (m135 a0 4) = 2 := (Eq.trans (zs_ne hmm135 (Or.inr (by decide))) (zs_eq hmm133))
                                      exact zw_some ⟨hIm135, hFm135, hRC0m135, hRCRm135, hRLRm135, hRNSm135, hRTRm135, hRWDm135, ⟨by omega, by omega⟩, by omega, by omega, by omega⟩
                                · refine zw_ite (fun h142 => ?_) (fun h142 => ?_)
                                  · refine zw_b (by omega) ?_
                                    refine zw_some ?_
                                    refine zw_ite (fun h143 => ?_) (fun h143 => ?_)
                                    · exfalso; omega
                                    · refine zw_bd (zw_eq (zu_call_at (zt_T n) (zm_85 n) (zdp_85 n) _ _ _ _ _ rfl (zr_85_0 n _ _ a0 2 m125)) ?_)
                                      generalize hmm144 : zu_up m125 a0 4 2 = m144
                                      have hIm144 := zi_up hmm144 hIm125 hc0 zb_28_4 (by omega) (by omega)
                                      have hFm144 := zfr_up hmm144 hFm125 hc0 rfl
                                      have hRC0m144 := zR_C0_fr (zdis_fr (zfr_up hmm144 (zfr_rf [(28, 5)] _) hc0 rfl) rfl) hRC0m125
                                      have hRCRm144 := zR_CR_fr (zdis_fr (zfr_up hmm144 (zfr_rf [(28, 5)] _) hc0 rfl) rfl) hRCRm125
                                      have hRNSm144 := zR_NS_fr (zdis_fr (zfr_up hmm144 (zfr_rf [(28, 5)] _) hc0 rfl) rfl) hRNSm125
                                      have hRTRm144 := zR_TR_fr (zdis_fr (zfr_up hmm144 (zfr_rf [(28, 5)] _) hc0 rfl) rfl) hRTRm125
                                      have hRWDm144 := zR_WD_fr (zdis_fr (zfr_up hmm144 (zfr_rf [(28, 5)] _) hc0 rfl) rfl) hRWDm125
                                      have hRLRm144 := zLR_wr (zone_190 hc0) hmm144 (by decide)
                                      have r145 : 0 ≤ (m144 a0 10) ∧ (m144 a0 10) ≤ 700 := zi_rd hIm144 hc0 zb_28_10
                                      generalize hmm146 : zu_up m144 a0 5 (m144 a0 10) = m146
                                      have hIm146 := zi_up hmm146 hIm144 hc0 zb_28_5 (by omega) (by omega)
                                      have hFm146 := zfr_up hmm146 hFm144 hc0 rfl
                                      have hRC0m146 := zR_C0_fr (zdis_fr (zfr_up hmm146 (zfr_rf [(28, 6)] _) hc0 rfl) rfl) hRC0m144
                                      have hRCRm146 := zR_CR_fr (zdis_fr (zfr_up hmm146 (zfr_rf [(28, 6)] _) hc0 rfl) rfl) hRCRm144
                                      have hRLRm146 := zR_LR_fr (zdis_fr (zfr_up hmm146 (zfr_rf [(28, 6)] _) hc0 rfl) rfl) hRLRm144
                                      have hRNSm146 := zR_NS_fr (zdis_fr (zfr_up hmm146 (zfr_rf [(28, 6)] _) hc0 rfl) rfl) hRNSm144
                                      have hRTRm146 := zR_TR_fr (zdis_fr (zfr_up hmm146 (zfr_rf [(28, 6)] _) hc0 rfl) rfl) hRTRm144
                                      have hRWDm146 := zR_WD_fr (zdis_fr (zfr_up hmm146 (zfr_rf [(28, 6)] _) hc0 rfl) rfl) hRWDm144
                                      refine zw_b (by omega) ?_
                                      refine zw_some ?_
                                      refine zw_b (by omega) ?_
                                      refine zw_some ?_
                                      refine zw_ite (fun h147 => ?_) (fun h147 => ?_)
                                      · exfalso; omega
                                      · refine zw_b (by omega) ?_
                                        have r148 : 0 ≤ (m146 a0 7) ∧ (m146 a0 7) ≤ 700 := zi_rd hIm146 hc0 zb_28_7
                                        have r149 : 0 ≤ (m146 a0 8) ∧ (m146 a0 8) ≤ 6 := zi_rd hIm146 hc0 zb_28_8
                                        have e150 : (m146 a0 8) = (m125 a0 8) := (Eq.trans (zs_ne hmm146 (Or.inr (by decide))) (zs_ne hmm144 (Or.inr (by decide))))
                                        have r151 : (-2147483648) ≤ (m146 a0 4) ∧ (m146 a0 4) ≤ 2147483647 := zi_rd hIm146 hc0 zb_28_4
                                        have e152 : (m146 a0 4) = 2 := (Eq.trans (zs_ne hmm146 (Or.inr (by decide))) (zs_eq hmm144))
                                        exact zw_some ⟨hIm146, hFm146, hRC0m146, hRCRm146, hRLRm146, hRNSm146, hRTRm146, hRWDm146, ⟨by omega, by omega⟩, by omega, by omega, by omega⟩
                                  · refine zw_b (by omega) ?_
                                    refine zw_some ?_
                                    refine zw_ite (fun h153 => ?_) (fun h153 => ?_)
                                    · generalize hmm154 : zu_up m125 a0 11 (m125 a0 9) = m154
                                      have hIm154 := zi_up hmm154 hIm125 hc0 zb_28_11 (by omega) (by omega)
                                      have hFm154 := zfr_up hmm154 hFm125 hc0 rfl
                                      have hRC0m154 := zR_C0_fr (zdis_fr (zfr_up hmm154 (zfr_rf [(28, 12)] _) hc0 rfl) rfl) hRC0m125
                                      have hRCRm154 := zR_CR_fr (zdis_fr (zfr_up hmm154 (zfr_rf [(28, 12)] _) hc0 rfl) rfl) hRCRm125
                                      have hRLRm154 := zR_LR_fr (zdis_fr (zfr_up hmm154 (zfr_rf [(28, 12)] _) hc0 rfl) rfl) hRLRm125
                                      have hRNSm154 := zR_NS_fr (zdis_fr (zfr_up hmm154 (zfr_rf [(28, 12)] _) hc0 rfl) rfl) hRNSm125
                                      have hRTRm154 := zR_TR_fr (zdis_fr (zfr_up hmm154 (zfr_rf [(28, 12)] _) hc0 rfl) rfl) hRTRm125
                                      have hRWDm154 := zR_WD_fr (zdis_fr (zfr_up hmm154 (zfr_rf [(28, 12)] _) hc0 rfl) rfl) hRWDm125
                                      refine zw_bd (zw_mono (zk_89 n hIm154 hc0 hRNSm154 hRWDm154) (fun v156 m155 hqm155 => ?_))
                                      obtain ⟨hIm155, hfm155, hvm155⟩ := hqm155
                                      have hFm155 := zfr_tr hFm154 hfm155 rfl
                                      obtain ⟨hRNSm155, hRTRm155, hRWDm155, hvm155⟩ := hvm155
                                      have hRC0m155 := zR_C0_fr (zdis_fr hfm155 rfl) hRC0m154
                                      have hRCRm155 := zR_CR_fr (zdis_fr hfm155 rfl) hRCRm154
                                      have hRLRm155 := zR_LR_fr (zdis_fr hfm155 rfl) hRLRm154
                                      have s157 := hRNSm155 a0 hc0
                                      have s158 := hRTRm155 a0 hc0
                                      refine zw_b (by omega) ?_
                                      refine zw_some ?_
                                      refine zw_ite (fun h159 => ?_) (fun h159 => ?_)
                                      · have r160 : (-2147483648) ≤ (m155 a0 11) ∧ (m155 a0 11) ≤ 2147483647 := zi_rd hIm155 hc0 zb_28_11
                                        have e161 : (m155 a0 11) = (m125 a0 9) := (Eq.trans (zfr_ap hfm155 hc0 rfl) (zs_eq hmm154))
                                        have b162 : 0 ≤ (zu_w32 (4 + (m16 a0 20))) ∧ (zu_w32 (4 + (m16 a0 20))) < 8 := by omega
                                        refine zw_if b162 ?_
                                        generalize hmm163 : zu_up m155 202 (zu_w32 (4 + (m16 a0 20))) (m155 a0 11) = m163
                                        have hIm163 := zi_up hmm163 hIm155 zq_202 (zb_111 _) (by omega) (by omega)
                                        have hFm163 := zfr_up hmm163 hFm155 zq_202 rfl
                                        have hRC0m163 := zR_C0_fr (zdis_fr (zfr_up hmm163 (zfr_rf [(111, 0)] _) zq_202 rfl) rfl) hRC0m155
                                        have hRCRm163 := zR_CR_fr (zdis_fr (zfr_up hmm163 (zfr_rf [(111, 0)] _) zq_202 rfl) rfl) hRCRm155
                                        have hRLRm163 := zR_LR_fr (zdis_fr (zfr_up hmm163 (zfr_rf [(111, 0)] _) zq_202 rfl) rfl) hRLRm155
                                        have hRNSm163 := zR_NS_fr (zdis_fr (zfr_up hmm163 (zfr_rf [(111, 0)] _) zq_202 rfl) rfl) hRNSm155
                                        have hRTRm163 := zR_TR_fr (zdis_fr (zfr_up hmm163 (zfr_rf [(111, 0)] _) zq_202 rfl) rfl) hRTRm155
                                        have hRWDm163 := zR_WD_fr (zdis_fr (zfr_up hmm163 (zfr_rf [(111, 0)] _) zq_202 rfl) rfl) hRWDm155
                                        refine zw_bd (zw_eq (zu_call_at (zt_T n) (zm_94 n) (zdp_94 n) _ _ _ _ _ rfl (zr_94_0 n _ _ a0 0 3 m163)) ?_)
                                        have r164 : 0 ≤ (m163 a0 8) ∧ (m163 a0 8) ≤ 6 := zi_rd hIm163 hc0 zb_28_8
                                        refine zw_ite (fun h165 => ?_) (fun h165 => ?_)
                                        · have r166 : (-2147483648) ≤ (m163 a0 9) ∧ (m163 a0 9) ≤ 2147483647 := zi_rd hIm163 hc0 zb_28_9
                                          refine zw_bd (zw_eq (zu_call_at (zt_T n) (zm_83 n) (zdp_83 n) _ _ _ _ _ rfl (zr_83_0 n _ _ (m163 a0 9) 0 3 m163)) ?_)
                                          refine zw_ite (fun h167 => ?_) (fun h167 => ?_)
                                          · refine zw_b (by omega) ?_
                                            refine zw_some ?_
                                            refine zw_ite (fun h168 => ?_) (fun h168 => ?_)
                                            · exfalso; omega
                                            · refine zw_bd (zw_eq (zu_call_at (zt_T n) (zm_85 n) (zdp_85 n) _ _ _ _ _ rfl (zr_85_0 n _ _ a0 2 m163)) ?_)
                                              generalize hmm169 : zu_up m163 a0 4 2 = m169
                                              have hIm169 := zi_up hmm169 hIm163 hc0 zb_28_4 (by omega) (by omega)
                                              have hFm169 := zfr_up hmm169 hFm163 hc0 rfl
                                              have hRC0m169 := zR_C0_fr (zdis_fr (zfr_up hmm169 (zfr_rf [(28, 5)] _) hc0 rfl) rfl) hRC0m163
                                              have hRCRm169 := zR_CR_fr (zdis_fr (zfr_up hmm169 (zfr_rf [(28, 5)] _) hc0 rfl) rfl) hRCRm163
                                              have hRNSm169 := zR_NS_fr (zdis_fr (zfr_up hmm169 (zfr_rf [(28, 5)] _) hc0 rfl) rfl) hRNSm163
                                              have hRTRm169 := zR_TR_fr (zdis_fr (zfr_up hmm169 (zfr_rf [(28, 5)] _) hc0 rfl) rfl) hRTRm163
                                              have hRWDm169 := zR_WD_fr (zdis_fr (zfr_up hmm169 (zfr_rf [(28, 5)] _) hc0 rfl) rfl) hRWDm163
                                              have hRLRm169 := zLR_wr (zone_190 hc0) hmm169 (by decide)
                                              have r170 : 0 ≤ (m169 a0 10) ∧ (m169 a0 10) ≤ 700 := zi_rd hIm169 hc0 zb_28_10
                                              generalize hmm171 : zu_up m169 a0 5 (m169 a0 10) = m171
                                              have hIm171 := zi_up hmm171 hIm169 hc0 zb_28_5 (by omega) (by omega)
                                              have hFm171 := zfr_up hmm171 hFm169 hc0 rfl
                                              have hRC0m171 := zR_C0_fr (zdis_fr (zfr_up hmm171 (zfr_rf [(28, 6)] _) hc0 rfl) rfl) hRC0m169
                                              have hRCRm171 := zR_CR_fr (zdis_fr (zfr_up hmm171 (zfr_rf [(28, 6)] _) hc0 rfl) rfl) hRCRm169
                                              have hRLRm171 := zR_LR_fr (zdis_fr (zfr_up hmm171 (zfr_rf [(28, 6)] _) hc0 rfl) rfl) hRLRm169
                                              have hRNSm171 := zR_NS_fr (zdis_fr (zfr_up hmm171 (zfr_rf [(28, 6)] _) hc0 rfl) rfl) hRNSm169
                                              have hRTRm171 := zR_TR_fr (zdis_fr (zfr_up hmm171 (zfr_rf [(28, 6)] _) hc0 rfl) rfl) hRTRm169
                                              have hRWDm171 := zR_WD_fr (zdis_fr (zfr_up hmm171 (zfr_rf [(28, 6)] _) hc0 rfl) rfl) hRWDm169
                                              refine zw_b (by omega) ?_
                                              refine zw_some ?_
                                              refine zw_b (by omega) ?_
                                              refine zw_some ?_
                                              refine zw_ite (fun h172 => ?_) (fun h172 => ?_)
                                              · exfalso; omega
                                              · refine zw_b (by omega) ?_
                                                have r173 : 0 ≤ (m171 a0 7) ∧ (m171 a0 7) ≤ 700 := zi_rd hIm171 hc0 zb_28_7
                                                have r174 : 0 ≤ (m171 a0 8) ∧ (m171 a0 8) ≤ 6 := zi_rd hIm171 hc0 zb_28_8
                                                have e175 : (m171 a0 8) = (m163 a0 8) := (Eq.trans (zs_ne hmm171 (Or.inr (by decide))) (zs_ne hmm169 (Or.inr (by decide))))
                                                have r176 : (-2147483648) ≤ (m171 a0 4) ∧ (m171 a0 4) ≤ 2147483647 := zi_rd hIm171 hc0 zb_28_4
                                                have e177 : (m171 a0 4) = 2 := (Eq.trans (zs_ne hmm171 (Or.inr (by decide))) (zs_eq hmm169))
                                                exact zw_some ⟨hIm171, hFm171, hRC0m171, hRCRm171, hRLRm171, hRNSm171, hRTRm171, hRWDm171, ⟨by omega, by omega⟩, by omega, by omega, by omega⟩
                                          · refine zw_ite (fun h178 => ?_) (fun h178 => ?_)
                                            · refine zw_b (by omega) ?_
                                              refine zw_some ?_
                                              refine zw_ite (fun h179 => ?_) (fun h179 => ?_)
                                              · exfalso; omega
                                              · refine zw_bd (zw_eq (zu_call_at (zt_T n) (zm_85 n) (zdp_85 n) _ _ _ _ _ rfl (zr_85_0 n _ _ a0 2 m163)) ?_)
                                                generalize hmm180 : zu_up m163 a0 4 2 = m180
                                                have hIm180 := zi_up hmm180 hIm163 hc0 zb_28_4 (by omega) (by omega)
                                                have hFm180 := zfr_up hmm180 hFm163 hc0 rfl
                                                have hRC0m180 := zR_C0_fr (zdis_fr (zfr_up hmm180 (zfr_rf [(28, 5)] _) hc0 rfl) rfl) hRC0m163
                                                have hRCRm180 := zR_CR_fr (zdis_fr (zfr_up hmm180 (zfr_rf [(28, 5)] _) hc0 rfl) rfl) hRCRm163
                                                have hRNSm180 := zR_NS_fr (zdis_fr (zfr_up hmm180 (zfr_rf [(28, 5)] _) hc0 rfl) rfl) hRNSm163
                                                have hRTRm180 := zR_TR_fr (zdis_fr (zfr_up hmm180 (zfr_rf [(28, 5)] _) hc0 rfl) rfl) hRTRm163
                                                have hRWDm180 := zR_WD_fr (zdis_fr (zfr_up hmm180 (zfr_rf [(28, 5)] _) hc0 rfl) rfl) hRWDm163
                                                have hRLRm180 := zLR_wr (zone_190 hc0) hmm180 (by decide)
                                                have r181 : 0 ≤ (m180 a0 10) ∧ (m180 a0 10) ≤ 700 := zi_rd hIm180 hc0 zb_28_10
                                                generalize hmm182 : zu_up m180 a0 5 (m180 a0 10) = m182
                                                have hIm182 := zi_up hmm182 hIm180 hc0 zb_28_5 (by omega) (by omega)
                                                have hFm182 := zfr_up hmm182 hFm180 hc0 rfl
                                                have hRC0m182 := zR_C0_fr (zdis_fr (zfr_up hmm182 (zfr_rf [(28, 6)] _) hc0 rfl) rfl) hRC0m180
                                                have hRCRm182 := zR_CR_fr (zdis_fr (zfr_up hmm182 (zfr_rf [(28, 6)] _) hc0 rfl) rfl) hRCRm180
                                                have hRLRm182 := zR_LR_fr (zdis_fr (zfr_up hmm182 (zfr_rf [(28, 6)] _) hc0 rfl) rfl) hRLRm180
                                                have hRNSm182 := zR_NS_fr (zdis_fr (zfr_up hmm182 (zfr_rf [(28, 6)] _) hc0 rfl) rfl) hRNSm180
                                                have hRTRm182 := zR_TR_fr (zdis_fr (zfr_up hmm182 (zfr_rf [(28, 6)] _) hc0 rfl) rfl) hRTRm180
                                                have hRWDm182 := zR_WD_fr (zdis_fr (zfr_up hmm182 (zfr_rf [(28, 6)] _) hc0 rfl) rfl) hRWDm180
                                                refine zw_b (by omega) ?_
                                                refine zw_some ?_
                                                refine zw_b (by omega) ?_
                                                refine zw_some ?_
                                                refine zw_ite (fun h183 => ?_) (fun h183 => ?_)
                                                · exfalso; omega
                                                · refine zw_b (by omega) ?_
                                                  have r184 : 0 ≤ (m182 a0 7) ∧ (m182 a0 7) ≤ 700 := zi_rd hIm182 hc0 zb_28_7
                                                  have r185 : 0 ≤ (m182 a0 8) ∧ (m182 a0 8) ≤ 6 := zi_rd hIm182 hc0 zb_28_8
                                                  have e186 : (m182 a0 8) = (m163 a0 8) := (Eq.trans (zs_ne hmm182 (Or.inr (by decide))) (zs_ne hmm180 (Or.inr (by decide))))
                                                  have r187 : (-2147483648) ≤ (m182 a0 4) ∧ (m182 a0 4) ≤ 2147483647 := zi_rd hIm182 hc0 zb_28_4
                                                  have e188 : (m182 a0 4) = 2 := (Eq.trans (zs_ne hmm182 (Or.inr (by decide))) (zs_eq hmm180))
                                                  exact zw_some ⟨hIm182, hFm182, hRC0m182, hRCRm182, hRLRm182, hRNSm182, hRTRm182, hRWDm182, ⟨by omega, by omega⟩, by omega, by omega, by omega⟩
                                            · refine zw_b (by omega) ?_
                                              refine zw_some ?_
                                              refine zw_ite (fun h189 => ?_) (fun h189 => ?_)
                                              · generalize hmm190 : zu_up m163 a0 11 (m163 a0 9) = m190
                                                have hIm190 := zi_up hmm190 hIm163 hc0 zb_28_11 (by omega) (by omega)
                                                have hFm190 := zfr_up hmm190 hFm163 hc0 rfl
                                                have hRC0m190 := zR_C0_fr (zdis_fr (zfr_up hmm190 (zfr_rf [(28, 12)] _) hc0 rfl) rfl) hRC0m163
                                                have hRCRm190 := zR_CR_fr (zdis_fr (zfr_up hmm190 (zfr_rf [(28, 12)] _) hc0 rfl) rfl) hRCRm163
                                                have hRLRm190 := zR_LR_fr (zdis_fr (zfr_up hmm190 (zfr_rf [(28, 12)] _) hc0 rfl) rfl) hRLRm163
                                                have hRNSm190 := zR_NS_fr (zdis_fr (zfr_up hmm190 (zfr_rf [(28, 12)] _) hc0 rfl) rfl) hRNSm163
                                                have hRTRm190 := zR_TR_fr (zdis_fr (zfr_up hmm190 (zfr_rf [(28, 12)] _) hc0 rfl) rfl) hRTRm163
                                                have hRWDm190 := zR_WD_fr (zdis_fr (zfr_up hmm190 (zfr_rf [(28, 12)] _) hc0 rfl) rfl) hRWDm163
                                                refine zw_bd (zw_mono (zk_89 n hIm190 hc0 hRNSm190 hRWDm190) (fun v192 m191 hqm191 => ?_))
                                                obtain ⟨hIm191, hfm191, hvm191⟩ := hqm191
                                                have hFm191 := zfr_tr hFm190 hfm191 rfl
                                                obtain ⟨hRNSm191, hRTRm191, hRWDm191, hvm191⟩ := hvm191
                                                have hRC0m191 := zR_C0_fr (zdis_fr hfm191 rfl) hRC0m190
                                                have hRCRm191 := zR_CR_fr (zdis_fr hfm191 rfl) hRCRm190
                                                have hRLRm191 := zR_LR_fr (zdis_fr hfm191 rfl) hRLRm190
                                                have s193 := hRNSm191 a0 hc0
                                                have s194 := hRTRm191 a0 hc0
                                                refine zw_b (by omega) ?_
                                                refine zw_some ?_
                                                refine zw_ite (fun h195 => ?_) (fun h195 => ?_)
                                                · have r196 : (-2147483648) ≤ (m191 a0 11) ∧ (m191 a0 11) ≤ 2147483647 := zi_rd hIm191 hc0 zb_28_11
                                                  have e197 : (m191 a0 11) = (m163 a0 9) := (Eq.trans (zfr_ap hfm191 hc0 rfl) (zs_eq hmm190))
                                                  have b198 : 0 ≤ (zu_w32 (4 + (m16 a0 20))) ∧ (zu_w32 (4 + (m16 a0 20))) < 8 := by omega
                                                  refine zw_if b198 ?_
                                                  generalize hmm199 : zu_up m191 203 (zu_w32 (4 + (m16 a0 20))) (m191 a0 11) = m199
                                                  have hIm199 := zi_up hmm199 hIm191 zq_203 (zb_112 _) (by omega) (by omega)
                                                  have hFm199 := zfr_up hmm199 hFm191 zq_203 rfl
                                                  have hRC0m199 := zR_C0_fr (zdis_fr (zfr_up hmm199 (zfr_rf [(112, 0)] _) zq_203 rfl) rfl) hRC0m191
                                                  have hRCRm199 := zR_CR_fr (zdis_fr (zfr_up hmm199 (zfr_rf [(112, 0)] _) zq_203 rfl) rfl) hRCRm191
                                                  have hRLRm199 := zR_LR_fr (zdis_fr (zfr_up hmm199 (zfr_rf [(112, 0)] _) zq_203 rfl) rfl) hRLRm191
                                                  have hRNSm199 := zR_NS_fr (zdis_fr (zfr_up hmm199 (zfr_rf [(112, 0)] _) zq_203 rfl) rfl) hRNSm191
                                                  have hRTRm199 := zR_TR_fr (zdis_fr (zfr_up hmm199 (zfr_rf [(112, 0)] _) zq_203 rfl) rfl) hRTRm191
                                                  have hRWDm199 := zR_WD_fr (zdis_fr (zfr_up hmm199 (zfr_rf [(112, 0)] _) zq_203 rfl) rfl) hRWDm191
                                                  refine zw_bd (zw_eq (zu_call_at (zt_T n) (zm_94 n) (zdp_94 n) _ _ _ _ _ rfl (zr_94_0 n _ _ a0 0 99 m199)) ?_)
                                                  have r200 : 0 ≤ (m199 a0 8) ∧ (m199 a0 8) ≤ 6 := zi_rd hIm199 hc0 zb_28_8
                                                  refine zw_ite (fun h201 => ?_) (fun h201 => ?_)
                                                  · have r202 : (-2147483648) ≤ (m199 a0 9) ∧ (m199 a0 9) ≤ 2147483647 := zi_rd hIm199 hc0 zb_28_9
                                                    refine zw_bd (zw_eq (zu_call_at (zt_T n) (zm_83 n) (zdp_83 n) _ _ _ _ _ rfl (zr_83_0 n _ _ (m199 a0 9) 0 99 m199)) ?_)
                                                    refine zw_ite (fun h203 => ?_) (fun h203 => ?_)
                                                    · refine zw_b (by omega) ?_
                                                      refine zw_some ?_
                                                      refine zw_ite (fun h204 => ?_) (fun h204 => ?_)
                                                      · exfalso; omega
                                                      · refine zw_bd (zw_eq (zu_call_at (zt_T n) (zm_85 n) (zdp_85 n) _ _ _ _ _ rfl (zr_85_0 n _ _ a0 2 m199)) ?_)
                                                        generalize hmm205 : zu_up m199 a0 4 2 = m205
                                                        have hIm205 := zi_up hmm205 hIm199 hc0 zb_28_4 (by omega) (by omega)
                                                        have hFm205 := zfr_up hmm205 hFm199 hc0 rfl
                                                        have hRC0m205 := zR_C0_fr (zdis_fr (zfr_up hmm205 (zfr_rf [(28, 5)] _) hc0 rfl) rfl) hRC0m199
                                                        have hRCRm205 := zR_CR_fr (zdis_fr (zfr_up hmm205 (zfr_rf [(28, 5)] _) hc0 rfl) rfl) hRCRm199
                                                        have hRNSm205 := zR_NS_fr (zdis_fr (zfr_up hmm205 (zfr_rf [(28, 5)] _) hc0 rfl) rfl) hRNSm199
                                                        have hRTRm205 := zR_TR_fr (zdis_fr (zfr_up hmm205 (zfr_rf [(28, 5)] _) hc0 rfl) rfl) hRTRm199
                                                        have hRWDm205 := zR_WD_fr (zdis_fr (zfr_up hmm205 (zfr_rf [(28, 5)] _) hc0 rfl) rfl) hRWDm199
                                                        have hRLRm205 := zLR_wr (zone_190 hc0) hmm205 (by decide)
                                                        have r206 : 0 ≤ (m205 a0 10) ∧ (m205 a0 10) ≤ 700 := zi_rd hIm205 hc0 zb_28_10
                                                        generalize hmm207 : zu_up m205 a0 5 (m205 a0 10) = m207
                                                        have hIm207 := zi_up hmm207 hIm205 hc0 zb_28_5 (by omega) (by omega)
                                                        have hFm207 := zfr_up hmm207 hFm205 hc0 rfl
                                                        have hRC0m207 := zR_C0_fr (zdis_fr (zfr_up hmm207 (zfr_rf [(28, 6)] _) hc0 rfl) rfl) hRC0m205
                                                        have hRCRm207 := zR_CR_fr (zdis_fr (zfr_up hmm207 (zfr_rf [(28, 6)] _) hc0 rfl) rfl) hRCRm205
                                                        have hRLRm207 := zR_LR_fr (zdis_fr (zfr_up hmm207 (zfr_rf [(28, 6)] _) hc0 rfl) rfl) hRLRm205
                                                        have hRNSm207 := zR_NS_fr (zdis_fr (zfr_up hmm207 (zfr_rf [(28, 6)] _) hc0 rfl) rfl) hRNSm205
                                                        have hRTRm207 := zR_TR_fr (zdis_fr (zfr_up hmm207 (zfr_rf [(28, 6)] _) hc0 rfl) rfl) hRTRm205
                                                        have hRWDm207 := zR_WD_fr (zdis_fr (zfr_up hmm207 (zfr_rf [(28, 6)] _) hc0 rfl) rfl) hRWDm205
                                                        refine zw_b (by omega) ?_
                                                        refine zw_some ?_
                                                        refine zw_b (by omega) ?_
                                                        refine zw_some ?_
                                                        refine zw_ite (fun h208 => ?_) (fun h208 => ?_)
                                                        · exfalso; omega
                                                        · refine zw_b (by omega) ?_
                                                          have r209 : 0 ≤ (m207 a0 7) ∧ (m207 a0 7) ≤ 700 := zi_rd hIm207 hc0 zb_28_7
                                                          have r210 : 0 ≤ (m207 a0 8) ∧ (m207 a0 8) ≤ 6 := zi_rd hIm207 hc0 zb_28_8
                                                          have e211 : (m207 a0 8) = (m199 a0 8) := (Eq.trans (zs_ne hmm207 (Or.inr (by decide))) (zs_ne hmm205 (Or.inr (by decide))))
                                                          have r212 : (-2147483648) ≤ (m207 a0 4) ∧ (m207 a0 4) ≤ 2147483647 := zi_rd hIm207 hc0 zb_28_4
                                                          have e213 : (m207 a0 4) = 2 := (Eq.trans (zs_ne hmm207 (Or.inr (by decide))) (zs_eq hmm205))
                                                          exact zw_some ⟨hIm207, hFm207, hRC0m207, hRCRm207, hRLRm207, hRNSm207, hRTRm207, hRWDm207, ⟨by omega, by omega⟩, by omega, by omega, by omega⟩
                                                    · refine zw_ite (fun h214 => ?_) (fun h214 => ?_)
                                                      · refine zw_b (by omega) ?_
                                                        refine zw_some ?_
                                                        refine zw_ite (fun h215 => ?_) (fun h215 => ?_)
                                                        · exfalso; omega
                                                        · refine zw_bd (zw_eq (zu_call_at (zt_T n) (zm_85 n) (zdp_85 n) _ _ _ _ _ rfl (zr_85_0 n _ _ a0 2 m199)) ?_)
                                                          generalize hmm216 : zu_up m199 a0 4 2 = m216
                                                          have hIm216 := zi_up hmm216 hIm199 hc0 zb_28_4 (by omega) (by omega)
                                                          have hFm216 := zfr_up hmm216 hFm199 hc0 rfl
                                                          have hRC0m216 := zR_C0_fr (zdis_fr (zfr_up hmm216 (zfr_rf [(28, 5)] _) hc0 rfl) rfl) hRC0m199
                                                          have hRCRm216 := zR_CR_fr (zdis_fr (zfr_up hmm216 (zfr_rf [(28, 5)] _) hc0 rfl) rfl) hRCRm199
                                                          have hRNSm216 := zR_NS_fr (zdis_fr (zfr_up hmm216 (zfr_rf [(28, 5)] _) hc0 rfl) rfl) hRNSm199
                                                          have hRTRm216 := zR_TR_fr (zdis_fr (zfr_up hmm216 (zfr_rf [(28, 5)] _) hc0 rfl) rfl) hRTRm199
                                                          have hRWDm216 := zR_WD_fr (zdis_fr (zfr_up hmm216 (zfr_rf [(28, 5)] _) hc0 rfl) rfl) hRWDm199
                                                          have hRLRm216 := zLR_wr (zone_190 hc0) hmm216 (by decide)
                                                          have r217 : 0 ≤ (m216 a0 10) ∧ (m216 a0 10) ≤ 700 := zi_rd hIm216 hc0 zb_28_10
                                                          generalize hmm218 : zu_up m216 a0 5 (m216 a0 10) = m218
                                                          have hIm218 := zi_up hmm218 hIm216 hc0 zb_28_5 (by omega) (by omega)
                                                          have hFm218 := zfr_up hmm218 hFm216 hc0 rfl
                                                          have hRC0m218 := zR_C0_fr (zdis_fr (zfr_up hmm218 (zfr_rf [(28, 6)] _) hc0 rfl) rfl) hRC0m216
                                                          have hRCRm218 := zR_CR_fr (zdis_fr (zfr_up hmm218 (zfr_rf [(28, 6)] _) hc0 rfl) rfl) hRCRm216
                                                          have hRLRm218 := zR_LR_fr (zdis_fr (zfr_up hmm218 (zfr_rf [(28, 6)] _) hc0 rfl) rfl) hRLRm216
                                                          have hRNSm218 := zR_NS_fr (zdis_fr (zfr_up hmm218 (zfr_rf [(28, 6)] _) hc0 rfl) rfl) hRNSm216
                                                          have hRTRm218 := zR_TR_fr (zdis_fr (zfr_up hmm218 (zfr_rf [(28, 6)] _) hc0 rfl) rfl) hRTRm216
                                                          have hRWDm218 := zR_WD_fr (zdis_fr (zfr_up hmm218 (zfr_rf [(28, 6)] _) hc0 rfl) rfl) hRWDm216
                                                          refine zw_b (by omega) ?_
                                                          refine zw_some ?_
                                                          refine zw_b (by omega) ?_
                                                          refine zw_some ?_
                                                          refine zw_ite (fun h219 => ?_) (fun h219 => ?_)
                                                          · exfalso; omega
                                                          · refine zw_b (by omega) ?_
                                                            have r220 : 0 ≤ (m218 a0 7) ∧ (m218 a0 7) ≤ 700 := zi_rd hIm218 hc0 zb_28_7
                                                            have r221 : 0 ≤ (m218 a0 8) ∧ (m218 a0 8) ≤ 6 := zi_rd hIm218 hc0 zb_28_8
                                                            have e222 : (m218 a0 8) = (m199 a0 8) := (Eq.trans (zs_ne hmm218 (Or.inr (by decide))) (zs_ne hmm216 (Or.inr (by decide))))
                                                            have r223 : (-2147483648) ≤ (m218 a0 4) ∧ (m218 a0 4) ≤ 2147483647 := zi_rd hIm218 hc0 zb_28_4
                                                            have e224 : (m218 a0 4) = 2 := (Eq.trans (zs_ne hmm218 (Or.inr (by decide))) (zs_eq hmm216))
                                                            exact zw_some ⟨hIm218, hFm218, hRC0m218, hRCRm218, hRLRm218, hRNSm218, hRTRm218, hRWDm218, ⟨by omega, by omega⟩, by omega, by omega, by omega⟩
                                                      · refine zw_b (by omega) ?_
                                                        refine zw_some ?_
                                                        refine zw_ite (fun h225 => ?_) (fun h225 => ?_)
                                                        · generalize hmm226 : zu_up m199 a0 11 (m199 a0 9) = m226
                                                          have hIm226 := zi_up hmm226 hIm199 hc0 zb_28_11 (by omega) (by omega)
                                                          have hFm226 := zfr_up hmm226 hFm199 hc0 rfl
                                                          have hRC0m226 := zR_C0_fr (zdis_fr (zfr_up hmm226 (zfr_rf [(28, 12)] _) hc0 rfl) rfl) hRC0m199
                                                          have hRCRm226 := zR_CR_fr (zdis_fr (zfr_up hmm226 (zfr_rf [(28, 12)] _) hc0 rfl) rfl) hRCRm199
                                                          have hRLRm226 := zR_LR_fr (zdis_fr (zfr_up hmm226 (zfr_rf [(28, 12)] _) hc0 rfl) rfl) hRLRm199
                                                          have hRNSm226 := zR_NS_fr (zdis_fr (zfr_up hmm226 (zfr_rf [(28, 12)] _) hc0 rfl) rfl) hRNSm199
                                                          have hRTRm226 := zR_TR_fr (zdis_fr (zfr_up hmm226 (zfr_rf [(28, 12)] _) hc0 rfl) rfl) hRTRm199
                                                          have hRWDm226 := zR_WD_fr (zdis_fr (zfr_up hmm226 (zfr_rf [(28, 12)] _) hc0 rfl) rfl) hRWDm199
                                                          refine zw_bd (zw_mono (zk_89 n hIm226 hc0 hRNSm226 hRWDm226) (fun v228 m227 hqm227 => ?_))
                                                          obtain ⟨hIm227, hfm227, hvm227⟩ := hqm227
                                                          have hFm227 := zfr_tr hFm226 hfm227 rfl
                                                          obtain ⟨hRNSm227, hRTRm227, hRWDm227, hvm227⟩ := hvm227
                                                          have hRC0m227 := zR_C0_fr (zdis_fr hfm227 rfl) hRC0m226
                                                          have hRCRm227 := zR_CR_fr (zdis_fr hfm227 rfl) hRCRm226
                                                          have hRLRm227 := zR_LR_fr (zdis_fr hfm227 rfl) hRLRm226
                                                          have s229 := hRNSm227 a0 hc0
                                                          have s230 := hRTRm227 a0 hc0
                                                          refine zw_b (by omega) ?_
                                                          refine zw_some ?_
                                                          refine zw_ite (fun h231 => ?_) (fun h231 => ?_)
                                                          · have r232 : (-2147483648) ≤ (m227 a0 11) ∧ (m227 a0 11) ≤ 2147483647 := zi_rd hIm227 hc0 zb_28_11
                                                            have e233 : (m227 a0 11) = (m199 a0 9) := (Eq.trans (zfr_ap hfm227 hc0 rfl) (zs_eq hmm226))
                                                            have b234 : 0 ≤ (zu_w32 (4 + (m16 a0 20))) ∧ (zu_w32 (4 + (m16 a0 20))) < 8 := by omega
                                                            refine zw_if b234 ?_
                                                            generalize hmm235 : zu_up m227 204 (zu_w32 (4 + (m16 a0 20))) (m227 a0 11) = m235
                                                            have hIm235 := zi_up hmm235 hIm227 zq_204 (zb_113 _) (by omega) (by omega)
                                                            have hFm235 := zfr_up hmm235 hFm227 zq_204 rfl
                                                            have hRC0m235 := zR_C0_fr (zdis_fr (zfr_up hmm235 (zfr_rf [(113, 0)] _) zq_204 rfl) rfl) hRC0m227
                                                            have hRCRm235 := zR_CR_fr (zdis_fr (zfr_up hmm235 (zfr_rf [(113, 0)] _) zq_204 rfl) rfl) hRCRm227
                                                            have hRLRm235 := zR_LR_fr (zdis_fr (zfr_up hmm235 (zfr_rf [(113, 0)] _) zq_204 rfl) rfl) hRLRm227
                                                            have hRNSm235 := zR_NS_fr (zdis_fr (zfr_up hmm235 (zfr_rf [(113, 0)] _) zq_204 rfl) rfl) hRNSm227
                                                            have hRTRm235 := zR_TR_fr (zdis_fr (zfr_up hmm235 (zfr_rf [(113, 0)] _) zq_204 rfl) rfl) hRTRm227
                                                            have hRWDm235 := zR_WD_fr (zdis_fr (zfr_up hmm235 (zfr_rf [(113, 0)] _) zq_204 rfl) rfl) hRWDm227
                                                            have r236 : 0 ≤ (m235 a0 20) ∧ (m235 a0 20) ≤ 4 := zi_rd hIm235 hc0 zb_28_20
                                                            have e237 : (m235 a0 20) = (m120 a0 20) := (Eq.trans (zs_ne hmm235 (Or.inl (zc_ne hc0 zq_204 (by decide)))) (Eq.trans (zfr_ap hfm227 hc0 rfl) (Eq.trans (zs_ne hmm226 (Or.inr (by decide))) (Eq.trans (zs_ne hmm199 (Or.inl (zc_ne hc0 zq_203 (by decide)))) (Eq.trans (zfr_ap hfm191 hc0 rfl) (Eq.trans (zs_ne hmm190 (Or.inr (by decide))) (Eq.trans (zs_ne hmm163 (Or.inl (zc_ne hc0 zq_202 (by decide)))) (Eq.trans (zfr_ap hfm155 hc0 rfl) (Eq.trans (zs_ne hmm154 (Or.inr (by decide))) (zs_ne hmm125 (Or.inl (zc_ne hc0 zq_201 (by decide)))))))))))))
                                                            have w238 := zu_w32_id (z := (m235 a0 20) + 1) (by omega) (by omega)
                                                            generalize hmm239 : zu_up m235 a0 20 (zu_w32 ((m235 a0 20) + 1)) = m239
                                                            have hIm239 := zi_up hmm239 hIm235 hc0 zb_28_20 (by omega) (by omega)
                                                            have hFm239 := zfr_up hmm239 hFm235 hc0 rfl
                                                            have hRC0m239 := zR_C0_fr (zdis_fr (zfr_up hmm239 (zfr_rf [(28, 21)] _) hc0 rfl) rfl) hRC0m235
                                                            have hRLRm239 := zR_LR_fr (zdis_fr (zfr_up hmm239 (zfr_rf [(28, 21)] _) hc0 rfl) rfl) hRLRm235
                                                            have hRNSm239 := zR_NS_fr (zdis_fr (zfr_up hmm239 (zfr_rf [(28, 21)] _) hc0 rfl) rfl) hRNSm235
                                                            have hRTRm239 := zR_TR_fr (zdis_fr (zfr_up hmm239 (zfr_rf [(28, 21)] _) hc0 rfl) rfl) hRTRm235
                                                            have hRWDm239 := zR_WD_fr (zdis_fr (zfr_up hmm239 (zfr_rf [(28, 21)] _) hc0 rfl) rfl) hRWDm235
                                                            have r240 : 0 ≤ (m235 201 (zu_w32 (4 + (m16 a0 20)))) ∧ (m235 201 (zu_w32 (4 + (m16 a0 20)))) ≤ 47 := zi_rd hIm235 zq_201 (zb_110 _)
                                                            have e241 : (m235 201 (zu_w32 (4 + (m16 a0 20)))) = (m120 a0 11) := (Eq.trans (zs_ne hmm235 (Or.inl (zc_ne zq_201 zq_204 (by decide)))) (Eq.trans (zfr_ap hfm227 zq_201 rfl) (Eq.trans (zs_ne hmm226 (Or.inl (zc_ne zq_201 hc0 (by decide)))) (Eq.trans (zs_ne hmm199 (Or.inl (zc_ne zq_201 zq_203 (by decide)))) (Eq.trans (zfr_ap hfm191 zq_201 rfl) (Eq.trans (zs_ne hmm190 (Or.inl (zc_ne zq_201 hc0 (by decide)))) (Eq.trans (zs_ne hmm163 (Or.inl (zc_ne zq_201 zq_202 (by decide)))) (Eq.trans (zfr_ap hfm155 zq_201 rfl) (Eq.trans (zs_ne hmm154 (Or.inl (zc_ne zq_201 hc0 (by decide)))) (zs_eq hmm125))))))))))
                                                            have r242 : 0 ≤ (m235 a0 23) ∧ (m235 a0 23) ≤ 1 := zi_rd hIm235 hc0 zb_28_23
                                                            have e243 : (m235 a0 23) = 1 := (Eq.trans (zs_ne hmm235 (Or.inl (zc_ne hc0 zq_204 (by decide)))) (Eq.trans (zfr_ap hfm227 hc0 rfl) (Eq.trans (zs_ne hmm226 (Or.inr (by decide))) (Eq.trans (zs_ne hmm199 (Or.inl (zc_ne hc0 zq_203 (by decide)))) (Eq.trans (zfr_ap hfm191 hc0 rfl) (Eq.trans (zs_ne hmm190 (Or.inr (by decide))) (Eq.trans (zs_ne hmm163 (Or.inl (zc_ne hc0 zq_202 (by decide)))) (Eq.trans (zfr_ap hfm155 hc0 rfl) (Eq.trans (zs_ne hmm154 (Or.inr (by decide))) (Eq.trans (zs_ne hmm125 (Or.inl (zc_ne hc0 zq_201 (by decide)))) (Eq.trans (zs_ne hmm120 (Or.inr (by decide))) (Eq.trans (zfr_ap hfm106 hc0 rfl) (Eq.trans (zs_ne hmm105 (Or.inr (by decide))) (Eq.trans (zs_ne hmm72 (Or.inr (by decide))) (Eq.trans (zfr_ap hfm64 hc0 rfl) (Eq.trans (zs_ne hmm63 (Or.inr (by decide))) (zs_eq hmm32)))))))))))))))))
                                                            have hRCRm239 := zCR_inc (p := (zu_w32 (4 + (m16 a0 20)))) (zone_190 hc0) hmm239 (by omega) (by omega) (by omega) (zlt_pr (by omega) hgl (zprod2 (Eq.trans (zs_ne hmm235 (Or.inl (zc_ne hc0 zq_204 (by decide)))) (Eq.trans (zfr_ap hfm227 hc0 rfl) (Eq.trans (zs_ne hmm226 (Or.inr (by decide))) (Eq.trans (zs_ne hmm199 (Or.inl (zc_ne hc0 zq_203 (by decide)))) (Eq.trans (zfr_ap hfm191 hc0 rfl) (Eq.trans (zs_ne hmm190 (Or.inr (by decide))) (Eq.trans (zs_ne hmm163 (Or.inl (zc_ne hc0 zq_202 (by decide)))) (Eq.trans (zfr_ap hfm155 hc0 rfl) (Eq.trans (zs_ne hmm154 (Or.inr (by decide))) (Eq.trans (zs_ne hmm125 (Or.inl (zc_ne hc0 zq_201 (by decide)))) (zs_ne hmm120 (Or.inr (by decide))))))))))))) (Eq.trans (zs_ne hmm235 (Or.inl (zc_ne hc0 zq_204 (by decide)))) (Eq.trans (zfr_ap hfm227 hc0 rfl) (Eq.trans (zs_ne hmm226 (Or.inr (by decide))) (Eq.trans (zs_ne hmm199 (Or.inl (zc_ne hc0 zq_203 (by decide)))) (Eq.trans (zfr_ap hfm191 hc0 rfl) (Eq.trans (zs_ne hmm190 (Or.inr (by decide))) (Eq.trans (zs_ne hmm163 (Or.inl (zc_ne hc0 zq_202 (by decide)))) (Eq.trans (zfr_ap hfm155 hc0 rfl) (Eq.trans (zs_ne hmm154 (Or.inr (by decide))) (Eq.trans (zs_ne hmm125 (Or.inl (zc_ne hc0 zq_201 (by decide)))) (zs_ne hmm120 (Or.inr (by decide))))))))))))))) hRCRm235
                                                            refine zw_b (by omega) ?_
                                                            have r244 : 0 ≤ (m239 a0 7) ∧ (m239 a0 7) ≤ 700 := zi_rd hIm239 hc0 zb_28_7
                                                            have r245 : 0 ≤ (m239 a0 8) ∧ (m239 a0 8) ≤ 6 := zi_rd hIm239 hc0 zb_28_8
                                                            have r246 : (-2147483648) ≤ (m239 a0 4) ∧ (m239 a0 4) ≤ 2147483647 := zi_rd hIm239 hc0 zb_28_4
                                                            have e247 : (m239 a0 4) = (m0 a0 4) := (Eq.trans (zs_ne hmm239 (Or.inr (by decide))) (Eq.trans (zs_ne hmm235 (Or.inl (zc_ne hc0 zq_204 (by decide)))) (Eq.trans (zfr_ap hfm227 hc0 rfl) (Eq.trans (zs_ne hmm226 (Or.inr (by decide))) (Eq.trans (zs_ne hmm199 (Or.inl (zc_ne hc0 zq_203 (by decide)))) (Eq.trans (zfr_ap hfm191 hc0 rfl) (Eq.trans (zs_ne hmm190 (Or.inr (by decide))) (Eq.trans (zs_ne hmm163 (Or.inl (zc_ne hc0 zq_202 (by decide)))) (Eq.trans (zfr_ap hfm155 hc0 rfl) (Eq.trans (zs_ne hmm154 (Or.inr (by decide))) (Eq.trans (zs_ne hmm125 (Or.inl (zc_ne hc0 zq_201 (by decide)))) (Eq.trans (zs_ne hmm120 (Or.inr (by decide))) (Eq.trans (zfr_ap hfm106 hc0 rfl) (Eq.trans (zs_ne hmm105 (Or.inr (by decide))) (Eq.trans (zs_ne hmm72 (Or.inr (by decide))) (Eq.trans (zfr_ap hfm64 hc0 rfl) (Eq.trans (zs_ne hmm63 (Or.inr (by decide))) (Eq.trans (zs_ne hmm32 (Or.inr (by decide))) (Eq.trans (zfr_ap hfm28 hc0 rfl) (Eq.trans (zs_ne hmm27 (Or.inl (zc_ne hc0 zq_200 (by decide)))) (Eq.trans (zfr_ap hfm16 hc0 rfl) (zfr_ap hfm7 hc0 rfl))))))))))))))))))))))
                                                            exact zw_some ⟨hIm239, hFm239, hRC0m239, hRCRm239, hRLRm239, hRNSm239, hRTRm239, hRWDm239, ⟨by omega, by omega⟩, by omega, by omega, by omega⟩
                                                          · exfalso; omega
                                                        · exfalso; omega
                                                  · refine zw_bd (zw_eq (zu_call_at (zt_T n) (zm_85 n) (zdp_85 n) _ _ _ _ _ rfl (zr_85_0 n _ _ a0 1 m199)) ?_)
                                                    generalize hmm248 : zu_up m199 a0 4 1 = m248
                                                    have hIm248 := zi_up hmm248 hIm199 hc0 zb_28_4 (by omega) (by omega)
                                                    have hFm248 := zfr_up hmm248 hFm199 hc0 rfl
                                                    have hRC0m248 := zR_C0_fr (zdis_fr (zfr_up hmm248 (zfr_rf [(28, 5)] _) hc0 rfl) rfl) hRC0m199
                                                    have hRCRm248 := zR_CR_fr (zdis_fr (zfr_up hmm248 (zfr_rf [(28, 5)] _) hc0 rfl) rfl) hRCRm199
                                                    have hRNSm248 := zR_NS_fr (zdis_fr (zfr_up hmm248 (zfr_rf [(28, 5)] _) hc0 rfl) rfl) hRNSm199
                                                    have hRTRm248 := zR_TR_fr (zdis_fr (zfr_up hmm248 (zfr_rf [(28, 5)] _) hc0 rfl) rfl) hRTRm199
                                                    have hRWDm248 := zR_WD_fr (zdis_fr (zfr_up hmm248 (zfr_rf [(28, 5)] _) hc0 rfl) rfl) hRWDm199
                                                    have hRLRm248 := zLR_wr (zone_190 hc0) hmm248 (by decide)
                                                    have r249 : 0 ≤ (m248 a0 10) ∧ (m248 a0 10) ≤ 700 := zi_rd hIm248 hc0 zb_28_10
                                                    generalize hmm250 : zu_up m248 a0 5 (m248 a0 10) = m250
                                                    have hIm250 := zi_up hmm250 hIm248 hc0 zb_28_5 (by omega) (by omega)
                                                    have hFm250 := zfr_up hmm250 hFm248 hc0 rfl
                                                    have hRC0m250 := zR_C0_fr (zdis_fr (zfr_up hmm250 (zfr_rf [(28, 6)] _) hc0 rfl) rfl) hRC0m248
                                                    have hRCRm250 := zR_CR_fr (zdis_fr (zfr_up hmm250 (zfr_rf [(28, 6)] _) hc0 rfl) rfl) hRCRm248
                                                    have hRLRm250 := zR_LR_fr (zdis_fr (zfr_up hmm250 (zfr_rf [(28, 6)] _) hc0 rfl) rfl) hRLRm248
                                                    have hRNSm250 := zR_NS_fr (zdis_fr (zfr_up hmm250 (zfr_rf [(28, 6)] _) hc0 rfl) rfl) hRNSm248
                                                    have hRTRm250 := zR_TR_fr (zdis_fr (zfr_up hmm250 (zfr_rf [(28, 6)] _) hc0 rfl) rfl) hRTRm248
                                                    have hRWDm250 := zR_WD_fr (zdis_fr (zfr_up hmm250 (zfr_rf [(28, 6)] _) hc0 rfl) rfl) hRWDm248
                                                    refine zw_b (by omega) ?_
                                                    refine zw_some ?_
                                                    refine zw_b (by omega) ?_
                                                    refine zw_some ?_
                                                    refine zw_ite (fun h251 => ?_) (fun h251 => ?_)
                                                    · exfalso; omega
                                                    · refine zw_b (by omega) ?_
                                                      have r252 : 0 ≤ (m250 a0 7) ∧ (m250 a0 7) ≤ 700 := zi_rd hIm250 hc0 zb_28_7
                                                      have r253 : 0 ≤ (m250 a0 8) ∧ (m250 a0 8) ≤ 6 := zi_rd hIm250 hc0 zb_28_8
                                                      have e254 : (m250 a0 8) = (m199 a0 8) := (Eq.trans (zs_ne hmm250 (Or.inr (by decide))) (zs_ne hmm248 (Or.inr (by decide))))
                                                      have r255 : (-2147483648) ≤ (m250 a0 4) ∧ (m250 a0 4) ≤ 2147483647 := zi_rd hIm250 hc0 zb_28_4
                                                      have e256 : (m250 a0 4) = 1 := (Eq.trans (zs_ne hmm250 (Or.inr (by decide))) (zs_eq hmm248))
                                                      exact zw_some ⟨hIm250, hFm250, hRC0m250, hRCRm250, hRLRm250, hRNSm250, hRTRm250, hRWDm250, ⟨by omega, by omega⟩, by omega, by omega, by omega⟩
                                                · exfalso; omega
                                              · exfalso; omega
                                        · refine zw_bd (zw_eq (zu_call_at (zt_T n) (zm_85 n) (zdp_85 n) _ _ _ _ _ rfl (zr_85_0 n _ _ a0 1 m163)) ?_)
                                          generalize hmm257 : zu_up m163 a0 4 1 = m257
                                          have hIm257 := zi_up hmm257 hIm163 hc0 zb_28_4 (by omega) (by omega)
                                          have hFm257 := zfr_up hmm257 hFm163 hc0 rfl
                                          have hRC0m257 := zR_C0_fr (zdis_fr (zfr_up hmm257 (zfr_rf [(28, 5)] _) hc0 rfl) rfl) hRC0m163
                                          have hRCRm257 := zR_CR_fr (zdis_fr (zfr_up hmm257 (zfr_rf [(28, 5)] _) hc0 rfl) rfl) hRCRm163
                                          have hRNSm257 := zR_NS_fr (zdis_fr (zfr_up hmm257 (zfr_rf [(28, 5)] _) hc0 rfl) rfl) hRNSm163
                                          have hRTRm257 := zR_TR_fr (zdis_fr (zfr_up hmm257 (zfr_rf [(28, 5)] _) hc0 rfl) rfl) hRTRm163
                                          have hRWDm257 := zR_WD_fr (zdis_fr (zfr_up hmm257 (zfr_rf [(28, 5)] _) hc0 rfl) rfl) hRWDm163
                                          have hRLRm257 := zLR_wr (zone_190 hc0) hmm257 (by decide)
                                          have r258 : 0 ≤ (m257 a0 10) ∧ (m257 a0 10) ≤ 700 := zi_rd hIm257 hc0 zb_28_10
                                          generalize hmm259 : zu_up m257 a0 5 (m257 a0 10) = m259
                                          have hIm259 := zi_up hmm259 hIm257 hc0 zb_28_5 (by omega) (by omega)
                                          have hFm259 := zfr_up hmm259 hFm257 hc0 rfl
                                          have hRC0m259 := zR_C0_fr (zdis_fr (zfr_up hmm259 (zfr_rf [(28, 6)] _) hc0 rfl) rfl) hRC0m257
                                          have hRCRm259 := zR_CR_fr (zdis_fr (zfr_up hmm259 (zfr_rf [(28, 6)] _) hc0 rfl) rfl) hRCRm257
                                          have hRLRm259 := zR_LR_fr (zdis_fr (zfr_up hmm259 (zfr_rf [(28, 6)] _) hc0 rfl) rfl) hRLRm257
                                          have hRNSm259 := zR_NS_fr (zdis_fr (zfr_up hmm259 (zfr_rf [(28, 6)] _) hc0 rfl) rfl) hRNSm257
                                          have hRTRm259 := zR_TR_fr (zdis_fr (zfr_up hmm259 (zfr_rf [(28, 6)] _) hc0 rfl) rfl) hRTRm257
                                          have hRWDm259 := zR_WD_fr (zdis_fr (zfr_up hmm259 (zfr_rf [(28, 6)] _) hc0 rfl) rfl) hRWDm257
                                          refine zw_b (by omega) ?_
                                          refine zw_some ?_
                                          refine zw_b (by omega) ?_
                                          refine zw_some ?_
                                          refine zw_ite (fun h260 => ?_) (fun h260 => ?_)
                                          · exfalso; omega
                                          · refine zw_b (by omega) ?_
                                            have r261 : 0 ≤ (m259 a0 7) ∧ (m259 a0 7) ≤ 700 := zi_rd hIm259 hc0 zb_28_7
                                            have r262 : 0 ≤ (m259 a0 8) ∧ (m259 a0 8) ≤ 6 := zi_rd hIm259 hc0 zb_28_8
                                            have e263 : (m259 a0 8) = (m163 a0 8) := (Eq.trans (zs_ne hmm259 (Or.inr (by decide))) (zs_ne hmm257 (Or.inr (by decide))))
                                            have r264 : (-2147483648) ≤ (m259 a0 4) ∧ (m259 a0 4) ≤ 2147483647 := zi_rd hIm259 hc0 zb_28_4
                                            have e265 : (m259 a0 4) = 1 := (Eq.trans (zs_ne hmm259 (Or.inr (by decide))) (zs_eq hmm257))
                                            exact zw_some ⟨hIm259, hFm259, hRC0m259, hRCRm259, hRLRm259, hRNSm259, hRTRm259, hRWDm259, ⟨by omega, by omega⟩, by omega, by omega, by omega⟩
                                      · exfalso; omega
                                    · exfalso; omega
                              · refine zw_bd (zw_eq (zu_call_at (zt_T n) (zm_85 n) (zdp_85 n) _ _ _ _ _ rfl (zr_85_0 n _ _ a0 1 m125)) ?_)
                                generalize hmm266 : zu_up m125 a0 4 1 = m266
                                have hIm266 := zi_up hmm266 hIm125 hc0 zb_28_4 (by omega) (by omega)
                                have hFm266 := zfr_up hmm266 hFm125 hc0 rfl
                                have hRC0m266 := zR_C0_fr (zdis_fr (zfr_up hmm266 (zfr_rf [(28, 5)] _) hc0 rfl) rfl) hRC0m125
                                have hRCRm266 := zR_CR_fr (zdis_fr (zfr_up hmm266 (zfr_rf [(28, 5)] _) hc0 rfl) rfl) hRCRm125
                                have hRNSm266 := zR_NS_fr (zdis_fr (zfr_up hmm266 (zfr_rf [(28, 5)] _) hc0 rfl) rfl) hRNSm125
                                have hRTRm266 := zR_TR_fr (zdis_fr (zfr_up hmm266 (zfr_rf [(28, 5)] _) hc0 rfl) rfl) hRTRm125
                                have hRWDm266 := zR_WD_fr (zdis_fr (zfr_up hmm266 (zfr_rf [(28, 5)] _) hc0 rfl) rfl) hRWDm125
                                have hRLRm266 := zLR_wr (zone_190 hc0) hmm266 (by decide)
                                have r267 : 0 ≤ (m266 a0 10) ∧ (m266 a0 10) ≤ 700 := zi_rd hIm266 hc0 zb_28_10
                                generalize hmm268 : zu_up m266 a0 5 (m266 a0 10) = m268
                                have hIm268 := zi_up hmm268 hIm266 hc0 zb_28_5 (by omega) (by omega)
                                have hFm268 := zfr_up hmm268 hFm266 hc0 rfl
                                have hRC0m268 := zR_C0_fr (zdis_fr (zfr_up hmm268 (zfr_rf [(28, 6)] _) hc0 rfl) rfl) hRC0m266
                                have hRCRm268 := zR_CR_fr (zdis_fr (zfr_up hmm268 (zfr_rf [(28, 6)] _) hc0 rfl) rfl) hRCRm266
                                have hRLRm268 := zR_LR_fr (zdis_fr (zfr_up hmm268 (zfr_rf [(28, 6)] _) hc0 rfl) rfl) hRLRm266
                                have hRNSm268 := zR_NS_fr (zdis_fr (zfr_up hmm268 (zfr_rf [(28, 6)] _) hc0 rfl) rfl) hRNSm266
                                have hRTRm268 := zR_TR_fr (zdis_fr (zfr_up hmm268 (zfr_rf [(28, 6)] _) hc0 rfl) rfl) hRTRm266
                                have hRWDm268 := zR_WD_fr (zdis_fr (zfr_up hmm268 (zfr_rf [(28, 6)] _) hc0 rfl) rfl) hRWDm266
                                refine zw_b (by omega) ?_
                                refine zw_some ?_
                                refine zw_b (by omega) ?_
                                refine zw_some ?_
                                refine zw_ite (fun h269 => ?_) (fun h269 => ?_)
                                · exfalso; omega
                                · refine zw_b (by omega) ?_
                                  have r270 : 0 ≤ (m268 a0 7) ∧ (m268 a0 7) ≤ 700 := zi_rd hIm268 hc0 zb_28_7
                                  have r271 : 0 ≤ (m268 a0 8) ∧ (m268 a0 8) ≤ 6 := zi_rd hIm268 hc0 zb_28_8
                                  have e272 : (m268 a0 8) = (m125 a0 8) := (Eq.trans (zs_ne hmm268 (Or.inr (by decide))) (zs_ne hmm266 (Or.inr (by decide))))
                                  have r273 : (-2147483648) ≤ (m268 a0 4) ∧ (m268 a0 4) ≤ 2147483647 := zi_rd hIm268 hc0 zb_28_4
                                  have e274 : (m268 a0 4) = 1 := (Eq.trans (zs_ne hmm268 (Or.inr (by decide))) (zs_eq hmm266))
                                  exact zw_some ⟨hIm268, hFm268, hRC0m268, hRCRm268, hRLRm268, hRNSm268, hRTRm268, hRWDm268, ⟨by omega, by omega⟩, by omega, by omega, by omega⟩
                            · exfalso; omega
                          · exfalso; omega
                        · exfalso; omega
                  · refine zw_bd (zw_eq (zu_call_at (zt_T n) (zm_85 n) (zdp_85 n) _ _ _ _ _ rfl (zr_85_0 n _ _ a0 1 m72)) ?_)
                    generalize hmm275 : zu_up m72 a0 4 1 = m275
                    have hIm275 := zi_up hmm275 hIm72 hc0 zb_28_4 (by omega) (by omega)
                    have hFm275 := zfr_up hmm275 hFm72 hc0 rfl
                    have hRC0m275 := zR_C0_fr (zdis_fr (zfr_up hmm275 (zfr_rf [(28, 5)] _) hc0 rfl) rfl) hRC0m72
                    have hRCRm275 := zR_CR_fr (zdis_fr (zfr_up hmm275 (zfr_rf [(28, 5)] _) hc0 rfl) rfl) hRCRm72
                    have hRNSm275 := zR_NS_fr (zdis_fr (zfr_up hmm275 (zfr_rf [(28, 5)] _) hc0 rfl) rfl) hRNSm72
                    have hRTRm275 := zR_TR_fr (zdis_fr (zfr_up hmm275 (zfr_rf [(28, 5)] _) hc0 rfl) rfl) hRTRm72
                    have hRWDm275 := zR_WD_fr (zdis_fr (zfr_up hmm275 (zfr_rf [(28, 5)] _) hc0 rfl) rfl) hRWDm72
                    have hRLRm275 := zLR_wr (zone_190 hc0) hmm275 (by decide)
                    have r276 : 0 ≤ (m275 a0 10) ∧ (m275 a0 10) ≤ 700 := zi_rd hIm275 hc0 zb_28_10
                    have e277 : (m275 a0 10) = (m64 a0 10) := (Eq.trans (zs_ne hmm275 (Or.inr (by decide))) (zs_ne hmm72 (Or.inr (by decide))))
                    generalize hmm278 : zu_up m275 a0 5 (m275 a0 10) = m278
                    have hIm278 := zi_up hmm278 hIm275 hc0 zb_28_5 (by omega) (by omega)
                    have hFm278 := zfr_up hmm278 hFm275 hc0 rfl
                    have hRC0m278 := zR_C0_fr (zdis_fr (zfr_up hmm278 (zfr_rf [(28, 6)] _) hc0 rfl) rfl) hRC0m275
                    have hRCRm278 := zR_CR_fr (zdis_fr (zfr_up hmm278 (zfr_rf [(28, 6)] _) hc0 rfl) rfl) hRCRm275
                    have hRLRm278 := zR_LR_fr (zdis_fr (zfr_up hmm278 (zfr_rf [(28, 6)] _) hc0 rfl) rfl) hRLRm275
                    have hRNSm278 := zR_NS_fr (zdis_fr (zfr_up hmm278 (zfr_rf [(28, 6)] _) hc0 rfl) rfl) hRNSm275
                    have hRTRm278 := zR_TR_fr (zdis_fr (zfr_up hmm278 (zfr_rf [(28, 6)] _) hc0 rfl) rfl) hRTRm275
                    have hRWDm278 := zR_WD_fr (zdis_fr (zfr_up hmm278 (zfr_rf [(28, 6)] _) hc0 rfl) rfl) hRWDm275
                    refine zw_b (by omega) ?_
                    refine zw_some ?_
                    refine zw_b (by omega) ?_
                    refine zw_some ?_
                    refine zw_ite (fun h279 => ?_) (fun h279 => ?_)
                    · exfalso; omega
                    · refine zw_b (by omega) ?_
                      refine zw_some ?_
                      refine zw_ite (fun h280 => ?_) (fun h280 => ?_)
                      · exfalso; omega
                      · refine zw_b (by omega) ?_
                        have r281 : 0 ≤ (m278 a0 7) ∧ (m278 a0 7) ≤ 700 := zi_rd hIm278 hc0 zb_28_7
                        have r282 : 0 ≤ (m278 a0 8) ∧ (m278 a0 8) ≤ 6 := zi_rd hIm278 hc0 zb_28_8
                        have e283 : (m278 a0 8) = (m72 a0 8) := (Eq.trans (zs_ne hmm278 (Or.inr (by decide))) (zs_ne hmm275 (Or.inr (by decide))))
                        have r284 : (-2147483648) ≤ (m278 a0 4) ∧ (m278 a0 4) ≤ 2147483647 := zi_rd hIm278 hc0 zb_28_4
                        have e285 : (m278 a0 4) = 1 := (Eq.trans (zs_ne hmm278 (Or.inr (by decide))) (zs_eq hmm275))
                        exact zw_some ⟨hIm278, hFm278, hRC0m278, hRCRm278, hRLRm278, hRNSm278, hRTRm278, hRWDm278, ⟨by omega, by omega⟩, by omega, by omega, by omega⟩
                · exfalso; omega
              · exfalso; omega
        · refine zw_bd (zw_eq (zu_call_at (zt_T n) (zm_85 n) (zdp_85 n) _ _ _ _ _ rfl (zr_85_0 n _ _ a0 1 m32)) ?_)
          generalize hmm286 : zu_up m32 a0 4 1 = m286
          have hIm286 := zi_up hmm286 hIm32 hc0 zb_28_4 (by omega) (by omega)
          have hFm286 := zfr_up hmm286 hFm32 hc0 rfl
          have hRC0m286 := zR_C0_fr (zdis_fr (zfr_up hmm286 (zfr_rf [(28, 5)] _) hc0 rfl) rfl) hRC0m32
          have hRCRm286 := zR_CR_fr (zdis_fr (zfr_up hmm286 (zfr_rf [(28, 5)] _) hc0 rfl) rfl) hRCRm32
          have hRNSm286 := zR_NS_fr (zdis_fr (zfr_up hmm286 (zfr_rf [(28, 5)] _) hc0 rfl) rfl) hRNSm32
          have hRTRm286 := zR_TR_fr (zdis_fr (zfr_up hmm286 (zfr_rf [(28, 5)] _) hc0 rfl) rfl) hRTRm32
          have hRWDm286 := zR_WD_fr (zdis_fr (zfr_up hmm286 (zfr_rf [(28, 5)] _) hc0 rfl) rfl) hRWDm32
          have hRLRm286 := zLR_wr (zone_190 hc0) hmm286 (by decide)
          have r287 : 0 ≤ (m286 a0 10) ∧ (m286 a0 10) ≤ 700 := zi_rd hIm286 hc0 zb_28_10
          generalize hmm288 : zu_up m286 a0 5 (m286 a0 10) = m288
          have hIm288 := zi_up hmm288 hIm286 hc0 zb_28_5 (by omega) (by omega)
          have hFm288 := zfr_up hmm288 hFm286 hc0 rfl
          have hRC0m288 := zR_C0_fr (zdis_fr (zfr_up hmm288 (zfr_rf [(28, 6)] _) hc0 rfl) rfl) hRC0m286
          have hRCRm288 := zR_CR_fr (zdis_fr (zfr_up hmm288 (zfr_rf [(28, 6)] _) hc0 rfl) rfl) hRCRm286
          have hRLRm288 := zR_LR_fr (zdis_fr (zfr_up hmm288 (zfr_rf [(28, 6)] _) hc0 rfl) rfl) hRLRm286
          have hRNSm288 := zR_NS_fr (zdis_fr (zfr_up hmm288 (zfr_rf [(28, 6)] _) hc0 rfl) rfl) hRNSm286
          have hRTRm288 := zR_TR_fr (zdis_fr (zfr_up hmm288 (zfr_rf [(28, 6)] _) hc0 rfl) rfl) hRTRm286
          have hRWDm288 := zR_WD_fr (zdis_fr (zfr_up hmm288 (zfr_rf [(28, 6)] _) hc0 rfl) rfl) hRWDm286
          refine zw_b (by omega) ?_
          refine zw_some ?_
          refine zw_b (by omega) ?_
          refine zw_some ?_
          refine zw_ite (fun h289 => ?_) (fun h289 => ?_)
          · exfalso; omega
          · refine zw_b (by omega) ?_
            refine zw_some ?_
            refine zw_ite (fun h290 => ?_) (fun h290 => ?_)
            · exfalso; omega
            · refine zw_b (by omega) ?_
              have r291 : 0 ≤ (m288 a0 7) ∧ (m288 a0 7) ≤ 700 := zi_rd hIm288 hc0 zb_28_7
              have r292 : 0 ≤ (m288 a0 8) ∧ (m288 a0 8) ≤ 6 := zi_rd hIm288 hc0 zb_28_8
              have e293 : (m288 a0 8) = (m32 a0 8) := (Eq.trans (zs_ne hmm288 (Or.inr (by decide))) (zs_ne hmm286 (Or.inr (by decide))))
              have r294 : (-2147483648) ≤ (m288 a0 4) ∧ (m288 a0 4) ≤ 2147483647 := zi_rd hIm288 hc0 zb_28_4
              have e295 : (m288 a0 4) = 1 := (Eq.trans (zs_ne hmm288 (Or.inr (by decide))) (zs_eq hmm286))
              exact zw_some ⟨hIm288, hFm288, hRC0m288, hRCRm288, hRLRm288, hRNSm288, hRTRm288, hRWDm288, ⟨by omega, by omega⟩, by omega, by omega, by omega⟩
      · refine zw_bd (zw_eq (zu_call_at (zt_T n) (zm_85 n) (zdp_85 n) _ _ _ _ _ rfl (zr_85_0 n _ _ a0 3 m16)) ?_)
        generalize hmm296 : zu_up m16 a0 4 3 = m296
        have hIm296 := zi_up hmm296 hIm16 hc0 zb_28_4 (by omega) (by omega)
        have hFm296 := zfr_up hmm296 hFm16 hc0 rfl
        have hRC0m296 := zR_C0_fr (zdis_fr (zfr_up hmm296 (zfr_rf [(28, 5)] _) hc0 rfl) rfl) hRC0m16
        have hRCRm296 := zR_CR_fr (zdis_fr (zfr_up hmm296 (zfr_rf [(28, 5)] _) hc0 rfl) rfl) hRCRm16
        have hRNSm296 := zR_NS_fr (zdis_fr (zfr_up hmm296 (zfr_rf [(28, 5)] _) hc0 rfl) rfl) hRNSm16
        have hRTRm296 := zR_TR_fr (zdis_fr (zfr_up hmm296 (zfr_rf [(28, 5)] _) hc0 rfl) rfl) hRTRm16
        have hRWDm296 := zR_WD_fr (zdis_fr (zfr_up hmm296 (zfr_rf [(28, 5)] _) hc0 rfl) rfl) hRWDm16
        have hRLRm296 := zLR_wr (zone_190 hc0) hmm296 (by decide)
        have r297 : 0 ≤ (m296 a0 10) ∧ (m296 a0 10) ≤ 700 := zi_rd hIm296 hc0 zb_28_10
        generalize hmm298 : zu_up m296 a0 5 (m296 a0 10) = m298
        have hIm298 := zi_up hmm298 hIm296 hc0 zb_28_5 (by omega) (by omega)
        have hFm298 := zfr_up hmm298 hFm296 hc0 rfl
        have hRC0m298 := zR_C0_fr (zdis_fr (zfr_up hmm298 (zfr_rf [(28, 6)] _) hc0 rfl) rfl) hRC0m296
        have hRCRm298 := zR_CR_fr (zdis_fr (zfr_up hmm298 (zfr_rf [(28, 6)] _) hc0 rfl) rfl) hRCRm296
        have hRLRm298 := zR_LR_fr (zdis_fr (zfr_up hmm298 (zfr_rf [(28, 6)] _) hc0 rfl) rfl) hRLRm296
        have hRNSm298 := zR_NS_fr (zdis_fr (zfr_up hmm298 (zfr_rf [(28, 6)] _) hc0 rfl) rfl) hRNSm296
        have hRTRm298 := zR_TR_fr (zdis_fr (zfr_up hmm298 (zfr_rf [(28, 6)] _) hc0 rfl) rfl) hRTRm296
        have hRWDm298 := zR_WD_fr (zdis_fr (zfr_up hmm298 (zfr_rf [(28, 6)] _) hc0 rfl) rfl) hRWDm296
        refine zw_b (by omega) ?_
        refine zw_some ?_
        refine zw_b (by omega) ?_
        have r299 : 0 ≤ (m298 a0 7) ∧ (m298 a0 7) ≤ 700 := zi_rd hIm298 hc0 zb_28_7
        have r300 : 0 ≤ (m298 a0 8) ∧ (m298 a0 8) ≤ 6 := zi_rd hIm298 hc0 zb_28_8
        have e301 : (m298 a0 8) = (m7 a0 8) := (Eq.trans (zs_ne hmm298 (Or.inr (by decide))) (Eq.trans (zs_ne hmm296 (Or.inr (by decide))) (zfr_ap hfm16 hc0 rfl)))
        have r302 : (-2147483648) ≤ (m298 a0 4) ∧ (m298 a0 4) ≤ 2147483647 := zi_rd hIm298 hc0 zb_28_4
        have e303 : (m298 a0 4) = 3 := (Eq.trans (zs_ne hmm298 (Or.inr (by decide))) (zs_eq hmm296))
        exact zw_some ⟨hIm298, hFm298, hRC0m298, hRCRm298, hRLRm298, hRNSm298, hRTRm298, hRWDm298, ⟨by omega, by omega⟩, by omega, by omega, by omega⟩
    · refine zw_bd (zw_eq (zu_call_at (zt_T n) (zm_85 n) (zdp_85 n) _ _ _ _ _ rfl (zr_85_0 n _ _ a0 1 m7)) ?_)
      generalize hmm304 : zu_up m7 a0 4 1 = m304
      have hIm304 := zi_up hmm304 hIm7 hc0 zb_28_4 (by omega) (by omega)
      have hFm304 := zfr_up hmm304 hFm7 hc0 rfl
      have hRC0m304 := zR_C0_fr (zdis_fr (zfr_up hmm304 (zfr_rf [(28, 5)] _) hc0 rfl) rfl) hRC0m7
      have hRCRm304 := zR_CR_fr (zdis_fr (zfr_up hmm304 (zfr_rf [(28, 5)] _) hc0 rfl) rfl) hRCRm7
      have hRNSm304 := zR_NS_fr (zdis_fr (zfr_up hmm304 (zfr_rf [(28, 5)] _) hc0 rfl) rfl) hRNSm7
      have hRTRm304 := zR_TR_fr (zdis_fr (zfr_up hmm304 (zfr_rf [(28, 5)] _) hc0 rfl) rfl) hRTRm7
      have hRWDm304 := zR_WD_fr (zdis_fr (zfr_up hmm304 (zfr_rf [(28, 5)] _) hc0 rfl) rfl) hRWDm7
      have hRLRm304 := zLR_wr (zone_190 hc0) hmm304 (by decide)
      have r305 : 0 ≤ (m304 a0 10) ∧ (m304 a0 10) ≤ 700 := zi_rd hIm304 hc0 zb_28_10
      generalize hmm306 : zu_up m304 a0 5 (m304 a0 10) = m306
      have hIm306 := zi_up hmm306 hIm304 hc0 zb_28_5 (by omega) (by omega)
      have hFm306 := zfr_up hmm306 hFm304 hc0 rfl
      have hRC0m306 := zR_C0_fr (zdis_fr (zfr_up hmm306 (zfr_rf [(28, 6)] _) hc0 rfl) rfl) hRC0m304
      have hRCRm306 := zR_CR_fr (zdis_fr (zfr_up hmm306 (zfr_rf [(28, 6)] _) hc0 rfl) rfl) hRCRm304
      have hRLRm306 := zR_LR_fr (zdis_fr (zfr_up hmm306 (zfr_rf [(28, 6)] _) hc0 rfl) rfl) hRLRm304
      have hRNSm306 := zR_NS_fr (zdis_fr (zfr_up hmm306 (zfr_rf [(28, 6)] _) hc0 rfl) rfl) hRNSm304
      have hRTRm306 := zR_TR_fr (zdis_fr (zfr_up hmm306 (zfr_rf [(28, 6)] _) hc0 rfl) rfl) hRTRm304
      have hRWDm306 := zR_WD_fr (zdis_fr (zfr_up hmm306 (zfr_rf [(28, 6)] _) hc0 rfl) rfl) hRWDm304
      refine zw_b (by omega) ?_
      refine zw_some ?_
      refine zw_b (by omega) ?_
      have r307 : 0 ≤ (m306 a0 7) ∧ (m306 a0 7) ≤ 700 := zi_rd hIm306 hc0 zb_28_7
      have r308 : 0 ≤ (m306 a0 8) ∧ (m306 a0 8) ≤ 6 := zi_rd hIm306 hc0 zb_28_8
      have e309 : (m306 a0 8) = (m7 a0 8) := (Eq.trans (zs_ne hmm306 (Or.inr (by decide))) (zs_ne hmm304 (Or.inr (by decide))))
      have r310 : (-2147483648) ≤ (m306 a0 4) ∧ (m306 a0 4) ≤ 2147483647 := zi_rd hIm306 hc0 zb_28_4
      have e311 : (m306 a0 4) = 1 := (Eq.trans (zs_ne hmm306 (Or.inr (by decide))) (zs_eq hmm304))
      exact zw_some ⟨hIm306, hFm306, hRC0m306, hRCRm306, hRLRm306, hRNSm306, hRTRm306, hRWDm306, ⟨by omega, by omega⟩, by omega, by omega, by omega⟩
  · refine zw_bd (zw_eq (zu_call_at (zt_T n) (zm_85 n) (zdp_85 n) _ _ _ _ _ rfl (zr_85_0 n _ _ a0 2 m0)) ?_)
    generalize hmm312 : zu_up m0 a0 4 2 = m312
    have hIm312 := zi_up hmm312 hIm0 hc0 zb_28_4 (by omega) (by omega)
    have hFm312 := zfr_up hmm312 hFm0 hc0 rfl
    have hRC0m312 := zR_C0_fr (zdis_fr (zfr_up hmm312 (zfr_rf [(28, 5)] _) hc0 rfl) rfl) hRC0m0
    have hRCRm312 := zR_CR_fr (zdis_fr (zfr_up hmm312 (zfr_rf [(28, 5)] _) hc0 rfl) rfl) hRCRm0
    have hRNSm312 := zR_NS_fr (zdis_fr (zfr_up hmm312 (zfr_rf [(28, 5)] _) hc0 rfl) rfl) hRNSm0
    have hRTRm312 := zR_TR_fr (zdis_fr (zfr_up hmm312 (zfr_rf [(28, 5)] _) hc0 rfl) rfl) hRTRm0
    have hRWDm312 := zR_WD_fr (zdis_fr (zfr_up hmm312 (zfr_rf [(28, 5)] _) hc0 rfl) rfl) hRWDm0
    have hRLRm312 := zLR_wr (zone_190 hc0) hmm312 (by decide)
    have r313 : 0 ≤ (m312 a0 10) ∧ (m312 a0 10) ≤ 700 := zi_rd hIm312 hc0 zb_28_10
    generalize hmm314 : zu_up m312 a0 5 (m312 a0 10) = m314
    have hIm314 := zi_up hmm314 hIm312 hc0 zb_28_5 (by omega) (by omega)
    have hFm314 := zfr_up hmm314 hFm312 hc0 rfl
    have hRC0m314 := zR_C0_fr (zdis_fr (zfr_up hmm314 (zfr_rf [(28, 6)] _) hc0 rfl) rfl) hRC0m312
    have hRCRm314 := zR_CR_fr (zdis_fr (zfr_up hmm314 (zfr_rf [(28, 6)] _) hc0 rfl) rfl) hRCRm312
    have hRLRm314 := zR_LR_fr (zdis_fr (zfr_up hmm314 (zfr_rf [(28, 6)] _) hc0 rfl) rfl) hRLRm312
    have hRNSm314 := zR_NS_fr (zdis_fr (zfr_up hmm314 (zfr_rf [(28, 6)] _) hc0 rfl) rfl) hRNSm312
    have hRTRm314 := zR_TR_fr (zdis_fr (zfr_up hmm314 (zfr_rf [(28, 6)] _) hc0 rfl) rfl) hRTRm312
    have hRWDm314 := zR_WD_fr (zdis_fr (zfr_up hmm314 (zfr_rf [(28, 6)] _) hc0 rfl) rfl) hRWDm312
    refine zw_b (by omega) ?_
    refine zw_some ?_
    refine zw_b (by omega) ?_
    have r315 : 0 ≤ (m314 a0 7) ∧ (m314 a0 7) ≤ 700 := zi_rd hIm314 hc0 zb_28_7
    have e316 : (m314 a0 7) = (m0 a0 7) := (Eq.trans (zs_ne hmm314 (Or.inr (by decide))) (zs_ne hmm312 (Or.inr (by decide))))
    have r317 : 0 ≤ (m314 a0 8) ∧ (m314 a0 8) ≤ 6 := zi_rd hIm314 hc0 zb_28_8
    have e318 : (m314 a0 8) = (m0 a0 8) := (Eq.trans (zs_ne hmm314 (Or.inr (by decide))) (zs_ne hmm312 (Or.inr (by decide))))
    have r319 : (-2147483648) ≤ (m314 a0 4) ∧ (m314 a0 4) ≤ 2147483647 := zi_rd hIm314 hc0 zb_28_4
    have e320 : (m314 a0 4) = 2 := (Eq.trans (zs_ne hmm314 (Or.inr (by decide))) (zs_eq hmm312))
    exact zw_some ⟨hIm314, hFm314, hRC0m314, hRCRm314, hRLRm314, hRNSm314, hRTRm314, hRWDm314, ⟨by omega, by omega⟩, by omega, by omega, by omega⟩

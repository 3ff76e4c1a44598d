set_option maxHeartbeats 4000000 in
theorem zk_102 (n : Nat) {a0 : Int} {m0 : zu_m} (hIm0 : zi_I m0) (hc0 : zcls a0 = 28)   (he0 : 1 ≤ m0 a0 8 ∧ m0 a0 8 ≤ 1) (he1 : 5 ≤ m0 a0 9 ∧ m0 a0 9 ≤ 5)  (hRC0m0 : zR_C0 m0) (hRCRm0 : zR_CR m0) (hRLRm0 : zR_LR m0) (hRNSm0 : zR_NS m0) (hRTRm0 : zR_TR m0) (hRWDm0 : zR_WD m0) : zw (zu_call (zt_T n) 102 [(40, a0)] m0) (fun v m => zi_I m ∧ zfr [(28, 5), (28, 6), (28, 8), (28, 9), (28, 10), (28, 11), (28, 12), (28, 21), (28, 24), (28, 43), (109, 0), (110, 0), (111, 0), (112, 0), (113, 0)] m0 m ∧ zR_C0 m ∧ zR_CR m ∧ zR_LR m ∧ zR_NS m ∧ zR_TR m ∧ zR_WD m ∧ (0 ≤ v ∧ v ≤ 1) ∧ ((m0 a0 7) ≤ (m a0 7)) ∧ (v = 1 → ((m a0 8) = 0 ∨ (m0 a0 7) < (m a0 7))) ∧ (v = 1 → (m a0 4) = (m0 a0 4))) := by
  have hFm0 : zfr [(28, 5), (28, 6), (28, 8), (28, 9), (28, 10), (28, 11), (28, 12), (28, 21), (28, 24), (28, 43), (109, 0), (110, 0), (111, 0), (112, 0), (113, 0)] m0 m0 := zfr_rf _ _
  have s1 := hRNSm0 a0 hc0
  have s2 := hRTRm0 a0 hc0
  refine zw_eq (zu_call_at (zt_T n) (zm_102 n) (zdp_102 n) _ _ _ _ _ rfl (zr_102_0 n _ _ a0 m0)) ?_
  have r3 : 0 ≤ (m0 a0 20) ∧ (m0 a0 20) ≤ 4 := zi_rd hIm0 hc0 zb_28_20
  refine zw_ite (fun h4 => ?_) (fun h4 => ?_)
  · refine zw_bd (zw_mono (zk_89 n hIm0 hc0 hRNSm0 hRWDm0) (fun v6 m5 hqm5 => ?_))
    obtain ⟨hIm5, hfm5, hvm5⟩ := hqm5
    have hFm5 := zfr_tr hFm0 hfm5 rfl
    obtain ⟨hRNSm5, hRTRm5, hRWDm5, hvm5⟩ := hvm5
    have hRC0m5 := zR_C0_fr (zdis_fr hfm5 rfl) hRC0m0
    have hRCRm5 := zR_CR_fr (zdis_fr hfm5 rfl) hRCRm0
    have hRLRm5 := zR_LR_fr (zdis_fr hfm5 rfl) hRLRm0
    have s7 := hRNSm5 a0 hc0
    have s8 := hRTRm5 a0 hc0
    have r9 : 0 ≤ (m5 a0 8) ∧ (m5 a0 8) ≤ 6 := zi_rd hIm5 hc0 zb_28_8
    refine zw_ite (fun h10 => ?_) (fun h10 => ?_)
    · have r11 : 0 ≤ (m5 a0 20) ∧ (m5 a0 20) ≤ 4 := zi_rd hIm5 hc0 zb_28_20
      have e12 : (m5 a0 20) = (m0 a0 20) := (zfr_ap hfm5 hc0 rfl)
      have r13 : (-2147483648) ≤ (m5 a0 9) ∧ (m5 a0 9) ≤ 2147483647 := zi_rd hIm5 hc0 zb_28_9
      refine zw_bd (zw_mono (zk_95 n hIm5 zq_200 ⟨by omega, by omega⟩ ⟨by omega, by omega⟩ ⟨by omega, by omega⟩) (fun v15 m14 hqm14 => ?_))
      obtain ⟨hIm14, hfm14, hvm14⟩ := hqm14
      have hFm14 := zfr_tr hFm5 hfm14 rfl
      have hRC0m14 := zR_C0_fr (zdis_fr hfm14 rfl) hRC0m5
      have hRCRm14 := zR_CR_fr (zdis_fr hfm14 rfl) hRCRm5
      have hRLRm14 := zR_LR_fr (zdis_fr hfm14 rfl) hRLRm5
      have hRNSm14 := zR_NS_fr (zdis_fr hfm14 rfl) hRNSm5
      have hRTRm14 := zR_TR_fr (zdis_fr hfm14 rfl) hRTRm5
      have hRWDm14 := zR_WD_fr (zdis_fr hfm14 rfl) hRWDm5
      have s16 := hRNSm14 a0 hc0
      have s17 := hRTRm14 a0 hc0
      refine zw_ite (fun h18 => ?_) (fun h18 => ?_)
      · have r19 : 0 ≤ (m14 a0 20) ∧ (m14 a0 20) ≤ 4 := zi_rd hIm14 hc0 zb_28_20
        have e20 : (m14 a0 20) = (m5 a0 20) := (zfr_ap hfm14 hc0 rfl)
        have w21 := zu_w32_id (z := 4 + (m14 a0 20)) (by omega) (by omega)
        have r22 : (-2147483648) ≤ (m14 a0 9) ∧ (m14 a0 9) ≤ 2147483647 := zi_rd hIm14 hc0 zb_28_9
        have e23 : (m14 a0 9) = (m5 a0 9) := (zfr_ap hfm14 hc0 rfl)
        have b24 : 0 ≤ (zu_w32 (4 + (m14 a0 20))) ∧ (zu_w32 (4 + (m14 a0 20))) < 8 := by omega
        refine zw_if b24 ?_
        generalize hmm25 : zu_up m14 200 (zu_w32 (4 + (m14 a0 20))) (m14 a0 9) = m25
        have hIm25 := zi_up hmm25 hIm14 zq_200 (zb_109 _) (by omega) (by omega)
        have hFm25 := zfr_up hmm25 hFm14 zq_200 rfl
        have hRC0m25 := zR_C0_fr (zdis_fr (zfr_up hmm25 (zfr_rf [(109, 0)] _) zq_200 rfl) rfl) hRC0m14
        have hRCRm25 := zR_CR_fr (zdis_fr (zfr_up hmm25 (zfr_rf [(109, 0)] _) zq_200 rfl) rfl) hRCRm14
        have hRLRm25 := zR_LR_fr (zdis_fr (zfr_up hmm25 (zfr_rf [(109, 0)] _) zq_200 rfl) rfl) hRLRm14
        have hRNSm25 := zR_NS_fr (zdis_fr (zfr_up hmm25 (zfr_rf [(109, 0)] _) zq_200 rfl) rfl) hRNSm14
        have hRTRm25 := zR_TR_fr (zdis_fr (zfr_up hmm25 (zfr_rf [(109, 0)] _) zq_200 rfl) rfl) hRTRm14
        have hRWDm25 := zR_WD_fr (zdis_fr (zfr_up hmm25 (zfr_rf [(109, 0)] _) zq_200 rfl) rfl) hRWDm14
        refine zw_bd (zw_mono (zk_89 n hIm25 hc0 hRNSm25 hRWDm25) (fun v27 m26 hqm26 => ?_))
        obtain ⟨hIm26, hfm26, hvm26⟩ := hqm26
        have hFm26 := zfr_tr hFm25 hfm26 rfl
        obtain ⟨hRNSm26, hRTRm26, hRWDm26, hvm26⟩ := hvm26
        have hRC0m26 := zR_C0_fr (zdis_fr hfm26 rfl) hRC0m25
        have hRCRm26 := zR_CR_fr (zdis_fr hfm26 rfl) hRCRm25
        have hRLRm26 := zR_LR_fr (zdis_fr hfm26 rfl) hRLRm25
        have s28 := hRNSm26 a0 hc0
        have s29 := hRTRm26 a0 hc0
        refine zw_bd (zw_eq (zu_call_at (zt_T n) (zm_96 n) (zdp_96 n) _ _ _ _ _ rfl (zr_96_0 n _ _ a0 m26)) ?_)
        refine zw_b (by omega) ?_
        generalize hmm30 : zu_up m26 a0 23 1 = m30
        have hIm30 := zi_up hmm30 hIm26 hc0 zb_28_23 (by omega) (by omega)
        have hFm30 := zfr_up hmm30 hFm26 hc0 rfl
        have hRC0m30 := zR_C0_fr (zdis_fr (zfr_up hmm30 (zfr_rf [(28, 24)] _) hc0 rfl) rfl) hRC0m26
        have hRLRm30 := zR_LR_fr (zdis_fr (zfr_up hmm30 (zfr_rf [(28, 24)] _) hc0 rfl) rfl) hRLRm26
        have hRNSm30 := zR_NS_fr (zdis_fr (zfr_up hmm30 (zfr_rf [(28, 24)] _) hc0 rfl) rfl) hRNSm26
        have hRTRm30 := zR_TR_fr (zdis_fr (zfr_up hmm30 (zfr_rf [(28, 24)] _) hc0 rfl) rfl) hRTRm26
        have hRWDm30 := zR_WD_fr (zdis_fr (zfr_up hmm30 (zfr_rf [(28, 24)] _) hc0 rfl) rfl) hRWDm26
        have hRCRm30 := zCR_cells (zone_190 hc0) hmm30 rfl hRCRm26
        have r31 : 1 ≤ (m30 a0 17) ∧ (m30 a0 17) ≤ 8 := zi_rd hIm30 hc0 zb_28_17
        have w32 := zu_w32_id (z := (m30 a0 17) - 1) (by omega) (by omega)
        refine zw_bd (zw_eq (zu_call_at (zt_T n) (zm_94 n) (zdp_94 n) _ _ _ _ _ rfl (zr_94_0 n _ _ a0 0 (zu_w32 ((m30 a0 17) - 1)) m30)) ?_)
        have r33 : 0 ≤ (m30 a0 8) ∧ (m30 a0 8) ≤ 6 := zi_rd hIm30 hc0 zb_28_8
        refine zw_ite (fun h34 => ?_) (fun h34 => ?_)
        · have r35 : (-2147483648) ≤ (m30 a0 9) ∧ (m30 a0 9) ≤ 2147483647 := zi_rd hIm30 hc0 zb_28_9
          refine zw_bd (zw_eq (zu_call_at (zt_T n) (zm_83 n) (zdp_83 n) _ _ _ _ _ rfl (zr_83_0 n _ _ (m30 a0 9) 0 (zu_w32 ((m30 a0 17) - 1)) m30)) ?_)
          refine zw_ite (fun h36 => ?_) (fun h36 => ?_)
          · refine zw_b (by omega) ?_
            refine zw_some ?_
            refine zw_ite (fun h37 => ?_) (fun h37 => ?_)
            · exfalso; omega
            · refine zw_bd (zw_eq (zu_call_at (zt_T n) (zm_85 n) (zdp_85 n) _ _ _ _ _ rfl (zr_85_0 n _ _ a0 2 m30)) ?_)
              generalize hmm38 : zu_up m30 a0 4 2 = m38
              have hIm38 := zi_up hmm38 hIm30 hc0 zb_28_4 (by omega) (by omega)
              have hFm38 := zfr_up hmm38 hFm30 hc0 rfl
              have hRC0m38 := zR_C0_fr (zdis_fr (zfr_up hmm38 (zfr_rf [(28, 5)] _) hc0 rfl) rfl) hRC0m30
              have hRCRm38 := zR_CR_fr (zdis_fr (zfr_up hmm38 (zfr_rf [(28, 5)] _) hc0 rfl) rfl) hRCRm30
              have hRNSm38 := zR_NS_fr (zdis_fr (zfr_up hmm38 (zfr_rf [(28, 5)] _) hc0 rfl) rfl) hRNSm30
              have hRTRm38 := zR_TR_fr (zdis_fr (zfr_up hmm38 (zfr_rf [(28, 5)] _) hc0 rfl) rfl) hRTRm30
              have hRWDm38 := zR_WD_fr (zdis_fr (zfr_up hmm38 (zfr_rf [(28, 5)] _) hc0 rfl) rfl) hRWDm30
              have hRLRm38 := zLR_wr (zone_190 hc0) hmm38 (by decide)
              have r39 : 0 ≤ (m38 a0 10) ∧ (m38 a0 10) ≤ 700 := zi_rd hIm38 hc0 zb_28_10
              generalize hmm40 : zu_up m38 a0 5 (m38 a0 10) = m40
              have hIm40 := zi_up hmm40 hIm38 hc0 zb_28_5 (by omega) (by omega)
              have hFm40 := zfr_up hmm40 hFm38 hc0 rfl
              have hRC0m40 := zR_C0_fr (zdis_fr (zfr_up hmm40 (zfr_rf [(28, 6)] _) hc0 rfl) rfl) hRC0m38
              have hRCRm40 := zR_CR_fr (zdis_fr (zfr_up hmm40 (zfr_rf [(28, 6)] _) hc0 rfl) rfl) hRCRm38
              have hRLRm40 := zR_LR_fr (zdis_fr (zfr_up hmm40 (zfr_rf [(28, 6)] _) hc0 rfl) rfl) hRLRm38
              have hRNSm40 := zR_NS_fr (zdis_fr (zfr_up hmm40 (zfr_rf [(28, 6)] _) hc0 rfl) rfl) hRNSm38
              have hRTRm40 := zR_TR_fr (zdis_fr (zfr_up hmm40 (zfr_rf [(28, 6)] _) hc0 rfl) rfl) hRTRm38
              have hRWDm40 := zR_WD_fr (zdis_fr (zfr_up hmm40 (zfr_rf [(28, 6)] _) hc0 rfl) rfl) hRWDm38
              refine zw_b (by omega) ?_
              refine zw_some ?_
              refine zw_b (by omega) ?_
              refine zw_some ?_
              refine zw_ite (fun h41 => ?_) (fun h41 => ?_)
              · exfalso; omega
              · refine zw_b (by omega) ?_
                refine zw_some ?_
                refine zw_ite (fun h42 => ?_) (fun h42 => ?_)
                · exfalso; omega
                · refine zw_b (by omega) ?_
                  have r43 : 0 ≤ (m40 a0 7) ∧ (m40 a0 7) ≤ 700 := zi_rd hIm40 hc0 zb_28_7
                  have r44 : 0 ≤ (m40 a0 8) ∧ (m40 a0 8) ≤ 6 := zi_rd hIm40 hc0 zb_28_8
                  have e45 : (m40 a0 8) = (m30 a0 8) := (Eq.trans (zs_ne hmm40 (Or.inr (by decide))) (zs_ne hmm38 (Or.inr (by decide))))
                  have r46 : (-2147483648) ≤ (m40 a0 4) ∧ (m40 a0 4) ≤ 2147483647 := zi_rd hIm40 hc0 zb_28_4
                  have e47 : (m40 a0 4) = 2 := (Eq.trans (zs_ne hmm40 (Or.inr (by decide))) (zs_eq hmm38))
                  exact zw_some ⟨hIm40, hFm40, hRC0m40, hRCRm40, hRLRm40, hRNSm40, hRTRm40, hRWDm40, ⟨by omega, by omega⟩, by omega, by omega, by omega⟩
          · refine zw_ite (fun h48 => ?_) (fun h48 => ?_)
            · refine zw_b (by omega) ?_
              refine zw_some ?_
              refine zw_ite (fun h49 => ?_) (fun h49 => ?_)
              · exfalso; omega
              · refine zw_bd (zw_eq (zu_call_at (zt_T n) (zm_85 n) (zdp_85 n) _ _ _ _ _ rfl (zr_85_0 n _ _ a0 2 m30)) ?_)
                generalize hmm50 : zu_up m30 a0 4 2 = m50
                have hIm50 := zi_up hmm50 hIm30 hc0 zb_28_4 (by omega) (by omega)
                have hFm50 := zfr_up hmm50 hFm30 hc0 rfl
                have hRC0m50 := zR_C0_fr (zdis_fr (zfr_up hmm50 (zfr_rf [(28, 5)] _) hc0 rfl) rfl) hRC0m30
                have hRCRm50 := zR_CR_fr (zdis_fr (zfr_up hmm50 (zfr_rf [(28, 5)] _) hc0 rfl) rfl) hRCRm30
                have hRNSm50 := zR_NS_fr (zdis_fr (zfr_up hmm50 (zfr_rf [(28, 5)] _) hc0 rfl) rfl) hRNSm30
                have hRTRm50 := zR_TR_fr (zdis_fr (zfr_up hmm50 (zfr_rf [(28, 5)] _) hc0 rfl) rfl) hRTRm30
                have hRWDm50 := zR_WD_fr (zdis_fr (zfr_up hmm50 (zfr_rf [(28, 5)] _) hc0 rfl) rfl) hRWDm30
                have hRLRm50 := zLR_wr (zone_190 hc0) hmm50 (by decide)
                have r51 : 0 ≤ (m50 a0 10) ∧ (m50 a0 10) ≤ 700 := zi_rd hIm50 hc0 zb_28_10
                generalize hmm52 : zu_up m50 a0 5 (m50 a0 10) = m52
                have hIm52 := zi_up hmm52 hIm50 hc0 zb_28_5 (by omega) (by omega)
                have hFm52 := zfr_up hmm52 hFm50 hc0 rfl
                have hRC0m52 := zR_C0_fr (zdis_fr (zfr_up hmm52 (zfr_rf [(28, 6)] _) hc0 rfl) rfl) hRC0m50
                have hRCRm52 := zR_CR_fr (zdis_fr (zfr_up hmm52 (zfr_rf [(28, 6)] _) hc0 rfl) rfl) hRCRm50
                have hRLRm52 := zR_LR_fr (zdis_fr (zfr_up hmm52 (zfr_rf [(28, 6)] _) hc0 rfl) rfl) hRLRm50
                have hRNSm52 := zR_NS_fr (zdis_fr (zfr_up hmm52 (zfr_rf [(28, 6)] _) hc0 rfl) rfl) hRNSm50
                have hRTRm52 := zR_TR_fr (zdis_fr (zfr_up hmm52 (zfr_rf [(28, 6)] _) hc0 rfl) rfl) hRTRm50
                have hRWDm52 := zR_WD_fr (zdis_fr (zfr_up hmm52 (zfr_rf [(28, 6)] _) hc0 rfl) rfl) hRWDm50
                refine zw_b (by omega) ?_
                refine zw_some ?_
                refine zw_b (by omega) ?_
                refine zw_some ?_
                refine zw_ite (fun h53 => ?_) (fun h53 => ?_)
                · exfalso; omega
                · refine zw_b (by omega) ?_
                  refine zw_some ?_
                  refine zw_ite (fun h54 => ?_) (fun h54 => ?_)
                  · exfalso; omega
                  · refine zw_b (by omega) ?_
                    have r55 : 0 ≤ (m52 a0 7) ∧ (m52 a0 7) ≤ 700 := zi_rd hIm52 hc0 zb_28_7
                    have r56 : 0 ≤ (m52 a0 8) ∧ (m52 a0 8) ≤ 6 := zi_rd hIm52 hc0 zb_28_8
                    have e57 : (m52 a0 8) = (m30 a0 8) := (Eq.trans (zs_ne hmm52 (Or.inr (by decide))) (zs_ne hmm50 (Or.inr (by decide))))
                    have r58 : (-2147483648) ≤ (m52 a0 4) ∧ (m52 a0 4) ≤ 2147483647 := zi_rd hIm52 hc0 zb_28_4
                    have e59 : (m52 a0 4) = 2 := (Eq.trans (zs_ne hmm52 (Or.inr (by decide))) (zs_eq hmm50))
                    exact zw_some ⟨hIm52, hFm52, hRC0m52, hRCRm52, hRLRm52, hRNSm52, hRTRm52, hRWDm52, ⟨by omega, by omega⟩, by omega, by omega, by omega⟩
            · refine zw_b (by omega) ?_
              refine zw_some ?_
              refine zw_ite (fun h60 => ?_) (fun h60 => ?_)
              · generalize hmm61 : zu_up m30 a0 11 (m30 a0 9) = m61
                have hIm61 := zi_up hmm61 hIm30 hc0 zb_28_11 (by omega) (by omega)
                have hFm61 := zfr_up hmm61 hFm30 hc0 rfl
                have hRC0m61 := zR_C0_fr (zdis_fr (zfr_up hmm61 (zfr_rf [(28, 12)] _) hc0 rfl) rfl) hRC0m30
                have hRCRm61 := zR_CR_fr (zdis_fr (zfr_up hmm61 (zfr_rf [(28, 12)] _) hc0 rfl) rfl) hRCRm30
                have hRLRm61 := zR_LR_fr (zdis_fr (zfr_up hmm61 (zfr_rf [(28, 12)] _) hc0 rfl) rfl) hRLRm30
                have hRNSm61 := zR_NS_fr (zdis_fr (zfr_up hmm61 (zfr_rf [(28, 12)] _) hc0 rfl) rfl) hRNSm30
                have hRTRm61 := zR_TR_fr (zdis_fr (zfr_up hmm61 (zfr_rf [(28, 12)] _) hc0 rfl) rfl) hRTRm30
                have hRWDm61 := zR_WD_fr (zdis_fr (zfr_up hmm61 (zfr_rf [(28, 12)] _) hc0 rfl) rfl) hRWDm30
                refine zw_bd (zw_mono (zk_89 n hIm61 hc0 hRNSm61 hRWDm61) (fun v63 m62 hqm62 => ?_))
                obtain ⟨hIm62, hfm62, hvm62⟩ := hqm62
                have hFm62 := zfr_tr hFm61 hfm62 rfl
                obtain ⟨hRNSm62, hRTRm62, hRWDm62, hvm62⟩ := hvm62
                have hRC0m62 := zR_C0_fr (zdis_fr hfm62 rfl) hRC0m61
                have hRCRm62 := zR_CR_fr (zdis_fr hfm62 rfl) hRCRm61
                have hRLRm62 := zR_LR_fr (zdis_fr hfm62 rfl) hRLRm61
                have s64 := hRNSm62 a0 hc0
                have s65 := hRTRm62 a0 hc0
                refine zw_b (by omega) ?_
                refine zw_some ?_
                refine zw_ite (fun h66 => ?_) (fun h66 => ?_)
                · have r67 : (-2147483648) ≤ (m62 a0 11) ∧ (m62 a0 11) ≤ 2147483647 := zi_rd hIm62 hc0 zb_28_11
                  have e68 : (m62 a0 11) = (m30 a0 9) := (Eq.trans (zfr_ap hfm62 hc0 rfl) (zs_eq hmm61))
                  have r69 : 0 ≤ (m62 a0 10) ∧ (m62 a0 10) ≤ 700 := zi_rd hIm62 hc0 zb_28_10
                  generalize hmm70 : zu_up m62 a0 42 (m62 a0 10) = m70
                  have hIm70 := zi_up hmm70 hIm62 hc0 zb_28_42 (by omega) (by omega)
                  have hFm70 := zfr_up hmm70 hFm62 hc0 rfl
                  have hRC0m70 := zR_C0_fr (zdis_fr (zfr_up hmm70 (zfr_rf [(28, 43)] _) hc0 rfl) rfl) hRC0m62
                  have hRCRm70 := zR_CR_fr (zdis_fr (zfr_up hmm70 (zfr_rf [(28, 43)] _) hc0 rfl) rfl) hRCRm62
                  have hRLRm70 := zR_LR_fr (zdis_fr (zfr_up hmm70 (zfr_rf [(28, 43)] _) hc0 rfl) rfl) hRLRm62
                  have hRNSm70 := zR_NS_fr (zdis_fr (zfr_up hmm70 (zfr_rf [(28, 43)] _) hc0 rfl) rfl) hRNSm62
                  have hRTRm70 := zR_TR_fr (zdis_fr (zfr_up hmm70 (zfr_rf [(28, 43)] _) hc0 rfl) rfl) hRTRm62
                  have hRWDm70 := zR_WD_fr (zdis_fr (zfr_up hmm70 (zfr_rf [(28, 43)] _) hc0 rfl) rfl) hRWDm62
                  have r71 : 1 ≤ (m70 a0 18) ∧ (m70 a0 18) ≤ 6 := zi_rd hIm70 hc0 zb_28_18
                  have w72 := zu_w32_id (z := (m70 a0 18) - 1) (by omega) (by omega)
                  refine zw_bd (zw_eq (zu_call_at (zt_T n) (zm_94 n) (zdp_94 n) _ _ _ _ _ rfl (zr_94_0 n _ _ a0 0 (zu_w32 ((m70 a0 18) - 1)) m70)) ?_)
                  have r73 : 0 ≤ (m70 a0 8) ∧ (m70 a0 8) ≤ 6 := zi_rd hIm70 hc0 zb_28_8
                  refine zw_ite (fun h74 => ?_) (fun h74 => ?_)
                  · have r75 : (-2147483648) ≤ (m70 a0 9) ∧ (m70 a0 9) ≤ 2147483647 := zi_rd hIm70 hc0 zb_28_9
                    refine zw_bd (zw_eq (zu_call_at (zt_T n) (zm_83 n) (zdp_83 n) _ _ _ _ _ rfl (zr_83_0 n _ _ (m70 a0 9) 0 (zu_w32 ((m70 a0 18) - 1)) m70)) ?_)
                    refine zw_ite (fun h76 => ?_) (fun h76 => ?_)
                    · refine zw_b (by omega) ?_
                      refine zw_some ?_
                      refine zw_ite (fun h77 => ?_) (fun h77 => ?_)
                      · exfalso; omega
                      · refine zw_bd (zw_eq (zu_call_at (zt_T n) (zm_85 n) (zdp_85 n) _ _ _ _ _ rfl (zr_85_0 n _ _ a0 2 m70)) ?_)
                        generalize hmm78 : zu_up m70 a0 4 2 = m78
                        have hIm78 := zi_up hmm78 hIm70 hc0 zb_28_4 (by omega) (by omega)
                        have hFm78 := zfr_up hmm78 hFm70 hc0 rfl
                        have hRC0m78 := zR_C0_fr (zdis_fr (zfr_up hmm78 (zfr_rf [(28, 5)] _) hc0 rfl) rfl) hRC0m70
                        have hRCRm78 := zR_CR_fr (zdis_fr (zfr_up hmm78 (zfr_rf [(28, 5)] _) hc0 rfl) rfl) hRCRm70
                        have hRNSm78 := zR_NS_fr (zdis_fr (zfr_up hmm78 (zfr_rf [(28, 5)] _) hc0 rfl) rfl) hRNSm70
                        have hRTRm78 := zR_TR_fr (zdis_fr (zfr_up hmm78 (zfr_rf [(28, 5)] _) hc0 rfl) rfl) hRTRm70
                        have hRWDm78 := zR_WD_fr (zdis_fr (zfr_up hmm78 (zfr_rf [(28, 5)] _) hc0 rfl) rfl) hRWDm70
                        have hRLRm78 := zLR_wr (zone_190 hc0) hmm78 (by decide)
                        have r79 : 0 ≤ (m78 a0 10) ∧ (m78 a0 10) ≤ 700 := zi_rd hIm78 hc0 zb_28_10
                        have e80 : (m78 a0 10) = (m62 a0 10) := (Eq.trans (zs_ne hmm78 (Or.inr (by decide))) (zs_ne hmm70 (Or.inr (by decide))))
                        generalize hmm81 : zu_up m78 a0 5 (m78 a0 10) = m81
                        have hIm81 := zi_up hmm81 hIm78 hc0 zb_28_5 (by omega) (by omega)
                        have hFm81 := zfr_up hmm81 hFm78 hc0 rfl
                        have hRC0m81 := zR_C0_fr (zdis_fr (zfr_up hmm81 (zfr_rf [(28, 6)] _) hc0 rfl) rfl) hRC0m78
                        have hRCRm81 := zR_CR_fr (zdis_fr (zfr_up hmm81 (zfr_rf [(28, 6)] _) hc0 rfl) rfl) hRCRm78
                        have hRLRm81 := zR_LR_fr (zdis_fr (zfr_up hmm81 (zfr_rf [(28, 6)] _) hc0 rfl) rfl) hRLRm78
                        have hRNSm81 := zR_NS_fr (zdis_fr (zfr_up hmm81 (zfr_rf [(28, 6)] _) hc0 rfl) rfl) hRNSm78
                        have hRTRm81 := zR_TR_fr (zdis_fr (zfr_up hmm81 (zfr_rf [(28, 6)] _) hc0 rfl) rfl) hRTRm78
                        have hRWDm81 := zR_WD_fr (zdis_fr (zfr_up hmm81 (zfr_rf [(28, 6)] _) hc0 rfl) rfl) hRWDm78
                        refine zw_b (by omega) ?_
                        refine zw_some ?_
                        refine zw_b (by omega) ?_
                        refine zw_some ?_
                        refine zw_ite (fun h82 => ?_) (fun h82 => ?_)
                        · exfalso; omega
                        · refine zw_b (by omega) ?_
                          refine zw_some ?_
                          refine zw_ite (fun h83 => ?_) (fun h83 => ?_)
                          · exfalso; omega
                          · refine zw_b (by omega) ?_
                            have r84 : 0 ≤ (m81 a0 7) ∧ (m81 a0 7) ≤ 700 := zi_rd hIm81 hc0 zb_28_7
                            have r85 : 0 ≤ (m81 a0 8) ∧ (m81 a0 8) ≤ 6 := zi_rd hIm81 hc0 zb_28_8
                            have e86 : (m81 a0 8) = (m70 a0 8) := (Eq.trans (zs_ne hmm81 (Or.inr (by decide))) (zs_ne hmm78 (Or.inr (by decide))))
                            have r87 : (-2147483648) ≤ (m81 a0 4) ∧ (m81 a0 4) ≤ 2147483647 := zi_rd hIm81 hc0 zb_28_4
                            have e88 : (m81 a0 4) = 2 := (Eq.trans (zs_ne hmm81 (Or.inr (by decide))) (zs_eq hmm78))
                            exact zw_some ⟨hIm81, hFm81, hRC0m81, hRCRm81, hRLRm81, hRNSm81, hRTRm81, hRWDm81, ⟨by omega, by omega⟩, by omega, by omega, by omega⟩
                    · refine zw_ite (fun h89 => ?_) (fun h89 => ?_)
                      · refine zw_b (by omega) ?_
                        refine zw_some ?_
                        refine zw_ite (fun h90 => ?_) (fun h90 => ?_)
                        · exfalso; omega
                        · refine zw_bd (zw_eq (zu_call_at (zt_T n) (zm_85 n) (zdp_85 n) _ _ _ _ _ rfl (zr_85_0 n _ _ a0 2 m70)) ?_)
                          generalize hmm91 : zu_up m70 a0 4 2 = m91
                          have hIm91 := zi_up hmm91 hIm70 hc0 zb_28_4 (by omega) (by omega)
                          have hFm91 := zfr_up hmm91 hFm70 hc0 rfl
                          have hRC0m91 := zR_C0_fr (zdis_fr (zfr_up hmm91 (zfr_rf [(28, 5)] _) hc0 rfl) rfl) hRC0m70
                          have hRCRm91 := zR_CR_fr (zdis_fr (zfr_up hmm91 (zfr_rf [(28, 5)] _) hc0 rfl) rfl) hRCRm70
                          have hRNSm91 := zR_NS_fr (zdis_fr (zfr_up hmm91 (zfr_rf [(28, 5)] _) hc0 rfl) rfl) hRNSm70
                          have hRTRm91 := zR_TR_fr (zdis_fr (zfr_up hmm91 (zfr_rf [(28, 5)] _) hc0 rfl) rfl) hRTRm70
                          have hRWDm91 := zR_WD_fr (zdis_fr (zfr_up hmm91 (zfr_rf [(28, 5)] _) hc0 rfl) rfl) hRWDm70
                          have hRLRm91 := zLR_wr (zone_190 hc0) hmm91 (by decide)
                          have r92 : 0 ≤ (m91 a0 10) ∧ (m91 a0 10) ≤ 700 := zi_rd hIm91 hc0 zb_28_10
                          have e93 : (m91 a0 10) = (m62 a0 10) := (Eq.trans (zs_ne hmm91 (Or.inr (by decide))) (zs_ne hmm70 (Or.inr (by decide))))
                          generalize hmm94 : zu_up m91 a0 5 (m91 a0 10) = m94
                          have hIm94 := zi_up hmm94 hIm91 hc0 zb_28_5 (by omega) (by omega)
                          have hFm94 := zfr_up hmm94 hFm91 hc0 rfl
                          have hRC0m94 := zR_C0_fr (zdis_fr (zfr_up hmm94 (zfr_rf [(28, 6)] _) hc0 rfl) rfl) hRC0m91
                          have hRCRm94 := zR_CR_fr (zdis_fr (zfr_up hmm94 (zfr_rf [(28, 6)] _) hc0 rfl) rfl) hRCRm91
                          have hRLRm94 := zR_LR_fr (zdis_fr (zfr_up hmm94 (zfr_rf [(28, 6)] _) hc0 rfl) rfl) hRLRm91
                          have hRNSm94 := zR_NS_fr (zdis_fr (zfr_up hmm94 (zfr_rf [(28, 6)] _) hc0 rfl) rfl) hRNSm91
                          have hRTRm94 := zR_TR_fr (zdis_fr (zfr_up hmm94 (zfr_rf [(28, 6)] _) hc0 rfl) rfl) hRTRm91
                          have hRWDm94 := zR_WD_fr (zdis_fr (zfr_up hmm94 (zfr_rf [(28, 6)] _) hc0 rfl) rfl) hRWDm91
                          refine zw_b (by omega) ?_
                          refine zw_some ?_
                          refine zw_b (by omega) ?_
                          refine zw_some ?_
                          refine zw_ite (fun h95 => ?_) (fun h95 => ?_)
                          · exfalso; omega
                          · refine zw_b (by omega) ?_
                            refine zw_some ?_
                            refine zw_ite (fun h96 => ?_) (fun h96 => ?_)
                            · exfalso; omega
                            · refine zw_b (by omega) ?_
                              have r97 : 0 ≤ (m94 a0 7) ∧ (m94 a0 7) ≤ 700 := zi_rd hIm94 hc0 zb_28_7
                              have r98 : 0 ≤ (m94 a0 8) ∧ (m94 a0 8) ≤ 6 := zi_rd hIm94 hc0 zb_28_8
                              have e99 : (m94 a0 8) = (m70 a0 8) := (Eq.trans (zs_ne hmm94 (Or.inr (by decide))) (zs_ne hmm91 (Or.inr (by decide))))
                              have r100 : (-2147483648) ≤ (m94 a0 4) ∧ (m94 a0 4) ≤ 2147483647 := zi_rd hIm94 hc0 zb_28_4
                              have e101 : (m94 a0 4) = 2 := (Eq.trans (zs_ne hmm94 (Or.inr (by decide))) (zs_eq hmm91))
                              exact zw_some ⟨hIm94, hFm94, hRC0m94, hRCRm94, hRLRm94, hRNSm94, hRTRm94, hRWDm94, ⟨by omega, by omega⟩, by omega, by omega, by omega⟩
                      · refine zw_b (by omega) ?_
                        refine zw_some ?_
                        refine zw_ite (fun h102 => ?_) (fun h102 => ?_)
                        · generalize hmm103 : zu_up m70 a0 11 (m70 a0 9) = m103
                          have hIm103 := zi_up hmm103 hIm70 hc0 zb_28_11 (by omega) (by omega)
                          have hFm103 := zfr_up hmm103 hFm70 hc0 rfl
                          have hRC0m103 := zR_C0_fr (zdis_fr (zfr_up hmm103 (zfr_rf [(28, 12)] _) hc0 rfl) rfl) hRC0m70
                          have hRCRm103 := zR_CR_fr (zdis_fr (zfr_up hmm103 (zfr_rf [(28, 12)] _) hc0 rfl) rfl) hRCRm70
                          have hRLRm103 := zR_LR_fr (zdis_fr (zfr_up hmm103 (zfr_rf [(28, 12)] _) hc0 rfl) rfl) hRLRm70
                          have hRNSm103 := zR_NS_fr (zdis_fr (zfr_up hmm103 (zfr_rf [(28, 12)] _) hc0 rfl) rfl) hRNSm70
                          have hRTRm103 := zR_TR_fr (zdis_fr (zfr_up hmm103 (zfr_rf [(28, 12)] _) hc0 rfl) rfl) hRTRm70
                          have hRWDm103 := zR_WD_fr (zdis_fr (zfr_up hmm103 (zfr_rf [(28, 12)] _) hc0 rfl) rfl) hRWDm70
                          refine zw_bd (zw_mono (zk_89 n hIm103 hc0 hRNSm103 hRWDm103) (fun v105 m104 hqm104 => ?_))
                          obtain ⟨hIm104, hfm104, hvm104⟩ := hqm104
                          have hFm104 := zfr_tr hFm103 hfm104 rfl
                          obtain ⟨hRNSm104, hRTRm104, hRWDm104, hvm104⟩ := hvm104
                          have hRC0m104 := zR_C0_fr (zdis_fr hfm104 rfl) hRC0m103
                          have hRCRm104 := zR_CR_fr (zdis_fr hfm104 rfl) hRCRm103
                          have hRLRm104 := zR_LR_fr (zdis_fr hfm104 rfl) hRLRm103
                          have s106 := hRNSm104 a0 hc0
                          have s107 := hRTRm104 a0 hc0
                          refine zw_b (by omega) ?_
                          refine zw_some ?_
                          refine zw_ite (fun h108 => ?_) (fun h108 => ?_)
                          · have r109 : 1 ≤ (m104 a0 17) ∧ (m104 a0 17) ≤ 8 := zi_rd hIm104 hc0 zb_28_17
                            have e110 : (m104 a0 17) = (m30 a0 17) := (Eq.trans (zfr_ap hfm104 hc0 rfl) (Eq.trans (zs_ne hmm103 (Or.inr (by decide))) (Eq.trans (zs_ne hmm70 (Or.inr (by decide))) (Eq.trans (zfr_ap hfm62 hc0 rfl) (zs_ne hmm61 (Or.inr (by decide)))))))
                            have r111 : (-2147483648) ≤ (m104 a0 11) ∧ (m104 a0 11) ≤ 2147483647 := zi_rd hIm104 hc0 zb_28_11
                            have e112 : (m104 a0 11) = (m70 a0 9) := (Eq.trans (zfr_ap hfm104 hc0 rfl) (zs_eq hmm103))
                            have p113 := zmul_bd (x := (m104 a0 17)) (y := (m104 a0 11)) (a := 1) (b := 0) (A := 8) (B := 5) (by omega) (by omega) (by omega) (by omega) (by omega) (by omega)
                            have w114 := zu_w32_id (z := (m104 a0 17) * (m104 a0 11)) (by omega) (by omega)
                            have w115 := zu_w32_id (z := (zu_w32 ((m104 a0 17) * (m104 a0 11))) + (m62 a0 11)) (by omega) (by omega)
                            have r116 : 1 ≤ (m104 a0 18) ∧ (m104 a0 18) ≤ 6 := zi_rd hIm104 hc0 zb_28_18
                            have e117 : (m104 a0 18) = (m70 a0 18) := (Eq.trans (zfr_ap hfm104 hc0 rfl) (zs_ne hmm103 (Or.inr (by decide))))
                            have hgl : (zu_w32 ((zu_w32 ((m104 a0 17) * (m104 a0 11))) + (m62 a0 11))) < (m104 a0 17) * (m104 a0 18) := zcell_lt2 (n := (m104 a0 11)) (x := (m62 a0 11)) rfl (by omega) (by omega) (by omega) (by omega) (by omega)
                            generalize hmm118 : zu_up m104 a0 11 (zu_w32 ((zu_w32 ((m104 a0 17) * (m104 a0 11))) + (m62 a0 11))) = m118
                            have hIm118 := zi_up hmm118 hIm104 hc0 zb_28_11 (by omega) (by omega)
                            have hFm118 := zfr_up hmm118 hFm104 hc0 rfl
                            have hRC0m118 := zR_C0_fr (zdis_fr (zfr_up hmm118 (zfr_rf [(28, 12)] _) hc0 rfl) rfl) hRC0m104
                            have hRCRm118 := zR_CR_fr (zdis_fr (zfr_up hmm118 (zfr_rf [(28, 12)] _) hc0 rfl) rfl) hRCRm104
                            have hRLRm118 := zR_LR_fr (zdis_fr (zfr_up hmm118 (zfr_rf [(28, 12)] _) hc0 rfl) rfl) hRLRm104
                            have hRNSm118 := zR_NS_fr (zdis_fr (zfr_up hmm118 (zfr_rf [(28, 12)] _) hc0 rfl) rfl) hRNSm104
                            have hRTRm118 := zR_TR_fr (zdis_fr (zfr_up hmm118 (zfr_rf [(28, 12)] _) hc0 rfl) rfl) hRTRm104
                            have hRWDm118 := zR_WD_fr (zdis_fr (zfr_up hmm118 (zfr_rf [(28, 12)] _) hc0 rfl) rfl) hRWDm104
                            refine zw_b (by omega) ?_
                            refine zw_some ?_
                            refine zw_ite (fun h119 => ?_) (fun h119 => ?_)
                            · have r120 : (-2147483648) ≤ (m118 a0 11) ∧ (m118 a0 11) ≤ 2147483647 := zi_rd hIm118 hc0 zb_28_11
                              have e121 : (m118 a0 11) = (zu_w32 ((zu_w32 ((m104 a0 17) * (m104 a0 11))) + (m62 a0 11))) := (zs_eq hmm118)
                              have b122 : 0 ≤ (zu_w32 (4 + (m14 a0 20))) ∧ (zu_w32 (4 + (m14 a0 20))) < 8 := by omega
                              refine zw_if b122 ?_
                              generalize hmm123 : zu_up m118 201 (zu_w32 (4 + (m14 a0 20))) (m118 a0 11) = m123
                              have hIm123 := zi_up hmm123 hIm118 zq_201 (zb_110 _) (by omega) (by omega)
                              have hFm123 := zfr_up hmm123 hFm118 zq_201 rfl
                              have hRLRm123 := zR_LR_fr (zdis_fr (zfr_up hmm123 (zfr_rf [(110, 0)] _) zq_201 rfl) rfl) hRLRm118
                              have hRNSm123 := zR_NS_fr (zdis_fr (zfr_up hmm123 (zfr_rf [(110, 0)] _) zq_201 rfl) rfl) hRNSm118
                              have hRTRm123 := zR_TR_fr (zdis_fr (zfr_up hmm123 (zfr_rf [(110, 0)] _) zq_201 rfl) rfl) hRTRm118
                              have hRWDm123 := zR_WD_fr (zdis_fr (zfr_up hmm123 (zfr_rf [(110, 0)] _) zq_201 rfl) rfl) hRWDm118
                              have r124 : 0 ≤ (m118 a0 20) ∧ (m118 a0 20) ≤ 4 := zi_rd hIm118 hc0 zb_28_20
                              have e125 : (m118 a0 20) = (m14 a0 20) := (Eq.trans (zs_ne hmm118 (Or.inr (by decide))) (Eq.trans (zfr_ap hfm104 hc0 rfl) (Eq.trans (zs_ne hmm103 (Or.inr (by decide))) (Eq.trans (zs_ne hmm70 (Or.inr (by decide))) (Eq.trans (zfr_ap hfm62 hc0 rfl) (Eq.trans (zs_ne hmm61 (Or.inr (by decide))) (Eq.trans (zs_ne hmm30 (Or.inr (by decide))) (Eq.trans (zfr_ap hfm26 hc0 rfl) (zs_ne hmm25 (Or.inl (zc_ne hc0 zq_200 (by decide))))))))))))
                              have hRC0m123 := zC0_hi hmm123 (by omega) hRC0m118
                              have hRCRm123 := zCR_hi (zone_190 hc0) hmm123 (by omega) hRCRm118
                              refine zw_bd (zw_eq (zu_call_at (zt_T n) (zm_94 n) (zdp_94 n) _ _ _ _ _ rfl (zr_94_0 n _ _ a0 1 15 m123)) ?_)
                              have r126 : 0 ≤ (m123 a0 8) ∧ (m123 a0 8) ≤ 6 := zi_rd hIm123 hc0 zb_28_8
                              refine zw_ite (fun h127 => ?_) (fun h127 => ?_)
                              · have r128 : (-2147483648) ≤ (m123 a0 9) ∧ (m123 a0 9) ≤ 2147483647 := zi_rd hIm123 hc0 zb_28_9
                                refine zw_bd (zw_eq (zu_call_at (zt_T n) (zm_83 n) (zdp_83 n) _ _ _ _ _ rfl (zr_83_0 n _ _ (m123 a0 9) 1 15 m123)) ?_)
                                refine zw_ite (fun h129 => ?_) (fun h129 => ?_)
                                · refine zw_b (by omega) ?_
                                  refine zw_some ?_
                                  refine zw_ite (fun h130 => ?_) (fun h130 => ?_)
                                  · exfalso; omega
                                  · refine zw_bd (zw_eq (zu_call_at (zt_T n) (zm_85 n) (zdp_85 n) _ _ _ _ _ rfl (zr_85_0 n _ _ a0 2 m123)) ?_)
                                    generalize hmm131 : zu_up m123 a0 4 2 = m131
                                    have hIm131 := zi_up hmm131 hIm123 hc0 zb_28_4 (by omega) (by omega)
                                    have hFm131 := zfr_up hmm131 hFm123 hc0 rfl
                                    have hRC0m131 := zR_C0_fr (zdis_fr (zfr_up hmm131 (zfr_rf [(28, 5)] _) hc0 rfl) rfl) hRC0m123
                                    have hRCRm131 := zR_CR_fr (zdis_fr (zfr_up hmm131 (zfr_rf [(28, 5)] _) hc0 rfl) rfl) hRCRm123
                                    have hRNSm131 := zR_NS_fr (zdis_fr (zfr_up hmm131 (zfr_rf [(28, 5)] _) hc0 rfl) rfl) hRNSm123
                                    have hRTRm131 := zR_TR_fr (zdis_fr (zfr_up hmm131 (zfr_rf [(28, 5)] _) hc0 rfl) rfl) hRTRm123
                                    have hRWDm131 := zR_WD_fr (zdis_fr (zfr_up hmm131 (zfr_rf [(28, 5)] _) hc0 rfl) rfl) hRWDm123
                                    have hRLRm131 := zLR_wr (zone_190 hc0) hmm131 (by decide)
                                    have r132 : 0 ≤ (m131 a0 10) ∧ (m131 a0 10) ≤ 700 := zi_rd hIm131 hc0 zb_28_10
                                    generalize hmm133 : zu_up m131 a0 5 (m131 a0 10) = m133
                                    have hIm133 := zi_up hmm133 hIm131 hc0 zb_28_5 (by omega) (by omega)
                                    have hFm133 := zfr_up hmm133 hFm131 hc0 rfl
                                    have hRC0m133 := zR_C0_fr (zdis_fr (zfr_up hmm133 (zfr_rf [(28, 6)] _) hc0 rfl) rfl) hRC0m131
                                    have hRCRm133 := zR_CR_fr (zdis_fr (zfr_up hmm133 (zfr_rf [(28, 6)] _) hc0 rfl) rfl) hRCRm131
                                    have hRLRm133 := zR_LR_fr (zdis_fr (zfr_up hmm133 (zfr_rf [(28, 6)] _) hc0 rfl) rfl) hRLRm131
                                    have hRNSm133 := zR_NS_fr (zdis_fr (zfr_up hmm133 (zfr_rf [(28, 6)] _) hc0 rfl) rfl) hRNSm131
                                    have hRTRm133 := zR_TR_fr (zdis_fr (zfr_up hmm133 (zfr_rf [(28, 6)] _) hc0 rfl) rfl) hRTRm131
                                    have hRWDm133 := zR_WD_fr (zdis_fr (zfr_up hmm133 (zfr_rf [(28, 6)] _) hc0 rfl) rfl) hRWDm131
                                    refine zw_b (by omega) ?_
                                    refine zw_some ?_
                                    refine zw_b (by omega) ?_
                                    refine zw_some ?_
                                    refine zw_ite (fun h134 => ?_) (fun h134 => ?_)
                                    · exfalso; omega
                                    · refine zw_b (by omega) ?_
                                      have r135 : 0 ≤ (m133 a0 7) ∧ (m133 a0 7) ≤ 700 := zi_rd hIm133 hc0 zb_28_7
                                      have r136 : 0 ≤ (m133 a0 8) ∧ (m133 a0 8) ≤ 6 := zi_rd hIm133 hc0 zb_28_8
                                      have e137 : (m133 a0 8) = (m123 a0 8) := (Eq.trans (zs_ne hmm133 (Or.inr (by decide))) (zs_ne hmm131 (Or.inr (by decide))))
                                      have r138 : (-2147483648) ≤ (m133 a0 4) ∧ (m133 a0 4) ≤ 2147483647 := zi_rd hIm133 hc0 zb_28_4
                                      have e139 : (m133 a0 4) = 2 := (Eq.trans (zs_ne hmm133 (Or.inr (by decide))) (zs_eq hmm131))
                                      exact zw_some ⟨hIm133, hFm133, hRC0m133, hRCRm133, hRLRm133, hRNSm133, hRTRm133, hRWDm133, ⟨by omega, by omega⟩, by omega, by omega, by omega⟩
                                · refine zw_ite (fun h140 => ?_) (fun h140 => ?_)
                                  · refine zw_b (by omega) ?_
                                    refine zw_some ?_
                                    refine zw_ite (fun h141 => ?_) (fun h141 => ?_)
                                    · exfalso; omega
                                    · refine zw_bd (zw_eq (zu_call_at (zt_T n) (zm_85 n) (zdp_85 n) _ _ _ _ _ rfl (zr_85_0 n _ _ a0 2 m123)) ?_)
                                      generalize hmm142 : zu_up m123 a0 4 2 = m142
                                      have hIm142 := zi_up hmm142 hIm123 hc0 zb_28_4 (by omega) (by omega)
                                      have hFm142 := zfr_up hmm142 hFm123 hc0 rfl
                                      have hRC0m142 := zR_C0_fr (zdis_fr (zfr_up hmm142 (zfr_rf [(28, 5)] _) hc0 rfl) rfl) hRC0m123
                                      have hRCRm142 := zR_CR_fr (zdis_fr (zfr_up hmm142 (zfr_rf [(28, 5)] _) hc0 rfl) rfl) hRCRm123
                                      have hRNSm142 := zR_NS_fr (zdis_fr (zfr_up hmm142 (zfr_rf [(28, 5)] _) hc0 rfl) rfl) hRNSm123
                                      have hRTRm142 := zR_TR_fr (zdis_fr (zfr_up hmm142 (zfr_rf [(28, 5)] _) hc0 rfl) rfl) hRTRm123
                                      have hRWDm142 := zR_WD_fr (zdis_fr (zfr_up hmm142 (zfr_rf [(28, 5)] _) hc0 rfl) rfl) hRWDm123
                                      have hRLRm142 := zLR_wr (zone_190 hc0) hmm142 (by decide)
                                      have r143 : 0 ≤ (m142 a0 10) ∧ (m142 a0 10) ≤ 700 := zi_rd hIm142 hc0 zb_28_10
                                      generalize hmm144 : zu_up m142 a0 5 (m142 a0 10) = m144
                                      have hIm144 := zi_up hmm144 hIm142 hc0 zb_28_5 (by omega) (by omega)
                                      have hFm144 := zfr_up hmm144 hFm142 hc0 rfl
                                      have hRC0m144 := zR_C0_fr (zdis_fr (zfr_up hmm144 (zfr_rf [(28, 6)] _) hc0 rfl) rfl) hRC0m142
                                      have hRCRm144 := zR_CR_fr (zdis_fr (zfr_up hmm144 (zfr_rf [(28, 6)] _) hc0 rfl) rfl) hRCRm142
                                      have hRLRm144 := zR_LR_fr (zdis_fr (zfr_up hmm144 (zfr_rf [(28, 6)] _) hc0 rfl) rfl) hRLRm142
                                      have hRNSm144 := zR_NS_fr (zdis_fr (zfr_up hmm144 (zfr_rf [(28, 6)] _) hc0 rfl) rfl) hRNSm142
                                      have hRTRm144 := zR_TR_fr (zdis_fr (zfr_up hmm144 (zfr_rf [(28, 6)] _) hc0 rfl) rfl) hRTRm142
                                      have hRWDm144 := zR_WD_fr (zdis_fr (zfr_up hmm144 (zfr_rf [(28, 6)] _) hc0 rfl) rfl) hRWDm142
                                      refine zw_b (by omega) ?_
                                      refine zw_some ?_
                                      refine zw_b (by omega) ?_
                                      refine zw_some ?_
                                      refine zw_ite (fun h145 => ?_) (fun h145 => ?_)
                                      · exfalso; omega
                                      · refine zw_b (by omega) ?_
                                        have r146 : 0 ≤ (m144 a0 7) ∧ (m144 a0 7) ≤ 700 := zi_rd hIm144 hc0 zb_28_7
                                        have r147 : 0 ≤ (m144 a0 8) ∧ (m144 a0 8) ≤ 6 := zi_rd hIm144 hc0 zb_28_8
                                        have e148 : (m144 a0 8) = (m123 a0 8) := (Eq.trans (zs_ne hmm144 (Or.inr (by decide))) (zs_ne hmm142 (Or.inr (by decide))))
                                        have r149 : (-2147483648) ≤ (m144 a0 4) ∧ (m144 a0 4) ≤ 2147483647 := zi_rd hIm144 hc0 zb_28_4
                                        have e150 : (m144 a0 4) = 2 := (Eq.trans (zs_ne hmm144 (Or.inr (by decide))) (zs_eq hmm142))
                                        exact zw_some ⟨hIm144, hFm144, hRC0m144, hRCRm144, hRLRm144, hRNSm144, hRTRm144, hRWDm144, ⟨by omega, by omega⟩, by omega, by omega, by omega⟩
                                  · refine zw_b (by omega) ?_
                                    refine zw_some ?_
                                    refine zw_ite (fun h151 => ?_) (fun h151 => ?_)
                                    · generalize hmm152 : zu_up m123 a0 11 (m123 a0 9) = m152
                                      have hIm152 := zi_up hmm152 hIm123 hc0 zb_28_11 (by omega) (by omega)
                                      have hFm152 := zfr_up hmm152 hFm123 hc0 rfl
                                      have hRC0m152 := zR_C0_fr (zdis_fr (zfr_up hmm152 (zfr_rf [(28, 12)] _) hc0 rfl) rfl) hRC0m123
                                      have hRCRm152 := zR_CR_fr (zdis_fr (zfr_up hmm152 (zfr_rf [(28, 12)] _) hc0 rfl) rfl) hRCRm123
                                      have hRLRm152 := zR_LR_fr (zdis_fr (zfr_up hmm152 (zfr_rf [(28, 12)] _) hc0 rfl) rfl) hRLRm123
                                      have hRNSm152 := zR_NS_fr (zdis_fr (zfr_up hmm152 (zfr_rf [(28, 12)] _) hc0 rfl) rfl) hRNSm123
                                      have hRTRm152 := zR_TR_fr (zdis_fr (zfr_up hmm152 (zfr_rf [(28, 12)] _) hc0 rfl) rfl) hRTRm123
                                      have hRWDm152 := zR_WD_fr (zdis_fr (zfr_up hmm152 (zfr_rf [(28, 12)] _) hc0 rfl) rfl) hRWDm123
                                      refine zw_bd (zw_mono (zk_89 n hIm152 hc0 hRNSm152 hRWDm152) (fun v154 m153 hqm153 => ?_))
                                      obtain ⟨hIm153, hfm153, hvm153⟩ := hqm153
                                      have hFm153 := zfr_tr hFm152 hfm153 rfl
                                      obtain ⟨hRNSm153, hRTRm153, hRWDm153, hvm153⟩ := hvm153
                                      have hRC0m153 := zR_C0_fr (zdis_fr hfm153 rfl) hRC0m152
                                      have hRCRm153 := zR_CR_fr (zdis_fr hfm153 rfl) hRCRm152
                                      have hRLRm153 := zR_LR_fr (zdis_fr hfm153 rfl) hRLRm152
                                      have s155 := hRNSm153 a0 hc0
                                      have s156 := hRTRm153 a0 hc0
                                      refine zw_b (by omega) ?_
                                      refine zw_some ?_
                                      refine zw_ite (fun h157 => ?_) (fun h157 => ?_)
                                      · have r158 : (-2147483648) ≤ (m153 a0 11) ∧ (m153 a0 11) ≤ 2147483647 := zi_rd hIm153 hc0 zb_28_11
                                        have e159 : (m153 a0 11) = (m123 a0 9) := (Eq.trans (zfr_ap hfm153 hc0 rfl) (zs_eq hmm152))
                                        have b160 : 0 ≤ (zu_w32 (4 + (m14 a0 20))) ∧ (zu_w32 (4 + (m14 a0 20))) < 8 := by omega
                                        refine zw_if b160 ?_
                                        generalize hmm161 : zu_up m153 202 (zu_w32 (4 + (m14 a0 20))) (m153 a0 11) = m161
                                        have hIm161 := zi_up hmm161 hIm153 zq_202 (zb_111 _) (by omega) (by omega)
                                        have hFm161 := zfr_up hmm161 hFm153 zq_202 rfl
                                        have hRC0m161 := zR_C0_fr (zdis_fr (zfr_up hmm161 (zfr_rf [(111, 0)] _) zq_202 rfl) rfl) hRC0m153
                                        have hRCRm161 := zR_CR_fr (zdis_fr (zfr_up hmm161 (zfr_rf [(111, 0)] _) zq_202 rfl) rfl) hRCRm153
                                        have hRLRm161 := zR_LR_fr (zdis_fr (zfr_up hmm161 (zfr_rf [(111, 0)] _) zq_202 rfl) rfl) hRLRm153
                                        have hRNSm161 := zR_NS_fr (zdis_fr (zfr_up hmm161 (zfr_rf [(111, 0)] _) zq_202 rfl) rfl) hRNSm153
                                        have hRTRm161 := zR_TR_fr (zdis_fr (zfr_up hmm161 (zfr_rf [(111, 0)] _) zq_202 rfl) rfl) hRTRm153
                                        have hRWDm161 := zR_WD_fr (zdis_fr (zfr_up hmm161 (zfr_rf [(111, 0)] _) zq_202 rfl) rfl) hRWDm153
                                        refine zw_bd (zw_eq (zu_call_at (zt_T n) (zm_94 n) (zdp_94 n) _ _ _ _ _ rfl (zr_94_0 n _ _ a0 0 3 m161)) ?_)
                                        have r162 : 0 ≤ (m161 a0 8) ∧ (m161 a0 8) ≤ 6 := zi_rd hIm161 hc0 zb_28_8
                                        refine zw_ite (fun h163 => ?_) (fun h163 => ?_)
                                        · have r164 : (-2147483648) ≤ (m161 a0 9) ∧ (m161 a0 9) ≤ 2147483647 := zi_rd hIm161 hc0 zb_28_9
                                          refine zw_bd (zw_eq (zu_call_at (zt_T n) (zm_83 n) (zdp_83 n) _ _ _ _ _ rfl (zr_83_0 n _ _ (m161 a0 9) 0 3 m161)) ?_)
                                          refine zw_ite (fun h165 => ?_) (fun h165 => ?_)
                                          · refine zw_b (by omega) ?_
                                            refine zw_some ?_
                                            refine zw_ite (fun h166 => ?_) (fun h166 => ?_)
                                            · exfalso; omega
                                            · refine zw_bd (zw_eq (zu_call_at (zt_T n) (zm_85 n) (zdp_85 n) _ _ _ _ _ rfl (zr_85_0 n _ _ a0 2 m161)) ?_)
                                              generalize hmm167 : zu_up m161 a0 4 2 = m167
                                              have hIm167 := zi_up hmm167 hIm161 hc0 zb_28_4 (by omega) (by omega)
                                              have hFm167 := zfr_up hmm167 hFm161 hc0 rfl
                                              have hRC0m167 := zR_C0_fr (zdis_fr (zfr_up hmm167 (zfr_rf [(28, 5)] _) hc0 rfl) rfl) hRC0m161
                                              have hRCRm167 := zR_CR_fr (zdis_fr (zfr_up hmm167 (zfr_rf [(28, 5)] _) hc0 rfl) rfl) hRCRm161
                                              have hRNSm167 := zR_NS_fr (zdis_fr (zfr_up hmm167 (zfr_rf [(28, 5)] _) hc0 rfl) rfl) hRNSm161
                                              have hRTRm167 := zR_TR_fr (zdis_fr (zfr_up hmm167 (zfr_rf [(28, 5)] _) hc0 rfl) rfl) hRTRm161
                                              have hRWDm167 := zR_WD_fr (zdis_fr (zfr_up hmm167 (zfr_rf [(28, 5)] _) hc0 rfl) rfl) hRWDm161
                                              have hRLRm167 := zLR_wr (zone_190 hc0) hmm167 (by decide)
                                              have r168 : 0 ≤ (m167 a0 10) ∧ (m167 a0 10) ≤ 700 := zi_rd hIm167 hc0 zb_28_10
                                              generalize hmm169 : zu_up m167 a0 5 (m167 a0 10) = m169
                                              have hIm169 := zi_up hmm169 hIm167 hc0 zb_28_5 (by omega) (by omega)
                                              have hFm169 := zfr_up hmm169 hFm167 hc0 rfl
                                              have hRC0m169 := zR_C0_fr (zdis_fr (zfr_up hmm169 (zfr_rf [(28, 6)] _) hc0 rfl) rfl) hRC0m167
                                              have hRCRm169 := zR_CR_fr (zdis_fr (zfr_up hmm169 (zfr_rf [(28, 6)] _) hc0 rfl) rfl) hRCRm167
                                              have hRLRm169 := zR_LR_fr (zdis_fr (zfr_up hmm169 (zfr_rf [(28, 6)] _) hc0 rfl) rfl) hRLRm167
                                              have hRNSm169 := zR_NS_fr (zdis_fr (zfr_up hmm169 (zfr_rf [(28, 6)] _) hc0 rfl) rfl) hRNSm167
                                              have hRTRm169 := zR_TR_fr (zdis_fr (zfr_up hmm169 (zfr_rf [(28, 6)] _) hc0 rfl) rfl) hRTRm167
                                              have hRWDm169 := zR_WD_fr (zdis_fr (zfr_up hmm169 (zfr_rf [(28, 6)] _) hc0 rfl) rfl) hRWDm167
                                              refine zw_b (by omega) ?_
                                              refine zw_some ?_
                                              refine zw_b (by omega) ?_
                                              refine zw_some ?_
                                              refine zw_ite (fun h170 => ?_) (fun h170 => ?_)
                                              · exfalso; omega
                                              · refine zw_b (by omega) ?_
                                                have r171 : 0 ≤ (m169 a0 7) ∧ (m169 a0 7) ≤ 700 := zi_rd hIm169 hc0 zb_28_7
                                                have r172 : 0 ≤ (m169 a0 8) ∧ (m169 a0 8) ≤ 6 := zi_rd hIm169 hc0 zb_28_8
                                                have e173 : (m169 a0 8) = (m161 a0 8) := (Eq.trans (zs_ne hmm169 (Or.inr (by decide))) (zs_ne hmm167 (Or.inr (by decide))))
                                                have r174 : (-2147483648) ≤ (m169 a0 4) ∧ (m169 a0 4) ≤ 2147483647 := zi_rd hIm169 hc0 zb_28_4
                                                have e175 : (m169 a0 4) = 2 := (Eq.trans (zs_ne hmm169 (Or.inr (by decide))) (zs_eq hmm167))
                                                exact zw_some ⟨hIm169, hFm169, hRC0m169, hRCRm169, hRLRm169, hRNSm169, hRTRm169, hRWDm169, ⟨by omega, by omega⟩, by omega, by omega, by omega⟩
                                          · refine zw_ite (fun h176 => ?_) (fun h176 => ?_)
                                            · refine zw_b (by omega) ?_
                                              refine zw_some ?_
                                              refine zw_ite (fun h177 => ?_) (fun h177 => ?_)
                                              · exfalso; omega
                                              · refine zw_bd (zw_eq (zu_call_at (zt_T n) (zm_85 n) (zdp_85 n) _ _ _ _ _ rfl (zr_85_0 n _ _ a0 2 m161)) ?_)
                                                generalize hmm178 : zu_up m161 a0 4 2 = m178
                                                have hIm178 := zi_up hmm178 hIm161 hc0 zb_28_4 (by omega) (by omega)
                                                have hFm178 := zfr_up hmm178 hFm161 hc0 rfl
                                                have hRC0m178 := zR_C0_fr (zdis_fr (zfr_up hmm178 (zfr_rf [(28, 5)] _) hc0 rfl) rfl) hRC0m161
                                                have hRCRm178 := zR_CR_fr (zdis_fr (zfr_up hmm178 (zfr_rf [(28, 5)] _) hc0 rfl) rfl) hRCRm161
                                                have hRNSm178 := zR_NS_fr (zdis_fr (zfr_up hmm178 (zfr_rf [(28, 5)] _) hc0 rfl) rfl) hRNSm161
                                                have hRTRm178 := zR_TR_fr (zdis_fr (zfr_up hmm178 (zfr_rf [(28, 5)] _) hc0 rfl) rfl) hRTRm161
                                                have hRWDm178 := zR_WD_fr (zdis_fr (zfr_up hmm178 (zfr_rf [(28, 5)] _) hc0 rfl) rfl) hRWDm161
                                                have hRLRm178 := zLR_wr (zone_190 hc0) hmm178 (by decide)
                                                have r179 : 0 ≤ (m178 a0 10) ∧ (m178 a0 10) ≤ 700 := zi_rd hIm178 hc0 zb_28_10
                                                generalize hmm180 : zu_up m178 a0 5 (m178 a0 10) = m180
                                                have hIm180 := zi_up hmm180 hIm178 hc0 zb_28_5 (by omega) (by omega)
                                                have hFm180 := zfr_up hmm180 hFm178 hc0 rfl
                                                have hRC0m180 := zR_C0_fr (zdis_fr (zfr_up hmm180 (zfr_rf [(28, 6)] _) hc0 rfl) rfl) hRC0m178
                                                have hRCRm180 := zR_CR_fr (zdis_fr (zfr_up hmm180 (zfr_rf [(28, 6)] _) hc0 rfl) rfl) hRCRm178
                                                have hRLRm180 := zR_LR_fr (zdis_fr (zfr_up hmm180 (zfr_rf [(28, 6)] _) hc0 rfl) rfl) hRLRm178
                                                have hRNSm180 := zR_NS_fr (zdis_fr (zfr_up hmm180 (zfr_rf [(28, 6)] _) hc0 rfl) rfl) hRNSm178
                                                have hRTRm180 := zR_TR_fr (zdis_fr (zfr_up hmm180 (zfr_rf [(28, 6)] _) hc0 rfl) rfl) hRTRm178
                                                have hRWDm180 := zR_WD_fr (zdis_fr (zfr_up hmm180 (zfr_rf [(28, 6)] _) hc0 rfl) rfl) hRWDm178
                                                refine zw_b (by omega) ?_
                                                refine zw_some ?_
                                                refine zw_b (by omega) ?_
                                                refine zw_some ?_
                                                refine zw_ite (fun h181 => ?_) (fun h181 => ?_)
                                                · exfalso; omega
                                                · refine zw_b (by omega) ?_
                                                  have r182 : 0 ≤ (m180 a0 7) ∧ (m180 a0 7) ≤ 700 := zi_rd hIm180 hc0 zb_28_7
                                                  have r183 : 0 ≤ (m180 a0 8) ∧ (m180 a0 8) ≤ 6 := zi_rd hIm180 hc0 zb_28_8
                                                  have e184 : (m180 a0 8) = (m161 a0 8) := (Eq.trans (zs_ne hmm180 (Or.inr (by decide))) (zs_ne hmm178 (Or.inr (by decide))))
                                                  have r185 : (-2147483648) ≤ (m180 a0 4) ∧ (m180 a0 4) ≤ 2147483647 := zi_rd hIm180 hc0 zb_28_4
                                                  have e186 : (m180 a0 4) = 2 := (Eq.trans (zs_ne hmm180 (Or.inr (by decide))) (zs_eq hmm178))
                                                  exact zw_some ⟨hIm180, hFm180, hRC0m180, hRCRm180, hRLRm180, hRNSm180, hRTRm180, hRWDm180, ⟨by omega, by omega⟩, by omega, by omega, by omega⟩
                                            · refine zw_b (by omega) ?_
                                              refine zw_some ?_
                                              refine zw_ite (fun h187 => ?_) (fun h187 => ?_)
                                              · generalize hmm188 : zu_up m161 a0 11 (m161 a0 9) = m188
                                                have hIm188 := zi_up hmm188 hIm161 hc0 zb_28_11 (by omega) (by omega)
                                                have hFm188 := zfr_up hmm188 hFm161 hc0 rfl
                                                have hRC0m188 := zR_C0_fr (zdis_fr (zfr_up hmm188 (zfr_rf [(28, 12)] _) hc0 rfl) rfl) hRC0m161
                                                have hRCRm188 := zR_CR_fr (zdis_fr (zfr_up hmm188 (zfr_rf [(28, 12)] _) hc0 rfl) rfl) hRCRm161
                                                have hRLRm188 := zR_LR_fr (zdis_fr (zfr_up hmm188 (zfr_rf [(28, 12)] _) hc0 rfl) rfl) hRLRm161
                                                have hRNSm188 := zR_NS_fr (zdis_fr (zfr_up hmm188 (zfr_rf [(28, 12)] _) hc0 rfl) rfl) hRNSm161
                                                have hRTRm188 := zR_TR_fr (zdis_fr (zfr_up hmm188 (zfr_rf [(28, 12)] _) hc0 rfl) rfl) hRTRm161
                                                have hRWDm188 := zR_WD_fr (zdis_fr (zfr_up hmm188 (zfr_rf [(28, 12)] _) hc0 rfl) rfl) hRWDm161
                                                refine zw_bd (zw_mono (zk_89 n hIm188 hc0 hRNSm188 hRWDm188) (fun v190 m189 hqm189 => ?_))
                                                obtain ⟨hIm189, hfm189, hvm189⟩ := hqm189
                                                have hFm189 := zfr_tr hFm188 hfm189 rfl
                                                obtain ⟨hRNSm189, hRTRm189, hRWDm189, hvm189⟩ := hvm189
                                                have hRC0m189 := zR_C0_fr (zdis_fr hfm189 rfl) hRC0m188
                                                have hRCRm189 := zR_CR_fr (zdis_fr hfm189 rfl) hRCRm188
                                                have hRLRm189 := zR_LR_fr (zdis_fr hfm189 rfl) hRLRm188
                                                have s191 := hRNSm189 a0 hc0
                                                have s192 := hRTRm189 a0 hc0
                                                refine zw_b (by omega) ?_
                                                refine zw_some ?_
                                                refine zw_ite (fun h193 => ?_) (fun h193 => ?_)
                                                · have r194 : (-2147483648) ≤ (m189 a0 11) ∧ (m189 a0 11) ≤ 2147483647 := zi_rd hIm189 hc0 zb_28_11
                                                  have e195 : (m189 a0 11) = (m161 a0 9) := (Eq.trans (zfr_ap hfm189 hc0 rfl) (zs_eq hmm188))
                                                  have b196 : 0 ≤ (zu_w32 (4 + (m14 a0 20))) ∧ (zu_w32 (4 + (m14 a0 20))) < 8 := by omega
                                                  refine zw_if b196 ?_
                                                  generalize hmm197 : zu_up m189 203 (zu_w32 (4 + (m14 a0 20))) (m189 a0 11) = m197
                                                  have hIm197 := zi_up hmm197 hIm189 zq_203 (zb_112 _) (by omega) (by omega)
                                                  have hFm197 := zfr_up hmm197 hFm189 zq_203 rfl
                                                  have hRC0m197 := zR_C0_fr (zdis_fr (zfr_up hmm197 (zfr_rf [(112, 0)] _) zq_203 rfl) rfl) hRC0m189
                                                  have hRCRm197 := zR_CR_fr (zdis_fr (zfr_up hmm197 (zfr_rf [(112, 0)] _) zq_203 rfl) rfl) hRCRm189
                                                  have hRLRm197 := zR_LR_fr (zdis_fr (zfr_up hmm197 (zfr_rf [(112, 0)] _) zq_203 rfl) rfl) hRLRm189
                                                  have hRNSm197 := zR_NS_fr (zdis_fr (zfr_up hmm197 (zfr_rf [(112, 0)] _) zq_203 rfl) rfl) hRNSm189
                                                  have hRTRm197 := zR_TR_fr (zdis_fr (zfr_up hmm197 (zfr_rf [(112, 0)] _) zq_203 rfl) rfl) hRTRm189
                                                  have hRWDm197 := zR_WD_fr (zdis_fr (zfr_up hmm197 (zfr_rf [(112, 0)] _) zq_203 rfl) rfl) hRWDm189
                                                  refine zw_bd (zw_eq (zu_call_at (zt_T n) (zm_94 n) (zdp_94 n) _ _ _ _ _ rfl (zr_94_0 n _ _ a0 0 99 m197)) ?_)
                                                  have r198 : 0 ≤ (m197 a0 8) ∧ (m197 a0 8) ≤ 6 := zi_rd hIm197 hc0 zb_28_8
                                                  refine zw_ite (fun h199 => ?_) (fun h199 => ?_)
                                                  · have r200 : (-2147483648) ≤ (m197 a0 9) ∧ (m197 a0 9) ≤ 2147483647 := zi_rd hIm197 hc0 zb_28_9
                                                    refine zw_bd (zw_eq (zu_call_at (zt_T n) (zm_83 n) (zdp_83 n) _ _ _ _ _ rfl (zr_83_0 n _ _ (m197 a0 9) 0 99 m197)) ?_)
                                                    refine zw_ite (fun h201 => ?_) (fun h201 => ?_)
                                                    · refine zw_b (by omega) ?_
                                                      refine zw_some ?_
                                                      refine zw_ite (fun h202 => ?_) (fun h202 => ?_)
                                                      · exfalso; omega
                                                      · refine zw_bd (zw_eq (zu_call_at (zt_T n) (zm_85 n) (zdp_85 n) _ _ _ _ _ rfl (zr_85_0 n _ _ a0 2 m197)) ?_)
                                                        generalize hmm203 : zu_up m197 a0 4 2 = m203
                                                        have hIm203 := zi_up hmm203 hIm197 hc0 zb_28_4 (by omega) (by omega)
                                                        have hFm203 := zfr_up hmm203 hFm197 hc0 rfl
                                                        have hRC0m203 := zR_C0_fr (zdis_fr (zfr_up hmm203 (zfr_rf [(28, 5)] _) hc0 rfl) rfl) hRC0m197
                                                        have hRCRm203 := zR_CR_fr (zdis_fr (zfr_up hmm203 (zfr_rf [(28, 5)] _) hc0 rfl) rfl) hRCRm197
                                                        have hRNSm203 := zR_NS_fr (zdis_fr (zfr_up hmm203 (zfr_rf [(28, 5)] _) hc0 rfl) rfl) hRNSm197
                                                        have hRTRm203 := zR_TR_fr (zdis_fr (zfr_up hmm203 (zfr_rf [(28, 5)] _) hc0 rfl) rfl) hRTRm197
                                                        have hRWDm203 := zR_WD_fr (zdis_fr (zfr_up hmm203 (zfr_rf [(28, 5)] _) hc0 rfl) rfl) hRWDm197
                                                        have hRLRm203 := zLR_wr (zone_190 hc0) hmm203 (by decide)
                                                        have r204 : 0 ≤ (m203 a0 10) ∧ (m203 a0 10) ≤ 700 := zi_rd hIm203 hc0 zb_28_10
                                                        generalize hmm205 : zu_up m203 a0 5 (m203 a0 10) = m205
                                                        have hIm205 := zi_up hmm205 hIm203 hc0 zb_28_5 (by omega) (by omega)
                                                        have hFm205 := zfr_up hmm205 hFm203 hc0 rfl
                                                        have hRC0m205 := zR_C0_fr (zdis_fr (zfr_up hmm205 (zfr_rf [(28, 6)] _) hc0 rfl) rfl) hRC0m203
                                                        have hRCRm205 := zR_CR_fr (zdis_fr (zfr_up hmm205 (zfr_rf [(28, 6)] _) hc0 rfl) rfl) hRCRm203
                                                        have hRLRm205 := zR_LR_fr (zdis_fr (zfr_up hmm205 (zfr_rf [(28, 6)] _) hc0 rfl) rfl) hRLRm203
                                                        have hRNSm205 := zR_NS_fr (zdis_fr (zfr_up hmm205 (zfr_rf [(28, 6)] _) hc0 rfl) rfl) hRNSm203
                                                        have hRTRm205 := zR_TR_fr (zdis_fr (zfr_up hmm205 (zfr_rf [(28, 6)] _) hc0 rfl) rfl) hRTRm203
                                                        have hRWDm205 := zR_WD_fr (zdis_fr (zfr_up hmm205 (zfr_rf [(28, 6)] _) hc0 rfl) rfl) hRWDm203
                                                        refine zw_b (by omega) ?_
                                                        refine zw_some ?_
                                                        refine zw_b (by omega) ?_
                                                        refine zw_some ?_
                                                        refine zw_ite (fun h206 => ?_) (fun h206 => ?_)
                                                        · exfalso; omega
                                                        · refine zw_b (by omega) ?_
                                                          have r207 : 0 ≤ (m205 a0 7) ∧ (m205 a0 7) ≤ 700 := zi_rd hIm205 hc0 zb_28_7
                                                          have r208 : 0 ≤ (m205 a0 8) ∧ (m205 a0 8) ≤ 6 := zi_rd hIm205 hc0 zb_28_8
                                                          have e209 : (m205 a0 8) = (m197 a0 8) := (Eq.trans (zs_ne hmm205 (Or.inr (by decide))) (zs_ne hmm203 (Or.inr (by decide))))
                                                          have r210 : (-2147483648) ≤ (m205 a0 4) ∧ (m205 a0 4) ≤ 2147483647 := zi_rd hIm205 hc0 zb_28_4
                                                          have e211 : (m205 a0 4) = 2 := (Eq.trans (zs_ne hmm205 (Or.inr (by decide))) (zs_eq hmm203))
                                                          exact zw_some ⟨hIm205, hFm205, hRC0m205, hRCRm205, hRLRm205, hRNSm205, hRTRm205, hRWDm205, ⟨by omega, by omega⟩, by omega, by omega, by omega⟩
                                                    · refine zw_ite (fun h212 => ?_) (fun h212 => ?_)
                                                      · refine zw_b (by omega) ?_
                                                        refine zw_some ?_
                                                        refine zw_ite (fun h213 => ?_) (fun h213 => ?_)
                                                        · exfalso; omega
                                                        · refine zw_bd (zw_eq (zu_call_at (zt_T n) (zm_85 n) (zdp_85 n) _ _ _ _ _ rfl (zr_85_0 n _ _ a0 2 m197)) ?_)
                                                          generalize hmm214 : zu_up m197 a0 4 2 = m214
                                                          have hIm214 := zi_up hmm214 hIm197 hc0 zb_28_4 (by omega) (by omega)
                                                          have hFm214 := zfr_up hmm214 hFm197 hc0 rfl
                                                          have hRC0m214 := zR_C0_fr (zdis_fr (zfr_up hmm214 (zfr_rf [(28, 5)] _) hc0 rfl) rfl) hRC0m197
                                                          have hRCRm214 := zR_CR_fr (zdis_fr (zfr_up hmm214 (zfr_rf [(28, 5)] _) hc0 rfl) rfl) hRCRm197
                                                          have hRNSm214 := zR_NS_fr (zdis_fr (zfr_up hmm214 (zfr_rf [(28, 5)] _) hc0 rfl) rfl) hRNSm197
                                                          have hRTRm214 := zR_TR_fr (zdis_fr (zfr_up hmm214 (zfr_rf [(28, 5)] _) hc0 rfl) rfl) hRTRm197
                                                          have hRWDm214 := zR_WD_fr (zdis_fr (zfr_up hmm214 (zfr_rf [(28, 5)] _) hc0 rfl) rfl) hRWDm197
                                                          have hRLRm214 := zLR_wr (zone_190 hc0) hmm214 (by decide)
                                                          have r215 : 0 ≤ (m214 a0 10) ∧ (m214 a0 10) ≤ 700 := zi_rd hIm214 hc0 zb_28_10
                                                          generalize hmm216 : zu_up m214 a0 5 (m214 a0 10) = m216
                                                          have hIm216 := zi_up hmm216 hIm214 hc0 zb_28_5 (by omega) (by omega)
                                                          have hFm216 := zfr_up hmm216 hFm214 hc0 rfl
                                                          have hRC0m216 := zR_C0_fr (zdis_fr (zfr_up hmm216 (zfr_rf [(28, 6)] _) hc0 rfl) rfl) hRC0m214
                                                          have hRCRm216 := zR_CR_fr (zdis_fr (zfr_up hmm216 (zfr_rf [(28, 6)] _) hc0 rfl) rfl) hRCRm214
                                                          have hRLRm216 := zR_LR_fr (zdis_fr (zfr_up hmm216 (zfr_rf [(28, 6)] _) hc0 rfl) rfl) hRLRm214
                                                          have hRNSm216 := zR_NS_fr (zdis_fr (zfr_up hmm216 (zfr_rf [(28, 6)] _) hc0 rfl) rfl) hRNSm214
                                                          have hRTRm216 := zR_TR_fr (zdis_fr (zfr_up hmm216 (zfr_rf [(28, 6)] _) hc0 rfl) rfl) hRTRm214
                                                          have hRWDm216 := zR_WD_fr (zdis_fr (zfr_up hmm216 (zfr_rf [(28, 6)] _) hc0 rfl) rfl) hRWDm214
                                                          refine zw_b (by omega) ?_
                                                          refine zw_some ?_
                                                          refine zw_b (by omega) ?_
                                                          refine zw_some ?_
                                                          refine zw_ite (fun h217 => ?_) (fun h217 => ?_)
                                                          · exfalso; omega
                                                          · refine zw_b (by omega) ?_
                                                            have r218 : 0 ≤ (m216 a0 7) ∧ (m216 a0 7) ≤ 700 := zi_rd hIm216 hc0 zb_28_7
                                                            have r219 : 0 ≤ (m216 a0 8) ∧ (m216 a0 8) ≤ 6 := zi_rd hIm216 hc0 zb_28_8
                                                            have e220 : (m216 a0 8) = (m197 a0 8) := (Eq.trans (zs_ne hmm216 (Or.inr (by decide))) (zs_ne hmm214 (Or.inr (by decide))))
                                                            have r221 : (-2147483648) ≤ (m216 a0 4) ∧ (m216 a0 4) ≤ 2147483647 := zi_rd hIm216 hc0 zb_28_4
                                                            have e222 : (m216 a0 4) = 2 := (Eq.trans (zs_ne hmm216 (Or.inr (by decide))) (zs_eq hmm214))
                                                            exact zw_some ⟨hIm216, hFm216, hRC0m216, hRCRm216, hRLRm216, hRNSm216, hRTRm216, hRWDm216, ⟨by omega, by omega⟩, by omega, by omega, by omega⟩
                                                      · refine zw_b (by omega) ?_
                                                        refine zw_some ?_
                                                        refine zw_ite (fun h223 => ?_) (fun h223 => ?_)
                                                        · generalize hmm224 : zu_up m197 a0 11 (m197 a0 9) = m224
                                                          have hIm224 := zi_up hmm224 hIm197 hc0 zb_28_11 (by omega) (by omega)
                                                          have hFm224 := zfr_up hmm224 hFm197 hc0 rfl
                                                          have hRC0m224 := zR_C0_fr (zdis_fr (zfr_up hmm224 (zfr_rf [(28, 12)] _) hc0 rfl) rfl) hRC0m197
                                                          have hRCRm224 := zR_CR_fr (zdis_fr (zfr_up hmm224 (zfr_rf [(28, 12)] _) hc0 rfl) rfl) hRCRm197
                                                          have hRLRm224 := zR_LR_fr (zdis_fr (zfr_up hmm224 (zfr_rf [(28, 12)] _) hc0 rfl) rfl) hRLRm197
                                                          have hRNSm224 := zR_NS_fr (zdis_fr (zfr_up hmm224 (zfr_rf [(28, 12)] _) hc0 rfl) rfl) hRNSm197
                                                          have hRTRm224 := zR_TR_fr (zdis_fr (zfr_up hmm224 (zfr_rf [(28, 12)] _) hc0 rfl) rfl) hRTRm197
                                                          have hRWDm224 := zR_WD_fr (zdis_fr (zfr_up hmm224 (zfr_rf [(28, 12)] _) hc0 rfl) rfl) hRWDm197
                                                          refine zw_bd (zw_mono (zk_89 n hIm224 hc0 hRNSm224 hRWDm224) (fun v226 m225 hqm225 => ?_))
                                                          obtain ⟨hIm225, hfm225, hvm225⟩ := hqm225
                                                          have hFm225 := zfr_tr hFm224 hfm225 rfl
                                                          obtain ⟨hRNSm225, hRTRm225, hRWDm225, hvm225⟩ := hvm225
                                                          have hRC0m225 := zR_C0_fr (zdis_fr hfm225 rfl) hRC0m224
                                                          have hRCRm225 := zR_CR_fr (zdis_fr hfm225 rfl) hRCRm224
                                                          have hRLRm225 := zR_LR_fr (zdis_fr hfm225 rfl) hRLRm224
                                                          have s227 := hRNSm225 a0 hc0
                                                          have s228 := hRTRm225 a0 hc0
                                                          refine zw_b (by omega) ?_
                                                          refine zw_some ?_
                                                          refine zw_ite (fun h229 => ?_) (fun h229 => ?_)
                                                          · have r230 : (-2147483648) ≤ (m225 a0 11) ∧ (m225 a0 11) ≤ 2147483647 := zi_rd hIm225 hc0 zb_28_11
                                                            have e231 : (m225 a0 11) = (m197 a0 9) := (Eq.trans (zfr_ap hfm225 hc0 rfl) (zs_eq hmm224))
                                                            have b232 : 0 ≤ (zu_w32 (4 + (m14 a0 20))) ∧ (zu_w32 (4 + (m14 a0 20))) < 8 := by omega
                                                            refine zw_if b232 ?_
                                                            generalize hmm233 : zu_up m225 204 (zu_w32 (4 + (m14 a0 20))) (m225 a0 11) = m233
                                                            have hIm233 := zi_up hmm233 hIm225 zq_204 (zb_113 _) (by omega) (by omega)
                                                            have hFm233 := zfr_up hmm233 hFm225 zq_204 rfl
                                                            have hRC0m233 := zR_C0_fr (zdis_fr (zfr_up hmm233 (zfr_rf [(113, 0)] _) zq_204 rfl) rfl) hRC0m225
                                                            have hRCRm233 := zR_CR_fr (zdis_fr (zfr_up hmm233 (zfr_rf [(113, 0)] _) zq_204 rfl) rfl) hRCRm225
                                                            have hRLRm233 := zR_LR_fr (zdis_fr (zfr_up hmm233 (zfr_rf [(113, 0)] _) zq_204 rfl) rfl) hRLRm225
                                                            have hRNSm233 := zR_NS_fr (zdis_fr (zfr_up hmm233 (zfr_rf [(113, 0)] _) zq_204 rfl) rfl) hRNSm225
                                                            have hRTRm233 := zR_TR_fr (zdis_fr (zfr_up hmm233 (zfr_rf [(113, 0)] _) zq_204 rfl) rfl) hRTRm225
                                                            have hRWDm233 := zR_WD_fr (zdis_fr (zfr_up hmm233 (zfr_rf [(113, 0)] _) zq_204 rfl) rfl) hRWDm225
                                                            have r234 : 0 ≤ (m233 a0 20) ∧ (m233 a0 20) ≤ 4 := zi_rd hIm233 hc0 zb_28_20
                                                            have e235 : (m233 a0 20) = (m118 a0 20) := (Eq.trans (zs_ne hmm233 (Or.inl (zc_ne hc0 zq_204 (by decide)))) (Eq.trans (zfr_ap hfm225 hc0 rfl) (Eq.trans (zs_ne hmm224 (Or.inr (by decide))) (Eq.trans (zs_ne hmm197 (Or.inl (zc_ne hc0 zq_203 (by decide)))) (Eq.trans (zfr_ap hfm189 hc0 rfl) (Eq.trans (zs_ne hmm188 (Or.inr (by decide))) (Eq.trans (zs_ne hmm161 (Or.inl (zc_ne hc0 zq_202 (by decide)))) (Eq.trans (zfr_ap hfm153 hc0 rfl) (Eq.trans (zs_ne hmm152 (Or.inr (by decide))) (zs_ne hmm123 (Or.inl (zc_ne hc0 zq_201 (by decide)))))))))))))
                                                            have w236 := zu_w32_id (z := (m233 a0 20) + 1) (by omega) (by omega)
                                                            generalize hmm237 : zu_up m233 a0 20 (zu_w32 ((m233 a0 20) + 1)) = m237
                                                            have hIm237 := zi_up hmm237 hIm233 hc0 zb_28_20 (by omega) (by omega)
                                                            have hFm237 := zfr_up hmm237 hFm233 hc0 rfl
                                                            have hRC0m237 := zR_C0_fr (zdis_fr (zfr_up hmm237 (zfr_rf [(28, 21)] _) hc0 rfl) rfl) hRC0m233
                                                            have hRLRm237 := zR_LR_fr (zdis_fr (zfr_up hmm237 (zfr_rf [(28, 21)] _) hc0 rfl) rfl) hRLRm233
                                                            have hRNSm237 := zR_NS_fr (zdis_fr (zfr_up hmm237 (zfr_rf [(28, 21)] _) hc0 rfl) rfl) hRNSm233
                                                            have hRTRm237 := zR_TR_fr (zdis_fr (zfr_up hmm237 (zfr_rf [(28, 21)] _) hc0 rfl) rfl) hRTRm233
                                                            have hRWDm237 := zR_WD_fr (zdis_fr (zfr_up hmm237 (zfr_rf [(28, 21)] _) hc0 rfl) rfl) hRWDm233
                                                            have r238 : 0 ≤ (m233 201 (zu_w32 (4 + (m14 a0 20)))) ∧ (m233 201 (zu_w32 (4 + (m14 a0 20)))) ≤ 47 := zi_rd hIm233 zq_201 (zb_110 _)
                                                            have e239 : (m233 201 (zu_w32 (4 + (m14 a0 20)))) = (m118 a0 11) := (Eq.trans (zs_ne hmm233 (Or.inl (zc_ne zq_201 zq_204 (by decide)))) (Eq.trans (zfr_ap hfm225 zq_201 rfl) (Eq.trans (zs_ne hmm224 (Or.inl (zc_ne zq_201 hc0 (by decide)))) (Eq.trans (zs_ne hmm197 (Or.inl (zc_ne zq_201 zq_203 (by decide)))) (Eq.trans (zfr_ap hfm189 zq_201 rfl) (Eq.trans (zs_ne hmm188 (Or.inl (zc_ne zq_201 hc0 (by decide)))) (Eq.trans (zs_ne hmm161 (Or.inl (zc_ne zq_201 zq_202 (by decide)))) (Eq.trans (zfr_ap hfm153 zq_201 rfl) (Eq.trans (zs_ne hmm152 (Or.inl (zc_ne zq_201 hc0 (by decide)))) (zs_eq hmm123))))))))))
                                                            have r240 : 0 ≤ (m233 a0 23) ∧ (m233 a0 23) ≤ 1 := zi_rd hIm233 hc0 zb_28_23
                                                            have e241 : (m233 a0 23) = 1 := (Eq.trans (zs_ne hmm233 (Or.inl (zc_ne hc0 zq_204 (by decide)))) (Eq.trans (zfr_ap hfm225 hc0 rfl) (Eq.trans (zs_ne hmm224 (Or.inr (by decide))) (Eq.trans (zs_ne hmm197 (Or.inl (zc_ne hc0 zq_203 (by decide)))) (Eq.trans (zfr_ap hfm189 hc0 rfl) (Eq.trans (zs_ne hmm188 (Or.inr (by decide))) (Eq.trans (zs_ne hmm161 (Or.inl (zc_ne hc0 zq_202 (by decide)))) (Eq.trans (zfr_ap hfm153 hc0 rfl) (Eq.trans (zs_ne hmm152 (Or.inr (by decide))) (Eq.trans (zs_ne hmm123 (Or.inl (zc_ne hc0 zq_201 (by decide)))) (Eq.trans (zs_ne hmm118 (Or.inr (by decide))) (Eq.trans (zfr_ap hfm104 hc0 rfl) (Eq.trans (zs_ne hmm103 (Or.inr (by decide))) (Eq.trans (zs_ne hmm70 (Or.inr (by decide))) (Eq.trans (zfr_ap hfm62 hc0 rfl) (Eq.trans (zs_ne hmm61 (Or.inr (by decide))) (zs_eq hmm30)))))))))))))))))
                                                            have hRCRm237 := zCR_inc (p := (zu_w32 (4 + (m14 a0 20)))) (zone_190 hc0) hmm237 (by omega) (by omega) (by omega) (zlt_pr (by omega) hgl (zprod2 (Eq.trans (zs_ne hmm233 (Or.inl (zc_ne hc0 zq_204 (by decide)))) (Eq.trans (zfr_ap hfm225 hc0 rfl) (Eq.trans (zs_ne hmm224 (Or.inr (by decide))) (Eq.trans (zs_ne hmm197 (Or.inl (zc_ne hc0 zq_203 (by decide)))) (Eq.trans (zfr_ap hfm189 hc0 rfl) (Eq.trans (zs_ne hmm188 (Or.inr (by decide))) (Eq.trans (zs_ne hmm161 (Or.inl (zc_ne hc0 zq_202 (by decide)))) (Eq.trans (zfr_ap hfm153 hc0 rfl) (Eq.trans (zs_ne hmm152 (Or.inr (by decide))) (Eq.trans (zs_ne hmm123 (Or.inl (zc_ne hc0 zq_201 (by decide)))) (zs_ne hmm118 (Or.inr (by decide))))))))))))) (Eq.trans (zs_ne hmm233 (Or.inl (zc_ne hc0 zq_204 (by decide)))) (Eq.trans (zfr_ap hfm225 hc0 rfl) (Eq.trans (zs_ne hmm224 (Or.inr (by decide))) (Eq.trans (zs_ne hmm197 (Or.inl (zc_ne hc0 zq_203 (by decide)))) (Eq.trans (zfr_ap hfm189 hc0 rfl) (Eq.trans (zs_ne hmm188 (Or.inr (by decide))) (Eq.trans (zs_ne hmm161 (Or.inl (zc_ne hc0 zq_202 (by decide)))) (Eq.trans (zfr_ap hfm153 hc0 rfl) (Eq.trans (zs_ne hmm152 (Or.inr (by decide))) (Eq.trans (zs_ne hmm123 (Or.inl (zc_ne hc0 zq_201 (by decide)))) (zs_ne hmm118 (Or.inr (by decide))))))))))))))) hRCRm233
                                                            refine zw_b (by omega) ?_
                                                            have r242 : 0 ≤ (m237 a0 7) ∧ (m237 a0 7) ≤ 700 := zi_rd hIm237 hc0 zb_28_7
                                                            have r243 : 0 ≤ (m237 a0 8) ∧ (m237 a0 8) ≤ 6 := zi_rd hIm237 hc0 zb_28_8
                                                            have r244 : (-2147483648) ≤ (m237 a0 4) ∧ (m237 a0 4) ≤ 2147483647 := zi_rd hIm237 hc0 zb_28_4
                                                            exact zw_some ⟨hIm237, hFm237, hRC0m237, hRCRm237, hRLRm237, hRNSm237, hRTRm237, hRWDm237, ⟨by omega, by omega⟩, by omega, by omega, by omega⟩
                                                          · exfalso; omega
                                                        · exfalso; omega
                                                  · refine zw_bd (zw_eq (zu_call_at (zt_T n) (zm_85 n) (zdp_85 n) _ _ _ _ _ rfl (zr_85_0 n _ _ a0 1 m197)) ?_)
                                                    generalize hmm245 : zu_up m197 a0 4 1 = m245
                                                    have hIm245 := zi_up hmm245 hIm197 hc0 zb_28_4 (by omega) (by omega)
                                                    have hFm245 := zfr_up hmm245 hFm197 hc0 rfl
                                                    have hRC0m245 := zR_C0_fr (zdis_fr (zfr_up hmm245 (zfr_rf [(28, 5)] _) hc0 rfl) rfl) hRC0m197
                                                    have hRCRm245 := zR_CR_fr (zdis_fr (zfr_up hmm245 (zfr_rf [(28, 5)] _) hc0 rfl) rfl) hRCRm197
                                                    have hRNSm245 := zR_NS_fr (zdis_fr (zfr_up hmm245 (zfr_rf [(28, 5)] _) hc0 rfl) rfl) hRNSm197
                                                    have hRTRm245 := zR_TR_fr (zdis_fr (zfr_up hmm245 (zfr_rf [(28, 5)] _) hc0 rfl) rfl) hRTRm197
                                                    have hRWDm245 := zR_WD_fr (zdis_fr (zfr_up hmm245 (zfr_rf [(28, 5)] _) hc0 rfl) rfl) hRWDm197
                                                    have hRLRm245 := zLR_wr (zone_190 hc0) hmm245 (by decide)
                                                    have r246 : 0 ≤ (m245 a0 10) ∧ (m245 a0 10) ≤ 700 := zi_rd hIm245 hc0 zb_28_10
                                                    generalize hmm247 : zu_up m245 a0 5 (m245 a0 10) = m247
                                                    have hIm247 := zi_up hmm247 hIm245 hc0 zb_28_5 (by omega) (by omega)
                                                    have hFm247 := zfr_up hmm247 hFm245 hc0 rfl
                                                    have hRC0m247 := zR_C0_fr (zdis_fr (zfr_up hmm247 (zfr_rf [(28, 6)] _) hc0 rfl) rfl) hRC0m245
                                                    have hRCRm247 := zR_CR_fr (zdis_fr (zfr_up hmm247 (zfr_rf [(28, 6)] _) hc0 rfl) rfl) hRCRm245
                                                    have hRLRm247 := zR_LR_fr (zdis_fr (zfr_up hmm247 (zfr_rf [(28, 6)] _) hc0 rfl) rfl) hRLRm245
                                                    have hRNSm247 := zR_NS_fr (zdis_fr (zfr_up hmm247 (zfr_rf [(28, 6)] _) hc0 rfl) rfl) hRNSm245
                                                    have hRTRm247 := zR_TR_fr (zdis_fr (zfr_up hmm247 (zfr_rf [(28, 6)] _) hc0 rfl) rfl) hRTRm245
                                                    have hRWDm247 := zR_WD_fr (zdis_fr (zfr_up hmm247 (zfr_rf [(28, 6)] _) hc0 rfl) rfl) hRWDm245
                                                    refine zw_b (by omega) ?_
                                                    refine zw_some ?_
                                                    refine zw_b (by omega) ?_
                                                    refine zw_some ?_
                                                    refine zw_ite (fun h248 => ?_) (fun h248 => ?_)
                                                    · exfalso; omega
                                                    · refine zw_b (by omega) ?_
                                                      have r249 : 0 ≤ (m247 a0 7) ∧ (m247 a0 7) ≤ 700 := zi_rd hIm247 hc0 zb_28_7
                                                      have r250 : 0 ≤ (m247 a0 8) ∧ (m247 a0 8) ≤ 6 := zi_rd hIm247 hc0 zb_28_8
                                                      have e251 : (m247 a0 8) = (m197 a0 8) := (Eq.trans (zs_ne hmm247 (Or.inr (by decide))) (zs_ne hmm245 (Or.inr (by decide))))
                                                      have r252 : (-2147483648) ≤ (m247 a0 4) ∧ (m247 a0 4) ≤ 2147483647 := zi_rd hIm247 hc0 zb_28_4
                                                      have e253 : (m247 a0 4) = 1 := (Eq.trans (zs_ne hmm247 (Or.inr (by decide))) (zs_eq hmm245))
                                                      exact zw_some ⟨hIm247, hFm247, hRC0m247, hRCRm247, hRLRm247, hRNSm247, hRTRm247, hRWDm247, ⟨by omega, by omega⟩, by omega, by omega, by omega⟩
                                                · exfalso; omega
                                              · exfalso; omega
                                        · refine zw_bd (zw_eq (zu_call_at (zt_T n) (zm_85 n) (zdp_85 n) _ _ _ _ _ rfl (zr_85_0 n _ _ a0 1 m161)) ?_)
                                          generalize hmm254 : zu_up m161 a0 4 1 = m254
                                          have hIm254 := zi_up hmm254 hIm161 hc0 zb_28_4 (by omega) (by omega)
                                          have hFm254 := zfr_up hmm254 hFm161 hc0 rfl
                                          have hRC0m254 := zR_C0_fr (zdis_fr (zfr_up hmm254 (zfr_rf [(28, 5)] _) hc0 rfl) rfl) hRC0m161
                                          have hRCRm254 := zR_CR_fr (zdis_fr (zfr_up hmm254 (zfr_rf [(28, 5)] _) hc0 rfl) rfl) hRCRm161
                                          have hRNSm254 := zR_NS_fr (zdis_fr (zfr_up hmm254 (zfr_rf [(28, 5)] _) hc0 rfl) rfl) hRNSm161
                                          have hRTRm254 := zR_TR_fr (zdis_fr (zfr_up hmm254 (zfr_rf [(28, 5)] _) hc0 rfl) rfl) hRTRm161
                                          have hRWDm254 := zR_WD_fr (zdis_fr (zfr_up hmm254 (zfr_rf [(28, 5)] _) hc0 rfl) rfl) hRWDm161
                                          have hRLRm254 := zLR_wr (zone_190 hc0) hmm254 (by decide)
                                          have r255 : 0 ≤ (m254 a0 10) ∧ (m254 a0 10) ≤ 700 := zi_rd hIm254 hc0 zb_28_10
                                          generalize hmm256 : zu_up m254 a0 5 (m254 a0 10) = m256
                                          have hIm256 := zi_up hmm256 hIm254 hc0 zb_28_5 (by omega) (by omega)
                                          have hFm256 := zfr_up hmm256 hFm254 hc0 rfl
                                          have hRC0m256 := zR_C0_fr (zdis_fr (zfr_up hmm256 (zfr_rf [(28, 6)] _) hc0 rfl) rfl) hRC0m254
                                          have hRCRm256 := zR_CR_fr (zdis_fr (zfr_up hmm256 (zfr_rf [(28, 6)] _) hc0 rfl) rfl) hRCRm254
                                          have hRLRm256 := zR_LR_fr (zdis_fr (zfr_up hmm256 (zfr_rf [(28, 6)] _) hc0 rfl) rfl) hRLRm254
                                          have hRNSm256 := zR_NS_fr (zdis_fr (zfr_up hmm256 (zfr_rf [(28, 6)] _) hc0 rfl) rfl) hRNSm254
                                          have hRTRm256 := zR_TR_fr (zdis_fr (zfr_up hmm256 (zfr_rf [(28, 6)] _) hc0 rfl) rfl) hRTRm254
                                          have hRWDm256 := zR_WD_fr (zdis_fr (zfr_up hmm256 (zfr_rf [(28, 6)] _) hc0 rfl) rfl) hRWDm254
                                          refine zw_b (by omega) ?_
                                          refine zw_some ?_
                                          refine zw_b (by omega) ?_
                                          refine zw_some ?_
                                          refine zw_ite (fun h257 => ?_) (fun h257 => ?_)
                                          · exfalso; omega
                                          · refine zw_b (by omega) ?_
                                            have r258 : 0 ≤ (m256 a0 7) ∧ (m256 a0 7) ≤ 700 := zi_rd hIm256 hc0 zb_28_7
                                            have r259 : 0 ≤ (m256 a0 8) ∧ (m256 a0 8) ≤ 6 := zi_rd hIm256 hc0 zb_28_8
                                            have e260 : (m256 a0 8) = (m161 a0 8) := (Eq.trans (zs_ne hmm256 (Or.inr (by decide))) (zs_ne hmm254 (Or.inr (by decide))))
                                            have r261 : (-2147483648) ≤ (m256 a0 4) ∧ (m256 a0 4) ≤ 2147483647 := zi_rd hIm256 hc0 zb_28_4
                                            have e262 : (m256 a0 4) = 1 := (Eq.trans (zs_ne hmm256 (Or.inr (by decide))) (zs_eq hmm254))
                                            exact zw_some ⟨hIm256, hFm256, hRC0m256, hRCRm256, hRLRm256, hRNSm256, hRTRm256, hRWDm256, ⟨by omega, by omega⟩, by omega, by omega, by omega⟩
                                      · exfalso; omega
                                    · exfalso; omega
                              · refine zw_bd (zw_eq (zu_call_at (zt_T n) (zm_85 n) (zdp_85 n) _ _ _ _ _ rfl (zr_85_0 n _ _ a0 1 m123)) ?_)
                                generalize hmm263 : zu_up m123 a0 4 1 = m263
                                have hIm263 := zi_up hmm263 hIm123 hc0 zb_28_4 (by omega) (by omega)
                                have hFm263 := zfr_up hmm263 hFm123 hc0 rfl
                                have hRC0m263 := zR_C0_fr (zdis_fr (zfr_up hmm263 (zfr_rf [(28, 5)] _) hc0 rfl) rfl) hRC0m123
                                have hRCRm263 := zR_CR_fr (zdis_fr (zfr_up hmm263 (zfr_rf [(28, 5)] _) hc0 rfl) rfl) hRCRm123
                                have hRNSm263 := zR_NS_fr (zdis_fr (zfr_up hmm263 (zfr_rf [(28, 5)] _) hc0 rfl) rfl) hRNSm123
                                have hRTRm263 := zR_TR_fr (zdis_fr (zfr_up hmm263 (zfr_rf [(28, 5)] _) hc0 rfl) rfl) hRTRm123
                                have hRWDm263 := zR_WD_fr (zdis_fr (zfr_up hmm263 (zfr_rf [(28, 5)] _) hc0 rfl) rfl) hRWDm123
                                have hRLRm263 := zLR_wr (zone_190 hc0) hmm263 (by decide)
                                have r264 : 0 ≤ (m263 a0 10) ∧ (m263 a0 10) ≤ 700 := zi_rd hIm263 hc0 zb_28_10
                                generalize hmm265 : zu_up m263 a0 5 (m263 a0 10) = m265
                                have hIm265 := zi_up hmm265 hIm263 hc0 zb_28_5 (by omega) (by omega)
                                have hFm265 := zfr_up hmm265 hFm263 hc0 rfl
                                have hRC0m265 := zR_C0_fr (zdis_fr (zfr_up hmm265 (zfr_rf [(28, 6)] _) hc0 rfl) rfl) hRC0m263
                                have hRCRm265 := zR_CR_fr (zdis_fr (zfr_up hmm265 (zfr_rf [(28, 6)] _) hc0 rfl) rfl) hRCRm263
                                have hRLRm265 := zR_LR_fr (zdis_fr (zfr_up hmm265 (zfr_rf [(28, 6)] _) hc0 rfl) rfl) hRLRm263
                                have hRNSm265 := zR_NS_fr (zdis_fr (zfr_up hmm265 (zfr_rf [(28, 6)] _) hc0 rfl) rfl) hRNSm263
                                have hRTRm265 := zR_TR_fr (zdis_fr (zfr_up hmm265 (zfr_rf [(28, 6)] _) hc0 rfl) rfl) hRTRm263
                                have hRWDm265 := zR_WD_fr (zdis_fr (zfr_up hmm265 (zfr_rf [(28, 6)] _) hc0 rfl) rfl) hRWDm263
                                refine zw_b (by omega) ?_
                                refine zw_some ?_
                                refine zw_b (by omega) ?_
                                refine zw_some ?_
                                refine zw_ite (fun h266 => ?_) (fun h266 => ?_)
                                · exfalso; omega
                                · refine zw_b (by omega) ?_
                                  have r267 : 0 ≤ (m265 a0 7) ∧ (m265 a0 7) ≤ 700 := zi_rd hIm265 hc0 zb_28_7
                                  have r268 : 0 ≤ (m265 a0 8) ∧ (m265 a0 8) ≤ 6 := zi_rd hIm265 hc0 zb_28_8
                                  have e269 : (m265 a0 8) = (m123 a0 8) := (Eq.trans (zs_ne hmm265 (Or.inr (by decide))) (zs_ne hmm263 (Or.inr (by decide))))
                                  have r270 : (-2147483648) ≤ (m265 a0 4) ∧ (m265 a0 4) ≤ 2147483647 := zi_rd hIm265 hc0 zb_28_4
                                  have e271 : (m265 a0 4) = 1 := (Eq.trans (zs_ne hmm265 (Or.inr (by decide))) (zs_eq hmm263))
                                  exact zw_some ⟨hIm265, hFm265, hRC0m265, hRCRm265, hRLRm265, hRNSm265, hRTRm265, hRWDm265, ⟨by omega, by omega⟩, by omega, by omega, by omega⟩
                            · exfalso; omega
                          · exfalso; omega
                        · exfalso; omega
                  · refine zw_bd (zw_eq (zu_call_at (zt_T n) (zm_85 n) (zdp_85 n) _ _ _ _ _ rfl (zr_85_0 n _ _ a0 1 m70)) ?_)
                    generalize hmm272 : zu_up m70 a0 4 1 = m272
                    have hIm272 := zi_up hmm272 hIm70 hc0 zb_28_4 (by omega) (by omega)
                    have hFm272 := zfr_up hmm272 hFm70 hc0 rfl
                    have hRC0m272 := zR_C0_fr (zdis_fr (zfr_up hmm272 (zfr_rf [(28, 5)] _) hc0 rfl) rfl) hRC0m70
                    have hRCRm272 := zR_CR_fr (zdis_fr (zfr_up hmm272 (zfr_rf [(28, 5)] _) hc0 rfl) rfl) hRCRm70
                    have hRNSm272 := zR_NS_fr (zdis_fr (zfr_up hmm272 (zfr_rf [(28, 5)] _) hc0 rfl) rfl) hRNSm70
                    have hRTRm272 := zR_TR_fr (zdis_fr (zfr_up hmm272 (zfr_rf [(28, 5)] _) hc0 rfl) rfl) hRTRm70
                    have hRWDm272 := zR_WD_fr (zdis_fr (zfr_up hmm272 (zfr_rf [(28, 5)] _) hc0 rfl) rfl) hRWDm70
                    have hRLRm272 := zLR_wr (zone_190 hc0) hmm272 (by decide)
                    have r273 : 0 ≤ (m272 a0 10) ∧ (m272 a0 10) ≤ 700 := zi_rd hIm272 hc0 zb_28_10
                    have e274 : (m272 a0 10) = (m62 a0 10) := (Eq.trans (zs_ne hmm272 (Or.inr (by decide))) (zs_ne hmm70 (Or.inr (by decide))))
                    generalize hmm275 : zu_up m272 a0 5 (m272 a0 10) = m275
                    have hIm275 := zi_up hmm275 hIm272 hc0 zb_28_5 (by omega) (by omega)
                    have hFm275 := zfr_up hmm275 hFm272 hc0 rfl
                    have hRC0m275 := zR_C0_fr (zdis_fr (zfr_up hmm275 (zfr_rf [(28, 6)] _) hc0 rfl) rfl) hRC0m272
                    have hRCRm275 := zR_CR_fr (zdis_fr (zfr_up hmm275 (zfr_rf [(28, 6)] _) hc0 rfl) rfl) hRCRm272
                    have hRLRm275 := zR_LR_fr (zdis_fr (zfr_up hmm275 (zfr_rf [(28, 6)] _) hc0 rfl) rfl) hRLRm272
                    have hRNSm275 := zR_NS_fr (zdis_fr (zfr_up hmm275 (zfr_rf [(28, 6)] _) hc0 rfl) rfl) hRNSm272
                    have hRTRm275 := zR_TR_fr (zdis_fr (zfr_up hmm275 (zfr_rf [(28, 6)] _) hc0 rfl) rfl) hRTRm272
                    have hRWDm275 := zR_WD_fr (zdis_fr (zfr_up hmm275 (zfr_rf [(28, 6)] _) hc0 rfl) rfl) hRWDm272
                    refine zw_b (by omega) ?_
                    refine zw_some ?_
                    refine zw_b (by omega) ?_
                    refine zw_some ?_
                    refine zw_ite (fun h276 => ?_) (fun h276 => ?_)
                    · exfalso; omega
                    · refine zw_b (by omega) ?_
                      refine zw_some ?_
                      refine zw_ite (fun h277 => ?_) (fun h277 => ?_)
                      · exfalso; omega
                      · refine zw_b (by omega) ?_
                        have r278 : 0 ≤ (m275 a0 7) ∧ (m275 a0 7) ≤ 700 := zi_rd hIm275 hc0 zb_28_7
                        have r279 : 0 ≤ (m275 a0 8) ∧ (m275 a0 8) ≤ 6 := zi_rd hIm275 hc0 zb_28_8
                        have e280 : (m275 a0 8) = (m70 a0 8) := (Eq.trans (zs_ne hmm275 (Or.inr (by decide))) (zs_ne hmm272 (Or.inr (by decide))))
                        have r281 : (-2147483648) ≤ (m275 a0 4) ∧ (m275 a0 4) ≤ 2147483647 := zi_rd hIm275 hc0 zb_28_4
                        have e282 : (m275 a0 4) = 1 := (Eq.trans (zs_ne hmm275 (Or.inr (by decide))) (zs_eq hmm272))
                        exact zw_some ⟨hIm275, hFm275, hRC0m275, hRCRm275, hRLRm275, hRNSm275, hRTRm275, hRWDm275, ⟨by omega, by omega⟩, by omega, by omega, by omega⟩
                · exfalso; omega
              · exfalso; omega
        · refine zw_bd (zw_eq (zu_call_at (zt_T n) (zm_85 n) (zdp_85 n) _ _ _ _ _ rfl (zr_85_0 n _ _ a0 1 m30)) ?_)
          generalize hmm283 : zu_up m30 a0 4 1 = m283
          have hIm283 := zi_up hmm283 hIm30 hc0 zb_28_4 (by omega) (by omega)
          have hFm283 := zfr_up hmm283 hFm30 hc0 rfl
          have hRC0m283 := zR_C0_fr (zdis_fr (zfr_up hmm283 (zfr_rf [(28, 5)] _) hc0 rfl) rfl) hRC0m30
          have hRCRm283 := zR_CR_fr (zdis_fr (zfr_up hmm283 (zfr_rf [(28, 5)] _) hc0 rfl) rfl) hRCRm30
          have hRNSm283 := zR_NS_fr (zdis_fr (zfr_up hmm283 (zfr_rf [(28, 5)] _) hc0 rfl) rfl) hRNSm30
          have hRTRm283 := zR_TR_fr (zdis_fr (zfr_up hmm283 (zfr_rf [(28, 5)] _) hc0 rfl) rfl) hRTRm30
          have hRWDm283 := zR_WD_fr (zdis_fr (zfr_up hmm283 (zfr_rf [(28, 5)] _) hc0 rfl) rfl) hRWDm30
          have hRLRm283 := zLR_wr (zone_190 hc0) hmm283 (by decide)
          have r284 : 0 ≤ (m283 a0 10) ∧ (m283 a0 10) ≤ 700 := zi_rd hIm283 hc0 zb_28_10
          generalize hmm285 : zu_up m283 a0 5 (m283 a0 10) = m285
          have hIm285 := zi_up hmm285 hIm283 hc0 zb_28_5 (by omega) (by omega)
          have hFm285 := zfr_up hmm285 hFm283 hc0 rfl
          have hRC0m285 := zR_C0_fr (zdis_fr (zfr_up hmm285 (zfr_rf [(28, 6)] _) hc0 rfl) rfl) hRC0m283
          have hRCRm285 := zR_CR_fr (zdis_fr (zfr_up hmm285 (zfr_rf [(28, 6)] _) hc0 rfl) rfl) hRCRm283
          have hRLRm285 := zR_LR_fr (zdis_fr (zfr_up hmm285 (zfr_rf [(28, 6)] _) hc0 rfl) rfl) hRLRm283
          have hRNSm285 := zR_NS_fr (zdis_fr (zfr_up hmm285 (zfr_rf [(28, 6)] _) hc0 rfl) rfl) hRNSm283
          have hRTRm285 := zR_TR_fr (zdis_fr (zfr_up hmm285 (zfr_rf [(28, 6)] _) hc0 rfl) rfl) hRTRm283
          have hRWDm285 := zR_WD_fr (zdis_fr (zfr_up hmm285 (zfr_rf [(28, 6)] _) hc0 rfl) rfl) hRWDm283
          refine zw_b (by omega) ?_
          refine zw_some ?_
          refine zw_b (by omega) ?_
          refine zw_some ?_
          refine zw_ite (fun h286 => ?_) (fun h286 => ?_)
          · exfalso; omega
          · refine zw_b (by omega) ?_
            refine zw_some ?_
            refine zw_ite (fun h287 => ?_) (fun h287 => ?_)
            · exfalso; omega
            · refine zw_b (by omega) ?_
              have r288 : 0 ≤ (m285 a0 7) ∧ (m285 a0 7) ≤ 700 := zi_rd hIm285 hc0 zb_28_7
              have r289 : 0 ≤ (m285 a0 8) ∧ (m285 a0 8) ≤ 6 := zi_rd hIm285 hc0 zb_28_8
              have e290 : (m285 a0 8) = (m30 a0 8) := (Eq.trans (zs_ne hmm285 (Or.inr (by decide))) (zs_ne hmm283 (Or.inr (by decide))))
              have r291 : (-2147483648) ≤ (m285 a0 4) ∧ (m285 a0 4) ≤ 2147483647 := zi_rd hIm285 hc0 zb_28_4
              have e292 : (m285 a0 4) = 1 := (Eq.trans (zs_ne hmm285 (Or.inr (by decide))) (zs_eq hmm283))
              exact zw_some ⟨hIm285, hFm285, hRC0m285, hRCRm285, hRLRm285, hRNSm285, hRTRm285, hRWDm285, ⟨by omega, by omega⟩, by omega, by omega, by omega⟩
      · refine zw_bd (zw_eq (zu_call_at (zt_T n) (zm_85 n) (zdp_85 n) _ _ _ _ _ rfl (zr_85_0 n _ _ a0 3 m14)) ?_)
        generalize hmm293 : zu_up m14 a0 4 3 = m293
        have hIm293 := zi_up hmm293 hIm14 hc0 zb_28_4 (by omega) (by omega)
        have hFm293 := zfr_up hmm293 hFm14 hc0 rfl
        have hRC0m293 := zR_C0_fr (zdis_fr (zfr_up hmm293 (zfr_rf [(28, 5)] _) hc0 rfl) rfl) hRC0m14
        have hRCRm293 := zR_CR_fr (zdis_fr (zfr_up hmm293 (zfr_rf [(28, 5)] _) hc0 rfl) rfl) hRCRm14
        have hRNSm293 := zR_NS_fr (zdis_fr (zfr_up hmm293 (zfr_rf [(28, 5)] _) hc0 rfl) rfl) hRNSm14
        have hRTRm293 := zR_TR_fr (zdis_fr (zfr_up hmm293 (zfr_rf [(28, 5)] _) hc0 rfl) rfl) hRTRm14
        have hRWDm293 := zR_WD_fr (zdis_fr (zfr_up hmm293 (zfr_rf [(28, 5)] _) hc0 rfl) rfl) hRWDm14
        have hRLRm293 := zLR_wr (zone_190 hc0) hmm293 (by decide)
        have r294 : 0 ≤ (m293 a0 10) ∧ (m293 a0 10) ≤ 700 := zi_rd hIm293 hc0 zb_28_10
        generalize hmm295 : zu_up m293 a0 5 (m293 a0 10) = m295
        have hIm295 := zi_up hmm295 hIm293 hc0 zb_28_5 (by omega) (by omega)
        have hFm295 := zfr_up hmm295 hFm293 hc0 rfl
        have hRC0m295 := zR_C0_fr (zdis_fr (zfr_up hmm295 (zfr_rf [(28, 6)] _) hc0 rfl) rfl) hRC0m293
        have hRCRm295 := zR_CR_fr (zdis_fr (zfr_up hmm295 (zfr_rf [(28, 6)] _) hc0 rfl) rfl) hRCRm293
        have hRLRm295 := zR_LR_fr (zdis_fr (zfr_up hmm295 (zfr_rf [(28, 6)] _) hc0 rfl) rfl) hRLRm293
        have hRNSm295 := zR_NS_fr (zdis_fr (zfr_up hmm295 (zfr_rf [(28, 6)] _) hc0 rfl) rfl) hRNSm293
        have hRTRm295 := zR_TR_fr (zdis_fr (zfr_up hmm295 (zfr_rf [(28, 6)] _) hc0 rfl) rfl) hRTRm293
        have hRWDm295 := zR_WD_fr (zdis_fr (zfr_up hmm295 (zfr_rf [(28, 6)] _) hc0 rfl) rfl) hRWDm293
        refine zw_b (by omega) ?_
        refine zw_some ?_
        refine zw_b (by omega) ?_
        have r296 : 0 ≤ (m295 a0 7) ∧ (m295 a0 7) ≤ 700 := zi_rd hIm295 hc0 zb_28_7
        have r297 : 0 ≤ (m295 a0 8) ∧ (m295 a0 8) ≤ 6 := zi_rd hIm295 hc0 zb_28_8
        have e298 : (m295 a0 8) = (m5 a0 8) := (Eq.trans (zs_ne hmm295 (Or.inr (by decide))) (Eq.trans (zs_ne hmm293 (Or.inr (by decide))) (zfr_ap hfm14 hc0 rfl)))
        have r299 : (-2147483648) ≤ (m295 a0 4) ∧ (m295 a0 4) ≤ 2147483647 := zi_rd hIm295 hc0 zb_28_4
        have e300 : (m295 a0 4) = 3 := (Eq.trans (zs_ne hmm295 (Or.inr (by decide))) (zs_eq hmm293))
        exact zw_some ⟨hIm295, hFm295, hRC0m295, hRCRm295, hRLRm295, hRNSm295, hRTRm295, hRWDm295, ⟨by omega, by omega⟩, by omega, by omega, by omega⟩
    · refine zw_bd (zw_eq (zu_call_at (zt_T n) (zm_85 n) (zdp_85 n) _ _ _ _ _ rfl (zr_85_0 n _ _ a0 1 m5)) ?_)
      generalize hmm301 : zu_up m5 a0 4 1 = m301
      have hIm301 := zi_up hmm301 hIm5 hc0 zb_28_4 (by omega) (by omega)
      have hFm301 := zfr_up hmm301 hFm5 hc0 rfl
      have hRC0m301 := zR_C0_fr (zdis_fr (zfr_up hmm301 (zfr_rf [(28, 5)] _) hc0 rfl) rfl) hRC0m5
      have hRCRm301 := zR_CR_fr (zdis_fr (zfr_up hmm301 (zfr_rf [(28, 5)] _) hc0 rfl) rfl) hRCRm5
      have hRNSm301 := zR_NS_fr (zdis_fr (zfr_up hmm301 (zfr_rf [(28, 5)] _) hc0 rfl) rfl) hRNSm5
      have hRTRm301 := zR_TR_fr (zdis_fr (zfr_up hmm301 (zfr_rf [(28, 5)] _) hc0 rfl) rfl) hRTRm5
      have hRWDm301 := zR_WD_fr (zdis_fr (zfr_up hmm301 (zfr_rf [(28, 5)] _) hc0 rfl) rfl) hRWDm5
      have hRLRm301 := zLR_wr (zone_190 hc0) hmm301 (by decide)
      have r302 : 0 ≤ (m301 a0 10) ∧ (m301 a0 10) ≤ 700 := zi_rd hIm301 hc0 zb_28_10
      generalize hmm303 : zu_up m301 a0 5 (m301 a0 10) = m303
      have hIm303 := zi_up hmm303 hIm301 hc0 zb_28_5 (by omega) (by omega)
      have hFm303 := zfr_up hmm303 hFm301 hc0 rfl
      have hRC0m303 := zR_C0_fr (zdis_fr (zfr_up hmm303 (zfr_rf [(28, 6)] _) hc0 rfl) rfl) hRC0m301
      have hRCRm303 := zR_CR_fr (zdis_fr (zfr_up hmm303 (zfr_rf [(28, 6)] _) hc0 rfl) rfl) hRCRm301
      have hRLRm303 := zR_LR_fr (zdis_fr (zfr_up hmm303 (zfr_rf [(28, 6)] _) hc0 rfl) rfl) hRLRm301
      have hRNSm303 := zR_NS_fr (zdis_fr (zfr_up hmm303 (zfr_rf [(28, 6)] _) hc0 rfl) rfl) hRNSm301
      have hRTRm303 := zR_TR_fr (zdis_fr (zfr_up hmm303 (zfr_rf [(28, 6)] _) hc0 rfl) rfl) hRTRm301
      have hRWDm303 := zR_WD_fr (zdis_fr (zfr_up hmm303 (zfr_rf [(28, 6)] _) hc0 rfl) rfl) hRWDm301
      refine zw_b (by omega) ?_
      refine zw_some ?_
      refine zw_b (by omega) ?_
      have r304 : 0 ≤ (m303 a0 7) ∧ (m303 a0 7) ≤ 700 := zi_rd hIm303 hc0 zb_28_7
      have r305 : 0 ≤ (m303 a0 8) ∧ (m303 a0 8) ≤ 6 := zi_rd hIm303 hc0 zb_28_8
      have e306 : (m303 a0 8) = (m5 a0 8) := (Eq.trans (zs_ne hmm303 (Or.inr (by decide))) (zs_ne hmm301 (Or.inr (by decide))))
      have r307 : (-2147483648) ≤ (m303 a0 4) ∧ (m303 a0 4) ≤ 2147483647 := zi_rd hIm303 hc0 zb_28_4
      have e308 : (m303 a0 4) = 1 := (Eq.trans (zs_ne hmm303 (Or.inr (by decide))) (zs_eq hmm301))
      exact zw_some ⟨hIm303, hFm303, hRC0m303, hRCRm303, hRLRm303, hRNSm303, hRTRm303, hRWDm303, ⟨by omega, by omega⟩, by omega, by omega, by omega⟩
  · refine zw_bd (zw_eq (zu_call_at (zt_T n) (zm_85 n) (zdp_85 n) _ _ _ _ _ rfl (zr_85_0 n _ _ a0 2 m0)) ?_)
    generalize hmm309 : zu_up m0 a0 4 2 = m309
    have hIm309 := zi_up hmm309 hIm0 hc0 zb_28_4 (by omega) (by omega)
    have hFm309 := zfr_up hmm309 hFm0 hc0 rfl
    have hRC0m309 := zR_C0_fr (zdis_fr (zfr_up hmm309 (zfr_rf [(28, 5)] _) hc0 rfl) rfl) hRC0m0
    have hRCRm309 := zR_CR_fr (zdis_fr (zfr_up hmm309 (zfr_rf [(28, 5)] _) hc0 rfl) rfl) hRCRm0
    have hRNSm309 := zR_NS_fr (zdis_fr (zfr_up hmm309 (zfr_rf [(28, 5)] _) hc0 rfl) rfl) hRNSm0
    have hRTRm309 := zR_TR_fr (zdis_fr (zfr_up hmm309 (zfr_rf [(28, 5)] _) hc0 rfl) rfl) hRTRm0
    have hRWDm309 := zR_WD_fr (zdis_fr (zfr_up hmm309 (zfr_rf [(28, 5)] _) hc0 rfl) rfl) hRWDm0
    have hRLRm309 := zLR_wr (zone_190 hc0) hmm309 (by decide)
    have r310 : 0 ≤ (m309 a0 10) ∧ (m309 a0 10) ≤ 700 := zi_rd hIm309 hc0 zb_28_10
    generalize hmm311 : zu_up m309 a0 5 (m309 a0 10) = m311
    have hIm311 := zi_up hmm311 hIm309 hc0 zb_28_5 (by omega) (by omega)
    have hFm311 := zfr_up hmm311 hFm309 hc0 rfl
    have hRC0m311 := zR_C0_fr (zdis_fr (zfr_up hmm311 (zfr_rf [(28, 6)] _) hc0 rfl) rfl) hRC0m309
    have hRCRm311 := zR_CR_fr (zdis_fr (zfr_up hmm311 (zfr_rf [(28, 6)] _) hc0 rfl) rfl) hRCRm309
    have hRLRm311 := zR_LR_fr (zdis_fr (zfr_up hmm311 (zfr_rf [(28, 6)] _) hc0 rfl) rfl) hRLRm309
    have hRNSm311 := zR_NS_fr (zdis_fr (zfr_up hmm311 (zfr_rf [(28, 6)] _) hc0 rfl) rfl) hRNSm309
    have hRTRm311 := zR_TR_fr (zdis_fr (zfr_up hmm311 (zfr_rf [(28, 6)] _) hc0 rfl) rfl) hRTRm309
    have hRWDm311 := zR_WD_fr (zdis_fr (zfr_up hmm311 (zfr_rf [(28, 6)] _) hc0 rfl) rfl) hRWDm309
    refine zw_b (by omega) ?_
    refine zw_some ?_
    refine zw_b (by omega) ?_
    have r312 : 0 ≤ (m311 a0 7) ∧ (m311 a0 7) ≤ 700 := zi_rd hIm311 hc0 zb_28_7
    have r313 : 0 ≤ (m311 a0 8) ∧ (m311 a0 8) ≤ 6 := zi_rd hIm311 hc0 zb_28_8
    have e314 : (m311 a0 8) = (m0 a0 8) := (Eq.trans (zs_ne hmm311 (Or.inr (by decide))) (zs_ne hmm309 (Or.inr (by decide))))
    have r315 : (-2147483648) ≤ (m311 a0 4) ∧ (m311 a0 4) ≤ 2147483647 := zi_rd hIm311 hc0 zb_28_4
    have e316 : (m311 a0 4) = 2 := (Eq.trans (zs_ne hmm311 (Or.inr (by decide))) (zs_eq hmm309))
    exact zw_some ⟨hIm311, hFm311, hRC0m311, hRCRm311, hRLRm311, hRNSm311, hRTRm311, hRWDm311, ⟨by omega, by omega⟩, by omega, by omega, by omega⟩

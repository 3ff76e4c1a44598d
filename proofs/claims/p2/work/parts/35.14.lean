set_option maxHeartbeats 4000000 in
theorem zk_102 (n : Nat) {a0 : Int} {m0 : zu_m} (hIm0 : zi_I m0) (hc0 : zcls a0 = 28)   (he0 : 1 ≤ m0 a0 8 ∧ m0 a0 8 ≤ 1) (he1 : 5 ≤ m0 a0 9 ∧ m0 a0 9 ≤ 5)  (hRNSm0 : zR_NS m0) (hRWDm0 : zR_WD m0) : zw (zu_call (zt_T n) 102 [(40, a0)] m0) (fun v m => zi_I m ∧ zfr [(28, 5), (28, 6), (28, 8), (28, 9), (28, 10), (28, 11), (28, 12), (28, 21), (28, 24), (28, 43), (109, 0), (110, 0), (111, 0), (112, 0), (113, 0)] m0 m ∧ zR_NS m ∧ zR_WD m ∧ (0 ≤ v ∧ v ≤ 1) ∧ ((m0 a0 7) ≤ (m a0 7)) ∧ (v = 1 → ((m a0 8) = 0 ∨ (m0 a0 7) < (m a0 7)))) := by
  have hFm0 : zfr [(28, 5), (28, 6), (28, 8), (28, 9), (28, 10), (28, 11), (28, 12), (28, 21), (28, 24), (28, 43), (109, 0), (110, 0), (111, 0), (112, 0), (113, 0)] m0 m0 := zfr_rf _ _
  have s1 := hRNSm0 a0 hc0
  refine zw_eq (zu_call_at (zt_T n) (zm_102 n) (zdp_102 n) _ _ _ _ _ rfl (zr_102_0 n _ _ a0 m0)) ?_
  have r2 : 0 ≤ (m0 a0 20) ∧ (m0 a0 20) ≤ 4 := zi_rd hIm0 hc0 zb_28_20
  refine zw_ite (fun h3 => ?_) (fun h3 => ?_)
  · refine zw_bd (zw_mono (zk_89 n hIm0 hc0 hRNSm0 hRWDm0) (fun v5 m4 hqm4 => ?_))
    obtain ⟨hIm4, hfm4, hvm4⟩ := hqm4
    have hFm4 := zfr_tr hFm0 hfm4 rfl
    obtain ⟨hRNSm4, hRTRm4, hRWDm4, hvm4⟩ := hvm4
    have s6 := hRNSm4 a0 hc0
    have s7 := hRTRm4 a0 hc0
    have r8 : 0 ≤ (m4 a0 8) ∧ (m4 a0 8) ≤ 6 := zi_rd hIm4 hc0 zb_28_8
    refine zw_ite (fun h9 => ?_) (fun h9 => ?_)
    · have r10 : 0 ≤ (m4 a0 20) ∧ (m4 a0 20) ≤ 4 := zi_rd hIm4 hc0 zb_28_20
      have e11 : (m4 a0 20) = (m0 a0 20) := (zfr_ap hfm4 hc0 rfl)
      have r12 : (-2147483648) ≤ (m4 a0 9) ∧ (m4 a0 9) ≤ 2147483647 := zi_rd hIm4 hc0 zb_28_9
      refine zw_bd (zw_mono (zk_95 n hIm4 zq_200 ⟨by omega, by omega⟩ ⟨by omega, by omega⟩ ⟨by omega, by omega⟩) (fun v14 m13 hqm13 => ?_))
      obtain ⟨hIm13, hfm13, hvm13⟩ := hqm13
      have hFm13 := zfr_tr hFm4 hfm13 rfl
      have hRNSm13 := zR_NS_fr (zdis_fr hfm13 rfl) hRNSm4
      have hRTRm13 := zR_TR_fr (zdis_fr hfm13 rfl) hRTRm4
      have hRWDm13 := zR_WD_fr (zdis_fr hfm13 rfl) hRWDm4
      have s15 := hRNSm13 a0 hc0
      have s16 := hRTRm13 a0 hc0
      refine zw_ite (fun h17 => ?_) (fun h17 => ?_)
      · have r18 : 0 ≤ (m13 a0 20) ∧ (m13 a0 20) ≤ 4 := zi_rd hIm13 hc0 zb_28_20
        have e19 : (m13 a0 20) = (m4 a0 20) := (zfr_ap hfm13 hc0 rfl)
        have w20 := zu_w32_id (z := 4 + (m13 a0 20)) (by omega) (by omega)
        have r21 : (-2147483648) ≤ (m13 a0 9) ∧ (m13 a0 9) ≤ 2147483647 := zi_rd hIm13 hc0 zb_28_9
        have e22 : (m13 a0 9) = (m4 a0 9) := (zfr_ap hfm13 hc0 rfl)
        have b23 : 0 ≤ (zu_w32 (4 + (m13 a0 20))) ∧ (zu_w32 (4 + (m13 a0 20))) < 8 := by omega
        refine zw_if b23 ?_
        generalize hmm24 : zu_up m13 200 (zu_w32 (4 + (m13 a0 20))) (m13 a0 9) = m24
        have hIm24 := zi_up hmm24 hIm13 zq_200 (zb_109 _) (by omega) (by omega)
        have hFm24 := zfr_up hmm24 hFm13 zq_200 rfl
        have hRNSm24 := zR_NS_fr (zdis_fr (zfr_up hmm24 (zfr_rf [(109, 0)] _) zq_200 rfl) rfl) hRNSm13
        have hRTRm24 := zR_TR_fr (zdis_fr (zfr_up hmm24 (zfr_rf [(109, 0)] _) zq_200 rfl) rfl) hRTRm13
        have hRWDm24 := zR_WD_fr (zdis_fr (zfr_up hmm24 (zfr_rf [(109, 0)] _) zq_200 rfl) rfl) hRWDm13
        refine zw_bd (zw_mono (zk_89 n hIm24 hc0 hRNSm24 hRWDm24) (fun v26 m25 hqm25 => ?_))
        obtain ⟨hIm25, hfm25, hvm25⟩ := hqm25
        have hFm25 := zfr_tr hFm24 hfm25 rfl
        obtain ⟨hRNSm25, hRTRm25, hRWDm25, hvm25⟩ := hvm25
        have s27 := hRNSm25 a0 hc0
        have s28 := hRTRm25 a0 hc0
        refine zw_bd (zw_eq (zu_call_at (zt_T n) (zm_96 n) (zdp_96 n) _ _ _ _ _ rfl (zr_96_0 n _ _ a0 m25)) ?_)
        refine zw_b (by omega) ?_
        generalize hmm29 : zu_up m25 a0 23 1 = m29
        have hIm29 := zi_up hmm29 hIm25 hc0 zb_28_23 (by omega) (by omega)
        have hFm29 := zfr_up hmm29 hFm25 hc0 rfl
        have hRNSm29 := zR_NS_fr (zdis_fr (zfr_up hmm29 (zfr_rf [(28, 24)] _) hc0 rfl) rfl) hRNSm25
        have hRTRm29 := zR_TR_fr (zdis_fr (zfr_up hmm29 (zfr_rf [(28, 24)] _) hc0 rfl) rfl) hRTRm25
        have hRWDm29 := zR_WD_fr (zdis_fr (zfr_up hmm29 (zfr_rf [(28, 24)] _) hc0 rfl) rfl) hRWDm25
        have r30 : 1 ≤ (m29 a0 17) ∧ (m29 a0 17) ≤ 8 := zi_rd hIm29 hc0 zb_28_17
        have w31 := zu_w32_id (z := (m29 a0 17) - 1) (by omega) (by omega)
        refine zw_bd (zw_eq (zu_call_at (zt_T n) (zm_94 n) (zdp_94 n) _ _ _ _ _ rfl (zr_94_0 n _ _ a0 0 (zu_w32 ((m29 a0 17) - 1)) m29)) ?_)
        have r32 : 0 ≤ (m29 a0 8) ∧ (m29 a0 8) ≤ 6 := zi_rd hIm29 hc0 zb_28_8
        refine zw_ite (fun h33 => ?_) (fun h33 => ?_)
        · have r34 : (-2147483648) ≤ (m29 a0 9) ∧ (m29 a0 9) ≤ 2147483647 := zi_rd hIm29 hc0 zb_28_9
          refine zw_bd (zw_eq (zu_call_at (zt_T n) (zm_83 n) (zdp_83 n) _ _ _ _ _ rfl (zr_83_0 n _ _ (m29 a0 9) 0 (zu_w32 ((m29 a0 17) - 1)) m29)) ?_)
          refine zw_ite (fun h35 => ?_) (fun h35 => ?_)
          · refine zw_b (by omega) ?_
            refine zw_some ?_
            refine zw_ite (fun h36 => ?_) (fun h36 => ?_)
            · exfalso; omega
            · refine zw_bd (zw_eq (zu_call_at (zt_T n) (zm_85 n) (zdp_85 n) _ _ _ _ _ rfl (zr_85_0 n _ _ a0 2 m29)) ?_)
              generalize hmm37 : zu_up m29 a0 4 2 = m37
              have hIm37 := zi_up hmm37 hIm29 hc0 zb_28_4 (by omega) (by omega)
              have hFm37 := zfr_up hmm37 hFm29 hc0 rfl
              have hRNSm37 := zR_NS_fr (zdis_fr (zfr_up hmm37 (zfr_rf [(28, 5)] _) hc0 rfl) rfl) hRNSm29
              have hRTRm37 := zR_TR_fr (zdis_fr (zfr_up hmm37 (zfr_rf [(28, 5)] _) hc0 rfl) rfl) hRTRm29
              have hRWDm37 := zR_WD_fr (zdis_fr (zfr_up hmm37 (zfr_rf [(28, 5)] _) hc0 rfl) rfl) hRWDm29
              have r38 : 0 ≤ (m37 a0 10) ∧ (m37 a0 10) ≤ 700 := zi_rd hIm37 hc0 zb_28_10
              generalize hmm39 : zu_up m37 a0 5 (m37 a0 10) = m39
              have hIm39 := zi_up hmm39 hIm37 hc0 zb_28_5 (by omega) (by omega)
              have hFm39 := zfr_up hmm39 hFm37 hc0 rfl
              have hRNSm39 := zR_NS_fr (zdis_fr (zfr_up hmm39 (zfr_rf [(28, 6)] _) hc0 rfl) rfl) hRNSm37
              have hRTRm39 := zR_TR_fr (zdis_fr (zfr_up hmm39 (zfr_rf [(28, 6)] _) hc0 rfl) rfl) hRTRm37
              have hRWDm39 := zR_WD_fr (zdis_fr (zfr_up hmm39 (zfr_rf [(28, 6)] _) hc0 rfl) rfl) hRWDm37
              refine zw_b (by omega) ?_
              refine zw_some ?_
              refine zw_b (by omega) ?_
              refine zw_some ?_
              refine zw_ite (fun h40 => ?_) (fun h40 => ?_)
              · exfalso; omega
              · refine zw_b (by omega) ?_
                refine zw_some ?_
                refine zw_ite (fun h41 => ?_) (fun h41 => ?_)
                · exfalso; omega
                · refine zw_b (by omega) ?_
                  have r42 : 0 ≤ (m39 a0 7) ∧ (m39 a0 7) ≤ 700 := zi_rd hIm39 hc0 zb_28_7
                  have r43 : 0 ≤ (m39 a0 8) ∧ (m39 a0 8) ≤ 6 := zi_rd hIm39 hc0 zb_28_8
                  have e44 : (m39 a0 8) = (m29 a0 8) := (Eq.trans (zs_ne hmm39 (Or.inr (by decide))) (zs_ne hmm37 (Or.inr (by decide))))
                  exact zw_some ⟨hIm39, hFm39, hRNSm39, hRWDm39, ⟨by omega, by omega⟩, by omega, by omega⟩
          · refine zw_ite (fun h45 => ?_) (fun h45 => ?_)
            · refine zw_b (by omega) ?_
              refine zw_some ?_
              refine zw_ite (fun h46 => ?_) (fun h46 => ?_)
              · exfalso; omega
              · refine zw_bd (zw_eq (zu_call_at (zt_T n) (zm_85 n) (zdp_85 n) _ _ _ _ _ rfl (zr_85_0 n _ _ a0 2 m29)) ?_)
                generalize hmm47 : zu_up m29 a0 4 2 = m47
                have hIm47 := zi_up hmm47 hIm29 hc0 zb_28_4 (by omega) (by omega)
                have hFm47 := zfr_up hmm47 hFm29 hc0 rfl
                have hRNSm47 := zR_NS_fr (zdis_fr (zfr_up hmm47 (zfr_rf [(28, 5)] _) hc0 rfl) rfl) hRNSm29
                have hRTRm47 := zR_TR_fr (zdis_fr (zfr_up hmm47 (zfr_rf [(28, 5)] _) hc0 rfl) rfl) hRTRm29
                have hRWDm47 := zR_WD_fr (zdis_fr (zfr_up hmm47 (zfr_rf [(28, 5)] _) hc0 rfl) rfl) hRWDm29
                have r48 : 0 ≤ (m47 a0 10) ∧ (m47 a0 10) ≤ 700 := zi_rd hIm47 hc0 zb_28_10
                generalize hmm49 : zu_up m47 a0 5 (m47 a0 10) = m49
                have hIm49 := zi_up hmm49 hIm47 hc0 zb_28_5 (by omega) (by omega)
                have hFm49 := zfr_up hmm49 hFm47 hc0 rfl
                have hRNSm49 := zR_NS_fr (zdis_fr (zfr_up hmm49 (zfr_rf [(28, 6)] _) hc0 rfl) rfl) hRNSm47
                have hRTRm49 := zR_TR_fr (zdis_fr (zfr_up hmm49 (zfr_rf [(28, 6)] _) hc0 rfl) rfl) hRTRm47
                have hRWDm49 := zR_WD_fr (zdis_fr (zfr_up hmm49 (zfr_rf [(28, 6)] _) hc0 rfl) rfl) hRWDm47
                refine zw_b (by omega) ?_
                refine zw_some ?_
                refine zw_b (by omega) ?_
                refine zw_some ?_
                refine zw_ite (fun h50 => ?_) (fun h50 => ?_)
                · exfalso; omega
                · refine zw_b (by omega) ?_
                  refine zw_some ?_
                  refine zw_ite (fun h51 => ?_) (fun h51 => ?_)
                  · exfalso; omega
                  · refine zw_b (by omega) ?_
                    have r52 : 0 ≤ (m49 a0 7) ∧ (m49 a0 7) ≤ 700 := zi_rd hIm49 hc0 zb_28_7
                    have r53 : 0 ≤ (m49 a0 8) ∧ (m49 a0 8) ≤ 6 := zi_rd hIm49 hc0 zb_28_8
                    have e54 : (m49 a0 8) = (m29 a0 8) := (Eq.trans (zs_ne hmm49 (Or.inr (by decide))) (zs_ne hmm47 (Or.inr (by decide))))
                    exact zw_some ⟨hIm49, hFm49, hRNSm49, hRWDm49, ⟨by omega, by omega⟩, by omega, by omega⟩
            · refine zw_b (by omega) ?_
              refine zw_some ?_
              refine zw_ite (fun h55 => ?_) (fun h55 => ?_)
              · generalize hmm56 : zu_up m29 a0 11 (m29 a0 9) = m56
                have hIm56 := zi_up hmm56 hIm29 hc0 zb_28_11 (by omega) (by omega)
                have hFm56 := zfr_up hmm56 hFm29 hc0 rfl
                have hRNSm56 := zR_NS_fr (zdis_fr (zfr_up hmm56 (zfr_rf [(28, 12)] _) hc0 rfl) rfl) hRNSm29
                have hRTRm56 := zR_TR_fr (zdis_fr (zfr_up hmm56 (zfr_rf [(28, 12)] _) hc0 rfl) rfl) hRTRm29
                have hRWDm56 := zR_WD_fr (zdis_fr (zfr_up hmm56 (zfr_rf [(28, 12)] _) hc0 rfl) rfl) hRWDm29
                refine zw_bd (zw_mono (zk_89 n hIm56 hc0 hRNSm56 hRWDm56) (fun v58 m57 hqm57 => ?_))
                obtain ⟨hIm57, hfm57, hvm57⟩ := hqm57
                have hFm57 := zfr_tr hFm56 hfm57 rfl
                obtain ⟨hRNSm57, hRTRm57, hRWDm57, hvm57⟩ := hvm57
                have s59 := hRNSm57 a0 hc0
                have s60 := hRTRm57 a0 hc0
                refine zw_b (by omega) ?_
                refine zw_some ?_
                refine zw_ite (fun h61 => ?_) (fun h61 => ?_)
                · have r62 : (-2147483648) ≤ (m57 a0 11) ∧ (m57 a0 11) ≤ 2147483647 := zi_rd hIm57 hc0 zb_28_11
                  have e63 : (m57 a0 11) = (m29 a0 9) := (Eq.trans (zfr_ap hfm57 hc0 rfl) (zs_eq hmm56))
                  have r64 : 0 ≤ (m57 a0 10) ∧ (m57 a0 10) ≤ 700 := zi_rd hIm57 hc0 zb_28_10
                  generalize hmm65 : zu_up m57 a0 42 (m57 a0 10) = m65
                  have hIm65 := zi_up hmm65 hIm57 hc0 zb_28_42 (by omega) (by omega)
                  have hFm65 := zfr_up hmm65 hFm57 hc0 rfl
                  have hRNSm65 := zR_NS_fr (zdis_fr (zfr_up hmm65 (zfr_rf [(28, 43)] _) hc0 rfl) rfl) hRNSm57
                  have hRTRm65 := zR_TR_fr (zdis_fr (zfr_up hmm65 (zfr_rf [(28, 43)] _) hc0 rfl) rfl) hRTRm57
                  have hRWDm65 := zR_WD_fr (zdis_fr (zfr_up hmm65 (zfr_rf [(28, 43)] _) hc0 rfl) rfl) hRWDm57
                  have r66 : 1 ≤ (m65 a0 18) ∧ (m65 a0 18) ≤ 6 := zi_rd hIm65 hc0 zb_28_18
                  have w67 := zu_w32_id (z := (m65 a0 18) - 1) (by omega) (by omega)
                  refine zw_bd (zw_eq (zu_call_at (zt_T n) (zm_94 n) (zdp_94 n) _ _ _ _ _ rfl (zr_94_0 n _ _ a0 0 (zu_w32 ((m65 a0 18) - 1)) m65)) ?_)
                  have r68 : 0 ≤ (m65 a0 8) ∧ (m65 a0 8) ≤ 6 := zi_rd hIm65 hc0 zb_28_8
                  refine zw_ite (fun h69 => ?_) (fun h69 => ?_)
                  · have r70 : (-2147483648) ≤ (m65 a0 9) ∧ (m65 a0 9) ≤ 2147483647 := zi_rd hIm65 hc0 zb_28_9
                    refine zw_bd (zw_eq (zu_call_at (zt_T n) (zm_83 n) (zdp_83 n) _ _ _ _ _ rfl (zr_83_0 n _ _ (m65 a0 9) 0 (zu_w32 ((m65 a0 18) - 1)) m65)) ?_)
                    refine zw_ite (fun h71 => ?_) (fun h71 => ?_)
                    · refine zw_b (by omega) ?_
                      refine zw_some ?_
                      refine zw_ite (fun h72 => ?_) (fun h72 => ?_)
                      · exfalso; omega
                      · refine zw_bd (zw_eq (zu_call_at (zt_T n) (zm_85 n) (zdp_85 n) _ _ _ _ _ rfl (zr_85_0 n _ _ a0 2 m65)) ?_)
                        generalize hmm73 : zu_up m65 a0 4 2 = m73
                        have hIm73 := zi_up hmm73 hIm65 hc0 zb_28_4 (by omega) (by omega)
                        have hFm73 := zfr_up hmm73 hFm65 hc0 rfl
                        have hRNSm73 := zR_NS_fr (zdis_fr (zfr_up hmm73 (zfr_rf [(28, 5)] _) hc0 rfl) rfl) hRNSm65
                        have hRTRm73 := zR_TR_fr (zdis_fr (zfr_up hmm73 (zfr_rf [(28, 5)] _) hc0 rfl) rfl) hRTRm65
                        have hRWDm73 := zR_WD_fr (zdis_fr (zfr_up hmm73 (zfr_rf [(28, 5)] _) hc0 rfl) rfl) hRWDm65
                        have r74 : 0 ≤ (m73 a0 10) ∧ (m73 a0 10) ≤ 700 := zi_rd hIm73 hc0 zb_28_10
                        have e75 : (m73 a0 10) = (m57 a0 10) := (Eq.trans (zs_ne hmm73 (Or.inr (by decide))) (zs_ne hmm65 (Or.inr (by decide))))
                        generalize hmm76 : zu_up m73 a0 5 (m73 a0 10) = m76
                        have hIm76 := zi_up hmm76 hIm73 hc0 zb_28_5 (by omega) (by omega)
                        have hFm76 := zfr_up hmm76 hFm73 hc0 rfl
                        have hRNSm76 := zR_NS_fr (zdis_fr (zfr_up hmm76 (zfr_rf [(28, 6)] _) hc0 rfl) rfl) hRNSm73
                        have hRTRm76 := zR_TR_fr (zdis_fr (zfr_up hmm76 (zfr_rf [(28, 6)] _) hc0 rfl) rfl) hRTRm73
                        have hRWDm76 := zR_WD_fr (zdis_fr (zfr_up hmm76 (zfr_rf [(28, 6)] _) hc0 rfl) rfl) hRWDm73
                        refine zw_b (by omega) ?_
                        refine zw_some ?_
                        refine zw_b (by omega) ?_
                        refine zw_some ?_
                        refine zw_ite (fun h77 => ?_) (fun h77 => ?_)
                        · exfalso; omega
                        · refine zw_b (by omega) ?_
                          refine zw_some ?_
                          refine zw_ite (fun h78 => ?_) (fun h78 => ?_)
                          · exfalso; omega
                          · refine zw_b (by omega) ?_
                            have r79 : 0 ≤ (m76 a0 7) ∧ (m76 a0 7) ≤ 700 := zi_rd hIm76 hc0 zb_28_7
                            have r80 : 0 ≤ (m76 a0 8) ∧ (m76 a0 8) ≤ 6 := zi_rd hIm76 hc0 zb_28_8
                            have e81 : (m76 a0 8) = (m65 a0 8) := (Eq.trans (zs_ne hmm76 (Or.inr (by decide))) (zs_ne hmm73 (Or.inr (by decide))))
                            exact zw_some ⟨hIm76, hFm76, hRNSm76, hRWDm76, ⟨by omega, by omega⟩, by omega, by omega⟩
                    · refine zw_ite (fun h82 => ?_) (fun h82 => ?_)
                      · refine zw_b (by omega) ?_
                        refine zw_some ?_
                        refine zw_ite (fun h83 => ?_) (fun h83 => ?_)
                        · exfalso; omega
                        · refine zw_bd (zw_eq (zu_call_at (zt_T n) (zm_85 n) (zdp_85 n) _ _ _ _ _ rfl (zr_85_0 n _ _ a0 2 m65)) ?_)
                          generalize hmm84 : zu_up m65 a0 4 2 = m84
                          have hIm84 := zi_up hmm84 hIm65 hc0 zb_28_4 (by omega) (by omega)
                          have hFm84 := zfr_up hmm84 hFm65 hc0 rfl
                          have hRNSm84 := zR_NS_fr (zdis_fr (zfr_up hmm84 (zfr_rf [(28, 5)] _) hc0 rfl) rfl) hRNSm65
                          have hRTRm84 := zR_TR_fr (zdis_fr (zfr_up hmm84 (zfr_rf [(28, 5)] _) hc0 rfl) rfl) hRTRm65
                          have hRWDm84 := zR_WD_fr (zdis_fr (zfr_up hmm84 (zfr_rf [(28, 5)] _) hc0 rfl) rfl) hRWDm65
                          have r85 : 0 ≤ (m84 a0 10) ∧ (m84 a0 10) ≤ 700 := zi_rd hIm84 hc0 zb_28_10
                          have e86 : (m84 a0 10) = (m57 a0 10) := (Eq.trans (zs_ne hmm84 (Or.inr (by decide))) (zs_ne hmm65 (Or.inr (by decide))))
                          generalize hmm87 : zu_up m84 a0 5 (m84 a0 10) = m87
                          have hIm87 := zi_up hmm87 hIm84 hc0 zb_28_5 (by omega) (by omega)
                          have hFm87 := zfr_up hmm87 hFm84 hc0 rfl
                          have hRNSm87 := zR_NS_fr (zdis_fr (zfr_up hmm87 (zfr_rf [(28, 6)] _) hc0 rfl) rfl) hRNSm84
                          have hRTRm87 := zR_TR_fr (zdis_fr (zfr_up hmm87 (zfr_rf [(28, 6)] _) hc0 rfl) rfl) hRTRm84
                          have hRWDm87 := zR_WD_fr (zdis_fr (zfr_up hmm87 (zfr_rf [(28, 6)] _) hc0 rfl) rfl) hRWDm84
                          refine zw_b (by omega) ?_
                          refine zw_some ?_
                          refine zw_b (by omega) ?_
                          refine zw_some ?_
                          refine zw_ite (fun h88 => ?_) (fun h88 => ?_)
                          · exfalso; omega
                          · refine zw_b (by omega) ?_
                            refine zw_some ?_
                            refine zw_ite (fun h89 => ?_) (fun h89 => ?_)
                            · exfalso; omega
                            · refine zw_b (by omega) ?_
                              have r90 : 0 ≤ (m87 a0 7) ∧ (m87 a0 7) ≤ 700 := zi_rd hIm87 hc0 zb_28_7
                              have r91 : 0 ≤ (m87 a0 8) ∧ (m87 a0 8) ≤ 6 := zi_rd hIm87 hc0 zb_28_8
                              have e92 : (m87 a0 8) = (m65 a0 8) := (Eq.trans (zs_ne hmm87 (Or.inr (by decide))) (zs_ne hmm84 (Or.inr (by decide))))
                              exact zw_some ⟨hIm87, hFm87, hRNSm87, hRWDm87, ⟨by omega, by omega⟩, by omega, by omega⟩
                      · refine zw_b (by omega) ?_
                        refine zw_some ?_
                        refine zw_ite (fun h93 => ?_) (fun h93 => ?_)
                        · generalize hmm94 : zu_up m65 a0 11 (m65 a0 9) = m94
                          have hIm94 := zi_up hmm94 hIm65 hc0 zb_28_11 (by omega) (by omega)
                          have hFm94 := zfr_up hmm94 hFm65 hc0 rfl
                          have hRNSm94 := zR_NS_fr (zdis_fr (zfr_up hmm94 (zfr_rf [(28, 12)] _) hc0 rfl) rfl) hRNSm65
                          have hRTRm94 := zR_TR_fr (zdis_fr (zfr_up hmm94 (zfr_rf [(28, 12)] _) hc0 rfl) rfl) hRTRm65
                          have hRWDm94 := zR_WD_fr (zdis_fr (zfr_up hmm94 (zfr_rf [(28, 12)] _) hc0 rfl) rfl) hRWDm65
                          refine zw_bd (zw_mono (zk_89 n hIm94 hc0 hRNSm94 hRWDm94) (fun v96 m95 hqm95 => ?_))
                          obtain ⟨hIm95, hfm95, hvm95⟩ := hqm95
                          have hFm95 := zfr_tr hFm94 hfm95 rfl
                          obtain ⟨hRNSm95, hRTRm95, hRWDm95, hvm95⟩ := hvm95
                          have s97 := hRNSm95 a0 hc0
                          have s98 := hRTRm95 a0 hc0
                          refine zw_b (by omega) ?_
                          refine zw_some ?_
                          refine zw_ite (fun h99 => ?_) (fun h99 => ?_)
                          · have r100 : 1 ≤ (m95 a0 17) ∧ (m95 a0 17) ≤ 8 := zi_rd hIm95 hc0 zb_28_17
                            have e101 : (m95 a0 17) = (m29 a0 17) := (Eq.trans (zfr_ap hfm95 hc0 rfl) (Eq.trans (zs_ne hmm94 (Or.inr (by decide))) (Eq.trans (zs_ne hmm65 (Or.inr (by decide))) (Eq.trans (zfr_ap hfm57 hc0 rfl) (zs_ne hmm56 (Or.inr (by decide)))))))
                            have r102 : (-2147483648) ≤ (m95 a0 11) ∧ (m95 a0 11) ≤ 2147483647 := zi_rd hIm95 hc0 zb_28_11
                            have e103 : (m95 a0 11) = (m65 a0 9) := (Eq.trans (zfr_ap hfm95 hc0 rfl) (zs_eq hmm94))
                            have p104 := zmul_bd (x := (m95 a0 17)) (y := (m95 a0 11)) (a := 1) (b := 0) (A := 8) (B := 5) (by omega) (by omega) (by omega) (by omega) (by omega) (by omega)
                            have w105 := zu_w32_id (z := (m95 a0 17) * (m95 a0 11)) (by omega) (by omega)
                            have w106 := zu_w32_id (z := (zu_w32 ((m95 a0 17) * (m95 a0 11))) + (m57 a0 11)) (by omega) (by omega)
                            generalize hmm107 : zu_up m95 a0 11 (zu_w32 ((zu_w32 ((m95 a0 17) * (m95 a0 11))) + (m57 a0 11))) = m107
                            have hIm107 := zi_up hmm107 hIm95 hc0 zb_28_11 (by omega) (by omega)
                            have hFm107 := zfr_up hmm107 hFm95 hc0 rfl
                            have hRNSm107 := zR_NS_fr (zdis_fr (zfr_up hmm107 (zfr_rf [(28, 12)] _) hc0 rfl) rfl) hRNSm95
                            have hRTRm107 := zR_TR_fr (zdis_fr (zfr_up hmm107 (zfr_rf [(28, 12)] _) hc0 rfl) rfl) hRTRm95
                            have hRWDm107 := zR_WD_fr (zdis_fr (zfr_up hmm107 (zfr_rf [(28, 12)] _) hc0 rfl) rfl) hRWDm95
                            refine zw_b (by omega) ?_
                            refine zw_some ?_
                            refine zw_ite (fun h108 => ?_) (fun h108 => ?_)
                            · have r109 : (-2147483648) ≤ (m107 a0 11) ∧ (m107 a0 11) ≤ 2147483647 := zi_rd hIm107 hc0 zb_28_11
                              have e110 : (m107 a0 11) = (zu_w32 ((zu_w32 ((m95 a0 17) * (m95 a0 11))) + (m57 a0 11))) := (zs_eq hmm107)
                              have b111 : 0 ≤ (zu_w32 (4 + (m13 a0 20))) ∧ (zu_w32 (4 + (m13 a0 20))) < 8 := by omega
                              refine zw_if b111 ?_
                              generalize hmm112 : zu_up m107 201 (zu_w32 (4 + (m13 a0 20))) (m107 a0 11) = m112
                              have hIm112 := zi_up hmm112 hIm107 zq_201 (zb_110 _) (by omega) (by omega)
                              have hFm112 := zfr_up hmm112 hFm107 zq_201 rfl
                              have hRNSm112 := zR_NS_fr (zdis_fr (zfr_up hmm112 (zfr_rf [(110, 0)] _) zq_201 rfl) rfl) hRNSm107
                              have hRTRm112 := zR_TR_fr (zdis_fr (zfr_up hmm112 (zfr_rf [(110, 0)] _) zq_201 rfl) rfl) hRTRm107
                              have hRWDm112 := zR_WD_fr (zdis_fr (zfr_up hmm112 (zfr_rf [(110, 0)] _) zq_201 rfl) rfl) hRWDm107
                              refine zw_bd (zw_eq (zu_call_at (zt_T n) (zm_94 n) (zdp_94 n) _ _ _ _ _ rfl (zr_94_0 n _ _ a0 1 15 m112)) ?_)
                              have r113 : 0 ≤ (m112 a0 8) ∧ (m112 a0 8) ≤ 6 := zi_rd hIm112 hc0 zb_28_8
                              refine zw_ite (fun h114 => ?_) (fun h114 => ?_)
                              · have r115 : (-2147483648) ≤ (m112 a0 9) ∧ (m112 a0 9) ≤ 2147483647 := zi_rd hIm112 hc0 zb_28_9
                                refine zw_bd (zw_eq (zu_call_at (zt_T n) (zm_83 n) (zdp_83 n) _ _ _ _ _ rfl (zr_83_0 n _ _ (m112 a0 9) 1 15 m112)) ?_)
                                refine zw_ite (fun h116 => ?_) (fun h116 => ?_)
                                · refine zw_b (by omega) ?_
                                  refine zw_some ?_
                                  refine zw_ite (fun h117 => ?_) (fun h117 => ?_)
                                  · exfalso; omega
                                  · refine zw_bd (zw_eq (zu_call_at (zt_T n) (zm_85 n) (zdp_85 n) _ _ _ _ _ rfl (zr_85_0 n _ _ a0 2 m112)) ?_)
                                    generalize hmm118 : zu_up m112 a0 4 2 = m118
                                    have hIm118 := zi_up hmm118 hIm112 hc0 zb_28_4 (by omega) (by omega)
                                    have hFm118 := zfr_up hmm118 hFm112 hc0 rfl
                                    have hRNSm118 := zR_NS_fr (zdis_fr (zfr_up hmm118 (zfr_rf [(28, 5)] _) hc0 rfl) rfl) hRNSm112
                                    have hRTRm118 := zR_TR_fr (zdis_fr (zfr_up hmm118 (zfr_rf [(28, 5)] _) hc0 rfl) rfl) hRTRm112
                                    have hRWDm118 := zR_WD_fr (zdis_fr (zfr_up hmm118 (zfr_rf [(28, 5)] _) hc0 rfl) rfl) hRWDm112
                                    have r119 : 0 ≤ (m118 a0 10) ∧ (m118 a0 10) ≤ 700 := zi_rd hIm118 hc0 zb_28_10
                                    generalize hmm120 : zu_up m118 a0 5 (m118 a0 10) = m120
                                    have hIm120 := zi_up hmm120 hIm118 hc0 zb_28_5 (by omega) (by omega)
                                    have hFm120 := zfr_up hmm120 hFm118 hc0 rfl
                                    have hRNSm120 := zR_NS_fr (zdis_fr (zfr_up hmm120 (zfr_rf [(28, 6)] _) hc0 rfl) rfl) hRNSm118
                                    have hRTRm120 := zR_TR_fr (zdis_fr (zfr_up hmm120 (zfr_rf [(28, 6)] _) hc0 rfl) rfl) hRTRm118
                                    have hRWDm120 := zR_WD_fr (zdis_fr (zfr_up hmm120 (zfr_rf [(28, 6)] _) hc0 rfl) rfl) hRWDm118
                                    refine zw_b (by omega) ?_
                                    refine zw_some ?_
                                    refine zw_b (by omega) ?_
                                    refine zw_some ?_
                                    refine zw_ite (fun h121 => ?_) (fun h121 => ?_)
                                    · exfalso; omega
                                    · refine zw_b (by omega) ?_
                                      have r122 : 0 ≤ (m120 a0 7) ∧ (m120 a0 7) ≤ 700 := zi_rd hIm120 hc0 zb_28_7
                                      have r123 : 0 ≤ (m120 a0 8) ∧ (m120 a0 8) ≤ 6 := zi_rd hIm120 hc0 zb_28_8
                                      have e124 : (m120 a0 8) = (m112 a0 8) := (Eq.trans (zs_ne hmm120 (Or.inr (by decide))) (zs_ne hmm118 (Or.inr (by decide))))
                                      exact zw_some ⟨hIm120, hFm120, hRNSm120, hRWDm120, ⟨by omega, by omega⟩, by omega, by omega⟩
                                · refine zw_ite (fun h125 => ?_) (fun h125 => ?_)
                                  · refine zw_b (by omega) ?_
                                    refine zw_some ?_
                                    refine zw_ite (fun h126 => ?_) (fun h126 => ?_)
                                    · exfalso; omega
                                    · refine zw_bd (zw_eq (zu_call_at (zt_T n) (zm_85 n) (zdp_85 n) _ _ _ _ _ rfl (zr_85_0 n _ _ a0 2 m112)) ?_)
                                      generalize hmm127 : zu_up m112 a0 4 2 = m127
                                      have hIm127 := zi_up hmm127 hIm112 hc0 zb_28_4 (by omega) (by omega)
                                      have hFm127 := zfr_up hmm127 hFm112 hc0 rfl
                                      have hRNSm127 := zR_NS_fr (zdis_fr (zfr_up hmm127 (zfr_rf [(28, 5)] _) hc0 rfl) rfl) hRNSm112
                                      have hRTRm127 := zR_TR_fr (zdis_fr (zfr_up hmm127 (zfr_rf [(28, 5)] _) hc0 rfl) rfl) hRTRm112
                                      have hRWDm127 := zR_WD_fr (zdis_fr (zfr_up hmm127 (zfr_rf [(28, 5)] _) hc0 rfl) rfl) hRWDm112
                                      have r128 : 0 ≤ (m127 a0 10) ∧ (m127 a0 10) ≤ 700 := zi_rd hIm127 hc0 zb_28_10
                                      generalize hmm129 : zu_up m127 a0 5 (m127 a0 10) = m129
                                      have hIm129 := zi_up hmm129 hIm127 hc0 zb_28_5 (by omega) (by omega)
                                      have hFm129 := zfr_up hmm129 hFm127 hc0 rfl
                                      have hRNSm129 := zR_NS_fr (zdis_fr (zfr_up hmm129 (zfr_rf [(28, 6)] _) hc0 rfl) rfl) hRNSm127
                                      have hRTRm129 := zR_TR_fr (zdis_fr (zfr_up hmm129 (zfr_rf [(28, 6)] _) hc0 rfl) rfl) hRTRm127
                                      have hRWDm129 := zR_WD_fr (zdis_fr (zfr_up hmm129 (zfr_rf [(28, 6)] _) hc0 rfl) rfl) hRWDm127
                                      refine zw_b (by omega) ?_
                                      refine zw_some ?_
                                      refine zw_b (by omega) ?_
                                      refine zw_some ?_
                                      refine zw_ite (fun h130 => ?_) (fun h130 => ?_)
                                      · exfalso; omega
                                      · refine zw_b (by omega) ?_
                                        have r131 : 0 ≤ (m129 a0 7) ∧ (m129 a0 7) ≤ 700 := zi_rd hIm129 hc0 zb_28_7
                                        have r132 : 0 ≤ (m129 a0 8) ∧ (m129 a0 8) ≤ 6 := zi_rd hIm129 hc0 zb_28_8
                                        have e133 : (m129 a0 8) = (m112 a0 8) := (Eq.trans (zs_ne hmm129 (Or.inr (by decide))) (zs_ne hmm127 (Or.inr (by decide))))
                                        exact zw_some ⟨hIm129, hFm129, hRNSm129, hRWDm129, ⟨by omega, by omega⟩, by omega, by omega⟩
                                  · refine zw_b (by omega) ?_
                                    refine zw_some ?_
                                    refine zw_ite (fun h134 => ?_) (fun h134 => ?_)
                                    · generalize hmm135 : zu_up m112 a0 11 (m112 a0 9) = m135
                                      have hIm135 := zi_up hmm135 hIm112 hc0 zb_28_11 (by omega) (by omega)
                                      have hFm135 := zfr_up hmm135 hFm112 hc0 rfl
                                      have hRNSm135 := zR_NS_fr (zdis_fr (zfr_up hmm135 (zfr_rf [(28, 12)] _) hc0 rfl) rfl) hRNSm112
                                      have hRTRm135 := zR_TR_fr (zdis_fr (zfr_up hmm135 (zfr_rf [(28, 12)] _) hc0 rfl) rfl) hRTRm112
                                      have hRWDm135 := zR_WD_fr (zdis_fr (zfr_up hmm135 (zfr_rf [(28, 12)] _) hc0 rfl) rfl) hRWDm112
                                      refine zw_bd (zw_mono (zk_89 n hIm135 hc0 hRNSm135 hRWDm135) (fun v137 m136 hqm136 => ?_))
                                      obtain ⟨hIm136, hfm136, hvm136⟩ := hqm136
                                      have hFm136 := zfr_tr hFm135 hfm136 rfl
                                      obtain ⟨hRNSm136, hRTRm136, hRWDm136, hvm136⟩ := hvm136
                                      have s138 := hRNSm136 a0 hc0
                                      have s139 := hRTRm136 a0 hc0
                                      refine zw_b (by omega) ?_
                                      refine zw_some ?_
                                      refine zw_ite (fun h140 => ?_) (fun h140 => ?_)
                                      · have r141 : (-2147483648) ≤ (m136 a0 11) ∧ (m136 a0 11) ≤ 2147483647 := zi_rd hIm136 hc0 zb_28_11
                                        have e142 : (m136 a0 11) = (m112 a0 9) := (Eq.trans (zfr_ap hfm136 hc0 rfl) (zs_eq hmm135))
                                        have b143 : 0 ≤ (zu_w32 (4 + (m13 a0 20))) ∧ (zu_w32 (4 + (m13 a0 20))) < 8 := by omega
                                        refine zw_if b143 ?_
                                        generalize hmm144 : zu_up m136 202 (zu_w32 (4 + (m13 a0 20))) (m136 a0 11) = m144
                                        have hIm144 := zi_up hmm144 hIm136 zq_202 (zb_111 _) (by omega) (by omega)
                                        have hFm144 := zfr_up hmm144 hFm136 zq_202 rfl
                                        have hRNSm144 := zR_NS_fr (zdis_fr (zfr_up hmm144 (zfr_rf [(111, 0)] _) zq_202 rfl) rfl) hRNSm136
                                        have hRTRm144 := zR_TR_fr (zdis_fr (zfr_up hmm144 (zfr_rf [(111, 0)] _) zq_202 rfl) rfl) hRTRm136
                                        have hRWDm144 := zR_WD_fr (zdis_fr (zfr_up hmm144 (zfr_rf [(111, 0)] _) zq_202 rfl) rfl) hRWDm136
                                        refine zw_bd (zw_eq (zu_call_at (zt_T n) (zm_94 n) (zdp_94 n) _ _ _ _ _ rfl (zr_94_0 n _ _ a0 0 3 m144)) ?_)
                                        have r145 : 0 ≤ (m144 a0 8) ∧ (m144 a0 8) ≤ 6 := zi_rd hIm144 hc0 zb_28_8
                                        refine zw_ite (fun h146 => ?_) (fun h146 => ?_)
                                        · have r147 : (-2147483648) ≤ (m144 a0 9) ∧ (m144 a0 9) ≤ 2147483647 := zi_rd hIm144 hc0 zb_28_9
                                          refine zw_bd (zw_eq (zu_call_at (zt_T n) (zm_83 n) (zdp_83 n) _ _ _ _ _ rfl (zr_83_0 n _ _ (m144 a0 9) 0 3 m144)) ?_)
                                          refine zw_ite (fun h148 => ?_) (fun h148 => ?_)
                                          · refine zw_b (by omega) ?_
                                            refine zw_some ?_
                                            refine zw_ite (fun h149 => ?_) (fun h149 => ?_)
                                            · exfalso; omega
                                            · refine zw_bd (zw_eq (zu_call_at (zt_T n) (zm_85 n) (zdp_85 n) _ _ _ _ _ rfl (zr_85_0 n _ _ a0 2 m144)) ?_)
                                              generalize hmm150 : zu_up m144 a0 4 2 = m150
                                              have hIm150 := zi_up hmm150 hIm144 hc0 zb_28_4 (by omega) (by omega)
                                              have hFm150 := zfr_up hmm150 hFm144 hc0 rfl
                                              have hRNSm150 := zR_NS_fr (zdis_fr (zfr_up hmm150 (zfr_rf [(28, 5)] _) hc0 rfl) rfl) hRNSm144
                                              have hRTRm150 := zR_TR_fr (zdis_fr (zfr_up hmm150 (zfr_rf [(28, 5)] _) hc0 rfl) rfl) hRTRm144
                                              have hRWDm150 := zR_WD_fr (zdis_fr (zfr_up hmm150 (zfr_rf [(28, 5)] _) hc0 rfl) rfl) hRWDm144
                                              have r151 : 0 ≤ (m150 a0 10) ∧ (m150 a0 10) ≤ 700 := zi_rd hIm150 hc0 zb_28_10
                                              generalize hmm152 : zu_up m150 a0 5 (m150 a0 10) = m152
                                              have hIm152 := zi_up hmm152 hIm150 hc0 zb_28_5 (by omega) (by omega)
                                              have hFm152 := zfr_up hmm152 hFm150 hc0 rfl
                                              have hRNSm152 := zR_NS_fr (zdis_fr (zfr_up hmm152 (zfr_rf [(28, 6)] _) hc0 rfl) rfl) hRNSm150
                                              have hRTRm152 := zR_TR_fr (zdis_fr (zfr_up hmm152 (zfr_rf [(28, 6)] _) hc0 rfl) rfl) hRTRm150
                                              have hRWDm152 := zR_WD_fr (zdis_fr (zfr_up hmm152 (zfr_rf [(28, 6)] _) hc0 rfl) rfl) hRWDm150
                                              refine zw_b (by omega) ?_
                                              refine zw_some ?_
                                              refine zw_b (by omega) ?_
                                              refine zw_some ?_
                                              refine zw_ite (fun h153 => ?_) (fun h153 => ?_)
                                              · exfalso; omega
                                              · refine zw_b (by omega) ?_
                                                have r154 : 0 ≤ (m152 a0 7) ∧ (m152 a0 7) ≤ 700 := zi_rd hIm152 hc0 zb_28_7
                                                have r155 : 0 ≤ (m152 a0 8) ∧ (m152 a0 8) ≤ 6 := zi_rd hIm152 hc0 zb_28_8
                                                have e156 : (m152 a0 8) = (m144 a0 8) := (Eq.trans (zs_ne hmm152 (Or.inr (by decide))) (zs_ne hmm150 (Or.inr (by decide))))
                                                exact zw_some ⟨hIm152, hFm152, hRNSm152, hRWDm152, ⟨by omega, by omega⟩, by omega, by omega⟩
                                          · refine zw_ite (fun h157 => ?_) (fun h157 => ?_)
                                            · refine zw_b (by omega) ?_
                                              refine zw_some ?_
                                              refine zw_ite (fun h158 => ?_) (fun h158 => ?_)
                                              · exfalso; omega
                                              · refine zw_bd (zw_eq (zu_call_at (zt_T n) (zm_85 n) (zdp_85 n) _ _ _ _ _ rfl (zr_85_0 n _ _ a0 2 m144)) ?_)
                                                generalize hmm159 : zu_up m144 a0 4 2 = m159
                                                have hIm159 := zi_up hmm159 hIm144 hc0 zb_28_4 (by omega) (by omega)
                                                have hFm159 := zfr_up hmm159 hFm144 hc0 rfl
                                                have hRNSm159 := zR_NS_fr (zdis_fr (zfr_up hmm159 (zfr_rf [(28, 5)] _) hc0 rfl) rfl) hRNSm144
                                                have hRTRm159 := zR_TR_fr (zdis_fr (zfr_up hmm159 (zfr_rf [(28, 5)] _) hc0 rfl) rfl) hRTRm144
                                                have hRWDm159 := zR_WD_fr (zdis_fr (zfr_up hmm159 (zfr_rf [(28, 5)] _) hc0 rfl) rfl) hRWDm144
                                                have r160 : 0 ≤ (m159 a0 10) ∧ (m159 a0 10) ≤ 700 := zi_rd hIm159 hc0 zb_28_10
                                                generalize hmm161 : zu_up m159 a0 5 (m159 a0 10) = m161
                                                have hIm161 := zi_up hmm161 hIm159 hc0 zb_28_5 (by omega) (by omega)
                                                have hFm161 := zfr_up hmm161 hFm159 hc0 rfl
                                                have hRNSm161 := zR_NS_fr (zdis_fr (zfr_up hmm161 (zfr_rf [(28, 6)] _) hc0 rfl) rfl) hRNSm159
                                                have hRTRm161 := zR_TR_fr (zdis_fr (zfr_up hmm161 (zfr_rf [(28, 6)] _) hc0 rfl) rfl) hRTRm159
                                                have hRWDm161 := zR_WD_fr (zdis_fr (zfr_up hmm161 (zfr_rf [(28, 6)] _) hc0 rfl) rfl) hRWDm159
                                                refine zw_b (by omega) ?_
                                                refine zw_some ?_
                                                refine zw_b (by omega) ?_
                                                refine zw_some ?_
                                                refine zw_ite (fun h162 => ?_) (fun h162 => ?_)
                                                · exfalso; omega
                                                · refine zw_b (by omega) ?_
                                                  have r163 : 0 ≤ (m161 a0 7) ∧ (m161 a0 7) ≤ 700 := zi_rd hIm161 hc0 zb_28_7
                                                  have r164 : 0 ≤ (m161 a0 8) ∧ (m161 a0 8) ≤ 6 := zi_rd hIm161 hc0 zb_28_8
                                                  have e165 : (m161 a0 8) = (m144 a0 8) := (Eq.trans (zs_ne hmm161 (Or.inr (by decide))) (zs_ne hmm159 (Or.inr (by decide))))
                                                  exact zw_some ⟨hIm161, hFm161, hRNSm161, hRWDm161, ⟨by omega, by omega⟩, by omega, by omega⟩
                                            · refine zw_b (by omega) ?_
                                              refine zw_some ?_
                                              refine zw_ite (fun h166 => ?_) (fun h166 => ?_)
                                              · generalize hmm167 : zu_up m144 a0 11 (m144 a0 9) = m167
                                                have hIm167 := zi_up hmm167 hIm144 hc0 zb_28_11 (by omega) (by omega)
                                                have hFm167 := zfr_up hmm167 hFm144 hc0 rfl
                                                have hRNSm167 := zR_NS_fr (zdis_fr (zfr_up hmm167 (zfr_rf [(28, 12)] _) hc0 rfl) rfl) hRNSm144
                                                have hRTRm167 := zR_TR_fr (zdis_fr (zfr_up hmm167 (zfr_rf [(28, 12)] _) hc0 rfl) rfl) hRTRm144
                                                have hRWDm167 := zR_WD_fr (zdis_fr (zfr_up hmm167 (zfr_rf [(28, 12)] _) hc0 rfl) rfl) hRWDm144
                                                refine zw_bd (zw_mono (zk_89 n hIm167 hc0 hRNSm167 hRWDm167) (fun v169 m168 hqm168 => ?_))
                                                obtain ⟨hIm168, hfm168, hvm168⟩ := hqm168
                                                have hFm168 := zfr_tr hFm167 hfm168 rfl
                                                obtain ⟨hRNSm168, hRTRm168, hRWDm168, hvm168⟩ := hvm168
                                                have s170 := hRNSm168 a0 hc0
                                                have s171 := hRTRm168 a0 hc0
                                                refine zw_b (by omega) ?_
                                                refine zw_some ?_
                                                refine zw_ite (fun h172 => ?_) (fun h172 => ?_)
                                                · have r173 : (-2147483648) ≤ (m168 a0 11) ∧ (m168 a0 11) ≤ 2147483647 := zi_rd hIm168 hc0 zb_28_11
                                                  have e174 : (m168 a0 11) = (m144 a0 9) := (Eq.trans (zfr_ap hfm168 hc0 rfl) (zs_eq hmm167))
                                                  have b175 : 0 ≤ (zu_w32 (4 + (m13 a0 20))) ∧ (zu_w32 (4 + (m13 a0 20))) < 8 := by omega
                                                  refine zw_if b175 ?_
                                                  generalize hmm176 : zu_up m168 203 (zu_w32 (4 + (m13 a0 20))) (m168 a0 11) = m176
                                                  have hIm176 := zi_up hmm176 hIm168 zq_203 (zb_112 _) (by omega) (by omega)
                                                  have hFm176 := zfr_up hmm176 hFm168 zq_203 rfl
                                                  have hRNSm176 := zR_NS_fr (zdis_fr (zfr_up hmm176 (zfr_rf [(112, 0)] _) zq_203 rfl) rfl) hRNSm168
                                                  have hRTRm176 := zR_TR_fr (zdis_fr (zfr_up hmm176 (zfr_rf [(112, 0)] _) zq_203 rfl) rfl) hRTRm168
                                                  have hRWDm176 := zR_WD_fr (zdis_fr (zfr_up hmm176 (zfr_rf [(112, 0)] _) zq_203 rfl) rfl) hRWDm168
                                                  refine zw_bd (zw_eq (zu_call_at (zt_T n) (zm_94 n) (zdp_94 n) _ _ _ _ _ rfl (zr_94_0 n _ _ a0 0 99 m176)) ?_)
                                                  have r177 : 0 ≤ (m176 a0 8) ∧ (m176 a0 8) ≤ 6 := zi_rd hIm176 hc0 zb_28_8
                                                  refine zw_ite (fun h178 => ?_) (fun h178 => ?_)
                                                  · have r179 : (-2147483648) ≤ (m176 a0 9) ∧ (m176 a0 9) ≤ 2147483647 := zi_rd hIm176 hc0 zb_28_9
                                                    refine zw_bd (zw_eq (zu_call_at (zt_T n) (zm_83 n) (zdp_83 n) _ _ _ _ _ rfl (zr_83_0 n _ _ (m176 a0 9) 0 99 m176)) ?_)
                                                    refine zw_ite (fun h180 => ?_) (fun h180 => ?_)
                                                    · refine zw_b (by omega) ?_
                                                      refine zw_some ?_
                                                      refine zw_ite (fun h181 => ?_) (fun h181 => ?_)
                                                      · exfalso; omega
                                                      · refine zw_bd (zw_eq (zu_call_at (zt_T n) (zm_85 n) (zdp_85 n) _ _ _ _ _ rfl (zr_85_0 n _ _ a0 2 m176)) ?_)
                                                        generalize hmm182 : zu_up m176 a0 4 2 = m182
                                                        have hIm182 := zi_up hmm182 hIm176 hc0 zb_28_4 (by omega) (by omega)
                                                        have hFm182 := zfr_up hmm182 hFm176 hc0 rfl
                                                        have hRNSm182 := zR_NS_fr (zdis_fr (zfr_up hmm182 (zfr_rf [(28, 5)] _) hc0 rfl) rfl) hRNSm176
                                                        have hRTRm182 := zR_TR_fr (zdis_fr (zfr_up hmm182 (zfr_rf [(28, 5)] _) hc0 rfl) rfl) hRTRm176
                                                        have hRWDm182 := zR_WD_fr (zdis_fr (zfr_up hmm182 (zfr_rf [(28, 5)] _) hc0 rfl) rfl) hRWDm176
                                                        have r183 : 0 ≤ (m182 a0 10) ∧ (m182 a0 10) ≤ 700 := zi_rd hIm182 hc0 zb_28_10
                                                        generalize hmm184 : zu_up m182 a0 5 (m182 a0 10) = m184
                                                        have hIm184 := zi_up hmm184 hIm182 hc0 zb_28_5 (by omega) (by omega)
                                                        have hFm184 := zfr_up hmm184 hFm182 hc0 rfl
                                                        have hRNSm184 := zR_NS_fr (zdis_fr (zfr_up hmm184 (zfr_rf [(28, 6)] _) hc0 rfl) rfl) hRNSm182
                                                        have hRTRm184 := zR_TR_fr (zdis_fr (zfr_up hmm184 (zfr_rf [(28, 6)] _) hc0 rfl) rfl) hRTRm182
                                                        have hRWDm184 := zR_WD_fr (zdis_fr (zfr_up hmm184 (zfr_rf [(28, 6)] _) hc0 rfl) rfl) hRWDm182
                                                        refine zw_b (by omega) ?_
                                                        refine zw_some ?_
                                                        refine zw_b (by omega) ?_
                                                        refine zw_some ?_
                                                        refine zw_ite (fun h185 => ?_) (fun h185 => ?_)
                                                        · exfalso; omega
                                                        · refine zw_b (by omega) ?_
                                                          have r186 : 0 ≤ (m184 a0 7) ∧ (m184 a0 7) ≤ 700 := zi_rd hIm184 hc0 zb_28_7
                                                          have r187 : 0 ≤ (m184 a0 8) ∧ (m184 a0 8) ≤ 6 := zi_rd hIm184 hc0 zb_28_8
                                                          have e188 : (m184 a0 8) = (m176 a0 8) := (Eq.trans (zs_ne hmm184 (Or.inr (by decide))) (zs_ne hmm182 (Or.inr (by decide))))
                                                          exact zw_some ⟨hIm184, hFm184, hRNSm184, hRWDm184, ⟨by omega, by omega⟩, by omega, by omega⟩
                                                    · refine zw_ite (fun h189 => ?_) (fun h189 => ?_)
                                                      · refine zw_b (by omega) ?_
                                                        refine zw_some ?_
                                                        refine zw_ite (fun h190 => ?_) (fun h190 => ?_)
                                                        · exfalso; omega
                                                        · refine zw_bd (zw_eq (zu_call_at (zt_T n) (zm_85 n) (zdp_85 n) _ _ _ _ _ rfl (zr_85_0 n _ _ a0 2 m176)) ?_)
                                                          generalize hmm191 : zu_up m176 a0 4 2 = m191
                                                          have hIm191 := zi_up hmm191 hIm176 hc0 zb_28_4 (by omega) (by omega)
                                                          have hFm191 := zfr_up hmm191 hFm176 hc0 rfl
                                                          have hRNSm191 := zR_NS_fr (zdis_fr (zfr_up hmm191 (zfr_rf [(28, 5)] _) hc0 rfl) rfl) hRNSm176
                                                          have hRTRm191 := zR_TR_fr (zdis_fr (zfr_up hmm191 (zfr_rf [(28, 5)] _) hc0 rfl) rfl) hRTRm176
                                                          have hRWDm191 := zR_WD_fr (zdis_fr (zfr_up hmm191 (zfr_rf [(28, 5)] _) hc0 rfl) rfl) hRWDm176
                                                          have r192 : 0 ≤ (m191 a0 10) ∧ (m191 a0 10) ≤ 700 := zi_rd hIm191 hc0 zb_28_10
                                                          generalize hmm193 : zu_up m191 a0 5 (m191 a0 10) = m193
                                                          have hIm193 := zi_up hmm193 hIm191 hc0 zb_28_5 (by omega) (by omega)
                                                          have hFm193 := zfr_up hmm193 hFm191 hc0 rfl
                                                          have hRNSm193 := zR_NS_fr (zdis_fr (zfr_up hmm193 (zfr_rf [(28, 6)] _) hc0 rfl) rfl) hRNSm191
                                                          have hRTRm193 := zR_TR_fr (zdis_fr (zfr_up hmm193 (zfr_rf [(28, 6)] _) hc0 rfl) rfl) hRTRm191
                                                          have hRWDm193 := zR_WD_fr (zdis_fr (zfr_up hmm193 (zfr_rf [(28, 6)] _) hc0 rfl) rfl) hRWDm191
                                                          refine zw_b (by omega) ?_
                                                          refine zw_some ?_
                                                          refine zw_b (by omega) ?_
                                                          refine zw_some ?_
                                                          refine zw_ite (fun h194 => ?_) (fun h194 => ?_)
                                                          · exfalso; omega
                                                          · refine zw_b (by omega) ?_
                                                            have r195 : 0 ≤ (m193 a0 7) ∧ (m193 a0 7) ≤ 700 := zi_rd hIm193 hc0 zb_28_7
                                                            have r196 : 0 ≤ (m193 a0 8) ∧ (m193 a0 8) ≤ 6 := zi_rd hIm193 hc0 zb_28_8
                                                            have e197 : (m193 a0 8) = (m176 a0 8) := (Eq.trans (zs_ne hmm193 (Or.inr (by decide))) (zs_ne hmm191 (Or.inr (by decide))))
                                                            exact zw_some ⟨hIm193, hFm193, hRNSm193, hRWDm193, ⟨by omega, by omega⟩, by omega, by omega⟩
                                                      · refine zw_b (by omega) ?_
                                                        refine zw_some ?_
                                                        refine zw_ite (fun h198 => ?_) (fun h198 => ?_)
                                                        · generalize hmm199 : zu_up m176 a0 11 (m176 a0 9) = m199
                                                          have hIm199 := zi_up hmm199 hIm176 hc0 zb_28_11 (by omega) (by omega)
                                                          have hFm199 := zfr_up hmm199 hFm176 hc0 rfl
                                                          have hRNSm199 := zR_NS_fr (zdis_fr (zfr_up hmm199 (zfr_rf [(28, 12)] _) hc0 rfl) rfl) hRNSm176
                                                          have hRTRm199 := zR_TR_fr (zdis_fr (zfr_up hmm199 (zfr_rf [(28, 12)] _) hc0 rfl) rfl) hRTRm176
                                                          have hRWDm199 := zR_WD_fr (zdis_fr (zfr_up hmm199 (zfr_rf [(28, 12)] _) hc0 rfl) rfl) hRWDm176
                                                          refine zw_bd (zw_mono (zk_89 n hIm199 hc0 hRNSm199 hRWDm199) (fun v201 m200 hqm200 => ?_))
                                                          obtain ⟨hIm200, hfm200, hvm200⟩ := hqm200
                                                          have hFm200 := zfr_tr hFm199 hfm200 rfl
                                                          obtain ⟨hRNSm200, hRTRm200, hRWDm200, hvm200⟩ := hvm200
                                                          have s202 := hRNSm200 a0 hc0
                                                          have s203 := hRTRm200 a0 hc0
                                                          refine zw_b (by omega) ?_
                                                          refine zw_some ?_
                                                          refine zw_ite (fun h204 => ?_) (fun h204 => ?_)
                                                          · have r205 : (-2147483648) ≤ (m200 a0 11) ∧ (m200 a0 11) ≤ 2147483647 := zi_rd hIm200 hc0 zb_28_11
                                                            have e206 : (m200 a0 11) = (m176 a0 9) := (Eq.trans (zfr_ap hfm200 hc0 rfl) (zs_eq hmm199))
                                                            have b207 : 0 ≤ (zu_w32 (4 + (m13 a0 20))) ∧ (zu_w32 (4 + (m13 a0 20))) < 8 := by omega
                                                            refine zw_if b207 ?_
                                                            generalize hmm208 : zu_up m200 204 (zu_w32 (4 + (m13 a0 20))) (m200 a0 11) = m208
                                                            have hIm208 := zi_up hmm208 hIm200 zq_204 (zb_113 _) (by omega) (by omega)
                                                            have hFm208 := zfr_up hmm208 hFm200 zq_204 rfl
                                                            have hRNSm208 := zR_NS_fr (zdis_fr (zfr_up hmm208 (zfr_rf [(113, 0)] _) zq_204 rfl) rfl) hRNSm200
                                                            have hRTRm208 := zR_TR_fr (zdis_fr (zfr_up hmm208 (zfr_rf [(113, 0)] _) zq_204 rfl) rfl) hRTRm200
                                                            have hRWDm208 := zR_WD_fr (zdis_fr (zfr_up hmm208 (zfr_rf [(113, 0)] _) zq_204 rfl) rfl) hRWDm200
                                                            have r209 : 0 ≤ (m208 a0 20) ∧ (m208 a0 20) ≤ 4 := zi_rd hIm208 hc0 zb_28_20
                                                            have e210 : (m208 a0 20) = (m13 a0 20) := (Eq.trans (zs_ne hmm208 (Or.inl (zc_ne hc0 zq_204 (by decide)))) (Eq.trans (zfr_ap hfm200 hc0 rfl) (Eq.trans (zs_ne hmm199 (Or.inr (by decide))) (Eq.trans (zs_ne hmm176 (Or.inl (zc_ne hc0 zq_203 (by decide)))) (Eq.trans (zfr_ap hfm168 hc0 rfl) (Eq.trans (zs_ne hmm167 (Or.inr (by decide))) (Eq.trans (zs_ne hmm144 (Or.inl (zc_ne hc0 zq_202 (by decide)))) (Eq.trans (zfr_ap hfm136 hc0 rfl) (Eq.trans (zs_ne hmm135 (Or.inr (by decide))) (Eq.trans (zs_ne hmm112 (Or.inl (zc_ne hc0 zq_201 (by decide)))) (Eq.trans (zs_ne hmm107 (Or.inr (by decide))) (Eq.trans (zfr_ap hfm95 hc0 rfl) (Eq.trans (zs_ne hmm94 (Or.inr (by decide))) (Eq.trans (zs_ne hmm65 (Or.inr (by decide))) (Eq.trans (zfr_ap hfm57 hc0 rfl) (Eq.trans (zs_ne hmm56 (Or.inr (by decide))) (Eq.trans (zs_ne hmm29 (Or.inr (by decide))) (Eq.trans (zfr_ap hfm25 hc0 rfl) (zs_ne hmm24 (Or.inl (zc_ne hc0 zq_200 (by decide))))))))))))))))))))))
                                                            have w211 := zu_w32_id (z := (m208 a0 20) + 1) (by omega) (by omega)
                                                            generalize hmm212 : zu_up m208 a0 20 (zu_w32 ((m208 a0 20) + 1)) = m212
                                                            have hIm212 := zi_up hmm212 hIm208 hc0 zb_28_20 (by omega) (by omega)
                                                            have hFm212 := zfr_up hmm212 hFm208 hc0 rfl
                                                            have hRNSm212 := zR_NS_fr (zdis_fr (zfr_up hmm212 (zfr_rf [(28, 21)] _) hc0 rfl) rfl) hRNSm208
                                                            have hRTRm212 := zR_TR_fr (zdis_fr (zfr_up hmm212 (zfr_rf [(28, 21)] _) hc0 rfl) rfl) hRTRm208
                                                            have hRWDm212 := zR_WD_fr (zdis_fr (zfr_up hmm212 (zfr_rf [(28, 21)] _) hc0 rfl) rfl) hRWDm208
                                                            refine zw_b (by omega) ?_
                                                            have r213 : 0 ≤ (m212 a0 7) ∧ (m212 a0 7) ≤ 700 := zi_rd hIm212 hc0 zb_28_7
                                                            have r214 : 0 ≤ (m212 a0 8) ∧ (m212 a0 8) ≤ 6 := zi_rd hIm212 hc0 zb_28_8
                                                            exact zw_some ⟨hIm212, hFm212, hRNSm212, hRWDm212, ⟨by omega, by omega⟩, by omega, by omega⟩
                                                          · exfalso; omega
                                                        · exfalso; omega
                                                  · refine zw_bd (zw_eq (zu_call_at (zt_T n) (zm_85 n) (zdp_85 n) _ _ _ _ _ rfl (zr_85_0 n _ _ a0 1 m176)) ?_)
                                                    generalize hmm215 : zu_up m176 a0 4 1 = m215
                                                    have hIm215 := zi_up hmm215 hIm176 hc0 zb_28_4 (by omega) (by omega)
                                                    have hFm215 := zfr_up hmm215 hFm176 hc0 rfl
                                                    have hRNSm215 := zR_NS_fr (zdis_fr (zfr_up hmm215 (zfr_rf [(28, 5)] _) hc0 rfl) rfl) hRNSm176
                                                    have hRTRm215 := zR_TR_fr (zdis_fr (zfr_up hmm215 (zfr_rf [(28, 5)] _) hc0 rfl) rfl) hRTRm176
                                                    have hRWDm215 := zR_WD_fr (zdis_fr (zfr_up hmm215 (zfr_rf [(28, 5)] _) hc0 rfl) rfl) hRWDm176
                                                    have r216 : 0 ≤ (m215 a0 10) ∧ (m215 a0 10) ≤ 700 := zi_rd hIm215 hc0 zb_28_10
                                                    generalize hmm217 : zu_up m215 a0 5 (m215 a0 10) = m217
                                                    have hIm217 := zi_up hmm217 hIm215 hc0 zb_28_5 (by omega) (by omega)
                                                    have hFm217 := zfr_up hmm217 hFm215 hc0 rfl
                                                    have hRNSm217 := zR_NS_fr (zdis_fr (zfr_up hmm217 (zfr_rf [(28, 6)] _) hc0 rfl) rfl) hRNSm215
                                                    have hRTRm217 := zR_TR_fr (zdis_fr (zfr_up hmm217 (zfr_rf [(28, 6)] _) hc0 rfl) rfl) hRTRm215
                                                    have hRWDm217 := zR_WD_fr (zdis_fr (zfr_up hmm217 (zfr_rf [(28, 6)] _) hc0 rfl) rfl) hRWDm215
                                                    refine zw_b (by omega) ?_
                                                    refine zw_some ?_
                                                    refine zw_b (by omega) ?_
                                                    refine zw_some ?_
                                                    refine zw_ite (fun h218 => ?_) (fun h218 => ?_)
                                                    · exfalso; omega
                                                    · refine zw_b (by omega) ?_
                                                      have r219 : 0 ≤ (m217 a0 7) ∧ (m217 a0 7) ≤ 700 := zi_rd hIm217 hc0 zb_28_7
                                                      have r220 : 0 ≤ (m217 a0 8) ∧ (m217 a0 8) ≤ 6 := zi_rd hIm217 hc0 zb_28_8
                                                      have e221 : (m217 a0 8) = (m176 a0 8) := (Eq.trans (zs_ne hmm217 (Or.inr (by decide))) (zs_ne hmm215 (Or.inr (by decide))))
                                                      exact zw_some ⟨hIm217, hFm217, hRNSm217, hRWDm217, ⟨by omega, by omega⟩, by omega, by omega⟩
                                                · exfalso; omega
                                              · exfalso; omega
                                        · refine zw_bd (zw_eq (zu_call_at (zt_T n) (zm_85 n) (zdp_85 n) _ _ _ _ _ rfl (zr_85_0 n _ _ a0 1 m144)) ?_)
                                          generalize hmm222 : zu_up m144 a0 4 1 = m222
                                          have hIm222 := zi_up hmm222 hIm144 hc0 zb_28_4 (by omega) (by omega)
                                          have hFm222 := zfr_up hmm222 hFm144 hc0 rfl
                                          have hRNSm222 := zR_NS_fr (zdis_fr (zfr_up hmm222 (zfr_rf [(28, 5)] _) hc0 rfl) rfl) hRNSm144
                                          have hRTRm222 := zR_TR_fr (zdis_fr (zfr_up hmm222 (zfr_rf [(28, 5)] _) hc0 rfl) rfl) hRTRm144
                                          have hRWDm222 := zR_WD_fr (zdis_fr (zfr_up hmm222 (zfr_rf [(28, 5)] _) hc0 rfl) rfl) hRWDm144
                                          have r223 : 0 ≤ (m222 a0 10) ∧ (m222 a0 10) ≤ 700 := zi_rd hIm222 hc0 zb_28_10
                                          generalize hmm224 : zu_up m222 a0 5 (m222 a0 10) = m224
                                          have hIm224 := zi_up hmm224 hIm222 hc0 zb_28_5 (by omega) (by omega)
                                          have hFm224 := zfr_up hmm224 hFm222 hc0 rfl
                                          have hRNSm224 := zR_NS_fr (zdis_fr (zfr_up hmm224 (zfr_rf [(28, 6)] _) hc0 rfl) rfl) hRNSm222
                                          have hRTRm224 := zR_TR_fr (zdis_fr (zfr_up hmm224 (zfr_rf [(28, 6)] _) hc0 rfl) rfl) hRTRm222
                                          have hRWDm224 := zR_WD_fr (zdis_fr (zfr_up hmm224 (zfr_rf [(28, 6)] _) hc0 rfl) rfl) hRWDm222
                                          refine zw_b (by omega) ?_
                                          refine zw_some ?_
                                          refine zw_b (by omega) ?_
                                          refine zw_some ?_
                                          refine zw_ite (fun h225 => ?_) (fun h225 => ?_)
                                          · exfalso; omega
                                          · refine zw_b (by omega) ?_
                                            have r226 : 0 ≤ (m224 a0 7) ∧ (m224 a0 7) ≤ 700 := zi_rd hIm224 hc0 zb_28_7
                                            have r227 : 0 ≤ (m224 a0 8) ∧ (m224 a0 8) ≤ 6 := zi_rd hIm224 hc0 zb_28_8
                                            have e228 : (m224 a0 8) = (m144 a0 8) := (Eq.trans (zs_ne hmm224 (Or.inr (by decide))) (zs_ne hmm222 (Or.inr (by decide))))
                                            exact zw_some ⟨hIm224, hFm224, hRNSm224, hRWDm224, ⟨by omega, by omega⟩, by omega, by omega⟩
                                      · exfalso; omega
                                    · exfalso; omega
                              · refine zw_bd (zw_eq (zu_call_at (zt_T n) (zm_85 n) (zdp_85 n) _ _ _ _ _ rfl (zr_85_0 n _ _ a0 1 m112)) ?_)
                                generalize hmm229 : zu_up m112 a0 4 1 = m229
                                have hIm229 := zi_up hmm229 hIm112 hc0 zb_28_4 (by omega) (by omega)
                                have hFm229 := zfr_up hmm229 hFm112 hc0 rfl
                                have hRNSm229 := zR_NS_fr (zdis_fr (zfr_up hmm229 (zfr_rf [(28, 5)] _) hc0 rfl) rfl) hRNSm112
                                have hRTRm229 := zR_TR_fr (zdis_fr (zfr_up hmm229 (zfr_rf [(28, 5)] _) hc0 rfl) rfl) hRTRm112
                                have hRWDm229 := zR_WD_fr (zdis_fr (zfr_up hmm229 (zfr_rf [(28, 5)] _) hc0 rfl) rfl) hRWDm112
                                have r230 : 0 ≤ (m229 a0 10) ∧ (m229 a0 10) ≤ 700 := zi_rd hIm229 hc0 zb_28_10
                                generalize hmm231 : zu_up m229 a0 5 (m229 a0 10) = m231
                                have hIm231 := zi_up hmm231 hIm229 hc0 zb_28_5 (by omega) (by omega)
                                have hFm231 := zfr_up hmm231 hFm229 hc0 rfl
                                have hRNSm231 := zR_NS_fr (zdis_fr (zfr_up hmm231 (zfr_rf [(28, 6)] _) hc0 rfl) rfl) hRNSm229
                                have hRTRm231 := zR_TR_fr (zdis_fr (zfr_up hmm231 (zfr_rf [(28, 6)] _) hc0 rfl) rfl) hRTRm229
                                have hRWDm231 := zR_WD_fr (zdis_fr (zfr_up hmm231 (zfr_rf [(28, 6)] _) hc0 rfl) rfl) hRWDm229
                                refine zw_b (by omega) ?_
                                refine zw_some ?_
                                refine zw_b (by omega) ?_
                                refine zw_some ?_
                                refine zw_ite (fun h232 => ?_) (fun h232 => ?_)
                                · exfalso; omega
                                · refine zw_b (by omega) ?_
                                  have r233 : 0 ≤ (m231 a0 7) ∧ (m231 a0 7) ≤ 700 := zi_rd hIm231 hc0 zb_28_7
                                  have r234 : 0 ≤ (m231 a0 8) ∧ (m231 a0 8) ≤ 6 := zi_rd hIm231 hc0 zb_28_8
                                  have e235 : (m231 a0 8) = (m112 a0 8) := (Eq.trans (zs_ne hmm231 (Or.inr (by decide))) (zs_ne hmm229 (Or.inr (by decide))))
                                  exact zw_some ⟨hIm231, hFm231, hRNSm231, hRWDm231, ⟨by omega, by omega⟩, by omega, by omega⟩
                            · exfalso; omega
                          · exfalso; omega
                        · exfalso; omega
                  · refine zw_bd (zw_eq (zu_call_at (zt_T n) (zm_85 n) (zdp_85 n) _ _ _ _ _ rfl (zr_85_0 n _ _ a0 1 m65)) ?_)
                    generalize hmm236 : zu_up m65 a0 4 1 = m236
                    have hIm236 := zi_up hmm236 hIm65 hc0 zb_28_4 (by omega) (by omega)
                    have hFm236 := zfr_up hmm236 hFm65 hc0 rfl
                    have hRNSm236 := zR_NS_fr (zdis_fr (zfr_up hmm236 (zfr_rf [(28, 5)] _) hc0 rfl) rfl) hRNSm65
                    have hRTRm236 := zR_TR_fr (zdis_fr (zfr_up hmm236 (zfr_rf [(28, 5)] _) hc0 rfl) rfl) hRTRm65
                    have hRWDm236 := zR_WD_fr (zdis_fr (zfr_up hmm236 (zfr_rf [(28, 5)] _) hc0 rfl) rfl) hRWDm65
                    have r237 : 0 ≤ (m236 a0 10) ∧ (m236 a0 10) ≤ 700 := zi_rd hIm236 hc0 zb_28_10
                    have e238 : (m236 a0 10) = (m57 a0 10) := (Eq.trans (zs_ne hmm236 (Or.inr (by decide))) (zs_ne hmm65 (Or.inr (by decide))))
                    generalize hmm239 : zu_up m236 a0 5 (m236 a0 10) = m239
                    have hIm239 := zi_up hmm239 hIm236 hc0 zb_28_5 (by omega) (by omega)
                    have hFm239 := zfr_up hmm239 hFm236 hc0 rfl
                    have hRNSm239 := zR_NS_fr (zdis_fr (zfr_up hmm239 (zfr_rf [(28, 6)] _) hc0 rfl) rfl) hRNSm236
                    have hRTRm239 := zR_TR_fr (zdis_fr (zfr_up hmm239 (zfr_rf [(28, 6)] _) hc0 rfl) rfl) hRTRm236
                    have hRWDm239 := zR_WD_fr (zdis_fr (zfr_up hmm239 (zfr_rf [(28, 6)] _) hc0 rfl) rfl) hRWDm236
                    refine zw_b (by omega) ?_
                    refine zw_some ?_
                    refine zw_b (by omega) ?_
                    refine zw_some ?_
                    refine zw_ite (fun h240 => ?_) (fun h240 => ?_)
                    · exfalso; omega
                    · refine zw_b (by omega) ?_
                      refine zw_some ?_
                      refine zw_ite (fun h241 => ?_) (fun h241 => ?_)
                      · exfalso; omega
                      · refine zw_b (by omega) ?_
                        have r242 : 0 ≤ (m239 a0 7) ∧ (m239 a0 7) ≤ 700 := zi_rd hIm239 hc0 zb_28_7
                        have r243 : 0 ≤ (m239 a0 8) ∧ (m239 a0 8) ≤ 6 := zi_rd hIm239 hc0 zb_28_8
                        have e244 : (m239 a0 8) = (m65 a0 8) := (Eq.trans (zs_ne hmm239 (Or.inr (by decide))) (zs_ne hmm236 (Or.inr (by decide))))
                        exact zw_some ⟨hIm239, hFm239, hRNSm239, hRWDm239, ⟨by omega, by omega⟩, by omega, by omega⟩
                · exfalso; omega
              · exfalso; omega
        · refine zw_bd (zw_eq (zu_call_at (zt_T n) (zm_85 n) (zdp_85 n) _ _ _ _ _ rfl (zr_85_0 n _ _ a0 1 m29)) ?_)
          generalize hmm245 : zu_up m29 a0 4 1 = m245
          have hIm245 := zi_up hmm245 hIm29 hc0 zb_28_4 (by omega) (by omega)
          have hFm245 := zfr_up hmm245 hFm29 hc0 rfl
          have hRNSm245 := zR_NS_fr (zdis_fr (zfr_up hmm245 (zfr_rf [(28, 5)] _) hc0 rfl) rfl) hRNSm29
          have hRTRm245 := zR_TR_fr (zdis_fr (zfr_up hmm245 (zfr_rf [(28, 5)] _) hc0 rfl) rfl) hRTRm29
          have hRWDm245 := zR_WD_fr (zdis_fr (zfr_up hmm245 (zfr_rf [(28, 5)] _) hc0 rfl) rfl) hRWDm29
          have r246 : 0 ≤ (m245 a0 10) ∧ (m245 a0 10) ≤ 700 := zi_rd hIm245 hc0 zb_28_10
          generalize hmm247 : zu_up m245 a0 5 (m245 a0 10) = m247
          have hIm247 := zi_up hmm247 hIm245 hc0 zb_28_5 (by omega) (by omega)
          have hFm247 := zfr_up hmm247 hFm245 hc0 rfl
          have hRNSm247 := zR_NS_fr (zdis_fr (zfr_up hmm247 (zfr_rf [(28, 6)] _) hc0 rfl) rfl) hRNSm245
          have hRTRm247 := zR_TR_fr (zdis_fr (zfr_up hmm247 (zfr_rf [(28, 6)] _) hc0 rfl) rfl) hRTRm245
          have hRWDm247 := zR_WD_fr (zdis_fr (zfr_up hmm247 (zfr_rf [(28, 6)] _) hc0 rfl) rfl) hRWDm245
          refine zw_b (by omega) ?_
          refine zw_some ?_
          refine zw_b (by omega) ?_
          refine zw_some ?_
          refine zw_ite (fun h248 => ?_) (fun h248 => ?_)
          · exfalso; omega
          · refine zw_b (by omega) ?_
            refine zw_some ?_
            refine zw_ite (fun h249 => ?_) (fun h249 => ?_)
            · exfalso; omega
            · refine zw_b (by omega) ?_
              have r250 : 0 ≤ (m247 a0 7) ∧ (m247 a0 7) ≤ 700 := zi_rd hIm247 hc0 zb_28_7
              have r251 : 0 ≤ (m247 a0 8) ∧ (m247 a0 8) ≤ 6 := zi_rd hIm247 hc0 zb_28_8
              have e252 : (m247 a0 8) = (m29 a0 8) := (Eq.trans (zs_ne hmm247 (Or.inr (by decide))) (zs_ne hmm245 (Or.inr (by decide))))
              exact zw_some ⟨hIm247, hFm247, hRNSm247, hRWDm247, ⟨by omega, by omega⟩, by omega, by omega⟩
      · refine zw_bd (zw_eq (zu_call_at (zt_T n) (zm_85 n) (zdp_85 n) _ _ _ _ _ rfl (zr_85_0 n _ _ a0 3 m13)) ?_)
        generalize hmm253 : zu_up m13 a0 4 3 = m253
        have hIm253 := zi_up hmm253 hIm13 hc0 zb_28_4 (by omega) (by omega)
        have hFm253 := zfr_up hmm253 hFm13 hc0 rfl
        have hRNSm253 := zR_NS_fr (zdis_fr (zfr_up hmm253 (zfr_rf [(28, 5)] _) hc0 rfl) rfl) hRNSm13
        have hRTRm253 := zR_TR_fr (zdis_fr (zfr_up hmm253 (zfr_rf [(28, 5)] _) hc0 rfl) rfl) hRTRm13
        have hRWDm253 := zR_WD_fr (zdis_fr (zfr_up hmm253 (zfr_rf [(28, 5)] _) hc0 rfl) rfl) hRWDm13
        have r254 : 0 ≤ (m253 a0 10) ∧ (m253 a0 10) ≤ 700 := zi_rd hIm253 hc0 zb_28_10
        generalize hmm255 : zu_up m253 a0 5 (m253 a0 10) = m255
        have hIm255 := zi_up hmm255 hIm253 hc0 zb_28_5 (by omega) (by omega)
        have hFm255 := zfr_up hmm255 hFm253 hc0 rfl
        have hRNSm255 := zR_NS_fr (zdis_fr (zfr_up hmm255 (zfr_rf [(28, 6)] _) hc0 rfl) rfl) hRNSm253
        have hRTRm255 := zR_TR_fr (zdis_fr (zfr_up hmm255 (zfr_rf [(28, 6)] _) hc0 rfl) rfl) hRTRm253
        have hRWDm255 := zR_WD_fr (zdis_fr (zfr_up hmm255 (zfr_rf [(28, 6)] _) hc0 rfl) rfl) hRWDm253
        refine zw_b (by omega) ?_
        refine zw_some ?_
        refine zw_b (by omega) ?_
        have r256 : 0 ≤ (m255 a0 7) ∧ (m255 a0 7) ≤ 700 := zi_rd hIm255 hc0 zb_28_7
        have r257 : 0 ≤ (m255 a0 8) ∧ (m255 a0 8) ≤ 6 := zi_rd hIm255 hc0 zb_28_8
        have e258 : (m255 a0 8) = (m4 a0 8) := (Eq.trans (zs_ne hmm255 (Or.inr (by decide))) (Eq.trans (zs_ne hmm253 (Or.inr (by decide))) (zfr_ap hfm13 hc0 rfl)))
        exact zw_some ⟨hIm255, hFm255, hRNSm255, hRWDm255, ⟨by omega, by omega⟩, by omega, by omega⟩
    · refine zw_bd (zw_eq (zu_call_at (zt_T n) (zm_85 n) (zdp_85 n) _ _ _ _ _ rfl (zr_85_0 n _ _ a0 1 m4)) ?_)
      generalize hmm259 : zu_up m4 a0 4 1 = m259
      have hIm259 := zi_up hmm259 hIm4 hc0 zb_28_4 (by omega) (by omega)
      have hFm259 := zfr_up hmm259 hFm4 hc0 rfl
      have hRNSm259 := zR_NS_fr (zdis_fr (zfr_up hmm259 (zfr_rf [(28, 5)] _) hc0 rfl) rfl) hRNSm4
      have hRTRm259 := zR_TR_fr (zdis_fr (zfr_up hmm259 (zfr_rf [(28, 5)] _) hc0 rfl) rfl) hRTRm4
      have hRWDm259 := zR_WD_fr (zdis_fr (zfr_up hmm259 (zfr_rf [(28, 5)] _) hc0 rfl) rfl) hRWDm4
      have r260 : 0 ≤ (m259 a0 10) ∧ (m259 a0 10) ≤ 700 := zi_rd hIm259 hc0 zb_28_10
      generalize hmm261 : zu_up m259 a0 5 (m259 a0 10) = m261
      have hIm261 := zi_up hmm261 hIm259 hc0 zb_28_5 (by omega) (by omega)
      have hFm261 := zfr_up hmm261 hFm259 hc0 rfl
      have hRNSm261 := zR_NS_fr (zdis_fr (zfr_up hmm261 (zfr_rf [(28, 6)] _) hc0 rfl) rfl) hRNSm259
      have hRTRm261 := zR_TR_fr (zdis_fr (zfr_up hmm261 (zfr_rf [(28, 6)] _) hc0 rfl) rfl) hRTRm259
      have hRWDm261 := zR_WD_fr (zdis_fr (zfr_up hmm261 (zfr_rf [(28, 6)] _) hc0 rfl) rfl) hRWDm259
      refine zw_b (by omega) ?_
      refine zw_some ?_
      refine zw_b (by omega) ?_
      have r262 : 0 ≤ (m261 a0 7) ∧ (m261 a0 7) ≤ 700 := zi_rd hIm261 hc0 zb_28_7
      have r263 : 0 ≤ (m261 a0 8) ∧ (m261 a0 8) ≤ 6 := zi_rd hIm261 hc0 zb_28_8
      have e264 : (m261 a0 8) = (m4 a0 8) := (Eq.trans (zs_ne hmm261 (Or.inr (by decide))) (zs_ne hmm259 (Or.inr (by decide))))
      exact zw_some ⟨hIm261, hFm261, hRNSm261, hRWDm261, ⟨by omega, by omega⟩, by omega, by omega⟩
  · refine zw_bd (zw_eq (zu_call_at (zt_T n) (zm_85 n) (zdp_85 n) _ _ _ _ _ rfl (zr_85_0 n _ _ a0 2 m0)) ?_)
    generalize hmm265 : zu_up m0 a0 4 2 = m265
    have hIm265 := zi_up hmm265 hIm0 hc0 zb_28_4 (by omega) (by omega)
    have hFm265 := zfr_up hmm265 hFm0 hc0 rfl
    have hRNSm265 := zR_NS_fr (zdis_fr (zfr_up hmm265 (zfr_rf [(28, 5)] _) hc0 rfl) rfl) hRNSm0
    have hRWDm265 := zR_WD_fr (zdis_fr (zfr_up hmm265 (zfr_rf [(28, 5)] _) hc0 rfl) rfl) hRWDm0
    have r266 : 0 ≤ (m265 a0 10) ∧ (m265 a0 10) ≤ 700 := zi_rd hIm265 hc0 zb_28_10
    generalize hmm267 : zu_up m265 a0 5 (m265 a0 10) = m267
    have hIm267 := zi_up hmm267 hIm265 hc0 zb_28_5 (by omega) (by omega)
    have hFm267 := zfr_up hmm267 hFm265 hc0 rfl
    have hRNSm267 := zR_NS_fr (zdis_fr (zfr_up hmm267 (zfr_rf [(28, 6)] _) hc0 rfl) rfl) hRNSm265
    have hRWDm267 := zR_WD_fr (zdis_fr (zfr_up hmm267 (zfr_rf [(28, 6)] _) hc0 rfl) rfl) hRWDm265
    refine zw_b (by omega) ?_
    refine zw_some ?_
    refine zw_b (by omega) ?_
    have r268 : 0 ≤ (m267 a0 7) ∧ (m267 a0 7) ≤ 700 := zi_rd hIm267 hc0 zb_28_7
    have r269 : 0 ≤ (m267 a0 8) ∧ (m267 a0 8) ≤ 6 := zi_rd hIm267 hc0 zb_28_8
    have e270 : (m267 a0 8) = (m0 a0 8) := (Eq.trans (zs_ne hmm267 (Or.inr (by decide))) (zs_ne hmm265 (Or.inr (by decide))))
    exact zw_some ⟨hIm267, hFm267, hRNSm267, hRWDm267, ⟨by omega, by omega⟩, by omega, by omega⟩
set_option maxHeartbeats 4000000 in
theorem zk_103 (n : Nat) {a0 : Int} {m0 : zu_m} (hIm0 : zi_I m0) (hc0 : zcls a0 = 28)   (he0 : 1 ≤ m0 a0 8 ∧ m0 a0 8 ≤ 1) (he1 : 11 ≤ m0 a0 9 ∧ m0 a0 9 ≤ 11) (hxp0 : (m0 a0 21) = (m0 a0 48)) (hRKNm0 : zR_KN m0) (hRNSm0 : zR_NS m0) (hRWDm0 : zR_WD m0) : zw (zu_call (zt_T n) 103 [(40, a0)] m0) (fun v m => zi_I m ∧ zfr [(28, 5), (28, 6), (28, 8), (28, 9), (28, 10), (28, 11), (28, 22), (28, 46), (28, 47), (28, 48), (28, 49), (28, 50), (28, 51), (114, 0), (115, 0), (116, 0), (117, 0), (118, 0), (119, 0), (120, 0), (121, 0)] m0 m ∧ zR_KN m ∧ zR_NS m ∧ zR_TR m ∧ zR_WD m ∧ (0 ≤ v ∧ v ≤ 1) ∧ ((m0 a0 7) ≤ (m a0 7)) ∧ (v = 1 → ((m a0 8) = 0 ∨ (m0 a0 7) < (m a0 7))) ∧ (v = 1 → (m a0 21) = (m a0 48))) := by
  have hFm0 : zfr [(28, 5), (28, 6), (28, 8), (28, 9), (28, 10), (28, 11), (28, 22), (28, 46), (28, 47), (28, 48), (28, 49), (28, 50), (28, 51), (114, 0), (115, 0), (116, 0), (117, 0), (118, 0), (119, 0), (120, 0), (121, 0)] m0 m0 := zfr_rf _ _
  have r1 : 0 ≤ (m0 a0 21) ∧ (m0 a0 21) ≤ 64 := zi_rd hIm0 hc0 zb_28_21
  have r2 : 0 ≤ (m0 a0 48) ∧ (m0 a0 48) ≤ 64 := zi_rd hIm0 hc0 zb_28_48
  have s3 := hRNSm0 a0 hc0
  refine zw_eq (zu_call_at (zt_T n) (zm_103 n) (zdp_103 n) _ _ _ _ _ rfl (zr_103_0 n _ _ a0 m0)) ?_
  refine zw_bd (zw_mono (zk_89 n hIm0 hc0 hRNSm0 hRWDm0) (fun v5 m4 hqm4 => ?_))
  obtain ⟨hIm4, hfm4, hvm4⟩ := hqm4
  have hFm4 := zfr_tr hFm0 hfm4 rfl
  obtain ⟨hRNSm4, hRTRm4, hRWDm4, hvm4⟩ := hvm4
  have hRKNm4 := zR_KN_fr (zdis_fr hfm4 rfl) hRKNm0
  have s6 := hRNSm4 a0 hc0
  have s7 := hRTRm4 a0 hc0
  have r8 : 0 ≤ (m4 a0 8) ∧ (m4 a0 8) ≤ 6 := zi_rd hIm4 hc0 zb_28_8
  refine zw_ite (fun h9 => ?_) (fun h9 => ?_)
  · refine zw_bd (zw_eq (zu_call_at (zt_T n) (zm_85 n) (zdp_85 n) _ _ _ _ _ rfl (zr_85_0 n _ _ a0 1 m4)) ?_)
    generalize hmm10 : zu_up m4 a0 4 1 = m10
    have hIm10 := zi_up hmm10 hIm4 hc0 zb_28_4 (by omega) (by omega)
    have hFm10 := zfr_up hmm10 hFm4 hc0 rfl
    have hRKNm10 := zR_KN_fr (zdis_fr (zfr_up hmm10 (zfr_rf [(28, 5)] _) hc0 rfl) rfl) hRKNm4
    have hRNSm10 := zR_NS_fr (zdis_fr (zfr_up hmm10 (zfr_rf [(28, 5)] _) hc0 rfl) rfl) hRNSm4
    have hRTRm10 := zR_TR_fr (zdis_fr (zfr_up hmm10 (zfr_rf [(28, 5)] _) hc0 rfl) rfl) hRTRm4
    have hRWDm10 := zR_WD_fr (zdis_fr (zfr_up hmm10 (zfr_rf [(28, 5)] _) hc0 rfl) rfl) hRWDm4
    have r11 : 0 ≤ (m10 a0 10) ∧ (m10 a0 10) ≤ 700 := zi_rd hIm10 hc0 zb_28_10
    generalize hmm12 : zu_up m10 a0 5 (m10 a0 10) = m12
    have hIm12 := zi_up hmm12 hIm10 hc0 zb_28_5 (by omega) (by omega)
    have hFm12 := zfr_up hmm12 hFm10 hc0 rfl
    have hRKNm12 := zR_KN_fr (zdis_fr (zfr_up hmm12 (zfr_rf [(28, 6)] _) hc0 rfl) rfl) hRKNm10
    have hRNSm12 := zR_NS_fr (zdis_fr (zfr_up hmm12 (zfr_rf [(28, 6)] _) hc0 rfl) rfl) hRNSm10
    have hRTRm12 := zR_TR_fr (zdis_fr (zfr_up hmm12 (zfr_rf [(28, 6)] _) hc0 rfl) rfl) hRTRm10
    have hRWDm12 := zR_WD_fr (zdis_fr (zfr_up hmm12 (zfr_rf [(28, 6)] _) hc0 rfl) rfl) hRWDm10
    refine zw_b (by omega) ?_
    refine zw_some ?_
    refine zw_b (by omega) ?_
    have r13 : 0 ≤ (m12 a0 7) ∧ (m12 a0 7) ≤ 700 := zi_rd hIm12 hc0 zb_28_7
    have r14 : 0 ≤ (m12 a0 8) ∧ (m12 a0 8) ≤ 6 := zi_rd hIm12 hc0 zb_28_8
    have e15 : (m12 a0 8) = (m4 a0 8) := (Eq.trans (zs_ne hmm12 (Or.inr (by decide))) (zs_ne hmm10 (Or.inr (by decide))))
    have r16 : 0 ≤ (m12 a0 21) ∧ (m12 a0 21) ≤ 64 := zi_rd hIm12 hc0 zb_28_21
    have e17 : (m12 a0 21) = (m0 a0 21) := (Eq.trans (zs_ne hmm12 (Or.inr (by decide))) (Eq.trans (zs_ne hmm10 (Or.inr (by decide))) (zfr_ap hfm4 hc0 rfl)))
    have r18 : 0 ≤ (m12 a0 48) ∧ (m12 a0 48) ≤ 64 := zi_rd hIm12 hc0 zb_28_48
    have e19 : (m12 a0 48) = (m0 a0 48) := (Eq.trans (zs_ne hmm12 (Or.inr (by decide))) (Eq.trans (zs_ne hmm10 (Or.inr (by decide))) (zfr_ap hfm4 hc0 rfl)))
    exact zw_some ⟨hIm12, hFm12, hRKNm12, hRNSm12, hRTRm12, hRWDm12, ⟨by omega, by omega⟩, by omega, by omega, by omega⟩
  · refine zw_ite (fun h20 => ?_) (fun h20 => ?_)
    · refine zw_bd (zw_eq (zu_call_at (zt_T n) (zm_85 n) (zdp_85 n) _ _ _ _ _ rfl (zr_85_0 n _ _ a0 1 m4)) ?_)
      generalize hmm21 : zu_up m4 a0 4 1 = m21
      have hIm21 := zi_up hmm21 hIm4 hc0 zb_28_4 (by omega) (by omega)
      have hFm21 := zfr_up hmm21 hFm4 hc0 rfl
      have hRKNm21 := zR_KN_fr (zdis_fr (zfr_up hmm21 (zfr_rf [(28, 5)] _) hc0 rfl) rfl) hRKNm4
      have hRNSm21 := zR_NS_fr (zdis_fr (zfr_up hmm21 (zfr_rf [(28, 5)] _) hc0 rfl) rfl) hRNSm4
      have hRTRm21 := zR_TR_fr (zdis_fr (zfr_up hmm21 (zfr_rf [(28, 5)] _) hc0 rfl) rfl) hRTRm4
      have hRWDm21 := zR_WD_fr (zdis_fr (zfr_up hmm21 (zfr_rf [(28, 5)] _) hc0 rfl) rfl) hRWDm4
      have r22 : 0 ≤ (m21 a0 10) ∧ (m21 a0 10) ≤ 700 := zi_rd hIm21 hc0 zb_28_10
      generalize hmm23 : zu_up m21 a0 5 (m21 a0 10) = m23
      have hIm23 := zi_up hmm23 hIm21 hc0 zb_28_5 (by omega) (by omega)
      have hFm23 := zfr_up hmm23 hFm21 hc0 rfl
      have hRKNm23 := zR_KN_fr (zdis_fr (zfr_up hmm23 (zfr_rf [(28, 6)] _) hc0 rfl) rfl) hRKNm21
      have hRNSm23 := zR_NS_fr (zdis_fr (zfr_up hmm23 (zfr_rf [(28, 6)] _) hc0 rfl) rfl) hRNSm21
      have hRTRm23 := zR_TR_fr (zdis_fr (zfr_up hmm23 (zfr_rf [(28, 6)] _) hc0 rfl) rfl) hRTRm21
      have hRWDm23 := zR_WD_fr (zdis_fr (zfr_up hmm23 (zfr_rf [(28, 6)] _) hc0 rfl) rfl) hRWDm21
      refine zw_b (by omega) ?_
      refine zw_some ?_
      refine zw_b (by omega) ?_
      have r24 : 0 ≤ (m23 a0 7) ∧ (m23 a0 7) ≤ 700 := zi_rd hIm23 hc0 zb_28_7
      have r25 : 0 ≤ (m23 a0 8) ∧ (m23 a0 8) ≤ 6 := zi_rd hIm23 hc0 zb_28_8
      have e26 : (m23 a0 8) = (m4 a0 8) := (Eq.trans (zs_ne hmm23 (Or.inr (by decide))) (zs_ne hmm21 (Or.inr (by decide))))
      have r27 : 0 ≤ (m23 a0 21) ∧ (m23 a0 21) ≤ 64 := zi_rd hIm23 hc0 zb_28_21
      have e28 : (m23 a0 21) = (m0 a0 21) := (Eq.trans (zs_ne hmm23 (Or.inr (by decide))) (Eq.trans (zs_ne hmm21 (Or.inr (by decide))) (zfr_ap hfm4 hc0 rfl)))
      have r29 : 0 ≤ (m23 a0 48) ∧ (m23 a0 48) ≤ 64 := zi_rd hIm23 hc0 zb_28_48
      have e30 : (m23 a0 48) = (m0 a0 48) := (Eq.trans (zs_ne hmm23 (Or.inr (by decide))) (Eq.trans (zs_ne hmm21 (Or.inr (by decide))) (zfr_ap hfm4 hc0 rfl)))
      exact zw_some ⟨hIm23, hFm23, hRKNm23, hRNSm23, hRTRm23, hRWDm23, ⟨by omega, by omega⟩, by omega, by omega, by omega⟩
    · refine zw_ite (fun h31 => ?_) (fun h31 => ?_)
      · have w32 := zu_w32_id (z := 4 + (m4 a0 9)) (by omega) (by omega)
        have w33 := zu_w32_id (z := (zu_w32 (4 + (m4 a0 9))) - 19) (by omega) (by omega)
        have b34 : 0 ≤ (zu_w32 ((zu_w32 (4 + (m4 a0 9))) - 19)) ∧ (zu_w32 ((zu_w32 (4 + (m4 a0 9))) - 19)) < 8 := by omega
        refine zw_if b34 ?_
        have r35 : 0 ≤ (m4 205 (zu_w32 ((zu_w32 (4 + (m4 a0 9))) - 19))) ∧ (m4 205 (zu_w32 ((zu_w32 (4 + (m4 a0 9))) - 19))) ≤ 1 := zi_rd hIm4 zq_205 (zb_114 _)
        refine zw_ite (fun h36 => ?_) (fun h36 => ?_)
        · refine zw_b (by omega) ?_
          have b37 : 0 ≤ (zu_w32 ((zu_w32 (4 + (m4 a0 9))) - 19)) ∧ (zu_w32 ((zu_w32 (4 + (m4 a0 9))) - 19)) < 8 := by omega
          refine zw_if b37 ?_
          generalize hmm38 : zu_up m4 205 (zu_w32 ((zu_w32 (4 + (m4 a0 9))) - 19)) 1 = m38
          have hIm38 := zi_up hmm38 hIm4 zq_205 (zb_114 _) (by omega) (by omega)
          have hFm38 := zfr_up hmm38 hFm4 zq_205 rfl
          have hRKNm38 := zR_KN_fr (zdis_fr (zfr_up hmm38 (zfr_rf [(114, 0)] _) zq_205 rfl) rfl) hRKNm4
          have hRNSm38 := zR_NS_fr (zdis_fr (zfr_up hmm38 (zfr_rf [(114, 0)] _) zq_205 rfl) rfl) hRNSm4
          have hRTRm38 := zR_TR_fr (zdis_fr (zfr_up hmm38 (zfr_rf [(114, 0)] _) zq_205 rfl) rfl) hRTRm4
          have hRWDm38 := zR_WD_fr (zdis_fr (zfr_up hmm38 (zfr_rf [(114, 0)] _) zq_205 rfl) rfl) hRWDm4
          refine zw_bd (zw_mono (zk_89 n hIm38 hc0 hRNSm38 hRWDm38) (fun v40 m39 hqm39 => ?_))
          obtain ⟨hIm39, hfm39, hvm39⟩ := hqm39
          have hFm39 := zfr_tr hFm38 hfm39 rfl
          obtain ⟨hRNSm39, hRTRm39, hRWDm39, hvm39⟩ := hvm39
          have hRKNm39 := zR_KN_fr (zdis_fr hfm39 rfl) hRKNm38
          have s41 := hRNSm39 a0 hc0
          have s42 := hRTRm39 a0 hc0
          have r43 : 0 ≤ (m39 a0 21) ∧ (m39 a0 21) ≤ 64 := zi_rd hIm39 hc0 zb_28_21
          have e44 : (m39 a0 21) = (m0 a0 21) := (Eq.trans (zfr_ap hfm39 hc0 rfl) (Eq.trans (zs_ne hmm38 (Or.inl (zc_ne hc0 zq_205 (by decide)))) (zfr_ap hfm4 hc0 rfl)))
          have b45 : 0 ≤ (zu_w32 ((zu_w32 (4 + (m4 a0 9))) - 19)) ∧ (zu_w32 ((zu_w32 (4 + (m4 a0 9))) - 19)) < 8 := by omega
          refine zw_if b45 ?_
          generalize hmm46 : zu_up m39 206 (zu_w32 ((zu_w32 (4 + (m4 a0 9))) - 19)) (m39 a0 21) = m46
          have hIm46 := zi_up hmm46 hIm39 zq_206 (zb_115 _) (by omega) (by omega)
          have hFm46 := zfr_up hmm46 hFm39 zq_206 rfl
          have hRKNm46 := zR_KN_fr (zdis_fr (zfr_up hmm46 (zfr_rf [(115, 0)] _) zq_206 rfl) rfl) hRKNm39
          have hRNSm46 := zR_NS_fr (zdis_fr (zfr_up hmm46 (zfr_rf [(115, 0)] _) zq_206 rfl) rfl) hRNSm39
          have hRTRm46 := zR_TR_fr (zdis_fr (zfr_up hmm46 (zfr_rf [(115, 0)] _) zq_206 rfl) rfl) hRTRm39
          have hRWDm46 := zR_WD_fr (zdis_fr (zfr_up hmm46 (zfr_rf [(115, 0)] _) zq_206 rfl) rfl) hRWDm39
          have r47 : 0 ≤ (m46 a0 21) ∧ (m46 a0 21) ≤ 64 := zi_rd hIm46 hc0 zb_28_21
          have e48 : (m46 a0 21) = (m39 a0 21) := (zs_ne hmm46 (Or.inl (zc_ne hc0 zq_206 (by decide))))
          have r49 : 0 ≤ (m46 a0 48) ∧ (m46 a0 48) ≤ 64 := zi_rd hIm46 hc0 zb_28_48
          have e50 : (m46 a0 48) = (m0 a0 48) := (Eq.trans (zs_ne hmm46 (Or.inl (zc_ne hc0 zq_206 (by decide)))) (Eq.trans (zfr_ap hfm39 hc0 rfl) (Eq.trans (zs_ne hmm38 (Or.inl (zc_ne hc0 zq_205 (by decide)))) (zfr_ap hfm4 hc0 rfl))))
          refine zw_bd (zw_mono (zk_118 n hIm46 hc0 (by omega) hRKNm46 hRNSm46 hRTRm46 hRWDm46) (fun v52 m51 hqm51 => ?_))
          obtain ⟨hIm51, hfm51, hvm51⟩ := hqm51
          have hFm51 := zfr_tr hFm46 hfm51 rfl
          obtain ⟨hRKNm51, hRNSm51, hRTRm51, hRWDm51, hvm51⟩ := hvm51
          have s53 := hRNSm51 a0 hc0
          have s54 := hRTRm51 a0 hc0
          have r55 : 0 ≤ (m51 a0 21) ∧ (m51 a0 21) ≤ 64 := zi_rd hIm51 hc0 zb_28_21
          have b56 : 0 ≤ (zu_w32 ((zu_w32 (4 + (m4 a0 9))) - 19)) ∧ (zu_w32 ((zu_w32 (4 + (m4 a0 9))) - 19)) < 8 := by omega
          refine zw_if b56 ?_
          generalize hmm57 : zu_up m51 207 (zu_w32 ((zu_w32 (4 + (m4 a0 9))) - 19)) (m51 a0 21) = m57
          have hIm57 := zi_up hmm57 hIm51 zq_207 (zb_116 _) (by omega) (by omega)
          have hFm57 := zfr_up hmm57 hFm51 zq_207 rfl
          have hRKNm57 := zR_KN_fr (zdis_fr (zfr_up hmm57 (zfr_rf [(116, 0)] _) zq_207 rfl) rfl) hRKNm51
          have hRNSm57 := zR_NS_fr (zdis_fr (zfr_up hmm57 (zfr_rf [(116, 0)] _) zq_207 rfl) rfl) hRNSm51
          have hRTRm57 := zR_TR_fr (zdis_fr (zfr_up hmm57 (zfr_rf [(116, 0)] _) zq_207 rfl) rfl) hRTRm51
          have hRWDm57 := zR_WD_fr (zdis_fr (zfr_up hmm57 (zfr_rf [(116, 0)] _) zq_207 rfl) rfl) hRWDm51
          refine zw_b (by omega) ?_
          have r58 : 0 ≤ (m57 a0 7) ∧ (m57 a0 7) ≤ 700 := zi_rd hIm57 hc0 zb_28_7
          have r59 : 0 ≤ (m57 a0 8) ∧ (m57 a0 8) ≤ 6 := zi_rd hIm57 hc0 zb_28_8
          have r60 : 0 ≤ (m57 a0 21) ∧ (m57 a0 21) ≤ 64 := zi_rd hIm57 hc0 zb_28_21
          have e61 : (m57 a0 21) = (m51 a0 21) := (zs_ne hmm57 (Or.inl (zc_ne hc0 zq_207 (by decide))))
          have r62 : 0 ≤ (m57 a0 48) ∧ (m57 a0 48) ≤ 64 := zi_rd hIm57 hc0 zb_28_48
          exact zw_some ⟨hIm57, hFm57, hRKNm57, hRNSm57, hRTRm57, hRWDm57, ⟨by omega, by omega⟩, by omega, by omega, by omega⟩
        · refine zw_bd (zw_eq (zu_call_at (zt_T n) (zm_85 n) (zdp_85 n) _ _ _ _ _ rfl (zr_85_0 n _ _ a0 3 m4)) ?_)
          generalize hmm63 : zu_up m4 a0 4 3 = m63
          have hIm63 := zi_up hmm63 hIm4 hc0 zb_28_4 (by omega) (by omega)
          have hFm63 := zfr_up hmm63 hFm4 hc0 rfl
          have hRKNm63 := zR_KN_fr (zdis_fr (zfr_up hmm63 (zfr_rf [(28, 5)] _) hc0 rfl) rfl) hRKNm4
          have hRNSm63 := zR_NS_fr (zdis_fr (zfr_up hmm63 (zfr_rf [(28, 5)] _) hc0 rfl) rfl) hRNSm4
          have hRTRm63 := zR_TR_fr (zdis_fr (zfr_up hmm63 (zfr_rf [(28, 5)] _) hc0 rfl) rfl) hRTRm4
          have hRWDm63 := zR_WD_fr (zdis_fr (zfr_up hmm63 (zfr_rf [(28, 5)] _) hc0 rfl) rfl) hRWDm4
          have r64 : 0 ≤ (m63 a0 10) ∧ (m63 a0 10) ≤ 700 := zi_rd hIm63 hc0 zb_28_10
          generalize hmm65 : zu_up m63 a0 5 (m63 a0 10) = m65
          have hIm65 := zi_up hmm65 hIm63 hc0 zb_28_5 (by omega) (by omega)
          have hFm65 := zfr_up hmm65 hFm63 hc0 rfl
          have hRKNm65 := zR_KN_fr (zdis_fr (zfr_up hmm65 (zfr_rf [(28, 6)] _) hc0 rfl) rfl) hRKNm63
          have hRNSm65 := zR_NS_fr (zdis_fr (zfr_up hmm65 (zfr_rf [(28, 6)] _) hc0 rfl) rfl) hRNSm63
          have hRTRm65 := zR_TR_fr (zdis_fr (zfr_up hmm65 (zfr_rf [(28, 6)] _) hc0 rfl) rfl) hRTRm63
          have hRWDm65 := zR_WD_fr (zdis_fr (zfr_up hmm65 (zfr_rf [(28, 6)] _) hc0 rfl) rfl) hRWDm63
          refine zw_b (by omega) ?_
          refine zw_some ?_
          refine zw_b (by omega) ?_
          have r66 : 0 ≤ (m65 a0 7) ∧ (m65 a0 7) ≤ 700 := zi_rd hIm65 hc0 zb_28_7
          have r67 : 0 ≤ (m65 a0 8) ∧ (m65 a0 8) ≤ 6 := zi_rd hIm65 hc0 zb_28_8
          have e68 : (m65 a0 8) = (m4 a0 8) := (Eq.trans (zs_ne hmm65 (Or.inr (by decide))) (zs_ne hmm63 (Or.inr (by decide))))
          have r69 : 0 ≤ (m65 a0 21) ∧ (m65 a0 21) ≤ 64 := zi_rd hIm65 hc0 zb_28_21
          have e70 : (m65 a0 21) = (m0 a0 21) := (Eq.trans (zs_ne hmm65 (Or.inr (by decide))) (Eq.trans (zs_ne hmm63 (Or.inr (by decide))) (zfr_ap hfm4 hc0 rfl)))
          have r71 : 0 ≤ (m65 a0 48) ∧ (m65 a0 48) ≤ 64 := zi_rd hIm65 hc0 zb_28_48
          have e72 : (m65 a0 48) = (m0 a0 48) := (Eq.trans (zs_ne hmm65 (Or.inr (by decide))) (Eq.trans (zs_ne hmm63 (Or.inr (by decide))) (zfr_ap hfm4 hc0 rfl)))
          exact zw_some ⟨hIm65, hFm65, hRKNm65, hRNSm65, hRTRm65, hRWDm65, ⟨by omega, by omega⟩, by omega, by omega, by omega⟩
      · refine zw_bd (zw_eq (zu_call_at (zt_T n) (zm_85 n) (zdp_85 n) _ _ _ _ _ rfl (zr_85_0 n _ _ a0 1 m4)) ?_)
        generalize hmm73 : zu_up m4 a0 4 1 = m73
        have hIm73 := zi_up hmm73 hIm4 hc0 zb_28_4 (by omega) (by omega)
        have hFm73 := zfr_up hmm73 hFm4 hc0 rfl
        have hRKNm73 := zR_KN_fr (zdis_fr (zfr_up hmm73 (zfr_rf [(28, 5)] _) hc0 rfl) rfl) hRKNm4
        have hRNSm73 := zR_NS_fr (zdis_fr (zfr_up hmm73 (zfr_rf [(28, 5)] _) hc0 rfl) rfl) hRNSm4
        have hRTRm73 := zR_TR_fr (zdis_fr (zfr_up hmm73 (zfr_rf [(28, 5)] _) hc0 rfl) rfl) hRTRm4
        have hRWDm73 := zR_WD_fr (zdis_fr (zfr_up hmm73 (zfr_rf [(28, 5)] _) hc0 rfl) rfl) hRWDm4
        have r74 : 0 ≤ (m73 a0 10) ∧ (m73 a0 10) ≤ 700 := zi_rd hIm73 hc0 zb_28_10
        generalize hmm75 : zu_up m73 a0 5 (m73 a0 10) = m75
        have hIm75 := zi_up hmm75 hIm73 hc0 zb_28_5 (by omega) (by omega)
        have hFm75 := zfr_up hmm75 hFm73 hc0 rfl
        have hRKNm75 := zR_KN_fr (zdis_fr (zfr_up hmm75 (zfr_rf [(28, 6)] _) hc0 rfl) rfl) hRKNm73
        have hRNSm75 := zR_NS_fr (zdis_fr (zfr_up hmm75 (zfr_rf [(28, 6)] _) hc0 rfl) rfl) hRNSm73
        have hRTRm75 := zR_TR_fr (zdis_fr (zfr_up hmm75 (zfr_rf [(28, 6)] _) hc0 rfl) rfl) hRTRm73
        have hRWDm75 := zR_WD_fr (zdis_fr (zfr_up hmm75 (zfr_rf [(28, 6)] _) hc0 rfl) rfl) hRWDm73
        refine zw_b (by omega) ?_
        refine zw_some ?_
        refine zw_b (by omega) ?_
        have r76 : 0 ≤ (m75 a0 7) ∧ (m75 a0 7) ≤ 700 := zi_rd hIm75 hc0 zb_28_7
        have r77 : 0 ≤ (m75 a0 8) ∧ (m75 a0 8) ≤ 6 := zi_rd hIm75 hc0 zb_28_8
        have e78 : (m75 a0 8) = (m4 a0 8) := (Eq.trans (zs_ne hmm75 (Or.inr (by decide))) (zs_ne hmm73 (Or.inr (by decide))))
        have r79 : 0 ≤ (m75 a0 21) ∧ (m75 a0 21) ≤ 64 := zi_rd hIm75 hc0 zb_28_21
        have e80 : (m75 a0 21) = (m0 a0 21) := (Eq.trans (zs_ne hmm75 (Or.inr (by decide))) (Eq.trans (zs_ne hmm73 (Or.inr (by decide))) (zfr_ap hfm4 hc0 rfl)))
        have r81 : 0 ≤ (m75 a0 48) ∧ (m75 a0 48) ≤ 64 := zi_rd hIm75 hc0 zb_28_48
        have e82 : (m75 a0 48) = (m0 a0 48) := (Eq.trans (zs_ne hmm75 (Or.inr (by decide))) (Eq.trans (zs_ne hmm73 (Or.inr (by decide))) (zfr_ap hfm4 hc0 rfl)))
        exact zw_some ⟨hIm75, hFm75, hRKNm75, hRNSm75, hRTRm75, hRWDm75, ⟨by omega, by omega⟩, by omega, by omega, by omega⟩
set_option maxHeartbeats 4000000 in
theorem zk_129 (n : Nat) {a0 a1 a2 a3 a4 a5 : Int} {m0 : zu_m} (hIm0 : zi_I m0) (hc0 : zcls a0 = 28) (ha1 : 0 ≤ a1 ∧ a1 ≤ 3) (ha2 : 0 ≤ a2 ∧ a2 ≤ 3) (ha3 : 0 ≤ a3 ∧ a3 ≤ 9) (ha4 : 0 ≤ a4 ∧ a4 ≤ 47) (ha5 : (-2147483648) ≤ a5 ∧ a5 ≤ 2147483647)    (hRKNm0 : zR_KN m0) : zw (zu_call (zt_T n) 129 [(40, a0), (0, a1), (0, a2), (0, a3), (0, a4), (0, a5)] m0) (fun v m => zi_I m ∧ zfr [(28, 54), (122, 0), (123, 0)] m0 m ∧ zR_KN m ∧ ((-2147483648) ≤ v ∧ v ≤ 2147483647)) := by
  have hFm0 : zfr [(28, 54), (122, 0), (123, 0)] m0 m0 := zfr_rf _ _
  refine zw_eq (zu_call_at (zt_T n) (zm_129 n) (zdp_129 n) _ _ _ _ _ rfl (zr_129_0 n _ _ a0 a1 a2 a3 a4 a5 m0)) ?_
  have w1 := zu_w32_id (z := 10 * a3) (by omega) (by omega)
  have w2 := zu_w32_id (z := 100 - (zu_w32 (10 * a3))) (by omega) (by omega)
  have b3 : 0 ≤ a4 ∧ a4 < 96 := by omega
  refine zw_if b3 ?_
  have r4 : (-2147483648) ≤ (m0 195 a4) ∧ (m0 195 a4) ≤ 2147483647 := zi_rd hIm0 zq_195 (zb_104 _)
  refine zw_ite (fun h5 => ?_) (fun h5 => ?_)
  · have w6 := zu_w32_id (z := (zu_w32 (100 - (zu_w32 (10 * a3)))) - 0) (by omega) (by omega)
    refine zw_bd (zw_eq (zu_call_at (zt_T n) (zm_128 n) (zdp_128 n) _ _ _ _ _ rfl (zr_128_0 n _ _ a0 a1 m0)) ?_)
    have r7 : 0 ≤ (m0 a0 68) ∧ (m0 a0 68) ≤ 1 := zi_rd hIm0 hc0 zb_28_68
    refine zw_ite (fun h8 => ?_) (fun h8 => ?_)
    · have b9 : 0 ≤ a1 ∧ a1 < 8 := by omega
      refine zw_if b9 ?_
      have r10 : 0 ≤ (m0 202 a1) ∧ (m0 202 a1) ≤ 15 := zi_rd hIm0 zq_202 (zb_111 _)
      refine zw_some ?_
      refine zw_nif (by omega) ?_
      have d11 : Int.tmod a1 4 = a1 % 4 := Int.tmod_eq_emod_of_nonneg (by omega)
      refine zw_ite (fun h12 => ?_) (fun h12 => ?_)
      · refine zw_bd (zw_mono (zk_38 n hIm0 hc0 ⟨by omega, by omega⟩ ⟨by omega, by omega⟩ ⟨by omega, by omega⟩ ⟨by omega, by omega⟩ ⟨by omega, by omega⟩ ⟨by omega, by omega⟩) (fun v14 m13 hqm13 => ?_))
        obtain ⟨hIm13, hfm13, hvm13⟩ := hqm13
        have hFm13 := zfr_tr hFm0 hfm13 rfl
        have hRKNm13 := zR_KN_fr (zdis_fr hfm13 rfl) hRKNm0
        refine zw_ite (fun h15 => ?_) (fun h15 => ?_)
        · refine zw_bd (zw_mono (zk_39 n hIm13 hc0 ⟨by omega, by omega⟩ ⟨by omega, by omega⟩ ⟨by omega, by omega⟩ hRKNm13) (fun v17 m16 hqm16 => ?_))
          obtain ⟨hIm16, hfm16, hvm16⟩ := hqm16
          have hFm16 := zfr_tr hFm13 hfm16 rfl
          obtain ⟨hRKNm16, hvm16⟩ := hvm16
          exact zw_some ⟨hIm16, hFm16, hRKNm16, ⟨by omega, by omega⟩⟩
        · exfalso; omega
      · refine zw_bd (zw_mono (zk_38 n hIm0 hc0 ⟨by omega, by omega⟩ ⟨by omega, by omega⟩ ⟨by omega, by omega⟩ ⟨by omega, by omega⟩ ⟨by omega, by omega⟩ ⟨by omega, by omega⟩) (fun v19 m18 hqm18 => ?_))
        obtain ⟨hIm18, hfm18, hvm18⟩ := hqm18
        have hFm18 := zfr_tr hFm0 hfm18 rfl
        have hRKNm18 := zR_KN_fr (zdis_fr hfm18 rfl) hRKNm0
        refine zw_ite (fun h20 => ?_) (fun h20 => ?_)
        · refine zw_bd (zw_mono (zk_39 n hIm18 hc0 ⟨by omega, by omega⟩ ⟨by omega, by omega⟩ ⟨by omega, by omega⟩ hRKNm18) (fun v22 m21 hqm21 => ?_))
          obtain ⟨hIm21, hfm21, hvm21⟩ := hqm21
          have hFm21 := zfr_tr hFm18 hfm21 rfl
          obtain ⟨hRKNm21, hvm21⟩ := hvm21
          exact zw_some ⟨hIm21, hFm21, hRKNm21, ⟨by omega, by omega⟩⟩
        · exfalso; omega
    · refine zw_some ?_
      refine zw_nif (by omega) ?_
      have d23 : Int.tmod a1 4 = a1 % 4 := Int.tmod_eq_emod_of_nonneg (by omega)
      refine zw_ite (fun h24 => ?_) (fun h24 => ?_)
      · refine zw_bd (zw_mono (zk_38 n hIm0 hc0 ⟨by omega, by omega⟩ ⟨by omega, by omega⟩ ⟨by omega, by omega⟩ ⟨by omega, by omega⟩ ⟨by omega, by omega⟩ ⟨by omega, by omega⟩) (fun v26 m25 hqm25 => ?_))
        obtain ⟨hIm25, hfm25, hvm25⟩ := hqm25
        have hFm25 := zfr_tr hFm0 hfm25 rfl
        have hRKNm25 := zR_KN_fr (zdis_fr hfm25 rfl) hRKNm0
        refine zw_ite (fun h27 => ?_) (fun h27 => ?_)
        · refine zw_bd (zw_mono (zk_39 n hIm25 hc0 ⟨by omega, by omega⟩ ⟨by omega, by omega⟩ ⟨by omega, by omega⟩ hRKNm25) (fun v29 m28 hqm28 => ?_))
          obtain ⟨hIm28, hfm28, hvm28⟩ := hqm28
          have hFm28 := zfr_tr hFm25 hfm28 rfl
          obtain ⟨hRKNm28, hvm28⟩ := hvm28
          exact zw_some ⟨hIm28, hFm28, hRKNm28, ⟨by omega, by omega⟩⟩
        · exfalso; omega
      · refine zw_bd (zw_mono (zk_38 n hIm0 hc0 ⟨by omega, by omega⟩ ⟨by omega, by omega⟩ ⟨by omega, by omega⟩ ⟨by omega, by omega⟩ ⟨by omega, by omega⟩ ⟨by omega, by omega⟩) (fun v31 m30 hqm30 => ?_))
        obtain ⟨hIm30, hfm30, hvm30⟩ := hqm30
        have hFm30 := zfr_tr hFm0 hfm30 rfl
        have hRKNm30 := zR_KN_fr (zdis_fr hfm30 rfl) hRKNm0
        refine zw_ite (fun h32 => ?_) (fun h32 => ?_)
        · refine zw_bd (zw_mono (zk_39 n hIm30 hc0 ⟨by omega, by omega⟩ ⟨by omega, by omega⟩ ⟨by omega, by omega⟩ hRKNm30) (fun v34 m33 hqm33 => ?_))
          obtain ⟨hIm33, hfm33, hvm33⟩ := hqm33
          have hFm33 := zfr_tr hFm30 hfm33 rfl
          obtain ⟨hRKNm33, hvm33⟩ := hvm33
          exact zw_some ⟨hIm33, hFm33, hRKNm33, ⟨by omega, by omega⟩⟩
        · exfalso; omega
  · refine zw_bd (zw_eq (zu_call_at (zt_T n) (zm_128 n) (zdp_128 n) _ _ _ _ _ rfl (zr_128_0 n _ _ a0 a1 m0)) ?_)
    have r35 : 0 ≤ (m0 a0 68) ∧ (m0 a0 68) ≤ 1 := zi_rd hIm0 hc0 zb_28_68
    refine zw_ite (fun h36 => ?_) (fun h36 => ?_)
    · have b37 : 0 ≤ a1 ∧ a1 < 8 := by omega
      refine zw_if b37 ?_
      have r38 : 0 ≤ (m0 202 a1) ∧ (m0 202 a1) ≤ 15 := zi_rd hIm0 zq_202 (zb_111 _)
      refine zw_some ?_
      refine zw_ite (fun h39 => ?_) (fun h39 => ?_)
      · have w40 := zu_w32_id (z := (zu_w32 (100 - (zu_w32 (10 * a3)))) - 0) (by omega) (by omega)
        refine zw_bd (zw_eq (zu_call_at (zt_T n) (zm_128 n) (zdp_128 n) _ _ _ _ _ rfl (zr_128_0 n _ _ a0 a1 m0)) ?_)
        refine zw_ite (fun h41 => ?_) (fun h41 => ?_)
        · have b42 : 0 ≤ a1 ∧ a1 < 8 := by omega
          refine zw_if b42 ?_
          refine zw_some ?_
          refine zw_nif (by omega) ?_
          have d43 : Int.tmod a1 4 = a1 % 4 := Int.tmod_eq_emod_of_nonneg (by omega)
          refine zw_ite (fun h44 => ?_) (fun h44 => ?_)
          · refine zw_bd (zw_mono (zk_38 n hIm0 hc0 ⟨by omega, by omega⟩ ⟨by omega, by omega⟩ ⟨by omega, by omega⟩ ⟨by omega, by omega⟩ ⟨by omega, by omega⟩ ⟨by omega, by omega⟩) (fun v46 m45 hqm45 => ?_))
            obtain ⟨hIm45, hfm45, hvm45⟩ := hqm45
            have hFm45 := zfr_tr hFm0 hfm45 rfl
            have hRKNm45 := zR_KN_fr (zdis_fr hfm45 rfl) hRKNm0
            refine zw_ite (fun h47 => ?_) (fun h47 => ?_)
            · refine zw_bd (zw_mono (zk_39 n hIm45 hc0 ⟨by omega, by omega⟩ ⟨by omega, by omega⟩ ⟨by omega, by omega⟩ hRKNm45) (fun v49 m48 hqm48 => ?_))
              obtain ⟨hIm48, hfm48, hvm48⟩ := hqm48
              have hFm48 := zfr_tr hFm45 hfm48 rfl
              obtain ⟨hRKNm48, hvm48⟩ := hvm48
              exact zw_some ⟨hIm48, hFm48, hRKNm48, ⟨by omega, by omega⟩⟩
            · exfalso; omega
          · refine zw_bd (zw_mono (zk_38 n hIm0 hc0 ⟨by omega, by omega⟩ ⟨by omega, by omega⟩ ⟨by omega, by omega⟩ ⟨by omega, by omega⟩ ⟨by omega, by omega⟩ ⟨by omega, by omega⟩) (fun v51 m50 hqm50 => ?_))
            obtain ⟨hIm50, hfm50, hvm50⟩ := hqm50
            have hFm50 := zfr_tr hFm0 hfm50 rfl
            have hRKNm50 := zR_KN_fr (zdis_fr hfm50 rfl) hRKNm0
            refine zw_ite (fun h52 => ?_) (fun h52 => ?_)
            · refine zw_bd (zw_mono (zk_39 n hIm50 hc0 ⟨by omega, by omega⟩ ⟨by omega, by omega⟩ ⟨by omega, by omega⟩ hRKNm50) (fun v54 m53 hqm53 => ?_))
              obtain ⟨hIm53, hfm53, hvm53⟩ := hqm53
              have hFm53 := zfr_tr hFm50 hfm53 rfl
              obtain ⟨hRKNm53, hvm53⟩ := hvm53
              exact zw_some ⟨hIm53, hFm53, hRKNm53, ⟨by omega, by omega⟩⟩
            · exfalso; omega
        · exfalso; omega
      · have w55 := zu_w32_id (z := (zu_w32 (100 - (zu_w32 (10 * a3)))) - 20) (by omega) (by omega)
        refine zw_bd (zw_eq (zu_call_at (zt_T n) (zm_128 n) (zdp_128 n) _ _ _ _ _ rfl (zr_128_0 n _ _ a0 a1 m0)) ?_)
        refine zw_ite (fun h56 => ?_) (fun h56 => ?_)
        · have b57 : 0 ≤ a1 ∧ a1 < 8 := by omega
          refine zw_if b57 ?_
          refine zw_some ?_
          refine zw_nif (by omega) ?_
          have d58 : Int.tmod a1 4 = a1 % 4 := Int.tmod_eq_emod_of_nonneg (by omega)
          refine zw_ite (fun h59 => ?_) (fun h59 => ?_)
          · refine zw_bd (zw_mono (zk_38 n hIm0 hc0 ⟨by omega, by omega⟩ ⟨by omega, by omega⟩ ⟨by omega, by omega⟩ ⟨by omega, by omega⟩ ⟨by omega, by omega⟩ ⟨by omega, by omega⟩) (fun v61 m60 hqm60 => ?_))
            obtain ⟨hIm60, hfm60, hvm60⟩ := hqm60
            have hFm60 := zfr_tr hFm0 hfm60 rfl
            have hRKNm60 := zR_KN_fr (zdis_fr hfm60 rfl) hRKNm0
            refine zw_ite (fun h62 => ?_) (fun h62 => ?_)
            · refine zw_bd (zw_mono (zk_39 n hIm60 hc0 ⟨by omega, by omega⟩ ⟨by omega, by omega⟩ ⟨by omega, by omega⟩ hRKNm60) (fun v64 m63 hqm63 => ?_))
              obtain ⟨hIm63, hfm63, hvm63⟩ := hqm63
              have hFm63 := zfr_tr hFm60 hfm63 rfl
              obtain ⟨hRKNm63, hvm63⟩ := hvm63
              exact zw_some ⟨hIm63, hFm63, hRKNm63, ⟨by omega, by omega⟩⟩
            · refine zw_bd (zw_mono (zk_39 n hIm60 hc0 ⟨by omega, by omega⟩ ⟨by omega, by omega⟩ ⟨by omega, by omega⟩ hRKNm60) (fun v66 m65 hqm65 => ?_))
              obtain ⟨hIm65, hfm65, hvm65⟩ := hqm65
              have hFm65 := zfr_tr hFm60 hfm65 rfl
              obtain ⟨hRKNm65, hvm65⟩ := hvm65
              exact zw_some ⟨hIm65, hFm65, hRKNm65, ⟨by omega, by omega⟩⟩
          · refine zw_bd (zw_mono (zk_38 n hIm0 hc0 ⟨by omega, by omega⟩ ⟨by omega, by omega⟩ ⟨by omega, by omega⟩ ⟨by omega, by omega⟩ ⟨by omega, by omega⟩ ⟨by omega, by omega⟩) (fun v68 m67 hqm67 => ?_))
            obtain ⟨hIm67, hfm67, hvm67⟩ := hqm67
            have hFm67 := zfr_tr hFm0 hfm67 rfl
            have hRKNm67 := zR_KN_fr (zdis_fr hfm67 rfl) hRKNm0
            refine zw_ite (fun h69 => ?_) (fun h69 => ?_)
            · refine zw_bd (zw_mono (zk_39 n hIm67 hc0 ⟨by omega, by omega⟩ ⟨by omega, by omega⟩ ⟨by omega, by omega⟩ hRKNm67) (fun v71 m70 hqm70 => ?_))
              obtain ⟨hIm70, hfm70, hvm70⟩ := hqm70
              have hFm70 := zfr_tr hFm67 hfm70 rfl
              obtain ⟨hRKNm70, hvm70⟩ := hvm70
              exact zw_some ⟨hIm70, hFm70, hRKNm70, ⟨by omega, by omega⟩⟩
            · refine zw_bd (zw_mono (zk_39 n hIm67 hc0 ⟨by omega, by omega⟩ ⟨by omega, by omega⟩ ⟨by omega, by omega⟩ hRKNm67) (fun v73 m72 hqm72 => ?_))
              obtain ⟨hIm72, hfm72, hvm72⟩ := hqm72
              have hFm72 := zfr_tr hFm67 hfm72 rfl
              obtain ⟨hRKNm72, hvm72⟩ := hvm72
              exact zw_some ⟨hIm72, hFm72, hRKNm72, ⟨by omega, by omega⟩⟩
        · exfalso; omega
    · refine zw_some ?_
      refine zw_ite (fun h74 => ?_) (fun h74 => ?_)
      · have w75 := zu_w32_id (z := (zu_w32 (100 - (zu_w32 (10 * a3)))) - 0) (by omega) (by omega)
        refine zw_bd (zw_eq (zu_call_at (zt_T n) (zm_128 n) (zdp_128 n) _ _ _ _ _ rfl (zr_128_0 n _ _ a0 a1 m0)) ?_)
        refine zw_ite (fun h76 => ?_) (fun h76 => ?_)
        · exfalso; omega
        · refine zw_some ?_
          refine zw_nif (by omega) ?_
          have d77 : Int.tmod a1 4 = a1 % 4 := Int.tmod_eq_emod_of_nonneg (by omega)
          refine zw_ite (fun h78 => ?_) (fun h78 => ?_)
          · refine zw_bd (zw_mono (zk_38 n hIm0 hc0 ⟨by omega, by omega⟩ ⟨by omega, by omega⟩ ⟨by omega, by omega⟩ ⟨by omega, by omega⟩ ⟨by omega, by omega⟩ ⟨by omega, by omega⟩) (fun v80 m79 hqm79 => ?_))
            obtain ⟨hIm79, hfm79, hvm79⟩ := hqm79
            have hFm79 := zfr_tr hFm0 hfm79 rfl
            have hRKNm79 := zR_KN_fr (zdis_fr hfm79 rfl) hRKNm0
            refine zw_ite (fun h81 => ?_) (fun h81 => ?_)
            · refine zw_bd (zw_mono (zk_39 n hIm79 hc0 ⟨by omega, by omega⟩ ⟨by omega, by omega⟩ ⟨by omega, by omega⟩ hRKNm79) (fun v83 m82 hqm82 => ?_))
              obtain ⟨hIm82, hfm82, hvm82⟩ := hqm82
              have hFm82 := zfr_tr hFm79 hfm82 rfl
              obtain ⟨hRKNm82, hvm82⟩ := hvm82
              exact zw_some ⟨hIm82, hFm82, hRKNm82, ⟨by omega, by omega⟩⟩
            · exfalso; omega
          · refine zw_bd (zw_mono (zk_38 n hIm0 hc0 ⟨by omega, by omega⟩ ⟨by omega, by omega⟩ ⟨by omega, by omega⟩ ⟨by omega, by omega⟩ ⟨by omega, by omega⟩ ⟨by omega, by omega⟩) (fun v85 m84 hqm84 => ?_))
            obtain ⟨hIm84, hfm84, hvm84⟩ := hqm84
            have hFm84 := zfr_tr hFm0 hfm84 rfl
            have hRKNm84 := zR_KN_fr (zdis_fr hfm84 rfl) hRKNm0
            refine zw_ite (fun h86 => ?_) (fun h86 => ?_)
            · refine zw_bd (zw_mono (zk_39 n hIm84 hc0 ⟨by omega, by omega⟩ ⟨by omega, by omega⟩ ⟨by omega, by omega⟩ hRKNm84) (fun v88 m87 hqm87 => ?_))
              obtain ⟨hIm87, hfm87, hvm87⟩ := hqm87
              have hFm87 := zfr_tr hFm84 hfm87 rfl
              obtain ⟨hRKNm87, hvm87⟩ := hvm87
              exact zw_some ⟨hIm87, hFm87, hRKNm87, ⟨by omega, by omega⟩⟩
            · exfalso; omega
      · exfalso; omega
set_option maxHeartbeats 4000000 in
theorem zk_132 (n : Nat) {a0 a1 a2 : Int} {m0 : zu_m} (hIm0 : zi_I m0) (hc0 : zcls a0 = 28) (ha1 : 0 ≤ a1 ∧ a1 ≤ 3) (ha2 : 0 ≤ a2 ∧ a2 ≤ 15)    (hRKNm0 : zR_KN m0) : zw (zu_call (zt_T n) 132 [(40, a0), (0, a1), (0, a2)] m0) (fun v m => zi_I m ∧ zfr [(28, 54), (122, 0), (123, 0)] m0 m ∧ zR_KN m ∧ ((-2147483648) ≤ v ∧ v ≤ 2147483647)) := by
  have hFm0 : zfr [(28, 54), (122, 0), (123, 0)] m0 m0 := zfr_rf _ _
  refine zw_eq (zu_call_at (zt_T n) (zm_132 n) (zdp_132 n) _ _ _ _ _ rfl (zr_132_0 n _ _ a0 a1 a2 m0)) ?_
  have b1 : 0 ≤ a2 ∧ a2 < 36 := by omega
  refine zw_if b1 ?_
  have r2 : 0 ≤ (m0 198 a2) ∧ (m0 198 a2) ≤ 3 := zi_rd hIm0 zq_198 (zb_107 _)
  refine zw_nif (by omega) ?_
  have d3 : Int.tmod a1 4 = a1 % 4 := Int.tmod_eq_emod_of_nonneg (by omega)
  refine zw_ite (fun h4 => ?_) (fun h4 => ?_)
  · have b5 : 0 ≤ a1 ∧ a1 < 8 := by omega
    refine zw_if b5 ?_
    have r6 : 0 ≤ (m0 202 a1) ∧ (m0 202 a1) ≤ 15 := zi_rd hIm0 zq_202 (zb_111 _)
    have b7 : 0 ≤ a2 ∧ a2 < 36 := by omega
    refine zw_if b7 ?_
    have r8 : 0 ≤ (m0 199 a2) ∧ (m0 199 a2) ≤ 9 := zi_rd hIm0 zq_199 (zb_108 _)
    have b9 : 0 ≤ a2 ∧ a2 < 36 := by omega
    refine zw_if b9 ?_
    have r10 : 0 ≤ (m0 197 a2) ∧ (m0 197 a2) ≤ 47 := zi_rd hIm0 zq_197 (zb_106 _)
    have b11 : 0 ≤ a2 ∧ a2 < 36 := by omega
    refine zw_if b11 ?_
    refine zw_ite (fun h12 => ?_) (fun h12 => ?_)
    · refine zw_bd (zw_mono (zk_38 n hIm0 hc0 ⟨by omega, by omega⟩ ⟨by omega, by omega⟩ ⟨by omega, by omega⟩ ⟨by omega, by omega⟩ ⟨by omega, by omega⟩ ⟨by omega, by omega⟩) (fun v14 m13 hqm13 => ?_))
      obtain ⟨hIm13, hfm13, hvm13⟩ := hqm13
      have hFm13 := zfr_tr hFm0 hfm13 rfl
      have hRKNm13 := zR_KN_fr (zdis_fr hfm13 rfl) hRKNm0
      refine zw_ite (fun h15 => ?_) (fun h15 => ?_)
      · refine zw_bd (zw_mono (zk_39 n hIm13 hc0 ⟨by omega, by omega⟩ ⟨by omega, by omega⟩ ⟨by omega, by omega⟩ hRKNm13) (fun v17 m16 hqm16 => ?_))
        obtain ⟨hIm16, hfm16, hvm16⟩ := hqm16
        have hFm16 := zfr_tr hFm13 hfm16 rfl
        obtain ⟨hRKNm16, hvm16⟩ := hvm16
        exact zw_some ⟨hIm16, hFm16, hRKNm16, ⟨by omega, by omega⟩⟩
      · exfalso; omega
    · exfalso; omega
  · have b18 : 0 ≤ a1 ∧ a1 < 8 := by omega
    refine zw_if b18 ?_
    have r19 : 0 ≤ (m0 202 a1) ∧ (m0 202 a1) ≤ 15 := zi_rd hIm0 zq_202 (zb_111 _)
    have b20 : 0 ≤ a2 ∧ a2 < 36 := by omega
    refine zw_if b20 ?_
    have r21 : 0 ≤ (m0 199 a2) ∧ (m0 199 a2) ≤ 9 := zi_rd hIm0 zq_199 (zb_108 _)
    have b22 : 0 ≤ a2 ∧ a2 < 36 := by omega
    refine zw_if b22 ?_
    have r23 : 0 ≤ (m0 197 a2) ∧ (m0 197 a2) ≤ 47 := zi_rd hIm0 zq_197 (zb_106 _)
    have b24 : 0 ≤ a2 ∧ a2 < 36 := by omega
    refine zw_if b24 ?_
    refine zw_ite (fun h25 => ?_) (fun h25 => ?_)
    · exfalso; omega
    · refine zw_bd (zw_mono (zk_38 n hIm0 hc0 ⟨by omega, by omega⟩ ⟨by omega, by omega⟩ ⟨by omega, by omega⟩ ⟨by omega, by omega⟩ ⟨by omega, by omega⟩ ⟨by omega, by omega⟩) (fun v27 m26 hqm26 => ?_))
      obtain ⟨hIm26, hfm26, hvm26⟩ := hqm26
      have hFm26 := zfr_tr hFm0 hfm26 rfl
      have hRKNm26 := zR_KN_fr (zdis_fr hfm26 rfl) hRKNm0
      refine zw_ite (fun h28 => ?_) (fun h28 => ?_)
      · exfalso; omega
      · refine zw_bd (zw_mono (zk_39 n hIm26 hc0 ⟨by omega, by omega⟩ ⟨by omega, by omega⟩ ⟨by omega, by omega⟩ hRKNm26) (fun v30 m29 hqm29 => ?_))
        obtain ⟨hIm29, hfm29, hvm29⟩ := hqm29
        have hFm29 := zfr_tr hFm26 hfm29 rfl
        obtain ⟨hRKNm29, hvm29⟩ := hvm29
        exact zw_some ⟨hIm29, hFm29, hRKNm29, ⟨by omega, by omega⟩⟩
set_option maxHeartbeats 4000000 in
theorem zk_133 (n : Nat) {a0 a1 : Int} {m0 : zu_m} (hIm0 : zi_I m0) (hc0 : zcls a0 = 28) (ha1 : 0 ≤ a1 ∧ a1 ≤ 15)    (hRKNm0 : zR_KN m0) : zw (zu_call (zt_T n) 133 [(40, a0), (0, a1)] m0) (fun v m => zi_I m ∧ zfr [(28, 54), (122, 0), (123, 0)] m0 m ∧ zR_KN m ∧ ((-2147483648) ≤ v ∧ v ≤ 2147483647)) := by
  have hFm0 : zfr [(28, 54), (122, 0), (123, 0)] m0 m0 := zfr_rf _ _
  refine zw_eq (zu_call_at (zt_T n) (zm_133 n) (zdp_133 n) _ _ _ _ _ rfl (zr_133_0 n _ _ a0 a1 m0)) ?_
  have b1 : 0 ≤ a1 ∧ a1 < 36 := by omega
  refine zw_if b1 ?_
  have r2 : 0 ≤ (m0 199 a1) ∧ (m0 199 a1) ≤ 9 := zi_rd hIm0 zq_199 (zb_108 _)
  have b3 : 0 ≤ a1 ∧ a1 < 36 := by omega
  refine zw_if b3 ?_
  have r4 : 0 ≤ (m0 197 a1) ∧ (m0 197 a1) ≤ 47 := zi_rd hIm0 zq_197 (zb_106 _)
  have b5 : 0 ≤ a1 ∧ a1 < 36 := by omega
  refine zw_if b5 ?_
  have r6 : 0 ≤ (m0 198 a1) ∧ (m0 198 a1) ≤ 3 := zi_rd hIm0 zq_198 (zb_107 _)
  have b7 : 0 ≤ (0 : Int) ∧ (0 : Int) < 2 := by omega
  refine zw_if b7 ?_
  have r8 : (-2147483648) ≤ (m0 221 0) ∧ (m0 221 0) ≤ 2147483647 := zi_rd hIm0 zq_221 (zb_130 _)
  refine zw_bd (zw_mono (zk_38 n hIm0 hc0 ⟨by omega, by omega⟩ ⟨by omega, by omega⟩ ⟨by omega, by omega⟩ ⟨by omega, by omega⟩ ⟨by omega, by omega⟩ ⟨by omega, by omega⟩) (fun v10 m9 hqm9 => ?_))
  obtain ⟨hIm9, hfm9, hvm9⟩ := hqm9
  have hFm9 := zfr_tr hFm0 hfm9 rfl
  have hRKNm9 := zR_KN_fr (zdis_fr hfm9 rfl) hRKNm0
  refine zw_bd (zw_mono (zk_39 n hIm9 hc0 ⟨by omega, by omega⟩ ⟨by omega, by omega⟩ ⟨by omega, by omega⟩ hRKNm9) (fun v12 m11 hqm11 => ?_))
  obtain ⟨hIm11, hfm11, hvm11⟩ := hqm11
  have hFm11 := zfr_tr hFm9 hfm11 rfl
  obtain ⟨hRKNm11, hvm11⟩ := hvm11
  exact zw_some ⟨hIm11, hFm11, hRKNm11, ⟨by omega, by omega⟩⟩
set_option maxHeartbeats 4000000 in
theorem zl_214_16 (n : Nat) {a0 a1 a2 : Int} {m0 : zu_m} (hc0 : zcls a0 = 16)  (hxp0 : (m0 a0 8) + a1 ≤ 9999) : ∀ k : Nat, (∀ (x3 : Int) (mh : zu_m), zi_I mh → zfr [(16, 9), (16, 10), (17, 4), (18, 2), (18, 6), (18, 7), (18, 8), (56, 0), (59, 1), (59, 2), (59, 3), (59, 4), (59, 5), (59, 6), (59, 7), (67, 0), (68, 0)] m0 mh → (0 ≤ a1 ∧ a1 ≤ 200) → (0 ≤ a2 ∧ a2 ≤ 0) → (0 ≤ x3 ∧ x3 ≤ 200) → (x3 ≤ a1) → ((mh a0 8) = (m0 a0 8) + x3) → (zR_K54 mh) → (200 - x3) * 11 + 10 < (k : Int) → zw (zu_ex (zt_T n) 214 2 [(27, a0), (0, a1), (0, a2), (0, x3), (2, 0)] [] mh) (fun v m => zi_I m ∧ zfr [(16, 9), (16, 10), (17, 4), (18, 2), (18, 6), (18, 7), (18, 8), (56, 0), (59, 1), (59, 2), (59, 3), (59, 4), (59, 5), (59, 6), (59, 7), (67, 0), (68, 0)] m0 m ∧ zR_K54 m ∧ True ∧ ((m a0 8) = (m0 a0 8) + a1))) ∧ (∀ (x3 x4 : Int) (mh : zu_m), zi_I mh → zfr [(16, 9), (16, 10), (17, 4), (18, 2), (18, 6), (18, 7), (18, 8), (56, 0), (59, 1), (59, 2), (59, 3), (59, 4), (59, 5), (59, 6), (59, 7), (67, 0), (68, 0)] m0 mh → (1 ≤ a1 ∧ a1 ≤ 200) → (0 ≤ a2 ∧ a2 ≤ 0) → (0 ≤ x3 ∧ x3 ≤ 199) → (0 ≤ x4 ∧ x4 ≤ 4) → (x3 < a1) → ((mh a0 8) = (m0 a0 8) + x3) → (zR_K54 mh) → (4 - x4) * 1 + (200 - x3) * 11 + 5 < (k : Int) → zw (zu_ex (zt_T n) 214 10 [(27, a0), (0, a1), (0, a2), (0, x3), (0, x4)] [] mh) (fun v m => zi_I m ∧ zfr [(16, 9), (16, 10), (17, 4), (18, 2), (18, 6), (18, 7), (18, 8), (56, 0), (59, 1), (59, 2), (59, 3), (59, 4), (59, 5), (59, 6), (59, 7), (67, 0), (68, 0)] m0 m ∧ zR_K54 m ∧ True ∧ ((m a0 8) = (m0 a0 8) + a1))) ∧ (∀ (x3 x4 : Int) (mh : zu_m), zi_I mh → zfr [(16, 9), (16, 10), (17, 4), (18, 2), (18, 6), (18, 7), (18, 8), (56, 0), (59, 1), (59, 2), (59, 3), (59, 4), (59, 5), (59, 6), (59, 7), (67, 0), (68, 0)] m0 mh → (1 ≤ a1 ∧ a1 ≤ 200) → (0 ≤ a2 ∧ a2 ≤ 0) → (0 ≤ x3 ∧ x3 ≤ 199) → (0 ≤ x4 ∧ x4 ≤ 4) → (x3 < a1) → ((mh a0 8) = (m0 a0 8) + x3) → (zR_K54 mh) → (4 - x4) * 1 + (200 - x3) * 11 + 0 < (k : Int) → zw (zu_ex (zt_T n) 214 52 [(27, a0), (0, a1), (0, a2), (0, x3), (0, x4)] [] mh) (fun v m => zi_I m ∧ zfr [(16, 9), (16, 10), (17, 4), (18, 2), (18, 6), (18, 7), (18, 8), (56, 0), (59, 1), (59, 2), (59, 3), (59, 4), (59, 5), (59, 6), (59, 7), (67, 0), (68, 0)] m0 m ∧ zR_K54 m ∧ True ∧ ((m a0 8) = (m0 a0 8) + a1))) := by
  intro k
  induction k with
  | zero => exact ⟨fun x3 mh hImh hFmh hba1 hba2 hbx3 hH0 hH1 hRK54mh hM => by exfalso; omega, fun x3 x4 mh hImh hFmh hba1 hba2 hbx3 hbx4 hH0 hH1 hRK54mh hM => by exfalso; omega, fun x3 x4 mh hImh hFmh hba1 hba2 hbx3 hbx4 hH0 hH1 hRK54mh hM => by exfalso; omega⟩
  | succ k ih =>
    refine ⟨?_, ?_, ?_⟩
    · intro x3 mh hImh hFmh hba1 hba2 hbx3 hH0 hH1 hRK54mh hM
      refine zw_eq (zu_rega_at (zt_T n) (zm_214 n) (zdp_214 n) _ _ _ _ _ _ (zr_214_2 n _ _ a0 a1 a2 x3 mh)) ?_
      have r1 : 0 ≤ (mh a0 8) ∧ (mh a0 8) ≤ 9999 := zi_rd hImh hc0 zb_16_8
      refine zw_ite (fun h2 => ?_) (fun h2 => ?_)
      · exact zw_some ⟨hImh, hFmh, hRK54mh, trivial, by omega⟩
      · have hM : (4 - 0) * 1 + (200 - x3) * 11 + 5 < (k : Int) := by omega
        exact ih.2.1 x3 0 mh hImh hFmh ⟨by omega, by omega⟩ ⟨by omega, by omega⟩ ⟨by omega, by omega⟩ ⟨by omega, by omega⟩ (by omega) (by omega) hRK54mh hM
    · intro x3 x4 mh hImh hFmh hba1 hba2 hbx3 hbx4 hH0 hH1 hRK54mh hM
      refine zw_eq (zu_rega_at (zt_T n) (zm_214 n) (zdp_214 n) _ _ _ _ _ _ (zr_214_10 n _ _ a0 a1 a2 x3 x4 mh)) ?_
      have r3 : 0 ≤ (mh a0 8) ∧ (mh a0 8) ≤ 9999 := zi_rd hImh hc0 zb_16_8
      have r4 : 0 ≤ (mh a0 4) ∧ (mh a0 4) ≤ 4 := zi_rd hImh hc0 zb_16_4
      refine zw_ite (fun h5 => ?_) (fun h5 => ?_)
      · have hM : (4 - 0) * 1 + (200 - x3) * 11 + 0 < (k : Int) := by omega
        exact ih.2.2 x3 0 mh hImh hFmh ⟨by omega, by omega⟩ ⟨by omega, by omega⟩ ⟨by omega, by omega⟩ ⟨by omega, by omega⟩ (by omega) (by omega) hRK54mh hM
      · have b6 : 0 ≤ x4 ∧ x4 < 4 := by omega
        refine zw_if b6 ?_
        have r7 : (-2147483648) ≤ (mh ((a0 + 2) + 20 + x4) 4) ∧ (mh ((a0 + 2) + 20 + x4) 4) ≤ 2147483647 := zi_rd hImh (zc_66_e (zc_16_3 hc0) b6) zb_18_4
        refine zw_ite (fun h8 => ?_) (fun h8 => ?_)
        · have w9 := zu_w32_id (z := x4 + 1) (by omega) (by omega)
          have hM : (4 - (zu_w32 (x4 + 1))) * 1 + (200 - x3) * 11 + 5 < (k : Int) := by omega
          exact ih.2.1 x3 (zu_w32 (x4 + 1)) mh hImh hFmh ⟨by omega, by omega⟩ ⟨by omega, by omega⟩ ⟨by omega, by omega⟩ ⟨by omega, by omega⟩ (by omega) (by omega) hRK54mh hM
        · refine zw_bd (zw_mono (zk_216_16 n hImh hc0 ⟨by omega, by omega⟩ ⟨by omega, by omega⟩ hRK54mh) (fun v11 m10 hqm10 => ?_))
          obtain ⟨hIm10, hfm10, hvm10⟩ := hqm10
          have hFm10 := zfr_tr hFmh hfm10 rfl
          obtain ⟨hRK54m10, hvm10⟩ := hvm10
          have w12 := zu_w32_id (z := x4 + 1) (by omega) (by omega)
          have r13 : 0 ≤ (m10 a0 8) ∧ (m10 a0 8) ≤ 9999 := zi_rd hIm10 hc0 zb_16_8
          have e14 : (m10 a0 8) = (mh a0 8) := (zfr_ap hfm10 hc0 rfl)
          have hM : (4 - (zu_w32 (x4 + 1))) * 1 + (200 - x3) * 11 + 5 < (k : Int) := by omega
          exact ih.2.1 x3 (zu_w32 (x4 + 1)) m10 hIm10 hFm10 ⟨by omega, by omega⟩ ⟨by omega, by omega⟩ ⟨by omega, by omega⟩ ⟨by omega, by omega⟩ (by omega) (by omega) hRK54m10 hM
    · intro x3 x4 mh hImh hFmh hba1 hba2 hbx3 hbx4 hH0 hH1 hRK54mh hM
      refine zw_eq (zu_rega_at (zt_T n) (zm_214 n) (zdp_214 n) _ _ _ _ _ _ (zr_214_52 n _ _ a0 a1 a2 x3 x4 mh)) ?_
      have r15 : 0 ≤ (mh a0 8) ∧ (mh a0 8) ≤ 9999 := zi_rd hImh hc0 zb_16_8
      have r16 : 0 ≤ (mh a0 4) ∧ (mh a0 4) ≤ 4 := zi_rd hImh hc0 zb_16_4
      refine zw_ite (fun h17 => ?_) (fun h17 => ?_)
      · refine zw_ite (fun h18 => ?_) (fun h18 => ?_)
        · exfalso; omega
        · refine zw_bd (zw_mono (zk_221_16 n hImh hc0) (fun v20 m19 hqm19 => ?_))
          obtain ⟨hIm19, hfm19, hvm19⟩ := hqm19
          have hFm19 := zfr_tr hFmh hfm19 rfl
          have hRK54m19 := zR_K54_fr (zdis_fr hfm19 rfl) hRK54mh
          have r21 : 0 ≤ (m19 a0 8) ∧ (m19 a0 8) ≤ 9999 := zi_rd hIm19 hc0 zb_16_8
          have e22 : (m19 a0 8) = (mh a0 8) := (zfr_ap hfm19 hc0 rfl)
          have r23 : (-2147483648) ≤ (m19 a0 11) ∧ (m19 a0 11) ≤ 2147483647 := zi_rd hIm19 hc0 zb_16_11
          refine zw_ite (fun h24 => ?_) (fun h24 => ?_)
          · have w25 := zu_w32_id (z := (m19 a0 8) + 1) (by omega) (by omega)
            generalize hmm26 : zu_up m19 a0 8 (zu_w32 ((m19 a0 8) + 1)) = m26
            have hIm26 := zi_up hmm26 hIm19 hc0 zb_16_8 (by omega) (by omega)
            have hFm26 := zfr_up hmm26 hFm19 hc0 rfl
            have hRK54m26 := zR_K54_fr (zdis_fr (zfr_up hmm26 (zfr_rf [(16, 9)] _) hc0 rfl) rfl) hRK54m19
            have w27 := zu_w32_id (z := x3 + 1) (by omega) (by omega)
            have r28 : 0 ≤ (m26 a0 8) ∧ (m26 a0 8) ≤ 9999 := zi_rd hIm26 hc0 zb_16_8
            have e29 : (m26 a0 8) = (zu_w32 ((m19 a0 8) + 1)) := (zs_eq hmm26)
            have hM : (200 - (zu_w32 (x3 + 1))) * 11 + 10 < (k : Int) := by omega
            exact zw_le (zu_forget (zu_lr_same (zu_lr_same (zu_lr_same (zu_lr_same (zu_lr_drop zu_lr_nil)))))) (ih.1 (zu_w32 (x3 + 1)) m26 hIm26 hFm26 ⟨by omega, by omega⟩ ⟨by omega, by omega⟩ ⟨by omega, by omega⟩ (by omega) (by omega) hRK54m26 hM)
          · refine zw_bd (zw_mono (zk_222_16 n hIm19 hc0) (fun v31 m30 hqm30 => ?_))
            obtain ⟨hIm30, hfm30, hvm30⟩ := hqm30
            have hFm30 := zfr_tr hFm19 hfm30 rfl
            have hRK54m30 := zR_K54_fr (zdis_fr hfm30 rfl) hRK54m19
            have r32 : 0 ≤ (m30 a0 8) ∧ (m30 a0 8) ≤ 9999 := zi_rd hIm30 hc0 zb_16_8
            have e33 : (m30 a0 8) = (m19 a0 8) := (zfr_ap hfm30 hc0 rfl)
            have w34 := zu_w32_id (z := (m30 a0 8) + 1) (by omega) (by omega)
            generalize hmm35 : zu_up m30 a0 8 (zu_w32 ((m30 a0 8) + 1)) = m35
            have hIm35 := zi_up hmm35 hIm30 hc0 zb_16_8 (by omega) (by omega)
            have hFm35 := zfr_up hmm35 hFm30 hc0 rfl
            have hRK54m35 := zR_K54_fr (zdis_fr (zfr_up hmm35 (zfr_rf [(16, 9)] _) hc0 rfl) rfl) hRK54m30
            have w36 := zu_w32_id (z := x3 + 1) (by omega) (by omega)
            have r37 : 0 ≤ (m35 a0 8) ∧ (m35 a0 8) ≤ 9999 := zi_rd hIm35 hc0 zb_16_8
            have e38 : (m35 a0 8) = (zu_w32 ((m30 a0 8) + 1)) := (zs_eq hmm35)
            have hM : (200 - (zu_w32 (x3 + 1))) * 11 + 10 < (k : Int) := by omega
            exact zw_le (zu_forget (zu_lr_same (zu_lr_same (zu_lr_same (zu_lr_same (zu_lr_drop zu_lr_nil)))))) (ih.1 (zu_w32 (x3 + 1)) m35 hIm35 hFm35 ⟨by omega, by omega⟩ ⟨by omega, by omega⟩ ⟨by omega, by omega⟩ (by omega) (by omega) hRK54m35 hM)
      · have b39 : 0 ≤ x4 ∧ x4 < 4 := by omega
        refine zw_if b39 ?_
        have r40 : (-2147483648) ≤ (mh ((a0 + 2) + 20 + x4) 4) ∧ (mh ((a0 + 2) + 20 + x4) 4) ≤ 2147483647 := zi_rd hImh (zc_66_e (zc_16_3 hc0) b39) zb_18_4
        refine zw_ite (fun h41 => ?_) (fun h41 => ?_)
        · have w42 := zu_w32_id (z := x4 + 1) (by omega) (by omega)
          have hM : (4 - (zu_w32 (x4 + 1))) * 1 + (200 - x3) * 11 + 0 < (k : Int) := by omega
          exact ih.2.2 x3 (zu_w32 (x4 + 1)) mh hImh hFmh ⟨by omega, by omega⟩ ⟨by omega, by omega⟩ ⟨by omega, by omega⟩ ⟨by omega, by omega⟩ (by omega) (by omega) hRK54mh hM
        · refine zw_bd (zw_mono (zk_219_16 n hImh hc0 ⟨by omega, by omega⟩) (fun v44 m43 hqm43 => ?_))
          obtain ⟨hIm43, hfm43, hvm43⟩ := hqm43
          have hFm43 := zfr_tr hFmh hfm43 rfl
          have hRK54m43 := zR_K54_fr (zdis_fr hfm43 rfl) hRK54mh
          have w45 := zu_w32_id (z := x4 + 1) (by omega) (by omega)
          have r46 : 0 ≤ (m43 a0 8) ∧ (m43 a0 8) ≤ 9999 := zi_rd hIm43 hc0 zb_16_8
          have e47 : (m43 a0 8) = (mh a0 8) := (zfr_ap hfm43 hc0 rfl)
          have hM : (4 - (zu_w32 (x4 + 1))) * 1 + (200 - x3) * 11 + 0 < (k : Int) := by omega
          exact ih.2.2 x3 (zu_w32 (x4 + 1)) m43 hIm43 hFm43 ⟨by omega, by omega⟩ ⟨by omega, by omega⟩ ⟨by omega, by omega⟩ ⟨by omega, by omega⟩ (by omega) (by omega) hRK54m43 hM
set_option maxHeartbeats 4000000 in
theorem zk_214_16 (n : Nat) {a0 a1 a2 : Int} {m0 : zu_m} (hIm0 : zi_I m0) (hc0 : zcls a0 = 16) (ha1 : 0 ≤ a1 ∧ a1 ≤ 200) (ha2 : 0 ≤ a2 ∧ a2 ≤ 0)   (hxp0 : (m0 a0 8) + a1 ≤ 9999) (hRK54m0 : zR_K54 m0) : zw (zu_call (zt_T n) 214 [(27, a0), (0, a1), (0, a2)] m0) (fun v m => zi_I m ∧ zfr [(16, 9), (16, 10), (17, 4), (18, 2), (18, 6), (18, 7), (18, 8), (56, 0), (59, 1), (59, 2), (59, 3), (59, 4), (59, 5), (59, 6), (59, 7), (67, 0), (68, 0)] m0 m ∧ zR_K54 m ∧ True ∧ ((m a0 8) = (m0 a0 8) + a1)) := by
  have hFm0 : zfr [(16, 9), (16, 10), (17, 4), (18, 2), (18, 6), (18, 7), (18, 8), (56, 0), (59, 1), (59, 2), (59, 3), (59, 4), (59, 5), (59, 6), (59, 7), (67, 0), (68, 0)] m0 m0 := zfr_rf _ _
  have r48 : 0 ≤ (m0 a0 8) ∧ (m0 a0 8) ≤ 9999 := zi_rd hIm0 hc0 zb_16_8
  refine zw_eq (zu_call_at (zt_T n) (zm_214 n) (zdp_214 n) _ _ _ _ _ rfl (zr_214_0 n _ _ a0 a1 a2 m0)) ?_
  have hM : (200 - 0) * 11 + 10 < ((2211 : Nat) : Int) := by omega
  exact (zl_214_16 n (m0 := m0) hc0 hxp0 2211).1 0 m0 hIm0 hFm0 ⟨by omega, by omega⟩ ⟨by omega, by omega⟩ ⟨by omega, by omega⟩ (by omega) (by omega) hRK54m0 hM

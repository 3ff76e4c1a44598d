set_option maxHeartbeats 4000000 in
theorem zk_99 (n : Nat) {a0 : Int} {m0 : zu_m} (hIm0 : zi_I m0) (hc0 : zcls a0 = 28)     (hRNSm0 : zR_NS m0) (hRWDm0 : zR_WD m0) : zw (zu_call (zt_T n) 99 [(40, a0)] m0) (fun v m => zi_I m ∧ zfr [(28, 5), (28, 6), (28, 8), (28, 9), (28, 10), (28, 11), (28, 12), (28, 18), (28, 19), (102, 0)] m0 m ∧ zR_NS m ∧ zR_WD m ∧ (0 ≤ v ∧ v ≤ 1) ∧ ((m0 a0 7) ≤ (m a0 7)) ∧ (v = 1 → ((m a0 8) = 0 ∨ (m0 a0 7) < (m a0 7)))) := by
  have hFm0 : zfr [(28, 5), (28, 6), (28, 8), (28, 9), (28, 10), (28, 11), (28, 12), (28, 18), (28, 19), (102, 0)] m0 m0 := zfr_rf _ _
  have s1 := hRNSm0 a0 hc0
  refine zw_eq (zr_99_0 n a0 m0) ?_
  have b2 : 0 ≤ (0 : Int) ∧ (0 : Int) < 6 := by omega
  refine zw_if b2 ?_
  have r3 : 0 ≤ (m0 193 0) ∧ (m0 193 0) ≤ 1 := zi_rd hIm0 zq_193 (zb_102 _)
  refine zw_ite (fun h4 => ?_) (fun h4 => ?_)
  · have r5 : 0 ≤ (m0 a0 23) ∧ (m0 a0 23) ≤ 1 := zi_rd hIm0 hc0 zb_28_23
    refine zw_ite (fun h6 => ?_) (fun h6 => ?_)
    · refine zw_b (by omega) ?_
      have b7 : 0 ≤ (0 : Int) ∧ (0 : Int) < 6 := by omega
      refine zw_if b7 ?_
      generalize hmm8 : zu_up m0 193 0 1 = m8
      have hIm8 := zi_up hmm8 hIm0 zq_193 (zb_102 _) (by omega) (by omega)
      have hFm8 := zfr_up hmm8 hFm0 zq_193 rfl
      have hRNSm8 := zR_NS_fr (zdis_fr (zfr_up hmm8 (zfr_rf [(102, 0)] _) zq_193 rfl) rfl) hRNSm0
      have hRWDm8 := zR_WD_fr (zdis_fr (zfr_up hmm8 (zfr_rf [(102, 0)] _) zq_193 rfl) rfl) hRWDm0
      refine zw_bd (zw_mono (zk_89 n hIm8 hc0 hRNSm8 hRWDm8) (fun v10 m9 hqm9 => ?_))
      obtain ⟨hIm9, hfm9, hvm9⟩ := hqm9
      have hFm9 := zfr_tr hFm8 hfm9 rfl
      obtain ⟨hRNSm9, hRWDm9, hvm9⟩ := hvm9
      have s11 := hRNSm9 a0 hc0
      refine zw_bd (zw_eq (zr_94_0 n a0 1 8 m9) ?_)
      have r12 : 0 ≤ (m9 a0 8) ∧ (m9 a0 8) ≤ 6 := zi_rd hIm9 hc0 zb_28_8
      refine zw_ite (fun h13 => ?_) (fun h13 => ?_)
      · have r14 : (-2147483648) ≤ (m9 a0 9) ∧ (m9 a0 9) ≤ 2147483647 := zi_rd hIm9 hc0 zb_28_9
        refine zw_bd (zw_eq (zr_83_0 n (m9 a0 9) 1 8 m9) ?_)
        refine zw_ite (fun h15 => ?_) (fun h15 => ?_)
        · refine zw_b (by omega) ?_
          refine zw_some ?_
          refine zw_ite (fun h16 => ?_) (fun h16 => ?_)
          · exfalso; omega
          · refine zw_bd (zw_eq (zr_85_0 n a0 2 m9) ?_)
            generalize hmm17 : zu_up m9 a0 4 2 = m17
            have hIm17 := zi_up hmm17 hIm9 hc0 zb_28_4 (by omega) (by omega)
            have hFm17 := zfr_up hmm17 hFm9 hc0 rfl
            have hRNSm17 := zR_NS_fr (zdis_fr (zfr_up hmm17 (zfr_rf [(28, 5)] _) hc0 rfl) rfl) hRNSm9
            have hRWDm17 := zR_WD_fr (zdis_fr (zfr_up hmm17 (zfr_rf [(28, 5)] _) hc0 rfl) rfl) hRWDm9
            have r18 : 0 ≤ (m17 a0 10) ∧ (m17 a0 10) ≤ 700 := zi_rd hIm17 hc0 zb_28_10
            generalize hmm19 : zu_up m17 a0 5 (m17 a0 10) = m19
            have hIm19 := zi_up hmm19 hIm17 hc0 zb_28_5 (by omega) (by omega)
            have hFm19 := zfr_up hmm19 hFm17 hc0 rfl
            have hRNSm19 := zR_NS_fr (zdis_fr (zfr_up hmm19 (zfr_rf [(28, 6)] _) hc0 rfl) rfl) hRNSm17
            have hRWDm19 := zR_WD_fr (zdis_fr (zfr_up hmm19 (zfr_rf [(28, 6)] _) hc0 rfl) rfl) hRWDm17
            refine zw_b (by omega) ?_
            refine zw_some ?_
            refine zw_b (by omega) ?_
            refine zw_some ?_
            refine zw_ite (fun h20 => ?_) (fun h20 => ?_)
            · exfalso; omega
            · refine zw_b (by omega) ?_
              have r21 : 0 ≤ (m19 a0 7) ∧ (m19 a0 7) ≤ 700 := zi_rd hIm19 hc0 zb_28_7
              have r22 : 0 ≤ (m19 a0 8) ∧ (m19 a0 8) ≤ 6 := zi_rd hIm19 hc0 zb_28_8
              have e23 : (m19 a0 8) = (m9 a0 8) := (Eq.trans (zs_ne hmm19 (Or.inr (by decide))) (zs_ne hmm17 (Or.inr (by decide))))
              exact zw_some ⟨hIm19, hFm19, hRNSm19, hRWDm19, ⟨by omega, by omega⟩, by omega, by omega⟩
        · refine zw_ite (fun h24 => ?_) (fun h24 => ?_)
          · refine zw_b (by omega) ?_
            refine zw_some ?_
            refine zw_ite (fun h25 => ?_) (fun h25 => ?_)
            · exfalso; omega
            · refine zw_bd (zw_eq (zr_85_0 n a0 2 m9) ?_)
              generalize hmm26 : zu_up m9 a0 4 2 = m26
              have hIm26 := zi_up hmm26 hIm9 hc0 zb_28_4 (by omega) (by omega)
              have hFm26 := zfr_up hmm26 hFm9 hc0 rfl
              have hRNSm26 := zR_NS_fr (zdis_fr (zfr_up hmm26 (zfr_rf [(28, 5)] _) hc0 rfl) rfl) hRNSm9
              have hRWDm26 := zR_WD_fr (zdis_fr (zfr_up hmm26 (zfr_rf [(28, 5)] _) hc0 rfl) rfl) hRWDm9
              have r27 : 0 ≤ (m26 a0 10) ∧ (m26 a0 10) ≤ 700 := zi_rd hIm26 hc0 zb_28_10
              generalize hmm28 : zu_up m26 a0 5 (m26 a0 10) = m28
              have hIm28 := zi_up hmm28 hIm26 hc0 zb_28_5 (by omega) (by omega)
              have hFm28 := zfr_up hmm28 hFm26 hc0 rfl
              have hRNSm28 := zR_NS_fr (zdis_fr (zfr_up hmm28 (zfr_rf [(28, 6)] _) hc0 rfl) rfl) hRNSm26
              have hRWDm28 := zR_WD_fr (zdis_fr (zfr_up hmm28 (zfr_rf [(28, 6)] _) hc0 rfl) rfl) hRWDm26
              refine zw_b (by omega) ?_
              refine zw_some ?_
              refine zw_b (by omega) ?_
              refine zw_some ?_
              refine zw_ite (fun h29 => ?_) (fun h29 => ?_)
              · exfalso; omega
              · refine zw_b (by omega) ?_
                have r30 : 0 ≤ (m28 a0 7) ∧ (m28 a0 7) ≤ 700 := zi_rd hIm28 hc0 zb_28_7
                have r31 : 0 ≤ (m28 a0 8) ∧ (m28 a0 8) ≤ 6 := zi_rd hIm28 hc0 zb_28_8
                have e32 : (m28 a0 8) = (m9 a0 8) := (Eq.trans (zs_ne hmm28 (Or.inr (by decide))) (zs_ne hmm26 (Or.inr (by decide))))
                exact zw_some ⟨hIm28, hFm28, hRNSm28, hRWDm28, ⟨by omega, by omega⟩, by omega, by omega⟩
          · refine zw_b (by omega) ?_
            refine zw_some ?_
            refine zw_ite (fun h33 => ?_) (fun h33 => ?_)
            · generalize hmm34 : zu_up m9 a0 11 (m9 a0 9) = m34
              have hIm34 := zi_up hmm34 hIm9 hc0 zb_28_11 (by omega) (by omega)
              have hFm34 := zfr_up hmm34 hFm9 hc0 rfl
              have hRNSm34 := zR_NS_fr (zdis_fr (zfr_up hmm34 (zfr_rf [(28, 12)] _) hc0 rfl) rfl) hRNSm9
              have hRWDm34 := zR_WD_fr (zdis_fr (zfr_up hmm34 (zfr_rf [(28, 12)] _) hc0 rfl) rfl) hRWDm9
              refine zw_bd (zw_mono (zk_89 n hIm34 hc0 hRNSm34 hRWDm34) (fun v36 m35 hqm35 => ?_))
              obtain ⟨hIm35, hfm35, hvm35⟩ := hqm35
              have hFm35 := zfr_tr hFm34 hfm35 rfl
              obtain ⟨hRNSm35, hRWDm35, hvm35⟩ := hvm35
              have s37 := hRNSm35 a0 hc0
              refine zw_b (by omega) ?_
              refine zw_some ?_
              refine zw_ite (fun h38 => ?_) (fun h38 => ?_)
              · have r39 : (-2147483648) ≤ (m35 a0 11) ∧ (m35 a0 11) ≤ 2147483647 := zi_rd hIm35 hc0 zb_28_11
                have e40 : (m35 a0 11) = (m9 a0 9) := (Eq.trans (zfr_ap hfm35 hc0 rfl) (zs_eq hmm34))
                generalize hmm41 : zu_up m35 a0 17 (m35 a0 11) = m41
                have hIm41 := zi_up hmm41 hIm35 hc0 zb_28_17 (by omega) (by omega)
                have hFm41 := zfr_up hmm41 hFm35 hc0 rfl
                have hRNSm41 := zR_NS_fr (zdis_fr (zfr_up hmm41 (zfr_rf [(28, 18)] _) hc0 rfl) rfl) hRNSm35
                have hRWDm41 := zR_WD_fr (zdis_fr (zfr_up hmm41 (zfr_rf [(28, 18)] _) hc0 rfl) rfl) hRWDm35
                refine zw_bd (zw_eq (zr_94_0 n a0 1 6 m41) ?_)
                have r42 : 0 ≤ (m41 a0 8) ∧ (m41 a0 8) ≤ 6 := zi_rd hIm41 hc0 zb_28_8
                refine zw_ite (fun h43 => ?_) (fun h43 => ?_)
                · have r44 : (-2147483648) ≤ (m41 a0 9) ∧ (m41 a0 9) ≤ 2147483647 := zi_rd hIm41 hc0 zb_28_9
                  refine zw_bd (zw_eq (zr_83_0 n (m41 a0 9) 1 6 m41) ?_)
                  refine zw_ite (fun h45 => ?_) (fun h45 => ?_)
                  · refine zw_b (by omega) ?_
                    refine zw_some ?_
                    refine zw_ite (fun h46 => ?_) (fun h46 => ?_)
                    · exfalso; omega
                    · refine zw_bd (zw_eq (zr_85_0 n a0 2 m41) ?_)
                      generalize hmm47 : zu_up m41 a0 4 2 = m47
                      have hIm47 := zi_up hmm47 hIm41 hc0 zb_28_4 (by omega) (by omega)
                      have hFm47 := zfr_up hmm47 hFm41 hc0 rfl
                      have hRNSm47 := zR_NS_fr (zdis_fr (zfr_up hmm47 (zfr_rf [(28, 5)] _) hc0 rfl) rfl) hRNSm41
                      have hRWDm47 := zR_WD_fr (zdis_fr (zfr_up hmm47 (zfr_rf [(28, 5)] _) hc0 rfl) rfl) hRWDm41
                      have r48 : 0 ≤ (m47 a0 10) ∧ (m47 a0 10) ≤ 700 := zi_rd hIm47 hc0 zb_28_10
                      generalize hmm49 : zu_up m47 a0 5 (m47 a0 10) = m49
                      have hIm49 := zi_up hmm49 hIm47 hc0 zb_28_5 (by omega) (by omega)
                      have hFm49 := zfr_up hmm49 hFm47 hc0 rfl
                      have hRNSm49 := zR_NS_fr (zdis_fr (zfr_up hmm49 (zfr_rf [(28, 6)] _) hc0 rfl) rfl) hRNSm47
                      have hRWDm49 := zR_WD_fr (zdis_fr (zfr_up hmm49 (zfr_rf [(28, 6)] _) hc0 rfl) rfl) hRWDm47
                      refine zw_b (by omega) ?_
                      refine zw_some ?_
                      refine zw_b (by omega) ?_
                      refine zw_some ?_
                      refine zw_ite (fun h50 => ?_) (fun h50 => ?_)
                      · exfalso; omega
                      · refine zw_b (by omega) ?_
                        have r51 : 0 ≤ (m49 a0 7) ∧ (m49 a0 7) ≤ 700 := zi_rd hIm49 hc0 zb_28_7
                        have r52 : 0 ≤ (m49 a0 8) ∧ (m49 a0 8) ≤ 6 := zi_rd hIm49 hc0 zb_28_8
                        have e53 : (m49 a0 8) = (m41 a0 8) := (Eq.trans (zs_ne hmm49 (Or.inr (by decide))) (zs_ne hmm47 (Or.inr (by decide))))
                        exact zw_some ⟨hIm49, hFm49, hRNSm49, hRWDm49, ⟨by omega, by omega⟩, by omega, by omega⟩
                  · refine zw_ite (fun h54 => ?_) (fun h54 => ?_)
                    · refine zw_b (by omega) ?_
                      refine zw_some ?_
                      refine zw_ite (fun h55 => ?_) (fun h55 => ?_)
                      · exfalso; omega
                      · refine zw_bd (zw_eq (zr_85_0 n a0 2 m41) ?_)
                        generalize hmm56 : zu_up m41 a0 4 2 = m56
                        have hIm56 := zi_up hmm56 hIm41 hc0 zb_28_4 (by omega) (by omega)
                        have hFm56 := zfr_up hmm56 hFm41 hc0 rfl
                        have hRNSm56 := zR_NS_fr (zdis_fr (zfr_up hmm56 (zfr_rf [(28, 5)] _) hc0 rfl) rfl) hRNSm41
                        have hRWDm56 := zR_WD_fr (zdis_fr (zfr_up hmm56 (zfr_rf [(28, 5)] _) hc0 rfl) rfl) hRWDm41
                        have r57 : 0 ≤ (m56 a0 10) ∧ (m56 a0 10) ≤ 700 := zi_rd hIm56 hc0 zb_28_10
                        generalize hmm58 : zu_up m56 a0 5 (m56 a0 10) = m58
                        have hIm58 := zi_up hmm58 hIm56 hc0 zb_28_5 (by omega) (by omega)
                        have hFm58 := zfr_up hmm58 hFm56 hc0 rfl
                        have hRNSm58 := zR_NS_fr (zdis_fr (zfr_up hmm58 (zfr_rf [(28, 6)] _) hc0 rfl) rfl) hRNSm56
                        have hRWDm58 := zR_WD_fr (zdis_fr (zfr_up hmm58 (zfr_rf [(28, 6)] _) hc0 rfl) rfl) hRWDm56
                        refine zw_b (by omega) ?_
                        refine zw_some ?_
                        refine zw_b (by omega) ?_
                        refine zw_some ?_
                        refine zw_ite (fun h59 => ?_) (fun h59 => ?_)
                        · exfalso; omega
                        · refine zw_b (by omega) ?_
                          have r60 : 0 ≤ (m58 a0 7) ∧ (m58 a0 7) ≤ 700 := zi_rd hIm58 hc0 zb_28_7
                          have r61 : 0 ≤ (m58 a0 8) ∧ (m58 a0 8) ≤ 6 := zi_rd hIm58 hc0 zb_28_8
                          have e62 : (m58 a0 8) = (m41 a0 8) := (Eq.trans (zs_ne hmm58 (Or.inr (by decide))) (zs_ne hmm56 (Or.inr (by decide))))
                          exact zw_some ⟨hIm58, hFm58, hRNSm58, hRWDm58, ⟨by omega, by omega⟩, by omega, by omega⟩
                    · refine zw_b (by omega) ?_
                      refine zw_some ?_
                      refine zw_ite (fun h63 => ?_) (fun h63 => ?_)
                      · generalize hmm64 : zu_up m41 a0 11 (m41 a0 9) = m64
                        have hIm64 := zi_up hmm64 hIm41 hc0 zb_28_11 (by omega) (by omega)
                        have hFm64 := zfr_up hmm64 hFm41 hc0 rfl
                        have hRNSm64 := zR_NS_fr (zdis_fr (zfr_up hmm64 (zfr_rf [(28, 12)] _) hc0 rfl) rfl) hRNSm41
                        have hRWDm64 := zR_WD_fr (zdis_fr (zfr_up hmm64 (zfr_rf [(28, 12)] _) hc0 rfl) rfl) hRWDm41
                        refine zw_bd (zw_mono (zk_89 n hIm64 hc0 hRNSm64 hRWDm64) (fun v66 m65 hqm65 => ?_))
                        obtain ⟨hIm65, hfm65, hvm65⟩ := hqm65
                        have hFm65 := zfr_tr hFm64 hfm65 rfl
                        obtain ⟨hRNSm65, hRWDm65, hvm65⟩ := hvm65
                        have s67 := hRNSm65 a0 hc0
                        refine zw_b (by omega) ?_
                        refine zw_some ?_
                        refine zw_ite (fun h68 => ?_) (fun h68 => ?_)
                        · have r69 : (-2147483648) ≤ (m65 a0 11) ∧ (m65 a0 11) ≤ 2147483647 := zi_rd hIm65 hc0 zb_28_11
                          have e70 : (m65 a0 11) = (m41 a0 9) := (Eq.trans (zfr_ap hfm65 hc0 rfl) (zs_eq hmm64))
                          generalize hmm71 : zu_up m65 a0 18 (m65 a0 11) = m71
                          have hIm71 := zi_up hmm71 hIm65 hc0 zb_28_18 (by omega) (by omega)
                          have hFm71 := zfr_up hmm71 hFm65 hc0 rfl
                          have hRNSm71 := zR_NS_fr (zdis_fr (zfr_up hmm71 (zfr_rf [(28, 19)] _) hc0 rfl) rfl) hRNSm65
                          have hRWDm71 := zR_WD_fr (zdis_fr (zfr_up hmm71 (zfr_rf [(28, 19)] _) hc0 rfl) rfl) hRWDm65
                          refine zw_b (by omega) ?_
                          have r72 : 0 ≤ (m71 a0 7) ∧ (m71 a0 7) ≤ 700 := zi_rd hIm71 hc0 zb_28_7
                          have r73 : 0 ≤ (m71 a0 8) ∧ (m71 a0 8) ≤ 6 := zi_rd hIm71 hc0 zb_28_8
                          exact zw_some ⟨hIm71, hFm71, hRNSm71, hRWDm71, ⟨by omega, by omega⟩, by omega, by omega⟩
                        · exfalso; omega
                      · exfalso; omega
                · refine zw_bd (zw_eq (zr_85_0 n a0 1 m41) ?_)
                  generalize hmm74 : zu_up m41 a0 4 1 = m74
                  have hIm74 := zi_up hmm74 hIm41 hc0 zb_28_4 (by omega) (by omega)
                  have hFm74 := zfr_up hmm74 hFm41 hc0 rfl
                  have hRNSm74 := zR_NS_fr (zdis_fr (zfr_up hmm74 (zfr_rf [(28, 5)] _) hc0 rfl) rfl) hRNSm41
                  have hRWDm74 := zR_WD_fr (zdis_fr (zfr_up hmm74 (zfr_rf [(28, 5)] _) hc0 rfl) rfl) hRWDm41
                  have r75 : 0 ≤ (m74 a0 10) ∧ (m74 a0 10) ≤ 700 := zi_rd hIm74 hc0 zb_28_10
                  generalize hmm76 : zu_up m74 a0 5 (m74 a0 10) = m76
                  have hIm76 := zi_up hmm76 hIm74 hc0 zb_28_5 (by omega) (by omega)
                  have hFm76 := zfr_up hmm76 hFm74 hc0 rfl
                  have hRNSm76 := zR_NS_fr (zdis_fr (zfr_up hmm76 (zfr_rf [(28, 6)] _) hc0 rfl) rfl) hRNSm74
                  have hRWDm76 := zR_WD_fr (zdis_fr (zfr_up hmm76 (zfr_rf [(28, 6)] _) hc0 rfl) rfl) hRWDm74
                  refine zw_b (by omega) ?_
                  refine zw_some ?_
                  refine zw_b (by omega) ?_
                  refine zw_some ?_
                  refine zw_ite (fun h77 => ?_) (fun h77 => ?_)
                  · exfalso; omega
                  · refine zw_b (by omega) ?_
                    have r78 : 0 ≤ (m76 a0 7) ∧ (m76 a0 7) ≤ 700 := zi_rd hIm76 hc0 zb_28_7
                    have r79 : 0 ≤ (m76 a0 8) ∧ (m76 a0 8) ≤ 6 := zi_rd hIm76 hc0 zb_28_8
                    have e80 : (m76 a0 8) = (m41 a0 8) := (Eq.trans (zs_ne hmm76 (Or.inr (by decide))) (zs_ne hmm74 (Or.inr (by decide))))
                    exact zw_some ⟨hIm76, hFm76, hRNSm76, hRWDm76, ⟨by omega, by omega⟩, by omega, by omega⟩
              · exfalso; omega
            · exfalso; omega
      · refine zw_bd (zw_eq (zr_85_0 n a0 1 m9) ?_)
        generalize hmm81 : zu_up m9 a0 4 1 = m81
        have hIm81 := zi_up hmm81 hIm9 hc0 zb_28_4 (by omega) (by omega)
        have hFm81 := zfr_up hmm81 hFm9 hc0 rfl
        have hRNSm81 := zR_NS_fr (zdis_fr (zfr_up hmm81 (zfr_rf [(28, 5)] _) hc0 rfl) rfl) hRNSm9
        have hRWDm81 := zR_WD_fr (zdis_fr (zfr_up hmm81 (zfr_rf [(28, 5)] _) hc0 rfl) rfl) hRWDm9
        have r82 : 0 ≤ (m81 a0 10) ∧ (m81 a0 10) ≤ 700 := zi_rd hIm81 hc0 zb_28_10
        generalize hmm83 : zu_up m81 a0 5 (m81 a0 10) = m83
        have hIm83 := zi_up hmm83 hIm81 hc0 zb_28_5 (by omega) (by omega)
        have hFm83 := zfr_up hmm83 hFm81 hc0 rfl
        have hRNSm83 := zR_NS_fr (zdis_fr (zfr_up hmm83 (zfr_rf [(28, 6)] _) hc0 rfl) rfl) hRNSm81
        have hRWDm83 := zR_WD_fr (zdis_fr (zfr_up hmm83 (zfr_rf [(28, 6)] _) hc0 rfl) rfl) hRWDm81
        refine zw_b (by omega) ?_
        refine zw_some ?_
        refine zw_b (by omega) ?_
        refine zw_some ?_
        refine zw_ite (fun h84 => ?_) (fun h84 => ?_)
        · exfalso; omega
        · refine zw_b (by omega) ?_
          have r85 : 0 ≤ (m83 a0 7) ∧ (m83 a0 7) ≤ 700 := zi_rd hIm83 hc0 zb_28_7
          have r86 : 0 ≤ (m83 a0 8) ∧ (m83 a0 8) ≤ 6 := zi_rd hIm83 hc0 zb_28_8
          have e87 : (m83 a0 8) = (m9 a0 8) := (Eq.trans (zs_ne hmm83 (Or.inr (by decide))) (zs_ne hmm81 (Or.inr (by decide))))
          exact zw_some ⟨hIm83, hFm83, hRNSm83, hRWDm83, ⟨by omega, by omega⟩, by omega, by omega⟩
    · refine zw_bd (zw_eq (zr_85_0 n a0 4 m0) ?_)
      generalize hmm88 : zu_up m0 a0 4 4 = m88
      have hIm88 := zi_up hmm88 hIm0 hc0 zb_28_4 (by omega) (by omega)
      have hFm88 := zfr_up hmm88 hFm0 hc0 rfl
      have hRNSm88 := zR_NS_fr (zdis_fr (zfr_up hmm88 (zfr_rf [(28, 5)] _) hc0 rfl) rfl) hRNSm0
      have hRWDm88 := zR_WD_fr (zdis_fr (zfr_up hmm88 (zfr_rf [(28, 5)] _) hc0 rfl) rfl) hRWDm0
      have r89 : 0 ≤ (m88 a0 10) ∧ (m88 a0 10) ≤ 700 := zi_rd hIm88 hc0 zb_28_10
      generalize hmm90 : zu_up m88 a0 5 (m88 a0 10) = m90
      have hIm90 := zi_up hmm90 hIm88 hc0 zb_28_5 (by omega) (by omega)
      have hFm90 := zfr_up hmm90 hFm88 hc0 rfl
      have hRNSm90 := zR_NS_fr (zdis_fr (zfr_up hmm90 (zfr_rf [(28, 6)] _) hc0 rfl) rfl) hRNSm88
      have hRWDm90 := zR_WD_fr (zdis_fr (zfr_up hmm90 (zfr_rf [(28, 6)] _) hc0 rfl) rfl) hRWDm88
      refine zw_b (by omega) ?_
      refine zw_some ?_
      refine zw_b (by omega) ?_
      have r91 : 0 ≤ (m90 a0 7) ∧ (m90 a0 7) ≤ 700 := zi_rd hIm90 hc0 zb_28_7
      have r92 : 0 ≤ (m90 a0 8) ∧ (m90 a0 8) ≤ 6 := zi_rd hIm90 hc0 zb_28_8
      exact zw_some ⟨hIm90, hFm90, hRNSm90, hRWDm90, ⟨by omega, by omega⟩, by omega, by omega⟩
  · refine zw_bd (zw_eq (zr_85_0 n a0 3 m0) ?_)
    generalize hmm93 : zu_up m0 a0 4 3 = m93
    have hIm93 := zi_up hmm93 hIm0 hc0 zb_28_4 (by omega) (by omega)
    have hFm93 := zfr_up hmm93 hFm0 hc0 rfl
    have hRNSm93 := zR_NS_fr (zdis_fr (zfr_up hmm93 (zfr_rf [(28, 5)] _) hc0 rfl) rfl) hRNSm0
    have hRWDm93 := zR_WD_fr (zdis_fr (zfr_up hmm93 (zfr_rf [(28, 5)] _) hc0 rfl) rfl) hRWDm0
    have r94 : 0 ≤ (m93 a0 10) ∧ (m93 a0 10) ≤ 700 := zi_rd hIm93 hc0 zb_28_10
    generalize hmm95 : zu_up m93 a0 5 (m93 a0 10) = m95
    have hIm95 := zi_up hmm95 hIm93 hc0 zb_28_5 (by omega) (by omega)
    have hFm95 := zfr_up hmm95 hFm93 hc0 rfl
    have hRNSm95 := zR_NS_fr (zdis_fr (zfr_up hmm95 (zfr_rf [(28, 6)] _) hc0 rfl) rfl) hRNSm93
    have hRWDm95 := zR_WD_fr (zdis_fr (zfr_up hmm95 (zfr_rf [(28, 6)] _) hc0 rfl) rfl) hRWDm93
    refine zw_b (by omega) ?_
    refine zw_some ?_
    refine zw_b (by omega) ?_
    have r96 : 0 ≤ (m95 a0 7) ∧ (m95 a0 7) ≤ 700 := zi_rd hIm95 hc0 zb_28_7
    have r97 : 0 ≤ (m95 a0 8) ∧ (m95 a0 8) ≤ 6 := zi_rd hIm95 hc0 zb_28_8
    exact zw_some ⟨hIm95, hFm95, hRNSm95, hRWDm95, ⟨by omega, by omega⟩, by omega, by omega⟩
set_option maxHeartbeats 4000000 in
theorem zk_104 (n : Nat) {a0 : Int} {m0 : zu_m} (hIm0 : zi_I m0) (hc0 : zcls a0 = 28)   (he0 : 6 ≤ m0 a0 9 ∧ m0 a0 9 ≤ 10)  (hRNSm0 : zR_NS m0) (hRWDm0 : zR_WD m0) : zw (zu_call (zt_T n) 104 [(40, a0)] m0) (fun v m => zi_I m ∧ zfr [(28, 5), (28, 6), (28, 8), (28, 9), (28, 10), (28, 11), (28, 12), (102, 0), (103, 0)] m0 m ∧ zR_NS m ∧ zR_WD m ∧ (0 ≤ v ∧ v ≤ 1) ∧ ((m0 a0 7) ≤ (m a0 7)) ∧ (v = 1 → ((m a0 8) = 0 ∨ (m0 a0 7) < (m a0 7)))) := by
  have hFm0 : zfr [(28, 5), (28, 6), (28, 8), (28, 9), (28, 10), (28, 11), (28, 12), (102, 0), (103, 0)] m0 m0 := zfr_rf _ _
  have s1 := hRNSm0 a0 hc0
  refine zw_eq (zr_104_0 n a0 m0) ?_
  refine zw_ite (fun h2 => ?_) (fun h2 => ?_)
  · refine zw_bd (zw_eq (zr_98_0 n a0 1 m0) ?_)
    have b3 : 0 ≤ (1 : Int) ∧ (1 : Int) < 6 := by omega
    refine zw_if b3 ?_
    have r4 : 0 ≤ (m0 193 1) ∧ (m0 193 1) ≤ 1 := zi_rd hIm0 zq_193 (zb_102 _)
    refine zw_ite (fun h5 => ?_) (fun h5 => ?_)
    · refine zw_b (by omega) ?_
      have b6 : 0 ≤ (1 : Int) ∧ (1 : Int) < 6 := by omega
      refine zw_if b6 ?_
      generalize hmm7 : zu_up m0 193 1 1 = m7
      have hIm7 := zi_up hmm7 hIm0 zq_193 (zb_102 _) (by omega) (by omega)
      have hFm7 := zfr_up hmm7 hFm0 zq_193 rfl
      have hRNSm7 := zR_NS_fr (zdis_fr (zfr_up hmm7 (zfr_rf [(102, 0)] _) zq_193 rfl) rfl) hRNSm0
      have hRWDm7 := zR_WD_fr (zdis_fr (zfr_up hmm7 (zfr_rf [(102, 0)] _) zq_193 rfl) rfl) hRWDm0
      refine zw_bd (zw_mono (zk_89 n hIm7 hc0 hRNSm7 hRWDm7) (fun v9 m8 hqm8 => ?_))
      obtain ⟨hIm8, hfm8, hvm8⟩ := hqm8
      have hFm8 := zfr_tr hFm7 hfm8 rfl
      obtain ⟨hRNSm8, hRWDm8, hvm8⟩ := hvm8
      have s10 := hRNSm8 a0 hc0
      refine zw_b (by omega) ?_
      refine zw_some ?_
      refine zw_ite (fun h11 => ?_) (fun h11 => ?_)
      · exfalso; omega
      · refine zw_bd (zw_eq (zr_97_0 n a0 16 18 m8) ?_)
        have r12 : 0 ≤ (m8 a0 8) ∧ (m8 a0 8) ≤ 6 := zi_rd hIm8 hc0 zb_28_8
        refine zw_ite (fun h13 => ?_) (fun h13 => ?_)
        · refine zw_bd (zw_eq (zr_85_0 n a0 1 m8) ?_)
          generalize hmm14 : zu_up m8 a0 4 1 = m14
          have hIm14 := zi_up hmm14 hIm8 hc0 zb_28_4 (by omega) (by omega)
          have hFm14 := zfr_up hmm14 hFm8 hc0 rfl
          have hRNSm14 := zR_NS_fr (zdis_fr (zfr_up hmm14 (zfr_rf [(28, 5)] _) hc0 rfl) rfl) hRNSm8
          have hRWDm14 := zR_WD_fr (zdis_fr (zfr_up hmm14 (zfr_rf [(28, 5)] _) hc0 rfl) rfl) hRWDm8
          have r15 : 0 ≤ (m14 a0 10) ∧ (m14 a0 10) ≤ 700 := zi_rd hIm14 hc0 zb_28_10
          generalize hmm16 : zu_up m14 a0 5 (m14 a0 10) = m16
          have hIm16 := zi_up hmm16 hIm14 hc0 zb_28_5 (by omega) (by omega)
          have hFm16 := zfr_up hmm16 hFm14 hc0 rfl
          have hRNSm16 := zR_NS_fr (zdis_fr (zfr_up hmm16 (zfr_rf [(28, 6)] _) hc0 rfl) rfl) hRNSm14
          have hRWDm16 := zR_WD_fr (zdis_fr (zfr_up hmm16 (zfr_rf [(28, 6)] _) hc0 rfl) rfl) hRWDm14
          refine zw_b (by omega) ?_
          refine zw_some ?_
          refine zw_b (by omega) ?_
          refine zw_some ?_
          refine zw_ite (fun h17 => ?_) (fun h17 => ?_)
          · exfalso; omega
          · refine zw_b (by omega) ?_
            have r18 : 0 ≤ (m16 a0 7) ∧ (m16 a0 7) ≤ 700 := zi_rd hIm16 hc0 zb_28_7
            have r19 : 0 ≤ (m16 a0 8) ∧ (m16 a0 8) ≤ 6 := zi_rd hIm16 hc0 zb_28_8
            have e20 : (m16 a0 8) = (m8 a0 8) := (Eq.trans (zs_ne hmm16 (Or.inr (by decide))) (zs_ne hmm14 (Or.inr (by decide))))
            exact zw_some ⟨hIm16, hFm16, hRNSm16, hRWDm16, ⟨by omega, by omega⟩, by omega, by omega⟩
        · have r21 : (-2147483648) ≤ (m8 a0 9) ∧ (m8 a0 9) ≤ 2147483647 := zi_rd hIm8 hc0 zb_28_9
          refine zw_ite (fun h22 => ?_) (fun h22 => ?_)
          · refine zw_bd (zw_eq (zr_85_0 n a0 1 m8) ?_)
            generalize hmm23 : zu_up m8 a0 4 1 = m23
            have hIm23 := zi_up hmm23 hIm8 hc0 zb_28_4 (by omega) (by omega)
            have hFm23 := zfr_up hmm23 hFm8 hc0 rfl
            have hRNSm23 := zR_NS_fr (zdis_fr (zfr_up hmm23 (zfr_rf [(28, 5)] _) hc0 rfl) rfl) hRNSm8
            have hRWDm23 := zR_WD_fr (zdis_fr (zfr_up hmm23 (zfr_rf [(28, 5)] _) hc0 rfl) rfl) hRWDm8
            have r24 : 0 ≤ (m23 a0 10) ∧ (m23 a0 10) ≤ 700 := zi_rd hIm23 hc0 zb_28_10
            generalize hmm25 : zu_up m23 a0 5 (m23 a0 10) = m25
            have hIm25 := zi_up hmm25 hIm23 hc0 zb_28_5 (by omega) (by omega)
            have hFm25 := zfr_up hmm25 hFm23 hc0 rfl
            have hRNSm25 := zR_NS_fr (zdis_fr (zfr_up hmm25 (zfr_rf [(28, 6)] _) hc0 rfl) rfl) hRNSm23
            have hRWDm25 := zR_WD_fr (zdis_fr (zfr_up hmm25 (zfr_rf [(28, 6)] _) hc0 rfl) rfl) hRWDm23
            refine zw_b (by omega) ?_
            refine zw_some ?_
            refine zw_b (by omega) ?_
            refine zw_some ?_
            refine zw_ite (fun h26 => ?_) (fun h26 => ?_)
            · exfalso; omega
            · refine zw_b (by omega) ?_
              have r27 : 0 ≤ (m25 a0 7) ∧ (m25 a0 7) ≤ 700 := zi_rd hIm25 hc0 zb_28_7
              have r28 : 0 ≤ (m25 a0 8) ∧ (m25 a0 8) ≤ 6 := zi_rd hIm25 hc0 zb_28_8
              have e29 : (m25 a0 8) = (m8 a0 8) := (Eq.trans (zs_ne hmm25 (Or.inr (by decide))) (zs_ne hmm23 (Or.inr (by decide))))
              exact zw_some ⟨hIm25, hFm25, hRNSm25, hRWDm25, ⟨by omega, by omega⟩, by omega, by omega⟩
          · refine zw_ite (fun h30 => ?_) (fun h30 => ?_)
            · have w31 := zu_w32_id (z := (m8 a0 9) - 16) (by omega) (by omega)
              refine zw_bd (zw_mono (zk_89 n hIm8 hc0 hRNSm8 hRWDm8) (fun v33 m32 hqm32 => ?_))
              obtain ⟨hIm32, hfm32, hvm32⟩ := hqm32
              have hFm32 := zfr_tr hFm8 hfm32 rfl
              obtain ⟨hRNSm32, hRWDm32, hvm32⟩ := hvm32
              have s34 := hRNSm32 a0 hc0
              generalize hmm35 : zu_up m32 a0 11 (zu_w32 ((m8 a0 9) - 16)) = m35
              have hIm35 := zi_up hmm35 hIm32 hc0 zb_28_11 (by omega) (by omega)
              have hFm35 := zfr_up hmm35 hFm32 hc0 rfl
              have hRNSm35 := zR_NS_fr (zdis_fr (zfr_up hmm35 (zfr_rf [(28, 12)] _) hc0 rfl) rfl) hRNSm32
              have hRWDm35 := zR_WD_fr (zdis_fr (zfr_up hmm35 (zfr_rf [(28, 12)] _) hc0 rfl) rfl) hRWDm32
              refine zw_b (by omega) ?_
              refine zw_some ?_
              refine zw_ite (fun h36 => ?_) (fun h36 => ?_)
              · have r37 : (-2147483648) ≤ (m35 a0 11) ∧ (m35 a0 11) ≤ 2147483647 := zi_rd hIm35 hc0 zb_28_11
                have e38 : (m35 a0 11) = (zu_w32 ((m8 a0 9) - 16)) := (zs_eq hmm35)
                have b39 : 0 ≤ (5 : Int) ∧ (5 : Int) < 10 := by omega
                refine zw_if b39 ?_
                generalize hmm40 : zu_up m35 194 5 (m35 a0 11) = m40
                have hIm40 := zi_up hmm40 hIm35 zq_194 (zb_103 _) (by omega) (by omega)
                have hFm40 := zfr_up hmm40 hFm35 zq_194 rfl
                have hRNSm40 := zR_NS_fr (zdis_fr (zfr_up hmm40 (zfr_rf [(103, 0)] _) zq_194 rfl) rfl) hRNSm35
                have hRWDm40 := zR_WD_fr (zdis_fr (zfr_up hmm40 (zfr_rf [(103, 0)] _) zq_194 rfl) rfl) hRWDm35
                refine zw_b (by omega) ?_
                have r41 : 0 ≤ (m40 a0 7) ∧ (m40 a0 7) ≤ 700 := zi_rd hIm40 hc0 zb_28_7
                have r42 : 0 ≤ (m40 a0 8) ∧ (m40 a0 8) ≤ 6 := zi_rd hIm40 hc0 zb_28_8
                exact zw_some ⟨hIm40, hFm40, hRNSm40, hRWDm40, ⟨by omega, by omega⟩, by omega, by omega⟩
              · exfalso; omega
            · refine zw_bd (zw_eq (zr_85_0 n a0 1 m8) ?_)
              generalize hmm43 : zu_up m8 a0 4 1 = m43
              have hIm43 := zi_up hmm43 hIm8 hc0 zb_28_4 (by omega) (by omega)
              have hFm43 := zfr_up hmm43 hFm8 hc0 rfl
              have hRNSm43 := zR_NS_fr (zdis_fr (zfr_up hmm43 (zfr_rf [(28, 5)] _) hc0 rfl) rfl) hRNSm8
              have hRWDm43 := zR_WD_fr (zdis_fr (zfr_up hmm43 (zfr_rf [(28, 5)] _) hc0 rfl) rfl) hRWDm8
              have r44 : 0 ≤ (m43 a0 10) ∧ (m43 a0 10) ≤ 700 := zi_rd hIm43 hc0 zb_28_10
              generalize hmm45 : zu_up m43 a0 5 (m43 a0 10) = m45
              have hIm45 := zi_up hmm45 hIm43 hc0 zb_28_5 (by omega) (by omega)
              have hFm45 := zfr_up hmm45 hFm43 hc0 rfl
              have hRNSm45 := zR_NS_fr (zdis_fr (zfr_up hmm45 (zfr_rf [(28, 6)] _) hc0 rfl) rfl) hRNSm43
              have hRWDm45 := zR_WD_fr (zdis_fr (zfr_up hmm45 (zfr_rf [(28, 6)] _) hc0 rfl) rfl) hRWDm43
              refine zw_b (by omega) ?_
              refine zw_some ?_
              refine zw_b (by omega) ?_
              refine zw_some ?_
              refine zw_ite (fun h46 => ?_) (fun h46 => ?_)
              · exfalso; omega
              · refine zw_b (by omega) ?_
                have r47 : 0 ≤ (m45 a0 7) ∧ (m45 a0 7) ≤ 700 := zi_rd hIm45 hc0 zb_28_7
                have r48 : 0 ≤ (m45 a0 8) ∧ (m45 a0 8) ≤ 6 := zi_rd hIm45 hc0 zb_28_8
                have e49 : (m45 a0 8) = (m8 a0 8) := (Eq.trans (zs_ne hmm45 (Or.inr (by decide))) (zs_ne hmm43 (Or.inr (by decide))))
                exact zw_some ⟨hIm45, hFm45, hRNSm45, hRWDm45, ⟨by omega, by omega⟩, by omega, by omega⟩
    · refine zw_bd (zw_eq (zr_85_0 n a0 3 m0) ?_)
      generalize hmm50 : zu_up m0 a0 4 3 = m50
      have hIm50 := zi_up hmm50 hIm0 hc0 zb_28_4 (by omega) (by omega)
      have hFm50 := zfr_up hmm50 hFm0 hc0 rfl
      have hRNSm50 := zR_NS_fr (zdis_fr (zfr_up hmm50 (zfr_rf [(28, 5)] _) hc0 rfl) rfl) hRNSm0
      have hRWDm50 := zR_WD_fr (zdis_fr (zfr_up hmm50 (zfr_rf [(28, 5)] _) hc0 rfl) rfl) hRWDm0
      have r51 : 0 ≤ (m50 a0 10) ∧ (m50 a0 10) ≤ 700 := zi_rd hIm50 hc0 zb_28_10
      generalize hmm52 : zu_up m50 a0 5 (m50 a0 10) = m52
      have hIm52 := zi_up hmm52 hIm50 hc0 zb_28_5 (by omega) (by omega)
      have hFm52 := zfr_up hmm52 hFm50 hc0 rfl
      have hRNSm52 := zR_NS_fr (zdis_fr (zfr_up hmm52 (zfr_rf [(28, 6)] _) hc0 rfl) rfl) hRNSm50
      have hRWDm52 := zR_WD_fr (zdis_fr (zfr_up hmm52 (zfr_rf [(28, 6)] _) hc0 rfl) rfl) hRWDm50
      refine zw_b (by omega) ?_
      refine zw_some ?_
      refine zw_b (by omega) ?_
      refine zw_some ?_
      refine zw_ite (fun h53 => ?_) (fun h53 => ?_)
      · refine zw_b (by omega) ?_
        have r54 : 0 ≤ (m52 a0 7) ∧ (m52 a0 7) ≤ 700 := zi_rd hIm52 hc0 zb_28_7
        have r55 : 0 ≤ (m52 a0 8) ∧ (m52 a0 8) ≤ 6 := zi_rd hIm52 hc0 zb_28_8
        exact zw_some ⟨hIm52, hFm52, hRNSm52, hRWDm52, ⟨by omega, by omega⟩, by omega, by omega⟩
      · exfalso; omega
  · refine zw_ite (fun h56 => ?_) (fun h56 => ?_)
    · refine zw_bd (zw_eq (zr_98_0 n a0 2 m0) ?_)
      have b57 : 0 ≤ (2 : Int) ∧ (2 : Int) < 6 := by omega
      refine zw_if b57 ?_
      have r58 : 0 ≤ (m0 193 2) ∧ (m0 193 2) ≤ 1 := zi_rd hIm0 zq_193 (zb_102 _)
      refine zw_ite (fun h59 => ?_) (fun h59 => ?_)
      · refine zw_b (by omega) ?_
        have b60 : 0 ≤ (2 : Int) ∧ (2 : Int) < 6 := by omega
        refine zw_if b60 ?_
        generalize hmm61 : zu_up m0 193 2 1 = m61
        have hIm61 := zi_up hmm61 hIm0 zq_193 (zb_102 _) (by omega) (by omega)
        have hFm61 := zfr_up hmm61 hFm0 zq_193 rfl
        have hRNSm61 := zR_NS_fr (zdis_fr (zfr_up hmm61 (zfr_rf [(102, 0)] _) zq_193 rfl) rfl) hRNSm0
        have hRWDm61 := zR_WD_fr (zdis_fr (zfr_up hmm61 (zfr_rf [(102, 0)] _) zq_193 rfl) rfl) hRWDm0
        refine zw_bd (zw_mono (zk_89 n hIm61 hc0 hRNSm61 hRWDm61) (fun v63 m62 hqm62 => ?_))
        obtain ⟨hIm62, hfm62, hvm62⟩ := hqm62
        have hFm62 := zfr_tr hFm61 hfm62 rfl
        obtain ⟨hRNSm62, hRWDm62, hvm62⟩ := hvm62
        have s64 := hRNSm62 a0 hc0
        refine zw_b (by omega) ?_
        refine zw_some ?_
        refine zw_ite (fun h65 => ?_) (fun h65 => ?_)
        · exfalso; omega
        · refine zw_bd (zw_eq (zr_94_0 n a0 0 6 m62) ?_)
          have r66 : 0 ≤ (m62 a0 8) ∧ (m62 a0 8) ≤ 6 := zi_rd hIm62 hc0 zb_28_8
          refine zw_ite (fun h67 => ?_) (fun h67 => ?_)
          · have r68 : (-2147483648) ≤ (m62 a0 9) ∧ (m62 a0 9) ≤ 2147483647 := zi_rd hIm62 hc0 zb_28_9
            refine zw_bd (zw_eq (zr_83_0 n (m62 a0 9) 0 6 m62) ?_)
            refine zw_ite (fun h69 => ?_) (fun h69 => ?_)
            · refine zw_b (by omega) ?_
              refine zw_some ?_
              refine zw_ite (fun h70 => ?_) (fun h70 => ?_)
              · exfalso; omega
              · refine zw_bd (zw_eq (zr_85_0 n a0 2 m62) ?_)
                generalize hmm71 : zu_up m62 a0 4 2 = m71
                have hIm71 := zi_up hmm71 hIm62 hc0 zb_28_4 (by omega) (by omega)
                have hFm71 := zfr_up hmm71 hFm62 hc0 rfl
                have hRNSm71 := zR_NS_fr (zdis_fr (zfr_up hmm71 (zfr_rf [(28, 5)] _) hc0 rfl) rfl) hRNSm62
                have hRWDm71 := zR_WD_fr (zdis_fr (zfr_up hmm71 (zfr_rf [(28, 5)] _) hc0 rfl) rfl) hRWDm62
                have r72 : 0 ≤ (m71 a0 10) ∧ (m71 a0 10) ≤ 700 := zi_rd hIm71 hc0 zb_28_10
                generalize hmm73 : zu_up m71 a0 5 (m71 a0 10) = m73
                have hIm73 := zi_up hmm73 hIm71 hc0 zb_28_5 (by omega) (by omega)
                have hFm73 := zfr_up hmm73 hFm71 hc0 rfl
                have hRNSm73 := zR_NS_fr (zdis_fr (zfr_up hmm73 (zfr_rf [(28, 6)] _) hc0 rfl) rfl) hRNSm71
                have hRWDm73 := zR_WD_fr (zdis_fr (zfr_up hmm73 (zfr_rf [(28, 6)] _) hc0 rfl) rfl) hRWDm71
                refine zw_b (by omega) ?_
                refine zw_some ?_
                refine zw_b (by omega) ?_
                refine zw_some ?_
                refine zw_ite (fun h74 => ?_) (fun h74 => ?_)
                · exfalso; omega
                · refine zw_b (by omega) ?_
                  have r75 : 0 ≤ (m73 a0 7) ∧ (m73 a0 7) ≤ 700 := zi_rd hIm73 hc0 zb_28_7
                  have r76 : 0 ≤ (m73 a0 8) ∧ (m73 a0 8) ≤ 6 := zi_rd hIm73 hc0 zb_28_8
                  have e77 : (m73 a0 8) = (m62 a0 8) := (Eq.trans (zs_ne hmm73 (Or.inr (by decide))) (zs_ne hmm71 (Or.inr (by decide))))
                  exact zw_some ⟨hIm73, hFm73, hRNSm73, hRWDm73, ⟨by omega, by omega⟩, by omega, by omega⟩
            · refine zw_ite (fun h78 => ?_) (fun h78 => ?_)
              · refine zw_b (by omega) ?_
                refine zw_some ?_
                refine zw_ite (fun h79 => ?_) (fun h79 => ?_)
                · exfalso; omega
                · refine zw_bd (zw_eq (zr_85_0 n a0 2 m62) ?_)
                  generalize hmm80 : zu_up m62 a0 4 2 = m80
                  have hIm80 := zi_up hmm80 hIm62 hc0 zb_28_4 (by omega) (by omega)
                  have hFm80 := zfr_up hmm80 hFm62 hc0 rfl
                  have hRNSm80 := zR_NS_fr (zdis_fr (zfr_up hmm80 (zfr_rf [(28, 5)] _) hc0 rfl) rfl) hRNSm62
                  have hRWDm80 := zR_WD_fr (zdis_fr (zfr_up hmm80 (zfr_rf [(28, 5)] _) hc0 rfl) rfl) hRWDm62
                  have r81 : 0 ≤ (m80 a0 10) ∧ (m80 a0 10) ≤ 700 := zi_rd hIm80 hc0 zb_28_10
                  generalize hmm82 : zu_up m80 a0 5 (m80 a0 10) = m82
                  have hIm82 := zi_up hmm82 hIm80 hc0 zb_28_5 (by omega) (by omega)
                  have hFm82 := zfr_up hmm82 hFm80 hc0 rfl
                  have hRNSm82 := zR_NS_fr (zdis_fr (zfr_up hmm82 (zfr_rf [(28, 6)] _) hc0 rfl) rfl) hRNSm80
                  have hRWDm82 := zR_WD_fr (zdis_fr (zfr_up hmm82 (zfr_rf [(28, 6)] _) hc0 rfl) rfl) hRWDm80
                  refine zw_b (by omega) ?_
                  refine zw_some ?_
                  refine zw_b (by omega) ?_
                  refine zw_some ?_
                  refine zw_ite (fun h83 => ?_) (fun h83 => ?_)
                  · exfalso; omega
                  · refine zw_b (by omega) ?_
                    have r84 : 0 ≤ (m82 a0 7) ∧ (m82 a0 7) ≤ 700 := zi_rd hIm82 hc0 zb_28_7
                    have r85 : 0 ≤ (m82 a0 8) ∧ (m82 a0 8) ≤ 6 := zi_rd hIm82 hc0 zb_28_8
                    have e86 : (m82 a0 8) = (m62 a0 8) := (Eq.trans (zs_ne hmm82 (Or.inr (by decide))) (zs_ne hmm80 (Or.inr (by decide))))
                    exact zw_some ⟨hIm82, hFm82, hRNSm82, hRWDm82, ⟨by omega, by omega⟩, by omega, by omega⟩
              · refine zw_b (by omega) ?_
                refine zw_some ?_
                refine zw_ite (fun h87 => ?_) (fun h87 => ?_)
                · generalize hmm88 : zu_up m62 a0 11 (m62 a0 9) = m88
                  have hIm88 := zi_up hmm88 hIm62 hc0 zb_28_11 (by omega) (by omega)
                  have hFm88 := zfr_up hmm88 hFm62 hc0 rfl
                  have hRNSm88 := zR_NS_fr (zdis_fr (zfr_up hmm88 (zfr_rf [(28, 12)] _) hc0 rfl) rfl) hRNSm62
                  have hRWDm88 := zR_WD_fr (zdis_fr (zfr_up hmm88 (zfr_rf [(28, 12)] _) hc0 rfl) rfl) hRWDm62
                  refine zw_bd (zw_mono (zk_89 n hIm88 hc0 hRNSm88 hRWDm88) (fun v90 m89 hqm89 => ?_))
                  obtain ⟨hIm89, hfm89, hvm89⟩ := hqm89
                  have hFm89 := zfr_tr hFm88 hfm89 rfl
                  obtain ⟨hRNSm89, hRWDm89, hvm89⟩ := hvm89
                  have s91 := hRNSm89 a0 hc0
                  refine zw_b (by omega) ?_
                  refine zw_some ?_
                  refine zw_ite (fun h92 => ?_) (fun h92 => ?_)
                  · have r93 : (-2147483648) ≤ (m89 a0 11) ∧ (m89 a0 11) ≤ 2147483647 := zi_rd hIm89 hc0 zb_28_11
                    have e94 : (m89 a0 11) = (m62 a0 9) := (Eq.trans (zfr_ap hfm89 hc0 rfl) (zs_eq hmm88))
                    have b95 : 0 ≤ (6 : Int) ∧ (6 : Int) < 10 := by omega
                    refine zw_if b95 ?_
                    generalize hmm96 : zu_up m89 194 6 (m89 a0 11) = m96
                    have hIm96 := zi_up hmm96 hIm89 zq_194 (zb_103 _) (by omega) (by omega)
                    have hFm96 := zfr_up hmm96 hFm89 zq_194 rfl
                    have hRNSm96 := zR_NS_fr (zdis_fr (zfr_up hmm96 (zfr_rf [(103, 0)] _) zq_194 rfl) rfl) hRNSm89
                    have hRWDm96 := zR_WD_fr (zdis_fr (zfr_up hmm96 (zfr_rf [(103, 0)] _) zq_194 rfl) rfl) hRWDm89
                    refine zw_b (by omega) ?_
                    have r97 : 0 ≤ (m96 a0 7) ∧ (m96 a0 7) ≤ 700 := zi_rd hIm96 hc0 zb_28_7
                    have r98 : 0 ≤ (m96 a0 8) ∧ (m96 a0 8) ≤ 6 := zi_rd hIm96 hc0 zb_28_8
                    exact zw_some ⟨hIm96, hFm96, hRNSm96, hRWDm96, ⟨by omega, by omega⟩, by omega, by omega⟩
                  · exfalso; omega
                · exfalso; omega
          · refine zw_bd (zw_eq (zr_85_0 n a0 1 m62) ?_)
            generalize hmm99 : zu_up m62 a0 4 1 = m99
            have hIm99 := zi_up hmm99 hIm62 hc0 zb_28_4 (by omega) (by omega)
            have hFm99 := zfr_up hmm99 hFm62 hc0 rfl
            have hRNSm99 := zR_NS_fr (zdis_fr (zfr_up hmm99 (zfr_rf [(28, 5)] _) hc0 rfl) rfl) hRNSm62
            have hRWDm99 := zR_WD_fr (zdis_fr (zfr_up hmm99 (zfr_rf [(28, 5)] _) hc0 rfl) rfl) hRWDm62
            have r100 : 0 ≤ (m99 a0 10) ∧ (m99 a0 10) ≤ 700 := zi_rd hIm99 hc0 zb_28_10
            generalize hmm101 : zu_up m99 a0 5 (m99 a0 10) = m101
            have hIm101 := zi_up hmm101 hIm99 hc0 zb_28_5 (by omega) (by omega)
            have hFm101 := zfr_up hmm101 hFm99 hc0 rfl
            have hRNSm101 := zR_NS_fr (zdis_fr (zfr_up hmm101 (zfr_rf [(28, 6)] _) hc0 rfl) rfl) hRNSm99
            have hRWDm101 := zR_WD_fr (zdis_fr (zfr_up hmm101 (zfr_rf [(28, 6)] _) hc0 rfl) rfl) hRWDm99
            refine zw_b (by omega) ?_
            refine zw_some ?_
            refine zw_b (by omega) ?_
            refine zw_some ?_
            refine zw_ite (fun h102 => ?_) (fun h102 => ?_)
            · exfalso; omega
            · refine zw_b (by omega) ?_
              have r103 : 0 ≤ (m101 a0 7) ∧ (m101 a0 7) ≤ 700 := zi_rd hIm101 hc0 zb_28_7
              have r104 : 0 ≤ (m101 a0 8) ∧ (m101 a0 8) ≤ 6 := zi_rd hIm101 hc0 zb_28_8
              have e105 : (m101 a0 8) = (m62 a0 8) := (Eq.trans (zs_ne hmm101 (Or.inr (by decide))) (zs_ne hmm99 (Or.inr (by decide))))
              exact zw_some ⟨hIm101, hFm101, hRNSm101, hRWDm101, ⟨by omega, by omega⟩, by omega, by omega⟩
      · refine zw_bd (zw_eq (zr_85_0 n a0 3 m0) ?_)
        generalize hmm106 : zu_up m0 a0 4 3 = m106
        have hIm106 := zi_up hmm106 hIm0 hc0 zb_28_4 (by omega) (by omega)
        have hFm106 := zfr_up hmm106 hFm0 hc0 rfl
        have hRNSm106 := zR_NS_fr (zdis_fr (zfr_up hmm106 (zfr_rf [(28, 5)] _) hc0 rfl) rfl) hRNSm0
        have hRWDm106 := zR_WD_fr (zdis_fr (zfr_up hmm106 (zfr_rf [(28, 5)] _) hc0 rfl) rfl) hRWDm0
        have r107 : 0 ≤ (m106 a0 10) ∧ (m106 a0 10) ≤ 700 := zi_rd hIm106 hc0 zb_28_10
        generalize hmm108 : zu_up m106 a0 5 (m106 a0 10) = m108
        have hIm108 := zi_up hmm108 hIm106 hc0 zb_28_5 (by omega) (by omega)
        have hFm108 := zfr_up hmm108 hFm106 hc0 rfl
        have hRNSm108 := zR_NS_fr (zdis_fr (zfr_up hmm108 (zfr_rf [(28, 6)] _) hc0 rfl) rfl) hRNSm106
        have hRWDm108 := zR_WD_fr (zdis_fr (zfr_up hmm108 (zfr_rf [(28, 6)] _) hc0 rfl) rfl) hRWDm106
        refine zw_b (by omega) ?_
        refine zw_some ?_
        refine zw_b (by omega) ?_
        refine zw_some ?_
        refine zw_ite (fun h109 => ?_) (fun h109 => ?_)
        · refine zw_b (by omega) ?_
          have r110 : 0 ≤ (m108 a0 7) ∧ (m108 a0 7) ≤ 700 := zi_rd hIm108 hc0 zb_28_7
          have r111 : 0 ≤ (m108 a0 8) ∧ (m108 a0 8) ≤ 6 := zi_rd hIm108 hc0 zb_28_8
          exact zw_some ⟨hIm108, hFm108, hRNSm108, hRWDm108, ⟨by omega, by omega⟩, by omega, by omega⟩
        · exfalso; omega
    · refine zw_ite (fun h112 => ?_) (fun h112 => ?_)
      · refine zw_bd (zw_eq (zr_98_0 n a0 3 m0) ?_)
        have b113 : 0 ≤ (3 : Int) ∧ (3 : Int) < 6 := by omega
        refine zw_if b113 ?_
        have r114 : 0 ≤ (m0 193 3) ∧ (m0 193 3) ≤ 1 := zi_rd hIm0 zq_193 (zb_102 _)
        refine zw_ite (fun h115 => ?_) (fun h115 => ?_)
        · refine zw_b (by omega) ?_
          have b116 : 0 ≤ (3 : Int) ∧ (3 : Int) < 6 := by omega
          refine zw_if b116 ?_
          generalize hmm117 : zu_up m0 193 3 1 = m117
          have hIm117 := zi_up hmm117 hIm0 zq_193 (zb_102 _) (by omega) (by omega)
          have hFm117 := zfr_up hmm117 hFm0 zq_193 rfl
          have hRNSm117 := zR_NS_fr (zdis_fr (zfr_up hmm117 (zfr_rf [(102, 0)] _) zq_193 rfl) rfl) hRNSm0
          have hRWDm117 := zR_WD_fr (zdis_fr (zfr_up hmm117 (zfr_rf [(102, 0)] _) zq_193 rfl) rfl) hRWDm0
          refine zw_bd (zw_mono (zk_89 n hIm117 hc0 hRNSm117 hRWDm117) (fun v119 m118 hqm118 => ?_))
          obtain ⟨hIm118, hfm118, hvm118⟩ := hqm118
          have hFm118 := zfr_tr hFm117 hfm118 rfl
          obtain ⟨hRNSm118, hRWDm118, hvm118⟩ := hvm118
          have s120 := hRNSm118 a0 hc0
          refine zw_b (by omega) ?_
          refine zw_some ?_
          refine zw_ite (fun h121 => ?_) (fun h121 => ?_)
          · exfalso; omega
          · refine zw_bd (zw_eq (zr_94_0 n a0 1 99 m118) ?_)
            have r122 : 0 ≤ (m118 a0 8) ∧ (m118 a0 8) ≤ 6 := zi_rd hIm118 hc0 zb_28_8
            refine zw_ite (fun h123 => ?_) (fun h123 => ?_)
            · have r124 : (-2147483648) ≤ (m118 a0 9) ∧ (m118 a0 9) ≤ 2147483647 := zi_rd hIm118 hc0 zb_28_9
              refine zw_bd (zw_eq (zr_83_0 n (m118 a0 9) 1 99 m118) ?_)
              refine zw_ite (fun h125 => ?_) (fun h125 => ?_)
              · refine zw_b (by omega) ?_
                refine zw_some ?_
                refine zw_ite (fun h126 => ?_) (fun h126 => ?_)
                · exfalso; omega
                · refine zw_bd (zw_eq (zr_85_0 n a0 2 m118) ?_)
                  generalize hmm127 : zu_up m118 a0 4 2 = m127
                  have hIm127 := zi_up hmm127 hIm118 hc0 zb_28_4 (by omega) (by omega)
                  have hFm127 := zfr_up hmm127 hFm118 hc0 rfl
                  have hRNSm127 := zR_NS_fr (zdis_fr (zfr_up hmm127 (zfr_rf [(28, 5)] _) hc0 rfl) rfl) hRNSm118
                  have hRWDm127 := zR_WD_fr (zdis_fr (zfr_up hmm127 (zfr_rf [(28, 5)] _) hc0 rfl) rfl) hRWDm118
                  have r128 : 0 ≤ (m127 a0 10) ∧ (m127 a0 10) ≤ 700 := zi_rd hIm127 hc0 zb_28_10
                  generalize hmm129 : zu_up m127 a0 5 (m127 a0 10) = m129
                  have hIm129 := zi_up hmm129 hIm127 hc0 zb_28_5 (by omega) (by omega)
                  have hFm129 := zfr_up hmm129 hFm127 hc0 rfl
                  have hRNSm129 := zR_NS_fr (zdis_fr (zfr_up hmm129 (zfr_rf [(28, 6)] _) hc0 rfl) rfl) hRNSm127
                  have hRWDm129 := zR_WD_fr (zdis_fr (zfr_up hmm129 (zfr_rf [(28, 6)] _) hc0 rfl) rfl) hRWDm127
                  refine zw_b (by omega) ?_
                  refine zw_some ?_
                  refine zw_b (by omega) ?_
                  refine zw_some ?_
                  refine zw_ite (fun h130 => ?_) (fun h130 => ?_)
                  · exfalso; omega
                  · refine zw_b (by omega) ?_
                    have r131 : 0 ≤ (m129 a0 7) ∧ (m129 a0 7) ≤ 700 := zi_rd hIm129 hc0 zb_28_7
                    have r132 : 0 ≤ (m129 a0 8) ∧ (m129 a0 8) ≤ 6 := zi_rd hIm129 hc0 zb_28_8
                    have e133 : (m129 a0 8) = (m118 a0 8) := (Eq.trans (zs_ne hmm129 (Or.inr (by decide))) (zs_ne hmm127 (Or.inr (by decide))))
                    exact zw_some ⟨hIm129, hFm129, hRNSm129, hRWDm129, ⟨by omega, by omega⟩, by omega, by omega⟩
              · refine zw_ite (fun h134 => ?_) (fun h134 => ?_)
                · refine zw_b (by omega) ?_
                  refine zw_some ?_
                  refine zw_ite (fun h135 => ?_) (fun h135 => ?_)
                  · exfalso; omega
                  · refine zw_bd (zw_eq (zr_85_0 n a0 2 m118) ?_)
                    generalize hmm136 : zu_up m118 a0 4 2 = m136
                    have hIm136 := zi_up hmm136 hIm118 hc0 zb_28_4 (by omega) (by omega)
                    have hFm136 := zfr_up hmm136 hFm118 hc0 rfl
                    have hRNSm136 := zR_NS_fr (zdis_fr (zfr_up hmm136 (zfr_rf [(28, 5)] _) hc0 rfl) rfl) hRNSm118
                    have hRWDm136 := zR_WD_fr (zdis_fr (zfr_up hmm136 (zfr_rf [(28, 5)] _) hc0 rfl) rfl) hRWDm118
                    have r137 : 0 ≤ (m136 a0 10) ∧ (m136 a0 10) ≤ 700 := zi_rd hIm136 hc0 zb_28_10
                    generalize hmm138 : zu_up m136 a0 5 (m136 a0 10) = m138
                    have hIm138 := zi_up hmm138 hIm136 hc0 zb_28_5 (by omega) (by omega)
                    have hFm138 := zfr_up hmm138 hFm136 hc0 rfl
                    have hRNSm138 := zR_NS_fr (zdis_fr (zfr_up hmm138 (zfr_rf [(28, 6)] _) hc0 rfl) rfl) hRNSm136
                    have hRWDm138 := zR_WD_fr (zdis_fr (zfr_up hmm138 (zfr_rf [(28, 6)] _) hc0 rfl) rfl) hRWDm136
                    refine zw_b (by omega) ?_
                    refine zw_some ?_
                    refine zw_b (by omega) ?_
                    refine zw_some ?_
                    refine zw_ite (fun h139 => ?_) (fun h139 => ?_)
                    · exfalso; omega
                    · refine zw_b (by omega) ?_
                      have r140 : 0 ≤ (m138 a0 7) ∧ (m138 a0 7) ≤ 700 := zi_rd hIm138 hc0 zb_28_7
                      have r141 : 0 ≤ (m138 a0 8) ∧ (m138 a0 8) ≤ 6 := zi_rd hIm138 hc0 zb_28_8
                      have e142 : (m138 a0 8) = (m118 a0 8) := (Eq.trans (zs_ne hmm138 (Or.inr (by decide))) (zs_ne hmm136 (Or.inr (by decide))))
                      exact zw_some ⟨hIm138, hFm138, hRNSm138, hRWDm138, ⟨by omega, by omega⟩, by omega, by omega⟩
                · refine zw_b (by omega) ?_
                  refine zw_some ?_
                  refine zw_ite (fun h143 => ?_) (fun h143 => ?_)
                  · generalize hmm144 : zu_up m118 a0 11 (m118 a0 9) = m144
                    have hIm144 := zi_up hmm144 hIm118 hc0 zb_28_11 (by omega) (by omega)
                    have hFm144 := zfr_up hmm144 hFm118 hc0 rfl
                    have hRNSm144 := zR_NS_fr (zdis_fr (zfr_up hmm144 (zfr_rf [(28, 12)] _) hc0 rfl) rfl) hRNSm118
                    have hRWDm144 := zR_WD_fr (zdis_fr (zfr_up hmm144 (zfr_rf [(28, 12)] _) hc0 rfl) rfl) hRWDm118
                    refine zw_bd (zw_mono (zk_89 n hIm144 hc0 hRNSm144 hRWDm144) (fun v146 m145 hqm145 => ?_))
                    obtain ⟨hIm145, hfm145, hvm145⟩ := hqm145
                    have hFm145 := zfr_tr hFm144 hfm145 rfl
                    obtain ⟨hRNSm145, hRWDm145, hvm145⟩ := hvm145
                    have s147 := hRNSm145 a0 hc0
                    refine zw_b (by omega) ?_
                    refine zw_some ?_
                    refine zw_ite (fun h148 => ?_) (fun h148 => ?_)
                    · have r149 : (-2147483648) ≤ (m145 a0 11) ∧ (m145 a0 11) ≤ 2147483647 := zi_rd hIm145 hc0 zb_28_11
                      have e150 : (m145 a0 11) = (m118 a0 9) := (Eq.trans (zfr_ap hfm145 hc0 rfl) (zs_eq hmm144))
                      have b151 : 0 ≤ (7 : Int) ∧ (7 : Int) < 10 := by omega
                      refine zw_if b151 ?_
                      generalize hmm152 : zu_up m145 194 7 (m145 a0 11) = m152
                      have hIm152 := zi_up hmm152 hIm145 zq_194 (zb_103 _) (by omega) (by omega)
                      have hFm152 := zfr_up hmm152 hFm145 zq_194 rfl
                      have hRNSm152 := zR_NS_fr (zdis_fr (zfr_up hmm152 (zfr_rf [(103, 0)] _) zq_194 rfl) rfl) hRNSm145
                      have hRWDm152 := zR_WD_fr (zdis_fr (zfr_up hmm152 (zfr_rf [(103, 0)] _) zq_194 rfl) rfl) hRWDm145
                      refine zw_b (by omega) ?_
                      have r153 : 0 ≤ (m152 a0 7) ∧ (m152 a0 7) ≤ 700 := zi_rd hIm152 hc0 zb_28_7
                      have r154 : 0 ≤ (m152 a0 8) ∧ (m152 a0 8) ≤ 6 := zi_rd hIm152 hc0 zb_28_8
                      exact zw_some ⟨hIm152, hFm152, hRNSm152, hRWDm152, ⟨by omega, by omega⟩, by omega, by omega⟩
                    · exfalso; omega
                  · exfalso; omega
            · refine zw_bd (zw_eq (zr_85_0 n a0 1 m118) ?_)
              generalize hmm155 : zu_up m118 a0 4 1 = m155
              have hIm155 := zi_up hmm155 hIm118 hc0 zb_28_4 (by omega) (by omega)
              have hFm155 := zfr_up hmm155 hFm118 hc0 rfl
              have hRNSm155 := zR_NS_fr (zdis_fr (zfr_up hmm155 (zfr_rf [(28, 5)] _) hc0 rfl) rfl) hRNSm118
              have hRWDm155 := zR_WD_fr (zdis_fr (zfr_up hmm155 (zfr_rf [(28, 5)] _) hc0 rfl) rfl) hRWDm118
              have r156 : 0 ≤ (m155 a0 10) ∧ (m155 a0 10) ≤ 700 := zi_rd hIm155 hc0 zb_28_10
              generalize hmm157 : zu_up m155 a0 5 (m155 a0 10) = m157
              have hIm157 := zi_up hmm157 hIm155 hc0 zb_28_5 (by omega) (by omega)
              have hFm157 := zfr_up hmm157 hFm155 hc0 rfl
              have hRNSm157 := zR_NS_fr (zdis_fr (zfr_up hmm157 (zfr_rf [(28, 6)] _) hc0 rfl) rfl) hRNSm155
              have hRWDm157 := zR_WD_fr (zdis_fr (zfr_up hmm157 (zfr_rf [(28, 6)] _) hc0 rfl) rfl) hRWDm155
              refine zw_b (by omega) ?_
              refine zw_some ?_
              refine zw_b (by omega) ?_
              refine zw_some ?_
              refine zw_ite (fun h158 => ?_) (fun h158 => ?_)
              · exfalso; omega
              · refine zw_b (by omega) ?_
                have r159 : 0 ≤ (m157 a0 7) ∧ (m157 a0 7) ≤ 700 := zi_rd hIm157 hc0 zb_28_7
                have r160 : 0 ≤ (m157 a0 8) ∧ (m157 a0 8) ≤ 6 := zi_rd hIm157 hc0 zb_28_8
                have e161 : (m157 a0 8) = (m118 a0 8) := (Eq.trans (zs_ne hmm157 (Or.inr (by decide))) (zs_ne hmm155 (Or.inr (by decide))))
                exact zw_some ⟨hIm157, hFm157, hRNSm157, hRWDm157, ⟨by omega, by omega⟩, by omega, by omega⟩
        · refine zw_bd (zw_eq (zr_85_0 n a0 3 m0) ?_)
          generalize hmm162 : zu_up m0 a0 4 3 = m162
          have hIm162 := zi_up hmm162 hIm0 hc0 zb_28_4 (by omega) (by omega)
          have hFm162 := zfr_up hmm162 hFm0 hc0 rfl
          have hRNSm162 := zR_NS_fr (zdis_fr (zfr_up hmm162 (zfr_rf [(28, 5)] _) hc0 rfl) rfl) hRNSm0
          have hRWDm162 := zR_WD_fr (zdis_fr (zfr_up hmm162 (zfr_rf [(28, 5)] _) hc0 rfl) rfl) hRWDm0
          have r163 : 0 ≤ (m162 a0 10) ∧ (m162 a0 10) ≤ 700 := zi_rd hIm162 hc0 zb_28_10
          generalize hmm164 : zu_up m162 a0 5 (m162 a0 10) = m164
          have hIm164 := zi_up hmm164 hIm162 hc0 zb_28_5 (by omega) (by omega)
          have hFm164 := zfr_up hmm164 hFm162 hc0 rfl
          have hRNSm164 := zR_NS_fr (zdis_fr (zfr_up hmm164 (zfr_rf [(28, 6)] _) hc0 rfl) rfl) hRNSm162
          have hRWDm164 := zR_WD_fr (zdis_fr (zfr_up hmm164 (zfr_rf [(28, 6)] _) hc0 rfl) rfl) hRWDm162
          refine zw_b (by omega) ?_
          refine zw_some ?_
          refine zw_b (by omega) ?_
          refine zw_some ?_
          refine zw_ite (fun h165 => ?_) (fun h165 => ?_)
          · refine zw_b (by omega) ?_
            have r166 : 0 ≤ (m164 a0 7) ∧ (m164 a0 7) ≤ 700 := zi_rd hIm164 hc0 zb_28_7
            have r167 : 0 ≤ (m164 a0 8) ∧ (m164 a0 8) ≤ 6 := zi_rd hIm164 hc0 zb_28_8
            exact zw_some ⟨hIm164, hFm164, hRNSm164, hRWDm164, ⟨by omega, by omega⟩, by omega, by omega⟩
          · exfalso; omega
      · refine zw_ite (fun h168 => ?_) (fun h168 => ?_)
        · refine zw_bd (zw_eq (zr_98_0 n a0 4 m0) ?_)
          have b169 : 0 ≤ (4 : Int) ∧ (4 : Int) < 6 := by omega
          refine zw_if b169 ?_
          have r170 : 0 ≤ (m0 193 4) ∧ (m0 193 4) ≤ 1 := zi_rd hIm0 zq_193 (zb_102 _)
          refine zw_ite (fun h171 => ?_) (fun h171 => ?_)
          · refine zw_b (by omega) ?_
            have b172 : 0 ≤ (4 : Int) ∧ (4 : Int) < 6 := by omega
            refine zw_if b172 ?_
            generalize hmm173 : zu_up m0 193 4 1 = m173
            have hIm173 := zi_up hmm173 hIm0 zq_193 (zb_102 _) (by omega) (by omega)
            have hFm173 := zfr_up hmm173 hFm0 zq_193 rfl
            have hRNSm173 := zR_NS_fr (zdis_fr (zfr_up hmm173 (zfr_rf [(102, 0)] _) zq_193 rfl) rfl) hRNSm0
            have hRWDm173 := zR_WD_fr (zdis_fr (zfr_up hmm173 (zfr_rf [(102, 0)] _) zq_193 rfl) rfl) hRWDm0
            refine zw_bd (zw_mono (zk_89 n hIm173 hc0 hRNSm173 hRWDm173) (fun v175 m174 hqm174 => ?_))
            obtain ⟨hIm174, hfm174, hvm174⟩ := hqm174
            have hFm174 := zfr_tr hFm173 hfm174 rfl
            obtain ⟨hRNSm174, hRWDm174, hvm174⟩ := hvm174
            have s176 := hRNSm174 a0 hc0
            refine zw_b (by omega) ?_
            refine zw_some ?_
            refine zw_ite (fun h177 => ?_) (fun h177 => ?_)
            · exfalso; omega
            · refine zw_bd (zw_eq (zr_94_0 n a0 0 999 m174) ?_)
              have r178 : 0 ≤ (m174 a0 8) ∧ (m174 a0 8) ≤ 6 := zi_rd hIm174 hc0 zb_28_8
              refine zw_ite (fun h179 => ?_) (fun h179 => ?_)
              · have r180 : (-2147483648) ≤ (m174 a0 9) ∧ (m174 a0 9) ≤ 2147483647 := zi_rd hIm174 hc0 zb_28_9
                refine zw_bd (zw_eq (zr_83_0 n (m174 a0 9) 0 999 m174) ?_)
                refine zw_ite (fun h181 => ?_) (fun h181 => ?_)
                · refine zw_b (by omega) ?_
                  refine zw_some ?_
                  refine zw_ite (fun h182 => ?_) (fun h182 => ?_)
                  · exfalso; omega
                  · refine zw_bd (zw_eq (zr_85_0 n a0 2 m174) ?_)
                    generalize hmm183 : zu_up m174 a0 4 2 = m183
                    have hIm183 := zi_up hmm183 hIm174 hc0 zb_28_4 (by omega) (by omega)
                    have hFm183 := zfr_up hmm183 hFm174 hc0 rfl
                    have hRNSm183 := zR_NS_fr (zdis_fr (zfr_up hmm183 (zfr_rf [(28, 5)] _) hc0 rfl) rfl) hRNSm174
                    have hRWDm183 := zR_WD_fr (zdis_fr (zfr_up hmm183 (zfr_rf [(28, 5)] _) hc0 rfl) rfl) hRWDm174
                    have r184 : 0 ≤ (m183 a0 10) ∧ (m183 a0 10) ≤ 700 := zi_rd hIm183 hc0 zb_28_10
                    generalize hmm185 : zu_up m183 a0 5 (m183 a0 10) = m185
                    have hIm185 := zi_up hmm185 hIm183 hc0 zb_28_5 (by omega) (by omega)
                    have hFm185 := zfr_up hmm185 hFm183 hc0 rfl
                    have hRNSm185 := zR_NS_fr (zdis_fr (zfr_up hmm185 (zfr_rf [(28, 6)] _) hc0 rfl) rfl) hRNSm183
                    have hRWDm185 := zR_WD_fr (zdis_fr (zfr_up hmm185 (zfr_rf [(28, 6)] _) hc0 rfl) rfl) hRWDm183
                    refine zw_b (by omega) ?_
                    refine zw_some ?_
                    refine zw_b (by omega) ?_
                    refine zw_some ?_
                    refine zw_ite (fun h186 => ?_) (fun h186 => ?_)
                    · exfalso; omega
                    · refine zw_b (by omega) ?_
                      have r187 : 0 ≤ (m185 a0 7) ∧ (m185 a0 7) ≤ 700 := zi_rd hIm185 hc0 zb_28_7
                      have r188 : 0 ≤ (m185 a0 8) ∧ (m185 a0 8) ≤ 6 := zi_rd hIm185 hc0 zb_28_8
                      have e189 : (m185 a0 8) = (m174 a0 8) := (Eq.trans (zs_ne hmm185 (Or.inr (by decide))) (zs_ne hmm183 (Or.inr (by decide))))
                      exact zw_some ⟨hIm185, hFm185, hRNSm185, hRWDm185, ⟨by omega, by omega⟩, by omega, by omega⟩
                · refine zw_ite (fun h190 => ?_) (fun h190 => ?_)
                  · refine zw_b (by omega) ?_
                    refine zw_some ?_
                    refine zw_ite (fun h191 => ?_) (fun h191 => ?_)
                    · exfalso; omega
                    · refine zw_bd (zw_eq (zr_85_0 n a0 2 m174) ?_)
                      generalize hmm192 : zu_up m174 a0 4 2 = m192
                      have hIm192 := zi_up hmm192 hIm174 hc0 zb_28_4 (by omega) (by omega)
                      have hFm192 := zfr_up hmm192 hFm174 hc0 rfl
                      have hRNSm192 := zR_NS_fr (zdis_fr (zfr_up hmm192 (zfr_rf [(28, 5)] _) hc0 rfl) rfl) hRNSm174
                      have hRWDm192 := zR_WD_fr (zdis_fr (zfr_up hmm192 (zfr_rf [(28, 5)] _) hc0 rfl) rfl) hRWDm174
                      have r193 : 0 ≤ (m192 a0 10) ∧ (m192 a0 10) ≤ 700 := zi_rd hIm192 hc0 zb_28_10
                      generalize hmm194 : zu_up m192 a0 5 (m192 a0 10) = m194
                      have hIm194 := zi_up hmm194 hIm192 hc0 zb_28_5 (by omega) (by omega)
                      have hFm194 := zfr_up hmm194 hFm192 hc0 rfl
                      have hRNSm194 := zR_NS_fr (zdis_fr (zfr_up hmm194 (zfr_rf [(28, 6)] _) hc0 rfl) rfl) hRNSm192
                      have hRWDm194 := zR_WD_fr (zdis_fr (zfr_up hmm194 (zfr_rf [(28, 6)] _) hc0 rfl) rfl) hRWDm192
                      refine zw_b (by omega) ?_
                      refine zw_some ?_
                      refine zw_b (by omega) ?_
                      refine zw_some ?_
                      refine zw_ite (fun h195 => ?_) (fun h195 => ?_)
                      · exfalso; omega
                      · refine zw_b (by omega) ?_
                        have r196 : 0 ≤ (m194 a0 7) ∧ (m194 a0 7) ≤ 700 := zi_rd hIm194 hc0 zb_28_7
                        have r197 : 0 ≤ (m194 a0 8) ∧ (m194 a0 8) ≤ 6 := zi_rd hIm194 hc0 zb_28_8
                        have e198 : (m194 a0 8) = (m174 a0 8) := (Eq.trans (zs_ne hmm194 (Or.inr (by decide))) (zs_ne hmm192 (Or.inr (by decide))))
                        exact zw_some ⟨hIm194, hFm194, hRNSm194, hRWDm194, ⟨by omega, by omega⟩, by omega, by omega⟩
                  · refine zw_b (by omega) ?_
                    refine zw_some ?_
                    refine zw_ite (fun h199 => ?_) (fun h199 => ?_)
                    · generalize hmm200 : zu_up m174 a0 11 (m174 a0 9) = m200
                      have hIm200 := zi_up hmm200 hIm174 hc0 zb_28_11 (by omega) (by omega)
                      have hFm200 := zfr_up hmm200 hFm174 hc0 rfl
                      have hRNSm200 := zR_NS_fr (zdis_fr (zfr_up hmm200 (zfr_rf [(28, 12)] _) hc0 rfl) rfl) hRNSm174
                      have hRWDm200 := zR_WD_fr (zdis_fr (zfr_up hmm200 (zfr_rf [(28, 12)] _) hc0 rfl) rfl) hRWDm174
                      refine zw_bd (zw_mono (zk_89 n hIm200 hc0 hRNSm200 hRWDm200) (fun v202 m201 hqm201 => ?_))
                      obtain ⟨hIm201, hfm201, hvm201⟩ := hqm201
                      have hFm201 := zfr_tr hFm200 hfm201 rfl
                      obtain ⟨hRNSm201, hRWDm201, hvm201⟩ := hvm201
                      have s203 := hRNSm201 a0 hc0
                      refine zw_b (by omega) ?_
                      refine zw_some ?_
                      refine zw_ite (fun h204 => ?_) (fun h204 => ?_)
                      · have r205 : (-2147483648) ≤ (m201 a0 11) ∧ (m201 a0 11) ≤ 2147483647 := zi_rd hIm201 hc0 zb_28_11
                        have e206 : (m201 a0 11) = (m174 a0 9) := (Eq.trans (zfr_ap hfm201 hc0 rfl) (zs_eq hmm200))
                        have b207 : 0 ≤ (8 : Int) ∧ (8 : Int) < 10 := by omega
                        refine zw_if b207 ?_
                        generalize hmm208 : zu_up m201 194 8 (m201 a0 11) = m208
                        have hIm208 := zi_up hmm208 hIm201 zq_194 (zb_103 _) (by omega) (by omega)
                        have hFm208 := zfr_up hmm208 hFm201 zq_194 rfl
                        have hRNSm208 := zR_NS_fr (zdis_fr (zfr_up hmm208 (zfr_rf [(103, 0)] _) zq_194 rfl) rfl) hRNSm201
                        have hRWDm208 := zR_WD_fr (zdis_fr (zfr_up hmm208 (zfr_rf [(103, 0)] _) zq_194 rfl) rfl) hRWDm201
                        refine zw_b (by omega) ?_
                        have r209 : 0 ≤ (m208 a0 7) ∧ (m208 a0 7) ≤ 700 := zi_rd hIm208 hc0 zb_28_7
                        have r210 : 0 ≤ (m208 a0 8) ∧ (m208 a0 8) ≤ 6 := zi_rd hIm208 hc0 zb_28_8
                        exact zw_some ⟨hIm208, hFm208, hRNSm208, hRWDm208, ⟨by omega, by omega⟩, by omega, by omega⟩
                      · exfalso; omega
                    · exfalso; omega
              · refine zw_bd (zw_eq (zr_85_0 n a0 1 m174) ?_)
                generalize hmm211 : zu_up m174 a0 4 1 = m211
                have hIm211 := zi_up hmm211 hIm174 hc0 zb_28_4 (by omega) (by omega)
                have hFm211 := zfr_up hmm211 hFm174 hc0 rfl
                have hRNSm211 := zR_NS_fr (zdis_fr (zfr_up hmm211 (zfr_rf [(28, 5)] _) hc0 rfl) rfl) hRNSm174
                have hRWDm211 := zR_WD_fr (zdis_fr (zfr_up hmm211 (zfr_rf [(28, 5)] _) hc0 rfl) rfl) hRWDm174
                have r212 : 0 ≤ (m211 a0 10) ∧ (m211 a0 10) ≤ 700 := zi_rd hIm211 hc0 zb_28_10
                generalize hmm213 : zu_up m211 a0 5 (m211 a0 10) = m213
                have hIm213 := zi_up hmm213 hIm211 hc0 zb_28_5 (by omega) (by omega)
                have hFm213 := zfr_up hmm213 hFm211 hc0 rfl
                have hRNSm213 := zR_NS_fr (zdis_fr (zfr_up hmm213 (zfr_rf [(28, 6)] _) hc0 rfl) rfl) hRNSm211
                have hRWDm213 := zR_WD_fr (zdis_fr (zfr_up hmm213 (zfr_rf [(28, 6)] _) hc0 rfl) rfl) hRWDm211
                refine zw_b (by omega) ?_
                refine zw_some ?_
                refine zw_b (by omega) ?_
                refine zw_some ?_
                refine zw_ite (fun h214 => ?_) (fun h214 => ?_)
                · exfalso; omega
                · refine zw_b (by omega) ?_
                  have r215 : 0 ≤ (m213 a0 7) ∧ (m213 a0 7) ≤ 700 := zi_rd hIm213 hc0 zb_28_7
                  have r216 : 0 ≤ (m213 a0 8) ∧ (m213 a0 8) ≤ 6 := zi_rd hIm213 hc0 zb_28_8
                  have e217 : (m213 a0 8) = (m174 a0 8) := (Eq.trans (zs_ne hmm213 (Or.inr (by decide))) (zs_ne hmm211 (Or.inr (by decide))))
                  exact zw_some ⟨hIm213, hFm213, hRNSm213, hRWDm213, ⟨by omega, by omega⟩, by omega, by omega⟩
          · refine zw_bd (zw_eq (zr_85_0 n a0 3 m0) ?_)
            generalize hmm218 : zu_up m0 a0 4 3 = m218
            have hIm218 := zi_up hmm218 hIm0 hc0 zb_28_4 (by omega) (by omega)
            have hFm218 := zfr_up hmm218 hFm0 hc0 rfl
            have hRNSm218 := zR_NS_fr (zdis_fr (zfr_up hmm218 (zfr_rf [(28, 5)] _) hc0 rfl) rfl) hRNSm0
            have hRWDm218 := zR_WD_fr (zdis_fr (zfr_up hmm218 (zfr_rf [(28, 5)] _) hc0 rfl) rfl) hRWDm0
            have r219 : 0 ≤ (m218 a0 10) ∧ (m218 a0 10) ≤ 700 := zi_rd hIm218 hc0 zb_28_10
            generalize hmm220 : zu_up m218 a0 5 (m218 a0 10) = m220
            have hIm220 := zi_up hmm220 hIm218 hc0 zb_28_5 (by omega) (by omega)
            have hFm220 := zfr_up hmm220 hFm218 hc0 rfl
            have hRNSm220 := zR_NS_fr (zdis_fr (zfr_up hmm220 (zfr_rf [(28, 6)] _) hc0 rfl) rfl) hRNSm218
            have hRWDm220 := zR_WD_fr (zdis_fr (zfr_up hmm220 (zfr_rf [(28, 6)] _) hc0 rfl) rfl) hRWDm218
            refine zw_b (by omega) ?_
            refine zw_some ?_
            refine zw_b (by omega) ?_
            refine zw_some ?_
            refine zw_ite (fun h221 => ?_) (fun h221 => ?_)
            · refine zw_b (by omega) ?_
              have r222 : 0 ≤ (m220 a0 7) ∧ (m220 a0 7) ≤ 700 := zi_rd hIm220 hc0 zb_28_7
              have r223 : 0 ≤ (m220 a0 8) ∧ (m220 a0 8) ≤ 6 := zi_rd hIm220 hc0 zb_28_8
              exact zw_some ⟨hIm220, hFm220, hRNSm220, hRWDm220, ⟨by omega, by omega⟩, by omega, by omega⟩
            · exfalso; omega
        · refine zw_bd (zw_eq (zr_98_0 n a0 5 m0) ?_)
          have b224 : 0 ≤ (5 : Int) ∧ (5 : Int) < 6 := by omega
          refine zw_if b224 ?_
          have r225 : 0 ≤ (m0 193 5) ∧ (m0 193 5) ≤ 1 := zi_rd hIm0 zq_193 (zb_102 _)
          refine zw_ite (fun h226 => ?_) (fun h226 => ?_)
          · refine zw_b (by omega) ?_
            have b227 : 0 ≤ (5 : Int) ∧ (5 : Int) < 6 := by omega
            refine zw_if b227 ?_
            generalize hmm228 : zu_up m0 193 5 1 = m228
            have hIm228 := zi_up hmm228 hIm0 zq_193 (zb_102 _) (by omega) (by omega)
            have hFm228 := zfr_up hmm228 hFm0 zq_193 rfl
            have hRNSm228 := zR_NS_fr (zdis_fr (zfr_up hmm228 (zfr_rf [(102, 0)] _) zq_193 rfl) rfl) hRNSm0
            have hRWDm228 := zR_WD_fr (zdis_fr (zfr_up hmm228 (zfr_rf [(102, 0)] _) zq_193 rfl) rfl) hRWDm0
            refine zw_bd (zw_mono (zk_89 n hIm228 hc0 hRNSm228 hRWDm228) (fun v230 m229 hqm229 => ?_))
            obtain ⟨hIm229, hfm229, hvm229⟩ := hqm229
            have hFm229 := zfr_tr hFm228 hfm229 rfl
            obtain ⟨hRNSm229, hRWDm229, hvm229⟩ := hvm229
            have s231 := hRNSm229 a0 hc0
            refine zw_b (by omega) ?_
            refine zw_some ?_
            refine zw_ite (fun h232 => ?_) (fun h232 => ?_)
            · exfalso; omega
            · refine zw_bd (zw_eq (zr_94_0 n a0 0 99999 m229) ?_)
              have r233 : 0 ≤ (m229 a0 8) ∧ (m229 a0 8) ≤ 6 := zi_rd hIm229 hc0 zb_28_8
              refine zw_ite (fun h234 => ?_) (fun h234 => ?_)
              · have r235 : (-2147483648) ≤ (m229 a0 9) ∧ (m229 a0 9) ≤ 2147483647 := zi_rd hIm229 hc0 zb_28_9
                refine zw_bd (zw_eq (zr_83_0 n (m229 a0 9) 0 99999 m229) ?_)
                refine zw_ite (fun h236 => ?_) (fun h236 => ?_)
                · refine zw_b (by omega) ?_
                  refine zw_some ?_
                  refine zw_ite (fun h237 => ?_) (fun h237 => ?_)
                  · exfalso; omega
                  · refine zw_bd (zw_eq (zr_85_0 n a0 2 m229) ?_)
                    generalize hmm238 : zu_up m229 a0 4 2 = m238
                    have hIm238 := zi_up hmm238 hIm229 hc0 zb_28_4 (by omega) (by omega)
                    have hFm238 := zfr_up hmm238 hFm229 hc0 rfl
                    have hRNSm238 := zR_NS_fr (zdis_fr (zfr_up hmm238 (zfr_rf [(28, 5)] _) hc0 rfl) rfl) hRNSm229
                    have hRWDm238 := zR_WD_fr (zdis_fr (zfr_up hmm238 (zfr_rf [(28, 5)] _) hc0 rfl) rfl) hRWDm229
                    have r239 : 0 ≤ (m238 a0 10) ∧ (m238 a0 10) ≤ 700 := zi_rd hIm238 hc0 zb_28_10
                    generalize hmm240 : zu_up m238 a0 5 (m238 a0 10) = m240
                    have hIm240 := zi_up hmm240 hIm238 hc0 zb_28_5 (by omega) (by omega)
                    have hFm240 := zfr_up hmm240 hFm238 hc0 rfl
                    have hRNSm240 := zR_NS_fr (zdis_fr (zfr_up hmm240 (zfr_rf [(28, 6)] _) hc0 rfl) rfl) hRNSm238
                    have hRWDm240 := zR_WD_fr (zdis_fr (zfr_up hmm240 (zfr_rf [(28, 6)] _) hc0 rfl) rfl) hRWDm238
                    refine zw_b (by omega) ?_
                    refine zw_some ?_
                    refine zw_b (by omega) ?_
                    refine zw_some ?_
                    refine zw_ite (fun h241 => ?_) (fun h241 => ?_)
                    · exfalso; omega
                    · refine zw_b (by omega) ?_
                      have r242 : 0 ≤ (m240 a0 7) ∧ (m240 a0 7) ≤ 700 := zi_rd hIm240 hc0 zb_28_7
                      have r243 : 0 ≤ (m240 a0 8) ∧ (m240 a0 8) ≤ 6 := zi_rd hIm240 hc0 zb_28_8
                      have e244 : (m240 a0 8) = (m229 a0 8) := (Eq.trans (zs_ne hmm240 (Or.inr (by decide))) (zs_ne hmm238 (Or.inr (by decide))))
                      exact zw_some ⟨hIm240, hFm240, hRNSm240, hRWDm240, ⟨by omega, by omega⟩, by omega, by omega⟩
                · refine zw_ite (fun h245 => ?_) (fun h245 => ?_)
                  · refine zw_b (by omega) ?_
                    refine zw_some ?_
                    refine zw_ite (fun h246 => ?_) (fun h246 => ?_)
                    · exfalso; omega
                    · refine zw_bd (zw_eq (zr_85_0 n a0 2 m229) ?_)
                      generalize hmm247 : zu_up m229 a0 4 2 = m247
                      have hIm247 := zi_up hmm247 hIm229 hc0 zb_28_4 (by omega) (by omega)
                      have hFm247 := zfr_up hmm247 hFm229 hc0 rfl
                      have hRNSm247 := zR_NS_fr (zdis_fr (zfr_up hmm247 (zfr_rf [(28, 5)] _) hc0 rfl) rfl) hRNSm229
                      have hRWDm247 := zR_WD_fr (zdis_fr (zfr_up hmm247 (zfr_rf [(28, 5)] _) hc0 rfl) rfl) hRWDm229
                      have r248 : 0 ≤ (m247 a0 10) ∧ (m247 a0 10) ≤ 700 := zi_rd hIm247 hc0 zb_28_10
                      generalize hmm249 : zu_up m247 a0 5 (m247 a0 10) = m249
                      have hIm249 := zi_up hmm249 hIm247 hc0 zb_28_5 (by omega) (by omega)
                      have hFm249 := zfr_up hmm249 hFm247 hc0 rfl
                      have hRNSm249 := zR_NS_fr (zdis_fr (zfr_up hmm249 (zfr_rf [(28, 6)] _) hc0 rfl) rfl) hRNSm247
                      have hRWDm249 := zR_WD_fr (zdis_fr (zfr_up hmm249 (zfr_rf [(28, 6)] _) hc0 rfl) rfl) hRWDm247
                      refine zw_b (by omega) ?_
                      refine zw_some ?_
                      refine zw_b (by omega) ?_
                      refine zw_some ?_
                      refine zw_ite (fun h250 => ?_) (fun h250 => ?_)
                      · exfalso; omega
                      · refine zw_b (by omega) ?_
                        have r251 : 0 ≤ (m249 a0 7) ∧ (m249 a0 7) ≤ 700 := zi_rd hIm249 hc0 zb_28_7
                        have r252 : 0 ≤ (m249 a0 8) ∧ (m249 a0 8) ≤ 6 := zi_rd hIm249 hc0 zb_28_8
                        have e253 : (m249 a0 8) = (m229 a0 8) := (Eq.trans (zs_ne hmm249 (Or.inr (by decide))) (zs_ne hmm247 (Or.inr (by decide))))
                        exact zw_some ⟨hIm249, hFm249, hRNSm249, hRWDm249, ⟨by omega, by omega⟩, by omega, by omega⟩
                  · refine zw_b (by omega) ?_
                    refine zw_some ?_
                    refine zw_ite (fun h254 => ?_) (fun h254 => ?_)
                    · generalize hmm255 : zu_up m229 a0 11 (m229 a0 9) = m255
                      have hIm255 := zi_up hmm255 hIm229 hc0 zb_28_11 (by omega) (by omega)
                      have hFm255 := zfr_up hmm255 hFm229 hc0 rfl
                      have hRNSm255 := zR_NS_fr (zdis_fr (zfr_up hmm255 (zfr_rf [(28, 12)] _) hc0 rfl) rfl) hRNSm229
                      have hRWDm255 := zR_WD_fr (zdis_fr (zfr_up hmm255 (zfr_rf [(28, 12)] _) hc0 rfl) rfl) hRWDm229
                      refine zw_bd (zw_mono (zk_89 n hIm255 hc0 hRNSm255 hRWDm255) (fun v257 m256 hqm256 => ?_))
                      obtain ⟨hIm256, hfm256, hvm256⟩ := hqm256
                      have hFm256 := zfr_tr hFm255 hfm256 rfl
                      obtain ⟨hRNSm256, hRWDm256, hvm256⟩ := hvm256
                      have s258 := hRNSm256 a0 hc0
                      refine zw_b (by omega) ?_
                      refine zw_some ?_
                      refine zw_ite (fun h259 => ?_) (fun h259 => ?_)
                      · have r260 : (-2147483648) ≤ (m256 a0 11) ∧ (m256 a0 11) ≤ 2147483647 := zi_rd hIm256 hc0 zb_28_11
                        have e261 : (m256 a0 11) = (m229 a0 9) := (Eq.trans (zfr_ap hfm256 hc0 rfl) (zs_eq hmm255))
                        have b262 : 0 ≤ (9 : Int) ∧ (9 : Int) < 10 := by omega
                        refine zw_if b262 ?_
                        generalize hmm263 : zu_up m256 194 9 (m256 a0 11) = m263
                        have hIm263 := zi_up hmm263 hIm256 zq_194 (zb_103 _) (by omega) (by omega)
                        have hFm263 := zfr_up hmm263 hFm256 zq_194 rfl
                        have hRNSm263 := zR_NS_fr (zdis_fr (zfr_up hmm263 (zfr_rf [(103, 0)] _) zq_194 rfl) rfl) hRNSm256
                        have hRWDm263 := zR_WD_fr (zdis_fr (zfr_up hmm263 (zfr_rf [(103, 0)] _) zq_194 rfl) rfl) hRWDm256
                        refine zw_b (by omega) ?_
                        have r264 : 0 ≤ (m263 a0 7) ∧ (m263 a0 7) ≤ 700 := zi_rd hIm263 hc0 zb_28_7
                        have r265 : 0 ≤ (m263 a0 8) ∧ (m263 a0 8) ≤ 6 := zi_rd hIm263 hc0 zb_28_8
                        exact zw_some ⟨hIm263, hFm263, hRNSm263, hRWDm263, ⟨by omega, by omega⟩, by omega, by omega⟩
                      · exfalso; omega
                    · exfalso; omega
              · refine zw_bd (zw_eq (zr_85_0 n a0 1 m229) ?_)
                generalize hmm266 : zu_up m229 a0 4 1 = m266
                have hIm266 := zi_up hmm266 hIm229 hc0 zb_28_4 (by omega) (by omega)
                have hFm266 := zfr_up hmm266 hFm229 hc0 rfl
                have hRNSm266 := zR_NS_fr (zdis_fr (zfr_up hmm266 (zfr_rf [(28, 5)] _) hc0 rfl) rfl) hRNSm229
                have hRWDm266 := zR_WD_fr (zdis_fr (zfr_up hmm266 (zfr_rf [(28, 5)] _) hc0 rfl) rfl) hRWDm229
                have r267 : 0 ≤ (m266 a0 10) ∧ (m266 a0 10) ≤ 700 := zi_rd hIm266 hc0 zb_28_10
                generalize hmm268 : zu_up m266 a0 5 (m266 a0 10) = m268
                have hIm268 := zi_up hmm268 hIm266 hc0 zb_28_5 (by omega) (by omega)
                have hFm268 := zfr_up hmm268 hFm266 hc0 rfl
                have hRNSm268 := zR_NS_fr (zdis_fr (zfr_up hmm268 (zfr_rf [(28, 6)] _) hc0 rfl) rfl) hRNSm266
                have hRWDm268 := zR_WD_fr (zdis_fr (zfr_up hmm268 (zfr_rf [(28, 6)] _) hc0 rfl) rfl) hRWDm266
                refine zw_b (by omega) ?_
                refine zw_some ?_
                refine zw_b (by omega) ?_
                refine zw_some ?_
                refine zw_ite (fun h269 => ?_) (fun h269 => ?_)
                · exfalso; omega
                · refine zw_b (by omega) ?_
                  have r270 : 0 ≤ (m268 a0 7) ∧ (m268 a0 7) ≤ 700 := zi_rd hIm268 hc0 zb_28_7
                  have r271 : 0 ≤ (m268 a0 8) ∧ (m268 a0 8) ≤ 6 := zi_rd hIm268 hc0 zb_28_8
                  have e272 : (m268 a0 8) = (m229 a0 8) := (Eq.trans (zs_ne hmm268 (Or.inr (by decide))) (zs_ne hmm266 (Or.inr (by decide))))
                  exact zw_some ⟨hIm268, hFm268, hRNSm268, hRWDm268, ⟨by omega, by omega⟩, by omega, by omega⟩
          · refine zw_bd (zw_eq (zr_85_0 n a0 3 m0) ?_)
            generalize hmm273 : zu_up m0 a0 4 3 = m273
            have hIm273 := zi_up hmm273 hIm0 hc0 zb_28_4 (by omega) (by omega)
            have hFm273 := zfr_up hmm273 hFm0 hc0 rfl
            have hRNSm273 := zR_NS_fr (zdis_fr (zfr_up hmm273 (zfr_rf [(28, 5)] _) hc0 rfl) rfl) hRNSm0
            have hRWDm273 := zR_WD_fr (zdis_fr (zfr_up hmm273 (zfr_rf [(28, 5)] _) hc0 rfl) rfl) hRWDm0
            have r274 : 0 ≤ (m273 a0 10) ∧ (m273 a0 10) ≤ 700 := zi_rd hIm273 hc0 zb_28_10
            generalize hmm275 : zu_up m273 a0 5 (m273 a0 10) = m275
            have hIm275 := zi_up hmm275 hIm273 hc0 zb_28_5 (by omega) (by omega)
            have hFm275 := zfr_up hmm275 hFm273 hc0 rfl
            have hRNSm275 := zR_NS_fr (zdis_fr (zfr_up hmm275 (zfr_rf [(28, 6)] _) hc0 rfl) rfl) hRNSm273
            have hRWDm275 := zR_WD_fr (zdis_fr (zfr_up hmm275 (zfr_rf [(28, 6)] _) hc0 rfl) rfl) hRWDm273
            refine zw_b (by omega) ?_
            refine zw_some ?_
            refine zw_b (by omega) ?_
            refine zw_some ?_
            refine zw_ite (fun h276 => ?_) (fun h276 => ?_)
            · refine zw_b (by omega) ?_
              have r277 : 0 ≤ (m275 a0 7) ∧ (m275 a0 7) ≤ 700 := zi_rd hIm275 hc0 zb_28_7
              have r278 : 0 ≤ (m275 a0 8) ∧ (m275 a0 8) ≤ 6 := zi_rd hIm275 hc0 zb_28_8
              exact zw_some ⟨hIm275, hFm275, hRNSm275, hRWDm275, ⟨by omega, by omega⟩, by omega, by omega⟩
            · exfalso; omega
set_option maxHeartbeats 4000000 in
theorem zl_118 (n : Nat) {a0 : Int} {m0 : zu_m} (hc0 : zcls a0 = 28)   : ∀ k : Nat, (∀ (mh : zu_m), zi_I mh → zfr [(28, 5), (28, 6), (28, 8), (28, 9), (28, 10), (28, 11), (28, 22), (28, 46), (28, 47), (28, 48), (28, 49), (28, 50), (28, 51), (117, 0), (118, 0), (119, 0), (120, 0), (121, 0)] m0 mh → ((m0 a0 7) ≤ (mh a0 7)) → (zR_NS mh) → (zR_WD mh) → (7 * (700 - (mh a0 7)) + (mh a0 8)) * 1 + 0 < (k : Int) → zw (zu_ex (zt_T n) 118 25 [(40, a0)] [] mh) (fun v m => zi_I m ∧ zfr [(28, 5), (28, 6), (28, 8), (28, 9), (28, 10), (28, 11), (28, 22), (28, 46), (28, 47), (28, 48), (28, 49), (28, 50), (28, 51), (117, 0), (118, 0), (119, 0), (120, 0), (121, 0)] m0 m ∧ zR_NS m ∧ zR_WD m ∧ (0 ≤ v ∧ v ≤ 1) ∧ ((m0 a0 7) ≤ (m a0 7)))) := by
  intro k
  induction k with
  | zero => exact fun mh hImh hFmh hH0 hRNSmh hRWDmh hM => by exfalso; omega
  | succ k ih =>
    intro mh hImh hFmh hH0 hRNSmh hRWDmh hM
    refine zw_eq (zr_118_25 n a0 mh) ?_
    have r1 : 0 ≤ (mh a0 7) ∧ (mh a0 7) ≤ 700 := zi_rd hImh hc0 zb_28_7
    have r2 : 0 ≤ (mh a0 8) ∧ (mh a0 8) ≤ 6 := zi_rd hImh hc0 zb_28_8
    have s3 := hRNSmh a0 hc0
    refine zw_bd (zw_eq (zr_93_0 n a0 59 mh) ?_)
    refine zw_ite (fun h4 => ?_) (fun h4 => ?_)
    · refine zw_b (by omega) ?_
      refine zw_some ?_
      refine zw_ite (fun h5 => ?_) (fun h5 => ?_)
      · have r6 : 0 ≤ (mh a0 49) ∧ (mh a0 49) ≤ 1 := zi_rd hImh hc0 zb_28_49
        refine zw_ite (fun h7 => ?_) (fun h7 => ?_)
        · refine zw_bd (zw_mono (zk_117 n hImh hc0 ⟨by omega, by omega⟩ hRNSmh hRWDmh) (fun v9 m8 hqm8 => ?_))
          obtain ⟨hIm8, hfm8, hvm8⟩ := hqm8
          have hFm8 := zfr_tr hFmh hfm8 rfl
          obtain ⟨hRNSm8, hRWDm8, hvm8⟩ := hvm8
          have s10 := hRNSm8 a0 hc0
          refine zw_ite (fun h11 => ?_) (fun h11 => ?_)
          · have r12 : 0 ≤ (m8 a0 7) ∧ (m8 a0 7) ≤ 700 := zi_rd hIm8 hc0 zb_28_7
            have r13 : 0 ≤ (m8 a0 8) ∧ (m8 a0 8) ≤ 6 := zi_rd hIm8 hc0 zb_28_8
            have hM : (7 * (700 - (m8 a0 7)) + (m8 a0 8)) * 1 + 0 < (k : Int) := by omega
            exact ih  m8 hIm8 hFm8 (by omega) hRNSm8 hRWDm8 hM
          · refine zw_b (by omega) ?_
            have r14 : 0 ≤ (m8 a0 7) ∧ (m8 a0 7) ≤ 700 := zi_rd hIm8 hc0 zb_28_7
            exact zw_some ⟨hIm8, hFm8, hRNSm8, hRWDm8, ⟨by omega, by omega⟩, by omega⟩
        · refine zw_bd (zw_mono (zk_116 n hImh hc0 hRNSmh hRWDmh) (fun v16 m15 hqm15 => ?_))
          obtain ⟨hIm15, hfm15, hvm15⟩ := hqm15
          have hFm15 := zfr_tr hFmh hfm15 rfl
          obtain ⟨hRNSm15, hRWDm15, hvm15⟩ := hvm15
          have s17 := hRNSm15 a0 hc0
          refine zw_ite (fun h18 => ?_) (fun h18 => ?_)
          · refine zw_b (by omega) ?_
            have r19 : 0 ≤ (m15 a0 7) ∧ (m15 a0 7) ≤ 700 := zi_rd hIm15 hc0 zb_28_7
            exact zw_some ⟨hIm15, hFm15, hRNSm15, hRWDm15, ⟨by omega, by omega⟩, by omega⟩
          · have r20 : 0 ≤ (m15 a0 7) ∧ (m15 a0 7) ≤ 700 := zi_rd hIm15 hc0 zb_28_7
            have r21 : 0 ≤ (m15 a0 8) ∧ (m15 a0 8) ≤ 6 := zi_rd hIm15 hc0 zb_28_8
            have hM : (7 * (700 - (m15 a0 7)) + (m15 a0 8)) * 1 + 0 < (k : Int) := by omega
            exact ih  m15 hIm15 hFm15 (by omega) hRNSm15 hRWDm15 hM
      · exfalso; omega
    · have r22 : (-2147483648) ≤ (mh a0 9) ∧ (mh a0 9) ≤ 2147483647 := zi_rd hImh hc0 zb_28_9
      refine zw_ite (fun h23 => ?_) (fun h23 => ?_)
      · refine zw_b (by omega) ?_
        refine zw_some ?_
        refine zw_ite (fun h24 => ?_) (fun h24 => ?_)
        · have r25 : 0 ≤ (mh a0 49) ∧ (mh a0 49) ≤ 1 := zi_rd hImh hc0 zb_28_49
          refine zw_ite (fun h26 => ?_) (fun h26 => ?_)
          · refine zw_bd (zw_mono (zk_117 n hImh hc0 ⟨by omega, by omega⟩ hRNSmh hRWDmh) (fun v28 m27 hqm27 => ?_))
            obtain ⟨hIm27, hfm27, hvm27⟩ := hqm27
            have hFm27 := zfr_tr hFmh hfm27 rfl
            obtain ⟨hRNSm27, hRWDm27, hvm27⟩ := hvm27
            have s29 := hRNSm27 a0 hc0
            refine zw_ite (fun h30 => ?_) (fun h30 => ?_)
            · have r31 : 0 ≤ (m27 a0 7) ∧ (m27 a0 7) ≤ 700 := zi_rd hIm27 hc0 zb_28_7
              have r32 : 0 ≤ (m27 a0 8) ∧ (m27 a0 8) ≤ 6 := zi_rd hIm27 hc0 zb_28_8
              have hM : (7 * (700 - (m27 a0 7)) + (m27 a0 8)) * 1 + 0 < (k : Int) := by omega
              exact ih  m27 hIm27 hFm27 (by omega) hRNSm27 hRWDm27 hM
            · refine zw_b (by omega) ?_
              have r33 : 0 ≤ (m27 a0 7) ∧ (m27 a0 7) ≤ 700 := zi_rd hIm27 hc0 zb_28_7
              exact zw_some ⟨hIm27, hFm27, hRNSm27, hRWDm27, ⟨by omega, by omega⟩, by omega⟩
          · refine zw_bd (zw_mono (zk_116 n hImh hc0 hRNSmh hRWDmh) (fun v35 m34 hqm34 => ?_))
            obtain ⟨hIm34, hfm34, hvm34⟩ := hqm34
            have hFm34 := zfr_tr hFmh hfm34 rfl
            obtain ⟨hRNSm34, hRWDm34, hvm34⟩ := hvm34
            have s36 := hRNSm34 a0 hc0
            refine zw_ite (fun h37 => ?_) (fun h37 => ?_)
            · refine zw_b (by omega) ?_
              have r38 : 0 ≤ (m34 a0 7) ∧ (m34 a0 7) ≤ 700 := zi_rd hIm34 hc0 zb_28_7
              exact zw_some ⟨hIm34, hFm34, hRNSm34, hRWDm34, ⟨by omega, by omega⟩, by omega⟩
            · have r39 : 0 ≤ (m34 a0 7) ∧ (m34 a0 7) ≤ 700 := zi_rd hIm34 hc0 zb_28_7
              have r40 : 0 ≤ (m34 a0 8) ∧ (m34 a0 8) ≤ 6 := zi_rd hIm34 hc0 zb_28_8
              have hM : (7 * (700 - (m34 a0 7)) + (m34 a0 8)) * 1 + 0 < (k : Int) := by omega
              exact ih  m34 hIm34 hFm34 (by omega) hRNSm34 hRWDm34 hM
        · exfalso; omega
      · refine zw_b (by omega) ?_
        refine zw_some ?_
        refine zw_ite (fun h41 => ?_) (fun h41 => ?_)
        · exfalso; omega
        · have r42 : 0 ≤ (mh a0 49) ∧ (mh a0 49) ≤ 1 := zi_rd hImh hc0 zb_28_49
          refine zw_ite (fun h43 => ?_) (fun h43 => ?_)
          · refine zw_ite (fun h44 => ?_) (fun h44 => ?_)
            · exfalso; omega
            · refine zw_bd (zw_mono (zk_116 n hImh hc0 hRNSmh hRWDmh) (fun v46 m45 hqm45 => ?_))
              obtain ⟨hIm45, hfm45, hvm45⟩ := hqm45
              have hFm45 := zfr_tr hFmh hfm45 rfl
              obtain ⟨hRNSm45, hRWDm45, hvm45⟩ := hvm45
              have s47 := hRNSm45 a0 hc0
              refine zw_ite (fun h48 => ?_) (fun h48 => ?_)
              · refine zw_b (by omega) ?_
                have r49 : 0 ≤ (m45 a0 7) ∧ (m45 a0 7) ≤ 700 := zi_rd hIm45 hc0 zb_28_7
                exact zw_some ⟨hIm45, hFm45, hRNSm45, hRWDm45, ⟨by omega, by omega⟩, by omega⟩
              · have r50 : 0 ≤ (m45 a0 7) ∧ (m45 a0 7) ≤ 700 := zi_rd hIm45 hc0 zb_28_7
                have r51 : 0 ≤ (m45 a0 8) ∧ (m45 a0 8) ≤ 6 := zi_rd hIm45 hc0 zb_28_8
                have hM : (7 * (700 - (m45 a0 7)) + (m45 a0 8)) * 1 + 0 < (k : Int) := by omega
                exact ih  m45 hIm45 hFm45 (by omega) hRNSm45 hRWDm45 hM
          · have r52 : 0 ≤ (mh a0 47) ∧ (mh a0 47) ≤ 8 := zi_rd hImh hc0 zb_28_47
            refine zw_ite (fun h53 => ?_) (fun h53 => ?_)
            · refine zw_bd (zw_mono (zk_112 n hImh hc0 ⟨by omega, by omega⟩) (fun v55 m54 hqm54 => ?_))
              obtain ⟨hIm54, hfm54, hvm54⟩ := hqm54
              have hFm54 := zfr_tr hFmh hfm54 rfl
              have hRNSm54 := zR_NS_fr (zdis_fr hfm54 rfl) hRNSmh
              have hRWDm54 := zR_WD_fr (zdis_fr hfm54 rfl) hRWDmh
              have s56 := hRNSm54 a0 hc0
              refine zw_b (by omega) ?_
              have r57 : 0 ≤ (m54 a0 7) ∧ (m54 a0 7) ≤ 700 := zi_rd hIm54 hc0 zb_28_7
              have e58 : (m54 a0 7) = (mh a0 7) := (zfr_ap hfm54 hc0 rfl)
              exact zw_some ⟨hIm54, hFm54, hRNSm54, hRWDm54, ⟨by omega, by omega⟩, by omega⟩
            · refine zw_ite (fun h59 => ?_) (fun h59 => ?_)
              · refine zw_bd (zw_mono (zk_117 n hImh hc0 ⟨by omega, by omega⟩ hRNSmh hRWDmh) (fun v61 m60 hqm60 => ?_))
                obtain ⟨hIm60, hfm60, hvm60⟩ := hqm60
                have hFm60 := zfr_tr hFmh hfm60 rfl
                obtain ⟨hRNSm60, hRWDm60, hvm60⟩ := hvm60
                have s62 := hRNSm60 a0 hc0
                refine zw_ite (fun h63 => ?_) (fun h63 => ?_)
                · have r64 : 0 ≤ (m60 a0 7) ∧ (m60 a0 7) ≤ 700 := zi_rd hIm60 hc0 zb_28_7
                  have r65 : 0 ≤ (m60 a0 8) ∧ (m60 a0 8) ≤ 6 := zi_rd hIm60 hc0 zb_28_8
                  have hM : (7 * (700 - (m60 a0 7)) + (m60 a0 8)) * 1 + 0 < (k : Int) := by omega
                  exact ih  m60 hIm60 hFm60 (by omega) hRNSm60 hRWDm60 hM
                · refine zw_b (by omega) ?_
                  have r66 : 0 ≤ (m60 a0 7) ∧ (m60 a0 7) ≤ 700 := zi_rd hIm60 hc0 zb_28_7
                  exact zw_some ⟨hIm60, hFm60, hRNSm60, hRWDm60, ⟨by omega, by omega⟩, by omega⟩
              · exfalso; omega
set_option maxHeartbeats 4000000 in
theorem zk_118 (n : Nat) {a0 : Int} {m0 : zu_m} (hIm0 : zi_I m0) (hc0 : zcls a0 = 28)     (hRNSm0 : zR_NS m0) (hRWDm0 : zR_WD m0) : zw (zu_call (zt_T n) 118 [(40, a0)] m0) (fun v m => zi_I m ∧ zfr [(28, 5), (28, 6), (28, 8), (28, 9), (28, 10), (28, 11), (28, 22), (28, 46), (28, 47), (28, 48), (28, 49), (28, 50), (28, 51), (117, 0), (118, 0), (119, 0), (120, 0), (121, 0)] m0 m ∧ zR_NS m ∧ zR_WD m ∧ (0 ≤ v ∧ v ≤ 1) ∧ ((m0 a0 7) ≤ (m a0 7))) := by
  have hFm0 : zfr [(28, 5), (28, 6), (28, 8), (28, 9), (28, 10), (28, 11), (28, 22), (28, 46), (28, 47), (28, 48), (28, 49), (28, 50), (28, 51), (117, 0), (118, 0), (119, 0), (120, 0), (121, 0)] m0 m0 := zfr_rf _ _
  have s67 := hRNSm0 a0 hc0
  refine zw_eq (zr_118_0 n a0 m0) ?_
  generalize hmm68 : zu_up m0 a0 45 0 = m68
  have hIm68 := zi_up hmm68 hIm0 hc0 zb_28_45 (by omega) (by omega)
  have hFm68 := zfr_up hmm68 hFm0 hc0 rfl
  have hRNSm68 := zR_NS_fr (zdis_fr (zfr_up hmm68 (zfr_rf [(28, 46)] _) hc0 rfl) rfl) hRNSm0
  have hRWDm68 := zR_WD_fr (zdis_fr (zfr_up hmm68 (zfr_rf [(28, 46)] _) hc0 rfl) rfl) hRWDm0
  generalize hmm69 : zu_up m68 a0 46 0 = m69
  have hIm69 := zi_up hmm69 hIm68 hc0 zb_28_46 (by omega) (by omega)
  have hFm69 := zfr_up hmm69 hFm68 hc0 rfl
  have hRNSm69 := zR_NS_fr (zdis_fr (zfr_up hmm69 (zfr_rf [(28, 47)] _) hc0 rfl) rfl) hRNSm68
  have hRWDm69 := zR_WD_fr (zdis_fr (zfr_up hmm69 (zfr_rf [(28, 47)] _) hc0 rfl) rfl) hRWDm68
  generalize hmm70 : zu_up m69 a0 47 0 = m70
  have hIm70 := zi_up hmm70 hIm69 hc0 zb_28_47 (by omega) (by omega)
  have hFm70 := zfr_up hmm70 hFm69 hc0 rfl
  have hRNSm70 := zR_NS_fr (zdis_fr (zfr_up hmm70 (zfr_rf [(28, 48)] _) hc0 rfl) rfl) hRNSm69
  have hRWDm70 := zR_WD_fr (zdis_fr (zfr_up hmm70 (zfr_rf [(28, 48)] _) hc0 rfl) rfl) hRWDm69
  refine zw_b (by omega) ?_
  generalize hmm71 : zu_up m70 a0 49 1 = m71
  have hIm71 := zi_up hmm71 hIm70 hc0 zb_28_49 (by omega) (by omega)
  have hFm71 := zfr_up hmm71 hFm70 hc0 rfl
  have hRNSm71 := zR_NS_fr (zdis_fr (zfr_up hmm71 (zfr_rf [(28, 50)] _) hc0 rfl) rfl) hRNSm70
  have hRWDm71 := zR_WD_fr (zdis_fr (zfr_up hmm71 (zfr_rf [(28, 50)] _) hc0 rfl) rfl) hRWDm70
  refine zw_b (by omega) ?_
  generalize hmm72 : zu_up m71 a0 50 1 = m72
  have hIm72 := zi_up hmm72 hIm71 hc0 zb_28_50 (by omega) (by omega)
  have hFm72 := zfr_up hmm72 hFm71 hc0 rfl
  have hRNSm72 := zR_NS_fr (zdis_fr (zfr_up hmm72 (zfr_rf [(28, 51)] _) hc0 rfl) rfl) hRNSm71
  have hRWDm72 := zR_WD_fr (zdis_fr (zfr_up hmm72 (zfr_rf [(28, 51)] _) hc0 rfl) rfl) hRWDm71
  have r73 : 0 ≤ (m72 a0 7) ∧ (m72 a0 7) ≤ 700 := zi_rd hIm72 hc0 zb_28_7
  have r74 : 0 ≤ (m72 a0 8) ∧ (m72 a0 8) ≤ 6 := zi_rd hIm72 hc0 zb_28_8
  have hM : (7 * (700 - (m72 a0 7)) + (m72 a0 8)) * 1 + 0 < ((4907 : Nat) : Int) := by omega
  exact (zl_118 n (m0 := m0) hc0 4907)  m72 hIm72 hFm72 (by omega) hRNSm72 hRWDm72 hM
set_option maxHeartbeats 4000000 in
theorem zk_147 (n : Nat) {a0 a1 a2 a3 : Int} {m0 : zu_m} (hIm0 : zi_I m0) (hc0 : zcls a0 = 28) (ha1 : (-2147483648) ≤ a1 ∧ a1 ≤ 2147483647) (ha2 : (-2147483648) ≤ a2 ∧ a2 ≤ 2147483647) (ha3 : (-2147483648) ≤ a3 ∧ a3 ≤ 2147483647)     : zw (zu_call (zt_T n) 147 [(40, a0), (0, a1), (0, a2), (0, a3)] m0) (fun v m => zi_I m ∧ zfr [(28, 3), (28, 54), (122, 0), (123, 0)] m0 m ∧ ((-9223372036854775808) ≤ v ∧ v ≤ 9223372036854775807) ∧ (0 ≤ m a0 2 ∧ m a0 2 ≤ 0)) := by
  have hFm0 : zfr [(28, 3), (28, 54), (122, 0), (123, 0)] m0 m0 := zfr_rf _ _
  refine zw_eq (zr_147_0 n a0 a1 a2 a3 m0) ?_
  generalize hmm1 : zu_up m0 a0 2 0 = m1
  have hIm1 := zi_up hmm1 hIm0 hc0 zb_28_2 (by omega) (by omega)
  have hFm1 := zfr_up hmm1 hFm0 hc0 rfl
  refine zw_bd (zw_eq (zr_83_0 n a1 0 3 m1) ?_)
  refine zw_ite (fun h2 => ?_) (fun h2 => ?_)
  · refine zw_b (by omega) ?_
    refine zw_some ?_
    refine zw_ite (fun h3 => ?_) (fun h3 => ?_)
    · exfalso; omega
    · have r4 : (-2147483648) ≤ (m1 a0 2) ∧ (m1 a0 2) ≤ 2147483647 := zi_rd hIm1 hc0 zb_28_2
      have e5 : (m1 a0 2) = 0 := (zs_eq hmm1)
      exact zw_some ⟨hIm1, hFm1, ⟨by omega, by omega⟩, ⟨by omega, by omega⟩⟩
  · refine zw_ite (fun h6 => ?_) (fun h6 => ?_)
    · refine zw_b (by omega) ?_
      refine zw_some ?_
      refine zw_ite (fun h7 => ?_) (fun h7 => ?_)
      · exfalso; omega
      · have r8 : (-2147483648) ≤ (m1 a0 2) ∧ (m1 a0 2) ≤ 2147483647 := zi_rd hIm1 hc0 zb_28_2
        have e9 : (m1 a0 2) = 0 := (zs_eq hmm1)
        exact zw_some ⟨hIm1, hFm1, ⟨by omega, by omega⟩, ⟨by omega, by omega⟩⟩
    · refine zw_b (by omega) ?_
      refine zw_some ?_
      refine zw_ite (fun h10 => ?_) (fun h10 => ?_)
      · refine zw_ite (fun h11 => ?_) (fun h11 => ?_)
        · refine zw_ite (fun h12 => ?_) (fun h12 => ?_)
          · refine zw_bd (zw_eq (zr_124_0 n a0 a2 m1) ?_)
            refine zw_ite (fun h13 => ?_) (fun h13 => ?_)
            · refine zw_b (by omega) ?_
              refine zw_some ?_
              refine zw_ite (fun h14 => ?_) (fun h14 => ?_)
              · exfalso; omega
              · have r15 : (-2147483648) ≤ (m1 a0 2) ∧ (m1 a0 2) ≤ 2147483647 := zi_rd hIm1 hc0 zb_28_2
                have e16 : (m1 a0 2) = 0 := (zs_eq hmm1)
                exact zw_some ⟨hIm1, hFm1, ⟨by omega, by omega⟩, ⟨by omega, by omega⟩⟩
            · have b17 : 0 ≤ (0 : Int) ∧ (0 : Int) < 2 := by omega
              refine zw_if b17 ?_
              have r18 : 0 ≤ (m1 216 0) ∧ (m1 216 0) ≤ 16 := zi_rdr (m := 2) (r0 := 0) (r1 := 0) hIm1 zq_216 (by omega) (by decide +kernel)
              refine zw_ite (fun h19 => ?_) (fun h19 => ?_)
              · refine zw_b (by omega) ?_
                refine zw_some ?_
                refine zw_ite (fun h20 => ?_) (fun h20 => ?_)
                · exfalso; omega
                · have r21 : (-2147483648) ≤ (m1 a0 2) ∧ (m1 a0 2) ≤ 2147483647 := zi_rd hIm1 hc0 zb_28_2
                  have e22 : (m1 a0 2) = 0 := (zs_eq hmm1)
                  exact zw_some ⟨hIm1, hFm1, ⟨by omega, by omega⟩, ⟨by omega, by omega⟩⟩
              · refine zw_b (by omega) ?_
                refine zw_some ?_
                refine zw_ite (fun h23 => ?_) (fun h23 => ?_)
                · refine zw_ite (fun h24 => ?_) (fun h24 => ?_)
                  · refine zw_ite (fun h25 => ?_) (fun h25 => ?_)
                    · refine zw_ite (fun h26 => ?_) (fun h26 => ?_)
                      · have b27 : 0 ≤ (3 : Int) ∧ (3 : Int) < 8 := by omega
                        refine zw_if b27 ?_
                        have r28 : 0 ≤ (m1 205 3) ∧ (m1 205 3) ≤ 1 := zi_rd hIm1 zq_205 (zb_114 _)
                        refine zw_ite (fun h29 => ?_) (fun h29 => ?_)
                        · refine zw_ite (fun h30 => ?_) (fun h30 => ?_)
                          · refine zw_ite (fun h31 => ?_) (fun h31 => ?_)
                            · have b32 : 0 ≤ a2 ∧ a2 < 36 := by omega
                              refine zw_if b32 ?_
                              have r33 : 0 ≤ (m1 199 a2) ∧ (m1 199 a2) ≤ 9 := zi_rd hIm1 zq_199 (zb_108 _)
                              have b34 : 0 ≤ a2 ∧ a2 < 36 := by omega
                              refine zw_if b34 ?_
                              have r35 : 0 ≤ (m1 197 a2) ∧ (m1 197 a2) ≤ 47 := zi_rd hIm1 zq_197 (zb_106 _)
                              have b36 : 0 ≤ a2 ∧ a2 < 36 := by omega
                              refine zw_if b36 ?_
                              have r37 : 0 ≤ (m1 198 a2) ∧ (m1 198 a2) ≤ 3 := zi_rd hIm1 zq_198 (zb_107 _)
                              have b38 : 0 ≤ (0 : Int) ∧ (0 : Int) < 2 := by omega
                              refine zw_if b38 ?_
                              have r39 : (-2147483648) ≤ (m1 221 0) ∧ (m1 221 0) ≤ 2147483647 := zi_rd hIm1 zq_221 (zb_130 _)
                              refine zw_bd (zw_mono (zk_38 n hIm1 hc0 ⟨by omega, by omega⟩ ⟨by omega, by omega⟩ ⟨by omega, by omega⟩ ⟨by omega, by omega⟩ ⟨by omega, by omega⟩ ⟨by omega, by omega⟩) (fun v41 m40 hqm40 => ?_))
                              obtain ⟨hIm40, hfm40, hvm40⟩ := hqm40
                              have hFm40 := zfr_tr hFm1 hfm40 rfl
                              refine zw_bd (zw_mono (zk_127 n hIm40 hc0 ⟨by omega, by omega⟩) (fun v43 m42 hqm42 => ?_))
                              obtain ⟨hIm42, hfm42, hvm42⟩ := hqm42
                              have hFm42 := zfr_tr hFm40 hfm42 rfl
                              have r44 : 0 ≤ (m42 a0 53) ∧ (m42 a0 53) ≤ 1 := zi_rd hIm42 hc0 zb_28_53
                              refine zw_ite (fun h45 => ?_) (fun h45 => ?_)
                              · have r46 : (-2147483648) ≤ (m42 a0 2) ∧ (m42 a0 2) ≤ 2147483647 := zi_rd hIm42 hc0 zb_28_2
                                have e47 : (m42 a0 2) = 0 := (Eq.trans (zfr_ap hfm42 hc0 rfl) (Eq.trans (zfr_ap hfm40 hc0 rfl) (zs_eq hmm1)))
                                exact zw_some ⟨hIm42, hFm42, ⟨by omega, by omega⟩, ⟨by omega, by omega⟩⟩
                              · have r48 : (-2147483648) ≤ (m42 a0 2) ∧ (m42 a0 2) ≤ 2147483647 := zi_rd hIm42 hc0 zb_28_2
                                have e49 : (m42 a0 2) = 0 := (Eq.trans (zfr_ap hfm42 hc0 rfl) (Eq.trans (zfr_ap hfm40 hc0 rfl) (zs_eq hmm1)))
                                exact zw_some ⟨hIm42, hFm42, ⟨by omega, by omega⟩, ⟨by omega, by omega⟩⟩
                            · exfalso; omega
                          · exfalso; omega
                        · have r50 : (-2147483648) ≤ (m1 a0 2) ∧ (m1 a0 2) ≤ 2147483647 := zi_rd hIm1 hc0 zb_28_2
                          have e51 : (m1 a0 2) = 0 := (zs_eq hmm1)
                          exact zw_some ⟨hIm1, hFm1, ⟨by omega, by omega⟩, ⟨by omega, by omega⟩⟩
                      · exfalso; omega
                    · exfalso; omega
                  · exfalso; omega
                · exfalso; omega
          · refine zw_bd (zw_eq (zr_123_0 n a0 a2 m1) ?_)
            refine zw_ite (fun h52 => ?_) (fun h52 => ?_)
            · refine zw_b (by omega) ?_
              refine zw_some ?_
              refine zw_ite (fun h53 => ?_) (fun h53 => ?_)
              · exfalso; omega
              · have r54 : (-2147483648) ≤ (m1 a0 2) ∧ (m1 a0 2) ≤ 2147483647 := zi_rd hIm1 hc0 zb_28_2
                have e55 : (m1 a0 2) = 0 := (zs_eq hmm1)
                exact zw_some ⟨hIm1, hFm1, ⟨by omega, by omega⟩, ⟨by omega, by omega⟩⟩
            · refine zw_bd (zw_eq (zr_36_0 n a0 m1) ?_)
              have r56 : 1 ≤ (m1 a0 12) ∧ (m1 a0 12) ≤ 8 := zi_rd hIm1 hc0 zb_28_12
              have r57 : 1 ≤ (m1 a0 13) ∧ (m1 a0 13) ≤ 6 := zi_rd hIm1 hc0 zb_28_13
              have p58 := zmul_bd (x := (m1 a0 12)) (y := (m1 a0 13)) (a := 1) (b := 1) (A := 8) (B := 6) (by omega) (by omega) (by omega) (by omega) (by omega) (by omega)
              have w59 := zu_w32_id (z := (m1 a0 12) * (m1 a0 13)) (by omega) (by omega)
              refine zw_some ?_
              refine zw_ite (fun h60 => ?_) (fun h60 => ?_)
              · refine zw_b (by omega) ?_
                refine zw_some ?_
                refine zw_ite (fun h61 => ?_) (fun h61 => ?_)
                · exfalso; omega
                · have r62 : (-2147483648) ≤ (m1 a0 2) ∧ (m1 a0 2) ≤ 2147483647 := zi_rd hIm1 hc0 zb_28_2
                  have e63 : (m1 a0 2) = 0 := (zs_eq hmm1)
                  exact zw_some ⟨hIm1, hFm1, ⟨by omega, by omega⟩, ⟨by omega, by omega⟩⟩
              · refine zw_b (by omega) ?_
                refine zw_some ?_
                refine zw_ite (fun h64 => ?_) (fun h64 => ?_)
                · refine zw_ite (fun h65 => ?_) (fun h65 => ?_)
                  · refine zw_ite (fun h66 => ?_) (fun h66 => ?_)
                    · refine zw_ite (fun h67 => ?_) (fun h67 => ?_)
                      · exfalso; omega
                      · have b68 : 0 ≤ (1 : Int) ∧ (1 : Int) < 8 := by omega
                        refine zw_if b68 ?_
                        have r69 : 0 ≤ (m1 205 1) ∧ (m1 205 1) ≤ 1 := zi_rd hIm1 zq_205 (zb_114 _)
                        refine zw_ite (fun h70 => ?_) (fun h70 => ?_)
                        · refine zw_ite (fun h71 => ?_) (fun h71 => ?_)
                          · refine zw_ite (fun h72 => ?_) (fun h72 => ?_)
                            · exfalso; omega
                            · refine zw_bd (zw_mono (zk_38 n hIm1 hc0 ⟨by omega, by omega⟩ ⟨by omega, by omega⟩ ⟨by omega, by omega⟩ ⟨by omega, by omega⟩ ⟨by omega, by omega⟩ ⟨by omega, by omega⟩) (fun v74 m73 hqm73 => ?_))
                              obtain ⟨hIm73, hfm73, hvm73⟩ := hqm73
                              have hFm73 := zfr_tr hFm1 hfm73 rfl
                              refine zw_bd (zw_mono (zk_127 n hIm73 hc0 ⟨by omega, by omega⟩) (fun v76 m75 hqm75 => ?_))
                              obtain ⟨hIm75, hfm75, hvm75⟩ := hqm75
                              have hFm75 := zfr_tr hFm73 hfm75 rfl
                              have r77 : 0 ≤ (m75 a0 53) ∧ (m75 a0 53) ≤ 1 := zi_rd hIm75 hc0 zb_28_53
                              refine zw_ite (fun h78 => ?_) (fun h78 => ?_)
                              · have r79 : (-2147483648) ≤ (m75 a0 2) ∧ (m75 a0 2) ≤ 2147483647 := zi_rd hIm75 hc0 zb_28_2
                                have e80 : (m75 a0 2) = 0 := (Eq.trans (zfr_ap hfm75 hc0 rfl) (Eq.trans (zfr_ap hfm73 hc0 rfl) (zs_eq hmm1)))
                                exact zw_some ⟨hIm75, hFm75, ⟨by omega, by omega⟩, ⟨by omega, by omega⟩⟩
                              · have r81 : (-2147483648) ≤ (m75 a0 2) ∧ (m75 a0 2) ≤ 2147483647 := zi_rd hIm75 hc0 zb_28_2
                                have e82 : (m75 a0 2) = 0 := (Eq.trans (zfr_ap hfm75 hc0 rfl) (Eq.trans (zfr_ap hfm73 hc0 rfl) (zs_eq hmm1)))
                                exact zw_some ⟨hIm75, hFm75, ⟨by omega, by omega⟩, ⟨by omega, by omega⟩⟩
                          · exfalso; omega
                        · have r83 : (-2147483648) ≤ (m1 a0 2) ∧ (m1 a0 2) ≤ 2147483647 := zi_rd hIm1 hc0 zb_28_2
                          have e84 : (m1 a0 2) = 0 := (zs_eq hmm1)
                          exact zw_some ⟨hIm1, hFm1, ⟨by omega, by omega⟩, ⟨by omega, by omega⟩⟩
                    · exfalso; omega
                  · exfalso; omega
                · exfalso; omega
        · refine zw_bd (zw_eq (zr_125_0 n a0 a2 m1) ?_)
          refine zw_ite (fun h85 => ?_) (fun h85 => ?_)
          · refine zw_b (by omega) ?_
            refine zw_some ?_
            refine zw_ite (fun h86 => ?_) (fun h86 => ?_)
            · have r87 : (-2147483648) ≤ (m1 a0 2) ∧ (m1 a0 2) ≤ 2147483647 := zi_rd hIm1 hc0 zb_28_2
              have e88 : (m1 a0 2) = 0 := (zs_eq hmm1)
              exact zw_some ⟨hIm1, hFm1, ⟨by omega, by omega⟩, ⟨by omega, by omega⟩⟩
            · exfalso; omega
          · have r89 : 0 ≤ (m1 a0 15) ∧ (m1 a0 15) ≤ 4 := zi_rd hIm1 hc0 zb_28_15
            refine zw_ite (fun h90 => ?_) (fun h90 => ?_)
            · refine zw_b (by omega) ?_
              refine zw_some ?_
              refine zw_ite (fun h91 => ?_) (fun h91 => ?_)
              · have r92 : (-2147483648) ≤ (m1 a0 2) ∧ (m1 a0 2) ≤ 2147483647 := zi_rd hIm1 hc0 zb_28_2
                have e93 : (m1 a0 2) = 0 := (zs_eq hmm1)
                exact zw_some ⟨hIm1, hFm1, ⟨by omega, by omega⟩, ⟨by omega, by omega⟩⟩
              · exfalso; omega
            · refine zw_b (by omega) ?_
              refine zw_some ?_
              refine zw_ite (fun h94 => ?_) (fun h94 => ?_)
              · exfalso; omega
              · refine zw_bd (zw_eq (zr_124_0 n a0 a3 m1) ?_)
                refine zw_ite (fun h95 => ?_) (fun h95 => ?_)
                · refine zw_b (by omega) ?_
                  refine zw_some ?_
                  refine zw_ite (fun h96 => ?_) (fun h96 => ?_)
                  · exfalso; omega
                  · have r97 : (-2147483648) ≤ (m1 a0 2) ∧ (m1 a0 2) ≤ 2147483647 := zi_rd hIm1 hc0 zb_28_2
                    have e98 : (m1 a0 2) = 0 := (zs_eq hmm1)
                    exact zw_some ⟨hIm1, hFm1, ⟨by omega, by omega⟩, ⟨by omega, by omega⟩⟩
                · have b99 : 0 ≤ (0 : Int) ∧ (0 : Int) < 2 := by omega
                  refine zw_if b99 ?_
                  have r100 : 0 ≤ (m1 216 0) ∧ (m1 216 0) ≤ 16 := zi_rdr (m := 2) (r0 := 0) (r1 := 0) hIm1 zq_216 (by omega) (by decide +kernel)
                  refine zw_ite (fun h101 => ?_) (fun h101 => ?_)
                  · refine zw_b (by omega) ?_
                    refine zw_some ?_
                    refine zw_ite (fun h102 => ?_) (fun h102 => ?_)
                    · exfalso; omega
                    · have r103 : (-2147483648) ≤ (m1 a0 2) ∧ (m1 a0 2) ≤ 2147483647 := zi_rd hIm1 hc0 zb_28_2
                      have e104 : (m1 a0 2) = 0 := (zs_eq hmm1)
                      exact zw_some ⟨hIm1, hFm1, ⟨by omega, by omega⟩, ⟨by omega, by omega⟩⟩
                  · refine zw_b (by omega) ?_
                    refine zw_some ?_
                    refine zw_ite (fun h105 => ?_) (fun h105 => ?_)
                    · refine zw_ite (fun h106 => ?_) (fun h106 => ?_)
                      · refine zw_ite (fun h107 => ?_) (fun h107 => ?_)
                        · exfalso; omega
                        · have b108 : 0 ≤ (2 : Int) ∧ (2 : Int) < 8 := by omega
                          refine zw_if b108 ?_
                          have r109 : 0 ≤ (m1 205 2) ∧ (m1 205 2) ≤ 1 := zi_rd hIm1 zq_205 (zb_114 _)
                          refine zw_ite (fun h110 => ?_) (fun h110 => ?_)
                          · refine zw_ite (fun h111 => ?_) (fun h111 => ?_)
                            · exfalso; omega
                            · have b112 : 0 ≤ a2 ∧ a2 < 8 := by omega
                              refine zw_if b112 ?_
                              have r113 : 0 ≤ (m1 202 a2) ∧ (m1 202 a2) ≤ 15 := zi_rd hIm1 zq_202 (zb_111 _)
                              have b114 : 0 ≤ a3 ∧ a3 < 36 := by omega
                              refine zw_if b114 ?_
                              have r115 : 0 ≤ (m1 199 a3) ∧ (m1 199 a3) ≤ 9 := zi_rd hIm1 zq_199 (zb_108 _)
                              have b116 : 0 ≤ a3 ∧ a3 < 36 := by omega
                              refine zw_if b116 ?_
                              have r117 : 0 ≤ (m1 197 a3) ∧ (m1 197 a3) ≤ 47 := zi_rd hIm1 zq_197 (zb_106 _)
                              have b118 : 0 ≤ a3 ∧ a3 < 36 := by omega
                              refine zw_if b118 ?_
                              have r119 : 0 ≤ (m1 198 a3) ∧ (m1 198 a3) ≤ 3 := zi_rd hIm1 zq_198 (zb_107 _)
                              have b120 : 0 ≤ a3 ∧ a3 < 36 := by omega
                              refine zw_if b120 ?_
                              refine zw_nif (by omega) ?_
                              have d121 : Int.tmod a2 4 = a2 % 4 := Int.tmod_eq_emod_of_nonneg (by omega)
                              refine zw_ite (fun h122 => ?_) (fun h122 => ?_)
                              · refine zw_ite (fun h123 => ?_) (fun h123 => ?_)
                                · refine zw_bd (zw_mono (zk_38 n hIm1 hc0 ⟨by omega, by omega⟩ ⟨by omega, by omega⟩ ⟨by omega, by omega⟩ ⟨by omega, by omega⟩ ⟨by omega, by omega⟩ ⟨by omega, by omega⟩) (fun v125 m124 hqm124 => ?_))
                                  obtain ⟨hIm124, hfm124, hvm124⟩ := hqm124
                                  have hFm124 := zfr_tr hFm1 hfm124 rfl
                                  refine zw_bd (zw_mono (zk_127 n hIm124 hc0 ⟨by omega, by omega⟩) (fun v127 m126 hqm126 => ?_))
                                  obtain ⟨hIm126, hfm126, hvm126⟩ := hqm126
                                  have hFm126 := zfr_tr hFm124 hfm126 rfl
                                  have r128 : 0 ≤ (m126 a0 53) ∧ (m126 a0 53) ≤ 1 := zi_rd hIm126 hc0 zb_28_53
                                  refine zw_ite (fun h129 => ?_) (fun h129 => ?_)
                                  · have r130 : (-2147483648) ≤ (m126 a0 2) ∧ (m126 a0 2) ≤ 2147483647 := zi_rd hIm126 hc0 zb_28_2
                                    have e131 : (m126 a0 2) = 0 := (Eq.trans (zfr_ap hfm126 hc0 rfl) (Eq.trans (zfr_ap hfm124 hc0 rfl) (zs_eq hmm1)))
                                    exact zw_some ⟨hIm126, hFm126, ⟨by omega, by omega⟩, ⟨by omega, by omega⟩⟩
                                  · have r132 : (-2147483648) ≤ (m126 a0 2) ∧ (m126 a0 2) ≤ 2147483647 := zi_rd hIm126 hc0 zb_28_2
                                    have e133 : (m126 a0 2) = 0 := (Eq.trans (zfr_ap hfm126 hc0 rfl) (Eq.trans (zfr_ap hfm124 hc0 rfl) (zs_eq hmm1)))
                                    exact zw_some ⟨hIm126, hFm126, ⟨by omega, by omega⟩, ⟨by omega, by omega⟩⟩
                                · exfalso; omega
                              · refine zw_ite (fun h134 => ?_) (fun h134 => ?_)
                                · refine zw_bd (zw_mono (zk_38 n hIm1 hc0 ⟨by omega, by omega⟩ ⟨by omega, by omega⟩ ⟨by omega, by omega⟩ ⟨by omega, by omega⟩ ⟨by omega, by omega⟩ ⟨by omega, by omega⟩) (fun v136 m135 hqm135 => ?_))
                                  obtain ⟨hIm135, hfm135, hvm135⟩ := hqm135
                                  have hFm135 := zfr_tr hFm1 hfm135 rfl
                                  refine zw_bd (zw_mono (zk_127 n hIm135 hc0 ⟨by omega, by omega⟩) (fun v138 m137 hqm137 => ?_))
                                  obtain ⟨hIm137, hfm137, hvm137⟩ := hqm137
                                  have hFm137 := zfr_tr hFm135 hfm137 rfl
                                  have r139 : 0 ≤ (m137 a0 53) ∧ (m137 a0 53) ≤ 1 := zi_rd hIm137 hc0 zb_28_53
                                  refine zw_ite (fun h140 => ?_) (fun h140 => ?_)
                                  · have r141 : (-2147483648) ≤ (m137 a0 2) ∧ (m137 a0 2) ≤ 2147483647 := zi_rd hIm137 hc0 zb_28_2
                                    have e142 : (m137 a0 2) = 0 := (Eq.trans (zfr_ap hfm137 hc0 rfl) (Eq.trans (zfr_ap hfm135 hc0 rfl) (zs_eq hmm1)))
                                    exact zw_some ⟨hIm137, hFm137, ⟨by omega, by omega⟩, ⟨by omega, by omega⟩⟩
                                  · have r143 : (-2147483648) ≤ (m137 a0 2) ∧ (m137 a0 2) ≤ 2147483647 := zi_rd hIm137 hc0 zb_28_2
                                    have e144 : (m137 a0 2) = 0 := (Eq.trans (zfr_ap hfm137 hc0 rfl) (Eq.trans (zfr_ap hfm135 hc0 rfl) (zs_eq hmm1)))
                                    exact zw_some ⟨hIm137, hFm137, ⟨by omega, by omega⟩, ⟨by omega, by omega⟩⟩
                                · exfalso; omega
                          · have r145 : (-2147483648) ≤ (m1 a0 2) ∧ (m1 a0 2) ≤ 2147483647 := zi_rd hIm1 hc0 zb_28_2
                            have e146 : (m1 a0 2) = 0 := (zs_eq hmm1)
                            exact zw_some ⟨hIm1, hFm1, ⟨by omega, by omega⟩, ⟨by omega, by omega⟩⟩
                      · have b147 : 0 ≤ (0 : Int) ∧ (0 : Int) < 8 := by omega
                        refine zw_if b147 ?_
                        have r148 : 0 ≤ (m1 205 0) ∧ (m1 205 0) ≤ 1 := zi_rd hIm1 zq_205 (zb_114 _)
                        refine zw_ite (fun h149 => ?_) (fun h149 => ?_)
                        · refine zw_ite (fun h150 => ?_) (fun h150 => ?_)
                          · exfalso; omega
                          · have b151 : 0 ≤ a2 ∧ a2 < 8 := by omega
                            refine zw_if b151 ?_
                            have r152 : 0 ≤ (m1 202 a2) ∧ (m1 202 a2) ≤ 15 := zi_rd hIm1 zq_202 (zb_111 _)
                            have b153 : 0 ≤ a3 ∧ a3 < 36 := by omega
                            refine zw_if b153 ?_
                            have r154 : 0 ≤ (m1 199 a3) ∧ (m1 199 a3) ≤ 9 := zi_rd hIm1 zq_199 (zb_108 _)
                            have b155 : 0 ≤ a3 ∧ a3 < 36 := by omega
                            refine zw_if b155 ?_
                            have r156 : 0 ≤ (m1 197 a3) ∧ (m1 197 a3) ≤ 47 := zi_rd hIm1 zq_197 (zb_106 _)
                            have b157 : 0 ≤ a3 ∧ a3 < 36 := by omega
                            refine zw_if b157 ?_
                            have r158 : 0 ≤ (m1 198 a3) ∧ (m1 198 a3) ≤ 3 := zi_rd hIm1 zq_198 (zb_107 _)
                            have b159 : 0 ≤ a3 ∧ a3 < 36 := by omega
                            refine zw_if b159 ?_
                            refine zw_nif (by omega) ?_
                            have d160 : Int.tmod a2 4 = a2 % 4 := Int.tmod_eq_emod_of_nonneg (by omega)
                            refine zw_ite (fun h161 => ?_) (fun h161 => ?_)
                            · refine zw_ite (fun h162 => ?_) (fun h162 => ?_)
                              · exfalso; omega
                              · refine zw_bd (zw_mono (zk_130 n hIm1 hc0 ⟨by omega, by omega⟩ ⟨by omega, by omega⟩) (fun v164 m163 hqm163 => ?_))
                                obtain ⟨hIm163, hfm163, hvm163⟩ := hqm163
                                have hFm163 := zfr_tr hFm1 hfm163 rfl
                                refine zw_bd (zw_mono (zk_38 n hIm163 hc0 ⟨by omega, by omega⟩ ⟨by omega, by omega⟩ ⟨by omega, by omega⟩ ⟨by omega, by omega⟩ ⟨by omega, by omega⟩ ⟨by omega, by omega⟩) (fun v166 m165 hqm165 => ?_))
                                obtain ⟨hIm165, hfm165, hvm165⟩ := hqm165
                                have hFm165 := zfr_tr hFm163 hfm165 rfl
                                refine zw_bd (zw_mono (zk_127 n hIm165 hc0 ⟨by omega, by omega⟩) (fun v168 m167 hqm167 => ?_))
                                obtain ⟨hIm167, hfm167, hvm167⟩ := hqm167
                                have hFm167 := zfr_tr hFm165 hfm167 rfl
                                have r169 : 0 ≤ (m167 a0 53) ∧ (m167 a0 53) ≤ 1 := zi_rd hIm167 hc0 zb_28_53
                                refine zw_ite (fun h170 => ?_) (fun h170 => ?_)
                                · have r171 : (-2147483648) ≤ (m167 a0 2) ∧ (m167 a0 2) ≤ 2147483647 := zi_rd hIm167 hc0 zb_28_2
                                  have e172 : (m167 a0 2) = 0 := (Eq.trans (zfr_ap hfm167 hc0 rfl) (Eq.trans (zfr_ap hfm165 hc0 rfl) (Eq.trans (zfr_ap hfm163 hc0 rfl) (zs_eq hmm1))))
                                  exact zw_some ⟨hIm167, hFm167, ⟨by omega, by omega⟩, ⟨by omega, by omega⟩⟩
                                · have r173 : (-2147483648) ≤ (m167 a0 2) ∧ (m167 a0 2) ≤ 2147483647 := zi_rd hIm167 hc0 zb_28_2
                                  have e174 : (m167 a0 2) = 0 := (Eq.trans (zfr_ap hfm167 hc0 rfl) (Eq.trans (zfr_ap hfm165 hc0 rfl) (Eq.trans (zfr_ap hfm163 hc0 rfl) (zs_eq hmm1))))
                                  exact zw_some ⟨hIm167, hFm167, ⟨by omega, by omega⟩, ⟨by omega, by omega⟩⟩
                            · refine zw_ite (fun h175 => ?_) (fun h175 => ?_)
                              · exfalso; omega
                              · refine zw_bd (zw_mono (zk_130 n hIm1 hc0 ⟨by omega, by omega⟩ ⟨by omega, by omega⟩) (fun v177 m176 hqm176 => ?_))
                                obtain ⟨hIm176, hfm176, hvm176⟩ := hqm176
                                have hFm176 := zfr_tr hFm1 hfm176 rfl
                                refine zw_bd (zw_mono (zk_38 n hIm176 hc0 ⟨by omega, by omega⟩ ⟨by omega, by omega⟩ ⟨by omega, by omega⟩ ⟨by omega, by omega⟩ ⟨by omega, by omega⟩ ⟨by omega, by omega⟩) (fun v179 m178 hqm178 => ?_))
                                obtain ⟨hIm178, hfm178, hvm178⟩ := hqm178
                                have hFm178 := zfr_tr hFm176 hfm178 rfl
                                refine zw_bd (zw_mono (zk_127 n hIm178 hc0 ⟨by omega, by omega⟩) (fun v181 m180 hqm180 => ?_))
                                obtain ⟨hIm180, hfm180, hvm180⟩ := hqm180
                                have hFm180 := zfr_tr hFm178 hfm180 rfl
                                have r182 : 0 ≤ (m180 a0 53) ∧ (m180 a0 53) ≤ 1 := zi_rd hIm180 hc0 zb_28_53
                                refine zw_ite (fun h183 => ?_) (fun h183 => ?_)
                                · have r184 : (-2147483648) ≤ (m180 a0 2) ∧ (m180 a0 2) ≤ 2147483647 := zi_rd hIm180 hc0 zb_28_2
                                  have e185 : (m180 a0 2) = 0 := (Eq.trans (zfr_ap hfm180 hc0 rfl) (Eq.trans (zfr_ap hfm178 hc0 rfl) (Eq.trans (zfr_ap hfm176 hc0 rfl) (zs_eq hmm1))))
                                  exact zw_some ⟨hIm180, hFm180, ⟨by omega, by omega⟩, ⟨by omega, by omega⟩⟩
                                · have r186 : (-2147483648) ≤ (m180 a0 2) ∧ (m180 a0 2) ≤ 2147483647 := zi_rd hIm180 hc0 zb_28_2
                                  have e187 : (m180 a0 2) = 0 := (Eq.trans (zfr_ap hfm180 hc0 rfl) (Eq.trans (zfr_ap hfm178 hc0 rfl) (Eq.trans (zfr_ap hfm176 hc0 rfl) (zs_eq hmm1))))
                                  exact zw_some ⟨hIm180, hFm180, ⟨by omega, by omega⟩, ⟨by omega, by omega⟩⟩
                        · have r188 : (-2147483648) ≤ (m1 a0 2) ∧ (m1 a0 2) ≤ 2147483647 := zi_rd hIm1 hc0 zb_28_2
                          have e189 : (m1 a0 2) = 0 := (zs_eq hmm1)
                          exact zw_some ⟨hIm1, hFm1, ⟨by omega, by omega⟩, ⟨by omega, by omega⟩⟩
                    · exfalso; omega
      · exfalso; omega
set_option maxHeartbeats 4000000 in
theorem zk_157 (n : Nat) {a0 a1 : Int} {m0 : zu_m} (hIm0 : zi_I m0) (hc0 : zcls a0 = 28) (ha1 : (-2147483648) ≤ a1 ∧ a1 ≤ 2147483647)     : zw (zu_call (zt_T n) 157 [(40, a0), (0, a1)] m0) (fun v m => zi_I m ∧ zfr [(28, 3), (28, 65), (28, 66), (28, 67), (28, 68), (28, 69), (28, 70), (132, 0)] m0 m ∧ ((-1) ≤ v ∧ v ≤ 47) ∧ (0 ≤ m a0 2 ∧ m a0 2 ≤ 0)) := by
  have hFm0 : zfr [(28, 3), (28, 65), (28, 66), (28, 67), (28, 68), (28, 69), (28, 70), (132, 0)] m0 m0 := zfr_rf _ _
  refine zw_eq (zr_157_0 n a0 a1 m0) ?_
  generalize hmm1 : zu_up m0 a0 2 0 = m1
  have hIm1 := zi_up hmm1 hIm0 hc0 zb_28_2 (by omega) (by omega)
  have hFm1 := zfr_up hmm1 hFm0 hc0 rfl
  refine zw_bd (zw_eq (zr_125_0 n a0 a1 m1) ?_)
  refine zw_ite (fun h2 => ?_) (fun h2 => ?_)
  · refine zw_b (by omega) ?_
    refine zw_some ?_
    refine zw_ite (fun h3 => ?_) (fun h3 => ?_)
    · exfalso; omega
    · have r4 : (-2147483648) ≤ (m1 a0 2) ∧ (m1 a0 2) ≤ 2147483647 := zi_rd hIm1 hc0 zb_28_2
      have e5 : (m1 a0 2) = 0 := (zs_eq hmm1)
      exact zw_some ⟨hIm1, hFm1, ⟨by omega, by omega⟩, ⟨by omega, by omega⟩⟩
  · have r6 : 0 ≤ (m1 a0 15) ∧ (m1 a0 15) ≤ 4 := zi_rd hIm1 hc0 zb_28_15
    refine zw_ite (fun h7 => ?_) (fun h7 => ?_)
    · refine zw_b (by omega) ?_
      refine zw_some ?_
      refine zw_ite (fun h8 => ?_) (fun h8 => ?_)
      · exfalso; omega
      · have r9 : (-2147483648) ≤ (m1 a0 2) ∧ (m1 a0 2) ≤ 2147483647 := zi_rd hIm1 hc0 zb_28_2
        have e10 : (m1 a0 2) = 0 := (zs_eq hmm1)
        exact zw_some ⟨hIm1, hFm1, ⟨by omega, by omega⟩, ⟨by omega, by omega⟩⟩
    · refine zw_b (by omega) ?_
      refine zw_some ?_
      refine zw_ite (fun h11 => ?_) (fun h11 => ?_)
      · refine zw_bd (zw_mono (zk_156 n hIm1 hc0) (fun v13 m12 hqm12 => ?_))
        obtain ⟨hIm12, hfm12, hvm12⟩ := hqm12
        have hFm12 := zfr_tr hFm1 hfm12 rfl
        have b14 : 0 ≤ a1 ∧ a1 < 8 := by omega
        refine zw_if b14 ?_
        have r15 : 0 ≤ (m12 217 a1) ∧ (m12 217 a1) ≤ 47 := zi_rd hIm12 zq_217 (zb_126 _)
        refine zw_bd (zw_mono (zk_155 n hIm12 hc0 ⟨by omega, by omega⟩ ⟨by omega, by omega⟩) (fun v17 m16 hqm16 => ?_))
        obtain ⟨hIm16, hfm16, hvm16⟩ := hqm16
        have hFm16 := zfr_tr hFm12 hfm16 rfl
        have r18 : (-2147483648) ≤ (m16 a0 2) ∧ (m16 a0 2) ≤ 2147483647 := zi_rd hIm16 hc0 zb_28_2
        have e19 : (m16 a0 2) = 0 := (Eq.trans (zfr_ap hfm16 hc0 rfl) (Eq.trans (zfr_ap hfm12 hc0 rfl) (zs_eq hmm1)))
        exact zw_some ⟨hIm16, hFm16, ⟨by omega, by omega⟩, ⟨by omega, by omega⟩⟩
      · exfalso; omega
set_option maxHeartbeats 4000000 in
theorem zk_170 (n : Nat) {a0 : Int} {m0 : zu_m} (hIm0 : zi_I m0) (hc0 : zcls a0 = 28)      : zw (zu_call (zt_T n) 170 [(40, a0)] m0) (fun v m => zi_I m ∧ zfr [(28, 3), (28, 76), (133, 0)] m0 m ∧ ((-2147483648) ≤ v ∧ v ≤ 2147483647) ∧ (0 ≤ m a0 2 ∧ m a0 2 ≤ 0)) := by
  have hFm0 : zfr [(28, 3), (28, 76), (133, 0)] m0 m0 := zfr_rf _ _
  refine zw_eq (zr_170_0 n a0 m0) ?_
  generalize hmm1 : zu_up m0 a0 2 0 = m1
  have hIm1 := zi_up hmm1 hIm0 hc0 zb_28_2 (by omega) (by omega)
  have hFm1 := zfr_up hmm1 hFm0 hc0 rfl
  refine zw_bd (zw_mono (zk_169 n hIm1 hc0 ⟨by omega, by omega⟩) (fun v3 m2 hqm2 => ?_))
  obtain ⟨hIm2, hfm2, hvm2⟩ := hqm2
  have hFm2 := zfr_tr hFm1 hfm2 rfl
  have r4 : (-2147483648) ≤ (m2 a0 2) ∧ (m2 a0 2) ≤ 2147483647 := zi_rd hIm2 hc0 zb_28_2
  have e5 : (m2 a0 2) = 0 := (Eq.trans (zfr_ap hfm2 hc0 rfl) (zs_eq hmm1))
  exact zw_some ⟨hIm2, hFm2, ⟨by omega, by omega⟩, ⟨by omega, by omega⟩⟩
set_option maxHeartbeats 4000000 in
theorem zk_171 (n : Nat) {a0 a1 : Int} {m0 : zu_m} (hIm0 : zi_I m0) (hc0 : zcls a0 = 28) (ha1 : (-2147483648) ≤ a1 ∧ a1 ≤ 2147483647)     : zw (zu_call (zt_T n) 171 [(40, a0), (0, a1)] m0) (fun v m => zi_I m ∧ zfr [(28, 3), (28, 76), (133, 0)] m0 m ∧ ((-2147483648) ≤ v ∧ v ≤ 2147483647) ∧ (0 ≤ m a0 2 ∧ m a0 2 ≤ 0)) := by
  have hFm0 : zfr [(28, 3), (28, 76), (133, 0)] m0 m0 := zfr_rf _ _
  refine zw_eq (zr_171_0 n a0 a1 m0) ?_
  generalize hmm1 : zu_up m0 a0 2 0 = m1
  have hIm1 := zi_up hmm1 hIm0 hc0 zb_28_2 (by omega) (by omega)
  have hFm1 := zfr_up hmm1 hFm0 hc0 rfl
  refine zw_ite (fun h2 => ?_) (fun h2 => ?_)
  · refine zw_bd (zw_mono (zk_169 n hIm1 hc0 ⟨by omega, by omega⟩) (fun v4 m3 hqm3 => ?_))
    obtain ⟨hIm3, hfm3, hvm3⟩ := hqm3
    have hFm3 := zfr_tr hFm1 hfm3 rfl
    have r5 : (-2147483648) ≤ (m3 a0 2) ∧ (m3 a0 2) ≤ 2147483647 := zi_rd hIm3 hc0 zb_28_2
    have e6 : (m3 a0 2) = 0 := (Eq.trans (zfr_ap hfm3 hc0 rfl) (zs_eq hmm1))
    exact zw_some ⟨hIm3, hFm3, ⟨by omega, by omega⟩, ⟨by omega, by omega⟩⟩
  · have r7 : (-2147483648) ≤ (m1 a0 2) ∧ (m1 a0 2) ≤ 2147483647 := zi_rd hIm1 hc0 zb_28_2
    have e8 : (m1 a0 2) = 0 := (zs_eq hmm1)
    exact zw_some ⟨hIm1, hFm1, ⟨by omega, by omega⟩, ⟨by omega, by omega⟩⟩

set_option maxHeartbeats 4000000 in
theorem zk_102 (n : Nat) {a0 : Int} {m0 : zu_m} (hIm0 : zi_I m0) (hc0 : zcls a0 = 28)   (he0 : 1 ≤ m0 a0 8 ∧ m0 a0 8 ≤ 1) (he1 : 5 ≤ m0 a0 9 ∧ m0 a0 9 ≤ 5)  (hRNSm0 : zR_NS m0) (hRWDm0 : zR_WD m0) : zw (zu_call (zt_T n) 102 [(40, a0)] m0) (fun v m => zi_I m ∧ zfr [(28, 5), (28, 6), (28, 8), (28, 9), (28, 10), (28, 11), (28, 12), (28, 21), (28, 24), (28, 43), (109, 0), (110, 0), (111, 0), (112, 0), (113, 0)] m0 m ∧ zR_NS m ∧ zR_WD m ∧ (0 ≤ v ∧ v ≤ 1) ∧ ((m0 a0 7) ≤ (m a0 7)) ∧ (v = 1 → ((m a0 8) = 0 ∨ (m0 a0 7) < (m a0 7)))) := by
  have hFm0 : zfr [(28, 5), (28, 6), (28, 8), (28, 9), (28, 10), (28, 11), (28, 12), (28, 21), (28, 24), (28, 43), (109, 0), (110, 0), (111, 0), (112, 0), (113, 0)] m0 m0 := zfr_rf _ _
  have s1 := hRNSm0 a0 hc0
  refine zw_eq (zr_102_0 n a0 m0) ?_
  have r2 : 0 ≤ (m0 a0 20) ∧ (m0 a0 20) ≤ 4 := zi_rd hIm0 hc0 zb_28_20
  refine zw_ite (fun h3 => ?_) (fun h3 => ?_)
  · refine zw_bd (zw_mono (zk_89 n hIm0 hc0 hRNSm0 hRWDm0) (fun v5 m4 hqm4 => ?_))
    obtain ⟨hIm4, hfm4, hvm4⟩ := hqm4
    have hFm4 := zfr_tr hFm0 hfm4 rfl
    obtain ⟨hRNSm4, hRWDm4, hvm4⟩ := hvm4
    have s6 := hRNSm4 a0 hc0
    have r7 : 0 ≤ (m4 a0 8) ∧ (m4 a0 8) ≤ 6 := zi_rd hIm4 hc0 zb_28_8
    refine zw_ite (fun h8 => ?_) (fun h8 => ?_)
    · have r9 : 0 ≤ (m4 a0 20) ∧ (m4 a0 20) ≤ 4 := zi_rd hIm4 hc0 zb_28_20
      have e10 : (m4 a0 20) = (m0 a0 20) := (zfr_ap hfm4 hc0 rfl)
      have r11 : (-2147483648) ≤ (m4 a0 9) ∧ (m4 a0 9) ≤ 2147483647 := zi_rd hIm4 hc0 zb_28_9
      refine zw_bd (zw_mono (zk_95 n hIm4 zq_200 ⟨by omega, by omega⟩ ⟨by omega, by omega⟩ ⟨by omega, by omega⟩) (fun v13 m12 hqm12 => ?_))
      obtain ⟨hIm12, hfm12, hvm12⟩ := hqm12
      have hFm12 := zfr_tr hFm4 hfm12 rfl
      have hRNSm12 := zR_NS_fr (zdis_fr hfm12 rfl) hRNSm4
      have hRWDm12 := zR_WD_fr (zdis_fr hfm12 rfl) hRWDm4
      have s14 := hRNSm12 a0 hc0
      refine zw_ite (fun h15 => ?_) (fun h15 => ?_)
      · have r16 : 0 ≤ (m12 a0 20) ∧ (m12 a0 20) ≤ 4 := zi_rd hIm12 hc0 zb_28_20
        have e17 : (m12 a0 20) = (m4 a0 20) := (zfr_ap hfm12 hc0 rfl)
        have w18 := zu_w32_id (z := 4 + (m12 a0 20)) (by omega) (by omega)
        have r19 : (-2147483648) ≤ (m12 a0 9) ∧ (m12 a0 9) ≤ 2147483647 := zi_rd hIm12 hc0 zb_28_9
        have e20 : (m12 a0 9) = (m4 a0 9) := (zfr_ap hfm12 hc0 rfl)
        have b21 : 0 ≤ (zu_w32 (4 + (m12 a0 20))) ∧ (zu_w32 (4 + (m12 a0 20))) < 8 := by omega
        refine zw_if b21 ?_
        generalize hmm22 : zu_up m12 200 (zu_w32 (4 + (m12 a0 20))) (m12 a0 9) = m22
        have hIm22 := zi_up hmm22 hIm12 zq_200 (zb_109 _) (by omega) (by omega)
        have hFm22 := zfr_up hmm22 hFm12 zq_200 rfl
        have hRNSm22 := zR_NS_fr (zdis_fr (zfr_up hmm22 (zfr_rf [(109, 0)] _) zq_200 rfl) rfl) hRNSm12
        have hRWDm22 := zR_WD_fr (zdis_fr (zfr_up hmm22 (zfr_rf [(109, 0)] _) zq_200 rfl) rfl) hRWDm12
        refine zw_bd (zw_mono (zk_89 n hIm22 hc0 hRNSm22 hRWDm22) (fun v24 m23 hqm23 => ?_))
        obtain ⟨hIm23, hfm23, hvm23⟩ := hqm23
        have hFm23 := zfr_tr hFm22 hfm23 rfl
        obtain ⟨hRNSm23, hRWDm23, hvm23⟩ := hvm23
        have s25 := hRNSm23 a0 hc0
        refine zw_bd (zw_eq (zr_96_0 n a0 m23) ?_)
        refine zw_b (by omega) ?_
        generalize hmm26 : zu_up m23 a0 23 1 = m26
        have hIm26 := zi_up hmm26 hIm23 hc0 zb_28_23 (by omega) (by omega)
        have hFm26 := zfr_up hmm26 hFm23 hc0 rfl
        have hRNSm26 := zR_NS_fr (zdis_fr (zfr_up hmm26 (zfr_rf [(28, 24)] _) hc0 rfl) rfl) hRNSm23
        have hRWDm26 := zR_WD_fr (zdis_fr (zfr_up hmm26 (zfr_rf [(28, 24)] _) hc0 rfl) rfl) hRWDm23
        have r27 : 1 ≤ (m26 a0 17) ∧ (m26 a0 17) ≤ 8 := zi_rd hIm26 hc0 zb_28_17
        have w28 := zu_w32_id (z := (m26 a0 17) - 1) (by omega) (by omega)
        refine zw_bd (zw_eq (zr_94_0 n a0 0 (zu_w32 ((m26 a0 17) - 1)) m26) ?_)
        have r29 : 0 ≤ (m26 a0 8) ∧ (m26 a0 8) ≤ 6 := zi_rd hIm26 hc0 zb_28_8
        refine zw_ite (fun h30 => ?_) (fun h30 => ?_)
        · have r31 : (-2147483648) ≤ (m26 a0 9) ∧ (m26 a0 9) ≤ 2147483647 := zi_rd hIm26 hc0 zb_28_9
          refine zw_bd (zw_eq (zr_83_0 n (m26 a0 9) 0 (zu_w32 ((m26 a0 17) - 1)) m26) ?_)
          refine zw_ite (fun h32 => ?_) (fun h32 => ?_)
          · refine zw_b (by omega) ?_
            refine zw_some ?_
            refine zw_ite (fun h33 => ?_) (fun h33 => ?_)
            · exfalso; omega
            · refine zw_bd (zw_eq (zr_85_0 n a0 2 m26) ?_)
              generalize hmm34 : zu_up m26 a0 4 2 = m34
              have hIm34 := zi_up hmm34 hIm26 hc0 zb_28_4 (by omega) (by omega)
              have hFm34 := zfr_up hmm34 hFm26 hc0 rfl
              have hRNSm34 := zR_NS_fr (zdis_fr (zfr_up hmm34 (zfr_rf [(28, 5)] _) hc0 rfl) rfl) hRNSm26
              have hRWDm34 := zR_WD_fr (zdis_fr (zfr_up hmm34 (zfr_rf [(28, 5)] _) hc0 rfl) rfl) hRWDm26
              have r35 : 0 ≤ (m34 a0 10) ∧ (m34 a0 10) ≤ 700 := zi_rd hIm34 hc0 zb_28_10
              generalize hmm36 : zu_up m34 a0 5 (m34 a0 10) = m36
              have hIm36 := zi_up hmm36 hIm34 hc0 zb_28_5 (by omega) (by omega)
              have hFm36 := zfr_up hmm36 hFm34 hc0 rfl
              have hRNSm36 := zR_NS_fr (zdis_fr (zfr_up hmm36 (zfr_rf [(28, 6)] _) hc0 rfl) rfl) hRNSm34
              have hRWDm36 := zR_WD_fr (zdis_fr (zfr_up hmm36 (zfr_rf [(28, 6)] _) hc0 rfl) rfl) hRWDm34
              refine zw_b (by omega) ?_
              refine zw_some ?_
              refine zw_b (by omega) ?_
              refine zw_some ?_
              refine zw_ite (fun h37 => ?_) (fun h37 => ?_)
              · exfalso; omega
              · refine zw_b (by omega) ?_
                refine zw_some ?_
                refine zw_ite (fun h38 => ?_) (fun h38 => ?_)
                · exfalso; omega
                · refine zw_b (by omega) ?_
                  have r39 : 0 ≤ (m36 a0 7) ∧ (m36 a0 7) ≤ 700 := zi_rd hIm36 hc0 zb_28_7
                  have r40 : 0 ≤ (m36 a0 8) ∧ (m36 a0 8) ≤ 6 := zi_rd hIm36 hc0 zb_28_8
                  have e41 : (m36 a0 8) = (m26 a0 8) := (Eq.trans (zs_ne hmm36 (Or.inr (by decide))) (zs_ne hmm34 (Or.inr (by decide))))
                  exact zw_some ⟨hIm36, hFm36, hRNSm36, hRWDm36, ⟨by omega, by omega⟩, by omega, by omega⟩
          · refine zw_ite (fun h42 => ?_) (fun h42 => ?_)
            · refine zw_b (by omega) ?_
              refine zw_some ?_
              refine zw_ite (fun h43 => ?_) (fun h43 => ?_)
              · exfalso; omega
              · refine zw_bd (zw_eq (zr_85_0 n a0 2 m26) ?_)
                generalize hmm44 : zu_up m26 a0 4 2 = m44
                have hIm44 := zi_up hmm44 hIm26 hc0 zb_28_4 (by omega) (by omega)
                have hFm44 := zfr_up hmm44 hFm26 hc0 rfl
                have hRNSm44 := zR_NS_fr (zdis_fr (zfr_up hmm44 (zfr_rf [(28, 5)] _) hc0 rfl) rfl) hRNSm26
                have hRWDm44 := zR_WD_fr (zdis_fr (zfr_up hmm44 (zfr_rf [(28, 5)] _) hc0 rfl) rfl) hRWDm26
                have r45 : 0 ≤ (m44 a0 10) ∧ (m44 a0 10) ≤ 700 := zi_rd hIm44 hc0 zb_28_10
                generalize hmm46 : zu_up m44 a0 5 (m44 a0 10) = m46
                have hIm46 := zi_up hmm46 hIm44 hc0 zb_28_5 (by omega) (by omega)
                have hFm46 := zfr_up hmm46 hFm44 hc0 rfl
                have hRNSm46 := zR_NS_fr (zdis_fr (zfr_up hmm46 (zfr_rf [(28, 6)] _) hc0 rfl) rfl) hRNSm44
                have hRWDm46 := zR_WD_fr (zdis_fr (zfr_up hmm46 (zfr_rf [(28, 6)] _) hc0 rfl) rfl) hRWDm44
                refine zw_b (by omega) ?_
                refine zw_some ?_
                refine zw_b (by omega) ?_
                refine zw_some ?_
                refine zw_ite (fun h47 => ?_) (fun h47 => ?_)
                · exfalso; omega
                · refine zw_b (by omega) ?_
                  refine zw_some ?_
                  refine zw_ite (fun h48 => ?_) (fun h48 => ?_)
                  · exfalso; omega
                  · refine zw_b (by omega) ?_
                    have r49 : 0 ≤ (m46 a0 7) ∧ (m46 a0 7) ≤ 700 := zi_rd hIm46 hc0 zb_28_7
                    have r50 : 0 ≤ (m46 a0 8) ∧ (m46 a0 8) ≤ 6 := zi_rd hIm46 hc0 zb_28_8
                    have e51 : (m46 a0 8) = (m26 a0 8) := (Eq.trans (zs_ne hmm46 (Or.inr (by decide))) (zs_ne hmm44 (Or.inr (by decide))))
                    exact zw_some ⟨hIm46, hFm46, hRNSm46, hRWDm46, ⟨by omega, by omega⟩, by omega, by omega⟩
            · refine zw_b (by omega) ?_
              refine zw_some ?_
              refine zw_ite (fun h52 => ?_) (fun h52 => ?_)
              · generalize hmm53 : zu_up m26 a0 11 (m26 a0 9) = m53
                have hIm53 := zi_up hmm53 hIm26 hc0 zb_28_11 (by omega) (by omega)
                have hFm53 := zfr_up hmm53 hFm26 hc0 rfl
                have hRNSm53 := zR_NS_fr (zdis_fr (zfr_up hmm53 (zfr_rf [(28, 12)] _) hc0 rfl) rfl) hRNSm26
                have hRWDm53 := zR_WD_fr (zdis_fr (zfr_up hmm53 (zfr_rf [(28, 12)] _) hc0 rfl) rfl) hRWDm26
                refine zw_bd (zw_mono (zk_89 n hIm53 hc0 hRNSm53 hRWDm53) (fun v55 m54 hqm54 => ?_))
                obtain ⟨hIm54, hfm54, hvm54⟩ := hqm54
                have hFm54 := zfr_tr hFm53 hfm54 rfl
                obtain ⟨hRNSm54, hRWDm54, hvm54⟩ := hvm54
                have s56 := hRNSm54 a0 hc0
                refine zw_b (by omega) ?_
                refine zw_some ?_
                refine zw_ite (fun h57 => ?_) (fun h57 => ?_)
                · have r58 : (-2147483648) ≤ (m54 a0 11) ∧ (m54 a0 11) ≤ 2147483647 := zi_rd hIm54 hc0 zb_28_11
                  have e59 : (m54 a0 11) = (m26 a0 9) := (Eq.trans (zfr_ap hfm54 hc0 rfl) (zs_eq hmm53))
                  have r60 : 0 ≤ (m54 a0 10) ∧ (m54 a0 10) ≤ 700 := zi_rd hIm54 hc0 zb_28_10
                  generalize hmm61 : zu_up m54 a0 42 (m54 a0 10) = m61
                  have hIm61 := zi_up hmm61 hIm54 hc0 zb_28_42 (by omega) (by omega)
                  have hFm61 := zfr_up hmm61 hFm54 hc0 rfl
                  have hRNSm61 := zR_NS_fr (zdis_fr (zfr_up hmm61 (zfr_rf [(28, 43)] _) hc0 rfl) rfl) hRNSm54
                  have hRWDm61 := zR_WD_fr (zdis_fr (zfr_up hmm61 (zfr_rf [(28, 43)] _) hc0 rfl) rfl) hRWDm54
                  have r62 : 1 ≤ (m61 a0 18) ∧ (m61 a0 18) ≤ 6 := zi_rd hIm61 hc0 zb_28_18
                  have w63 := zu_w32_id (z := (m61 a0 18) - 1) (by omega) (by omega)
                  refine zw_bd (zw_eq (zr_94_0 n a0 0 (zu_w32 ((m61 a0 18) - 1)) m61) ?_)
                  have r64 : 0 ≤ (m61 a0 8) ∧ (m61 a0 8) ≤ 6 := zi_rd hIm61 hc0 zb_28_8
                  refine zw_ite (fun h65 => ?_) (fun h65 => ?_)
                  · have r66 : (-2147483648) ≤ (m61 a0 9) ∧ (m61 a0 9) ≤ 2147483647 := zi_rd hIm61 hc0 zb_28_9
                    refine zw_bd (zw_eq (zr_83_0 n (m61 a0 9) 0 (zu_w32 ((m61 a0 18) - 1)) m61) ?_)
                    refine zw_ite (fun h67 => ?_) (fun h67 => ?_)
                    · refine zw_b (by omega) ?_
                      refine zw_some ?_
                      refine zw_ite (fun h68 => ?_) (fun h68 => ?_)
                      · exfalso; omega
                      · refine zw_bd (zw_eq (zr_85_0 n a0 2 m61) ?_)
                        generalize hmm69 : zu_up m61 a0 4 2 = m69
                        have hIm69 := zi_up hmm69 hIm61 hc0 zb_28_4 (by omega) (by omega)
                        have hFm69 := zfr_up hmm69 hFm61 hc0 rfl
                        have hRNSm69 := zR_NS_fr (zdis_fr (zfr_up hmm69 (zfr_rf [(28, 5)] _) hc0 rfl) rfl) hRNSm61
                        have hRWDm69 := zR_WD_fr (zdis_fr (zfr_up hmm69 (zfr_rf [(28, 5)] _) hc0 rfl) rfl) hRWDm61
                        have r70 : 0 ≤ (m69 a0 10) ∧ (m69 a0 10) ≤ 700 := zi_rd hIm69 hc0 zb_28_10
                        have e71 : (m69 a0 10) = (m54 a0 10) := (Eq.trans (zs_ne hmm69 (Or.inr (by decide))) (zs_ne hmm61 (Or.inr (by decide))))
                        generalize hmm72 : zu_up m69 a0 5 (m69 a0 10) = m72
                        have hIm72 := zi_up hmm72 hIm69 hc0 zb_28_5 (by omega) (by omega)
                        have hFm72 := zfr_up hmm72 hFm69 hc0 rfl
                        have hRNSm72 := zR_NS_fr (zdis_fr (zfr_up hmm72 (zfr_rf [(28, 6)] _) hc0 rfl) rfl) hRNSm69
                        have hRWDm72 := zR_WD_fr (zdis_fr (zfr_up hmm72 (zfr_rf [(28, 6)] _) hc0 rfl) rfl) hRWDm69
                        refine zw_b (by omega) ?_
                        refine zw_some ?_
                        refine zw_b (by omega) ?_
                        refine zw_some ?_
                        refine zw_ite (fun h73 => ?_) (fun h73 => ?_)
                        · exfalso; omega
                        · refine zw_b (by omega) ?_
                          refine zw_some ?_
                          refine zw_ite (fun h74 => ?_) (fun h74 => ?_)
                          · exfalso; omega
                          · refine zw_b (by omega) ?_
                            have r75 : 0 ≤ (m72 a0 7) ∧ (m72 a0 7) ≤ 700 := zi_rd hIm72 hc0 zb_28_7
                            have r76 : 0 ≤ (m72 a0 8) ∧ (m72 a0 8) ≤ 6 := zi_rd hIm72 hc0 zb_28_8
                            have e77 : (m72 a0 8) = (m61 a0 8) := (Eq.trans (zs_ne hmm72 (Or.inr (by decide))) (zs_ne hmm69 (Or.inr (by decide))))
                            exact zw_some ⟨hIm72, hFm72, hRNSm72, hRWDm72, ⟨by omega, by omega⟩, by omega, by omega⟩
                    · refine zw_ite (fun h78 => ?_) (fun h78 => ?_)
                      · refine zw_b (by omega) ?_
                        refine zw_some ?_
                        refine zw_ite (fun h79 => ?_) (fun h79 => ?_)
                        · exfalso; omega
                        · refine zw_bd (zw_eq (zr_85_0 n a0 2 m61) ?_)
                          generalize hmm80 : zu_up m61 a0 4 2 = m80
                          have hIm80 := zi_up hmm80 hIm61 hc0 zb_28_4 (by omega) (by omega)
                          have hFm80 := zfr_up hmm80 hFm61 hc0 rfl
                          have hRNSm80 := zR_NS_fr (zdis_fr (zfr_up hmm80 (zfr_rf [(28, 5)] _) hc0 rfl) rfl) hRNSm61
                          have hRWDm80 := zR_WD_fr (zdis_fr (zfr_up hmm80 (zfr_rf [(28, 5)] _) hc0 rfl) rfl) hRWDm61
                          have r81 : 0 ≤ (m80 a0 10) ∧ (m80 a0 10) ≤ 700 := zi_rd hIm80 hc0 zb_28_10
                          have e82 : (m80 a0 10) = (m54 a0 10) := (Eq.trans (zs_ne hmm80 (Or.inr (by decide))) (zs_ne hmm61 (Or.inr (by decide))))
                          generalize hmm83 : zu_up m80 a0 5 (m80 a0 10) = m83
                          have hIm83 := zi_up hmm83 hIm80 hc0 zb_28_5 (by omega) (by omega)
                          have hFm83 := zfr_up hmm83 hFm80 hc0 rfl
                          have hRNSm83 := zR_NS_fr (zdis_fr (zfr_up hmm83 (zfr_rf [(28, 6)] _) hc0 rfl) rfl) hRNSm80
                          have hRWDm83 := zR_WD_fr (zdis_fr (zfr_up hmm83 (zfr_rf [(28, 6)] _) hc0 rfl) rfl) hRWDm80
                          refine zw_b (by omega) ?_
                          refine zw_some ?_
                          refine zw_b (by omega) ?_
                          refine zw_some ?_
                          refine zw_ite (fun h84 => ?_) (fun h84 => ?_)
                          · exfalso; omega
                          · refine zw_b (by omega) ?_
                            refine zw_some ?_
                            refine zw_ite (fun h85 => ?_) (fun h85 => ?_)
                            · exfalso; omega
                            · refine zw_b (by omega) ?_
                              have r86 : 0 ≤ (m83 a0 7) ∧ (m83 a0 7) ≤ 700 := zi_rd hIm83 hc0 zb_28_7
                              have r87 : 0 ≤ (m83 a0 8) ∧ (m83 a0 8) ≤ 6 := zi_rd hIm83 hc0 zb_28_8
                              have e88 : (m83 a0 8) = (m61 a0 8) := (Eq.trans (zs_ne hmm83 (Or.inr (by decide))) (zs_ne hmm80 (Or.inr (by decide))))
                              exact zw_some ⟨hIm83, hFm83, hRNSm83, hRWDm83, ⟨by omega, by omega⟩, by omega, by omega⟩
                      · refine zw_b (by omega) ?_
                        refine zw_some ?_
                        refine zw_ite (fun h89 => ?_) (fun h89 => ?_)
                        · generalize hmm90 : zu_up m61 a0 11 (m61 a0 9) = m90
                          have hIm90 := zi_up hmm90 hIm61 hc0 zb_28_11 (by omega) (by omega)
                          have hFm90 := zfr_up hmm90 hFm61 hc0 rfl
                          have hRNSm90 := zR_NS_fr (zdis_fr (zfr_up hmm90 (zfr_rf [(28, 12)] _) hc0 rfl) rfl) hRNSm61
                          have hRWDm90 := zR_WD_fr (zdis_fr (zfr_up hmm90 (zfr_rf [(28, 12)] _) hc0 rfl) rfl) hRWDm61
                          refine zw_bd (zw_mono (zk_89 n hIm90 hc0 hRNSm90 hRWDm90) (fun v92 m91 hqm91 => ?_))
                          obtain ⟨hIm91, hfm91, hvm91⟩ := hqm91
                          have hFm91 := zfr_tr hFm90 hfm91 rfl
                          obtain ⟨hRNSm91, hRWDm91, hvm91⟩ := hvm91
                          have s93 := hRNSm91 a0 hc0
                          refine zw_b (by omega) ?_
                          refine zw_some ?_
                          refine zw_ite (fun h94 => ?_) (fun h94 => ?_)
                          · have r95 : 1 ≤ (m91 a0 17) ∧ (m91 a0 17) ≤ 8 := zi_rd hIm91 hc0 zb_28_17
                            have e96 : (m91 a0 17) = (m26 a0 17) := (Eq.trans (zfr_ap hfm91 hc0 rfl) (Eq.trans (zs_ne hmm90 (Or.inr (by decide))) (Eq.trans (zs_ne hmm61 (Or.inr (by decide))) (Eq.trans (zfr_ap hfm54 hc0 rfl) (zs_ne hmm53 (Or.inr (by decide)))))))
                            have r97 : (-2147483648) ≤ (m91 a0 11) ∧ (m91 a0 11) ≤ 2147483647 := zi_rd hIm91 hc0 zb_28_11
                            have e98 : (m91 a0 11) = (m61 a0 9) := (Eq.trans (zfr_ap hfm91 hc0 rfl) (zs_eq hmm90))
                            have p99 := zmul_bd (x := (m91 a0 17)) (y := (m91 a0 11)) (a := 1) (b := 0) (A := 8) (B := 5) (by omega) (by omega) (by omega) (by omega) (by omega) (by omega)
                            have w100 := zu_w32_id (z := (m91 a0 17) * (m91 a0 11)) (by omega) (by omega)
                            have w101 := zu_w32_id (z := (zu_w32 ((m91 a0 17) * (m91 a0 11))) + (m54 a0 11)) (by omega) (by omega)
                            generalize hmm102 : zu_up m91 a0 11 (zu_w32 ((zu_w32 ((m91 a0 17) * (m91 a0 11))) + (m54 a0 11))) = m102
                            have hIm102 := zi_up hmm102 hIm91 hc0 zb_28_11 (by omega) (by omega)
                            have hFm102 := zfr_up hmm102 hFm91 hc0 rfl
                            have hRNSm102 := zR_NS_fr (zdis_fr (zfr_up hmm102 (zfr_rf [(28, 12)] _) hc0 rfl) rfl) hRNSm91
                            have hRWDm102 := zR_WD_fr (zdis_fr (zfr_up hmm102 (zfr_rf [(28, 12)] _) hc0 rfl) rfl) hRWDm91
                            refine zw_b (by omega) ?_
                            refine zw_some ?_
                            refine zw_ite (fun h103 => ?_) (fun h103 => ?_)
                            · have r104 : (-2147483648) ≤ (m102 a0 11) ∧ (m102 a0 11) ≤ 2147483647 := zi_rd hIm102 hc0 zb_28_11
                              have e105 : (m102 a0 11) = (zu_w32 ((zu_w32 ((m91 a0 17) * (m91 a0 11))) + (m54 a0 11))) := (zs_eq hmm102)
                              have b106 : 0 ≤ (zu_w32 (4 + (m12 a0 20))) ∧ (zu_w32 (4 + (m12 a0 20))) < 8 := by omega
                              refine zw_if b106 ?_
                              generalize hmm107 : zu_up m102 201 (zu_w32 (4 + (m12 a0 20))) (m102 a0 11) = m107
                              have hIm107 := zi_up hmm107 hIm102 zq_201 (zb_110 _) (by omega) (by omega)
                              have hFm107 := zfr_up hmm107 hFm102 zq_201 rfl
                              have hRNSm107 := zR_NS_fr (zdis_fr (zfr_up hmm107 (zfr_rf [(110, 0)] _) zq_201 rfl) rfl) hRNSm102
                              have hRWDm107 := zR_WD_fr (zdis_fr (zfr_up hmm107 (zfr_rf [(110, 0)] _) zq_201 rfl) rfl) hRWDm102
                              refine zw_bd (zw_eq (zr_94_0 n a0 1 15 m107) ?_)
                              have r108 : 0 ≤ (m107 a0 8) ∧ (m107 a0 8) ≤ 6 := zi_rd hIm107 hc0 zb_28_8
                              refine zw_ite (fun h109 => ?_) (fun h109 => ?_)
                              · have r110 : (-2147483648) ≤ (m107 a0 9) ∧ (m107 a0 9) ≤ 2147483647 := zi_rd hIm107 hc0 zb_28_9
                                refine zw_bd (zw_eq (zr_83_0 n (m107 a0 9) 1 15 m107) ?_)
                                refine zw_ite (fun h111 => ?_) (fun h111 => ?_)
                                · refine zw_b (by omega) ?_
                                  refine zw_some ?_
                                  refine zw_ite (fun h112 => ?_) (fun h112 => ?_)
                                  · exfalso; omega
                                  · refine zw_bd (zw_eq (zr_85_0 n a0 2 m107) ?_)
                                    generalize hmm113 : zu_up m107 a0 4 2 = m113
                                    have hIm113 := zi_up hmm113 hIm107 hc0 zb_28_4 (by omega) (by omega)
                                    have hFm113 := zfr_up hmm113 hFm107 hc0 rfl
                                    have hRNSm113 := zR_NS_fr (zdis_fr (zfr_up hmm113 (zfr_rf [(28, 5)] _) hc0 rfl) rfl) hRNSm107
                                    have hRWDm113 := zR_WD_fr (zdis_fr (zfr_up hmm113 (zfr_rf [(28, 5)] _) hc0 rfl) rfl) hRWDm107
                                    have r114 : 0 ≤ (m113 a0 10) ∧ (m113 a0 10) ≤ 700 := zi_rd hIm113 hc0 zb_28_10
                                    generalize hmm115 : zu_up m113 a0 5 (m113 a0 10) = m115
                                    have hIm115 := zi_up hmm115 hIm113 hc0 zb_28_5 (by omega) (by omega)
                                    have hFm115 := zfr_up hmm115 hFm113 hc0 rfl
                                    have hRNSm115 := zR_NS_fr (zdis_fr (zfr_up hmm115 (zfr_rf [(28, 6)] _) hc0 rfl) rfl) hRNSm113
                                    have hRWDm115 := zR_WD_fr (zdis_fr (zfr_up hmm115 (zfr_rf [(28, 6)] _) hc0 rfl) rfl) hRWDm113
                                    refine zw_b (by omega) ?_
                                    refine zw_some ?_
                                    refine zw_b (by omega) ?_
                                    refine zw_some ?_
                                    refine zw_ite (fun h116 => ?_) (fun h116 => ?_)
                                    · exfalso; omega
                                    · refine zw_b (by omega) ?_
                                      have r117 : 0 ≤ (m115 a0 7) ∧ (m115 a0 7) ≤ 700 := zi_rd hIm115 hc0 zb_28_7
                                      have r118 : 0 ≤ (m115 a0 8) ∧ (m115 a0 8) ≤ 6 := zi_rd hIm115 hc0 zb_28_8
                                      have e119 : (m115 a0 8) = (m107 a0 8) := (Eq.trans (zs_ne hmm115 (Or.inr (by decide))) (zs_ne hmm113 (Or.inr (by decide))))
                                      exact zw_some ⟨hIm115, hFm115, hRNSm115, hRWDm115, ⟨by omega, by omega⟩, by omega, by omega⟩
                                · refine zw_ite (fun h120 => ?_) (fun h120 => ?_)
                                  · refine zw_b (by omega) ?_
                                    refine zw_some ?_
                                    refine zw_ite (fun h121 => ?_) (fun h121 => ?_)
                                    · exfalso; omega
                                    · refine zw_bd (zw_eq (zr_85_0 n a0 2 m107) ?_)
                                      generalize hmm122 : zu_up m107 a0 4 2 = m122
                                      have hIm122 := zi_up hmm122 hIm107 hc0 zb_28_4 (by omega) (by omega)
                                      have hFm122 := zfr_up hmm122 hFm107 hc0 rfl
                                      have hRNSm122 := zR_NS_fr (zdis_fr (zfr_up hmm122 (zfr_rf [(28, 5)] _) hc0 rfl) rfl) hRNSm107
                                      have hRWDm122 := zR_WD_fr (zdis_fr (zfr_up hmm122 (zfr_rf [(28, 5)] _) hc0 rfl) rfl) hRWDm107
                                      have r123 : 0 ≤ (m122 a0 10) ∧ (m122 a0 10) ≤ 700 := zi_rd hIm122 hc0 zb_28_10
                                      generalize hmm124 : zu_up m122 a0 5 (m122 a0 10) = m124
                                      have hIm124 := zi_up hmm124 hIm122 hc0 zb_28_5 (by omega) (by omega)
                                      have hFm124 := zfr_up hmm124 hFm122 hc0 rfl
                                      have hRNSm124 := zR_NS_fr (zdis_fr (zfr_up hmm124 (zfr_rf [(28, 6)] _) hc0 rfl) rfl) hRNSm122
                                      have hRWDm124 := zR_WD_fr (zdis_fr (zfr_up hmm124 (zfr_rf [(28, 6)] _) hc0 rfl) rfl) hRWDm122
                                      refine zw_b (by omega) ?_
                                      refine zw_some ?_
                                      refine zw_b (by omega) ?_
                                      refine zw_some ?_
                                      refine zw_ite (fun h125 => ?_) (fun h125 => ?_)
                                      · exfalso; omega
                                      · refine zw_b (by omega) ?_
                                        have r126 : 0 ≤ (m124 a0 7) ∧ (m124 a0 7) ≤ 700 := zi_rd hIm124 hc0 zb_28_7
                                        have r127 : 0 ≤ (m124 a0 8) ∧ (m124 a0 8) ≤ 6 := zi_rd hIm124 hc0 zb_28_8
                                        have e128 : (m124 a0 8) = (m107 a0 8) := (Eq.trans (zs_ne hmm124 (Or.inr (by decide))) (zs_ne hmm122 (Or.inr (by decide))))
                                        exact zw_some ⟨hIm124, hFm124, hRNSm124, hRWDm124, ⟨by omega, by omega⟩, by omega, by omega⟩
                                  · refine zw_b (by omega) ?_
                                    refine zw_some ?_
                                    refine zw_ite (fun h129 => ?_) (fun h129 => ?_)
                                    · generalize hmm130 : zu_up m107 a0 11 (m107 a0 9) = m130
                                      have hIm130 := zi_up hmm130 hIm107 hc0 zb_28_11 (by omega) (by omega)
                                      have hFm130 := zfr_up hmm130 hFm107 hc0 rfl
                                      have hRNSm130 := zR_NS_fr (zdis_fr (zfr_up hmm130 (zfr_rf [(28, 12)] _) hc0 rfl) rfl) hRNSm107
                                      have hRWDm130 := zR_WD_fr (zdis_fr (zfr_up hmm130 (zfr_rf [(28, 12)] _) hc0 rfl) rfl) hRWDm107
                                      refine zw_bd (zw_mono (zk_89 n hIm130 hc0 hRNSm130 hRWDm130) (fun v132 m131 hqm131 => ?_))
                                      obtain ⟨hIm131, hfm131, hvm131⟩ := hqm131
                                      have hFm131 := zfr_tr hFm130 hfm131 rfl
                                      obtain ⟨hRNSm131, hRWDm131, hvm131⟩ := hvm131
                                      have s133 := hRNSm131 a0 hc0
                                      refine zw_b (by omega) ?_
                                      refine zw_some ?_
                                      refine zw_ite (fun h134 => ?_) (fun h134 => ?_)
                                      · have r135 : (-2147483648) ≤ (m131 a0 11) ∧ (m131 a0 11) ≤ 2147483647 := zi_rd hIm131 hc0 zb_28_11
                                        have e136 : (m131 a0 11) = (m107 a0 9) := (Eq.trans (zfr_ap hfm131 hc0 rfl) (zs_eq hmm130))
                                        have b137 : 0 ≤ (zu_w32 (4 + (m12 a0 20))) ∧ (zu_w32 (4 + (m12 a0 20))) < 8 := by omega
                                        refine zw_if b137 ?_
                                        generalize hmm138 : zu_up m131 202 (zu_w32 (4 + (m12 a0 20))) (m131 a0 11) = m138
                                        have hIm138 := zi_up hmm138 hIm131 zq_202 (zb_111 _) (by omega) (by omega)
                                        have hFm138 := zfr_up hmm138 hFm131 zq_202 rfl
                                        have hRNSm138 := zR_NS_fr (zdis_fr (zfr_up hmm138 (zfr_rf [(111, 0)] _) zq_202 rfl) rfl) hRNSm131
                                        have hRWDm138 := zR_WD_fr (zdis_fr (zfr_up hmm138 (zfr_rf [(111, 0)] _) zq_202 rfl) rfl) hRWDm131
                                        refine zw_bd (zw_eq (zr_94_0 n a0 0 3 m138) ?_)
                                        have r139 : 0 ≤ (m138 a0 8) ∧ (m138 a0 8) ≤ 6 := zi_rd hIm138 hc0 zb_28_8
                                        refine zw_ite (fun h140 => ?_) (fun h140 => ?_)
                                        · have r141 : (-2147483648) ≤ (m138 a0 9) ∧ (m138 a0 9) ≤ 2147483647 := zi_rd hIm138 hc0 zb_28_9
                                          refine zw_bd (zw_eq (zr_83_0 n (m138 a0 9) 0 3 m138) ?_)
                                          refine zw_ite (fun h142 => ?_) (fun h142 => ?_)
                                          · refine zw_b (by omega) ?_
                                            refine zw_some ?_
                                            refine zw_ite (fun h143 => ?_) (fun h143 => ?_)
                                            · exfalso; omega
                                            · refine zw_bd (zw_eq (zr_85_0 n a0 2 m138) ?_)
                                              generalize hmm144 : zu_up m138 a0 4 2 = m144
                                              have hIm144 := zi_up hmm144 hIm138 hc0 zb_28_4 (by omega) (by omega)
                                              have hFm144 := zfr_up hmm144 hFm138 hc0 rfl
                                              have hRNSm144 := zR_NS_fr (zdis_fr (zfr_up hmm144 (zfr_rf [(28, 5)] _) hc0 rfl) rfl) hRNSm138
                                              have hRWDm144 := zR_WD_fr (zdis_fr (zfr_up hmm144 (zfr_rf [(28, 5)] _) hc0 rfl) rfl) hRWDm138
                                              have r145 : 0 ≤ (m144 a0 10) ∧ (m144 a0 10) ≤ 700 := zi_rd hIm144 hc0 zb_28_10
                                              generalize hmm146 : zu_up m144 a0 5 (m144 a0 10) = m146
                                              have hIm146 := zi_up hmm146 hIm144 hc0 zb_28_5 (by omega) (by omega)
                                              have hFm146 := zfr_up hmm146 hFm144 hc0 rfl
                                              have hRNSm146 := zR_NS_fr (zdis_fr (zfr_up hmm146 (zfr_rf [(28, 6)] _) hc0 rfl) rfl) hRNSm144
                                              have hRWDm146 := zR_WD_fr (zdis_fr (zfr_up hmm146 (zfr_rf [(28, 6)] _) hc0 rfl) rfl) hRWDm144
                                              refine zw_b (by omega) ?_
                                              refine zw_some ?_
                                              refine zw_b (by omega) ?_
                                              refine zw_some ?_
                                              refine zw_ite (fun h147 => ?_) (fun h147 => ?_)
                                              · exfalso; omega
                                              · refine zw_b (by omega) ?_
                                                have r148 : 0 ≤ (m146 a0 7) ∧ (m146 a0 7) ≤ 700 := zi_rd hIm146 hc0 zb_28_7
                                                have r149 : 0 ≤ (m146 a0 8) ∧ (m146 a0 8) ≤ 6 := zi_rd hIm146 hc0 zb_28_8
                                                have e150 : (m146 a0 8) = (m138 a0 8) := (Eq.trans (zs_ne hmm146 (Or.inr (by decide))) (zs_ne hmm144 (Or.inr (by decide))))
                                                exact zw_some ⟨hIm146, hFm146, hRNSm146, hRWDm146, ⟨by omega, by omega⟩, by omega, by omega⟩
                                          · refine zw_ite (fun h151 => ?_) (fun h151 => ?_)
                                            · refine zw_b (by omega) ?_
                                              refine zw_some ?_
                                              refine zw_ite (fun h152 => ?_) (fun h152 => ?_)
                                              · exfalso; omega
                                              · refine zw_bd (zw_eq (zr_85_0 n a0 2 m138) ?_)
                                                generalize hmm153 : zu_up m138 a0 4 2 = m153
                                                have hIm153 := zi_up hmm153 hIm138 hc0 zb_28_4 (by omega) (by omega)
                                                have hFm153 := zfr_up hmm153 hFm138 hc0 rfl
                                                have hRNSm153 := zR_NS_fr (zdis_fr (zfr_up hmm153 (zfr_rf [(28, 5)] _) hc0 rfl) rfl) hRNSm138
                                                have hRWDm153 := zR_WD_fr (zdis_fr (zfr_up hmm153 (zfr_rf [(28, 5)] _) hc0 rfl) rfl) hRWDm138
                                                have r154 : 0 ≤ (m153 a0 10) ∧ (m153 a0 10) ≤ 700 := zi_rd hIm153 hc0 zb_28_10
                                                generalize hmm155 : zu_up m153 a0 5 (m153 a0 10) = m155
                                                have hIm155 := zi_up hmm155 hIm153 hc0 zb_28_5 (by omega) (by omega)
                                                have hFm155 := zfr_up hmm155 hFm153 hc0 rfl
                                                have hRNSm155 := zR_NS_fr (zdis_fr (zfr_up hmm155 (zfr_rf [(28, 6)] _) hc0 rfl) rfl) hRNSm153
                                                have hRWDm155 := zR_WD_fr (zdis_fr (zfr_up hmm155 (zfr_rf [(28, 6)] _) hc0 rfl) rfl) hRWDm153
                                                refine zw_b (by omega) ?_
                                                refine zw_some ?_
                                                refine zw_b (by omega) ?_
                                                refine zw_some ?_
                                                refine zw_ite (fun h156 => ?_) (fun h156 => ?_)
                                                · exfalso; omega
                                                · refine zw_b (by omega) ?_
                                                  have r157 : 0 ≤ (m155 a0 7) ∧ (m155 a0 7) ≤ 700 := zi_rd hIm155 hc0 zb_28_7
                                                  have r158 : 0 ≤ (m155 a0 8) ∧ (m155 a0 8) ≤ 6 := zi_rd hIm155 hc0 zb_28_8
                                                  have e159 : (m155 a0 8) = (m138 a0 8) := (Eq.trans (zs_ne hmm155 (Or.inr (by decide))) (zs_ne hmm153 (Or.inr (by decide))))
                                                  exact zw_some ⟨hIm155, hFm155, hRNSm155, hRWDm155, ⟨by omega, by omega⟩, by omega, by omega⟩
                                            · refine zw_b (by omega) ?_
                                              refine zw_some ?_
                                              refine zw_ite (fun h160 => ?_) (fun h160 => ?_)
                                              · generalize hmm161 : zu_up m138 a0 11 (m138 a0 9) = m161
                                                have hIm161 := zi_up hmm161 hIm138 hc0 zb_28_11 (by omega) (by omega)
                                                have hFm161 := zfr_up hmm161 hFm138 hc0 rfl
                                                have hRNSm161 := zR_NS_fr (zdis_fr (zfr_up hmm161 (zfr_rf [(28, 12)] _) hc0 rfl) rfl) hRNSm138
                                                have hRWDm161 := zR_WD_fr (zdis_fr (zfr_up hmm161 (zfr_rf [(28, 12)] _) hc0 rfl) rfl) hRWDm138
                                                refine zw_bd (zw_mono (zk_89 n hIm161 hc0 hRNSm161 hRWDm161) (fun v163 m162 hqm162 => ?_))
                                                obtain ⟨hIm162, hfm162, hvm162⟩ := hqm162
                                                have hFm162 := zfr_tr hFm161 hfm162 rfl
                                                obtain ⟨hRNSm162, hRWDm162, hvm162⟩ := hvm162
                                                have s164 := hRNSm162 a0 hc0
                                                refine zw_b (by omega) ?_
                                                refine zw_some ?_
                                                refine zw_ite (fun h165 => ?_) (fun h165 => ?_)
                                                · have r166 : (-2147483648) ≤ (m162 a0 11) ∧ (m162 a0 11) ≤ 2147483647 := zi_rd hIm162 hc0 zb_28_11
                                                  have e167 : (m162 a0 11) = (m138 a0 9) := (Eq.trans (zfr_ap hfm162 hc0 rfl) (zs_eq hmm161))
                                                  have b168 : 0 ≤ (zu_w32 (4 + (m12 a0 20))) ∧ (zu_w32 (4 + (m12 a0 20))) < 8 := by omega
                                                  refine zw_if b168 ?_
                                                  generalize hmm169 : zu_up m162 203 (zu_w32 (4 + (m12 a0 20))) (m162 a0 11) = m169
                                                  have hIm169 := zi_up hmm169 hIm162 zq_203 (zb_112 _) (by omega) (by omega)
                                                  have hFm169 := zfr_up hmm169 hFm162 zq_203 rfl
                                                  have hRNSm169 := zR_NS_fr (zdis_fr (zfr_up hmm169 (zfr_rf [(112, 0)] _) zq_203 rfl) rfl) hRNSm162
                                                  have hRWDm169 := zR_WD_fr (zdis_fr (zfr_up hmm169 (zfr_rf [(112, 0)] _) zq_203 rfl) rfl) hRWDm162
                                                  refine zw_bd (zw_eq (zr_94_0 n a0 0 99 m169) ?_)
                                                  have r170 : 0 ≤ (m169 a0 8) ∧ (m169 a0 8) ≤ 6 := zi_rd hIm169 hc0 zb_28_8
                                                  refine zw_ite (fun h171 => ?_) (fun h171 => ?_)
                                                  · have r172 : (-2147483648) ≤ (m169 a0 9) ∧ (m169 a0 9) ≤ 2147483647 := zi_rd hIm169 hc0 zb_28_9
                                                    refine zw_bd (zw_eq (zr_83_0 n (m169 a0 9) 0 99 m169) ?_)
                                                    refine zw_ite (fun h173 => ?_) (fun h173 => ?_)
                                                    · refine zw_b (by omega) ?_
                                                      refine zw_some ?_
                                                      refine zw_ite (fun h174 => ?_) (fun h174 => ?_)
                                                      · exfalso; omega
                                                      · refine zw_bd (zw_eq (zr_85_0 n a0 2 m169) ?_)
                                                        generalize hmm175 : zu_up m169 a0 4 2 = m175
                                                        have hIm175 := zi_up hmm175 hIm169 hc0 zb_28_4 (by omega) (by omega)
                                                        have hFm175 := zfr_up hmm175 hFm169 hc0 rfl
                                                        have hRNSm175 := zR_NS_fr (zdis_fr (zfr_up hmm175 (zfr_rf [(28, 5)] _) hc0 rfl) rfl) hRNSm169
                                                        have hRWDm175 := zR_WD_fr (zdis_fr (zfr_up hmm175 (zfr_rf [(28, 5)] _) hc0 rfl) rfl) hRWDm169
                                                        have r176 : 0 ≤ (m175 a0 10) ∧ (m175 a0 10) ≤ 700 := zi_rd hIm175 hc0 zb_28_10
                                                        generalize hmm177 : zu_up m175 a0 5 (m175 a0 10) = m177
                                                        have hIm177 := zi_up hmm177 hIm175 hc0 zb_28_5 (by omega) (by omega)
                                                        have hFm177 := zfr_up hmm177 hFm175 hc0 rfl
                                                        have hRNSm177 := zR_NS_fr (zdis_fr (zfr_up hmm177 (zfr_rf [(28, 6)] _) hc0 rfl) rfl) hRNSm175
                                                        have hRWDm177 := zR_WD_fr (zdis_fr (zfr_up hmm177 (zfr_rf [(28, 6)] _) hc0 rfl) rfl) hRWDm175
                                                        refine zw_b (by omega) ?_
                                                        refine zw_some ?_
                                                        refine zw_b (by omega) ?_
                                                        refine zw_some ?_
                                                        refine zw_ite (fun h178 => ?_) (fun h178 => ?_)
                                                        · exfalso; omega
                                                        · refine zw_b (by omega) ?_
                                                          have r179 : 0 ≤ (m177 a0 7) ∧ (m177 a0 7) ≤ 700 := zi_rd hIm177 hc0 zb_28_7
                                                          have r180 : 0 ≤ (m177 a0 8) ∧ (m177 a0 8) ≤ 6 := zi_rd hIm177 hc0 zb_28_8
                                                          have e181 : (m177 a0 8) = (m169 a0 8) := (Eq.trans (zs_ne hmm177 (Or.inr (by decide))) (zs_ne hmm175 (Or.inr (by decide))))
                                                          exact zw_some ⟨hIm177, hFm177, hRNSm177, hRWDm177, ⟨by omega, by omega⟩, by omega, by omega⟩
                                                    · refine zw_ite (fun h182 => ?_) (fun h182 => ?_)
                                                      · refine zw_b (by omega) ?_
                                                        refine zw_some ?_
                                                        refine zw_ite (fun h183 => ?_) (fun h183 => ?_)
                                                        · exfalso; omega
                                                        · refine zw_bd (zw_eq (zr_85_0 n a0 2 m169) ?_)
                                                          generalize hmm184 : zu_up m169 a0 4 2 = m184
                                                          have hIm184 := zi_up hmm184 hIm169 hc0 zb_28_4 (by omega) (by omega)
                                                          have hFm184 := zfr_up hmm184 hFm169 hc0 rfl
                                                          have hRNSm184 := zR_NS_fr (zdis_fr (zfr_up hmm184 (zfr_rf [(28, 5)] _) hc0 rfl) rfl) hRNSm169
                                                          have hRWDm184 := zR_WD_fr (zdis_fr (zfr_up hmm184 (zfr_rf [(28, 5)] _) hc0 rfl) rfl) hRWDm169
                                                          have r185 : 0 ≤ (m184 a0 10) ∧ (m184 a0 10) ≤ 700 := zi_rd hIm184 hc0 zb_28_10
                                                          generalize hmm186 : zu_up m184 a0 5 (m184 a0 10) = m186
                                                          have hIm186 := zi_up hmm186 hIm184 hc0 zb_28_5 (by omega) (by omega)
                                                          have hFm186 := zfr_up hmm186 hFm184 hc0 rfl
                                                          have hRNSm186 := zR_NS_fr (zdis_fr (zfr_up hmm186 (zfr_rf [(28, 6)] _) hc0 rfl) rfl) hRNSm184
                                                          have hRWDm186 := zR_WD_fr (zdis_fr (zfr_up hmm186 (zfr_rf [(28, 6)] _) hc0 rfl) rfl) hRWDm184
                                                          refine zw_b (by omega) ?_
                                                          refine zw_some ?_
                                                          refine zw_b (by omega) ?_
                                                          refine zw_some ?_
                                                          refine zw_ite (fun h187 => ?_) (fun h187 => ?_)
                                                          · exfalso; omega
                                                          · refine zw_b (by omega) ?_
                                                            have r188 : 0 ≤ (m186 a0 7) ∧ (m186 a0 7) ≤ 700 := zi_rd hIm186 hc0 zb_28_7
                                                            have r189 : 0 ≤ (m186 a0 8) ∧ (m186 a0 8) ≤ 6 := zi_rd hIm186 hc0 zb_28_8
                                                            have e190 : (m186 a0 8) = (m169 a0 8) := (Eq.trans (zs_ne hmm186 (Or.inr (by decide))) (zs_ne hmm184 (Or.inr (by decide))))
                                                            exact zw_some ⟨hIm186, hFm186, hRNSm186, hRWDm186, ⟨by omega, by omega⟩, by omega, by omega⟩
                                                      · refine zw_b (by omega) ?_
                                                        refine zw_some ?_
                                                        refine zw_ite (fun h191 => ?_) (fun h191 => ?_)
                                                        · generalize hmm192 : zu_up m169 a0 11 (m169 a0 9) = m192
                                                          have hIm192 := zi_up hmm192 hIm169 hc0 zb_28_11 (by omega) (by omega)
                                                          have hFm192 := zfr_up hmm192 hFm169 hc0 rfl
                                                          have hRNSm192 := zR_NS_fr (zdis_fr (zfr_up hmm192 (zfr_rf [(28, 12)] _) hc0 rfl) rfl) hRNSm169
                                                          have hRWDm192 := zR_WD_fr (zdis_fr (zfr_up hmm192 (zfr_rf [(28, 12)] _) hc0 rfl) rfl) hRWDm169
                                                          refine zw_bd (zw_mono (zk_89 n hIm192 hc0 hRNSm192 hRWDm192) (fun v194 m193 hqm193 => ?_))
                                                          obtain ⟨hIm193, hfm193, hvm193⟩ := hqm193
                                                          have hFm193 := zfr_tr hFm192 hfm193 rfl
                                                          obtain ⟨hRNSm193, hRWDm193, hvm193⟩ := hvm193
                                                          have s195 := hRNSm193 a0 hc0
                                                          refine zw_b (by omega) ?_
                                                          refine zw_some ?_
                                                          refine zw_ite (fun h196 => ?_) (fun h196 => ?_)
                                                          · have r197 : (-2147483648) ≤ (m193 a0 11) ∧ (m193 a0 11) ≤ 2147483647 := zi_rd hIm193 hc0 zb_28_11
                                                            have e198 : (m193 a0 11) = (m169 a0 9) := (Eq.trans (zfr_ap hfm193 hc0 rfl) (zs_eq hmm192))
                                                            have b199 : 0 ≤ (zu_w32 (4 + (m12 a0 20))) ∧ (zu_w32 (4 + (m12 a0 20))) < 8 := by omega
                                                            refine zw_if b199 ?_
                                                            generalize hmm200 : zu_up m193 204 (zu_w32 (4 + (m12 a0 20))) (m193 a0 11) = m200
                                                            have hIm200 := zi_up hmm200 hIm193 zq_204 (zb_113 _) (by omega) (by omega)
                                                            have hFm200 := zfr_up hmm200 hFm193 zq_204 rfl
                                                            have hRNSm200 := zR_NS_fr (zdis_fr (zfr_up hmm200 (zfr_rf [(113, 0)] _) zq_204 rfl) rfl) hRNSm193
                                                            have hRWDm200 := zR_WD_fr (zdis_fr (zfr_up hmm200 (zfr_rf [(113, 0)] _) zq_204 rfl) rfl) hRWDm193
                                                            have r201 : 0 ≤ (m200 a0 20) ∧ (m200 a0 20) ≤ 4 := zi_rd hIm200 hc0 zb_28_20
                                                            have e202 : (m200 a0 20) = (m12 a0 20) := (Eq.trans (zs_ne hmm200 (Or.inl (zc_ne hc0 zq_204 (by decide)))) (Eq.trans (zfr_ap hfm193 hc0 rfl) (Eq.trans (zs_ne hmm192 (Or.inr (by decide))) (Eq.trans (zs_ne hmm169 (Or.inl (zc_ne hc0 zq_203 (by decide)))) (Eq.trans (zfr_ap hfm162 hc0 rfl) (Eq.trans (zs_ne hmm161 (Or.inr (by decide))) (Eq.trans (zs_ne hmm138 (Or.inl (zc_ne hc0 zq_202 (by decide)))) (Eq.trans (zfr_ap hfm131 hc0 rfl) (Eq.trans (zs_ne hmm130 (Or.inr (by decide))) (Eq.trans (zs_ne hmm107 (Or.inl (zc_ne hc0 zq_201 (by decide)))) (Eq.trans (zs_ne hmm102 (Or.inr (by decide))) (Eq.trans (zfr_ap hfm91 hc0 rfl) (Eq.trans (zs_ne hmm90 (Or.inr (by decide))) (Eq.trans (zs_ne hmm61 (Or.inr (by decide))) (Eq.trans (zfr_ap hfm54 hc0 rfl) (Eq.trans (zs_ne hmm53 (Or.inr (by decide))) (Eq.trans (zs_ne hmm26 (Or.inr (by decide))) (Eq.trans (zfr_ap hfm23 hc0 rfl) (zs_ne hmm22 (Or.inl (zc_ne hc0 zq_200 (by decide))))))))))))))))))))))
                                                            have w203 := zu_w32_id (z := (m200 a0 20) + 1) (by omega) (by omega)
                                                            generalize hmm204 : zu_up m200 a0 20 (zu_w32 ((m200 a0 20) + 1)) = m204
                                                            have hIm204 := zi_up hmm204 hIm200 hc0 zb_28_20 (by omega) (by omega)
                                                            have hFm204 := zfr_up hmm204 hFm200 hc0 rfl
                                                            have hRNSm204 := zR_NS_fr (zdis_fr (zfr_up hmm204 (zfr_rf [(28, 21)] _) hc0 rfl) rfl) hRNSm200
                                                            have hRWDm204 := zR_WD_fr (zdis_fr (zfr_up hmm204 (zfr_rf [(28, 21)] _) hc0 rfl) rfl) hRWDm200
                                                            refine zw_b (by omega) ?_
                                                            have r205 : 0 ≤ (m204 a0 7) ∧ (m204 a0 7) ≤ 700 := zi_rd hIm204 hc0 zb_28_7
                                                            have r206 : 0 ≤ (m204 a0 8) ∧ (m204 a0 8) ≤ 6 := zi_rd hIm204 hc0 zb_28_8
                                                            exact zw_some ⟨hIm204, hFm204, hRNSm204, hRWDm204, ⟨by omega, by omega⟩, by omega, by omega⟩
                                                          · exfalso; omega
                                                        · exfalso; omega
                                                  · refine zw_bd (zw_eq (zr_85_0 n a0 1 m169) ?_)
                                                    generalize hmm207 : zu_up m169 a0 4 1 = m207
                                                    have hIm207 := zi_up hmm207 hIm169 hc0 zb_28_4 (by omega) (by omega)
                                                    have hFm207 := zfr_up hmm207 hFm169 hc0 rfl
                                                    have hRNSm207 := zR_NS_fr (zdis_fr (zfr_up hmm207 (zfr_rf [(28, 5)] _) hc0 rfl) rfl) hRNSm169
                                                    have hRWDm207 := zR_WD_fr (zdis_fr (zfr_up hmm207 (zfr_rf [(28, 5)] _) hc0 rfl) rfl) hRWDm169
                                                    have r208 : 0 ≤ (m207 a0 10) ∧ (m207 a0 10) ≤ 700 := zi_rd hIm207 hc0 zb_28_10
                                                    generalize hmm209 : zu_up m207 a0 5 (m207 a0 10) = m209
                                                    have hIm209 := zi_up hmm209 hIm207 hc0 zb_28_5 (by omega) (by omega)
                                                    have hFm209 := zfr_up hmm209 hFm207 hc0 rfl
                                                    have hRNSm209 := zR_NS_fr (zdis_fr (zfr_up hmm209 (zfr_rf [(28, 6)] _) hc0 rfl) rfl) hRNSm207
                                                    have hRWDm209 := zR_WD_fr (zdis_fr (zfr_up hmm209 (zfr_rf [(28, 6)] _) hc0 rfl) rfl) hRWDm207
                                                    refine zw_b (by omega) ?_
                                                    refine zw_some ?_
                                                    refine zw_b (by omega) ?_
                                                    refine zw_some ?_
                                                    refine zw_ite (fun h210 => ?_) (fun h210 => ?_)
                                                    · exfalso; omega
                                                    · refine zw_b (by omega) ?_
                                                      have r211 : 0 ≤ (m209 a0 7) ∧ (m209 a0 7) ≤ 700 := zi_rd hIm209 hc0 zb_28_7
                                                      have r212 : 0 ≤ (m209 a0 8) ∧ (m209 a0 8) ≤ 6 := zi_rd hIm209 hc0 zb_28_8
                                                      have e213 : (m209 a0 8) = (m169 a0 8) := (Eq.trans (zs_ne hmm209 (Or.inr (by decide))) (zs_ne hmm207 (Or.inr (by decide))))
                                                      exact zw_some ⟨hIm209, hFm209, hRNSm209, hRWDm209, ⟨by omega, by omega⟩, by omega, by omega⟩
                                                · exfalso; omega
                                              · exfalso; omega
                                        · refine zw_bd (zw_eq (zr_85_0 n a0 1 m138) ?_)
                                          generalize hmm214 : zu_up m138 a0 4 1 = m214
                                          have hIm214 := zi_up hmm214 hIm138 hc0 zb_28_4 (by omega) (by omega)
                                          have hFm214 := zfr_up hmm214 hFm138 hc0 rfl
                                          have hRNSm214 := zR_NS_fr (zdis_fr (zfr_up hmm214 (zfr_rf [(28, 5)] _) hc0 rfl) rfl) hRNSm138
                                          have hRWDm214 := zR_WD_fr (zdis_fr (zfr_up hmm214 (zfr_rf [(28, 5)] _) hc0 rfl) rfl) hRWDm138
                                          have r215 : 0 ≤ (m214 a0 10) ∧ (m214 a0 10) ≤ 700 := zi_rd hIm214 hc0 zb_28_10
                                          generalize hmm216 : zu_up m214 a0 5 (m214 a0 10) = m216
                                          have hIm216 := zi_up hmm216 hIm214 hc0 zb_28_5 (by omega) (by omega)
                                          have hFm216 := zfr_up hmm216 hFm214 hc0 rfl
                                          have hRNSm216 := zR_NS_fr (zdis_fr (zfr_up hmm216 (zfr_rf [(28, 6)] _) hc0 rfl) rfl) hRNSm214
                                          have hRWDm216 := zR_WD_fr (zdis_fr (zfr_up hmm216 (zfr_rf [(28, 6)] _) hc0 rfl) rfl) hRWDm214
                                          refine zw_b (by omega) ?_
                                          refine zw_some ?_
                                          refine zw_b (by omega) ?_
                                          refine zw_some ?_
                                          refine zw_ite (fun h217 => ?_) (fun h217 => ?_)
                                          · exfalso; omega
                                          · refine zw_b (by omega) ?_
                                            have r218 : 0 ≤ (m216 a0 7) ∧ (m216 a0 7) ≤ 700 := zi_rd hIm216 hc0 zb_28_7
                                            have r219 : 0 ≤ (m216 a0 8) ∧ (m216 a0 8) ≤ 6 := zi_rd hIm216 hc0 zb_28_8
                                            have e220 : (m216 a0 8) = (m138 a0 8) := (Eq.trans (zs_ne hmm216 (Or.inr (by decide))) (zs_ne hmm214 (Or.inr (by decide))))
                                            exact zw_some ⟨hIm216, hFm216, hRNSm216, hRWDm216, ⟨by omega, by omega⟩, by omega, by omega⟩
                                      · exfalso; omega
                                    · exfalso; omega
                              · refine zw_bd (zw_eq (zr_85_0 n a0 1 m107) ?_)
                                generalize hmm221 : zu_up m107 a0 4 1 = m221
                                have hIm221 := zi_up hmm221 hIm107 hc0 zb_28_4 (by omega) (by omega)
                                have hFm221 := zfr_up hmm221 hFm107 hc0 rfl
                                have hRNSm221 := zR_NS_fr (zdis_fr (zfr_up hmm221 (zfr_rf [(28, 5)] _) hc0 rfl) rfl) hRNSm107
                                have hRWDm221 := zR_WD_fr (zdis_fr (zfr_up hmm221 (zfr_rf [(28, 5)] _) hc0 rfl) rfl) hRWDm107
                                have r222 : 0 ≤ (m221 a0 10) ∧ (m221 a0 10) ≤ 700 := zi_rd hIm221 hc0 zb_28_10
                                generalize hmm223 : zu_up m221 a0 5 (m221 a0 10) = m223
                                have hIm223 := zi_up hmm223 hIm221 hc0 zb_28_5 (by omega) (by omega)
                                have hFm223 := zfr_up hmm223 hFm221 hc0 rfl
                                have hRNSm223 := zR_NS_fr (zdis_fr (zfr_up hmm223 (zfr_rf [(28, 6)] _) hc0 rfl) rfl) hRNSm221
                                have hRWDm223 := zR_WD_fr (zdis_fr (zfr_up hmm223 (zfr_rf [(28, 6)] _) hc0 rfl) rfl) hRWDm221
                                refine zw_b (by omega) ?_
                                refine zw_some ?_
                                refine zw_b (by omega) ?_
                                refine zw_some ?_
                                refine zw_ite (fun h224 => ?_) (fun h224 => ?_)
                                · exfalso; omega
                                · refine zw_b (by omega) ?_
                                  have r225 : 0 ≤ (m223 a0 7) ∧ (m223 a0 7) ≤ 700 := zi_rd hIm223 hc0 zb_28_7
                                  have r226 : 0 ≤ (m223 a0 8) ∧ (m223 a0 8) ≤ 6 := zi_rd hIm223 hc0 zb_28_8
                                  have e227 : (m223 a0 8) = (m107 a0 8) := (Eq.trans (zs_ne hmm223 (Or.inr (by decide))) (zs_ne hmm221 (Or.inr (by decide))))
                                  exact zw_some ⟨hIm223, hFm223, hRNSm223, hRWDm223, ⟨by omega, by omega⟩, by omega, by omega⟩
                            · exfalso; omega
                          · exfalso; omega
                        · exfalso; omega
                  · refine zw_bd (zw_eq (zr_85_0 n a0 1 m61) ?_)
                    generalize hmm228 : zu_up m61 a0 4 1 = m228
                    have hIm228 := zi_up hmm228 hIm61 hc0 zb_28_4 (by omega) (by omega)
                    have hFm228 := zfr_up hmm228 hFm61 hc0 rfl
                    have hRNSm228 := zR_NS_fr (zdis_fr (zfr_up hmm228 (zfr_rf [(28, 5)] _) hc0 rfl) rfl) hRNSm61
                    have hRWDm228 := zR_WD_fr (zdis_fr (zfr_up hmm228 (zfr_rf [(28, 5)] _) hc0 rfl) rfl) hRWDm61
                    have r229 : 0 ≤ (m228 a0 10) ∧ (m228 a0 10) ≤ 700 := zi_rd hIm228 hc0 zb_28_10
                    have e230 : (m228 a0 10) = (m54 a0 10) := (Eq.trans (zs_ne hmm228 (Or.inr (by decide))) (zs_ne hmm61 (Or.inr (by decide))))
                    generalize hmm231 : zu_up m228 a0 5 (m228 a0 10) = m231
                    have hIm231 := zi_up hmm231 hIm228 hc0 zb_28_5 (by omega) (by omega)
                    have hFm231 := zfr_up hmm231 hFm228 hc0 rfl
                    have hRNSm231 := zR_NS_fr (zdis_fr (zfr_up hmm231 (zfr_rf [(28, 6)] _) hc0 rfl) rfl) hRNSm228
                    have hRWDm231 := zR_WD_fr (zdis_fr (zfr_up hmm231 (zfr_rf [(28, 6)] _) hc0 rfl) rfl) hRWDm228
                    refine zw_b (by omega) ?_
                    refine zw_some ?_
                    refine zw_b (by omega) ?_
                    refine zw_some ?_
                    refine zw_ite (fun h232 => ?_) (fun h232 => ?_)
                    · exfalso; omega
                    · refine zw_b (by omega) ?_
                      refine zw_some ?_
                      refine zw_ite (fun h233 => ?_) (fun h233 => ?_)
                      · exfalso; omega
                      · refine zw_b (by omega) ?_
                        have r234 : 0 ≤ (m231 a0 7) ∧ (m231 a0 7) ≤ 700 := zi_rd hIm231 hc0 zb_28_7
                        have r235 : 0 ≤ (m231 a0 8) ∧ (m231 a0 8) ≤ 6 := zi_rd hIm231 hc0 zb_28_8
                        have e236 : (m231 a0 8) = (m61 a0 8) := (Eq.trans (zs_ne hmm231 (Or.inr (by decide))) (zs_ne hmm228 (Or.inr (by decide))))
                        exact zw_some ⟨hIm231, hFm231, hRNSm231, hRWDm231, ⟨by omega, by omega⟩, by omega, by omega⟩
                · exfalso; omega
              · exfalso; omega
        · refine zw_bd (zw_eq (zr_85_0 n a0 1 m26) ?_)
          generalize hmm237 : zu_up m26 a0 4 1 = m237
          have hIm237 := zi_up hmm237 hIm26 hc0 zb_28_4 (by omega) (by omega)
          have hFm237 := zfr_up hmm237 hFm26 hc0 rfl
          have hRNSm237 := zR_NS_fr (zdis_fr (zfr_up hmm237 (zfr_rf [(28, 5)] _) hc0 rfl) rfl) hRNSm26
          have hRWDm237 := zR_WD_fr (zdis_fr (zfr_up hmm237 (zfr_rf [(28, 5)] _) hc0 rfl) rfl) hRWDm26
          have r238 : 0 ≤ (m237 a0 10) ∧ (m237 a0 10) ≤ 700 := zi_rd hIm237 hc0 zb_28_10
          generalize hmm239 : zu_up m237 a0 5 (m237 a0 10) = m239
          have hIm239 := zi_up hmm239 hIm237 hc0 zb_28_5 (by omega) (by omega)
          have hFm239 := zfr_up hmm239 hFm237 hc0 rfl
          have hRNSm239 := zR_NS_fr (zdis_fr (zfr_up hmm239 (zfr_rf [(28, 6)] _) hc0 rfl) rfl) hRNSm237
          have hRWDm239 := zR_WD_fr (zdis_fr (zfr_up hmm239 (zfr_rf [(28, 6)] _) hc0 rfl) rfl) hRWDm237
          refine zw_b (by omega) ?_
          refine zw_some ?_
          refine zw_b (by omega) ?_
          refine zw_some ?_
          refine zw_ite (fun h240 => ?_) (fun h240 => ?_)
          · exfalso; omega
          · refine zw_b (by omega) ?_
            refine zw_some ?_
            refine zw_ite (fun h241 => ?_) (fun h241 => ?_)
            · exfalso; omega
            · refine zw_b (by omega) ?_
              have r242 : 0 ≤ (m239 a0 7) ∧ (m239 a0 7) ≤ 700 := zi_rd hIm239 hc0 zb_28_7
              have r243 : 0 ≤ (m239 a0 8) ∧ (m239 a0 8) ≤ 6 := zi_rd hIm239 hc0 zb_28_8
              have e244 : (m239 a0 8) = (m26 a0 8) := (Eq.trans (zs_ne hmm239 (Or.inr (by decide))) (zs_ne hmm237 (Or.inr (by decide))))
              exact zw_some ⟨hIm239, hFm239, hRNSm239, hRWDm239, ⟨by omega, by omega⟩, by omega, by omega⟩
      · refine zw_bd (zw_eq (zr_85_0 n a0 3 m12) ?_)
        generalize hmm245 : zu_up m12 a0 4 3 = m245
        have hIm245 := zi_up hmm245 hIm12 hc0 zb_28_4 (by omega) (by omega)
        have hFm245 := zfr_up hmm245 hFm12 hc0 rfl
        have hRNSm245 := zR_NS_fr (zdis_fr (zfr_up hmm245 (zfr_rf [(28, 5)] _) hc0 rfl) rfl) hRNSm12
        have hRWDm245 := zR_WD_fr (zdis_fr (zfr_up hmm245 (zfr_rf [(28, 5)] _) hc0 rfl) rfl) hRWDm12
        have r246 : 0 ≤ (m245 a0 10) ∧ (m245 a0 10) ≤ 700 := zi_rd hIm245 hc0 zb_28_10
        generalize hmm247 : zu_up m245 a0 5 (m245 a0 10) = m247
        have hIm247 := zi_up hmm247 hIm245 hc0 zb_28_5 (by omega) (by omega)
        have hFm247 := zfr_up hmm247 hFm245 hc0 rfl
        have hRNSm247 := zR_NS_fr (zdis_fr (zfr_up hmm247 (zfr_rf [(28, 6)] _) hc0 rfl) rfl) hRNSm245
        have hRWDm247 := zR_WD_fr (zdis_fr (zfr_up hmm247 (zfr_rf [(28, 6)] _) hc0 rfl) rfl) hRWDm245
        refine zw_b (by omega) ?_
        refine zw_some ?_
        refine zw_b (by omega) ?_
        have r248 : 0 ≤ (m247 a0 7) ∧ (m247 a0 7) ≤ 700 := zi_rd hIm247 hc0 zb_28_7
        have r249 : 0 ≤ (m247 a0 8) ∧ (m247 a0 8) ≤ 6 := zi_rd hIm247 hc0 zb_28_8
        have e250 : (m247 a0 8) = (m4 a0 8) := (Eq.trans (zs_ne hmm247 (Or.inr (by decide))) (Eq.trans (zs_ne hmm245 (Or.inr (by decide))) (zfr_ap hfm12 hc0 rfl)))
        exact zw_some ⟨hIm247, hFm247, hRNSm247, hRWDm247, ⟨by omega, by omega⟩, by omega, by omega⟩
    · refine zw_bd (zw_eq (zr_85_0 n a0 1 m4) ?_)
      generalize hmm251 : zu_up m4 a0 4 1 = m251
      have hIm251 := zi_up hmm251 hIm4 hc0 zb_28_4 (by omega) (by omega)
      have hFm251 := zfr_up hmm251 hFm4 hc0 rfl
      have hRNSm251 := zR_NS_fr (zdis_fr (zfr_up hmm251 (zfr_rf [(28, 5)] _) hc0 rfl) rfl) hRNSm4
      have hRWDm251 := zR_WD_fr (zdis_fr (zfr_up hmm251 (zfr_rf [(28, 5)] _) hc0 rfl) rfl) hRWDm4
      have r252 : 0 ≤ (m251 a0 10) ∧ (m251 a0 10) ≤ 700 := zi_rd hIm251 hc0 zb_28_10
      generalize hmm253 : zu_up m251 a0 5 (m251 a0 10) = m253
      have hIm253 := zi_up hmm253 hIm251 hc0 zb_28_5 (by omega) (by omega)
      have hFm253 := zfr_up hmm253 hFm251 hc0 rfl
      have hRNSm253 := zR_NS_fr (zdis_fr (zfr_up hmm253 (zfr_rf [(28, 6)] _) hc0 rfl) rfl) hRNSm251
      have hRWDm253 := zR_WD_fr (zdis_fr (zfr_up hmm253 (zfr_rf [(28, 6)] _) hc0 rfl) rfl) hRWDm251
      refine zw_b (by omega) ?_
      refine zw_some ?_
      refine zw_b (by omega) ?_
      have r254 : 0 ≤ (m253 a0 7) ∧ (m253 a0 7) ≤ 700 := zi_rd hIm253 hc0 zb_28_7
      have r255 : 0 ≤ (m253 a0 8) ∧ (m253 a0 8) ≤ 6 := zi_rd hIm253 hc0 zb_28_8
      have e256 : (m253 a0 8) = (m4 a0 8) := (Eq.trans (zs_ne hmm253 (Or.inr (by decide))) (zs_ne hmm251 (Or.inr (by decide))))
      exact zw_some ⟨hIm253, hFm253, hRNSm253, hRWDm253, ⟨by omega, by omega⟩, by omega, by omega⟩
  · refine zw_bd (zw_eq (zr_85_0 n a0 2 m0) ?_)
    generalize hmm257 : zu_up m0 a0 4 2 = m257
    have hIm257 := zi_up hmm257 hIm0 hc0 zb_28_4 (by omega) (by omega)
    have hFm257 := zfr_up hmm257 hFm0 hc0 rfl
    have hRNSm257 := zR_NS_fr (zdis_fr (zfr_up hmm257 (zfr_rf [(28, 5)] _) hc0 rfl) rfl) hRNSm0
    have hRWDm257 := zR_WD_fr (zdis_fr (zfr_up hmm257 (zfr_rf [(28, 5)] _) hc0 rfl) rfl) hRWDm0
    have r258 : 0 ≤ (m257 a0 10) ∧ (m257 a0 10) ≤ 700 := zi_rd hIm257 hc0 zb_28_10
    generalize hmm259 : zu_up m257 a0 5 (m257 a0 10) = m259
    have hIm259 := zi_up hmm259 hIm257 hc0 zb_28_5 (by omega) (by omega)
    have hFm259 := zfr_up hmm259 hFm257 hc0 rfl
    have hRNSm259 := zR_NS_fr (zdis_fr (zfr_up hmm259 (zfr_rf [(28, 6)] _) hc0 rfl) rfl) hRNSm257
    have hRWDm259 := zR_WD_fr (zdis_fr (zfr_up hmm259 (zfr_rf [(28, 6)] _) hc0 rfl) rfl) hRWDm257
    refine zw_b (by omega) ?_
    refine zw_some ?_
    refine zw_b (by omega) ?_
    have r260 : 0 ≤ (m259 a0 7) ∧ (m259 a0 7) ≤ 700 := zi_rd hIm259 hc0 zb_28_7
    have r261 : 0 ≤ (m259 a0 8) ∧ (m259 a0 8) ≤ 6 := zi_rd hIm259 hc0 zb_28_8
    have e262 : (m259 a0 8) = (m0 a0 8) := (Eq.trans (zs_ne hmm259 (Or.inr (by decide))) (zs_ne hmm257 (Or.inr (by decide))))
    exact zw_some ⟨hIm259, hFm259, hRNSm259, hRWDm259, ⟨by omega, by omega⟩, by omega, by omega⟩
set_option maxHeartbeats 4000000 in
theorem zk_103 (n : Nat) {a0 : Int} {m0 : zu_m} (hIm0 : zi_I m0) (hc0 : zcls a0 = 28)   (he0 : 1 ≤ m0 a0 8 ∧ m0 a0 8 ≤ 1) (he1 : 11 ≤ m0 a0 9 ∧ m0 a0 9 ≤ 11)  (hRNSm0 : zR_NS m0) (hRWDm0 : zR_WD m0) : zw (zu_call (zt_T n) 103 [(40, a0)] m0) (fun v m => zi_I m ∧ zfr [(28, 5), (28, 6), (28, 8), (28, 9), (28, 10), (28, 11), (28, 22), (28, 46), (28, 47), (28, 48), (28, 49), (28, 50), (28, 51), (114, 0), (115, 0), (116, 0), (117, 0), (118, 0), (119, 0), (120, 0), (121, 0)] m0 m ∧ zR_NS m ∧ zR_WD m ∧ (0 ≤ v ∧ v ≤ 1) ∧ ((m0 a0 7) ≤ (m a0 7)) ∧ (v = 1 → ((m a0 8) = 0 ∨ (m0 a0 7) < (m a0 7)))) := by
  have hFm0 : zfr [(28, 5), (28, 6), (28, 8), (28, 9), (28, 10), (28, 11), (28, 22), (28, 46), (28, 47), (28, 48), (28, 49), (28, 50), (28, 51), (114, 0), (115, 0), (116, 0), (117, 0), (118, 0), (119, 0), (120, 0), (121, 0)] m0 m0 := zfr_rf _ _
  have s1 := hRNSm0 a0 hc0
  refine zw_eq (zr_103_0 n a0 m0) ?_
  refine zw_bd (zw_mono (zk_89 n hIm0 hc0 hRNSm0 hRWDm0) (fun v3 m2 hqm2 => ?_))
  obtain ⟨hIm2, hfm2, hvm2⟩ := hqm2
  have hFm2 := zfr_tr hFm0 hfm2 rfl
  obtain ⟨hRNSm2, hRWDm2, hvm2⟩ := hvm2
  have s4 := hRNSm2 a0 hc0
  have r5 : 0 ≤ (m2 a0 8) ∧ (m2 a0 8) ≤ 6 := zi_rd hIm2 hc0 zb_28_8
  refine zw_ite (fun h6 => ?_) (fun h6 => ?_)
  · refine zw_bd (zw_eq (zr_85_0 n a0 1 m2) ?_)
    generalize hmm7 : zu_up m2 a0 4 1 = m7
    have hIm7 := zi_up hmm7 hIm2 hc0 zb_28_4 (by omega) (by omega)
    have hFm7 := zfr_up hmm7 hFm2 hc0 rfl
    have hRNSm7 := zR_NS_fr (zdis_fr (zfr_up hmm7 (zfr_rf [(28, 5)] _) hc0 rfl) rfl) hRNSm2
    have hRWDm7 := zR_WD_fr (zdis_fr (zfr_up hmm7 (zfr_rf [(28, 5)] _) hc0 rfl) rfl) hRWDm2
    have r8 : 0 ≤ (m7 a0 10) ∧ (m7 a0 10) ≤ 700 := zi_rd hIm7 hc0 zb_28_10
    generalize hmm9 : zu_up m7 a0 5 (m7 a0 10) = m9
    have hIm9 := zi_up hmm9 hIm7 hc0 zb_28_5 (by omega) (by omega)
    have hFm9 := zfr_up hmm9 hFm7 hc0 rfl
    have hRNSm9 := zR_NS_fr (zdis_fr (zfr_up hmm9 (zfr_rf [(28, 6)] _) hc0 rfl) rfl) hRNSm7
    have hRWDm9 := zR_WD_fr (zdis_fr (zfr_up hmm9 (zfr_rf [(28, 6)] _) hc0 rfl) rfl) hRWDm7
    refine zw_b (by omega) ?_
    refine zw_some ?_
    refine zw_b (by omega) ?_
    have r10 : 0 ≤ (m9 a0 7) ∧ (m9 a0 7) ≤ 700 := zi_rd hIm9 hc0 zb_28_7
    have r11 : 0 ≤ (m9 a0 8) ∧ (m9 a0 8) ≤ 6 := zi_rd hIm9 hc0 zb_28_8
    have e12 : (m9 a0 8) = (m2 a0 8) := (Eq.trans (zs_ne hmm9 (Or.inr (by decide))) (zs_ne hmm7 (Or.inr (by decide))))
    exact zw_some ⟨hIm9, hFm9, hRNSm9, hRWDm9, ⟨by omega, by omega⟩, by omega, by omega⟩
  · have r13 : (-2147483648) ≤ (m2 a0 9) ∧ (m2 a0 9) ≤ 2147483647 := zi_rd hIm2 hc0 zb_28_9
    refine zw_ite (fun h14 => ?_) (fun h14 => ?_)
    · refine zw_bd (zw_eq (zr_85_0 n a0 1 m2) ?_)
      generalize hmm15 : zu_up m2 a0 4 1 = m15
      have hIm15 := zi_up hmm15 hIm2 hc0 zb_28_4 (by omega) (by omega)
      have hFm15 := zfr_up hmm15 hFm2 hc0 rfl
      have hRNSm15 := zR_NS_fr (zdis_fr (zfr_up hmm15 (zfr_rf [(28, 5)] _) hc0 rfl) rfl) hRNSm2
      have hRWDm15 := zR_WD_fr (zdis_fr (zfr_up hmm15 (zfr_rf [(28, 5)] _) hc0 rfl) rfl) hRWDm2
      have r16 : 0 ≤ (m15 a0 10) ∧ (m15 a0 10) ≤ 700 := zi_rd hIm15 hc0 zb_28_10
      generalize hmm17 : zu_up m15 a0 5 (m15 a0 10) = m17
      have hIm17 := zi_up hmm17 hIm15 hc0 zb_28_5 (by omega) (by omega)
      have hFm17 := zfr_up hmm17 hFm15 hc0 rfl
      have hRNSm17 := zR_NS_fr (zdis_fr (zfr_up hmm17 (zfr_rf [(28, 6)] _) hc0 rfl) rfl) hRNSm15
      have hRWDm17 := zR_WD_fr (zdis_fr (zfr_up hmm17 (zfr_rf [(28, 6)] _) hc0 rfl) rfl) hRWDm15
      refine zw_b (by omega) ?_
      refine zw_some ?_
      refine zw_b (by omega) ?_
      have r18 : 0 ≤ (m17 a0 7) ∧ (m17 a0 7) ≤ 700 := zi_rd hIm17 hc0 zb_28_7
      have r19 : 0 ≤ (m17 a0 8) ∧ (m17 a0 8) ≤ 6 := zi_rd hIm17 hc0 zb_28_8
      have e20 : (m17 a0 8) = (m2 a0 8) := (Eq.trans (zs_ne hmm17 (Or.inr (by decide))) (zs_ne hmm15 (Or.inr (by decide))))
      exact zw_some ⟨hIm17, hFm17, hRNSm17, hRWDm17, ⟨by omega, by omega⟩, by omega, by omega⟩
    · refine zw_ite (fun h21 => ?_) (fun h21 => ?_)
      · have w22 := zu_w32_id (z := 4 + (m2 a0 9)) (by omega) (by omega)
        have w23 := zu_w32_id (z := (zu_w32 (4 + (m2 a0 9))) - 19) (by omega) (by omega)
        have b24 : 0 ≤ (zu_w32 ((zu_w32 (4 + (m2 a0 9))) - 19)) ∧ (zu_w32 ((zu_w32 (4 + (m2 a0 9))) - 19)) < 8 := by omega
        refine zw_if b24 ?_
        have r25 : 0 ≤ (m2 205 (zu_w32 ((zu_w32 (4 + (m2 a0 9))) - 19))) ∧ (m2 205 (zu_w32 ((zu_w32 (4 + (m2 a0 9))) - 19))) ≤ 1 := zi_rd hIm2 zq_205 (zb_114 _)
        refine zw_ite (fun h26 => ?_) (fun h26 => ?_)
        · refine zw_b (by omega) ?_
          have b27 : 0 ≤ (zu_w32 ((zu_w32 (4 + (m2 a0 9))) - 19)) ∧ (zu_w32 ((zu_w32 (4 + (m2 a0 9))) - 19)) < 8 := by omega
          refine zw_if b27 ?_
          generalize hmm28 : zu_up m2 205 (zu_w32 ((zu_w32 (4 + (m2 a0 9))) - 19)) 1 = m28
          have hIm28 := zi_up hmm28 hIm2 zq_205 (zb_114 _) (by omega) (by omega)
          have hFm28 := zfr_up hmm28 hFm2 zq_205 rfl
          have hRNSm28 := zR_NS_fr (zdis_fr (zfr_up hmm28 (zfr_rf [(114, 0)] _) zq_205 rfl) rfl) hRNSm2
          have hRWDm28 := zR_WD_fr (zdis_fr (zfr_up hmm28 (zfr_rf [(114, 0)] _) zq_205 rfl) rfl) hRWDm2
          refine zw_bd (zw_mono (zk_89 n hIm28 hc0 hRNSm28 hRWDm28) (fun v30 m29 hqm29 => ?_))
          obtain ⟨hIm29, hfm29, hvm29⟩ := hqm29
          have hFm29 := zfr_tr hFm28 hfm29 rfl
          obtain ⟨hRNSm29, hRWDm29, hvm29⟩ := hvm29
          have s31 := hRNSm29 a0 hc0
          have r32 : 0 ≤ (m29 a0 21) ∧ (m29 a0 21) ≤ 64 := zi_rd hIm29 hc0 zb_28_21
          have b33 : 0 ≤ (zu_w32 ((zu_w32 (4 + (m2 a0 9))) - 19)) ∧ (zu_w32 ((zu_w32 (4 + (m2 a0 9))) - 19)) < 8 := by omega
          refine zw_if b33 ?_
          generalize hmm34 : zu_up m29 206 (zu_w32 ((zu_w32 (4 + (m2 a0 9))) - 19)) (m29 a0 21) = m34
          have hIm34 := zi_up hmm34 hIm29 zq_206 (zb_115 _) (by omega) (by omega)
          have hFm34 := zfr_up hmm34 hFm29 zq_206 rfl
          have hRNSm34 := zR_NS_fr (zdis_fr (zfr_up hmm34 (zfr_rf [(115, 0)] _) zq_206 rfl) rfl) hRNSm29
          have hRWDm34 := zR_WD_fr (zdis_fr (zfr_up hmm34 (zfr_rf [(115, 0)] _) zq_206 rfl) rfl) hRWDm29
          refine zw_bd (zw_mono (zk_118 n hIm34 hc0 hRNSm34 hRWDm34) (fun v36 m35 hqm35 => ?_))
          obtain ⟨hIm35, hfm35, hvm35⟩ := hqm35
          have hFm35 := zfr_tr hFm34 hfm35 rfl
          obtain ⟨hRNSm35, hRWDm35, hvm35⟩ := hvm35
          have s37 := hRNSm35 a0 hc0
          have r38 : 0 ≤ (m35 a0 21) ∧ (m35 a0 21) ≤ 64 := zi_rd hIm35 hc0 zb_28_21
          have b39 : 0 ≤ (zu_w32 ((zu_w32 (4 + (m2 a0 9))) - 19)) ∧ (zu_w32 ((zu_w32 (4 + (m2 a0 9))) - 19)) < 8 := by omega
          refine zw_if b39 ?_
          generalize hmm40 : zu_up m35 207 (zu_w32 ((zu_w32 (4 + (m2 a0 9))) - 19)) (m35 a0 21) = m40
          have hIm40 := zi_up hmm40 hIm35 zq_207 (zb_116 _) (by omega) (by omega)
          have hFm40 := zfr_up hmm40 hFm35 zq_207 rfl
          have hRNSm40 := zR_NS_fr (zdis_fr (zfr_up hmm40 (zfr_rf [(116, 0)] _) zq_207 rfl) rfl) hRNSm35
          have hRWDm40 := zR_WD_fr (zdis_fr (zfr_up hmm40 (zfr_rf [(116, 0)] _) zq_207 rfl) rfl) hRWDm35
          refine zw_b (by omega) ?_
          have r41 : 0 ≤ (m40 a0 7) ∧ (m40 a0 7) ≤ 700 := zi_rd hIm40 hc0 zb_28_7
          have r42 : 0 ≤ (m40 a0 8) ∧ (m40 a0 8) ≤ 6 := zi_rd hIm40 hc0 zb_28_8
          exact zw_some ⟨hIm40, hFm40, hRNSm40, hRWDm40, ⟨by omega, by omega⟩, by omega, by omega⟩
        · refine zw_bd (zw_eq (zr_85_0 n a0 3 m2) ?_)
          generalize hmm43 : zu_up m2 a0 4 3 = m43
          have hIm43 := zi_up hmm43 hIm2 hc0 zb_28_4 (by omega) (by omega)
          have hFm43 := zfr_up hmm43 hFm2 hc0 rfl
          have hRNSm43 := zR_NS_fr (zdis_fr (zfr_up hmm43 (zfr_rf [(28, 5)] _) hc0 rfl) rfl) hRNSm2
          have hRWDm43 := zR_WD_fr (zdis_fr (zfr_up hmm43 (zfr_rf [(28, 5)] _) hc0 rfl) rfl) hRWDm2
          have r44 : 0 ≤ (m43 a0 10) ∧ (m43 a0 10) ≤ 700 := zi_rd hIm43 hc0 zb_28_10
          generalize hmm45 : zu_up m43 a0 5 (m43 a0 10) = m45
          have hIm45 := zi_up hmm45 hIm43 hc0 zb_28_5 (by omega) (by omega)
          have hFm45 := zfr_up hmm45 hFm43 hc0 rfl
          have hRNSm45 := zR_NS_fr (zdis_fr (zfr_up hmm45 (zfr_rf [(28, 6)] _) hc0 rfl) rfl) hRNSm43
          have hRWDm45 := zR_WD_fr (zdis_fr (zfr_up hmm45 (zfr_rf [(28, 6)] _) hc0 rfl) rfl) hRWDm43
          refine zw_b (by omega) ?_
          refine zw_some ?_
          refine zw_b (by omega) ?_
          have r46 : 0 ≤ (m45 a0 7) ∧ (m45 a0 7) ≤ 700 := zi_rd hIm45 hc0 zb_28_7
          have r47 : 0 ≤ (m45 a0 8) ∧ (m45 a0 8) ≤ 6 := zi_rd hIm45 hc0 zb_28_8
          have e48 : (m45 a0 8) = (m2 a0 8) := (Eq.trans (zs_ne hmm45 (Or.inr (by decide))) (zs_ne hmm43 (Or.inr (by decide))))
          exact zw_some ⟨hIm45, hFm45, hRNSm45, hRWDm45, ⟨by omega, by omega⟩, by omega, by omega⟩
      · refine zw_bd (zw_eq (zr_85_0 n a0 1 m2) ?_)
        generalize hmm49 : zu_up m2 a0 4 1 = m49
        have hIm49 := zi_up hmm49 hIm2 hc0 zb_28_4 (by omega) (by omega)
        have hFm49 := zfr_up hmm49 hFm2 hc0 rfl
        have hRNSm49 := zR_NS_fr (zdis_fr (zfr_up hmm49 (zfr_rf [(28, 5)] _) hc0 rfl) rfl) hRNSm2
        have hRWDm49 := zR_WD_fr (zdis_fr (zfr_up hmm49 (zfr_rf [(28, 5)] _) hc0 rfl) rfl) hRWDm2
        have r50 : 0 ≤ (m49 a0 10) ∧ (m49 a0 10) ≤ 700 := zi_rd hIm49 hc0 zb_28_10
        generalize hmm51 : zu_up m49 a0 5 (m49 a0 10) = m51
        have hIm51 := zi_up hmm51 hIm49 hc0 zb_28_5 (by omega) (by omega)
        have hFm51 := zfr_up hmm51 hFm49 hc0 rfl
        have hRNSm51 := zR_NS_fr (zdis_fr (zfr_up hmm51 (zfr_rf [(28, 6)] _) hc0 rfl) rfl) hRNSm49
        have hRWDm51 := zR_WD_fr (zdis_fr (zfr_up hmm51 (zfr_rf [(28, 6)] _) hc0 rfl) rfl) hRWDm49
        refine zw_b (by omega) ?_
        refine zw_some ?_
        refine zw_b (by omega) ?_
        have r52 : 0 ≤ (m51 a0 7) ∧ (m51 a0 7) ≤ 700 := zi_rd hIm51 hc0 zb_28_7
        have r53 : 0 ≤ (m51 a0 8) ∧ (m51 a0 8) ≤ 6 := zi_rd hIm51 hc0 zb_28_8
        have e54 : (m51 a0 8) = (m2 a0 8) := (Eq.trans (zs_ne hmm51 (Or.inr (by decide))) (zs_ne hmm49 (Or.inr (by decide))))
        exact zw_some ⟨hIm51, hFm51, hRNSm51, hRWDm51, ⟨by omega, by omega⟩, by omega, by omega⟩
set_option maxHeartbeats 4000000 in
theorem zk_129 (n : Nat) {a0 a1 a2 a3 a4 a5 : Int} {m0 : zu_m} (hIm0 : zi_I m0) (hc0 : zcls a0 = 28) (ha1 : 0 ≤ a1 ∧ a1 ≤ 3) (ha2 : 0 ≤ a2 ∧ a2 ≤ 3) (ha3 : 0 ≤ a3 ∧ a3 ≤ 9) (ha4 : 0 ≤ a4 ∧ a4 ≤ 47) (ha5 : (-2147483648) ≤ a5 ∧ a5 ≤ 2147483647)     : zw (zu_call (zt_T n) 129 [(40, a0), (0, a1), (0, a2), (0, a3), (0, a4), (0, a5)] m0) (fun v m => zi_I m ∧ zfr [(28, 54), (122, 0), (123, 0)] m0 m ∧ ((-2147483648) ≤ v ∧ v ≤ 2147483647)) := by
  have hFm0 : zfr [(28, 54), (122, 0), (123, 0)] m0 m0 := zfr_rf _ _
  refine zw_eq (zr_129_0 n a0 a1 a2 a3 a4 a5 m0) ?_
  have w1 := zu_w32_id (z := 10 * a3) (by omega) (by omega)
  have w2 := zu_w32_id (z := 100 - (zu_w32 (10 * a3))) (by omega) (by omega)
  have b3 : 0 ≤ a4 ∧ a4 < 96 := by omega
  refine zw_if b3 ?_
  have r4 : (-2147483648) ≤ (m0 195 a4) ∧ (m0 195 a4) ≤ 2147483647 := zi_rd hIm0 zq_195 (zb_104 _)
  refine zw_ite (fun h5 => ?_) (fun h5 => ?_)
  · have w6 := zu_w32_id (z := (zu_w32 (100 - (zu_w32 (10 * a3)))) - 0) (by omega) (by omega)
    refine zw_bd (zw_eq (zr_128_0 n a0 a1 m0) ?_)
    have r7 : 0 ≤ (m0 a0 68) ∧ (m0 a0 68) ≤ 1 := zi_rd hIm0 hc0 zb_28_68
    refine zw_ite (fun h8 => ?_) (fun h8 => ?_)
    · have b9 : 0 ≤ a1 ∧ a1 < 8 := by omega
      refine zw_if b9 ?_
      have r10 : 0 ≤ (m0 202 a1) ∧ (m0 202 a1) ≤ 15 := zi_rd hIm0 zq_202 (zb_111 _)
      refine zw_some ?_
      refine zw_nif (by omega) ?_
      have d11 : Int.tmod a1 4 = a1 % 4 := Int.tmod_eq_emod_of_nonneg (by omega)
      refine zw_ite (fun h12 => ?_) (fun h12 => ?_)
      · refine zw_bd (zw_mono (zk_38 n hIm0 hc0 ⟨by omega, by omega⟩ ⟨by omega, by omega⟩ ⟨by omega, by omega⟩ ⟨by omega, by omega⟩ ⟨by omega, by omega⟩ ⟨by omega, by omega⟩) (fun v14 m13 hqm13 => ?_))
        obtain ⟨hIm13, hfm13, hvm13⟩ := hqm13
        have hFm13 := zfr_tr hFm0 hfm13 rfl
        refine zw_ite (fun h15 => ?_) (fun h15 => ?_)
        · refine zw_bd (zw_mono (zk_39 n hIm13 hc0 ⟨by omega, by omega⟩ ⟨by omega, by omega⟩ ⟨by omega, by omega⟩) (fun v17 m16 hqm16 => ?_))
          obtain ⟨hIm16, hfm16, hvm16⟩ := hqm16
          have hFm16 := zfr_tr hFm13 hfm16 rfl
          exact zw_some ⟨hIm16, hFm16, ⟨by omega, by omega⟩⟩
        · exfalso; omega
      · refine zw_bd (zw_mono (zk_38 n hIm0 hc0 ⟨by omega, by omega⟩ ⟨by omega, by omega⟩ ⟨by omega, by omega⟩ ⟨by omega, by omega⟩ ⟨by omega, by omega⟩ ⟨by omega, by omega⟩) (fun v19 m18 hqm18 => ?_))
        obtain ⟨hIm18, hfm18, hvm18⟩ := hqm18
        have hFm18 := zfr_tr hFm0 hfm18 rfl
        refine zw_ite (fun h20 => ?_) (fun h20 => ?_)
        · refine zw_bd (zw_mono (zk_39 n hIm18 hc0 ⟨by omega, by omega⟩ ⟨by omega, by omega⟩ ⟨by omega, by omega⟩) (fun v22 m21 hqm21 => ?_))
          obtain ⟨hIm21, hfm21, hvm21⟩ := hqm21
          have hFm21 := zfr_tr hFm18 hfm21 rfl
          exact zw_some ⟨hIm21, hFm21, ⟨by omega, by omega⟩⟩
        · exfalso; omega
    · refine zw_some ?_
      refine zw_nif (by omega) ?_
      have d23 : Int.tmod a1 4 = a1 % 4 := Int.tmod_eq_emod_of_nonneg (by omega)
      refine zw_ite (fun h24 => ?_) (fun h24 => ?_)
      · refine zw_bd (zw_mono (zk_38 n hIm0 hc0 ⟨by omega, by omega⟩ ⟨by omega, by omega⟩ ⟨by omega, by omega⟩ ⟨by omega, by omega⟩ ⟨by omega, by omega⟩ ⟨by omega, by omega⟩) (fun v26 m25 hqm25 => ?_))
        obtain ⟨hIm25, hfm25, hvm25⟩ := hqm25
        have hFm25 := zfr_tr hFm0 hfm25 rfl
        refine zw_ite (fun h27 => ?_) (fun h27 => ?_)
        · refine zw_bd (zw_mono (zk_39 n hIm25 hc0 ⟨by omega, by omega⟩ ⟨by omega, by omega⟩ ⟨by omega, by omega⟩) (fun v29 m28 hqm28 => ?_))
          obtain ⟨hIm28, hfm28, hvm28⟩ := hqm28
          have hFm28 := zfr_tr hFm25 hfm28 rfl
          exact zw_some ⟨hIm28, hFm28, ⟨by omega, by omega⟩⟩
        · exfalso; omega
      · refine zw_bd (zw_mono (zk_38 n hIm0 hc0 ⟨by omega, by omega⟩ ⟨by omega, by omega⟩ ⟨by omega, by omega⟩ ⟨by omega, by omega⟩ ⟨by omega, by omega⟩ ⟨by omega, by omega⟩) (fun v31 m30 hqm30 => ?_))
        obtain ⟨hIm30, hfm30, hvm30⟩ := hqm30
        have hFm30 := zfr_tr hFm0 hfm30 rfl
        refine zw_ite (fun h32 => ?_) (fun h32 => ?_)
        · refine zw_bd (zw_mono (zk_39 n hIm30 hc0 ⟨by omega, by omega⟩ ⟨by omega, by omega⟩ ⟨by omega, by omega⟩) (fun v34 m33 hqm33 => ?_))
          obtain ⟨hIm33, hfm33, hvm33⟩ := hqm33
          have hFm33 := zfr_tr hFm30 hfm33 rfl
          exact zw_some ⟨hIm33, hFm33, ⟨by omega, by omega⟩⟩
        · exfalso; omega
  · refine zw_bd (zw_eq (zr_128_0 n a0 a1 m0) ?_)
    have r35 : 0 ≤ (m0 a0 68) ∧ (m0 a0 68) ≤ 1 := zi_rd hIm0 hc0 zb_28_68
    refine zw_ite (fun h36 => ?_) (fun h36 => ?_)
    · have b37 : 0 ≤ a1 ∧ a1 < 8 := by omega
      refine zw_if b37 ?_
      have r38 : 0 ≤ (m0 202 a1) ∧ (m0 202 a1) ≤ 15 := zi_rd hIm0 zq_202 (zb_111 _)
      refine zw_some ?_
      refine zw_ite (fun h39 => ?_) (fun h39 => ?_)
      · have w40 := zu_w32_id (z := (zu_w32 (100 - (zu_w32 (10 * a3)))) - 0) (by omega) (by omega)
        refine zw_bd (zw_eq (zr_128_0 n a0 a1 m0) ?_)
        refine zw_ite (fun h41 => ?_) (fun h41 => ?_)
        · have b42 : 0 ≤ a1 ∧ a1 < 8 := by omega
          refine zw_if b42 ?_
          refine zw_some ?_
          refine zw_nif (by omega) ?_
          have d43 : Int.tmod a1 4 = a1 % 4 := Int.tmod_eq_emod_of_nonneg (by omega)
          refine zw_ite (fun h44 => ?_) (fun h44 => ?_)
          · refine zw_bd (zw_mono (zk_38 n hIm0 hc0 ⟨by omega, by omega⟩ ⟨by omega, by omega⟩ ⟨by omega, by omega⟩ ⟨by omega, by omega⟩ ⟨by omega, by omega⟩ ⟨by omega, by omega⟩) (fun v46 m45 hqm45 => ?_))
            obtain ⟨hIm45, hfm45, hvm45⟩ := hqm45
            have hFm45 := zfr_tr hFm0 hfm45 rfl
            refine zw_ite (fun h47 => ?_) (fun h47 => ?_)
            · refine zw_bd (zw_mono (zk_39 n hIm45 hc0 ⟨by omega, by omega⟩ ⟨by omega, by omega⟩ ⟨by omega, by omega⟩) (fun v49 m48 hqm48 => ?_))
              obtain ⟨hIm48, hfm48, hvm48⟩ := hqm48
              have hFm48 := zfr_tr hFm45 hfm48 rfl
              exact zw_some ⟨hIm48, hFm48, ⟨by omega, by omega⟩⟩
            · exfalso; omega
          · refine zw_bd (zw_mono (zk_38 n hIm0 hc0 ⟨by omega, by omega⟩ ⟨by omega, by omega⟩ ⟨by omega, by omega⟩ ⟨by omega, by omega⟩ ⟨by omega, by omega⟩ ⟨by omega, by omega⟩) (fun v51 m50 hqm50 => ?_))
            obtain ⟨hIm50, hfm50, hvm50⟩ := hqm50
            have hFm50 := zfr_tr hFm0 hfm50 rfl
            refine zw_ite (fun h52 => ?_) (fun h52 => ?_)
            · refine zw_bd (zw_mono (zk_39 n hIm50 hc0 ⟨by omega, by omega⟩ ⟨by omega, by omega⟩ ⟨by omega, by omega⟩) (fun v54 m53 hqm53 => ?_))
              obtain ⟨hIm53, hfm53, hvm53⟩ := hqm53
              have hFm53 := zfr_tr hFm50 hfm53 rfl
              exact zw_some ⟨hIm53, hFm53, ⟨by omega, by omega⟩⟩
            · exfalso; omega
        · exfalso; omega
      · have w55 := zu_w32_id (z := (zu_w32 (100 - (zu_w32 (10 * a3)))) - 20) (by omega) (by omega)
        refine zw_bd (zw_eq (zr_128_0 n a0 a1 m0) ?_)
        refine zw_ite (fun h56 => ?_) (fun h56 => ?_)
        · have b57 : 0 ≤ a1 ∧ a1 < 8 := by omega
          refine zw_if b57 ?_
          refine zw_some ?_
          refine zw_nif (by omega) ?_
          have d58 : Int.tmod a1 4 = a1 % 4 := Int.tmod_eq_emod_of_nonneg (by omega)
          refine zw_ite (fun h59 => ?_) (fun h59 => ?_)
          · refine zw_bd (zw_mono (zk_38 n hIm0 hc0 ⟨by omega, by omega⟩ ⟨by omega, by omega⟩ ⟨by omega, by omega⟩ ⟨by omega, by omega⟩ ⟨by omega, by omega⟩ ⟨by omega, by omega⟩) (fun v61 m60 hqm60 => ?_))
            obtain ⟨hIm60, hfm60, hvm60⟩ := hqm60
            have hFm60 := zfr_tr hFm0 hfm60 rfl
            refine zw_ite (fun h62 => ?_) (fun h62 => ?_)
            · refine zw_bd (zw_mono (zk_39 n hIm60 hc0 ⟨by omega, by omega⟩ ⟨by omega, by omega⟩ ⟨by omega, by omega⟩) (fun v64 m63 hqm63 => ?_))
              obtain ⟨hIm63, hfm63, hvm63⟩ := hqm63
              have hFm63 := zfr_tr hFm60 hfm63 rfl
              exact zw_some ⟨hIm63, hFm63, ⟨by omega, by omega⟩⟩
            · refine zw_bd (zw_mono (zk_39 n hIm60 hc0 ⟨by omega, by omega⟩ ⟨by omega, by omega⟩ ⟨by omega, by omega⟩) (fun v66 m65 hqm65 => ?_))
              obtain ⟨hIm65, hfm65, hvm65⟩ := hqm65
              have hFm65 := zfr_tr hFm60 hfm65 rfl
              exact zw_some ⟨hIm65, hFm65, ⟨by omega, by omega⟩⟩
          · refine zw_bd (zw_mono (zk_38 n hIm0 hc0 ⟨by omega, by omega⟩ ⟨by omega, by omega⟩ ⟨by omega, by omega⟩ ⟨by omega, by omega⟩ ⟨by omega, by omega⟩ ⟨by omega, by omega⟩) (fun v68 m67 hqm67 => ?_))
            obtain ⟨hIm67, hfm67, hvm67⟩ := hqm67
            have hFm67 := zfr_tr hFm0 hfm67 rfl
            refine zw_ite (fun h69 => ?_) (fun h69 => ?_)
            · refine zw_bd (zw_mono (zk_39 n hIm67 hc0 ⟨by omega, by omega⟩ ⟨by omega, by omega⟩ ⟨by omega, by omega⟩) (fun v71 m70 hqm70 => ?_))
              obtain ⟨hIm70, hfm70, hvm70⟩ := hqm70
              have hFm70 := zfr_tr hFm67 hfm70 rfl
              exact zw_some ⟨hIm70, hFm70, ⟨by omega, by omega⟩⟩
            · refine zw_bd (zw_mono (zk_39 n hIm67 hc0 ⟨by omega, by omega⟩ ⟨by omega, by omega⟩ ⟨by omega, by omega⟩) (fun v73 m72 hqm72 => ?_))
              obtain ⟨hIm72, hfm72, hvm72⟩ := hqm72
              have hFm72 := zfr_tr hFm67 hfm72 rfl
              exact zw_some ⟨hIm72, hFm72, ⟨by omega, by omega⟩⟩
        · exfalso; omega
    · refine zw_some ?_
      refine zw_ite (fun h74 => ?_) (fun h74 => ?_)
      · have w75 := zu_w32_id (z := (zu_w32 (100 - (zu_w32 (10 * a3)))) - 0) (by omega) (by omega)
        refine zw_bd (zw_eq (zr_128_0 n a0 a1 m0) ?_)
        refine zw_ite (fun h76 => ?_) (fun h76 => ?_)
        · exfalso; omega
        · refine zw_some ?_
          refine zw_nif (by omega) ?_
          have d77 : Int.tmod a1 4 = a1 % 4 := Int.tmod_eq_emod_of_nonneg (by omega)
          refine zw_ite (fun h78 => ?_) (fun h78 => ?_)
          · refine zw_bd (zw_mono (zk_38 n hIm0 hc0 ⟨by omega, by omega⟩ ⟨by omega, by omega⟩ ⟨by omega, by omega⟩ ⟨by omega, by omega⟩ ⟨by omega, by omega⟩ ⟨by omega, by omega⟩) (fun v80 m79 hqm79 => ?_))
            obtain ⟨hIm79, hfm79, hvm79⟩ := hqm79
            have hFm79 := zfr_tr hFm0 hfm79 rfl
            refine zw_ite (fun h81 => ?_) (fun h81 => ?_)
            · refine zw_bd (zw_mono (zk_39 n hIm79 hc0 ⟨by omega, by omega⟩ ⟨by omega, by omega⟩ ⟨by omega, by omega⟩) (fun v83 m82 hqm82 => ?_))
              obtain ⟨hIm82, hfm82, hvm82⟩ := hqm82
              have hFm82 := zfr_tr hFm79 hfm82 rfl
              exact zw_some ⟨hIm82, hFm82, ⟨by omega, by omega⟩⟩
            · exfalso; omega
          · refine zw_bd (zw_mono (zk_38 n hIm0 hc0 ⟨by omega, by omega⟩ ⟨by omega, by omega⟩ ⟨by omega, by omega⟩ ⟨by omega, by omega⟩ ⟨by omega, by omega⟩ ⟨by omega, by omega⟩) (fun v85 m84 hqm84 => ?_))
            obtain ⟨hIm84, hfm84, hvm84⟩ := hqm84
            have hFm84 := zfr_tr hFm0 hfm84 rfl
            refine zw_ite (fun h86 => ?_) (fun h86 => ?_)
            · refine zw_bd (zw_mono (zk_39 n hIm84 hc0 ⟨by omega, by omega⟩ ⟨by omega, by omega⟩ ⟨by omega, by omega⟩) (fun v88 m87 hqm87 => ?_))
              obtain ⟨hIm87, hfm87, hvm87⟩ := hqm87
              have hFm87 := zfr_tr hFm84 hfm87 rfl
              exact zw_some ⟨hIm87, hFm87, ⟨by omega, by omega⟩⟩
            · exfalso; omega
      · exfalso; omega
set_option maxHeartbeats 4000000 in
theorem zk_132 (n : Nat) {a0 a1 a2 : Int} {m0 : zu_m} (hIm0 : zi_I m0) (hc0 : zcls a0 = 28) (ha1 : 0 ≤ a1 ∧ a1 ≤ 3) (ha2 : 0 ≤ a2 ∧ a2 ≤ 15)     : zw (zu_call (zt_T n) 132 [(40, a0), (0, a1), (0, a2)] m0) (fun v m => zi_I m ∧ zfr [(28, 54), (122, 0), (123, 0)] m0 m ∧ ((-2147483648) ≤ v ∧ v ≤ 2147483647)) := by
  have hFm0 : zfr [(28, 54), (122, 0), (123, 0)] m0 m0 := zfr_rf _ _
  refine zw_eq (zr_132_0 n a0 a1 a2 m0) ?_
  have b1 : 0 ≤ a2 ∧ a2 < 36 := by omega
  refine zw_if b1 ?_
  have r2 : 0 ≤ (m0 198 a2) ∧ (m0 198 a2) ≤ 3 := zi_rd hIm0 zq_198 (zb_107 _)
  refine zw_nif (by omega) ?_
  have d3 : Int.tmod a1 4 = a1 % 4 := Int.tmod_eq_emod_of_nonneg (by omega)
  refine zw_ite (fun h4 => ?_) (fun h4 => ?_)
  · have b5 : 0 ≤ a1 ∧ a1 < 8 := by omega
    refine zw_if b5 ?_
    have r6 : 0 ≤ (m0 202 a1) ∧ (m0 202 a1) ≤ 15 := zi_rd hIm0 zq_202 (zb_111 _)
    have b7 : 0 ≤ a2 ∧ a2 < 36 := by omega
    refine zw_if b7 ?_
    have r8 : 0 ≤ (m0 199 a2) ∧ (m0 199 a2) ≤ 9 := zi_rd hIm0 zq_199 (zb_108 _)
    have b9 : 0 ≤ a2 ∧ a2 < 36 := by omega
    refine zw_if b9 ?_
    have r10 : 0 ≤ (m0 197 a2) ∧ (m0 197 a2) ≤ 47 := zi_rd hIm0 zq_197 (zb_106 _)
    have b11 : 0 ≤ a2 ∧ a2 < 36 := by omega
    refine zw_if b11 ?_
    refine zw_ite (fun h12 => ?_) (fun h12 => ?_)
    · refine zw_bd (zw_mono (zk_38 n hIm0 hc0 ⟨by omega, by omega⟩ ⟨by omega, by omega⟩ ⟨by omega, by omega⟩ ⟨by omega, by omega⟩ ⟨by omega, by omega⟩ ⟨by omega, by omega⟩) (fun v14 m13 hqm13 => ?_))
      obtain ⟨hIm13, hfm13, hvm13⟩ := hqm13
      have hFm13 := zfr_tr hFm0 hfm13 rfl
      refine zw_ite (fun h15 => ?_) (fun h15 => ?_)
      · refine zw_bd (zw_mono (zk_39 n hIm13 hc0 ⟨by omega, by omega⟩ ⟨by omega, by omega⟩ ⟨by omega, by omega⟩) (fun v17 m16 hqm16 => ?_))
        obtain ⟨hIm16, hfm16, hvm16⟩ := hqm16
        have hFm16 := zfr_tr hFm13 hfm16 rfl
        exact zw_some ⟨hIm16, hFm16, ⟨by omega, by omega⟩⟩
      · exfalso; omega
    · exfalso; omega
  · have b18 : 0 ≤ a1 ∧ a1 < 8 := by omega
    refine zw_if b18 ?_
    have r19 : 0 ≤ (m0 202 a1) ∧ (m0 202 a1) ≤ 15 := zi_rd hIm0 zq_202 (zb_111 _)
    have b20 : 0 ≤ a2 ∧ a2 < 36 := by omega
    refine zw_if b20 ?_
    have r21 : 0 ≤ (m0 199 a2) ∧ (m0 199 a2) ≤ 9 := zi_rd hIm0 zq_199 (zb_108 _)
    have b22 : 0 ≤ a2 ∧ a2 < 36 := by omega
    refine zw_if b22 ?_
    have r23 : 0 ≤ (m0 197 a2) ∧ (m0 197 a2) ≤ 47 := zi_rd hIm0 zq_197 (zb_106 _)
    have b24 : 0 ≤ a2 ∧ a2 < 36 := by omega
    refine zw_if b24 ?_
    refine zw_ite (fun h25 => ?_) (fun h25 => ?_)
    · exfalso; omega
    · refine zw_bd (zw_mono (zk_38 n hIm0 hc0 ⟨by omega, by omega⟩ ⟨by omega, by omega⟩ ⟨by omega, by omega⟩ ⟨by omega, by omega⟩ ⟨by omega, by omega⟩ ⟨by omega, by omega⟩) (fun v27 m26 hqm26 => ?_))
      obtain ⟨hIm26, hfm26, hvm26⟩ := hqm26
      have hFm26 := zfr_tr hFm0 hfm26 rfl
      refine zw_ite (fun h28 => ?_) (fun h28 => ?_)
      · exfalso; omega
      · refine zw_bd (zw_mono (zk_39 n hIm26 hc0 ⟨by omega, by omega⟩ ⟨by omega, by omega⟩ ⟨by omega, by omega⟩) (fun v30 m29 hqm29 => ?_))
        obtain ⟨hIm29, hfm29, hvm29⟩ := hqm29
        have hFm29 := zfr_tr hFm26 hfm29 rfl
        exact zw_some ⟨hIm29, hFm29, ⟨by omega, by omega⟩⟩
set_option maxHeartbeats 4000000 in
theorem zk_133 (n : Nat) {a0 a1 : Int} {m0 : zu_m} (hIm0 : zi_I m0) (hc0 : zcls a0 = 28) (ha1 : 0 ≤ a1 ∧ a1 ≤ 15)     : zw (zu_call (zt_T n) 133 [(40, a0), (0, a1)] m0) (fun v m => zi_I m ∧ zfr [(28, 54), (122, 0), (123, 0)] m0 m ∧ ((-2147483648) ≤ v ∧ v ≤ 2147483647)) := by
  have hFm0 : zfr [(28, 54), (122, 0), (123, 0)] m0 m0 := zfr_rf _ _
  refine zw_eq (zr_133_0 n a0 a1 m0) ?_
  have b1 : 0 ≤ a1 ∧ a1 < 36 := by omega
  refine zw_if b1 ?_
  have r2 : 0 ≤ (m0 199 a1) ∧ (m0 199 a1) ≤ 9 := zi_rd hIm0 zq_199 (zb_108 _)
  have b3 : 0 ≤ a1 ∧ a1 < 36 := by omega
  refine zw_if b3 ?_
  have r4 : 0 ≤ (m0 197 a1) ∧ (m0 197 a1) ≤ 47 := zi_rd hIm0 zq_197 (zb_106 _)
  have b5 : 0 ≤ a1 ∧ a1 < 36 := by omega
  refine zw_if b5 ?_
  have r6 : 0 ≤ (m0 198 a1) ∧ (m0 198 a1) ≤ 3 := zi_rd hIm0 zq_198 (zb_107 _)
  have b7 : 0 ≤ (0 : Int) ∧ (0 : Int) < 2 := by omega
  refine zw_if b7 ?_
  have r8 : (-2147483648) ≤ (m0 221 0) ∧ (m0 221 0) ≤ 2147483647 := zi_rd hIm0 zq_221 (zb_130 _)
  refine zw_bd (zw_mono (zk_38 n hIm0 hc0 ⟨by omega, by omega⟩ ⟨by omega, by omega⟩ ⟨by omega, by omega⟩ ⟨by omega, by omega⟩ ⟨by omega, by omega⟩ ⟨by omega, by omega⟩) (fun v10 m9 hqm9 => ?_))
  obtain ⟨hIm9, hfm9, hvm9⟩ := hqm9
  have hFm9 := zfr_tr hFm0 hfm9 rfl
  refine zw_bd (zw_mono (zk_39 n hIm9 hc0 ⟨by omega, by omega⟩ ⟨by omega, by omega⟩ ⟨by omega, by omega⟩) (fun v12 m11 hqm11 => ?_))
  obtain ⟨hIm11, hfm11, hvm11⟩ := hqm11
  have hFm11 := zfr_tr hFm9 hfm11 rfl
  exact zw_some ⟨hIm11, hFm11, ⟨by omega, by omega⟩⟩
set_option maxHeartbeats 4000000 in
theorem zl_214_16 (n : Nat) {a0 a1 a2 : Int} {m0 : zu_m} (hc0 : zcls a0 = 16)  (hxp0 : (m0 a0 8) + a1 ≤ 9999) : ∀ k : Nat, (∀ (x3 : Int) (mh : zu_m), zi_I mh → zfr [(16, 9), (16, 10), (17, 4), (18, 2), (18, 6), (18, 7), (18, 8), (56, 0), (59, 1), (59, 2), (59, 3), (59, 4), (59, 5), (59, 6), (59, 7), (67, 0), (68, 0)] m0 mh → (0 ≤ a1 ∧ a1 ≤ 200) → (0 ≤ a2 ∧ a2 ≤ 0) → (0 ≤ x3 ∧ x3 ≤ 200) → (x3 ≤ a1) → ((mh a0 8) = (m0 a0 8) + x3) → (zR_K54 mh) → (200 - x3) * 11 + 10 < (k : Int) → zw (zu_ex (zt_T n) 214 2 [(27, a0), (0, a1), (0, a2), (0, x3), (2, 0)] [] mh) (fun v m => zi_I m ∧ zfr [(16, 9), (16, 10), (17, 4), (18, 2), (18, 6), (18, 7), (18, 8), (56, 0), (59, 1), (59, 2), (59, 3), (59, 4), (59, 5), (59, 6), (59, 7), (67, 0), (68, 0)] m0 m ∧ zR_K54 m ∧ True ∧ ((m a0 8) = (m0 a0 8) + a1))) ∧ (∀ (x3 x4 : Int) (mh : zu_m), zi_I mh → zfr [(16, 9), (16, 10), (17, 4), (18, 2), (18, 6), (18, 7), (18, 8), (56, 0), (59, 1), (59, 2), (59, 3), (59, 4), (59, 5), (59, 6), (59, 7), (67, 0), (68, 0)] m0 mh → (1 ≤ a1 ∧ a1 ≤ 200) → (0 ≤ a2 ∧ a2 ≤ 0) → (0 ≤ x3 ∧ x3 ≤ 199) → (0 ≤ x4 ∧ x4 ≤ 4) → (x3 < a1) → ((mh a0 8) = (m0 a0 8) + x3) → (zR_K54 mh) → (4 - x4) * 1 + (200 - x3) * 11 + 5 < (k : Int) → zw (zu_ex (zt_T n) 214 10 [(27, a0), (0, a1), (0, a2), (0, x3), (0, x4)] [] mh) (fun v m => zi_I m ∧ zfr [(16, 9), (16, 10), (17, 4), (18, 2), (18, 6), (18, 7), (18, 8), (56, 0), (59, 1), (59, 2), (59, 3), (59, 4), (59, 5), (59, 6), (59, 7), (67, 0), (68, 0)] m0 m ∧ zR_K54 m ∧ True ∧ ((m a0 8) = (m0 a0 8) + a1))) ∧ (∀ (x3 x4 : Int) (mh : zu_m), zi_I mh → zfr [(16, 9), (16, 10), (17, 4), (18, 2), (18, 6), (18, 7), (18, 8), (56, 0), (59, 1), (59, 2), (59, 3), (59, 4), (59, 5), (59, 6), (59, 7), (67, 0), (68, 0)] m0 mh → (1 ≤ a1 ∧ a1 ≤ 200) → (0 ≤ a2 ∧ a2 ≤ 0) → (0 ≤ x3 ∧ x3 ≤ 199) → (0 ≤ x4 ∧ x4 ≤ 4) → (x3 < a1) → ((mh a0 8) = (m0 a0 8) + x3) → (zR_K54 mh) → (4 - x4) * 1 + (200 - x3) * 11 + 0 < (k : Int) → zw (zu_ex (zt_T n) 214 52 [(27, a0), (0, a1), (0, a2), (0, x3), (0, x4)] [] mh) (fun v m => zi_I m ∧ zfr [(16, 9), (16, 10), (17, 4), (18, 2), (18, 6), (18, 7), (18, 8), (56, 0), (59, 1), (59, 2), (59, 3), (59, 4), (59, 5), (59, 6), (59, 7), (67, 0), (68, 0)] m0 m ∧ zR_K54 m ∧ True ∧ ((m a0 8) = (m0 a0 8) + a1))) := by
  intro k
  induction k with
  | zero => exact ⟨fun x3 mh hImh hFmh hba1 hba2 hbx3 hH0 hH1 hRK54mh hM => by exfalso; omega, fun x3 x4 mh hImh hFmh hba1 hba2 hbx3 hbx4 hH0 hH1 hRK54mh hM => by exfalso; omega, fun x3 x4 mh hImh hFmh hba1 hba2 hbx3 hbx4 hH0 hH1 hRK54mh hM => by exfalso; omega⟩
  | succ k ih =>
    refine ⟨?_, ?_, ?_⟩
    · intro x3 mh hImh hFmh hba1 hba2 hbx3 hH0 hH1 hRK54mh hM
      refine zw_eq (zr_214_2 n a0 a1 a2 x3 mh) ?_
      have r1 : 0 ≤ (mh a0 8) ∧ (mh a0 8) ≤ 9999 := zi_rd hImh hc0 zb_16_8
      refine zw_ite (fun h2 => ?_) (fun h2 => ?_)
      · exact zw_some ⟨hImh, hFmh, hRK54mh, trivial, by omega⟩
      · have hM : (4 - 0) * 1 + (200 - x3) * 11 + 5 < (k : Int) := by omega
        exact ih.2.1 x3 0 mh hImh hFmh ⟨by omega, by omega⟩ ⟨by omega, by omega⟩ ⟨by omega, by omega⟩ ⟨by omega, by omega⟩ (by omega) (by omega) hRK54mh hM
    · intro x3 x4 mh hImh hFmh hba1 hba2 hbx3 hbx4 hH0 hH1 hRK54mh hM
      refine zw_eq (zr_214_10 n a0 a1 a2 x3 x4 mh) ?_
      have r3 : 0 ≤ (mh a0 8) ∧ (mh a0 8) ≤ 9999 := zi_rd hImh hc0 zb_16_8
      have r4 : 0 ≤ (mh a0 4) ∧ (mh a0 4) ≤ 4 := zi_rd hImh hc0 zb_16_4
      refine zw_ite (fun h5 => ?_) (fun h5 => ?_)
      · have hM : (4 - 0) * 1 + (200 - x3) * 11 + 0 < (k : Int) := by omega
        exact ih.2.2 x3 0 mh hImh hFmh ⟨by omega, by omega⟩ ⟨by omega, by omega⟩ ⟨by omega, by omega⟩ ⟨by omega, by omega⟩ (by omega) (by omega) hRK54mh hM
      · have b6 : 0 ≤ x4 ∧ x4 < 4 := by omega
        refine zw_if b6 ?_
        have r7 : (-2147483648) ≤ (mh ((a0 + 2) + 20 + x4) 4) ∧ (mh ((a0 + 2) + 20 + x4) 4) ≤ 2147483647 := zi_rd hImh (zc_66_e (zc_16_3 hc0) b6) zb_18_4
        refine zw_ite (fun h8 => ?_) (fun h8 => ?_)
        · have w9 := zu_w32_id (z := x4 + 1) (by omega) (by omega)
          have hM : (4 - (zu_w32 (x4 + 1))) * 1 + (200 - x3) * 11 + 5 < (k : Int) := by omega
          exact ih.2.1 x3 (zu_w32 (x4 + 1)) mh hImh hFmh ⟨by omega, by omega⟩ ⟨by omega, by omega⟩ ⟨by omega, by omega⟩ ⟨by omega, by omega⟩ (by omega) (by omega) hRK54mh hM
        · refine zw_bd (zw_mono (zk_216_16 n hImh hc0 ⟨by omega, by omega⟩ ⟨by omega, by omega⟩ hRK54mh) (fun v11 m10 hqm10 => ?_))
          obtain ⟨hIm10, hfm10, hvm10⟩ := hqm10
          have hFm10 := zfr_tr hFmh hfm10 rfl
          obtain ⟨hRK54m10, hvm10⟩ := hvm10
          have w12 := zu_w32_id (z := x4 + 1) (by omega) (by omega)
          have r13 : 0 ≤ (m10 a0 8) ∧ (m10 a0 8) ≤ 9999 := zi_rd hIm10 hc0 zb_16_8
          have e14 : (m10 a0 8) = (mh a0 8) := (zfr_ap hfm10 hc0 rfl)
          have hM : (4 - (zu_w32 (x4 + 1))) * 1 + (200 - x3) * 11 + 5 < (k : Int) := by omega
          exact ih.2.1 x3 (zu_w32 (x4 + 1)) m10 hIm10 hFm10 ⟨by omega, by omega⟩ ⟨by omega, by omega⟩ ⟨by omega, by omega⟩ ⟨by omega, by omega⟩ (by omega) (by omega) hRK54m10 hM
    · intro x3 x4 mh hImh hFmh hba1 hba2 hbx3 hbx4 hH0 hH1 hRK54mh hM
      refine zw_eq (zr_214_52 n a0 a1 a2 x3 x4 mh) ?_
      have r15 : 0 ≤ (mh a0 8) ∧ (mh a0 8) ≤ 9999 := zi_rd hImh hc0 zb_16_8
      have r16 : 0 ≤ (mh a0 4) ∧ (mh a0 4) ≤ 4 := zi_rd hImh hc0 zb_16_4
      refine zw_ite (fun h17 => ?_) (fun h17 => ?_)
      · refine zw_ite (fun h18 => ?_) (fun h18 => ?_)
        · exfalso; omega
        · refine zw_bd (zw_mono (zk_221_16 n hImh hc0) (fun v20 m19 hqm19 => ?_))
          obtain ⟨hIm19, hfm19, hvm19⟩ := hqm19
          have hFm19 := zfr_tr hFmh hfm19 rfl
          have hRK54m19 := zR_K54_fr (zdis_fr hfm19 rfl) hRK54mh
          have r21 : 0 ≤ (m19 a0 8) ∧ (m19 a0 8) ≤ 9999 := zi_rd hIm19 hc0 zb_16_8
          have e22 : (m19 a0 8) = (mh a0 8) := (zfr_ap hfm19 hc0 rfl)
          have r23 : (-2147483648) ≤ (m19 a0 11) ∧ (m19 a0 11) ≤ 2147483647 := zi_rd hIm19 hc0 zb_16_11
          refine zw_ite (fun h24 => ?_) (fun h24 => ?_)
          · have w25 := zu_w32_id (z := (m19 a0 8) + 1) (by omega) (by omega)
            generalize hmm26 : zu_up m19 a0 8 (zu_w32 ((m19 a0 8) + 1)) = m26
            have hIm26 := zi_up hmm26 hIm19 hc0 zb_16_8 (by omega) (by omega)
            have hFm26 := zfr_up hmm26 hFm19 hc0 rfl
            have hRK54m26 := zR_K54_fr (zdis_fr (zfr_up hmm26 (zfr_rf [(16, 9)] _) hc0 rfl) rfl) hRK54m19
            have w27 := zu_w32_id (z := x3 + 1) (by omega) (by omega)
            have r28 : 0 ≤ (m26 a0 8) ∧ (m26 a0 8) ≤ 9999 := zi_rd hIm26 hc0 zb_16_8
            have e29 : (m26 a0 8) = (zu_w32 ((m19 a0 8) + 1)) := (zs_eq hmm26)
            have hM : (200 - (zu_w32 (x3 + 1))) * 11 + 10 < (k : Int) := by omega
            exact zw_le (zu_forget (zu_lr_same (zu_lr_same (zu_lr_same (zu_lr_same (zu_lr_drop zu_lr_nil)))))) (ih.1 (zu_w32 (x3 + 1)) m26 hIm26 hFm26 ⟨by omega, by omega⟩ ⟨by omega, by omega⟩ ⟨by omega, by omega⟩ (by omega) (by omega) hRK54m26 hM)
          · refine zw_bd (zw_mono (zk_222_16 n hIm19 hc0) (fun v31 m30 hqm30 => ?_))
            obtain ⟨hIm30, hfm30, hvm30⟩ := hqm30
            have hFm30 := zfr_tr hFm19 hfm30 rfl
            have hRK54m30 := zR_K54_fr (zdis_fr hfm30 rfl) hRK54m19
            have r32 : 0 ≤ (m30 a0 8) ∧ (m30 a0 8) ≤ 9999 := zi_rd hIm30 hc0 zb_16_8
            have e33 : (m30 a0 8) = (m19 a0 8) := (zfr_ap hfm30 hc0 rfl)
            have w34 := zu_w32_id (z := (m30 a0 8) + 1) (by omega) (by omega)
            generalize hmm35 : zu_up m30 a0 8 (zu_w32 ((m30 a0 8) + 1)) = m35
            have hIm35 := zi_up hmm35 hIm30 hc0 zb_16_8 (by omega) (by omega)
            have hFm35 := zfr_up hmm35 hFm30 hc0 rfl
            have hRK54m35 := zR_K54_fr (zdis_fr (zfr_up hmm35 (zfr_rf [(16, 9)] _) hc0 rfl) rfl) hRK54m30
            have w36 := zu_w32_id (z := x3 + 1) (by omega) (by omega)
            have r37 : 0 ≤ (m35 a0 8) ∧ (m35 a0 8) ≤ 9999 := zi_rd hIm35 hc0 zb_16_8
            have e38 : (m35 a0 8) = (zu_w32 ((m30 a0 8) + 1)) := (zs_eq hmm35)
            have hM : (200 - (zu_w32 (x3 + 1))) * 11 + 10 < (k : Int) := by omega
            exact zw_le (zu_forget (zu_lr_same (zu_lr_same (zu_lr_same (zu_lr_same (zu_lr_drop zu_lr_nil)))))) (ih.1 (zu_w32 (x3 + 1)) m35 hIm35 hFm35 ⟨by omega, by omega⟩ ⟨by omega, by omega⟩ ⟨by omega, by omega⟩ (by omega) (by omega) hRK54m35 hM)
      · have b39 : 0 ≤ x4 ∧ x4 < 4 := by omega
        refine zw_if b39 ?_
        have r40 : (-2147483648) ≤ (mh ((a0 + 2) + 20 + x4) 4) ∧ (mh ((a0 + 2) + 20 + x4) 4) ≤ 2147483647 := zi_rd hImh (zc_66_e (zc_16_3 hc0) b39) zb_18_4
        refine zw_ite (fun h41 => ?_) (fun h41 => ?_)
        · have w42 := zu_w32_id (z := x4 + 1) (by omega) (by omega)
          have hM : (4 - (zu_w32 (x4 + 1))) * 1 + (200 - x3) * 11 + 0 < (k : Int) := by omega
          exact ih.2.2 x3 (zu_w32 (x4 + 1)) mh hImh hFmh ⟨by omega, by omega⟩ ⟨by omega, by omega⟩ ⟨by omega, by omega⟩ ⟨by omega, by omega⟩ (by omega) (by omega) hRK54mh hM
        · refine zw_bd (zw_mono (zk_219_16 n hImh hc0 ⟨by omega, by omega⟩) (fun v44 m43 hqm43 => ?_))
          obtain ⟨hIm43, hfm43, hvm43⟩ := hqm43
          have hFm43 := zfr_tr hFmh hfm43 rfl
          have hRK54m43 := zR_K54_fr (zdis_fr hfm43 rfl) hRK54mh
          have w45 := zu_w32_id (z := x4 + 1) (by omega) (by omega)
          have r46 : 0 ≤ (m43 a0 8) ∧ (m43 a0 8) ≤ 9999 := zi_rd hIm43 hc0 zb_16_8
          have e47 : (m43 a0 8) = (mh a0 8) := (zfr_ap hfm43 hc0 rfl)
          have hM : (4 - (zu_w32 (x4 + 1))) * 1 + (200 - x3) * 11 + 0 < (k : Int) := by omega
          exact ih.2.2 x3 (zu_w32 (x4 + 1)) m43 hIm43 hFm43 ⟨by omega, by omega⟩ ⟨by omega, by omega⟩ ⟨by omega, by omega⟩ ⟨by omega, by omega⟩ (by omega) (by omega) hRK54m43 hM
set_option maxHeartbeats 4000000 in
theorem zk_214_16 (n : Nat) {a0 a1 a2 : Int} {m0 : zu_m} (hIm0 : zi_I m0) (hc0 : zcls a0 = 16) (ha1 : 0 ≤ a1 ∧ a1 ≤ 200) (ha2 : 0 ≤ a2 ∧ a2 ≤ 0)   (hxp0 : (m0 a0 8) + a1 ≤ 9999) (hRK54m0 : zR_K54 m0) : zw (zu_call (zt_T n) 214 [(27, a0), (0, a1), (0, a2)] m0) (fun v m => zi_I m ∧ zfr [(16, 9), (16, 10), (17, 4), (18, 2), (18, 6), (18, 7), (18, 8), (56, 0), (59, 1), (59, 2), (59, 3), (59, 4), (59, 5), (59, 6), (59, 7), (67, 0), (68, 0)] m0 m ∧ zR_K54 m ∧ True ∧ ((m a0 8) = (m0 a0 8) + a1)) := by
  have hFm0 : zfr [(16, 9), (16, 10), (17, 4), (18, 2), (18, 6), (18, 7), (18, 8), (56, 0), (59, 1), (59, 2), (59, 3), (59, 4), (59, 5), (59, 6), (59, 7), (67, 0), (68, 0)] m0 m0 := zfr_rf _ _
  refine zw_eq (zr_214_0 n a0 a1 a2 m0) ?_
  have r48 : 0 ≤ (m0 a0 8) ∧ (m0 a0 8) ≤ 9999 := zi_rd hIm0 hc0 zb_16_8
  have hM : (200 - 0) * 11 + 10 < ((2211 : Nat) : Int) := by omega
  exact (zl_214_16 n (m0 := m0) hc0 hxp0 2211).1 0 m0 hIm0 hFm0 ⟨by omega, by omega⟩ ⟨by omega, by omega⟩ ⟨by omega, by omega⟩ (by omega) (by omega) hRK54m0 hM
set_option maxHeartbeats 4000000 in
theorem zl_214_25 (n : Nat) {a0 a1 a2 : Int} {m0 : zu_m} (hc0 : zcls a0 = 25)  (hxp0 : (m0 a0 8) + a1 ≤ 20000) : ∀ k : Nat, (∀ (x3 : Int) (mh : zu_m), zi_I mh → zfr [(25, 9), (25, 10), (26, 4), (27, 2), (27, 6), (27, 7), (27, 8), (56, 0), (59, 1), (59, 2), (59, 3), (59, 4), (59, 5), (59, 6), (59, 7), (97, 0), (98, 0)] m0 mh → (0 ≤ a1 ∧ a1 ≤ 200) → (0 ≤ a2 ∧ a2 ≤ 1) → (0 ≤ x3 ∧ x3 ≤ 200) → (x3 ≤ a1) → ((mh a0 8) = (m0 a0 8) + x3) → (zR_K54 mh) → (200 - x3) * 11 + 10 < (k : Int) → zw (zu_ex (zt_T n) 214 2 [(27, a0), (0, a1), (0, a2), (0, x3), (2, 0)] [] mh) (fun v m => zi_I m ∧ zfr [(25, 9), (25, 10), (26, 4), (27, 2), (27, 6), (27, 7), (27, 8), (56, 0), (59, 1), (59, 2), (59, 3), (59, 4), (59, 5), (59, 6), (59, 7), (97, 0), (98, 0)] m0 m ∧ zR_K54 m ∧ True ∧ ((m a0 8) = (m0 a0 8) + a1))) ∧ (∀ (x3 x4 : Int) (mh : zu_m), zi_I mh → zfr [(25, 9), (25, 10), (26, 4), (27, 2), (27, 6), (27, 7), (27, 8), (56, 0), (59, 1), (59, 2), (59, 3), (59, 4), (59, 5), (59, 6), (59, 7), (97, 0), (98, 0)] m0 mh → (1 ≤ a1 ∧ a1 ≤ 200) → (0 ≤ a2 ∧ a2 ≤ 1) → (0 ≤ x3 ∧ x3 ≤ 199) → (0 ≤ x4 ∧ x4 ≤ 4) → (x3 < a1) → ((mh a0 8) = (m0 a0 8) + x3) → (zR_K54 mh) → (4 - x4) * 1 + (200 - x3) * 11 + 5 < (k : Int) → zw (zu_ex (zt_T n) 214 10 [(27, a0), (0, a1), (0, a2), (0, x3), (0, x4)] [] mh) (fun v m => zi_I m ∧ zfr [(25, 9), (25, 10), (26, 4), (27, 2), (27, 6), (27, 7), (27, 8), (56, 0), (59, 1), (59, 2), (59, 3), (59, 4), (59, 5), (59, 6), (59, 7), (97, 0), (98, 0)] m0 m ∧ zR_K54 m ∧ True ∧ ((m a0 8) = (m0 a0 8) + a1))) ∧ (∀ (x3 x4 : Int) (mh : zu_m), zi_I mh → zfr [(25, 9), (25, 10), (26, 4), (27, 2), (27, 6), (27, 7), (27, 8), (56, 0), (59, 1), (59, 2), (59, 3), (59, 4), (59, 5), (59, 6), (59, 7), (97, 0), (98, 0)] m0 mh → (1 ≤ a1 ∧ a1 ≤ 200) → (0 ≤ a2 ∧ a2 ≤ 1) → (0 ≤ x3 ∧ x3 ≤ 199) → (0 ≤ x4 ∧ x4 ≤ 4) → (x3 < a1) → ((mh a0 8) = (m0 a0 8) + x3) → (zR_K54 mh) → (4 - x4) * 1 + (200 - x3) * 11 + 0 < (k : Int) → zw (zu_ex (zt_T n) 214 52 [(27, a0), (0, a1), (0, a2), (0, x3), (0, x4)] [] mh) (fun v m => zi_I m ∧ zfr [(25, 9), (25, 10), (26, 4), (27, 2), (27, 6), (27, 7), (27, 8), (56, 0), (59, 1), (59, 2), (59, 3), (59, 4), (59, 5), (59, 6), (59, 7), (97, 0), (98, 0)] m0 m ∧ zR_K54 m ∧ True ∧ ((m a0 8) = (m0 a0 8) + a1))) := by
  intro k
  induction k with
  | zero => exact ⟨fun x3 mh hImh hFmh hba1 hba2 hbx3 hH0 hH1 hRK54mh hM => by exfalso; omega, fun x3 x4 mh hImh hFmh hba1 hba2 hbx3 hbx4 hH0 hH1 hRK54mh hM => by exfalso; omega, fun x3 x4 mh hImh hFmh hba1 hba2 hbx3 hbx4 hH0 hH1 hRK54mh hM => by exfalso; omega⟩
  | succ k ih =>
    refine ⟨?_, ?_, ?_⟩
    · intro x3 mh hImh hFmh hba1 hba2 hbx3 hH0 hH1 hRK54mh hM
      refine zw_eq (zr_214_2 n a0 a1 a2 x3 mh) ?_
      have r1 : 0 ≤ (mh a0 8) ∧ (mh a0 8) ≤ 20000 := zi_rd hImh hc0 zb_25_8
      refine zw_ite (fun h2 => ?_) (fun h2 => ?_)
      · exact zw_some ⟨hImh, hFmh, hRK54mh, trivial, by omega⟩
      · have hM : (4 - 0) * 1 + (200 - x3) * 11 + 5 < (k : Int) := by omega
        exact ih.2.1 x3 0 mh hImh hFmh ⟨by omega, by omega⟩ ⟨by omega, by omega⟩ ⟨by omega, by omega⟩ ⟨by omega, by omega⟩ (by omega) (by omega) hRK54mh hM
    · intro x3 x4 mh hImh hFmh hba1 hba2 hbx3 hbx4 hH0 hH1 hRK54mh hM
      refine zw_eq (zr_214_10 n a0 a1 a2 x3 x4 mh) ?_
      have r3 : 0 ≤ (mh a0 8) ∧ (mh a0 8) ≤ 20000 := zi_rd hImh hc0 zb_25_8
      have r4 : 0 ≤ (mh a0 4) ∧ (mh a0 4) ≤ 4 := zi_rd hImh hc0 zb_25_4
      refine zw_ite (fun h5 => ?_) (fun h5 => ?_)
      · have hM : (4 - 0) * 1 + (200 - x3) * 11 + 0 < (k : Int) := by omega
        exact ih.2.2 x3 0 mh hImh hFmh ⟨by omega, by omega⟩ ⟨by omega, by omega⟩ ⟨by omega, by omega⟩ ⟨by omega, by omega⟩ (by omega) (by omega) hRK54mh hM
      · have b6 : 0 ≤ x4 ∧ x4 < 4 := by omega
        refine zw_if b6 ?_
        have r7 : (-2147483648) ≤ (mh ((a0 + 2) + 20 + x4) 4) ∧ (mh ((a0 + 2) + 20 + x4) 4) ≤ 2147483647 := zi_rd hImh (zc_96_e (zc_25_3 hc0) b6) zb_27_4
        refine zw_ite (fun h8 => ?_) (fun h8 => ?_)
        · have w9 := zu_w32_id (z := x4 + 1) (by omega) (by omega)
          have hM : (4 - (zu_w32 (x4 + 1))) * 1 + (200 - x3) * 11 + 5 < (k : Int) := by omega
          exact ih.2.1 x3 (zu_w32 (x4 + 1)) mh hImh hFmh ⟨by omega, by omega⟩ ⟨by omega, by omega⟩ ⟨by omega, by omega⟩ ⟨by omega, by omega⟩ (by omega) (by omega) hRK54mh hM
        · refine zw_bd (zw_mono (zk_216_25 n hImh hc0 ⟨by omega, by omega⟩ ⟨by omega, by omega⟩ hRK54mh) (fun v11 m10 hqm10 => ?_))
          obtain ⟨hIm10, hfm10, hvm10⟩ := hqm10
          have hFm10 := zfr_tr hFmh hfm10 rfl
          obtain ⟨hRK54m10, hvm10⟩ := hvm10
          have w12 := zu_w32_id (z := x4 + 1) (by omega) (by omega)
          have r13 : 0 ≤ (m10 a0 8) ∧ (m10 a0 8) ≤ 20000 := zi_rd hIm10 hc0 zb_25_8
          have e14 : (m10 a0 8) = (mh a0 8) := (zfr_ap hfm10 hc0 rfl)
          have hM : (4 - (zu_w32 (x4 + 1))) * 1 + (200 - x3) * 11 + 5 < (k : Int) := by omega
          exact ih.2.1 x3 (zu_w32 (x4 + 1)) m10 hIm10 hFm10 ⟨by omega, by omega⟩ ⟨by omega, by omega⟩ ⟨by omega, by omega⟩ ⟨by omega, by omega⟩ (by omega) (by omega) hRK54m10 hM
    · intro x3 x4 mh hImh hFmh hba1 hba2 hbx3 hbx4 hH0 hH1 hRK54mh hM
      refine zw_eq (zr_214_52 n a0 a1 a2 x3 x4 mh) ?_
      have r15 : 0 ≤ (mh a0 8) ∧ (mh a0 8) ≤ 20000 := zi_rd hImh hc0 zb_25_8
      have r16 : 0 ≤ (mh a0 4) ∧ (mh a0 4) ≤ 4 := zi_rd hImh hc0 zb_25_4
      refine zw_ite (fun h17 => ?_) (fun h17 => ?_)
      · refine zw_ite (fun h18 => ?_) (fun h18 => ?_)
        · have r19 : (-2147483648) ≤ (mh a0 11) ∧ (mh a0 11) ≤ 2147483647 := zi_rd hImh hc0 zb_25_11
          refine zw_ite (fun h20 => ?_) (fun h20 => ?_)
          · have w21 := zu_w32_id (z := (mh a0 8) + 1) (by omega) (by omega)
            generalize hmm22 : zu_up mh a0 8 (zu_w32 ((mh a0 8) + 1)) = m22
            have hIm22 := zi_up hmm22 hImh hc0 zb_25_8 (by omega) (by omega)
            have hFm22 := zfr_up hmm22 hFmh hc0 rfl
            have hRK54m22 := zR_K54_fr (zdis_fr (zfr_up hmm22 (zfr_rf [(25, 9)] _) hc0 rfl) rfl) hRK54mh
            have w23 := zu_w32_id (z := x3 + 1) (by omega) (by omega)
            have r24 : 0 ≤ (m22 a0 8) ∧ (m22 a0 8) ≤ 20000 := zi_rd hIm22 hc0 zb_25_8
            have e25 : (m22 a0 8) = (zu_w32 ((mh a0 8) + 1)) := (zs_eq hmm22)
            have hM : (200 - (zu_w32 (x3 + 1))) * 11 + 10 < (k : Int) := by omega
            exact zw_le (zu_forget (zu_lr_same (zu_lr_same (zu_lr_same (zu_lr_same (zu_lr_drop zu_lr_nil)))))) (ih.1 (zu_w32 (x3 + 1)) m22 hIm22 hFm22 ⟨by omega, by omega⟩ ⟨by omega, by omega⟩ ⟨by omega, by omega⟩ (by omega) (by omega) hRK54m22 hM)
          · refine zw_bd (zw_mono (zk_222_25 n hImh hc0) (fun v27 m26 hqm26 => ?_))
            obtain ⟨hIm26, hfm26, hvm26⟩ := hqm26
            have hFm26 := zfr_tr hFmh hfm26 rfl
            have hRK54m26 := zR_K54_fr (zdis_fr hfm26 rfl) hRK54mh
            have r28 : 0 ≤ (m26 a0 8) ∧ (m26 a0 8) ≤ 20000 := zi_rd hIm26 hc0 zb_25_8
            have e29 : (m26 a0 8) = (mh a0 8) := (zfr_ap hfm26 hc0 rfl)
            have w30 := zu_w32_id (z := (m26 a0 8) + 1) (by omega) (by omega)
            generalize hmm31 : zu_up m26 a0 8 (zu_w32 ((m26 a0 8) + 1)) = m31
            have hIm31 := zi_up hmm31 hIm26 hc0 zb_25_8 (by omega) (by omega)
            have hFm31 := zfr_up hmm31 hFm26 hc0 rfl
            have hRK54m31 := zR_K54_fr (zdis_fr (zfr_up hmm31 (zfr_rf [(25, 9)] _) hc0 rfl) rfl) hRK54m26
            have w32 := zu_w32_id (z := x3 + 1) (by omega) (by omega)
            have r33 : 0 ≤ (m31 a0 8) ∧ (m31 a0 8) ≤ 20000 := zi_rd hIm31 hc0 zb_25_8
            have e34 : (m31 a0 8) = (zu_w32 ((m26 a0 8) + 1)) := (zs_eq hmm31)
            have hM : (200 - (zu_w32 (x3 + 1))) * 11 + 10 < (k : Int) := by omega
            exact zw_le (zu_forget (zu_lr_same (zu_lr_same (zu_lr_same (zu_lr_same (zu_lr_drop zu_lr_nil)))))) (ih.1 (zu_w32 (x3 + 1)) m31 hIm31 hFm31 ⟨by omega, by omega⟩ ⟨by omega, by omega⟩ ⟨by omega, by omega⟩ (by omega) (by omega) hRK54m31 hM)
        · refine zw_bd (zw_mono (zk_221_25 n hImh hc0) (fun v36 m35 hqm35 => ?_))
          obtain ⟨hIm35, hfm35, hvm35⟩ := hqm35
          have hFm35 := zfr_tr hFmh hfm35 rfl
          have hRK54m35 := zR_K54_fr (zdis_fr hfm35 rfl) hRK54mh
          have r37 : 0 ≤ (m35 a0 8) ∧ (m35 a0 8) ≤ 20000 := zi_rd hIm35 hc0 zb_25_8
          have e38 : (m35 a0 8) = (mh a0 8) := (zfr_ap hfm35 hc0 rfl)
          have r39 : (-2147483648) ≤ (m35 a0 11) ∧ (m35 a0 11) ≤ 2147483647 := zi_rd hIm35 hc0 zb_25_11
          refine zw_ite (fun h40 => ?_) (fun h40 => ?_)
          · have w41 := zu_w32_id (z := (m35 a0 8) + 1) (by omega) (by omega)
            generalize hmm42 : zu_up m35 a0 8 (zu_w32 ((m35 a0 8) + 1)) = m42
            have hIm42 := zi_up hmm42 hIm35 hc0 zb_25_8 (by omega) (by omega)
            have hFm42 := zfr_up hmm42 hFm35 hc0 rfl
            have hRK54m42 := zR_K54_fr (zdis_fr (zfr_up hmm42 (zfr_rf [(25, 9)] _) hc0 rfl) rfl) hRK54m35
            have w43 := zu_w32_id (z := x3 + 1) (by omega) (by omega)
            have r44 : 0 ≤ (m42 a0 8) ∧ (m42 a0 8) ≤ 20000 := zi_rd hIm42 hc0 zb_25_8
            have e45 : (m42 a0 8) = (zu_w32 ((m35 a0 8) + 1)) := (zs_eq hmm42)
            have hM : (200 - (zu_w32 (x3 + 1))) * 11 + 10 < (k : Int) := by omega
            exact zw_le (zu_forget (zu_lr_same (zu_lr_same (zu_lr_same (zu_lr_same (zu_lr_drop zu_lr_nil)))))) (ih.1 (zu_w32 (x3 + 1)) m42 hIm42 hFm42 ⟨by omega, by omega⟩ ⟨by omega, by omega⟩ ⟨by omega, by omega⟩ (by omega) (by omega) hRK54m42 hM)
          · refine zw_bd (zw_mono (zk_222_25 n hIm35 hc0) (fun v47 m46 hqm46 => ?_))
            obtain ⟨hIm46, hfm46, hvm46⟩ := hqm46
            have hFm46 := zfr_tr hFm35 hfm46 rfl
            have hRK54m46 := zR_K54_fr (zdis_fr hfm46 rfl) hRK54m35
            have r48 : 0 ≤ (m46 a0 8) ∧ (m46 a0 8) ≤ 20000 := zi_rd hIm46 hc0 zb_25_8
            have e49 : (m46 a0 8) = (m35 a0 8) := (zfr_ap hfm46 hc0 rfl)
            have w50 := zu_w32_id (z := (m46 a0 8) + 1) (by omega) (by omega)
            generalize hmm51 : zu_up m46 a0 8 (zu_w32 ((m46 a0 8) + 1)) = m51
            have hIm51 := zi_up hmm51 hIm46 hc0 zb_25_8 (by omega) (by omega)
            have hFm51 := zfr_up hmm51 hFm46 hc0 rfl
            have hRK54m51 := zR_K54_fr (zdis_fr (zfr_up hmm51 (zfr_rf [(25, 9)] _) hc0 rfl) rfl) hRK54m46
            have w52 := zu_w32_id (z := x3 + 1) (by omega) (by omega)
            have r53 : 0 ≤ (m51 a0 8) ∧ (m51 a0 8) ≤ 20000 := zi_rd hIm51 hc0 zb_25_8
            have e54 : (m51 a0 8) = (zu_w32 ((m46 a0 8) + 1)) := (zs_eq hmm51)
            have hM : (200 - (zu_w32 (x3 + 1))) * 11 + 10 < (k : Int) := by omega
            exact zw_le (zu_forget (zu_lr_same (zu_lr_same (zu_lr_same (zu_lr_same (zu_lr_drop zu_lr_nil)))))) (ih.1 (zu_w32 (x3 + 1)) m51 hIm51 hFm51 ⟨by omega, by omega⟩ ⟨by omega, by omega⟩ ⟨by omega, by omega⟩ (by omega) (by omega) hRK54m51 hM)
      · have b55 : 0 ≤ x4 ∧ x4 < 4 := by omega
        refine zw_if b55 ?_
        have r56 : (-2147483648) ≤ (mh ((a0 + 2) + 20 + x4) 4) ∧ (mh ((a0 + 2) + 20 + x4) 4) ≤ 2147483647 := zi_rd hImh (zc_96_e (zc_25_3 hc0) b55) zb_27_4
        refine zw_ite (fun h57 => ?_) (fun h57 => ?_)
        · have w58 := zu_w32_id (z := x4 + 1) (by omega) (by omega)
          have hM : (4 - (zu_w32 (x4 + 1))) * 1 + (200 - x3) * 11 + 0 < (k : Int) := by omega
          exact ih.2.2 x3 (zu_w32 (x4 + 1)) mh hImh hFmh ⟨by omega, by omega⟩ ⟨by omega, by omega⟩ ⟨by omega, by omega⟩ ⟨by omega, by omega⟩ (by omega) (by omega) hRK54mh hM
        · refine zw_bd (zw_mono (zk_219_25 n hImh hc0 ⟨by omega, by omega⟩) (fun v60 m59 hqm59 => ?_))
          obtain ⟨hIm59, hfm59, hvm59⟩ := hqm59
          have hFm59 := zfr_tr hFmh hfm59 rfl
          have hRK54m59 := zR_K54_fr (zdis_fr hfm59 rfl) hRK54mh
          have w61 := zu_w32_id (z := x4 + 1) (by omega) (by omega)
          have r62 : 0 ≤ (m59 a0 8) ∧ (m59 a0 8) ≤ 20000 := zi_rd hIm59 hc0 zb_25_8
          have e63 : (m59 a0 8) = (mh a0 8) := (zfr_ap hfm59 hc0 rfl)
          have hM : (4 - (zu_w32 (x4 + 1))) * 1 + (200 - x3) * 11 + 0 < (k : Int) := by omega
          exact ih.2.2 x3 (zu_w32 (x4 + 1)) m59 hIm59 hFm59 ⟨by omega, by omega⟩ ⟨by omega, by omega⟩ ⟨by omega, by omega⟩ ⟨by omega, by omega⟩ (by omega) (by omega) hRK54m59 hM
set_option maxHeartbeats 4000000 in
theorem zk_214_25 (n : Nat) {a0 a1 a2 : Int} {m0 : zu_m} (hIm0 : zi_I m0) (hc0 : zcls a0 = 25) (ha1 : 0 ≤ a1 ∧ a1 ≤ 200) (ha2 : 0 ≤ a2 ∧ a2 ≤ 1)   (hxp0 : (m0 a0 8) + a1 ≤ 20000) (hRK54m0 : zR_K54 m0) : zw (zu_call (zt_T n) 214 [(27, a0), (0, a1), (0, a2)] m0) (fun v m => zi_I m ∧ zfr [(25, 9), (25, 10), (26, 4), (27, 2), (27, 6), (27, 7), (27, 8), (56, 0), (59, 1), (59, 2), (59, 3), (59, 4), (59, 5), (59, 6), (59, 7), (97, 0), (98, 0)] m0 m ∧ zR_K54 m ∧ True ∧ ((m a0 8) = (m0 a0 8) + a1)) := by
  have hFm0 : zfr [(25, 9), (25, 10), (26, 4), (27, 2), (27, 6), (27, 7), (27, 8), (56, 0), (59, 1), (59, 2), (59, 3), (59, 4), (59, 5), (59, 6), (59, 7), (97, 0), (98, 0)] m0 m0 := zfr_rf _ _
  refine zw_eq (zr_214_0 n a0 a1 a2 m0) ?_
  have r64 : 0 ≤ (m0 a0 8) ∧ (m0 a0 8) ≤ 20000 := zi_rd hIm0 hc0 zb_25_8
  have hM : (200 - 0) * 11 + 10 < ((2211 : Nat) : Int) := by omega
  exact (zl_214_25 n (m0 := m0) hc0 hxp0 2211).1 0 m0 hIm0 hFm0 ⟨by omega, by omega⟩ ⟨by omega, by omega⟩ ⟨by omega, by omega⟩ (by omega) (by omega) hRK54m0 hM
set_option maxHeartbeats 4000000 in
theorem zl_237 (n : Nat) {a0 a1 : Int} {m0 : zu_m} (hc0 : zcls a0 = 16)   : ∀ k : Nat, (∀ (x2 x3 : Int) (mh : zu_m), zi_I mh → zfr [(56, 0), (59, 1), (59, 2), (59, 3), (59, 4), (59, 5), (59, 6), (59, 7)] m0 mh → (0 ≤ a1 ∧ a1 ≤ 3) → ((-2147483648) ≤ x2 ∧ x2 ≤ 2147483647) → (0 ≤ x3 ∧ x3 ≤ 16) → (zR_K54 mh) → (16 - x3) * 1 + 0 < (k : Int) → zw (zu_ex (zt_T n) 237 4 [(27, a0), (0, a1), (0, x2), (0, x3)] [] mh) (fun v m => zi_I m ∧ zfr [(56, 0), (59, 1), (59, 2), (59, 3), (59, 4), (59, 5), (59, 6), (59, 7)] m0 m ∧ zR_K54 m ∧ ((-2147483648) ≤ v ∧ v ≤ 2147483647))) := by
  intro k
  induction k with
  | zero => exact fun x2 x3 mh hImh hFmh hba1 hbx2 hbx3 hRK54mh hM => by exfalso; omega
  | succ k ih =>
    intro x2 x3 mh hImh hFmh hba1 hbx2 hbx3 hRK54mh hM
    refine zw_eq (zr_237_4 n a0 a1 x2 x3 mh) ?_
    have r1 : 0 ≤ (mh a0 2) ∧ (mh a0 2) ≤ 16 := zi_rd hImh hc0 zb_16_2
    refine zw_ite (fun h2 => ?_) (fun h2 => ?_)
    · exact zw_some ⟨hImh, hFmh, hRK54mh, ⟨by omega, by omega⟩⟩
    · have b3 : 0 ≤ x3 ∧ x3 < 16 := by omega
      refine zw_if b3 ?_
      have r4 : (-3) ≤ (mh ((a0 + 1) + 5 + x3) 3) ∧ (mh ((a0 + 1) + 5 + x3) 3) ≤ 3 := zi_rd hImh (zc_65_e (zc_16_1 hc0) b3) zb_17_3
      refine zw_ite (fun h5 => ?_) (fun h5 => ?_)
      · have w6 := zu_w32_id (z := x3 + 1) (by omega) (by omega)
        have hM : (16 - (zu_w32 (x3 + 1))) * 1 + 0 < (k : Int) := by omega
        exact ih x2 (zu_w32 (x3 + 1)) mh hImh hFmh ⟨by omega, by omega⟩ ⟨by omega, by omega⟩ ⟨by omega, by omega⟩ hRK54mh hM
      · refine zw_bd (zw_mono (zk_226 n hImh hc0 ⟨by omega, by omega⟩ ⟨by omega, by omega⟩ hRK54mh) (fun v8 m7 hqm7 => ?_))
        obtain ⟨hIm7, hfm7, hvm7⟩ := hqm7
        have hFm7 := zfr_tr hFmh hfm7 rfl
        obtain ⟨hRK54m7, hvm7⟩ := hvm7
        have w9 := zu_w32_rg (x2 + v8)
        have w10 := zu_w32_id (z := x3 + 1) (by omega) (by omega)
        have hM : (16 - (zu_w32 (x3 + 1))) * 1 + 0 < (k : Int) := by omega
        exact ih (zu_w32 (x2 + v8)) (zu_w32 (x3 + 1)) m7 hIm7 hFm7 ⟨by omega, by omega⟩ ⟨by omega, by omega⟩ ⟨by omega, by omega⟩ hRK54m7 hM
set_option maxHeartbeats 4000000 in
theorem zk_237 (n : Nat) {a0 a1 : Int} {m0 : zu_m} (hIm0 : zi_I m0) (hc0 : zcls a0 = 16) (ha1 : 0 ≤ a1 ∧ a1 ≤ 3)    (hRK54m0 : zR_K54 m0) : zw (zu_call (zt_T n) 237 [(27, a0), (0, a1)] m0) (fun v m => zi_I m ∧ zfr [(56, 0), (59, 1), (59, 2), (59, 3), (59, 4), (59, 5), (59, 6), (59, 7)] m0 m ∧ zR_K54 m ∧ ((-2147483648) ≤ v ∧ v ≤ 2147483647)) := by
  have hFm0 : zfr [(56, 0), (59, 1), (59, 2), (59, 3), (59, 4), (59, 5), (59, 6), (59, 7)] m0 m0 := zfr_rf _ _
  refine zw_eq (zr_237_0 n a0 a1 m0) ?_
  have hM : (16 - 0) * 1 + 0 < ((17 : Nat) : Int) := by omega
  exact (zl_237 n (m0 := m0) hc0 17) 0 0 m0 hIm0 hFm0 ⟨by omega, by omega⟩ ⟨by omega, by omega⟩ ⟨by omega, by omega⟩ hRK54m0 hM

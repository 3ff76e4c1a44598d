set_option maxHeartbeats 4000000 in
theorem zk_267 (n : Nat) {a0 : Int} {m0 : zu_m} (hIm0 : zi_I m0) (hc0 : zcls a0 = 3)   (he0 : 1 ≤ m0 45 4 ∧ m0 45 4 ≤ 1) (he1 : 5 ≤ m0 45 5 ∧ m0 45 5 ≤ 5)   : zw (zu_call (zt_T n) 267 [(7, a0)] m0) (fun v m => zi_I m ∧ zfr [(3, 7), (3, 8), (3, 9), (3, 10), (3, 11), (6, 5), (8, 1), (8, 2), (8, 3), (8, 4), (8, 5), (8, 6), (8, 7), (9, 4), (9, 5), (9, 6), (9, 7)] m0 m ∧ (0 ≤ v ∧ v ≤ 1)) := by
  have hFm0 : zfr [(3, 7), (3, 8), (3, 9), (3, 10), (3, 11), (6, 5), (8, 1), (8, 2), (8, 3), (8, 4), (8, 5), (8, 6), (8, 7), (9, 4), (9, 5), (9, 6), (9, 7)] m0 m0 := zfr_rf _ _
  refine zw_eq (zr_267_0 n a0 m0) ?_
  have r1 : 0 ≤ (m0 19 4) ∧ (m0 19 4) ≤ 4 := zi_rd hIm0 zq_19 zb_6_4
  refine zw_ite (fun h2 => ?_) (fun h2 => ?_)
  · refine zw_bd (zw_mono (zk_18 n hIm0 zq_45) (fun v4 m3 hqm3 => ?_))
    obtain ⟨hIm3, hfm3, hvm3⟩ := hqm3
    have hFm3 := zfr_tr hFm0 hfm3 rfl
    have r5 : 0 ≤ (m3 45 4) ∧ (m3 45 4) ≤ 5 := zi_rd hIm3 zq_45 zb_9_4
    refine zw_ite (fun h6 => ?_) (fun h6 => ?_)
    · have r7 : (-2147483648) ≤ (m3 45 5) ∧ (m3 45 5) ≤ 2147483647 := zi_rd hIm3 zq_45 zb_9_5
      have r8 : 0 ≤ (m3 19 4) ∧ (m3 19 4) ≤ 4 := zi_rd hIm3 zq_19 zb_6_4
      have e9 : (m3 19 4) = (m0 19 4) := (zfr_ap hfm3 zq_19 rfl)
      refine zw_bd (zw_mono (zk_212_6 n hIm3 zq_19 ⟨by omega, by omega⟩ ⟨by omega, by omega⟩) (fun v11 m10 hqm10 => ?_))
      obtain ⟨hIm10, hfm10, hvm10⟩ := hqm10
      have hFm10 := zfr_tr hFm3 hfm10 rfl
      refine zw_ite (fun h12 => ?_) (fun h12 => ?_)
      · have r13 : 0 ≤ (m10 19 4) ∧ (m10 19 4) ≤ 4 := zi_rd hIm10 zq_19 zb_6_4
        have e14 : (m10 19 4) = (m3 19 4) := (zfr_ap hfm10 zq_19 rfl)
        have b15 : 0 ≤ (m10 19 4) ∧ (m10 19 4) < 4 := by omega
        refine zw_if b15 ?_
        have r16 : (-2147483648) ≤ (m10 45 5) ∧ (m10 45 5) ≤ 2147483647 := zi_rd hIm10 zq_45 zb_9_5
        have e17 : (m10 45 5) = (m3 45 5) := (zfr_ap hfm10 zq_45 rfl)
        generalize hmm18 : zu_up m10 (21 + 20 + (m10 19 4)) 0 (m10 45 5) = m18
        have hIm18 := zi_up hmm18 hIm10 (zc_42_e zq_21 b15) zb_8_0 (by omega) (by omega)
        have hFm18 := zfr_up hmm18 hFm10 (zc_42_e zq_21 b15) rfl
        generalize hmm19 : zu_up m18 (21 + 20 + (m10 19 4)) 5 0 = m19
        have hIm19 := zi_up hmm19 hIm18 (zc_42_e zq_21 b15) zb_8_5 (by omega) (by omega)
        have hFm19 := zfr_up hmm19 hFm18 (zc_42_e zq_21 b15) rfl
        generalize hmm20 : zu_up m19 (21 + 20 + (m10 19 4)) 6 0 = m20
        have hIm20 := zi_up hmm20 hIm19 (zc_42_e zq_21 b15) zb_8_6 (by omega) (by omega)
        have hFm20 := zfr_up hmm20 hFm19 (zc_42_e zq_21 b15) rfl
        refine zw_bd (zw_eq (zr_262_0 n a0 m20) ?_)
        refine zw_b (by omega) ?_
        generalize hmm21 : zu_up m20 a0 6 1 = m21
        have hIm21 := zi_up hmm21 hIm20 hc0 zb_3_6 (by omega) (by omega)
        have hFm21 := zfr_up hmm21 hFm20 hc0 rfl
        have r22 : 1 ≤ (m21 6 0) ∧ (m21 6 0) ≤ 8 := zi_rd hIm21 zq_6 zb_4_0
        have w23 := zu_w32_id (z := (m21 6 0) - 1) (by omega) (by omega)
        refine zw_bd (zw_eq (zr_260_0 n a0 0 (zu_w32 ((m21 6 0) - 1)) m21) ?_)
        refine zw_bd (zw_mono (zk_18 n hIm21 zq_45) (fun v25 m24 hqm24 => ?_))
        obtain ⟨hIm24, hfm24, hvm24⟩ := hqm24
        have hFm24 := zfr_tr hFm21 hfm24 rfl
        have r26 : 0 ≤ (m24 45 4) ∧ (m24 45 4) ≤ 5 := zi_rd hIm24 zq_45 zb_9_4
        refine zw_ite (fun h27 => ?_) (fun h27 => ?_)
        · have r28 : (-2147483648) ≤ (m24 45 5) ∧ (m24 45 5) ≤ 2147483647 := zi_rd hIm24 zq_45 zb_9_5
          generalize hmm29 : zu_up m24 a0 7 (m24 45 5) = m29
          have hIm29 := zi_up hmm29 hIm24 hc0 zb_3_7 (by omega) (by omega)
          have hFm29 := zfr_up hmm29 hFm24 hc0 rfl
          have r30 : (-2147483648) ≤ (m29 a0 7) ∧ (m29 a0 7) ≤ 2147483647 := zi_rd hIm29 hc0 zb_3_7
          have e31 : (m29 a0 7) = (m24 45 5) := (zs_eq hmm29)
          refine zw_ite (fun h32 => ?_) (fun h32 => ?_)
          · refine zw_bd (zw_eq (zr_257_0 n a0 2 m29) ?_)
            generalize hmm33 : zu_up m29 a0 9 2 = m33
            have hIm33 := zi_up hmm33 hIm29 hc0 zb_3_9 (by omega) (by omega)
            have hFm33 := zfr_up hmm33 hFm29 hc0 rfl
            have r34 : 0 ≤ (m33 45 6) ∧ (m33 45 6) ≤ 700 := zi_rd hIm33 zq_45 zb_9_6
            generalize hmm35 : zu_up m33 a0 10 (m33 45 6) = m35
            have hIm35 := zi_up hmm35 hIm33 hc0 zb_3_10 (by omega) (by omega)
            have hFm35 := zfr_up hmm35 hFm33 hc0 rfl
            refine zw_b (by omega) ?_
            refine zw_some ?_
            refine zw_ite (fun h36 => ?_) (fun h36 => ?_)
            · refine zw_b (by omega) ?_
              refine zw_some ?_
              refine zw_ite (fun h37 => ?_) (fun h37 => ?_)
              · exfalso; omega
              · refine zw_b (by omega) ?_
                refine zw_some ?_
                refine zw_ite (fun h38 => ?_) (fun h38 => ?_)
                · refine zw_b (by omega) ?_
                  exact zw_some ⟨hIm35, hFm35, ⟨by omega, by omega⟩⟩
                · exfalso; omega
            · exfalso; omega
          · refine zw_ite (fun h39 => ?_) (fun h39 => ?_)
            · refine zw_b (by omega) ?_
              refine zw_some ?_
              refine zw_ite (fun h40 => ?_) (fun h40 => ?_)
              · have r41 : 1 ≤ (m29 6 1) ∧ (m29 6 1) ≤ 6 := zi_rd hIm29 zq_6 zb_4_1
                have w42 := zu_w32_id (z := (m29 6 1) - 1) (by omega) (by omega)
                refine zw_bd (zw_eq (zr_260_0 n a0 0 (zu_w32 ((m29 6 1) - 1)) m29) ?_)
                refine zw_bd (zw_mono (zk_18 n hIm29 zq_45) (fun v44 m43 hqm43 => ?_))
                obtain ⟨hIm43, hfm43, hvm43⟩ := hqm43
                have hFm43 := zfr_tr hFm29 hfm43 rfl
                have r45 : 0 ≤ (m43 45 4) ∧ (m43 45 4) ≤ 5 := zi_rd hIm43 zq_45 zb_9_4
                refine zw_ite (fun h46 => ?_) (fun h46 => ?_)
                · have r47 : (-2147483648) ≤ (m43 45 5) ∧ (m43 45 5) ≤ 2147483647 := zi_rd hIm43 zq_45 zb_9_5
                  generalize hmm48 : zu_up m43 a0 7 (m43 45 5) = m48
                  have hIm48 := zi_up hmm48 hIm43 hc0 zb_3_7 (by omega) (by omega)
                  have hFm48 := zfr_up hmm48 hFm43 hc0 rfl
                  have r49 : (-2147483648) ≤ (m48 a0 7) ∧ (m48 a0 7) ≤ 2147483647 := zi_rd hIm48 hc0 zb_3_7
                  have e50 : (m48 a0 7) = (m43 45 5) := (zs_eq hmm48)
                  refine zw_ite (fun h51 => ?_) (fun h51 => ?_)
                  · refine zw_bd (zw_eq (zr_257_0 n a0 2 m48) ?_)
                    generalize hmm52 : zu_up m48 a0 9 2 = m52
                    have hIm52 := zi_up hmm52 hIm48 hc0 zb_3_9 (by omega) (by omega)
                    have hFm52 := zfr_up hmm52 hFm48 hc0 rfl
                    have r53 : 0 ≤ (m52 45 6) ∧ (m52 45 6) ≤ 700 := zi_rd hIm52 zq_45 zb_9_6
                    generalize hmm54 : zu_up m52 a0 10 (m52 45 6) = m54
                    have hIm54 := zi_up hmm54 hIm52 hc0 zb_3_10 (by omega) (by omega)
                    have hFm54 := zfr_up hmm54 hFm52 hc0 rfl
                    refine zw_b (by omega) ?_
                    refine zw_some ?_
                    refine zw_ite (fun h55 => ?_) (fun h55 => ?_)
                    · refine zw_b (by omega) ?_
                      refine zw_some ?_
                      refine zw_ite (fun h56 => ?_) (fun h56 => ?_)
                      · exfalso; omega
                      · refine zw_b (by omega) ?_
                        refine zw_some ?_
                        refine zw_ite (fun h57 => ?_) (fun h57 => ?_)
                        · refine zw_b (by omega) ?_
                          exact zw_some ⟨hIm54, hFm54, ⟨by omega, by omega⟩⟩
                        · exfalso; omega
                    · exfalso; omega
                  · refine zw_ite (fun h58 => ?_) (fun h58 => ?_)
                    · refine zw_b (by omega) ?_
                      refine zw_some ?_
                      refine zw_ite (fun h59 => ?_) (fun h59 => ?_)
                      · have r60 : 1 ≤ (m48 6 0) ∧ (m48 6 0) ≤ 8 := zi_rd hIm48 zq_6 zb_4_0
                        have e61 : (m48 6 0) = (m21 6 0) := (Eq.trans (zs_ne hmm48 (Or.inl (zc_ne zq_6 hc0 (by decide)))) (Eq.trans (zfr_ap hfm43 zq_6 rfl) (Eq.trans (zs_ne hmm29 (Or.inl (zc_ne zq_6 hc0 (by decide)))) (zfr_ap hfm24 zq_6 rfl))))
                        have p62 := zmul_bd (x := (m48 a0 7)) (y := (m48 6 0)) (a := 0) (b := 1) (A := 5) (B := 8) (by omega) (by omega) (by omega) (by omega) (by omega) (by omega)
                        have w63 := zu_w32_id (z := (m48 a0 7) * (m48 6 0)) (by omega) (by omega)
                        have w64 := zu_w32_id (z := (zu_w32 ((m48 a0 7) * (m48 6 0))) + (m29 a0 7)) (by omega) (by omega)
                        generalize hmm65 : zu_up m48 a0 8 (zu_w32 ((zu_w32 ((m48 a0 7) * (m48 6 0))) + (m29 a0 7))) = m65
                        have hIm65 := zi_up hmm65 hIm48 hc0 zb_3_8 (by omega) (by omega)
                        have hFm65 := zfr_up hmm65 hFm48 hc0 rfl
                        refine zw_b (by omega) ?_
                        refine zw_some ?_
                        refine zw_ite (fun h66 => ?_) (fun h66 => ?_)
                        · exfalso; omega
                        · refine zw_bd (zw_eq (zr_260_0 n a0 1 15 m65) ?_)
                          refine zw_bd (zw_mono (zk_18 n hIm65 zq_45) (fun v68 m67 hqm67 => ?_))
                          obtain ⟨hIm67, hfm67, hvm67⟩ := hqm67
                          have hFm67 := zfr_tr hFm65 hfm67 rfl
                          have r69 : 0 ≤ (m67 45 4) ∧ (m67 45 4) ≤ 5 := zi_rd hIm67 zq_45 zb_9_4
                          refine zw_ite (fun h70 => ?_) (fun h70 => ?_)
                          · have r71 : (-2147483648) ≤ (m67 45 5) ∧ (m67 45 5) ≤ 2147483647 := zi_rd hIm67 zq_45 zb_9_5
                            generalize hmm72 : zu_up m67 a0 7 (m67 45 5) = m72
                            have hIm72 := zi_up hmm72 hIm67 hc0 zb_3_7 (by omega) (by omega)
                            have hFm72 := zfr_up hmm72 hFm67 hc0 rfl
                            have r73 : (-2147483648) ≤ (m72 a0 7) ∧ (m72 a0 7) ≤ 2147483647 := zi_rd hIm72 hc0 zb_3_7
                            have e74 : (m72 a0 7) = (m67 45 5) := (zs_eq hmm72)
                            refine zw_ite (fun h75 => ?_) (fun h75 => ?_)
                            · refine zw_bd (zw_eq (zr_257_0 n a0 2 m72) ?_)
                              generalize hmm76 : zu_up m72 a0 9 2 = m76
                              have hIm76 := zi_up hmm76 hIm72 hc0 zb_3_9 (by omega) (by omega)
                              have hFm76 := zfr_up hmm76 hFm72 hc0 rfl
                              have r77 : 0 ≤ (m76 45 6) ∧ (m76 45 6) ≤ 700 := zi_rd hIm76 zq_45 zb_9_6
                              generalize hmm78 : zu_up m76 a0 10 (m76 45 6) = m78
                              have hIm78 := zi_up hmm78 hIm76 hc0 zb_3_10 (by omega) (by omega)
                              have hFm78 := zfr_up hmm78 hFm76 hc0 rfl
                              refine zw_b (by omega) ?_
                              refine zw_some ?_
                              refine zw_ite (fun h79 => ?_) (fun h79 => ?_)
                              · refine zw_b (by omega) ?_
                                refine zw_some ?_
                                refine zw_ite (fun h80 => ?_) (fun h80 => ?_)
                                · exfalso; omega
                                · refine zw_b (by omega) ?_
                                  exact zw_some ⟨hIm78, hFm78, ⟨by omega, by omega⟩⟩
                              · exfalso; omega
                            · refine zw_ite (fun h81 => ?_) (fun h81 => ?_)
                              · refine zw_b (by omega) ?_
                                refine zw_some ?_
                                refine zw_ite (fun h82 => ?_) (fun h82 => ?_)
                                · have r83 : 0 ≤ (m72 a0 8) ∧ (m72 a0 8) ≤ 47 := zi_rd hIm72 hc0 zb_3_8
                                  have e84 : (m72 a0 8) = (zu_w32 ((zu_w32 ((m48 a0 7) * (m48 6 0))) + (m29 a0 7))) := (Eq.trans (zs_ne hmm72 (Or.inr (by decide))) (Eq.trans (zfr_ap hfm67 hc0 rfl) (zs_eq hmm65)))
                                  generalize hmm85 : zu_up m72 (21 + 20 + (m10 19 4)) 1 (m72 a0 8) = m85
                                  have hIm85 := zi_up hmm85 hIm72 (zc_42_e zq_21 b15) zb_8_1 (by omega) (by omega)
                                  have hFm85 := zfr_up hmm85 hFm72 (zc_42_e zq_21 b15) rfl
                                  have r86 : (-2147483648) ≤ (m85 a0 7) ∧ (m85 a0 7) ≤ 2147483647 := zi_rd hIm85 hc0 zb_3_7
                                  have e87 : (m85 a0 7) = (m72 a0 7) := (zs_ne hmm85 (Or.inl (zc_ne hc0 (zc_42_e zq_21 b15) (by decide))))
                                  generalize hmm88 : zu_up m85 (21 + 20 + (m10 19 4)) 2 (m85 a0 7) = m88
                                  have hIm88 := zi_up hmm88 hIm85 (zc_42_e zq_21 b15) zb_8_2 (by omega) (by omega)
                                  have hFm88 := zfr_up hmm88 hFm85 (zc_42_e zq_21 b15) rfl
                                  refine zw_bd (zw_eq (zr_260_0 n a0 0 3 m88) ?_)
                                  refine zw_bd (zw_mono (zk_18 n hIm88 zq_45) (fun v90 m89 hqm89 => ?_))
                                  obtain ⟨hIm89, hfm89, hvm89⟩ := hqm89
                                  have hFm89 := zfr_tr hFm88 hfm89 rfl
                                  have r91 : 0 ≤ (m89 45 4) ∧ (m89 45 4) ≤ 5 := zi_rd hIm89 zq_45 zb_9_4
                                  refine zw_ite (fun h92 => ?_) (fun h92 => ?_)
                                  · have r93 : (-2147483648) ≤ (m89 45 5) ∧ (m89 45 5) ≤ 2147483647 := zi_rd hIm89 zq_45 zb_9_5
                                    generalize hmm94 : zu_up m89 a0 7 (m89 45 5) = m94
                                    have hIm94 := zi_up hmm94 hIm89 hc0 zb_3_7 (by omega) (by omega)
                                    have hFm94 := zfr_up hmm94 hFm89 hc0 rfl
                                    have r95 : (-2147483648) ≤ (m94 a0 7) ∧ (m94 a0 7) ≤ 2147483647 := zi_rd hIm94 hc0 zb_3_7
                                    have e96 : (m94 a0 7) = (m89 45 5) := (zs_eq hmm94)
                                    refine zw_ite (fun h97 => ?_) (fun h97 => ?_)
                                    · refine zw_bd (zw_eq (zr_257_0 n a0 2 m94) ?_)
                                      generalize hmm98 : zu_up m94 a0 9 2 = m98
                                      have hIm98 := zi_up hmm98 hIm94 hc0 zb_3_9 (by omega) (by omega)
                                      have hFm98 := zfr_up hmm98 hFm94 hc0 rfl
                                      have r99 : 0 ≤ (m98 45 6) ∧ (m98 45 6) ≤ 700 := zi_rd hIm98 zq_45 zb_9_6
                                      generalize hmm100 : zu_up m98 a0 10 (m98 45 6) = m100
                                      have hIm100 := zi_up hmm100 hIm98 hc0 zb_3_10 (by omega) (by omega)
                                      have hFm100 := zfr_up hmm100 hFm98 hc0 rfl
                                      refine zw_b (by omega) ?_
                                      refine zw_some ?_
                                      refine zw_ite (fun h101 => ?_) (fun h101 => ?_)
                                      · refine zw_b (by omega) ?_
                                        refine zw_some ?_
                                        refine zw_ite (fun h102 => ?_) (fun h102 => ?_)
                                        · exfalso; omega
                                        · refine zw_b (by omega) ?_
                                          exact zw_some ⟨hIm100, hFm100, ⟨by omega, by omega⟩⟩
                                      · exfalso; omega
                                    · refine zw_ite (fun h103 => ?_) (fun h103 => ?_)
                                      · refine zw_b (by omega) ?_
                                        refine zw_some ?_
                                        refine zw_ite (fun h104 => ?_) (fun h104 => ?_)
                                        · generalize hmm105 : zu_up m94 (21 + 20 + (m10 19 4)) 3 (m94 a0 7) = m105
                                          have hIm105 := zi_up hmm105 hIm94 (zc_42_e zq_21 b15) zb_8_3 (by omega) (by omega)
                                          have hFm105 := zfr_up hmm105 hFm94 (zc_42_e zq_21 b15) rfl
                                          refine zw_bd (zw_eq (zr_260_0 n a0 0 99 m105) ?_)
                                          refine zw_bd (zw_mono (zk_18 n hIm105 zq_45) (fun v107 m106 hqm106 => ?_))
                                          obtain ⟨hIm106, hfm106, hvm106⟩ := hqm106
                                          have hFm106 := zfr_tr hFm105 hfm106 rfl
                                          have r108 : 0 ≤ (m106 45 4) ∧ (m106 45 4) ≤ 5 := zi_rd hIm106 zq_45 zb_9_4
                                          refine zw_ite (fun h109 => ?_) (fun h109 => ?_)
                                          · have r110 : (-2147483648) ≤ (m106 45 5) ∧ (m106 45 5) ≤ 2147483647 := zi_rd hIm106 zq_45 zb_9_5
                                            generalize hmm111 : zu_up m106 a0 7 (m106 45 5) = m111
                                            have hIm111 := zi_up hmm111 hIm106 hc0 zb_3_7 (by omega) (by omega)
                                            have hFm111 := zfr_up hmm111 hFm106 hc0 rfl
                                            have r112 : (-2147483648) ≤ (m111 a0 7) ∧ (m111 a0 7) ≤ 2147483647 := zi_rd hIm111 hc0 zb_3_7
                                            have e113 : (m111 a0 7) = (m106 45 5) := (zs_eq hmm111)
                                            refine zw_ite (fun h114 => ?_) (fun h114 => ?_)
                                            · refine zw_bd (zw_eq (zr_257_0 n a0 2 m111) ?_)
                                              generalize hmm115 : zu_up m111 a0 9 2 = m115
                                              have hIm115 := zi_up hmm115 hIm111 hc0 zb_3_9 (by omega) (by omega)
                                              have hFm115 := zfr_up hmm115 hFm111 hc0 rfl
                                              have r116 : 0 ≤ (m115 45 6) ∧ (m115 45 6) ≤ 700 := zi_rd hIm115 zq_45 zb_9_6
                                              generalize hmm117 : zu_up m115 a0 10 (m115 45 6) = m117
                                              have hIm117 := zi_up hmm117 hIm115 hc0 zb_3_10 (by omega) (by omega)
                                              have hFm117 := zfr_up hmm117 hFm115 hc0 rfl
                                              refine zw_b (by omega) ?_
                                              refine zw_some ?_
                                              refine zw_ite (fun h118 => ?_) (fun h118 => ?_)
                                              · refine zw_b (by omega) ?_
                                                refine zw_some ?_
                                                refine zw_ite (fun h119 => ?_) (fun h119 => ?_)
                                                · exfalso; omega
                                                · refine zw_b (by omega) ?_
                                                  exact zw_some ⟨hIm117, hFm117, ⟨by omega, by omega⟩⟩
                                              · exfalso; omega
                                            · refine zw_ite (fun h120 => ?_) (fun h120 => ?_)
                                              · refine zw_b (by omega) ?_
                                                refine zw_some ?_
                                                refine zw_ite (fun h121 => ?_) (fun h121 => ?_)
                                                · generalize hmm122 : zu_up m111 (21 + 20 + (m10 19 4)) 4 (m111 a0 7) = m122
                                                  have hIm122 := zi_up hmm122 hIm111 (zc_42_e zq_21 b15) zb_8_4 (by omega) (by omega)
                                                  have hFm122 := zfr_up hmm122 hFm111 (zc_42_e zq_21 b15) rfl
                                                  have r123 : 0 ≤ (m122 19 4) ∧ (m122 19 4) ≤ 4 := zi_rd hIm122 zq_19 zb_6_4
                                                  have e124 : (m122 19 4) = (m10 19 4) := (Eq.trans (zs_ne hmm122 (Or.inl (zc_ne zq_19 (zc_42_e zq_21 b15) (by decide)))) (Eq.trans (zs_ne hmm111 (Or.inl (zc_ne zq_19 hc0 (by decide)))) (Eq.trans (zfr_ap hfm106 zq_19 rfl) (Eq.trans (zs_ne hmm105 (Or.inl (zc_ne zq_19 (zc_42_e zq_21 b15) (by decide)))) (Eq.trans (zs_ne hmm94 (Or.inl (zc_ne zq_19 hc0 (by decide)))) (Eq.trans (zfr_ap hfm89 zq_19 rfl) (Eq.trans (zs_ne hmm88 (Or.inl (zc_ne zq_19 (zc_42_e zq_21 b15) (by decide)))) (Eq.trans (zs_ne hmm85 (Or.inl (zc_ne zq_19 (zc_42_e zq_21 b15) (by decide)))) (Eq.trans (zs_ne hmm72 (Or.inl (zc_ne zq_19 hc0 (by decide)))) (Eq.trans (zfr_ap hfm67 zq_19 rfl) (Eq.trans (zs_ne hmm65 (Or.inl (zc_ne zq_19 hc0 (by decide)))) (Eq.trans (zs_ne hmm48 (Or.inl (zc_ne zq_19 hc0 (by decide)))) (Eq.trans (zfr_ap hfm43 zq_19 rfl) (Eq.trans (zs_ne hmm29 (Or.inl (zc_ne zq_19 hc0 (by decide)))) (Eq.trans (zfr_ap hfm24 zq_19 rfl) (Eq.trans (zs_ne hmm21 (Or.inl (zc_ne zq_19 hc0 (by decide)))) (Eq.trans (zs_ne hmm20 (Or.inl (zc_ne zq_19 (zc_42_e zq_21 b15) (by decide)))) (Eq.trans (zs_ne hmm19 (Or.inl (zc_ne zq_19 (zc_42_e zq_21 b15) (by decide)))) (zs_ne hmm18 (Or.inl (zc_ne zq_19 (zc_42_e zq_21 b15) (by decide))))))))))))))))))))))
                                                  have w125 := zu_w32_id (z := (m122 19 4) + 1) (by omega) (by omega)
                                                  generalize hmm126 : zu_up m122 19 4 (zu_w32 ((m122 19 4) + 1)) = m126
                                                  have hIm126 := zi_up hmm126 hIm122 zq_19 zb_6_4 (by omega) (by omega)
                                                  have hFm126 := zfr_up hmm126 hFm122 zq_19 rfl
                                                  refine zw_b (by omega) ?_
                                                  exact zw_some ⟨hIm126, hFm126, ⟨by omega, by omega⟩⟩
                                                · exfalso; omega
                                              · refine zw_bd (zw_eq (zr_257_0 n a0 2 m111) ?_)
                                                generalize hmm127 : zu_up m111 a0 9 2 = m127
                                                have hIm127 := zi_up hmm127 hIm111 hc0 zb_3_9 (by omega) (by omega)
                                                have hFm127 := zfr_up hmm127 hFm111 hc0 rfl
                                                have r128 : 0 ≤ (m127 45 6) ∧ (m127 45 6) ≤ 700 := zi_rd hIm127 zq_45 zb_9_6
                                                generalize hmm129 : zu_up m127 a0 10 (m127 45 6) = m129
                                                have hIm129 := zi_up hmm129 hIm127 hc0 zb_3_10 (by omega) (by omega)
                                                have hFm129 := zfr_up hmm129 hFm127 hc0 rfl
                                                refine zw_b (by omega) ?_
                                                refine zw_some ?_
                                                refine zw_ite (fun h130 => ?_) (fun h130 => ?_)
                                                · refine zw_b (by omega) ?_
                                                  refine zw_some ?_
                                                  refine zw_ite (fun h131 => ?_) (fun h131 => ?_)
                                                  · exfalso; omega
                                                  · refine zw_b (by omega) ?_
                                                    exact zw_some ⟨hIm129, hFm129, ⟨by omega, by omega⟩⟩
                                                · exfalso; omega
                                          · refine zw_bd (zw_eq (zr_257_0 n a0 1 m106) ?_)
                                            generalize hmm132 : zu_up m106 a0 9 1 = m132
                                            have hIm132 := zi_up hmm132 hIm106 hc0 zb_3_9 (by omega) (by omega)
                                            have hFm132 := zfr_up hmm132 hFm106 hc0 rfl
                                            have r133 : 0 ≤ (m132 45 6) ∧ (m132 45 6) ≤ 700 := zi_rd hIm132 zq_45 zb_9_6
                                            generalize hmm134 : zu_up m132 a0 10 (m132 45 6) = m134
                                            have hIm134 := zi_up hmm134 hIm132 hc0 zb_3_10 (by omega) (by omega)
                                            have hFm134 := zfr_up hmm134 hFm132 hc0 rfl
                                            refine zw_b (by omega) ?_
                                            refine zw_some ?_
                                            refine zw_b (by omega) ?_
                                            refine zw_some ?_
                                            refine zw_ite (fun h135 => ?_) (fun h135 => ?_)
                                            · exfalso; omega
                                            · refine zw_b (by omega) ?_
                                              exact zw_some ⟨hIm134, hFm134, ⟨by omega, by omega⟩⟩
                                        · exfalso; omega
                                      · refine zw_bd (zw_eq (zr_257_0 n a0 2 m94) ?_)
                                        generalize hmm136 : zu_up m94 a0 9 2 = m136
                                        have hIm136 := zi_up hmm136 hIm94 hc0 zb_3_9 (by omega) (by omega)
                                        have hFm136 := zfr_up hmm136 hFm94 hc0 rfl
                                        have r137 : 0 ≤ (m136 45 6) ∧ (m136 45 6) ≤ 700 := zi_rd hIm136 zq_45 zb_9_6
                                        generalize hmm138 : zu_up m136 a0 10 (m136 45 6) = m138
                                        have hIm138 := zi_up hmm138 hIm136 hc0 zb_3_10 (by omega) (by omega)
                                        have hFm138 := zfr_up hmm138 hFm136 hc0 rfl
                                        refine zw_b (by omega) ?_
                                        refine zw_some ?_
                                        refine zw_ite (fun h139 => ?_) (fun h139 => ?_)
                                        · refine zw_b (by omega) ?_
                                          refine zw_some ?_
                                          refine zw_ite (fun h140 => ?_) (fun h140 => ?_)
                                          · exfalso; omega
                                          · refine zw_b (by omega) ?_
                                            exact zw_some ⟨hIm138, hFm138, ⟨by omega, by omega⟩⟩
                                        · exfalso; omega
                                  · refine zw_bd (zw_eq (zr_257_0 n a0 1 m89) ?_)
                                    generalize hmm141 : zu_up m89 a0 9 1 = m141
                                    have hIm141 := zi_up hmm141 hIm89 hc0 zb_3_9 (by omega) (by omega)
                                    have hFm141 := zfr_up hmm141 hFm89 hc0 rfl
                                    have r142 : 0 ≤ (m141 45 6) ∧ (m141 45 6) ≤ 700 := zi_rd hIm141 zq_45 zb_9_6
                                    generalize hmm143 : zu_up m141 a0 10 (m141 45 6) = m143
                                    have hIm143 := zi_up hmm143 hIm141 hc0 zb_3_10 (by omega) (by omega)
                                    have hFm143 := zfr_up hmm143 hFm141 hc0 rfl
                                    refine zw_b (by omega) ?_
                                    refine zw_some ?_
                                    refine zw_b (by omega) ?_
                                    refine zw_some ?_
                                    refine zw_ite (fun h144 => ?_) (fun h144 => ?_)
                                    · exfalso; omega
                                    · refine zw_b (by omega) ?_
                                      exact zw_some ⟨hIm143, hFm143, ⟨by omega, by omega⟩⟩
                                · exfalso; omega
                              · refine zw_bd (zw_eq (zr_257_0 n a0 2 m72) ?_)
                                generalize hmm145 : zu_up m72 a0 9 2 = m145
                                have hIm145 := zi_up hmm145 hIm72 hc0 zb_3_9 (by omega) (by omega)
                                have hFm145 := zfr_up hmm145 hFm72 hc0 rfl
                                have r146 : 0 ≤ (m145 45 6) ∧ (m145 45 6) ≤ 700 := zi_rd hIm145 zq_45 zb_9_6
                                generalize hmm147 : zu_up m145 a0 10 (m145 45 6) = m147
                                have hIm147 := zi_up hmm147 hIm145 hc0 zb_3_10 (by omega) (by omega)
                                have hFm147 := zfr_up hmm147 hFm145 hc0 rfl
                                refine zw_b (by omega) ?_
                                refine zw_some ?_
                                refine zw_ite (fun h148 => ?_) (fun h148 => ?_)
                                · refine zw_b (by omega) ?_
                                  refine zw_some ?_
                                  refine zw_ite (fun h149 => ?_) (fun h149 => ?_)
                                  · exfalso; omega
                                  · refine zw_b (by omega) ?_
                                    exact zw_some ⟨hIm147, hFm147, ⟨by omega, by omega⟩⟩
                                · exfalso; omega
                          · refine zw_bd (zw_eq (zr_257_0 n a0 1 m67) ?_)
                            generalize hmm150 : zu_up m67 a0 9 1 = m150
                            have hIm150 := zi_up hmm150 hIm67 hc0 zb_3_9 (by omega) (by omega)
                            have hFm150 := zfr_up hmm150 hFm67 hc0 rfl
                            have r151 : 0 ≤ (m150 45 6) ∧ (m150 45 6) ≤ 700 := zi_rd hIm150 zq_45 zb_9_6
                            generalize hmm152 : zu_up m150 a0 10 (m150 45 6) = m152
                            have hIm152 := zi_up hmm152 hIm150 hc0 zb_3_10 (by omega) (by omega)
                            have hFm152 := zfr_up hmm152 hFm150 hc0 rfl
                            refine zw_b (by omega) ?_
                            refine zw_some ?_
                            refine zw_b (by omega) ?_
                            refine zw_some ?_
                            refine zw_ite (fun h153 => ?_) (fun h153 => ?_)
                            · exfalso; omega
                            · refine zw_b (by omega) ?_
                              exact zw_some ⟨hIm152, hFm152, ⟨by omega, by omega⟩⟩
                      · exfalso; omega
                    · refine zw_bd (zw_eq (zr_257_0 n a0 2 m48) ?_)
                      generalize hmm154 : zu_up m48 a0 9 2 = m154
                      have hIm154 := zi_up hmm154 hIm48 hc0 zb_3_9 (by omega) (by omega)
                      have hFm154 := zfr_up hmm154 hFm48 hc0 rfl
                      have r155 : 0 ≤ (m154 45 6) ∧ (m154 45 6) ≤ 700 := zi_rd hIm154 zq_45 zb_9_6
                      generalize hmm156 : zu_up m154 a0 10 (m154 45 6) = m156
                      have hIm156 := zi_up hmm156 hIm154 hc0 zb_3_10 (by omega) (by omega)
                      have hFm156 := zfr_up hmm156 hFm154 hc0 rfl
                      refine zw_b (by omega) ?_
                      refine zw_some ?_
                      refine zw_ite (fun h157 => ?_) (fun h157 => ?_)
                      · refine zw_b (by omega) ?_
                        refine zw_some ?_
                        refine zw_ite (fun h158 => ?_) (fun h158 => ?_)
                        · exfalso; omega
                        · refine zw_b (by omega) ?_
                          refine zw_some ?_
                          refine zw_ite (fun h159 => ?_) (fun h159 => ?_)
                          · refine zw_b (by omega) ?_
                            exact zw_some ⟨hIm156, hFm156, ⟨by omega, by omega⟩⟩
                          · exfalso; omega
                      · exfalso; omega
                · refine zw_bd (zw_eq (zr_257_0 n a0 1 m43) ?_)
                  generalize hmm160 : zu_up m43 a0 9 1 = m160
                  have hIm160 := zi_up hmm160 hIm43 hc0 zb_3_9 (by omega) (by omega)
                  have hFm160 := zfr_up hmm160 hFm43 hc0 rfl
                  have r161 : 0 ≤ (m160 45 6) ∧ (m160 45 6) ≤ 700 := zi_rd hIm160 zq_45 zb_9_6
                  generalize hmm162 : zu_up m160 a0 10 (m160 45 6) = m162
                  have hIm162 := zi_up hmm162 hIm160 hc0 zb_3_10 (by omega) (by omega)
                  have hFm162 := zfr_up hmm162 hFm160 hc0 rfl
                  refine zw_b (by omega) ?_
                  refine zw_some ?_
                  refine zw_b (by omega) ?_
                  refine zw_some ?_
                  refine zw_ite (fun h163 => ?_) (fun h163 => ?_)
                  · exfalso; omega
                  · refine zw_b (by omega) ?_
                    refine zw_some ?_
                    refine zw_ite (fun h164 => ?_) (fun h164 => ?_)
                    · refine zw_b (by omega) ?_
                      exact zw_some ⟨hIm162, hFm162, ⟨by omega, by omega⟩⟩
                    · exfalso; omega
              · exfalso; omega
            · refine zw_bd (zw_eq (zr_257_0 n a0 2 m29) ?_)
              generalize hmm165 : zu_up m29 a0 9 2 = m165
              have hIm165 := zi_up hmm165 hIm29 hc0 zb_3_9 (by omega) (by omega)
              have hFm165 := zfr_up hmm165 hFm29 hc0 rfl
              have r166 : 0 ≤ (m165 45 6) ∧ (m165 45 6) ≤ 700 := zi_rd hIm165 zq_45 zb_9_6
              generalize hmm167 : zu_up m165 a0 10 (m165 45 6) = m167
              have hIm167 := zi_up hmm167 hIm165 hc0 zb_3_10 (by omega) (by omega)
              have hFm167 := zfr_up hmm167 hFm165 hc0 rfl
              refine zw_b (by omega) ?_
              refine zw_some ?_
              refine zw_ite (fun h168 => ?_) (fun h168 => ?_)
              · refine zw_b (by omega) ?_
                refine zw_some ?_
                refine zw_ite (fun h169 => ?_) (fun h169 => ?_)
                · exfalso; omega
                · refine zw_b (by omega) ?_
                  refine zw_some ?_
                  refine zw_ite (fun h170 => ?_) (fun h170 => ?_)
                  · refine zw_b (by omega) ?_
                    exact zw_some ⟨hIm167, hFm167, ⟨by omega, by omega⟩⟩
                  · exfalso; omega
              · exfalso; omega
        · refine zw_bd (zw_eq (zr_257_0 n a0 1 m24) ?_)
          generalize hmm171 : zu_up m24 a0 9 1 = m171
          have hIm171 := zi_up hmm171 hIm24 hc0 zb_3_9 (by omega) (by omega)
          have hFm171 := zfr_up hmm171 hFm24 hc0 rfl
          have r172 : 0 ≤ (m171 45 6) ∧ (m171 45 6) ≤ 700 := zi_rd hIm171 zq_45 zb_9_6
          generalize hmm173 : zu_up m171 a0 10 (m171 45 6) = m173
          have hIm173 := zi_up hmm173 hIm171 hc0 zb_3_10 (by omega) (by omega)
          have hFm173 := zfr_up hmm173 hFm171 hc0 rfl
          refine zw_b (by omega) ?_
          refine zw_some ?_
          refine zw_b (by omega) ?_
          refine zw_some ?_
          refine zw_ite (fun h174 => ?_) (fun h174 => ?_)
          · exfalso; omega
          · refine zw_b (by omega) ?_
            refine zw_some ?_
            refine zw_ite (fun h175 => ?_) (fun h175 => ?_)
            · refine zw_b (by omega) ?_
              exact zw_some ⟨hIm173, hFm173, ⟨by omega, by omega⟩⟩
            · exfalso; omega
      · refine zw_bd (zw_eq (zr_257_0 n a0 3 m10) ?_)
        generalize hmm176 : zu_up m10 a0 9 3 = m176
        have hIm176 := zi_up hmm176 hIm10 hc0 zb_3_9 (by omega) (by omega)
        have hFm176 := zfr_up hmm176 hFm10 hc0 rfl
        have r177 : 0 ≤ (m176 45 6) ∧ (m176 45 6) ≤ 700 := zi_rd hIm176 zq_45 zb_9_6
        generalize hmm178 : zu_up m176 a0 10 (m176 45 6) = m178
        have hIm178 := zi_up hmm178 hIm176 hc0 zb_3_10 (by omega) (by omega)
        have hFm178 := zfr_up hmm178 hFm176 hc0 rfl
        refine zw_b (by omega) ?_
        refine zw_some ?_
        refine zw_b (by omega) ?_
        exact zw_some ⟨hIm178, hFm178, ⟨by omega, by omega⟩⟩
    · refine zw_bd (zw_eq (zr_257_0 n a0 1 m3) ?_)
      generalize hmm179 : zu_up m3 a0 9 1 = m179
      have hIm179 := zi_up hmm179 hIm3 hc0 zb_3_9 (by omega) (by omega)
      have hFm179 := zfr_up hmm179 hFm3 hc0 rfl
      have r180 : 0 ≤ (m179 45 6) ∧ (m179 45 6) ≤ 700 := zi_rd hIm179 zq_45 zb_9_6
      generalize hmm181 : zu_up m179 a0 10 (m179 45 6) = m181
      have hIm181 := zi_up hmm181 hIm179 hc0 zb_3_10 (by omega) (by omega)
      have hFm181 := zfr_up hmm181 hFm179 hc0 rfl
      refine zw_b (by omega) ?_
      refine zw_some ?_
      refine zw_b (by omega) ?_
      exact zw_some ⟨hIm181, hFm181, ⟨by omega, by omega⟩⟩
  · refine zw_bd (zw_eq (zr_257_0 n a0 2 m0) ?_)
    generalize hmm182 : zu_up m0 a0 9 2 = m182
    have hIm182 := zi_up hmm182 hIm0 hc0 zb_3_9 (by omega) (by omega)
    have hFm182 := zfr_up hmm182 hFm0 hc0 rfl
    have r183 : 0 ≤ (m182 45 6) ∧ (m182 45 6) ≤ 700 := zi_rd hIm182 zq_45 zb_9_6
    generalize hmm184 : zu_up m182 a0 10 (m182 45 6) = m184
    have hIm184 := zi_up hmm184 hIm182 hc0 zb_3_10 (by omega) (by omega)
    have hFm184 := zfr_up hmm184 hFm182 hc0 rfl
    refine zw_b (by omega) ?_
    refine zw_some ?_
    refine zw_b (by omega) ?_
    exact zw_some ⟨hIm184, hFm184, ⟨by omega, by omega⟩⟩
set_option maxHeartbeats 4000000 in
theorem zk_270 (n : Nat) {a0 : Int} {m0 : zu_m} (hIm0 : zi_I m0) (hc0 : zcls a0 = 3)   (he0 : 1 ≤ m0 45 4 ∧ m0 45 4 ≤ 1) (he1 : 11 ≤ m0 45 5 ∧ m0 45 5 ≤ 11)  (hRK10m0 : zR_K10 m0) : zw (zu_call (zt_T n) 270 [(7, a0)] m0) (fun v m => zi_I m ∧ zfr [(3, 8), (3, 10), (3, 11), (5, 6), (5, 7), (9, 4), (9, 5), (9, 6), (9, 7), (10, 4), (10, 5), (10, 7), (10, 8), (33, 0), (34, 0), (35, 0), (36, 0), (47, 0), (48, 0)] m0 m ∧ zR_K10 m ∧ (0 ≤ v ∧ v ≤ 1)) := by
  have hFm0 : zfr [(3, 8), (3, 10), (3, 11), (5, 6), (5, 7), (9, 4), (9, 5), (9, 6), (9, 7), (10, 4), (10, 5), (10, 7), (10, 8), (33, 0), (34, 0), (35, 0), (36, 0), (47, 0), (48, 0)] m0 m0 := zfr_rf _ _
  refine zw_eq (zr_270_0 n a0 m0) ?_
  refine zw_bd (zw_eq (zr_261_0 n a0 19 4 m0) ?_)
  refine zw_bd (zw_mono (zk_18 n hIm0 zq_45) (fun v2 m1 hqm1 => ?_))
  obtain ⟨hIm1, hfm1, hvm1⟩ := hqm1
  have hFm1 := zfr_tr hFm0 hfm1 rfl
  have hRK10m1 := zR_K10_fr (zdis_fr hfm1 rfl) hRK10m0
  refine zw_bd (zw_eq (zr_279_0 n 45 19 4 m1) ?_)
  have r3 : 0 ≤ (m1 45 4) ∧ (m1 45 4) ≤ 5 := zi_rd hIm1 zq_45 zb_9_4
  refine zw_ite (fun h4 => ?_) (fun h4 => ?_)
  · refine zw_b (by omega) ?_
    refine zw_some ?_
    refine zw_ite (fun h5 => ?_) (fun h5 => ?_)
    · exfalso; omega
    · refine zw_bd (zw_eq (zr_257_0 n a0 1 m1) ?_)
      generalize hmm6 : zu_up m1 a0 9 1 = m6
      have hIm6 := zi_up hmm6 hIm1 hc0 zb_3_9 (by omega) (by omega)
      have hFm6 := zfr_up hmm6 hFm1 hc0 rfl
      have hRK10m6 := zR_K10_fr (zdis_fr (zfr_up hmm6 (zfr_rf [(3, 10)] _) hc0 rfl) rfl) hRK10m1
      have r7 : 0 ≤ (m6 45 6) ∧ (m6 45 6) ≤ 700 := zi_rd hIm6 zq_45 zb_9_6
      generalize hmm8 : zu_up m6 a0 10 (m6 45 6) = m8
      have hIm8 := zi_up hmm8 hIm6 hc0 zb_3_10 (by omega) (by omega)
      have hFm8 := zfr_up hmm8 hFm6 hc0 rfl
      have hRK10m8 := zR_K10_fr (zdis_fr (zfr_up hmm8 (zfr_rf [(3, 11)] _) hc0 rfl) rfl) hRK10m6
      refine zw_b (by omega) ?_
      refine zw_some ?_
      refine zw_b (by omega) ?_
      refine zw_some ?_
      refine zw_ite (fun h9 => ?_) (fun h9 => ?_)
      · exfalso; omega
      · refine zw_b (by omega) ?_
        exact zw_some ⟨hIm8, hFm8, hRK10m8, ⟨by omega, by omega⟩⟩
  · have r10 : (-2147483648) ≤ (m1 45 5) ∧ (m1 45 5) ≤ 2147483647 := zi_rd hIm1 zq_45 zb_9_5
    refine zw_ite (fun h11 => ?_) (fun h11 => ?_)
    · refine zw_b (by omega) ?_
      refine zw_some ?_
      refine zw_ite (fun h12 => ?_) (fun h12 => ?_)
      · exfalso; omega
      · refine zw_bd (zw_eq (zr_257_0 n a0 1 m1) ?_)
        generalize hmm13 : zu_up m1 a0 9 1 = m13
        have hIm13 := zi_up hmm13 hIm1 hc0 zb_3_9 (by omega) (by omega)
        have hFm13 := zfr_up hmm13 hFm1 hc0 rfl
        have hRK10m13 := zR_K10_fr (zdis_fr (zfr_up hmm13 (zfr_rf [(3, 10)] _) hc0 rfl) rfl) hRK10m1
        have r14 : 0 ≤ (m13 45 6) ∧ (m13 45 6) ≤ 700 := zi_rd hIm13 zq_45 zb_9_6
        generalize hmm15 : zu_up m13 a0 10 (m13 45 6) = m15
        have hIm15 := zi_up hmm15 hIm13 hc0 zb_3_10 (by omega) (by omega)
        have hFm15 := zfr_up hmm15 hFm13 hc0 rfl
        have hRK10m15 := zR_K10_fr (zdis_fr (zfr_up hmm15 (zfr_rf [(3, 11)] _) hc0 rfl) rfl) hRK10m13
        refine zw_b (by omega) ?_
        refine zw_some ?_
        refine zw_b (by omega) ?_
        refine zw_some ?_
        refine zw_ite (fun h16 => ?_) (fun h16 => ?_)
        · exfalso; omega
        · refine zw_b (by omega) ?_
          exact zw_some ⟨hIm15, hFm15, hRK10m15, ⟨by omega, by omega⟩⟩
    · have w17 := zu_w32_id (z := 19 + 4) (by omega) (by omega)
      refine zw_ite (fun h18 => ?_) (fun h18 => ?_)
      · refine zw_b (by omega) ?_
        refine zw_some ?_
        refine zw_ite (fun h19 => ?_) (fun h19 => ?_)
        · exfalso; omega
        · refine zw_bd (zw_eq (zr_257_0 n a0 1 m1) ?_)
          generalize hmm20 : zu_up m1 a0 9 1 = m20
          have hIm20 := zi_up hmm20 hIm1 hc0 zb_3_9 (by omega) (by omega)
          have hFm20 := zfr_up hmm20 hFm1 hc0 rfl
          have hRK10m20 := zR_K10_fr (zdis_fr (zfr_up hmm20 (zfr_rf [(3, 10)] _) hc0 rfl) rfl) hRK10m1
          have r21 : 0 ≤ (m20 45 6) ∧ (m20 45 6) ≤ 700 := zi_rd hIm20 zq_45 zb_9_6
          generalize hmm22 : zu_up m20 a0 10 (m20 45 6) = m22
          have hIm22 := zi_up hmm22 hIm20 hc0 zb_3_10 (by omega) (by omega)
          have hFm22 := zfr_up hmm22 hFm20 hc0 rfl
          have hRK10m22 := zR_K10_fr (zdis_fr (zfr_up hmm22 (zfr_rf [(3, 11)] _) hc0 rfl) rfl) hRK10m20
          refine zw_b (by omega) ?_
          refine zw_some ?_
          refine zw_b (by omega) ?_
          refine zw_some ?_
          refine zw_ite (fun h23 => ?_) (fun h23 => ?_)
          · exfalso; omega
          · refine zw_b (by omega) ?_
            exact zw_some ⟨hIm22, hFm22, hRK10m22, ⟨by omega, by omega⟩⟩
      · refine zw_b (by omega) ?_
        refine zw_some ?_
        refine zw_ite (fun h24 => ?_) (fun h24 => ?_)
        · have w25 := zu_w32_id (z := (m1 45 5) - 19) (by omega) (by omega)
          generalize hmm26 : zu_up m1 a0 7 (zu_w32 ((m1 45 5) - 19)) = m26
          have hIm26 := zi_up hmm26 hIm1 hc0 zb_3_7 (by omega) (by omega)
          have hFm26 := zfr_up hmm26 hFm1 hc0 rfl
          have hRK10m26 := zR_K10_fr (zdis_fr (zfr_up hmm26 (zfr_rf [(3, 8)] _) hc0 rfl) rfl) hRK10m1
          refine zw_b (by omega) ?_
          refine zw_some ?_
          refine zw_ite (fun h27 => ?_) (fun h27 => ?_)
          · have r28 : (-2147483648) ≤ (m26 a0 7) ∧ (m26 a0 7) ≤ 2147483647 := zi_rd hIm26 hc0 zb_3_7
            have e29 : (m26 a0 7) = (zu_w32 ((m1 45 5) - 19)) := (zs_eq hmm26)
            have b30 : 0 ≤ (m26 a0 7) ∧ (m26 a0 7) < 4 := by omega
            refine zw_if b30 ?_
            have r31 : (-1) ≤ (m26 ((6 + 4) + 3) (m26 a0 7)) ∧ (m26 ((6 + 4) + 3) (m26 a0 7)) ≤ 64 := zi_rd hIm26 (zc_5_2 (zc_4_9 zq_6)) (zb_35 _)
            refine zw_ite (fun h32 => ?_) (fun h32 => ?_)
            · refine zw_bd (zw_mono (zk_198 n hIm26 zq_47 ⟨by omega, by omega⟩ hRK10m26) (fun v34 m33 hqm33 => ?_))
              obtain ⟨hIm33, hfm33, hvm33⟩ := hqm33
              have hFm33 := zfr_tr hFm26 hfm33 rfl
              obtain ⟨hRK10m33, hvm33⟩ := hvm33
              refine zw_ite (fun h35 => ?_) (fun h35 => ?_)
              · refine zw_b (by omega) ?_
                exact zw_some ⟨hIm33, hFm33, hRK10m33, ⟨by omega, by omega⟩⟩
              · refine zw_bd (zw_eq (zr_257_0 n a0 v34 m33) ?_)
                generalize hmm36 : zu_up m33 a0 9 v34 = m36
                have hIm36 := zi_up hmm36 hIm33 hc0 zb_3_9 (by omega) (by omega)
                have hFm36 := zfr_up hmm36 hFm33 hc0 rfl
                have hRK10m36 := zR_K10_fr (zdis_fr (zfr_up hmm36 (zfr_rf [(3, 10)] _) hc0 rfl) rfl) hRK10m33
                have r37 : 0 ≤ (m36 45 6) ∧ (m36 45 6) ≤ 700 := zi_rd hIm36 zq_45 zb_9_6
                generalize hmm38 : zu_up m36 a0 10 (m36 45 6) = m38
                have hIm38 := zi_up hmm38 hIm36 hc0 zb_3_10 (by omega) (by omega)
                have hFm38 := zfr_up hmm38 hFm36 hc0 rfl
                have hRK10m38 := zR_K10_fr (zdis_fr (zfr_up hmm38 (zfr_rf [(3, 11)] _) hc0 rfl) rfl) hRK10m36
                refine zw_b (by omega) ?_
                refine zw_some ?_
                refine zw_ite (fun h39 => ?_) (fun h39 => ?_)
                · refine zw_b (by omega) ?_
                  exact zw_some ⟨hIm38, hFm38, hRK10m38, ⟨by omega, by omega⟩⟩
                · exfalso; omega
            · refine zw_bd (zw_eq (zr_257_0 n a0 3 m26) ?_)
              generalize hmm40 : zu_up m26 a0 9 3 = m40
              have hIm40 := zi_up hmm40 hIm26 hc0 zb_3_9 (by omega) (by omega)
              have hFm40 := zfr_up hmm40 hFm26 hc0 rfl
              have hRK10m40 := zR_K10_fr (zdis_fr (zfr_up hmm40 (zfr_rf [(3, 10)] _) hc0 rfl) rfl) hRK10m26
              have r41 : 0 ≤ (m40 45 6) ∧ (m40 45 6) ≤ 700 := zi_rd hIm40 zq_45 zb_9_6
              generalize hmm42 : zu_up m40 a0 10 (m40 45 6) = m42
              have hIm42 := zi_up hmm42 hIm40 hc0 zb_3_10 (by omega) (by omega)
              have hFm42 := zfr_up hmm42 hFm40 hc0 rfl
              have hRK10m42 := zR_K10_fr (zdis_fr (zfr_up hmm42 (zfr_rf [(3, 11)] _) hc0 rfl) rfl) hRK10m40
              refine zw_b (by omega) ?_
              refine zw_some ?_
              refine zw_b (by omega) ?_
              exact zw_some ⟨hIm42, hFm42, hRK10m42, ⟨by omega, by omega⟩⟩
          · exfalso; omega
        · exfalso; omega
set_option maxHeartbeats 4000000 in
theorem zl_290 (n : Nat) {a0 a1 a2 a3 : Int} {m0 : zu_m} (hc0 : zcls a0 = 24)  : ∀ k : Nat, (∀ (x4 : Int) (mh : zu_m), zi_I mh → zfr [(56, 0), (59, 0), (87, 0), (88, 0), (89, 0), (90, 0), (91, 0)] m0 mh → (0 ≤ a1 ∧ a1 ≤ 3) → (0 ≤ a2 ∧ a2 ≤ 47) → (1 ≤ a3 ∧ a3 ≤ 18) → (0 ≤ x4 ∧ x4 ≤ 18) → (zR_K54 mh) → (18 - x4) * 1 + 0 < (k : Int) → zw (zu_ex (zt_T n) 290 3 [(33, a0), (0, a1), (0, a2), (0, a3), (0, x4)] [] mh) (fun v m => zi_I m ∧ zfr [(56, 0), (59, 0), (87, 0), (88, 0), (89, 0), (90, 0), (91, 0)] m0 m ∧ zR_K54 m ∧ True)) := by
  intro k
  induction k with
  | zero => exact fun x4 mh hImh hFmh hba1 hba2 hba3 hbx4 hRK54mh hM => by exfalso; omega
  | succ k ih =>
    intro x4 mh hImh hFmh hba1 hba2 hba3 hbx4 hRK54mh hM
    refine zw_eq (zr_290_3 n a0 a1 a2 a3 x4 mh) ?_
    refine zw_ite (fun h1 => ?_) (fun h1 => ?_)
    · exact zw_some ⟨hImh, hFmh, hRK54mh, trivial⟩
    · refine zw_ite (fun h2 => ?_) (fun h2 => ?_)
      · exfalso; omega
      · have b3 : 0 ≤ a2 ∧ a2 < 48 := by omega
        refine zw_if b3 ?_
        have r4 : (-2147483648) ≤ (mh 157 a2) ∧ (mh 157 a2) ≤ 2147483647 := zi_rd hImh zq_157 (zb_88 _)
        refine zw_ite (fun h5 => ?_) (fun h5 => ?_)
        · exact zw_some ⟨hImh, hFmh, hRK54mh, trivial⟩
        · have b6 : 0 ≤ x4 ∧ x4 < 18 := by omega
          refine zw_if b6 ?_
          have r7 : 0 ≤ (mh 156 x4) ∧ (mh 156 x4) ≤ 1 := zi_rd hImh zq_156 (zb_87 _)
          refine zw_ite (fun h8 => ?_) (fun h8 => ?_)
          · have w9 := zu_w32_id (z := x4 + 1) (by omega) (by omega)
            have hM : (18 - (zu_w32 (x4 + 1))) * 1 + 0 < (k : Int) := by omega
            exact ih (zu_w32 (x4 + 1)) mh hImh hFmh ⟨by omega, by omega⟩ ⟨by omega, by omega⟩ ⟨by omega, by omega⟩ ⟨by omega, by omega⟩ hRK54mh hM
          · have b10 : 0 ≤ x4 ∧ x4 < 18 := by omega
            refine zw_if b10 ?_
            have r11 : 0 ≤ (mh 155 x4) ∧ (mh 155 x4) ≤ 47 := zi_rd hImh zq_155 (zb_86 _)
            refine zw_ite (fun h12 => ?_) (fun h12 => ?_)
            · have w13 := zu_w32_id (z := x4 + 1) (by omega) (by omega)
              have hM : (18 - (zu_w32 (x4 + 1))) * 1 + 0 < (k : Int) := by omega
              exact ih (zu_w32 (x4 + 1)) mh hImh hFmh ⟨by omega, by omega⟩ ⟨by omega, by omega⟩ ⟨by omega, by omega⟩ ⟨by omega, by omega⟩ hRK54mh hM
            · refine zw_bd (zw_mono (zk_291 n hImh hc0 ⟨by omega, by omega⟩ ⟨by omega, by omega⟩ hRK54mh) (fun v15 m14 hqm14 => ?_))
              obtain ⟨hIm14, hfm14, hvm14⟩ := hqm14
              have hFm14 := zfr_tr hFmh hfm14 rfl
              obtain ⟨hRK54m14, hvm14⟩ := hvm14
              refine zw_ite (fun h16 => ?_) (fun h16 => ?_)
              · have w17 := zu_w32_id (z := x4 + 1) (by omega) (by omega)
                have hM : (18 - (zu_w32 (x4 + 1))) * 1 + 0 < (k : Int) := by omega
                exact ih (zu_w32 (x4 + 1)) m14 hIm14 hFm14 ⟨by omega, by omega⟩ ⟨by omega, by omega⟩ ⟨by omega, by omega⟩ ⟨by omega, by omega⟩ hRK54m14 hM
              · refine zw_b (by omega) ?_
                have b18 : 0 ≤ x4 ∧ x4 < 18 := by omega
                refine zw_if b18 ?_
                generalize hmm19 : zu_up m14 156 x4 1 = m19
                have hIm19 := zi_up hmm19 hIm14 zq_156 (zb_87 _) (by omega) (by omega)
                have hFm19 := zfr_up hmm19 hFm14 zq_156 rfl
                have hRK54m19 := zR_K54_fr (zdis_fr (zfr_up hmm19 (zfr_rf [(87, 0)] _) zq_156 rfl) rfl) hRK54m14
                have b20 : 0 ≤ a2 ∧ a2 < 48 := by omega
                refine zw_if b20 ?_
                have r21 : (-2147483648) ≤ (m19 157 a2) ∧ (m19 157 a2) ≤ 2147483647 := zi_rd hIm19 zq_157 (zb_88 _)
                have e22 : (m19 157 a2) = (mh 157 a2) := (Eq.trans (zs_ne hmm19 (Or.inl (zc_ne zq_157 zq_156 (by decide)))) (zfr_ap hfm14 zq_157 rfl))
                have w23 := zu_w32_id (z := (m19 157 a2) - 1) (by omega) (by omega)
                have b24 : 0 ≤ a2 ∧ a2 < 48 := by omega
                refine zw_if b24 ?_
                generalize hmm25 : zu_up m19 157 a2 (zu_w32 ((m19 157 a2) - 1)) = m25
                have hIm25 := zi_up hmm25 hIm19 zq_157 (zb_88 _) (by omega) (by omega)
                have hFm25 := zfr_up hmm25 hFm19 zq_157 rfl
                have hRK54m25 := zR_K54_fr (zdis_fr (zfr_up hmm25 (zfr_rf [(88, 0)] _) zq_157 rfl) rfl) hRK54m19
                have b26 : 0 ≤ a1 ∧ a1 < 4 := by omega
                refine zw_if b26 ?_
                have r27 : (-2147483648) ≤ (m25 158 a1) ∧ (m25 158 a1) ≤ 2147483647 := zi_rd hIm25 zq_158 (zb_89 _)
                have w28 := zu_w32_rg ((m25 158 a1) + 1)
                have b29 : 0 ≤ a1 ∧ a1 < 4 := by omega
                refine zw_if b29 ?_
                generalize hmm30 : zu_up m25 158 a1 (zu_w32 ((m25 158 a1) + 1)) = m30
                have hIm30 := zi_up hmm30 hIm25 zq_158 (zb_89 _) (by omega) (by omega)
                have hFm30 := zfr_up hmm30 hFm25 zq_158 rfl
                have hRK54m30 := zR_K54_fr (zdis_fr (zfr_up hmm30 (zfr_rf [(89, 0)] _) zq_158 rfl) rfl) hRK54m25
                have w31 := zu_w32_id (z := x4 + 1) (by omega) (by omega)
                have hM : (18 - (zu_w32 (x4 + 1))) * 1 + 0 < (k : Int) := by omega
                exact ih (zu_w32 (x4 + 1)) m30 hIm30 hFm30 ⟨by omega, by omega⟩ ⟨by omega, by omega⟩ ⟨by omega, by omega⟩ ⟨by omega, by omega⟩ hRK54m30 hM
set_option maxHeartbeats 4000000 in
theorem zk_290 (n : Nat) {a0 a1 a2 a3 : Int} {m0 : zu_m} (hIm0 : zi_I m0) (hc0 : zcls a0 = 24) (ha1 : 0 ≤ a1 ∧ a1 ≤ 3) (ha2 : 0 ≤ a2 ∧ a2 ≤ 47) (ha3 : 1 ≤ a3 ∧ a3 ≤ 18)    (hRK54m0 : zR_K54 m0) : zw (zu_call (zt_T n) 290 [(33, a0), (0, a1), (0, a2), (0, a3)] m0) (fun v m => zi_I m ∧ zfr [(56, 0), (59, 0), (87, 0), (88, 0), (89, 0), (90, 0), (91, 0)] m0 m ∧ zR_K54 m ∧ True) := by
  have hFm0 : zfr [(56, 0), (59, 0), (87, 0), (88, 0), (89, 0), (90, 0), (91, 0)] m0 m0 := zfr_rf _ _
  refine zw_eq (zr_290_0 n a0 a1 a2 a3 m0) ?_
  have hM : (18 - 0) * 1 + 0 < ((19 : Nat) : Int) := by omega
  exact (zl_290 n (m0 := m0) hc0 19) 0 m0 hIm0 hFm0 ⟨by omega, by omega⟩ ⟨by omega, by omega⟩ ⟨by omega, by omega⟩ ⟨by omega, by omega⟩ hRK54m0 hM
set_option maxHeartbeats 4000000 in
theorem zl_33 (n : Nat) {a0 : Int} {m0 : zu_m} (hc0 : zcls a0 = 28)  : ∀ k : Nat, (∀ (x1 : Int) (mh : zu_m), zi_I mh → zfr [(28, 54), (28, 63), (28, 64), (28, 65), (28, 66), (28, 67), (28, 68), (28, 69), (28, 70), (28, 78), (28, 79), (28, 82), (28, 84), (122, 0), (123, 0), (124, 0), (125, 0), (126, 0), (127, 0), (128, 0), (129, 0), (130, 0), (131, 0)] m0 mh → (0 ≤ x1 ∧ x1 ≤ 4) → ((-1) ≤ mh a0 62 ∧ mh a0 62 ≤ 99999) → ((-1) ≤ mh a0 63 ∧ mh a0 63 ≤ 99999) → (4 - x1) * 1 + 49 < (k : Int) → zw (zu_ex (zt_T n) 33 32 [(40, a0), (0, x1)] [] mh) (fun v m => zi_I m ∧ zfr [(28, 54), (28, 63), (28, 64), (28, 65), (28, 66), (28, 67), (28, 68), (28, 69), (28, 70), (28, 78), (28, 79), (28, 82), (28, 84), (122, 0), (123, 0), (124, 0), (125, 0), (126, 0), (127, 0), (128, 0), (129, 0), (130, 0), (131, 0)] m0 m ∧ True ∧ ((-1) ≤ m a0 62 ∧ m a0 62 ≤ 99999) ∧ ((-1) ≤ m a0 63 ∧ m a0 63 ≤ 99999) ∧ (0 ≤ m a0 77 ∧ m a0 77 ≤ 0) ∧ ((-1) ≤ m a0 78 ∧ m a0 78 ≤ (-1)) ∧ (0 ≤ m a0 81 ∧ m a0 81 ≤ 0) ∧ (0 ≤ m a0 83 ∧ m a0 83 ≤ 0))) ∧ (∀ (x1 : Int) (mh : zu_m), zi_I mh → zfr [(28, 54), (28, 63), (28, 64), (28, 65), (28, 66), (28, 67), (28, 68), (28, 69), (28, 70), (28, 78), (28, 79), (28, 82), (28, 84), (122, 0), (123, 0), (124, 0), (125, 0), (126, 0), (127, 0), (128, 0), (129, 0), (130, 0), (131, 0)] m0 mh → (0 ≤ x1 ∧ x1 ≤ 48) → ((-1) ≤ mh a0 62 ∧ mh a0 62 ≤ 99999) → ((-1) ≤ mh a0 63 ∧ mh a0 63 ≤ 99999) → (48 - x1) * 1 + 0 < (k : Int) → zw (zu_ex (zt_T n) 33 52 [(40, a0), (0, x1)] [] mh) (fun v m => zi_I m ∧ zfr [(28, 54), (28, 63), (28, 64), (28, 65), (28, 66), (28, 67), (28, 68), (28, 69), (28, 70), (28, 78), (28, 79), (28, 82), (28, 84), (122, 0), (123, 0), (124, 0), (125, 0), (126, 0), (127, 0), (128, 0), (129, 0), (130, 0), (131, 0)] m0 m ∧ True ∧ ((-1) ≤ m a0 62 ∧ m a0 62 ≤ 99999) ∧ ((-1) ≤ m a0 63 ∧ m a0 63 ≤ 99999) ∧ (0 ≤ m a0 77 ∧ m a0 77 ≤ 0) ∧ ((-1) ≤ m a0 78 ∧ m a0 78 ≤ (-1)) ∧ (0 ≤ m a0 81 ∧ m a0 81 ≤ 0) ∧ (0 ≤ m a0 83 ∧ m a0 83 ≤ 0))) := by
  intro k
  induction k with
  | zero => exact ⟨fun x1 mh hImh hFmh hbx1 hg1 hg2 hM => by exfalso; omega, fun x1 mh hImh hFmh hbx1 hg1 hg2 hM => by exfalso; omega⟩
  | succ k ih =>
    refine ⟨?_, ?_⟩
    · intro x1 mh hImh hFmh hbx1 hg1 hg2 hM
      refine zw_eq (zr_33_32 n a0 x1 mh) ?_
      refine zw_ite (fun h1 => ?_) (fun h1 => ?_)
      · have hM : (48 - 0) * 1 + 0 < (k : Int) := by omega
        exact ih.2 0 mh hImh hFmh ⟨by omega, by omega⟩ ⟨by omega, by omega⟩ ⟨by omega, by omega⟩ hM
      · have b2 : 0 ≤ x1 ∧ x1 < 4 := by omega
        refine zw_if b2 ?_
        generalize hmm3 : zu_up mh 219 x1 0 = m3
        have hIm3 := zi_up hmm3 hImh zq_219 (zb_128 _) (by omega) (by omega)
        have hFm3 := zfr_up hmm3 hFmh zq_219 rfl
        have w4 := zu_w32_id (z := x1 + 1) (by omega) (by omega)
        have r5 : (-2147483648) ≤ (m3 a0 62) ∧ (m3 a0 62) ≤ 2147483647 := zi_rd hIm3 hc0 zb_28_62
        have e6 : (m3 a0 62) = (mh a0 62) := (zs_ne hmm3 (Or.inl (zc_ne hc0 zq_219 (by decide))))
        have r7 : (-9223372036854775808) ≤ (m3 a0 63) ∧ (m3 a0 63) ≤ 9223372036854775807 := zi_rd hIm3 hc0 zb_28_63
        have e8 : (m3 a0 63) = (mh a0 63) := (zs_ne hmm3 (Or.inl (zc_ne hc0 zq_219 (by decide))))
        have hM : (4 - (zu_w32 (x1 + 1))) * 1 + 49 < (k : Int) := by omega
        exact ih.1 (zu_w32 (x1 + 1)) m3 hIm3 hFm3 ⟨by omega, by omega⟩ ⟨by omega, by omega⟩ ⟨by omega, by omega⟩ hM
    · intro x1 mh hImh hFmh hbx1 hg1 hg2 hM
      refine zw_eq (zr_33_52 n a0 x1 mh) ?_
      refine zw_ite (fun h9 => ?_) (fun h9 => ?_)
      · generalize hmm10 : zu_up mh a0 77 0 = m10
        have hIm10 := zi_up hmm10 hImh hc0 zb_28_77 (by omega) (by omega)
        have hFm10 := zfr_up hmm10 hFmh hc0 rfl
        generalize hmm11 : zu_up m10 a0 78 (-1) = m11
        have hIm11 := zi_up hmm11 hIm10 hc0 zb_28_78 (by omega) (by omega)
        have hFm11 := zfr_up hmm11 hFm10 hc0 rfl
        generalize hmm12 : zu_up m11 a0 81 0 = m12
        have hIm12 := zi_up hmm12 hIm11 hc0 zb_28_81 (by omega) (by omega)
        have hFm12 := zfr_up hmm12 hFm11 hc0 rfl
        refine zw_b (by omega) ?_
        generalize hmm13 : zu_up m12 a0 83 0 = m13
        have hIm13 := zi_up hmm13 hIm12 hc0 zb_28_83 (by omega) (by omega)
        have hFm13 := zfr_up hmm13 hFm12 hc0 rfl
        have r14 : (-2147483648) ≤ (m13 a0 62) ∧ (m13 a0 62) ≤ 2147483647 := zi_rd hIm13 hc0 zb_28_62
        have e15 : (m13 a0 62) = (mh a0 62) := (Eq.trans (zs_ne hmm13 (Or.inr (by decide))) (Eq.trans (zs_ne hmm12 (Or.inr (by decide))) (Eq.trans (zs_ne hmm11 (Or.inr (by decide))) (zs_ne hmm10 (Or.inr (by decide))))))
        have r16 : (-9223372036854775808) ≤ (m13 a0 63) ∧ (m13 a0 63) ≤ 9223372036854775807 := zi_rd hIm13 hc0 zb_28_63
        have e17 : (m13 a0 63) = (mh a0 63) := (Eq.trans (zs_ne hmm13 (Or.inr (by decide))) (Eq.trans (zs_ne hmm12 (Or.inr (by decide))) (Eq.trans (zs_ne hmm11 (Or.inr (by decide))) (zs_ne hmm10 (Or.inr (by decide))))))
        have r18 : 0 ≤ (m13 a0 77) ∧ (m13 a0 77) ≤ 24 := zi_rd hIm13 hc0 zb_28_77
        have e19 : (m13 a0 77) = 0 := (Eq.trans (zs_ne hmm13 (Or.inr (by decide))) (Eq.trans (zs_ne hmm12 (Or.inr (by decide))) (Eq.trans (zs_ne hmm11 (Or.inr (by decide))) (zs_eq hmm10))))
        have r20 : (-1) ≤ (m13 a0 78) ∧ (m13 a0 78) ≤ 24 := zi_rd hIm13 hc0 zb_28_78
        have e21 : (m13 a0 78) = (-1) := (Eq.trans (zs_ne hmm13 (Or.inr (by decide))) (Eq.trans (zs_ne hmm12 (Or.inr (by decide))) (zs_eq hmm11)))
        have r22 : 0 ≤ (m13 a0 81) ∧ (m13 a0 81) ≤ 20 := zi_rd hIm13 hc0 zb_28_81
        have e23 : (m13 a0 81) = 0 := (Eq.trans (zs_ne hmm13 (Or.inr (by decide))) (zs_eq hmm12))
        have r24 : 0 ≤ (m13 a0 83) ∧ (m13 a0 83) ≤ 1 := zi_rd hIm13 hc0 zb_28_83
        have e25 : (m13 a0 83) = 0 := (zs_eq hmm13)
        exact zw_some ⟨hIm13, hFm13, trivial, ⟨by omega, by omega⟩, ⟨by omega, by omega⟩, ⟨by omega, by omega⟩, ⟨by omega, by omega⟩, ⟨by omega, by omega⟩, ⟨by omega, by omega⟩⟩
      · refine zw_bd (zw_eq (zr_36_0 n a0 mh) ?_)
        have r26 : 1 ≤ (mh a0 12) ∧ (mh a0 12) ≤ 8 := zi_rd hImh hc0 zb_28_12
        have r27 : 1 ≤ (mh a0 13) ∧ (mh a0 13) ≤ 6 := zi_rd hImh hc0 zb_28_13
        have p28 := zmul_bd (x := (mh a0 12)) (y := (mh a0 13)) (a := 1) (b := 1) (A := 8) (B := 6) (by omega) (by omega) (by omega) (by omega) (by omega) (by omega)
        have w29 := zu_w32_id (z := (mh a0 12) * (mh a0 13)) (by omega) (by omega)
        refine zw_some ?_
        refine zw_ite (fun h30 => ?_) (fun h30 => ?_)
        · have b31 : 0 ≤ x1 ∧ x1 < 48 := by omega
          refine zw_if b31 ?_
          generalize hmm32 : zu_up mh 222 x1 0 = m32
          have hIm32 := zi_up hmm32 hImh zq_222 (zb_131 _) (by omega) (by omega)
          have hFm32 := zfr_up hmm32 hFmh zq_222 rfl
          have w33 := zu_w32_id (z := x1 + 1) (by omega) (by omega)
          have r34 : (-2147483648) ≤ (m32 a0 62) ∧ (m32 a0 62) ≤ 2147483647 := zi_rd hIm32 hc0 zb_28_62
          have e35 : (m32 a0 62) = (mh a0 62) := (zs_ne hmm32 (Or.inl (zc_ne hc0 zq_222 (by decide))))
          have r36 : (-9223372036854775808) ≤ (m32 a0 63) ∧ (m32 a0 63) ≤ 9223372036854775807 := zi_rd hIm32 hc0 zb_28_63
          have e37 : (m32 a0 63) = (mh a0 63) := (zs_ne hmm32 (Or.inl (zc_ne hc0 zq_222 (by decide))))
          have hM : (48 - (zu_w32 (x1 + 1))) * 1 + 0 < (k : Int) := by omega
          exact ih.2 (zu_w32 (x1 + 1)) m32 hIm32 hFm32 ⟨by omega, by omega⟩ ⟨by omega, by omega⟩ ⟨by omega, by omega⟩ hM
        · refine zw_bd (zw_mono (zk_37 n hImh hc0 ⟨by omega, by omega⟩) (fun v39 m38 hqm38 => ?_))
          obtain ⟨hIm38, hfm38, hvm38⟩ := hqm38
          have hFm38 := zfr_tr hFmh hfm38 rfl
          have w40 := zu_w32_rg (1000 * v39)
          have b41 : 0 ≤ x1 ∧ x1 < 48 := by omega
          refine zw_if b41 ?_
          generalize hmm42 : zu_up m38 222 x1 (zu_w32 (1000 * v39)) = m42
          have hIm42 := zi_up hmm42 hIm38 zq_222 (zb_131 _) (by omega) (by omega)
          have hFm42 := zfr_up hmm42 hFm38 zq_222 rfl
          have w43 := zu_w32_id (z := x1 + 1) (by omega) (by omega)
          have r44 : (-2147483648) ≤ (m42 a0 62) ∧ (m42 a0 62) ≤ 2147483647 := zi_rd hIm42 hc0 zb_28_62
          have e45 : (m42 a0 62) = (mh a0 62) := (Eq.trans (zs_ne hmm42 (Or.inl (zc_ne hc0 zq_222 (by decide)))) (zfr_ap hfm38 hc0 rfl))
          have r46 : (-9223372036854775808) ≤ (m42 a0 63) ∧ (m42 a0 63) ≤ 9223372036854775807 := zi_rd hIm42 hc0 zb_28_63
          have e47 : (m42 a0 63) = (mh a0 63) := (Eq.trans (zs_ne hmm42 (Or.inl (zc_ne hc0 zq_222 (by decide)))) (zfr_ap hfm38 hc0 rfl))
          have hM : (48 - (zu_w32 (x1 + 1))) * 1 + 0 < (k : Int) := by omega
          exact ih.2 (zu_w32 (x1 + 1)) m42 hIm42 hFm42 ⟨by omega, by omega⟩ ⟨by omega, by omega⟩ ⟨by omega, by omega⟩ hM
set_option maxHeartbeats 4000000 in
theorem zk_33 (n : Nat) {a0 : Int} {m0 : zu_m} (hIm0 : zi_I m0) (hc0 : zcls a0 = 28)      : zw (zu_call (zt_T n) 33 [(40, a0)] m0) (fun v m => zi_I m ∧ zfr [(28, 54), (28, 63), (28, 64), (28, 65), (28, 66), (28, 67), (28, 68), (28, 69), (28, 70), (28, 78), (28, 79), (28, 82), (28, 84), (122, 0), (123, 0), (124, 0), (125, 0), (126, 0), (127, 0), (128, 0), (129, 0), (130, 0), (131, 0)] m0 m ∧ True ∧ ((-1) ≤ m a0 62 ∧ m a0 62 ≤ 99999) ∧ ((-1) ≤ m a0 63 ∧ m a0 63 ≤ 99999) ∧ (0 ≤ m a0 77 ∧ m a0 77 ≤ 0) ∧ ((-1) ≤ m a0 78 ∧ m a0 78 ≤ (-1)) ∧ (0 ≤ m a0 81 ∧ m a0 81 ≤ 0) ∧ (0 ≤ m a0 83 ∧ m a0 83 ≤ 0)) := by
  have hFm0 : zfr [(28, 54), (28, 63), (28, 64), (28, 65), (28, 66), (28, 67), (28, 68), (28, 69), (28, 70), (28, 78), (28, 79), (28, 82), (28, 84), (122, 0), (123, 0), (124, 0), (125, 0), (126, 0), (127, 0), (128, 0), (129, 0), (130, 0), (131, 0)] m0 m0 := zfr_rf _ _
  refine zw_eq (zr_33_0 n a0 m0) ?_
  refine zw_bd (zw_mono (zk_34 n hIm0 hc0 ⟨by omega, by omega⟩) (fun v49 m48 hqm48 => ?_))
  obtain ⟨hIm48, hfm48, hvm48⟩ := hqm48
  have hFm48 := zfr_tr hFm0 hfm48 rfl
  have b50 : 0 ≤ (0 : Int) ∧ (0 : Int) < 10 := by omega
  refine zw_if b50 ?_
  have r51 : (-1) ≤ (m48 194 0) ∧ (m48 194 0) ≤ 99999 := zi_rd hIm48 zq_194 (zb_103 _)
  generalize hmm52 : zu_up m48 a0 62 (m48 194 0) = m52
  have hIm52 := zi_up hmm52 hIm48 hc0 zb_28_62 (by omega) (by omega)
  have hFm52 := zfr_up hmm52 hFm48 hc0 rfl
  have b53 : 0 ≤ (4 : Int) ∧ (4 : Int) < 10 := by omega
  refine zw_if b53 ?_
  have r54 : (-1) ≤ (m52 194 4) ∧ (m52 194 4) ≤ 99999 := zi_rd hIm52 zq_194 (zb_103 _)
  generalize hmm55 : zu_up m52 a0 63 (m52 194 4) = m55
  have hIm55 := zi_up hmm55 hIm52 hc0 zb_28_63 (by omega) (by omega)
  have hFm55 := zfr_up hmm55 hFm52 hc0 rfl
  refine zw_bd (zw_mono (zk_35 n hIm55 hc0) (fun v57 m56 hqm56 => ?_))
  obtain ⟨hIm56, hfm56, hvm56⟩ := hqm56
  have hFm56 := zfr_tr hFm55 hfm56 rfl
  have r58 : (-2147483648) ≤ (m56 a0 62) ∧ (m56 a0 62) ≤ 2147483647 := zi_rd hIm56 hc0 zb_28_62
  have e59 : (m56 a0 62) = (m48 194 0) := (Eq.trans (zfr_ap hfm56 hc0 rfl) (Eq.trans (zs_ne hmm55 (Or.inr (by decide))) (zs_eq hmm52)))
  have r60 : (-9223372036854775808) ≤ (m56 a0 63) ∧ (m56 a0 63) ≤ 9223372036854775807 := zi_rd hIm56 hc0 zb_28_63
  have e61 : (m56 a0 63) = (m52 194 4) := (Eq.trans (zfr_ap hfm56 hc0 rfl) (zs_eq hmm55))
  have hM : (4 - 0) * 1 + 49 < ((54 : Nat) : Int) := by omega
  exact (zl_33 n (m0 := m0) hc0 54).1 0 m56 hIm56 hFm56 ⟨by omega, by omega⟩ ⟨by omega, by omega⟩ ⟨by omega, by omega⟩ hM
set_option maxHeartbeats 4000000 in
theorem zk_47 (n : Nat) {a0 a1 a2 : Int} {m0 : zu_m} (hIm0 : zi_I m0) (hc0 : zcls a0 = 2) (ha1 : (-2147483648) ≤ a1 ∧ a1 ≤ 2147483647) (ha2 : (-2147483648) ≤ a2 ∧ a2 ≤ 2147483647)    (hRK54m0 : zR_K54 m0) : zw (zu_call (zt_T n) 47 [(5, a0), (0, a1), (0, a2)] m0) (fun v m => zi_I m ∧ zfr [(56, 0), (59, 0)] m0 m ∧ zR_K54 m ∧ ((-2147483648) ≤ v ∧ v ≤ 2147483647)) := by
  have hFm0 : zfr [(56, 0), (59, 0)] m0 m0 := zfr_rf _ _
  refine zw_eq (zr_47_0 n a0 a1 a2 m0) ?_
  refine zw_bd (zw_eq (zr_211_0 n 89 a1 m0) ?_)
  refine zw_ite (fun h1 => ?_) (fun h1 => ?_)
  · refine zw_b (by omega) ?_
    refine zw_some ?_
    refine zw_ite (fun h2 => ?_) (fun h2 => ?_)
    · exfalso; omega
    · exact zw_some ⟨hIm0, hFm0, hRK54m0, ⟨by omega, by omega⟩⟩
  · have r3 : 0 ≤ (m0 89 4) ∧ (m0 89 4) ≤ 4 := zi_rd hIm0 zq_89 zb_16_4
    refine zw_ite (fun h4 => ?_) (fun h4 => ?_)
    · refine zw_b (by omega) ?_
      refine zw_some ?_
      refine zw_ite (fun h5 => ?_) (fun h5 => ?_)
      · exfalso; omega
      · exact zw_some ⟨hIm0, hFm0, hRK54m0, ⟨by omega, by omega⟩⟩
    · refine zw_b (by omega) ?_
      refine zw_some ?_
      refine zw_ite (fun h6 => ?_) (fun h6 => ?_)
      · have b7 : 0 ≤ a1 ∧ a1 < 4 := by omega
        refine zw_if b7 ?_
        refine zw_ite (fun h8 => ?_) (fun h8 => ?_)
        · have r9 : 0 ≤ (m0 ((89 + 2) + 20 + a1) 1) ∧ (m0 ((89 + 2) + 20 + a1) 1) ≤ 47 := zi_rd hIm0 (zc_66_e (zc_16_3 zq_89) b7) zb_18_1
          exact zw_some ⟨hIm0, hFm0, hRK54m0, ⟨by omega, by omega⟩⟩
        · refine zw_ite (fun h10 => ?_) (fun h10 => ?_)
          · have r11 : (-2147483648) ≤ (m0 ((89 + 2) + 20 + a1) 6) ∧ (m0 ((89 + 2) + 20 + a1) 6) ≤ 2147483647 := zi_rd hIm0 (zc_66_e (zc_16_3 zq_89) b7) zb_18_6
            exact zw_some ⟨hIm0, hFm0, hRK54m0, ⟨by omega, by omega⟩⟩
          · refine zw_ite (fun h12 => ?_) (fun h12 => ?_)
            · refine zw_bd (zw_mono (zk_236 n hIm0 zq_89 ⟨by omega, by omega⟩) (fun v14 m13 hqm13 => ?_))
              obtain ⟨hIm13, hfm13, hvm13⟩ := hqm13
              have hFm13 := zfr_tr hFm0 hfm13 rfl
              have hRK54m13 := zR_K54_fr (zdis_fr hfm13 rfl) hRK54m0
              exact zw_some ⟨hIm13, hFm13, hRK54m13, ⟨by omega, by omega⟩⟩
            · refine zw_ite (fun h15 => ?_) (fun h15 => ?_)
              · have r16 : (-2147483648) ≤ (m0 ((89 + 2) + 20 + a1) 5) ∧ (m0 ((89 + 2) + 20 + a1) 5) ≤ 2147483647 := zi_rd hIm0 (zc_66_e (zc_16_3 zq_89) b7) zb_18_5
                exact zw_some ⟨hIm0, hFm0, hRK54m0, ⟨by omega, by omega⟩⟩
              · refine zw_ite (fun h17 => ?_) (fun h17 => ?_)
                · refine zw_bd (zw_mono (zk_237 n hIm0 zq_89 ⟨by omega, by omega⟩ hRK54m0) (fun v19 m18 hqm18 => ?_))
                  obtain ⟨hIm18, hfm18, hvm18⟩ := hqm18
                  have hFm18 := zfr_tr hFm0 hfm18 rfl
                  obtain ⟨hRK54m18, hvm18⟩ := hvm18
                  exact zw_some ⟨hIm18, hFm18, hRK54m18, ⟨by omega, by omega⟩⟩
                · exact zw_some ⟨hIm0, hFm0, hRK54m0, ⟨by omega, by omega⟩⟩
      · exfalso; omega
set_option maxHeartbeats 4000000 in
theorem zk_57 (n : Nat) {a0 a1 : Int} {m0 : zu_m} (hIm0 : zi_I m0) (hc0 : zcls a0 = 2) (ha1 : (-2147483648) ≤ a1 ∧ a1 ≤ 2147483647)    (hRK54m0 : zR_K54 m0) : zw (zu_call (zt_T n) 57 [(5, a0), (0, a1)] m0) (fun v m => zi_I m ∧ zfr [(16, 9), (16, 10), (17, 4), (18, 2), (18, 6), (18, 7), (18, 8), (23, 5), (56, 0), (59, 0), (67, 0), (68, 0)] m0 m ∧ zR_K54 m ∧ ((-2147483648) ≤ v ∧ v ≤ 2147483647)) := by
  have hFm0 : zfr [(16, 9), (16, 10), (17, 4), (18, 2), (18, 6), (18, 7), (18, 8), (23, 5), (56, 0), (59, 0), (67, 0), (68, 0)] m0 m0 := zfr_rf _ _
  refine zw_eq (zr_57_0 n a0 a1 m0) ?_
  refine zw_ite (fun h1 => ?_) (fun h1 => ?_)
  · exact zw_some ⟨hIm0, hFm0, hRK54m0, ⟨by omega, by omega⟩⟩
  · refine zw_ite (fun h2 => ?_) (fun h2 => ?_)
    · exact zw_some ⟨hIm0, hFm0, hRK54m0, ⟨by omega, by omega⟩⟩
    · have r3 : (-2147483648) ≤ (m0 89 8) ∧ (m0 89 8) ≤ 2147483647 := zi_rd hIm0 zq_89 zb_16_8
      have w4 := zu_w32_rg ((m0 89 8) + a1)
      refine zw_ite (fun h5 => ?_) (fun h5 => ?_)
      · refine zw_bd (zw_mono (zk_214_16 n hIm0 zq_89 ⟨by omega, by omega⟩ ⟨by omega, by omega⟩ hRK54m0) (fun v7 m6 hqm6 => ?_))
        obtain ⟨hIm6, hfm6, hvm6⟩ := hqm6
        have hFm6 := zfr_tr hFm0 hfm6 rfl
        obtain ⟨hRK54m6, hvm6⟩ := hvm6
        refine zw_ite (fun h8 => ?_) (fun h8 => ?_)
        · have r9 : (-2147483648) ≤ (m6 89 8) ∧ (m6 89 8) ≤ 2147483647 := zi_rd hIm6 zq_89 zb_16_8
          exact zw_some ⟨hIm6, hFm6, hRK54m6, ⟨by omega, by omega⟩⟩
        · refine zw_bd (zw_mono (zk_28 n hIm6 zq_148) (fun v11 m10 hqm10 => ?_))
          obtain ⟨hIm10, hfm10, hvm10⟩ := hqm10
          have hFm10 := zfr_tr hFm6 hfm10 rfl
          have hRK54m10 := zR_K54_fr (zdis_fr hfm10 rfl) hRK54m6
          have r12 : (-2147483648) ≤ (m10 89 8) ∧ (m10 89 8) ≤ 2147483647 := zi_rd hIm10 zq_89 zb_16_8
          exact zw_some ⟨hIm10, hFm10, hRK54m10, ⟨by omega, by omega⟩⟩
      · exact zw_some ⟨hIm0, hFm0, hRK54m0, ⟨by omega, by omega⟩⟩
set_option maxHeartbeats 4000000 in
theorem zk_71 (n : Nat) {a0 a1 : Int} {m0 : zu_m} (hIm0 : zi_I m0) (hc0 : zcls a0 = 2) (ha1 : (-2147483648) ≤ a1 ∧ a1 ≤ 2147483647)    (hRK54m0 : zR_K54 m0) : zw (zu_call (zt_T n) 71 [(5, a0), (0, a1)] m0) (fun v m => zi_I m ∧ zfr [(56, 0), (59, 0), (69, 0)] m0 m ∧ zR_K54 m ∧ ((-8) ≤ v ∧ v ≤ 3)) := by
  have hFm0 : zfr [(56, 0), (59, 0), (69, 0)] m0 m0 := zfr_rf _ _
  refine zw_eq (zr_71_0 n a0 a1 m0) ?_
  refine zw_bd (zw_eq (zr_210_0 n 89 a1 m0) ?_)
  refine zw_ite (fun h1 => ?_) (fun h1 => ?_)
  · refine zw_b (by omega) ?_
    refine zw_some ?_
    refine zw_ite (fun h2 => ?_) (fun h2 => ?_)
    · exact zw_some ⟨hIm0, hFm0, hRK54m0, ⟨by omega, by omega⟩⟩
    · exfalso; omega
  · have r3 : 0 ≤ (m0 89 2) ∧ (m0 89 2) ≤ 16 := zi_rd hIm0 zq_89 zb_16_2
    refine zw_ite (fun h4 => ?_) (fun h4 => ?_)
    · refine zw_b (by omega) ?_
      refine zw_some ?_
      refine zw_ite (fun h5 => ?_) (fun h5 => ?_)
      · exact zw_some ⟨hIm0, hFm0, hRK54m0, ⟨by omega, by omega⟩⟩
      · exfalso; omega
    · refine zw_b (by omega) ?_
      refine zw_some ?_
      refine zw_ite (fun h6 => ?_) (fun h6 => ?_)
      · exfalso; omega
      · refine zw_bd (zw_mono (zk_243 n hIm0 zq_89 ⟨by omega, by omega⟩ ⟨by omega, by omega⟩ hRK54m0) (fun v8 m7 hqm7 => ?_))
        obtain ⟨hIm7, hfm7, hvm7⟩ := hqm7
        have hFm7 := zfr_tr hFm0 hfm7 rfl
        obtain ⟨hRK54m7, hvm7⟩ := hvm7
        exact zw_some ⟨hIm7, hFm7, hRK54m7, ⟨by omega, by omega⟩⟩
set_option maxHeartbeats 4000000 in
theorem zk_105 (n : Nat) {a0 : Int} {m0 : zu_m} (hIm0 : zi_I m0) (hc0 : zcls a0 = 28)   (he0 : 1 ≤ m0 a0 8 ∧ m0 a0 8 ≤ 6)  (hRNSm0 : zR_NS m0) : zw (zu_call (zt_T n) 105 [(40, a0)] m0) (fun v m => zi_I m ∧ zfr [(28, 5), (28, 6), (28, 8), (28, 9), (28, 10), (28, 11), (28, 12), (28, 18), (28, 19), (28, 20), (28, 21), (28, 22), (28, 23), (28, 24), (28, 43), (28, 46), (28, 47), (28, 48), (28, 49), (28, 50), (28, 51), (102, 0), (103, 0), (104, 0), (105, 0), (106, 0), (107, 0), (108, 0), (109, 0), (110, 0), (111, 0), (112, 0), (113, 0), (114, 0), (115, 0), (116, 0), (117, 0), (118, 0), (119, 0), (120, 0), (121, 0)] m0 m ∧ zR_NS m ∧ (0 ≤ v ∧ v ≤ 1)) := by
  have hFm0 : zfr [(28, 5), (28, 6), (28, 8), (28, 9), (28, 10), (28, 11), (28, 12), (28, 18), (28, 19), (28, 20), (28, 21), (28, 22), (28, 23), (28, 24), (28, 43), (28, 46), (28, 47), (28, 48), (28, 49), (28, 50), (28, 51), (102, 0), (103, 0), (104, 0), (105, 0), (106, 0), (107, 0), (108, 0), (109, 0), (110, 0), (111, 0), (112, 0), (113, 0), (114, 0), (115, 0), (116, 0), (117, 0), (118, 0), (119, 0), (120, 0), (121, 0)] m0 m0 := zfr_rf _ _
  have s1 := hRNSm0 a0 hc0
  refine zw_eq (zr_105_0 n a0 m0) ?_
  refine zw_ite (fun h2 => ?_) (fun h2 => ?_)
  · refine zw_bd (zw_eq (zr_85_0 n a0 1 m0) ?_)
    generalize hmm3 : zu_up m0 a0 4 1 = m3
    have hIm3 := zi_up hmm3 hIm0 hc0 zb_28_4 (by omega) (by omega)
    have hFm3 := zfr_up hmm3 hFm0 hc0 rfl
    have hRNSm3 := zR_NS_fr (zdis_fr (zfr_up hmm3 (zfr_rf [(28, 5)] _) hc0 rfl) rfl) hRNSm0
    have r4 : 0 ≤ (m3 a0 10) ∧ (m3 a0 10) ≤ 700 := zi_rd hIm3 hc0 zb_28_10
    generalize hmm5 : zu_up m3 a0 5 (m3 a0 10) = m5
    have hIm5 := zi_up hmm5 hIm3 hc0 zb_28_5 (by omega) (by omega)
    have hFm5 := zfr_up hmm5 hFm3 hc0 rfl
    have hRNSm5 := zR_NS_fr (zdis_fr (zfr_up hmm5 (zfr_rf [(28, 6)] _) hc0 rfl) rfl) hRNSm3
    refine zw_b (by omega) ?_
    refine zw_some ?_
    refine zw_b (by omega) ?_
    exact zw_some ⟨hIm5, hFm5, hRNSm5, ⟨by omega, by omega⟩⟩
  · have r6 : (-2147483648) ≤ (m0 a0 9) ∧ (m0 a0 9) ≤ 2147483647 := zi_rd hIm0 hc0 zb_28_9
    refine zw_ite (fun h7 => ?_) (fun h7 => ?_)
    · refine zw_ite (fun h8 => ?_) (fun h8 => ?_)
      · refine zw_ite (fun h9 => ?_) (fun h9 => ?_)
        · refine zw_ite (fun h10 => ?_) (fun h10 => ?_)
          · refine zw_ite (fun h11 => ?_) (fun h11 => ?_)
            · refine zw_ite (fun h12 => ?_) (fun h12 => ?_)
              · refine zw_bd (zw_mono (zk_104 n hIm0 hc0 ⟨by omega, by omega⟩ hRNSm0) (fun v14 m13 hqm13 => ?_))
                obtain ⟨hIm13, hfm13, hvm13⟩ := hqm13
                have hFm13 := zfr_tr hFm0 hfm13 rfl
                obtain ⟨hRNSm13, hvm13⟩ := hvm13
                have s15 := hRNSm13 a0 hc0
                refine zw_ite (fun h16 => ?_) (fun h16 => ?_)
                · refine zw_bd (zw_eq (zr_93_0 n a0 59 m13) ?_)
                  have r17 : 0 ≤ (m13 a0 8) ∧ (m13 a0 8) ≤ 6 := zi_rd hIm13 hc0 zb_28_8
                  refine zw_ite (fun h18 => ?_) (fun h18 => ?_)
                  · refine zw_b (by omega) ?_
                    refine zw_some ?_
                    refine zw_ite (fun h19 => ?_) (fun h19 => ?_)
                    · exfalso; omega
                    · refine zw_bd (zw_eq (zr_85_0 n a0 1 m13) ?_)
                      generalize hmm20 : zu_up m13 a0 4 1 = m20
                      have hIm20 := zi_up hmm20 hIm13 hc0 zb_28_4 (by omega) (by omega)
                      have hFm20 := zfr_up hmm20 hFm13 hc0 rfl
                      have hRNSm20 := zR_NS_fr (zdis_fr (zfr_up hmm20 (zfr_rf [(28, 5)] _) hc0 rfl) rfl) hRNSm13
                      have r21 : 0 ≤ (m20 a0 10) ∧ (m20 a0 10) ≤ 700 := zi_rd hIm20 hc0 zb_28_10
                      generalize hmm22 : zu_up m20 a0 5 (m20 a0 10) = m22
                      have hIm22 := zi_up hmm22 hIm20 hc0 zb_28_5 (by omega) (by omega)
                      have hFm22 := zfr_up hmm22 hFm20 hc0 rfl
                      have hRNSm22 := zR_NS_fr (zdis_fr (zfr_up hmm22 (zfr_rf [(28, 6)] _) hc0 rfl) rfl) hRNSm20
                      refine zw_b (by omega) ?_
                      refine zw_some ?_
                      refine zw_b (by omega) ?_
                      exact zw_some ⟨hIm22, hFm22, hRNSm22, ⟨by omega, by omega⟩⟩
                  · have r23 : (-2147483648) ≤ (m13 a0 9) ∧ (m13 a0 9) ≤ 2147483647 := zi_rd hIm13 hc0 zb_28_9
                    refine zw_ite (fun h24 => ?_) (fun h24 => ?_)
                    · refine zw_b (by omega) ?_
                      refine zw_some ?_
                      refine zw_ite (fun h25 => ?_) (fun h25 => ?_)
                      · exfalso; omega
                      · refine zw_bd (zw_eq (zr_85_0 n a0 1 m13) ?_)
                        generalize hmm26 : zu_up m13 a0 4 1 = m26
                        have hIm26 := zi_up hmm26 hIm13 hc0 zb_28_4 (by omega) (by omega)
                        have hFm26 := zfr_up hmm26 hFm13 hc0 rfl
                        have hRNSm26 := zR_NS_fr (zdis_fr (zfr_up hmm26 (zfr_rf [(28, 5)] _) hc0 rfl) rfl) hRNSm13
                        have r27 : 0 ≤ (m26 a0 10) ∧ (m26 a0 10) ≤ 700 := zi_rd hIm26 hc0 zb_28_10
                        generalize hmm28 : zu_up m26 a0 5 (m26 a0 10) = m28
                        have hIm28 := zi_up hmm28 hIm26 hc0 zb_28_5 (by omega) (by omega)
                        have hFm28 := zfr_up hmm28 hFm26 hc0 rfl
                        have hRNSm28 := zR_NS_fr (zdis_fr (zfr_up hmm28 (zfr_rf [(28, 6)] _) hc0 rfl) rfl) hRNSm26
                        refine zw_b (by omega) ?_
                        refine zw_some ?_
                        refine zw_b (by omega) ?_
                        exact zw_some ⟨hIm28, hFm28, hRNSm28, ⟨by omega, by omega⟩⟩
                    · refine zw_b (by omega) ?_
                      refine zw_some ?_
                      refine zw_ite (fun h29 => ?_) (fun h29 => ?_)
                      · refine zw_bd (zw_mono (zk_89 n hIm13 hc0 hRNSm13) (fun v31 m30 hqm30 => ?_))
                        obtain ⟨hIm30, hfm30, hvm30⟩ := hqm30
                        have hFm30 := zfr_tr hFm13 hfm30 rfl
                        obtain ⟨hRNSm30, hvm30⟩ := hvm30
                        have s32 := hRNSm30 a0 hc0
                        refine zw_b (by omega) ?_
                        exact zw_some ⟨hIm30, hFm30, hRNSm30, ⟨by omega, by omega⟩⟩
                      · exfalso; omega
                · refine zw_b (by omega) ?_
                  exact zw_some ⟨hIm13, hFm13, hRNSm13, ⟨by omega, by omega⟩⟩
              · refine zw_bd (zw_mono (zk_103 n hIm0 hc0 ⟨by omega, by omega⟩ ⟨by omega, by omega⟩ hRNSm0) (fun v34 m33 hqm33 => ?_))
                obtain ⟨hIm33, hfm33, hvm33⟩ := hqm33
                have hFm33 := zfr_tr hFm0 hfm33 rfl
                obtain ⟨hRNSm33, hvm33⟩ := hvm33
                have s35 := hRNSm33 a0 hc0
                refine zw_ite (fun h36 => ?_) (fun h36 => ?_)
                · refine zw_bd (zw_eq (zr_93_0 n a0 59 m33) ?_)
                  have r37 : 0 ≤ (m33 a0 8) ∧ (m33 a0 8) ≤ 6 := zi_rd hIm33 hc0 zb_28_8
                  refine zw_ite (fun h38 => ?_) (fun h38 => ?_)
                  · refine zw_b (by omega) ?_
                    refine zw_some ?_
                    refine zw_ite (fun h39 => ?_) (fun h39 => ?_)
                    · exfalso; omega
                    · refine zw_bd (zw_eq (zr_85_0 n a0 1 m33) ?_)
                      generalize hmm40 : zu_up m33 a0 4 1 = m40
                      have hIm40 := zi_up hmm40 hIm33 hc0 zb_28_4 (by omega) (by omega)
                      have hFm40 := zfr_up hmm40 hFm33 hc0 rfl
                      have hRNSm40 := zR_NS_fr (zdis_fr (zfr_up hmm40 (zfr_rf [(28, 5)] _) hc0 rfl) rfl) hRNSm33
                      have r41 : 0 ≤ (m40 a0 10) ∧ (m40 a0 10) ≤ 700 := zi_rd hIm40 hc0 zb_28_10
                      generalize hmm42 : zu_up m40 a0 5 (m40 a0 10) = m42
                      have hIm42 := zi_up hmm42 hIm40 hc0 zb_28_5 (by omega) (by omega)
                      have hFm42 := zfr_up hmm42 hFm40 hc0 rfl
                      have hRNSm42 := zR_NS_fr (zdis_fr (zfr_up hmm42 (zfr_rf [(28, 6)] _) hc0 rfl) rfl) hRNSm40
                      refine zw_b (by omega) ?_
                      refine zw_some ?_
                      refine zw_b (by omega) ?_
                      exact zw_some ⟨hIm42, hFm42, hRNSm42, ⟨by omega, by omega⟩⟩
                  · have r43 : (-2147483648) ≤ (m33 a0 9) ∧ (m33 a0 9) ≤ 2147483647 := zi_rd hIm33 hc0 zb_28_9
                    refine zw_ite (fun h44 => ?_) (fun h44 => ?_)
                    · refine zw_b (by omega) ?_
                      refine zw_some ?_
                      refine zw_ite (fun h45 => ?_) (fun h45 => ?_)
                      · exfalso; omega
                      · refine zw_bd (zw_eq (zr_85_0 n a0 1 m33) ?_)
                        generalize hmm46 : zu_up m33 a0 4 1 = m46
                        have hIm46 := zi_up hmm46 hIm33 hc0 zb_28_4 (by omega) (by omega)
                        have hFm46 := zfr_up hmm46 hFm33 hc0 rfl
                        have hRNSm46 := zR_NS_fr (zdis_fr (zfr_up hmm46 (zfr_rf [(28, 5)] _) hc0 rfl) rfl) hRNSm33
                        have r47 : 0 ≤ (m46 a0 10) ∧ (m46 a0 10) ≤ 700 := zi_rd hIm46 hc0 zb_28_10
                        generalize hmm48 : zu_up m46 a0 5 (m46 a0 10) = m48
                        have hIm48 := zi_up hmm48 hIm46 hc0 zb_28_5 (by omega) (by omega)
                        have hFm48 := zfr_up hmm48 hFm46 hc0 rfl
                        have hRNSm48 := zR_NS_fr (zdis_fr (zfr_up hmm48 (zfr_rf [(28, 6)] _) hc0 rfl) rfl) hRNSm46
                        refine zw_b (by omega) ?_
                        refine zw_some ?_
                        refine zw_b (by omega) ?_
                        exact zw_some ⟨hIm48, hFm48, hRNSm48, ⟨by omega, by omega⟩⟩
                    · refine zw_b (by omega) ?_
                      refine zw_some ?_
                      refine zw_ite (fun h49 => ?_) (fun h49 => ?_)
                      · refine zw_bd (zw_mono (zk_89 n hIm33 hc0 hRNSm33) (fun v51 m50 hqm50 => ?_))
                        obtain ⟨hIm50, hfm50, hvm50⟩ := hqm50
                        have hFm50 := zfr_tr hFm33 hfm50 rfl
                        obtain ⟨hRNSm50, hvm50⟩ := hvm50
                        have s52 := hRNSm50 a0 hc0
                        refine zw_b (by omega) ?_
                        exact zw_some ⟨hIm50, hFm50, hRNSm50, ⟨by omega, by omega⟩⟩
                      · exfalso; omega
                · refine zw_b (by omega) ?_
                  exact zw_some ⟨hIm33, hFm33, hRNSm33, ⟨by omega, by omega⟩⟩
            · refine zw_bd (zw_mono (zk_102 n hIm0 hc0 ⟨by omega, by omega⟩ ⟨by omega, by omega⟩ hRNSm0) (fun v54 m53 hqm53 => ?_))
              obtain ⟨hIm53, hfm53, hvm53⟩ := hqm53
              have hFm53 := zfr_tr hFm0 hfm53 rfl
              obtain ⟨hRNSm53, hvm53⟩ := hvm53
              have s55 := hRNSm53 a0 hc0
              refine zw_ite (fun h56 => ?_) (fun h56 => ?_)
              · refine zw_bd (zw_eq (zr_93_0 n a0 59 m53) ?_)
                have r57 : 0 ≤ (m53 a0 8) ∧ (m53 a0 8) ≤ 6 := zi_rd hIm53 hc0 zb_28_8
                refine zw_ite (fun h58 => ?_) (fun h58 => ?_)
                · refine zw_b (by omega) ?_
                  refine zw_some ?_
                  refine zw_ite (fun h59 => ?_) (fun h59 => ?_)
                  · exfalso; omega
                  · refine zw_bd (zw_eq (zr_85_0 n a0 1 m53) ?_)
                    generalize hmm60 : zu_up m53 a0 4 1 = m60
                    have hIm60 := zi_up hmm60 hIm53 hc0 zb_28_4 (by omega) (by omega)
                    have hFm60 := zfr_up hmm60 hFm53 hc0 rfl
                    have hRNSm60 := zR_NS_fr (zdis_fr (zfr_up hmm60 (zfr_rf [(28, 5)] _) hc0 rfl) rfl) hRNSm53
                    have r61 : 0 ≤ (m60 a0 10) ∧ (m60 a0 10) ≤ 700 := zi_rd hIm60 hc0 zb_28_10
                    generalize hmm62 : zu_up m60 a0 5 (m60 a0 10) = m62
                    have hIm62 := zi_up hmm62 hIm60 hc0 zb_28_5 (by omega) (by omega)
                    have hFm62 := zfr_up hmm62 hFm60 hc0 rfl
                    have hRNSm62 := zR_NS_fr (zdis_fr (zfr_up hmm62 (zfr_rf [(28, 6)] _) hc0 rfl) rfl) hRNSm60
                    refine zw_b (by omega) ?_
                    refine zw_some ?_
                    refine zw_b (by omega) ?_
                    exact zw_some ⟨hIm62, hFm62, hRNSm62, ⟨by omega, by omega⟩⟩
                · have r63 : (-2147483648) ≤ (m53 a0 9) ∧ (m53 a0 9) ≤ 2147483647 := zi_rd hIm53 hc0 zb_28_9
                  refine zw_ite (fun h64 => ?_) (fun h64 => ?_)
                  · refine zw_b (by omega) ?_
                    refine zw_some ?_
                    refine zw_ite (fun h65 => ?_) (fun h65 => ?_)
                    · exfalso; omega
                    · refine zw_bd (zw_eq (zr_85_0 n a0 1 m53) ?_)
                      generalize hmm66 : zu_up m53 a0 4 1 = m66
                      have hIm66 := zi_up hmm66 hIm53 hc0 zb_28_4 (by omega) (by omega)
                      have hFm66 := zfr_up hmm66 hFm53 hc0 rfl
                      have hRNSm66 := zR_NS_fr (zdis_fr (zfr_up hmm66 (zfr_rf [(28, 5)] _) hc0 rfl) rfl) hRNSm53
                      have r67 : 0 ≤ (m66 a0 10) ∧ (m66 a0 10) ≤ 700 := zi_rd hIm66 hc0 zb_28_10
                      generalize hmm68 : zu_up m66 a0 5 (m66 a0 10) = m68
                      have hIm68 := zi_up hmm68 hIm66 hc0 zb_28_5 (by omega) (by omega)
                      have hFm68 := zfr_up hmm68 hFm66 hc0 rfl
                      have hRNSm68 := zR_NS_fr (zdis_fr (zfr_up hmm68 (zfr_rf [(28, 6)] _) hc0 rfl) rfl) hRNSm66
                      refine zw_b (by omega) ?_
                      refine zw_some ?_
                      refine zw_b (by omega) ?_
                      exact zw_some ⟨hIm68, hFm68, hRNSm68, ⟨by omega, by omega⟩⟩
                  · refine zw_b (by omega) ?_
                    refine zw_some ?_
                    refine zw_ite (fun h69 => ?_) (fun h69 => ?_)
                    · refine zw_bd (zw_mono (zk_89 n hIm53 hc0 hRNSm53) (fun v71 m70 hqm70 => ?_))
                      obtain ⟨hIm70, hfm70, hvm70⟩ := hqm70
                      have hFm70 := zfr_tr hFm53 hfm70 rfl
                      obtain ⟨hRNSm70, hvm70⟩ := hvm70
                      have s72 := hRNSm70 a0 hc0
                      refine zw_b (by omega) ?_
                      exact zw_some ⟨hIm70, hFm70, hRNSm70, ⟨by omega, by omega⟩⟩
                    · exfalso; omega
              · refine zw_b (by omega) ?_
                exact zw_some ⟨hIm53, hFm53, hRNSm53, ⟨by omega, by omega⟩⟩
          · refine zw_bd (zw_mono (zk_101 n hIm0 hc0 ⟨by omega, by omega⟩ ⟨by omega, by omega⟩ hRNSm0) (fun v74 m73 hqm73 => ?_))
            obtain ⟨hIm73, hfm73, hvm73⟩ := hqm73
            have hFm73 := zfr_tr hFm0 hfm73 rfl
            obtain ⟨hRNSm73, hvm73⟩ := hvm73
            have s75 := hRNSm73 a0 hc0
            refine zw_ite (fun h76 => ?_) (fun h76 => ?_)
            · refine zw_bd (zw_eq (zr_93_0 n a0 59 m73) ?_)
              have r77 : 0 ≤ (m73 a0 8) ∧ (m73 a0 8) ≤ 6 := zi_rd hIm73 hc0 zb_28_8
              refine zw_ite (fun h78 => ?_) (fun h78 => ?_)
              · refine zw_b (by omega) ?_
                refine zw_some ?_
                refine zw_ite (fun h79 => ?_) (fun h79 => ?_)
                · exfalso; omega
                · refine zw_bd (zw_eq (zr_85_0 n a0 1 m73) ?_)
                  generalize hmm80 : zu_up m73 a0 4 1 = m80
                  have hIm80 := zi_up hmm80 hIm73 hc0 zb_28_4 (by omega) (by omega)
                  have hFm80 := zfr_up hmm80 hFm73 hc0 rfl
                  have hRNSm80 := zR_NS_fr (zdis_fr (zfr_up hmm80 (zfr_rf [(28, 5)] _) hc0 rfl) rfl) hRNSm73
                  have r81 : 0 ≤ (m80 a0 10) ∧ (m80 a0 10) ≤ 700 := zi_rd hIm80 hc0 zb_28_10
                  generalize hmm82 : zu_up m80 a0 5 (m80 a0 10) = m82
                  have hIm82 := zi_up hmm82 hIm80 hc0 zb_28_5 (by omega) (by omega)
                  have hFm82 := zfr_up hmm82 hFm80 hc0 rfl
                  have hRNSm82 := zR_NS_fr (zdis_fr (zfr_up hmm82 (zfr_rf [(28, 6)] _) hc0 rfl) rfl) hRNSm80
                  refine zw_b (by omega) ?_
                  refine zw_some ?_
                  refine zw_b (by omega) ?_
                  exact zw_some ⟨hIm82, hFm82, hRNSm82, ⟨by omega, by omega⟩⟩
              · have r83 : (-2147483648) ≤ (m73 a0 9) ∧ (m73 a0 9) ≤ 2147483647 := zi_rd hIm73 hc0 zb_28_9
                refine zw_ite (fun h84 => ?_) (fun h84 => ?_)
                · refine zw_b (by omega) ?_
                  refine zw_some ?_
                  refine zw_ite (fun h85 => ?_) (fun h85 => ?_)
                  · exfalso; omega
                  · refine zw_bd (zw_eq (zr_85_0 n a0 1 m73) ?_)
                    generalize hmm86 : zu_up m73 a0 4 1 = m86
                    have hIm86 := zi_up hmm86 hIm73 hc0 zb_28_4 (by omega) (by omega)
                    have hFm86 := zfr_up hmm86 hFm73 hc0 rfl
                    have hRNSm86 := zR_NS_fr (zdis_fr (zfr_up hmm86 (zfr_rf [(28, 5)] _) hc0 rfl) rfl) hRNSm73
                    have r87 : 0 ≤ (m86 a0 10) ∧ (m86 a0 10) ≤ 700 := zi_rd hIm86 hc0 zb_28_10
                    generalize hmm88 : zu_up m86 a0 5 (m86 a0 10) = m88
                    have hIm88 := zi_up hmm88 hIm86 hc0 zb_28_5 (by omega) (by omega)
                    have hFm88 := zfr_up hmm88 hFm86 hc0 rfl
                    have hRNSm88 := zR_NS_fr (zdis_fr (zfr_up hmm88 (zfr_rf [(28, 6)] _) hc0 rfl) rfl) hRNSm86
                    refine zw_b (by omega) ?_
                    refine zw_some ?_
                    refine zw_b (by omega) ?_
                    exact zw_some ⟨hIm88, hFm88, hRNSm88, ⟨by omega, by omega⟩⟩
                · refine zw_b (by omega) ?_
                  refine zw_some ?_
                  refine zw_ite (fun h89 => ?_) (fun h89 => ?_)
                  · refine zw_bd (zw_mono (zk_89 n hIm73 hc0 hRNSm73) (fun v91 m90 hqm90 => ?_))
                    obtain ⟨hIm90, hfm90, hvm90⟩ := hqm90
                    have hFm90 := zfr_tr hFm73 hfm90 rfl
                    obtain ⟨hRNSm90, hvm90⟩ := hvm90
                    have s92 := hRNSm90 a0 hc0
                    refine zw_b (by omega) ?_
                    exact zw_some ⟨hIm90, hFm90, hRNSm90, ⟨by omega, by omega⟩⟩
                  · exfalso; omega
            · refine zw_b (by omega) ?_
              exact zw_some ⟨hIm73, hFm73, hRNSm73, ⟨by omega, by omega⟩⟩
        · have w93 := zu_w32_rg ((m0 a0 9) - 1)
          have w94 := zu_w32_rg ((zu_w32 ((m0 a0 9) - 1)) + 1)
          refine zw_bd (zw_mono (zk_100 n hIm0 hc0 ⟨by omega, by omega⟩ ⟨by omega, by omega⟩ ⟨by omega, by omega⟩ hRNSm0) (fun v96 m95 hqm95 => ?_))
          obtain ⟨hIm95, hfm95, hvm95⟩ := hqm95
          have hFm95 := zfr_tr hFm0 hfm95 rfl
          obtain ⟨hRNSm95, hvm95⟩ := hvm95
          have s97 := hRNSm95 a0 hc0
          refine zw_ite (fun h98 => ?_) (fun h98 => ?_)
          · refine zw_bd (zw_eq (zr_93_0 n a0 59 m95) ?_)
            have r99 : 0 ≤ (m95 a0 8) ∧ (m95 a0 8) ≤ 6 := zi_rd hIm95 hc0 zb_28_8
            refine zw_ite (fun h100 => ?_) (fun h100 => ?_)
            · refine zw_b (by omega) ?_
              refine zw_some ?_
              refine zw_ite (fun h101 => ?_) (fun h101 => ?_)
              · exfalso; omega
              · refine zw_bd (zw_eq (zr_85_0 n a0 1 m95) ?_)
                generalize hmm102 : zu_up m95 a0 4 1 = m102
                have hIm102 := zi_up hmm102 hIm95 hc0 zb_28_4 (by omega) (by omega)
                have hFm102 := zfr_up hmm102 hFm95 hc0 rfl
                have hRNSm102 := zR_NS_fr (zdis_fr (zfr_up hmm102 (zfr_rf [(28, 5)] _) hc0 rfl) rfl) hRNSm95
                have r103 : 0 ≤ (m102 a0 10) ∧ (m102 a0 10) ≤ 700 := zi_rd hIm102 hc0 zb_28_10
                generalize hmm104 : zu_up m102 a0 5 (m102 a0 10) = m104
                have hIm104 := zi_up hmm104 hIm102 hc0 zb_28_5 (by omega) (by omega)
                have hFm104 := zfr_up hmm104 hFm102 hc0 rfl
                have hRNSm104 := zR_NS_fr (zdis_fr (zfr_up hmm104 (zfr_rf [(28, 6)] _) hc0 rfl) rfl) hRNSm102
                refine zw_b (by omega) ?_
                refine zw_some ?_
                refine zw_b (by omega) ?_
                exact zw_some ⟨hIm104, hFm104, hRNSm104, ⟨by omega, by omega⟩⟩
            · have r105 : (-2147483648) ≤ (m95 a0 9) ∧ (m95 a0 9) ≤ 2147483647 := zi_rd hIm95 hc0 zb_28_9
              refine zw_ite (fun h106 => ?_) (fun h106 => ?_)
              · refine zw_b (by omega) ?_
                refine zw_some ?_
                refine zw_ite (fun h107 => ?_) (fun h107 => ?_)
                · exfalso; omega
                · refine zw_bd (zw_eq (zr_85_0 n a0 1 m95) ?_)
                  generalize hmm108 : zu_up m95 a0 4 1 = m108
                  have hIm108 := zi_up hmm108 hIm95 hc0 zb_28_4 (by omega) (by omega)
                  have hFm108 := zfr_up hmm108 hFm95 hc0 rfl
                  have hRNSm108 := zR_NS_fr (zdis_fr (zfr_up hmm108 (zfr_rf [(28, 5)] _) hc0 rfl) rfl) hRNSm95
                  have r109 : 0 ≤ (m108 a0 10) ∧ (m108 a0 10) ≤ 700 := zi_rd hIm108 hc0 zb_28_10
                  generalize hmm110 : zu_up m108 a0 5 (m108 a0 10) = m110
                  have hIm110 := zi_up hmm110 hIm108 hc0 zb_28_5 (by omega) (by omega)
                  have hFm110 := zfr_up hmm110 hFm108 hc0 rfl
                  have hRNSm110 := zR_NS_fr (zdis_fr (zfr_up hmm110 (zfr_rf [(28, 6)] _) hc0 rfl) rfl) hRNSm108
                  refine zw_b (by omega) ?_
                  refine zw_some ?_
                  refine zw_b (by omega) ?_
                  exact zw_some ⟨hIm110, hFm110, hRNSm110, ⟨by omega, by omega⟩⟩
              · refine zw_b (by omega) ?_
                refine zw_some ?_
                refine zw_ite (fun h111 => ?_) (fun h111 => ?_)
                · refine zw_bd (zw_mono (zk_89 n hIm95 hc0 hRNSm95) (fun v113 m112 hqm112 => ?_))
                  obtain ⟨hIm112, hfm112, hvm112⟩ := hqm112
                  have hFm112 := zfr_tr hFm95 hfm112 rfl
                  obtain ⟨hRNSm112, hvm112⟩ := hvm112
                  have s114 := hRNSm112 a0 hc0
                  refine zw_b (by omega) ?_
                  exact zw_some ⟨hIm112, hFm112, hRNSm112, ⟨by omega, by omega⟩⟩
                · exfalso; omega
          · refine zw_b (by omega) ?_
            exact zw_some ⟨hIm95, hFm95, hRNSm95, ⟨by omega, by omega⟩⟩
      · refine zw_bd (zw_mono (zk_99 n hIm0 hc0 hRNSm0) (fun v116 m115 hqm115 => ?_))
        obtain ⟨hIm115, hfm115, hvm115⟩ := hqm115
        have hFm115 := zfr_tr hFm0 hfm115 rfl
        obtain ⟨hRNSm115, hvm115⟩ := hvm115
        have s117 := hRNSm115 a0 hc0
        refine zw_ite (fun h118 => ?_) (fun h118 => ?_)
        · refine zw_bd (zw_eq (zr_93_0 n a0 59 m115) ?_)
          have r119 : 0 ≤ (m115 a0 8) ∧ (m115 a0 8) ≤ 6 := zi_rd hIm115 hc0 zb_28_8
          refine zw_ite (fun h120 => ?_) (fun h120 => ?_)
          · refine zw_b (by omega) ?_
            refine zw_some ?_
            refine zw_ite (fun h121 => ?_) (fun h121 => ?_)
            · exfalso; omega
            · refine zw_bd (zw_eq (zr_85_0 n a0 1 m115) ?_)
              generalize hmm122 : zu_up m115 a0 4 1 = m122
              have hIm122 := zi_up hmm122 hIm115 hc0 zb_28_4 (by omega) (by omega)
              have hFm122 := zfr_up hmm122 hFm115 hc0 rfl
              have hRNSm122 := zR_NS_fr (zdis_fr (zfr_up hmm122 (zfr_rf [(28, 5)] _) hc0 rfl) rfl) hRNSm115
              have r123 : 0 ≤ (m122 a0 10) ∧ (m122 a0 10) ≤ 700 := zi_rd hIm122 hc0 zb_28_10
              generalize hmm124 : zu_up m122 a0 5 (m122 a0 10) = m124
              have hIm124 := zi_up hmm124 hIm122 hc0 zb_28_5 (by omega) (by omega)
              have hFm124 := zfr_up hmm124 hFm122 hc0 rfl
              have hRNSm124 := zR_NS_fr (zdis_fr (zfr_up hmm124 (zfr_rf [(28, 6)] _) hc0 rfl) rfl) hRNSm122
              refine zw_b (by omega) ?_
              refine zw_some ?_
              refine zw_b (by omega) ?_
              exact zw_some ⟨hIm124, hFm124, hRNSm124, ⟨by omega, by omega⟩⟩
          · have r125 : (-2147483648) ≤ (m115 a0 9) ∧ (m115 a0 9) ≤ 2147483647 := zi_rd hIm115 hc0 zb_28_9
            refine zw_ite (fun h126 => ?_) (fun h126 => ?_)
            · refine zw_b (by omega) ?_
              refine zw_some ?_
              refine zw_ite (fun h127 => ?_) (fun h127 => ?_)
              · exfalso; omega
              · refine zw_bd (zw_eq (zr_85_0 n a0 1 m115) ?_)
                generalize hmm128 : zu_up m115 a0 4 1 = m128
                have hIm128 := zi_up hmm128 hIm115 hc0 zb_28_4 (by omega) (by omega)
                have hFm128 := zfr_up hmm128 hFm115 hc0 rfl
                have hRNSm128 := zR_NS_fr (zdis_fr (zfr_up hmm128 (zfr_rf [(28, 5)] _) hc0 rfl) rfl) hRNSm115
                have r129 : 0 ≤ (m128 a0 10) ∧ (m128 a0 10) ≤ 700 := zi_rd hIm128 hc0 zb_28_10
                generalize hmm130 : zu_up m128 a0 5 (m128 a0 10) = m130
                have hIm130 := zi_up hmm130 hIm128 hc0 zb_28_5 (by omega) (by omega)
                have hFm130 := zfr_up hmm130 hFm128 hc0 rfl
                have hRNSm130 := zR_NS_fr (zdis_fr (zfr_up hmm130 (zfr_rf [(28, 6)] _) hc0 rfl) rfl) hRNSm128
                refine zw_b (by omega) ?_
                refine zw_some ?_
                refine zw_b (by omega) ?_
                exact zw_some ⟨hIm130, hFm130, hRNSm130, ⟨by omega, by omega⟩⟩
            · refine zw_b (by omega) ?_
              refine zw_some ?_
              refine zw_ite (fun h131 => ?_) (fun h131 => ?_)
              · refine zw_bd (zw_mono (zk_89 n hIm115 hc0 hRNSm115) (fun v133 m132 hqm132 => ?_))
                obtain ⟨hIm132, hfm132, hvm132⟩ := hqm132
                have hFm132 := zfr_tr hFm115 hfm132 rfl
                obtain ⟨hRNSm132, hvm132⟩ := hvm132
                have s134 := hRNSm132 a0 hc0
                refine zw_b (by omega) ?_
                exact zw_some ⟨hIm132, hFm132, hRNSm132, ⟨by omega, by omega⟩⟩
              · exfalso; omega
        · refine zw_b (by omega) ?_
          exact zw_some ⟨hIm115, hFm115, hRNSm115, ⟨by omega, by omega⟩⟩
    · refine zw_bd (zw_eq (zr_85_0 n a0 1 m0) ?_)
      generalize hmm135 : zu_up m0 a0 4 1 = m135
      have hIm135 := zi_up hmm135 hIm0 hc0 zb_28_4 (by omega) (by omega)
      have hFm135 := zfr_up hmm135 hFm0 hc0 rfl
      have hRNSm135 := zR_NS_fr (zdis_fr (zfr_up hmm135 (zfr_rf [(28, 5)] _) hc0 rfl) rfl) hRNSm0
      have r136 : 0 ≤ (m135 a0 10) ∧ (m135 a0 10) ≤ 700 := zi_rd hIm135 hc0 zb_28_10
      generalize hmm137 : zu_up m135 a0 5 (m135 a0 10) = m137
      have hIm137 := zi_up hmm137 hIm135 hc0 zb_28_5 (by omega) (by omega)
      have hFm137 := zfr_up hmm137 hFm135 hc0 rfl
      have hRNSm137 := zR_NS_fr (zdis_fr (zfr_up hmm137 (zfr_rf [(28, 6)] _) hc0 rfl) rfl) hRNSm135
      refine zw_b (by omega) ?_
      refine zw_some ?_
      refine zw_b (by omega) ?_
      exact zw_some ⟨hIm137, hFm137, hRNSm137, ⟨by omega, by omega⟩⟩
set_option maxHeartbeats 4000000 in
theorem zk_131 (n : Nat) {a0 a1 a2 a3 : Int} {m0 : zu_m} (hIm0 : zi_I m0) (hc0 : zcls a0 = 28) (ha1 : 0 ≤ a1 ∧ a1 ≤ 1) (ha2 : 0 ≤ a2 ∧ a2 ≤ 3) (ha3 : 0 ≤ a3 ∧ a3 ≤ 17)     : zw (zu_call (zt_T n) 131 [(40, a0), (0, a1), (0, a2), (0, a3)] m0) (fun v m => zi_I m ∧ zfr [(28, 54), (122, 0), (123, 0)] m0 m ∧ ((-2147483648) ≤ v ∧ v ≤ 2147483647)) := by
  have hFm0 : zfr [(28, 54), (122, 0), (123, 0)] m0 m0 := zfr_rf _ _
  refine zw_eq (zr_131_0 n a0 a1 a2 a3 m0) ?_
  have b1 : 0 ≤ a3 ∧ a3 < 36 := by omega
  refine zw_if b1 ?_
  have r2 : 0 ≤ (m0 198 a3) ∧ (m0 198 a3) ≤ 3 := zi_rd hIm0 zq_198 (zb_107 _)
  have b3 : 0 ≤ a3 ∧ a3 < 36 := by omega
  refine zw_if b3 ?_
  have r4 : 0 ≤ (m0 199 a3) ∧ (m0 199 a3) ≤ 9 := zi_rd hIm0 zq_199 (zb_108 _)
  have b5 : 0 ≤ a3 ∧ a3 < 36 := by omega
  refine zw_if b5 ?_
  have r6 : 0 ≤ (m0 197 a3) ∧ (m0 197 a3) ≤ 47 := zi_rd hIm0 zq_197 (zb_106 _)
  refine zw_bd (zw_mono (zk_130 n hIm0 hc0 ⟨by omega, by omega⟩ ⟨by omega, by omega⟩) (fun v8 m7 hqm7 => ?_))
  obtain ⟨hIm7, hfm7, hvm7⟩ := hqm7
  have hFm7 := zfr_tr hFm0 hfm7 rfl
  refine zw_bd (zw_mono (zk_129 n hIm7 hc0 ⟨by omega, by omega⟩ ⟨by omega, by omega⟩ ⟨by omega, by omega⟩ ⟨by omega, by omega⟩ ⟨by omega, by omega⟩) (fun v10 m9 hqm9 => ?_))
  obtain ⟨hIm9, hfm9, hvm9⟩ := hqm9
  have hFm9 := zfr_tr hFm7 hfm9 rfl
  exact zw_some ⟨hIm9, hFm9, ⟨by omega, by omega⟩⟩
set_option maxHeartbeats 4000000 in
theorem zk_138 (n : Nat) {a0 a1 a2 a3 : Int} {m0 : zu_m} (hIm0 : zi_I m0) (hc0 : zcls a0 = 28) (ha1 : 0 ≤ a1 ∧ a1 ≤ 3) (ha2 : 0 ≤ a2 ∧ a2 ≤ 47) (ha3 : (-2147483648) ≤ a3 ∧ a3 ≤ 2147483647)     : zw (zu_call (zt_T n) 138 [(40, a0), (0, a1), (0, a2), (0, a3)] m0) (fun v m => zi_I m ∧ zfr [(28, 54), (122, 0), (123, 0)] m0 m ∧ ((-2147483648) ≤ v ∧ v ≤ 2147483647)) := by
  have hFm0 : zfr [(28, 54), (122, 0), (123, 0)] m0 m0 := zfr_rf _ _
  refine zw_eq (zr_138_0 n a0 a1 a2 a3 m0) ?_
  refine zw_bd (zw_mono (zk_129 n hIm0 hc0 ⟨by omega, by omega⟩ ⟨by omega, by omega⟩ ⟨by omega, by omega⟩ ⟨by omega, by omega⟩ ⟨by omega, by omega⟩) (fun v2 m1 hqm1 => ?_))
  obtain ⟨hIm1, hfm1, hvm1⟩ := hqm1
  have hFm1 := zfr_tr hFm0 hfm1 rfl
  have w3 := zu_w32_rg (100 - v2)
  have w4 := zu_w64_rg (a3 * (zu_w32 (100 - v2)))
  refine zw_nif (by omega) ?_
  have w5 := zu_w64_rg (Int.tdiv (zu_w64 (a3 * (zu_w32 (100 - v2)))) 100)
  have w6 := zu_w32_rg (zu_w64 (Int.tdiv (zu_w64 (a3 * (zu_w32 (100 - v2)))) 100))
  exact zw_some ⟨hIm1, hFm1, ⟨by omega, by omega⟩⟩
set_option maxHeartbeats 4000000 in
theorem zl_145 (n : Nat) {a0 a1 a2 : Int} {m0 : zu_m} (hc0 : zcls a0 = 28)  : ∀ k : Nat, (∀ (x3 x4 : Int) (mh : zu_m), zi_I mh → zfr [(28, 3), (28, 54), (122, 0), (123, 0)] m0 mh → (0 ≤ a1 ∧ a1 ≤ 3) → (2 ≤ a2 ∧ a2 ≤ 2) → ((-2147483648) ≤ x3 ∧ x3 ≤ 2147483647) → (0 ≤ x4 ∧ x4 ≤ 16) → (1 ≤ mh a0 15 ∧ mh a0 15 ≤ 4) → (0 ≤ mh a0 2 ∧ mh a0 2 ≤ 0) → (16 - x4) * 1 + 17 < (k : Int) → zw (zu_ex (zt_T n) 145 69 [(40, a0), (0, a1), (0, a2), (0, x3), (0, x4)] [] mh) (fun v m => zi_I m ∧ zfr [(28, 3), (28, 54), (122, 0), (123, 0)] m0 m ∧ ((-2147483648) ≤ v ∧ v ≤ 2147483647) ∧ (0 ≤ m a0 2 ∧ m a0 2 ≤ 0))) ∧ (∀ (x3 x4 : Int) (mh : zu_m), zi_I mh → zfr [(28, 3), (28, 54), (122, 0), (123, 0)] m0 mh → (0 ≤ a1 ∧ a1 ≤ 3) → (4 ≤ a2 ∧ a2 ≤ 4) → ((-2147483648) ≤ x3 ∧ x3 ≤ 2147483647) → (0 ≤ x4 ∧ x4 ≤ 16) → (1 ≤ mh a0 15 ∧ mh a0 15 ≤ 4) → (0 ≤ mh a0 2 ∧ mh a0 2 ≤ 0) → (16 - x4) * 1 + 0 < (k : Int) → zw (zu_ex (zt_T n) 145 120 [(40, a0), (0, a1), (0, a2), (0, x3), (0, x4)] [] mh) (fun v m => zi_I m ∧ zfr [(28, 3), (28, 54), (122, 0), (123, 0)] m0 m ∧ ((-2147483648) ≤ v ∧ v ≤ 2147483647) ∧ (0 ≤ m a0 2 ∧ m a0 2 ≤ 0))) := by
  intro k
  induction k with
  | zero => exact ⟨fun x3 x4 mh hImh hFmh hba1 hba2 hbx3 hbx4 hg4 hg5 hM => by exfalso; omega, fun x3 x4 mh hImh hFmh hba1 hba2 hbx3 hbx4 hg4 hg5 hM => by exfalso; omega⟩
  | succ k ih =>
    refine ⟨?_, ?_⟩
    · intro x3 x4 mh hImh hFmh hba1 hba2 hbx3 hbx4 hg4 hg5 hM
      refine zw_eq (zr_145_69 n a0 a1 a2 x3 x4 mh) ?_
      have b1 : 0 ≤ (0 : Int) ∧ (0 : Int) < 2 := by omega
      refine zw_if b1 ?_
      have r2 : 0 ≤ (mh 216 0) ∧ (mh 216 0) ≤ 16 := zi_rdr (m := 2) (r0 := 0) (r1 := 0) hImh zq_216 (by omega) (by decide +kernel)
      refine zw_ite (fun h3 => ?_) (fun h3 => ?_)
      · exact zw_some ⟨hImh, hFmh, ⟨by omega, by omega⟩, ⟨by omega, by omega⟩⟩
      · have b4 : 0 ≤ x4 ∧ x4 < 36 := by omega
        refine zw_if b4 ?_
        have r5 : (-3) ≤ (mh 215 x4) ∧ (mh 215 x4) ≤ 3 := zi_rd hImh zq_215 (zb_124 _)
        refine zw_ite (fun h6 => ?_) (fun h6 => ?_)
        · have b7 := zu_i32_rg 4 x3 0
          have w8 := zu_w32_id (z := x4 + 1) (by omega) (by omega)
          have hM : (16 - (zu_w32 (x4 + 1))) * 1 + 17 < (k : Int) := by omega
          exact ih.1 (zu_i32 4 x3 0) (zu_w32 (x4 + 1)) mh hImh hFmh ⟨by omega, by omega⟩ ⟨by omega, by omega⟩ ⟨by omega, by omega⟩ ⟨by omega, by omega⟩ ⟨by omega, by omega⟩ ⟨by omega, by omega⟩ hM
        · have b9 := zu_i32_rg 5 1 x4
          have b10 := zu_i32_rg 4 x3 (zu_i32 5 1 x4)
          have w11 := zu_w32_id (z := x4 + 1) (by omega) (by omega)
          have hM : (16 - (zu_w32 (x4 + 1))) * 1 + 17 < (k : Int) := by omega
          exact ih.1 (zu_i32 4 x3 (zu_i32 5 1 x4)) (zu_w32 (x4 + 1)) mh hImh hFmh ⟨by omega, by omega⟩ ⟨by omega, by omega⟩ ⟨by omega, by omega⟩ ⟨by omega, by omega⟩ ⟨by omega, by omega⟩ ⟨by omega, by omega⟩ hM
    · intro x3 x4 mh hImh hFmh hba1 hba2 hbx3 hbx4 hg4 hg5 hM
      refine zw_eq (zr_145_120 n a0 a1 a2 x3 x4 mh) ?_
      have b12 : 0 ≤ (0 : Int) ∧ (0 : Int) < 2 := by omega
      refine zw_if b12 ?_
      have r13 : 0 ≤ (mh 216 0) ∧ (mh 216 0) ≤ 16 := zi_rdr (m := 2) (r0 := 0) (r1 := 0) hImh zq_216 (by omega) (by decide +kernel)
      refine zw_ite (fun h14 => ?_) (fun h14 => ?_)
      · exact zw_some ⟨hImh, hFmh, ⟨by omega, by omega⟩, ⟨by omega, by omega⟩⟩
      · have b15 : 0 ≤ x4 ∧ x4 < 36 := by omega
        refine zw_if b15 ?_
        have r16 : (-3) ≤ (mh 215 x4) ∧ (mh 215 x4) ≤ 3 := zi_rd hImh zq_215 (zb_124 _)
        refine zw_ite (fun h17 => ?_) (fun h17 => ?_)
        · have w18 := zu_w32_id (z := x3 + 0) (by omega) (by omega)
          have w19 := zu_w32_id (z := x4 + 1) (by omega) (by omega)
          have hM : (16 - (zu_w32 (x4 + 1))) * 1 + 0 < (k : Int) := by omega
          exact ih.2 (zu_w32 (x3 + 0)) (zu_w32 (x4 + 1)) mh hImh hFmh ⟨by omega, by omega⟩ ⟨by omega, by omega⟩ ⟨by omega, by omega⟩ ⟨by omega, by omega⟩ ⟨by omega, by omega⟩ ⟨by omega, by omega⟩ hM
        · refine zw_bd (zw_mono (zk_132 n hImh hc0 ⟨by omega, by omega⟩ ⟨by omega, by omega⟩) (fun v21 m20 hqm20 => ?_))
          obtain ⟨hIm20, hfm20, hvm20⟩ := hqm20
          have hFm20 := zfr_tr hFmh hfm20 rfl
          have w22 := zu_w32_rg (x3 + v21)
          have w23 := zu_w32_id (z := x4 + 1) (by omega) (by omega)
          have r24 : (-2147483648) ≤ (m20 a0 2) ∧ (m20 a0 2) ≤ 2147483647 := zi_rd hIm20 hc0 zb_28_2
          have e25 : (m20 a0 2) = (mh a0 2) := (zfr_ap hfm20 hc0 rfl)
          have r26 : 0 ≤ (m20 a0 15) ∧ (m20 a0 15) ≤ 4 := zi_rd hIm20 hc0 zb_28_15
          have e27 : (m20 a0 15) = (mh a0 15) := (zfr_ap hfm20 hc0 rfl)
          have hM : (16 - (zu_w32 (x4 + 1))) * 1 + 0 < (k : Int) := by omega
          exact ih.2 (zu_w32 (x3 + v21)) (zu_w32 (x4 + 1)) m20 hIm20 hFm20 ⟨by omega, by omega⟩ ⟨by omega, by omega⟩ ⟨by omega, by omega⟩ ⟨by omega, by omega⟩ ⟨by omega, by omega⟩ ⟨by omega, by omega⟩ hM
set_option maxHeartbeats 4000000 in
theorem zk_145 (n : Nat) {a0 a1 a2 : Int} {m0 : zu_m} (hIm0 : zi_I m0) (hc0 : zcls a0 = 28) (ha1 : (-2147483648) ≤ a1 ∧ a1 ≤ 2147483647) (ha2 : (-2147483648) ≤ a2 ∧ a2 ≤ 2147483647)     : zw (zu_call (zt_T n) 145 [(40, a0), (0, a1), (0, a2)] m0) (fun v m => zi_I m ∧ zfr [(28, 3), (28, 54), (122, 0), (123, 0)] m0 m ∧ ((-2147483648) ≤ v ∧ v ≤ 2147483647) ∧ (0 ≤ m a0 2 ∧ m a0 2 ≤ 0)) := by
  have hFm0 : zfr [(28, 3), (28, 54), (122, 0), (123, 0)] m0 m0 := zfr_rf _ _
  refine zw_eq (zr_145_0 n a0 a1 a2 m0) ?_
  generalize hmm28 : zu_up m0 a0 2 0 = m28
  have hIm28 := zi_up hmm28 hIm0 hc0 zb_28_2 (by omega) (by omega)
  have hFm28 := zfr_up hmm28 hFm0 hc0 rfl
  refine zw_bd (zw_eq (zr_125_0 n a0 a1 m28) ?_)
  refine zw_ite (fun h29 => ?_) (fun h29 => ?_)
  · refine zw_b (by omega) ?_
    refine zw_some ?_
    refine zw_ite (fun h30 => ?_) (fun h30 => ?_)
    · exfalso; omega
    · have r31 : (-2147483648) ≤ (m28 a0 2) ∧ (m28 a0 2) ≤ 2147483647 := zi_rd hIm28 hc0 zb_28_2
      have e32 : (m28 a0 2) = 0 := (zs_eq hmm28)
      exact zw_some ⟨hIm28, hFm28, ⟨by omega, by omega⟩, ⟨by omega, by omega⟩⟩
  · have r33 : 0 ≤ (m28 a0 15) ∧ (m28 a0 15) ≤ 4 := zi_rd hIm28 hc0 zb_28_15
    refine zw_ite (fun h34 => ?_) (fun h34 => ?_)
    · refine zw_b (by omega) ?_
      refine zw_some ?_
      refine zw_ite (fun h35 => ?_) (fun h35 => ?_)
      · exfalso; omega
      · have r36 : (-2147483648) ≤ (m28 a0 2) ∧ (m28 a0 2) ≤ 2147483647 := zi_rd hIm28 hc0 zb_28_2
        have e37 : (m28 a0 2) = 0 := (zs_eq hmm28)
        exact zw_some ⟨hIm28, hFm28, ⟨by omega, by omega⟩, ⟨by omega, by omega⟩⟩
    · refine zw_b (by omega) ?_
      refine zw_some ?_
      refine zw_ite (fun h38 => ?_) (fun h38 => ?_)
      · refine zw_ite (fun h39 => ?_) (fun h39 => ?_)
        · have b40 : 0 ≤ a1 ∧ a1 < 8 := by omega
          refine zw_if b40 ?_
          have r41 : 0 ≤ (m28 217 a1) ∧ (m28 217 a1) ≤ 47 := zi_rd hIm28 zq_217 (zb_126 _)
          have r42 : (-2147483648) ≤ (m28 a0 2) ∧ (m28 a0 2) ≤ 2147483647 := zi_rd hIm28 hc0 zb_28_2
          have e43 : (m28 a0 2) = 0 := (zs_eq hmm28)
          exact zw_some ⟨hIm28, hFm28, ⟨by omega, by omega⟩, ⟨by omega, by omega⟩⟩
        · refine zw_ite (fun h44 => ?_) (fun h44 => ?_)
          · refine zw_bd (zw_mono (zk_130 n hIm28 hc0 ⟨by omega, by omega⟩ ⟨by omega, by omega⟩) (fun v46 m45 hqm45 => ?_))
            obtain ⟨hIm45, hfm45, hvm45⟩ := hqm45
            have hFm45 := zfr_tr hFm28 hfm45 rfl
            have r47 : (-2147483648) ≤ (m45 a0 2) ∧ (m45 a0 2) ≤ 2147483647 := zi_rd hIm45 hc0 zb_28_2
            have e48 : (m45 a0 2) = 0 := (Eq.trans (zfr_ap hfm45 hc0 rfl) (zs_eq hmm28))
            exact zw_some ⟨hIm45, hFm45, ⟨by omega, by omega⟩, ⟨by omega, by omega⟩⟩
          · refine zw_ite (fun h49 => ?_) (fun h49 => ?_)
            · have r50 : (-2147483648) ≤ (m28 a0 2) ∧ (m28 a0 2) ≤ 2147483647 := zi_rd hIm28 hc0 zb_28_2
              have e51 : (m28 a0 2) = 0 := (zs_eq hmm28)
              have hM : (16 - 0) * 1 + 17 < ((34 : Nat) : Int) := by omega
              exact (zl_145 n (m0 := m0) hc0 34).1 0 0 m28 hIm28 hFm28 ⟨by omega, by omega⟩ ⟨by omega, by omega⟩ ⟨by omega, by omega⟩ ⟨by omega, by omega⟩ ⟨by omega, by omega⟩ ⟨by omega, by omega⟩ hM
            · refine zw_ite (fun h52 => ?_) (fun h52 => ?_)
              · have b53 : 0 ≤ a1 ∧ a1 < 4 := by omega
                refine zw_if b53 ?_
                have r54 : (-2147483648) ≤ (m28 219 a1) ∧ (m28 219 a1) ≤ 2147483647 := zi_rd hIm28 zq_219 (zb_128 _)
                have r55 : (-2147483648) ≤ (m28 a0 2) ∧ (m28 a0 2) ≤ 2147483647 := zi_rd hIm28 hc0 zb_28_2
                have e56 : (m28 a0 2) = 0 := (zs_eq hmm28)
                exact zw_some ⟨hIm28, hFm28, ⟨by omega, by omega⟩, ⟨by omega, by omega⟩⟩
              · refine zw_ite (fun h57 => ?_) (fun h57 => ?_)
                · have r58 : (-2147483648) ≤ (m28 a0 2) ∧ (m28 a0 2) ≤ 2147483647 := zi_rd hIm28 hc0 zb_28_2
                  have e59 : (m28 a0 2) = 0 := (zs_eq hmm28)
                  have hM : (16 - 0) * 1 + 0 < ((34 : Nat) : Int) := by omega
                  exact (zl_145 n (m0 := m0) hc0 34).2 0 0 m28 hIm28 hFm28 ⟨by omega, by omega⟩ ⟨by omega, by omega⟩ ⟨by omega, by omega⟩ ⟨by omega, by omega⟩ ⟨by omega, by omega⟩ ⟨by omega, by omega⟩ hM
                · have r60 : (-2147483648) ≤ (m28 a0 2) ∧ (m28 a0 2) ≤ 2147483647 := zi_rd hIm28 hc0 zb_28_2
                  have e61 : (m28 a0 2) = 0 := (zs_eq hmm28)
                  exact zw_some ⟨hIm28, hFm28, ⟨by omega, by omega⟩, ⟨by omega, by omega⟩⟩
      · exfalso; omega
set_option maxHeartbeats 4000000 in
theorem zk_172 (n : Nat) {a0 a1 : Int} {m0 : zu_m} (hIm0 : zi_I m0) (hc0 : zcls a0 = 28) (ha1 : (-2147483648) ≤ a1 ∧ a1 ≤ 2147483647)     : zw (zu_call (zt_T n) 172 [(40, a0), (0, a1)] m0) (fun v m => zi_I m ∧ zfr [(28, 3), (28, 54), (122, 0), (123, 0)] m0 m ∧ ((-9223372036854775808) ≤ v ∧ v ≤ 9223372036854775807) ∧ (0 ≤ m a0 2 ∧ m a0 2 ≤ 0)) := by
  sorry
set_option maxHeartbeats 4000000 in
theorem zl_173 (n : Nat) {a0 : Int} {m0 : zu_m} (hc0 : zcls a0 = 28)  : ∀ k : Nat, (∀ (x1 x2 : Int) (mh : zu_m), zi_I mh → zfr [(28, 3), (28, 54), (122, 0), (123, 0)] m0 mh → ((-2147483648) ≤ x1 ∧ x1 ≤ 2147483647) → (0 ≤ x2 ∧ x2 ≤ 16) → (0 ≤ mh a0 2 ∧ mh a0 2 ≤ 0) → (16 - x2) * 1 + 0 < (k : Int) → zw (zu_ex (zt_T n) 173 9 [(40, a0), (0, x1), (0, x2)] [] mh) (fun v m => zi_I m ∧ zfr [(28, 3), (28, 54), (122, 0), (123, 0)] m0 m ∧ ((-2147483648) ≤ v ∧ v ≤ 2147483647) ∧ (0 ≤ m a0 2 ∧ m a0 2 ≤ 0))) := by
  intro k
  induction k with
  | zero => exact fun x1 x2 mh hImh hFmh hbx1 hbx2 hg2 hM => by exfalso; omega
  | succ k ih =>
    intro x1 x2 mh hImh hFmh hbx1 hbx2 hg2 hM
    refine zw_eq (zr_173_9 n a0 x1 x2 mh) ?_
    have b1 : 0 ≤ (0 : Int) ∧ (0 : Int) < 2 := by omega
    refine zw_if b1 ?_
    have r2 : 0 ≤ (mh 216 0) ∧ (mh 216 0) ≤ 16 := zi_rdr (m := 2) (r0 := 0) (r1 := 0) hImh zq_216 (by omega) (by decide +kernel)
    refine zw_ite (fun h3 => ?_) (fun h3 => ?_)
    · exact zw_some ⟨hImh, hFmh, ⟨by omega, by omega⟩, ⟨by omega, by omega⟩⟩
    · have b4 : 0 ≤ x2 ∧ x2 < 36 := by omega
      refine zw_if b4 ?_
      have r5 : (-3) ≤ (mh 215 x2) ∧ (mh 215 x2) ≤ 3 := zi_rd hImh zq_215 (zb_124 _)
      refine zw_ite (fun h6 => ?_) (fun h6 => ?_)
      · have w7 := zu_w32_id (z := x1 + 0) (by omega) (by omega)
        have w8 := zu_w32_id (z := x2 + 1) (by omega) (by omega)
        have hM : (16 - (zu_w32 (x2 + 1))) * 1 + 0 < (k : Int) := by omega
        exact ih (zu_w32 (x1 + 0)) (zu_w32 (x2 + 1)) mh hImh hFmh ⟨by omega, by omega⟩ ⟨by omega, by omega⟩ ⟨by omega, by omega⟩ hM
      · refine zw_bd (zw_mono (zk_133 n hImh hc0 ⟨by omega, by omega⟩) (fun v10 m9 hqm9 => ?_))
        obtain ⟨hIm9, hfm9, hvm9⟩ := hqm9
        have hFm9 := zfr_tr hFmh hfm9 rfl
        have w11 := zu_w32_rg (100 - v10)
        have w12 := zu_w32_rg (x1 + (zu_w32 (100 - v10)))
        have w13 := zu_w32_id (z := x2 + 1) (by omega) (by omega)
        have r14 : (-2147483648) ≤ (m9 a0 2) ∧ (m9 a0 2) ≤ 2147483647 := zi_rd hIm9 hc0 zb_28_2
        have e15 : (m9 a0 2) = (mh a0 2) := (zfr_ap hfm9 hc0 rfl)
        have hM : (16 - (zu_w32 (x2 + 1))) * 1 + 0 < (k : Int) := by omega
        exact ih (zu_w32 (x1 + (zu_w32 (100 - v10)))) (zu_w32 (x2 + 1)) m9 hIm9 hFm9 ⟨by omega, by omega⟩ ⟨by omega, by omega⟩ ⟨by omega, by omega⟩ hM
set_option maxHeartbeats 4000000 in
theorem zk_173 (n : Nat) {a0 : Int} {m0 : zu_m} (hIm0 : zi_I m0) (hc0 : zcls a0 = 28)      : zw (zu_call (zt_T n) 173 [(40, a0)] m0) (fun v m => zi_I m ∧ zfr [(28, 3), (28, 54), (122, 0), (123, 0)] m0 m ∧ ((-2147483648) ≤ v ∧ v ≤ 2147483647) ∧ (0 ≤ m a0 2 ∧ m a0 2 ≤ 0)) := by
  have hFm0 : zfr [(28, 3), (28, 54), (122, 0), (123, 0)] m0 m0 := zfr_rf _ _
  refine zw_eq (zr_173_0 n a0 m0) ?_
  generalize hmm16 : zu_up m0 a0 2 0 = m16
  have hIm16 := zi_up hmm16 hIm0 hc0 zb_28_2 (by omega) (by omega)
  have hFm16 := zfr_up hmm16 hFm0 hc0 rfl
  have r17 : (-2147483648) ≤ (m16 a0 2) ∧ (m16 a0 2) ≤ 2147483647 := zi_rd hIm16 hc0 zb_28_2
  have e18 : (m16 a0 2) = 0 := (zs_eq hmm16)
  have hM : (16 - 0) * 1 + 0 < ((17 : Nat) : Int) := by omega
  exact (zl_173 n (m0 := m0) hc0 17) 0 0 m16 hIm16 hFm16 ⟨by omega, by omega⟩ ⟨by omega, by omega⟩ ⟨by omega, by omega⟩ hM
set_option maxHeartbeats 4000000 in
theorem zk_174 (n : Nat) {a0 a1 a2 : Int} {m0 : zu_m} (hIm0 : zi_I m0) (hc0 : zcls a0 = 28) (ha1 : (-2147483648) ≤ a1 ∧ a1 ≤ 2147483647) (ha2 : (-2147483648) ≤ a2 ∧ a2 ≤ 2147483647)     : zw (zu_call (zt_T n) 174 [(40, a0), (0, a1), (0, a2)] m0) (fun v m => zi_I m ∧ zfr [(28, 3), (28, 54), (122, 0), (123, 0)] m0 m ∧ ((-2147483648) ≤ v ∧ v ≤ 2147483647) ∧ (0 ≤ m a0 2 ∧ m a0 2 ≤ 0)) := by
  have hFm0 : zfr [(28, 3), (28, 54), (122, 0), (123, 0)] m0 m0 := zfr_rf _ _
  refine zw_eq (zr_174_0 n a0 a1 a2 m0) ?_
  generalize hmm1 : zu_up m0 a0 2 0 = m1
  have hIm1 := zi_up hmm1 hIm0 hc0 zb_28_2 (by omega) (by omega)
  have hFm1 := zfr_up hmm1 hFm0 hc0 rfl
  refine zw_bd (zw_eq (zr_125_0 n a0 a1 m1) ?_)
  refine zw_ite (fun h2 => ?_) (fun h2 => ?_)
  · refine zw_b (by omega) ?_
    refine zw_some ?_
    refine zw_ite (fun h3 => ?_) (fun h3 => ?_)
    · have r4 : (-2147483648) ≤ (m1 a0 2) ∧ (m1 a0 2) ≤ 2147483647 := zi_rd hIm1 hc0 zb_28_2
      have e5 : (m1 a0 2) = 0 := (zs_eq hmm1)
      exact zw_some ⟨hIm1, hFm1, ⟨by omega, by omega⟩, ⟨by omega, by omega⟩⟩
    · exfalso; omega
  · have r6 : 0 ≤ (m1 a0 15) ∧ (m1 a0 15) ≤ 4 := zi_rd hIm1 hc0 zb_28_15
    refine zw_ite (fun h7 => ?_) (fun h7 => ?_)
    · refine zw_b (by omega) ?_
      refine zw_some ?_
      refine zw_ite (fun h8 => ?_) (fun h8 => ?_)
      · have r9 : (-2147483648) ≤ (m1 a0 2) ∧ (m1 a0 2) ≤ 2147483647 := zi_rd hIm1 hc0 zb_28_2
        have e10 : (m1 a0 2) = 0 := (zs_eq hmm1)
        exact zw_some ⟨hIm1, hFm1, ⟨by omega, by omega⟩, ⟨by omega, by omega⟩⟩
      · exfalso; omega
    · refine zw_b (by omega) ?_
      refine zw_some ?_
      refine zw_ite (fun h11 => ?_) (fun h11 => ?_)
      · exfalso; omega
      · refine zw_bd (zw_eq (zr_124_0 n a0 a2 m1) ?_)
        refine zw_ite (fun h12 => ?_) (fun h12 => ?_)
        · refine zw_b (by omega) ?_
          refine zw_some ?_
          refine zw_ite (fun h13 => ?_) (fun h13 => ?_)
          · have r14 : (-2147483648) ≤ (m1 a0 2) ∧ (m1 a0 2) ≤ 2147483647 := zi_rd hIm1 hc0 zb_28_2
            have e15 : (m1 a0 2) = 0 := (zs_eq hmm1)
            exact zw_some ⟨hIm1, hFm1, ⟨by omega, by omega⟩, ⟨by omega, by omega⟩⟩
          · exfalso; omega
        · have b16 : 0 ≤ (0 : Int) ∧ (0 : Int) < 2 := by omega
          refine zw_if b16 ?_
          have r17 : 0 ≤ (m1 216 0) ∧ (m1 216 0) ≤ 16 := zi_rdr (m := 2) (r0 := 0) (r1 := 0) hIm1 zq_216 (by omega) (by decide +kernel)
          refine zw_ite (fun h18 => ?_) (fun h18 => ?_)
          · refine zw_b (by omega) ?_
            refine zw_some ?_
            refine zw_ite (fun h19 => ?_) (fun h19 => ?_)
            · have r20 : (-2147483648) ≤ (m1 a0 2) ∧ (m1 a0 2) ≤ 2147483647 := zi_rd hIm1 hc0 zb_28_2
              have e21 : (m1 a0 2) = 0 := (zs_eq hmm1)
              exact zw_some ⟨hIm1, hFm1, ⟨by omega, by omega⟩, ⟨by omega, by omega⟩⟩
            · exfalso; omega
          · refine zw_b (by omega) ?_
            refine zw_some ?_
            refine zw_ite (fun h22 => ?_) (fun h22 => ?_)
            · exfalso; omega
            · refine zw_bd (zw_mono (zk_132 n hIm1 hc0 ⟨by omega, by omega⟩ ⟨by omega, by omega⟩) (fun v24 m23 hqm23 => ?_))
              obtain ⟨hIm23, hfm23, hvm23⟩ := hqm23
              have hFm23 := zfr_tr hFm1 hfm23 rfl
              have r25 : (-2147483648) ≤ (m23 a0 2) ∧ (m23 a0 2) ≤ 2147483647 := zi_rd hIm23 hc0 zb_28_2
              have e26 : (m23 a0 2) = 0 := (Eq.trans (zfr_ap hfm23 hc0 rfl) (zs_eq hmm1))
              exact zw_some ⟨hIm23, hFm23, ⟨by omega, by omega⟩, ⟨by omega, by omega⟩⟩
set_option maxHeartbeats 4000000 in
theorem zk_175 (n : Nat) {a0 a1 a2 a3 a4 : Int} {m0 : zu_m} (hIm0 : zi_I m0) (hc0 : zcls a0 = 28) (ha1 : 0 ≤ a1 ∧ a1 ≤ 3) (ha2 : 1 ≤ a2 ∧ a2 ≤ 3) (ha3 : 0 ≤ a3 ∧ a3 ≤ 15) (ha4 : 0 ≤ a4 ∧ a4 ≤ 15)     : zw (zu_call (zt_T n) 175 [(40, a0), (0, a1), (0, a2), (0, a3), (0, a4)] m0) (fun v m => zi_I m ∧ zfr [(28, 54), (122, 0), (123, 0)] m0 m ∧ (0 ≤ v ∧ v ≤ 1)) := by
  have hFm0 : zfr [(28, 54), (122, 0), (123, 0)] m0 m0 := zfr_rf _ _
  refine zw_eq (zr_175_0 n a0 a1 a2 a3 a4 m0) ?_
  refine zw_bd (zw_mono (zk_132 n hIm0 hc0 ⟨by omega, by omega⟩ ⟨by omega, by omega⟩) (fun v2 m1 hqm1 => ?_))
  obtain ⟨hIm1, hfm1, hvm1⟩ := hqm1
  have hFm1 := zfr_tr hFm0 hfm1 rfl
  refine zw_bd (zw_mono (zk_132 n hIm1 hc0 ⟨by omega, by omega⟩ ⟨by omega, by omega⟩) (fun v4 m3 hqm3 => ?_))
  obtain ⟨hIm3, hfm3, hvm3⟩ := hqm3
  have hFm3 := zfr_tr hFm1 hfm3 rfl
  refine zw_ite (fun h5 => ?_) (fun h5 => ?_)
  · refine zw_b (by omega) ?_
    exact zw_some ⟨hIm3, hFm3, ⟨by omega, by omega⟩⟩
  · refine zw_bd (zw_mono (zk_132 n hIm3 hc0 ⟨by omega, by omega⟩ ⟨by omega, by omega⟩) (fun v7 m6 hqm6 => ?_))
    obtain ⟨hIm6, hfm6, hvm6⟩ := hqm6
    have hFm6 := zfr_tr hFm3 hfm6 rfl
    refine zw_bd (zw_mono (zk_132 n hIm6 hc0 ⟨by omega, by omega⟩ ⟨by omega, by omega⟩) (fun v9 m8 hqm8 => ?_))
    obtain ⟨hIm8, hfm8, hvm8⟩ := hqm8
    have hFm8 := zfr_tr hFm6 hfm8 rfl
    refine zw_ite (fun h10 => ?_) (fun h10 => ?_)
    · refine zw_b (by omega) ?_
      exact zw_some ⟨hIm8, hFm8, ⟨by omega, by omega⟩⟩
    · refine zw_b (by omega) ?_
      exact zw_some ⟨hIm8, hFm8, ⟨by omega, by omega⟩⟩

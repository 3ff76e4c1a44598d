set_option maxHeartbeats 4000000 in
theorem zk_101 (n : Nat) {a0 : Int} {m0 : zu_m} (hIm0 : zi_I m0) (hc0 : zcls a0 = 15)   (he0 : 1 ≤ m0 a0 8 ∧ m0 a0 8 ≤ 1) (he1 : 4 ≤ m0 a0 9 ∧ m0 a0 9 ≤ 4)  : zw (zu_call (zt_T n) 101 [(40, a0)] m0) (fun v m => zi_I m ∧ zfr [(15, 5), (15, 6), (15, 8), (15, 9), (15, 10), (15, 11), (15, 12), (15, 20), (15, 24), (15, 43), (67, 0), (68, 0), (69, 0)] m0 m ∧ (0 ≤ v ∧ v ≤ 1)) := by
  have hFm0 : zfr [(15, 5), (15, 6), (15, 8), (15, 9), (15, 10), (15, 11), (15, 12), (15, 20), (15, 24), (15, 43), (67, 0), (68, 0), (69, 0)] m0 m0 := zfr_rf _ _
  refine zw_eq (zr_101_0 n a0 m0) ?_
  have r1 : 0 ≤ (m0 a0 19) ∧ (m0 a0 19) ≤ 12 := zi_rd hIm0 hc0 zb_15_19
  refine zw_ite (fun h2 => ?_) (fun h2 => ?_)
  · refine zw_bd (zw_mono (zk_89 n hIm0 hc0) (fun v4 m3 hqm3 => ?_))
    obtain ⟨hIm3, hfm3, hvm3⟩ := hqm3
    have hFm3 := zfr_tr hFm0 hfm3 rfl
    have r5 : 0 ≤ (m3 a0 19) ∧ (m3 a0 19) ≤ 12 := zi_rd hIm3 hc0 zb_15_19
    have e6 : (m3 a0 19) = (m0 a0 19) := (zfr_ap hfm3 hc0 rfl)
    have w7 := zu_w32_id (z := 18 + (m3 a0 19)) (by omega) (by omega)
    refine zw_bd (zw_eq (zr_97_0 n a0 12 15 m3) ?_)
    have r8 : 0 ≤ (m3 a0 8) ∧ (m3 a0 8) ≤ 6 := zi_rd hIm3 hc0 zb_15_8
    refine zw_ite (fun h9 => ?_) (fun h9 => ?_)
    · refine zw_bd (zw_eq (zr_85_0 n a0 1 m3) ?_)
      generalize hmm10 : zu_up m3 a0 4 1 = m10
      have hIm10 := zi_up hmm10 hIm3 hc0 zb_15_4 (by omega) (by omega)
      have hFm10 := zfr_up hmm10 hFm3 hc0 rfl
      have r11 : 0 ≤ (m10 a0 10) ∧ (m10 a0 10) ≤ 700 := zi_rd hIm10 hc0 zb_15_10
      generalize hmm12 : zu_up m10 a0 5 (m10 a0 10) = m12
      have hIm12 := zi_up hmm12 hIm10 hc0 zb_15_5 (by omega) (by omega)
      have hFm12 := zfr_up hmm12 hFm10 hc0 rfl
      refine zw_b (by omega) ?_
      refine zw_some ?_
      refine zw_b (by omega) ?_
      refine zw_some ?_
      refine zw_ite (fun h13 => ?_) (fun h13 => ?_)
      · exfalso; omega
      · refine zw_b (by omega) ?_
        exact zw_some ⟨hIm12, hFm12, ⟨by omega, by omega⟩⟩
    · have r14 : (-2147483648) ≤ (m3 a0 9) ∧ (m3 a0 9) ≤ 2147483647 := zi_rd hIm3 hc0 zb_15_9
      refine zw_ite (fun h15 => ?_) (fun h15 => ?_)
      · refine zw_bd (zw_eq (zr_85_0 n a0 1 m3) ?_)
        generalize hmm16 : zu_up m3 a0 4 1 = m16
        have hIm16 := zi_up hmm16 hIm3 hc0 zb_15_4 (by omega) (by omega)
        have hFm16 := zfr_up hmm16 hFm3 hc0 rfl
        have r17 : 0 ≤ (m16 a0 10) ∧ (m16 a0 10) ≤ 700 := zi_rd hIm16 hc0 zb_15_10
        generalize hmm18 : zu_up m16 a0 5 (m16 a0 10) = m18
        have hIm18 := zi_up hmm18 hIm16 hc0 zb_15_5 (by omega) (by omega)
        have hFm18 := zfr_up hmm18 hFm16 hc0 rfl
        refine zw_b (by omega) ?_
        refine zw_some ?_
        refine zw_b (by omega) ?_
        refine zw_some ?_
        refine zw_ite (fun h19 => ?_) (fun h19 => ?_)
        · exfalso; omega
        · refine zw_b (by omega) ?_
          exact zw_some ⟨hIm18, hFm18, ⟨by omega, by omega⟩⟩
      · refine zw_ite (fun h20 => ?_) (fun h20 => ?_)
        · have w21 := zu_w32_id (z := (m3 a0 9) - 12) (by omega) (by omega)
          refine zw_bd (zw_mono (zk_89 n hIm3 hc0) (fun v23 m22 hqm22 => ?_))
          obtain ⟨hIm22, hfm22, hvm22⟩ := hqm22
          have hFm22 := zfr_tr hFm3 hfm22 rfl
          generalize hmm24 : zu_up m22 a0 11 (zu_w32 ((m3 a0 9) - 12)) = m24
          have hIm24 := zi_up hmm24 hIm22 hc0 zb_15_11 (by omega) (by omega)
          have hFm24 := zfr_up hmm24 hFm22 hc0 rfl
          refine zw_b (by omega) ?_
          refine zw_some ?_
          refine zw_ite (fun h25 => ?_) (fun h25 => ?_)
          · have r26 : (-2147483648) ≤ (m24 a0 11) ∧ (m24 a0 11) ≤ 2147483647 := zi_rd hIm24 hc0 zb_15_11
            have e27 : (m24 a0 11) = (zu_w32 ((m3 a0 9) - 12)) := (zs_eq hmm24)
            have b28 : 0 ≤ (zu_w32 (18 + (m3 a0 19))) ∧ (zu_w32 (18 + (m3 a0 19))) < 36 := by omega
            refine zw_if b28 ?_
            generalize hmm29 : zu_up m24 198 (zu_w32 (18 + (m3 a0 19))) (m24 a0 11) = m29
            have hIm29 := zi_up hmm29 hIm24 zq_198 (zb_68 _) (by omega) (by omega)
            have hFm29 := zfr_up hmm29 hFm24 zq_198 rfl
            refine zw_bd (zw_eq (zr_96_0 n a0 m29) ?_)
            refine zw_b (by omega) ?_
            generalize hmm30 : zu_up m29 a0 23 1 = m30
            have hIm30 := zi_up hmm30 hIm29 hc0 zb_15_23 (by omega) (by omega)
            have hFm30 := zfr_up hmm30 hFm29 hc0 rfl
            have r31 : 1 ≤ (m30 a0 17) ∧ (m30 a0 17) ≤ 8 := zi_rd hIm30 hc0 zb_15_17
            have w32 := zu_w32_id (z := (m30 a0 17) - 1) (by omega) (by omega)
            refine zw_bd (zw_eq (zr_94_0 n a0 0 (zu_w32 ((m30 a0 17) - 1)) m30) ?_)
            have r33 : 0 ≤ (m30 a0 8) ∧ (m30 a0 8) ≤ 6 := zi_rd hIm30 hc0 zb_15_8
            refine zw_ite (fun h34 => ?_) (fun h34 => ?_)
            · have r35 : (-2147483648) ≤ (m30 a0 9) ∧ (m30 a0 9) ≤ 2147483647 := zi_rd hIm30 hc0 zb_15_9
              refine zw_bd (zw_eq (zr_83_0 n (m30 a0 9) 0 (zu_w32 ((m30 a0 17) - 1)) m30) ?_)
              refine zw_ite (fun h36 => ?_) (fun h36 => ?_)
              · refine zw_b (by omega) ?_
                refine zw_some ?_
                refine zw_ite (fun h37 => ?_) (fun h37 => ?_)
                · exfalso; omega
                · refine zw_bd (zw_eq (zr_85_0 n a0 2 m30) ?_)
                  generalize hmm38 : zu_up m30 a0 4 2 = m38
                  have hIm38 := zi_up hmm38 hIm30 hc0 zb_15_4 (by omega) (by omega)
                  have hFm38 := zfr_up hmm38 hFm30 hc0 rfl
                  have r39 : 0 ≤ (m38 a0 10) ∧ (m38 a0 10) ≤ 700 := zi_rd hIm38 hc0 zb_15_10
                  generalize hmm40 : zu_up m38 a0 5 (m38 a0 10) = m40
                  have hIm40 := zi_up hmm40 hIm38 hc0 zb_15_5 (by omega) (by omega)
                  have hFm40 := zfr_up hmm40 hFm38 hc0 rfl
                  refine zw_b (by omega) ?_
                  refine zw_some ?_
                  refine zw_b (by omega) ?_
                  refine zw_some ?_
                  refine zw_ite (fun h41 => ?_) (fun h41 => ?_)
                  · exfalso; omega
                  · refine zw_b (by omega) ?_
                    refine zw_some ?_
                    refine zw_ite (fun h42 => ?_) (fun h42 => ?_)
                    · exfalso; omega
                    · refine zw_b (by omega) ?_
                      exact zw_some ⟨hIm40, hFm40, ⟨by omega, by omega⟩⟩
              · refine zw_ite (fun h43 => ?_) (fun h43 => ?_)
                · refine zw_b (by omega) ?_
                  refine zw_some ?_
                  refine zw_ite (fun h44 => ?_) (fun h44 => ?_)
                  · exfalso; omega
                  · refine zw_bd (zw_eq (zr_85_0 n a0 2 m30) ?_)
                    generalize hmm45 : zu_up m30 a0 4 2 = m45
                    have hIm45 := zi_up hmm45 hIm30 hc0 zb_15_4 (by omega) (by omega)
                    have hFm45 := zfr_up hmm45 hFm30 hc0 rfl
                    have r46 : 0 ≤ (m45 a0 10) ∧ (m45 a0 10) ≤ 700 := zi_rd hIm45 hc0 zb_15_10
                    generalize hmm47 : zu_up m45 a0 5 (m45 a0 10) = m47
                    have hIm47 := zi_up hmm47 hIm45 hc0 zb_15_5 (by omega) (by omega)
                    have hFm47 := zfr_up hmm47 hFm45 hc0 rfl
                    refine zw_b (by omega) ?_
                    refine zw_some ?_
                    refine zw_b (by omega) ?_
                    refine zw_some ?_
                    refine zw_ite (fun h48 => ?_) (fun h48 => ?_)
                    · exfalso; omega
                    · refine zw_b (by omega) ?_
                      refine zw_some ?_
                      refine zw_ite (fun h49 => ?_) (fun h49 => ?_)
                      · exfalso; omega
                      · refine zw_b (by omega) ?_
                        exact zw_some ⟨hIm47, hFm47, ⟨by omega, by omega⟩⟩
                · refine zw_b (by omega) ?_
                  refine zw_some ?_
                  refine zw_ite (fun h50 => ?_) (fun h50 => ?_)
                  · generalize hmm51 : zu_up m30 a0 11 (m30 a0 9) = m51
                    have hIm51 := zi_up hmm51 hIm30 hc0 zb_15_11 (by omega) (by omega)
                    have hFm51 := zfr_up hmm51 hFm30 hc0 rfl
                    refine zw_bd (zw_mono (zk_89 n hIm51 hc0) (fun v53 m52 hqm52 => ?_))
                    obtain ⟨hIm52, hfm52, hvm52⟩ := hqm52
                    have hFm52 := zfr_tr hFm51 hfm52 rfl
                    refine zw_b (by omega) ?_
                    refine zw_some ?_
                    refine zw_ite (fun h54 => ?_) (fun h54 => ?_)
                    · have r55 : (-2147483648) ≤ (m52 a0 11) ∧ (m52 a0 11) ≤ 2147483647 := zi_rd hIm52 hc0 zb_15_11
                      have e56 : (m52 a0 11) = (m30 a0 9) := (Eq.trans (zfr_ap hfm52 hc0 rfl) (zs_eq hmm51))
                      have r57 : 0 ≤ (m52 a0 10) ∧ (m52 a0 10) ≤ 700 := zi_rd hIm52 hc0 zb_15_10
                      generalize hmm58 : zu_up m52 a0 42 (m52 a0 10) = m58
                      have hIm58 := zi_up hmm58 hIm52 hc0 zb_15_42 (by omega) (by omega)
                      have hFm58 := zfr_up hmm58 hFm52 hc0 rfl
                      have r59 : 1 ≤ (m58 a0 18) ∧ (m58 a0 18) ≤ 6 := zi_rd hIm58 hc0 zb_15_18
                      have w60 := zu_w32_id (z := (m58 a0 18) - 1) (by omega) (by omega)
                      refine zw_bd (zw_eq (zr_94_0 n a0 0 (zu_w32 ((m58 a0 18) - 1)) m58) ?_)
                      have r61 : 0 ≤ (m58 a0 8) ∧ (m58 a0 8) ≤ 6 := zi_rd hIm58 hc0 zb_15_8
                      refine zw_ite (fun h62 => ?_) (fun h62 => ?_)
                      · have r63 : (-2147483648) ≤ (m58 a0 9) ∧ (m58 a0 9) ≤ 2147483647 := zi_rd hIm58 hc0 zb_15_9
                        refine zw_bd (zw_eq (zr_83_0 n (m58 a0 9) 0 (zu_w32 ((m58 a0 18) - 1)) m58) ?_)
                        refine zw_ite (fun h64 => ?_) (fun h64 => ?_)
                        · refine zw_b (by omega) ?_
                          refine zw_some ?_
                          refine zw_ite (fun h65 => ?_) (fun h65 => ?_)
                          · exfalso; omega
                          · refine zw_bd (zw_eq (zr_85_0 n a0 2 m58) ?_)
                            generalize hmm66 : zu_up m58 a0 4 2 = m66
                            have hIm66 := zi_up hmm66 hIm58 hc0 zb_15_4 (by omega) (by omega)
                            have hFm66 := zfr_up hmm66 hFm58 hc0 rfl
                            have r67 : 0 ≤ (m66 a0 10) ∧ (m66 a0 10) ≤ 700 := zi_rd hIm66 hc0 zb_15_10
                            have e68 : (m66 a0 10) = (m52 a0 10) := (Eq.trans (zs_ne hmm66 (Or.inr (by decide))) (zs_ne hmm58 (Or.inr (by decide))))
                            generalize hmm69 : zu_up m66 a0 5 (m66 a0 10) = m69
                            have hIm69 := zi_up hmm69 hIm66 hc0 zb_15_5 (by omega) (by omega)
                            have hFm69 := zfr_up hmm69 hFm66 hc0 rfl
                            refine zw_b (by omega) ?_
                            refine zw_some ?_
                            refine zw_b (by omega) ?_
                            refine zw_some ?_
                            refine zw_ite (fun h70 => ?_) (fun h70 => ?_)
                            · exfalso; omega
                            · refine zw_b (by omega) ?_
                              refine zw_some ?_
                              refine zw_ite (fun h71 => ?_) (fun h71 => ?_)
                              · exfalso; omega
                              · refine zw_b (by omega) ?_
                                exact zw_some ⟨hIm69, hFm69, ⟨by omega, by omega⟩⟩
                        · refine zw_ite (fun h72 => ?_) (fun h72 => ?_)
                          · refine zw_b (by omega) ?_
                            refine zw_some ?_
                            refine zw_ite (fun h73 => ?_) (fun h73 => ?_)
                            · exfalso; omega
                            · refine zw_bd (zw_eq (zr_85_0 n a0 2 m58) ?_)
                              generalize hmm74 : zu_up m58 a0 4 2 = m74
                              have hIm74 := zi_up hmm74 hIm58 hc0 zb_15_4 (by omega) (by omega)
                              have hFm74 := zfr_up hmm74 hFm58 hc0 rfl
                              have r75 : 0 ≤ (m74 a0 10) ∧ (m74 a0 10) ≤ 700 := zi_rd hIm74 hc0 zb_15_10
                              have e76 : (m74 a0 10) = (m52 a0 10) := (Eq.trans (zs_ne hmm74 (Or.inr (by decide))) (zs_ne hmm58 (Or.inr (by decide))))
                              generalize hmm77 : zu_up m74 a0 5 (m74 a0 10) = m77
                              have hIm77 := zi_up hmm77 hIm74 hc0 zb_15_5 (by omega) (by omega)
                              have hFm77 := zfr_up hmm77 hFm74 hc0 rfl
                              refine zw_b (by omega) ?_
                              refine zw_some ?_
                              refine zw_b (by omega) ?_
                              refine zw_some ?_
                              refine zw_ite (fun h78 => ?_) (fun h78 => ?_)
                              · exfalso; omega
                              · refine zw_b (by omega) ?_
                                refine zw_some ?_
                                refine zw_ite (fun h79 => ?_) (fun h79 => ?_)
                                · exfalso; omega
                                · refine zw_b (by omega) ?_
                                  exact zw_some ⟨hIm77, hFm77, ⟨by omega, by omega⟩⟩
                          · refine zw_b (by omega) ?_
                            refine zw_some ?_
                            refine zw_ite (fun h80 => ?_) (fun h80 => ?_)
                            · generalize hmm81 : zu_up m58 a0 11 (m58 a0 9) = m81
                              have hIm81 := zi_up hmm81 hIm58 hc0 zb_15_11 (by omega) (by omega)
                              have hFm81 := zfr_up hmm81 hFm58 hc0 rfl
                              refine zw_bd (zw_mono (zk_89 n hIm81 hc0) (fun v83 m82 hqm82 => ?_))
                              obtain ⟨hIm82, hfm82, hvm82⟩ := hqm82
                              have hFm82 := zfr_tr hFm81 hfm82 rfl
                              refine zw_b (by omega) ?_
                              refine zw_some ?_
                              refine zw_ite (fun h84 => ?_) (fun h84 => ?_)
                              · have r85 : 1 ≤ (m82 a0 17) ∧ (m82 a0 17) ≤ 8 := zi_rd hIm82 hc0 zb_15_17
                                have e86 : (m82 a0 17) = (m30 a0 17) := (Eq.trans (zfr_ap hfm82 hc0 rfl) (Eq.trans (zs_ne hmm81 (Or.inr (by decide))) (Eq.trans (zs_ne hmm58 (Or.inr (by decide))) (Eq.trans (zfr_ap hfm52 hc0 rfl) (zs_ne hmm51 (Or.inr (by decide)))))))
                                have r87 : (-2147483648) ≤ (m82 a0 11) ∧ (m82 a0 11) ≤ 2147483647 := zi_rd hIm82 hc0 zb_15_11
                                have e88 : (m82 a0 11) = (m58 a0 9) := (Eq.trans (zfr_ap hfm82 hc0 rfl) (zs_eq hmm81))
                                have p89 := zmul_bd (x := (m82 a0 17)) (y := (m82 a0 11)) (a := 1) (b := 0) (A := 8) (B := 5) (by omega) (by omega) (by omega) (by omega) (by omega) (by omega)
                                have w90 := zu_w32_id (z := (m82 a0 17) * (m82 a0 11)) (by omega) (by omega)
                                have w91 := zu_w32_id (z := (zu_w32 ((m82 a0 17) * (m82 a0 11))) + (m52 a0 11)) (by omega) (by omega)
                                generalize hmm92 : zu_up m82 a0 11 (zu_w32 ((zu_w32 ((m82 a0 17) * (m82 a0 11))) + (m52 a0 11))) = m92
                                have hIm92 := zi_up hmm92 hIm82 hc0 zb_15_11 (by omega) (by omega)
                                have hFm92 := zfr_up hmm92 hFm82 hc0 rfl
                                refine zw_b (by omega) ?_
                                refine zw_some ?_
                                refine zw_ite (fun h93 => ?_) (fun h93 => ?_)
                                · have r94 : (-2147483648) ≤ (m92 a0 11) ∧ (m92 a0 11) ≤ 2147483647 := zi_rd hIm92 hc0 zb_15_11
                                  have e95 : (m92 a0 11) = (zu_w32 ((zu_w32 ((m82 a0 17) * (m82 a0 11))) + (m52 a0 11))) := (zs_eq hmm92)
                                  have b96 : 0 ≤ (zu_w32 (18 + (m3 a0 19))) ∧ (zu_w32 (18 + (m3 a0 19))) < 36 := by omega
                                  refine zw_if b96 ?_
                                  generalize hmm97 : zu_up m92 197 (zu_w32 (18 + (m3 a0 19))) (m92 a0 11) = m97
                                  have hIm97 := zi_up hmm97 hIm92 zq_197 (zb_67 _) (by omega) (by omega)
                                  have hFm97 := zfr_up hmm97 hFm92 zq_197 rfl
                                  refine zw_bd (zw_eq (zr_94_0 n a0 0 9 m97) ?_)
                                  have r98 : 0 ≤ (m97 a0 8) ∧ (m97 a0 8) ≤ 6 := zi_rd hIm97 hc0 zb_15_8
                                  refine zw_ite (fun h99 => ?_) (fun h99 => ?_)
                                  · have r100 : (-2147483648) ≤ (m97 a0 9) ∧ (m97 a0 9) ≤ 2147483647 := zi_rd hIm97 hc0 zb_15_9
                                    refine zw_bd (zw_eq (zr_83_0 n (m97 a0 9) 0 9 m97) ?_)
                                    refine zw_ite (fun h101 => ?_) (fun h101 => ?_)
                                    · refine zw_b (by omega) ?_
                                      refine zw_some ?_
                                      refine zw_ite (fun h102 => ?_) (fun h102 => ?_)
                                      · exfalso; omega
                                      · refine zw_bd (zw_eq (zr_85_0 n a0 2 m97) ?_)
                                        generalize hmm103 : zu_up m97 a0 4 2 = m103
                                        have hIm103 := zi_up hmm103 hIm97 hc0 zb_15_4 (by omega) (by omega)
                                        have hFm103 := zfr_up hmm103 hFm97 hc0 rfl
                                        have r104 : 0 ≤ (m103 a0 10) ∧ (m103 a0 10) ≤ 700 := zi_rd hIm103 hc0 zb_15_10
                                        generalize hmm105 : zu_up m103 a0 5 (m103 a0 10) = m105
                                        have hIm105 := zi_up hmm105 hIm103 hc0 zb_15_5 (by omega) (by omega)
                                        have hFm105 := zfr_up hmm105 hFm103 hc0 rfl
                                        refine zw_b (by omega) ?_
                                        refine zw_some ?_
                                        refine zw_b (by omega) ?_
                                        refine zw_some ?_
                                        refine zw_ite (fun h106 => ?_) (fun h106 => ?_)
                                        · exfalso; omega
                                        · refine zw_b (by omega) ?_
                                          exact zw_some ⟨hIm105, hFm105, ⟨by omega, by omega⟩⟩
                                    · refine zw_ite (fun h107 => ?_) (fun h107 => ?_)
                                      · refine zw_b (by omega) ?_
                                        refine zw_some ?_
                                        refine zw_ite (fun h108 => ?_) (fun h108 => ?_)
                                        · exfalso; omega
                                        · refine zw_bd (zw_eq (zr_85_0 n a0 2 m97) ?_)
                                          generalize hmm109 : zu_up m97 a0 4 2 = m109
                                          have hIm109 := zi_up hmm109 hIm97 hc0 zb_15_4 (by omega) (by omega)
                                          have hFm109 := zfr_up hmm109 hFm97 hc0 rfl
                                          have r110 : 0 ≤ (m109 a0 10) ∧ (m109 a0 10) ≤ 700 := zi_rd hIm109 hc0 zb_15_10
                                          generalize hmm111 : zu_up m109 a0 5 (m109 a0 10) = m111
                                          have hIm111 := zi_up hmm111 hIm109 hc0 zb_15_5 (by omega) (by omega)
                                          have hFm111 := zfr_up hmm111 hFm109 hc0 rfl
                                          refine zw_b (by omega) ?_
                                          refine zw_some ?_
                                          refine zw_b (by omega) ?_
                                          refine zw_some ?_
                                          refine zw_ite (fun h112 => ?_) (fun h112 => ?_)
                                          · exfalso; omega
                                          · refine zw_b (by omega) ?_
                                            exact zw_some ⟨hIm111, hFm111, ⟨by omega, by omega⟩⟩
                                      · refine zw_b (by omega) ?_
                                        refine zw_some ?_
                                        refine zw_ite (fun h113 => ?_) (fun h113 => ?_)
                                        · generalize hmm114 : zu_up m97 a0 11 (m97 a0 9) = m114
                                          have hIm114 := zi_up hmm114 hIm97 hc0 zb_15_11 (by omega) (by omega)
                                          have hFm114 := zfr_up hmm114 hFm97 hc0 rfl
                                          refine zw_bd (zw_mono (zk_89 n hIm114 hc0) (fun v116 m115 hqm115 => ?_))
                                          obtain ⟨hIm115, hfm115, hvm115⟩ := hqm115
                                          have hFm115 := zfr_tr hFm114 hfm115 rfl
                                          refine zw_b (by omega) ?_
                                          refine zw_some ?_
                                          refine zw_ite (fun h117 => ?_) (fun h117 => ?_)
                                          · have r118 : (-2147483648) ≤ (m115 a0 11) ∧ (m115 a0 11) ≤ 2147483647 := zi_rd hIm115 hc0 zb_15_11
                                            have e119 : (m115 a0 11) = (m97 a0 9) := (Eq.trans (zfr_ap hfm115 hc0 rfl) (zs_eq hmm114))
                                            have b120 : 0 ≤ (zu_w32 (18 + (m3 a0 19))) ∧ (zu_w32 (18 + (m3 a0 19))) < 36 := by omega
                                            refine zw_if b120 ?_
                                            generalize hmm121 : zu_up m115 199 (zu_w32 (18 + (m3 a0 19))) (m115 a0 11) = m121
                                            have hIm121 := zi_up hmm121 hIm115 zq_199 (zb_69 _) (by omega) (by omega)
                                            have hFm121 := zfr_up hmm121 hFm115 zq_199 rfl
                                            have r122 : 0 ≤ (m121 a0 19) ∧ (m121 a0 19) ≤ 12 := zi_rd hIm121 hc0 zb_15_19
                                            have e123 : (m121 a0 19) = (m3 a0 19) := (Eq.trans (zs_ne hmm121 (Or.inl (zc_ne hc0 zq_199 (by decide)))) (Eq.trans (zfr_ap hfm115 hc0 rfl) (Eq.trans (zs_ne hmm114 (Or.inr (by decide))) (Eq.trans (zs_ne hmm97 (Or.inl (zc_ne hc0 zq_197 (by decide)))) (Eq.trans (zs_ne hmm92 (Or.inr (by decide))) (Eq.trans (zfr_ap hfm82 hc0 rfl) (Eq.trans (zs_ne hmm81 (Or.inr (by decide))) (Eq.trans (zs_ne hmm58 (Or.inr (by decide))) (Eq.trans (zfr_ap hfm52 hc0 rfl) (Eq.trans (zs_ne hmm51 (Or.inr (by decide))) (Eq.trans (zs_ne hmm30 (Or.inr (by decide))) (Eq.trans (zs_ne hmm29 (Or.inl (zc_ne hc0 zq_198 (by decide)))) (Eq.trans (zs_ne hmm24 (Or.inr (by decide))) (zfr_ap hfm22 hc0 rfl))))))))))))))
                                            have w124 := zu_w32_id (z := (m121 a0 19) + 1) (by omega) (by omega)
                                            generalize hmm125 : zu_up m121 a0 19 (zu_w32 ((m121 a0 19) + 1)) = m125
                                            have hIm125 := zi_up hmm125 hIm121 hc0 zb_15_19 (by omega) (by omega)
                                            have hFm125 := zfr_up hmm125 hFm121 hc0 rfl
                                            refine zw_b (by omega) ?_
                                            exact zw_some ⟨hIm125, hFm125, ⟨by omega, by omega⟩⟩
                                          · exfalso; omega
                                        · exfalso; omega
                                  · refine zw_bd (zw_eq (zr_85_0 n a0 1 m97) ?_)
                                    generalize hmm126 : zu_up m97 a0 4 1 = m126
                                    have hIm126 := zi_up hmm126 hIm97 hc0 zb_15_4 (by omega) (by omega)
                                    have hFm126 := zfr_up hmm126 hFm97 hc0 rfl
                                    have r127 : 0 ≤ (m126 a0 10) ∧ (m126 a0 10) ≤ 700 := zi_rd hIm126 hc0 zb_15_10
                                    generalize hmm128 : zu_up m126 a0 5 (m126 a0 10) = m128
                                    have hIm128 := zi_up hmm128 hIm126 hc0 zb_15_5 (by omega) (by omega)
                                    have hFm128 := zfr_up hmm128 hFm126 hc0 rfl
                                    refine zw_b (by omega) ?_
                                    refine zw_some ?_
                                    refine zw_b (by omega) ?_
                                    refine zw_some ?_
                                    refine zw_ite (fun h129 => ?_) (fun h129 => ?_)
                                    · exfalso; omega
                                    · refine zw_b (by omega) ?_
                                      exact zw_some ⟨hIm128, hFm128, ⟨by omega, by omega⟩⟩
                                · exfalso; omega
                              · exfalso; omega
                            · exfalso; omega
                      · refine zw_bd (zw_eq (zr_85_0 n a0 1 m58) ?_)
                        generalize hmm130 : zu_up m58 a0 4 1 = m130
                        have hIm130 := zi_up hmm130 hIm58 hc0 zb_15_4 (by omega) (by omega)
                        have hFm130 := zfr_up hmm130 hFm58 hc0 rfl
                        have r131 : 0 ≤ (m130 a0 10) ∧ (m130 a0 10) ≤ 700 := zi_rd hIm130 hc0 zb_15_10
                        have e132 : (m130 a0 10) = (m52 a0 10) := (Eq.trans (zs_ne hmm130 (Or.inr (by decide))) (zs_ne hmm58 (Or.inr (by decide))))
                        generalize hmm133 : zu_up m130 a0 5 (m130 a0 10) = m133
                        have hIm133 := zi_up hmm133 hIm130 hc0 zb_15_5 (by omega) (by omega)
                        have hFm133 := zfr_up hmm133 hFm130 hc0 rfl
                        refine zw_b (by omega) ?_
                        refine zw_some ?_
                        refine zw_b (by omega) ?_
                        refine zw_some ?_
                        refine zw_ite (fun h134 => ?_) (fun h134 => ?_)
                        · exfalso; omega
                        · refine zw_b (by omega) ?_
                          refine zw_some ?_
                          refine zw_ite (fun h135 => ?_) (fun h135 => ?_)
                          · exfalso; omega
                          · refine zw_b (by omega) ?_
                            exact zw_some ⟨hIm133, hFm133, ⟨by omega, by omega⟩⟩
                    · exfalso; omega
                  · exfalso; omega
            · refine zw_bd (zw_eq (zr_85_0 n a0 1 m30) ?_)
              generalize hmm136 : zu_up m30 a0 4 1 = m136
              have hIm136 := zi_up hmm136 hIm30 hc0 zb_15_4 (by omega) (by omega)
              have hFm136 := zfr_up hmm136 hFm30 hc0 rfl
              have r137 : 0 ≤ (m136 a0 10) ∧ (m136 a0 10) ≤ 700 := zi_rd hIm136 hc0 zb_15_10
              generalize hmm138 : zu_up m136 a0 5 (m136 a0 10) = m138
              have hIm138 := zi_up hmm138 hIm136 hc0 zb_15_5 (by omega) (by omega)
              have hFm138 := zfr_up hmm138 hFm136 hc0 rfl
              refine zw_b (by omega) ?_
              refine zw_some ?_
              refine zw_b (by omega) ?_
              refine zw_some ?_
              refine zw_ite (fun h139 => ?_) (fun h139 => ?_)
              · exfalso; omega
              · refine zw_b (by omega) ?_
                refine zw_some ?_
                refine zw_ite (fun h140 => ?_) (fun h140 => ?_)
                · exfalso; omega
                · refine zw_b (by omega) ?_
                  exact zw_some ⟨hIm138, hFm138, ⟨by omega, by omega⟩⟩
          · exfalso; omega
        · refine zw_bd (zw_eq (zr_85_0 n a0 1 m3) ?_)
          generalize hmm141 : zu_up m3 a0 4 1 = m141
          have hIm141 := zi_up hmm141 hIm3 hc0 zb_15_4 (by omega) (by omega)
          have hFm141 := zfr_up hmm141 hFm3 hc0 rfl
          have r142 : 0 ≤ (m141 a0 10) ∧ (m141 a0 10) ≤ 700 := zi_rd hIm141 hc0 zb_15_10
          generalize hmm143 : zu_up m141 a0 5 (m141 a0 10) = m143
          have hIm143 := zi_up hmm143 hIm141 hc0 zb_15_5 (by omega) (by omega)
          have hFm143 := zfr_up hmm143 hFm141 hc0 rfl
          refine zw_b (by omega) ?_
          refine zw_some ?_
          refine zw_b (by omega) ?_
          refine zw_some ?_
          refine zw_ite (fun h144 => ?_) (fun h144 => ?_)
          · exfalso; omega
          · refine zw_b (by omega) ?_
            exact zw_some ⟨hIm143, hFm143, ⟨by omega, by omega⟩⟩
  · refine zw_bd (zw_eq (zr_85_0 n a0 2 m0) ?_)
    generalize hmm145 : zu_up m0 a0 4 2 = m145
    have hIm145 := zi_up hmm145 hIm0 hc0 zb_15_4 (by omega) (by omega)
    have hFm145 := zfr_up hmm145 hFm0 hc0 rfl
    have r146 : 0 ≤ (m145 a0 10) ∧ (m145 a0 10) ≤ 700 := zi_rd hIm145 hc0 zb_15_10
    generalize hmm147 : zu_up m145 a0 5 (m145 a0 10) = m147
    have hIm147 := zi_up hmm147 hIm145 hc0 zb_15_5 (by omega) (by omega)
    have hFm147 := zfr_up hmm147 hFm145 hc0 rfl
    refine zw_b (by omega) ?_
    refine zw_some ?_
    refine zw_b (by omega) ?_
    exact zw_some ⟨hIm147, hFm147, ⟨by omega, by omega⟩⟩
set_option maxHeartbeats 4000000 in
theorem zk_102 (n : Nat) {a0 : Int} {m0 : zu_m} (hIm0 : zi_I m0) (hc0 : zcls a0 = 15)   (he0 : 1 ≤ m0 a0 8 ∧ m0 a0 8 ≤ 1) (he1 : 5 ≤ m0 a0 9 ∧ m0 a0 9 ≤ 5)  : zw (zu_call (zt_T n) 102 [(40, a0)] m0) (fun v m => zi_I m ∧ zfr [(15, 5), (15, 6), (15, 8), (15, 9), (15, 10), (15, 11), (15, 12), (15, 21), (15, 24), (15, 43), (70, 0), (71, 0), (72, 0), (73, 0), (74, 0)] m0 m ∧ (0 ≤ v ∧ v ≤ 1)) := by
  have hFm0 : zfr [(15, 5), (15, 6), (15, 8), (15, 9), (15, 10), (15, 11), (15, 12), (15, 21), (15, 24), (15, 43), (70, 0), (71, 0), (72, 0), (73, 0), (74, 0)] m0 m0 := zfr_rf _ _
  refine zw_eq (zr_102_0 n a0 m0) ?_
  have r1 : 0 ≤ (m0 a0 20) ∧ (m0 a0 20) ≤ 4 := zi_rd hIm0 hc0 zb_15_20
  refine zw_ite (fun h2 => ?_) (fun h2 => ?_)
  · refine zw_bd (zw_mono (zk_89 n hIm0 hc0) (fun v4 m3 hqm3 => ?_))
    obtain ⟨hIm3, hfm3, hvm3⟩ := hqm3
    have hFm3 := zfr_tr hFm0 hfm3 rfl
    have r5 : 0 ≤ (m3 a0 8) ∧ (m3 a0 8) ≤ 6 := zi_rd hIm3 hc0 zb_15_8
    refine zw_ite (fun h6 => ?_) (fun h6 => ?_)
    · have r7 : 0 ≤ (m3 a0 20) ∧ (m3 a0 20) ≤ 4 := zi_rd hIm3 hc0 zb_15_20
      have e8 : (m3 a0 20) = (m0 a0 20) := (zfr_ap hfm3 hc0 rfl)
      have r9 : (-2147483648) ≤ (m3 a0 9) ∧ (m3 a0 9) ≤ 2147483647 := zi_rd hIm3 hc0 zb_15_9
      refine zw_bd (zw_mono (zk_95 n hIm3 zq_200 ⟨by omega, by omega⟩ ⟨by omega, by omega⟩ ⟨by omega, by omega⟩) (fun v11 m10 hqm10 => ?_))
      obtain ⟨hIm10, hfm10, hvm10⟩ := hqm10
      have hFm10 := zfr_tr hFm3 hfm10 rfl
      refine zw_ite (fun h12 => ?_) (fun h12 => ?_)
      · have r13 : 0 ≤ (m10 a0 20) ∧ (m10 a0 20) ≤ 4 := zi_rd hIm10 hc0 zb_15_20
        have e14 : (m10 a0 20) = (m3 a0 20) := (zfr_ap hfm10 hc0 rfl)
        have w15 := zu_w32_id (z := 4 + (m10 a0 20)) (by omega) (by omega)
        have r16 : (-2147483648) ≤ (m10 a0 9) ∧ (m10 a0 9) ≤ 2147483647 := zi_rd hIm10 hc0 zb_15_9
        have e17 : (m10 a0 9) = (m3 a0 9) := (zfr_ap hfm10 hc0 rfl)
        have b18 : 0 ≤ (zu_w32 (4 + (m10 a0 20))) ∧ (zu_w32 (4 + (m10 a0 20))) < 8 := by omega
        refine zw_if b18 ?_
        generalize hmm19 : zu_up m10 200 (zu_w32 (4 + (m10 a0 20))) (m10 a0 9) = m19
        have hIm19 := zi_up hmm19 hIm10 zq_200 (zb_70 _) (by omega) (by omega)
        have hFm19 := zfr_up hmm19 hFm10 zq_200 rfl
        refine zw_bd (zw_mono (zk_89 n hIm19 hc0) (fun v21 m20 hqm20 => ?_))
        obtain ⟨hIm20, hfm20, hvm20⟩ := hqm20
        have hFm20 := zfr_tr hFm19 hfm20 rfl
        refine zw_bd (zw_eq (zr_96_0 n a0 m20) ?_)
        refine zw_b (by omega) ?_
        generalize hmm22 : zu_up m20 a0 23 1 = m22
        have hIm22 := zi_up hmm22 hIm20 hc0 zb_15_23 (by omega) (by omega)
        have hFm22 := zfr_up hmm22 hFm20 hc0 rfl
        have r23 : 1 ≤ (m22 a0 17) ∧ (m22 a0 17) ≤ 8 := zi_rd hIm22 hc0 zb_15_17
        have w24 := zu_w32_id (z := (m22 a0 17) - 1) (by omega) (by omega)
        refine zw_bd (zw_eq (zr_94_0 n a0 0 (zu_w32 ((m22 a0 17) - 1)) m22) ?_)
        have r25 : 0 ≤ (m22 a0 8) ∧ (m22 a0 8) ≤ 6 := zi_rd hIm22 hc0 zb_15_8
        refine zw_ite (fun h26 => ?_) (fun h26 => ?_)
        · have r27 : (-2147483648) ≤ (m22 a0 9) ∧ (m22 a0 9) ≤ 2147483647 := zi_rd hIm22 hc0 zb_15_9
          refine zw_bd (zw_eq (zr_83_0 n (m22 a0 9) 0 (zu_w32 ((m22 a0 17) - 1)) m22) ?_)
          refine zw_ite (fun h28 => ?_) (fun h28 => ?_)
          · refine zw_b (by omega) ?_
            refine zw_some ?_
            refine zw_ite (fun h29 => ?_) (fun h29 => ?_)
            · exfalso; omega
            · refine zw_bd (zw_eq (zr_85_0 n a0 2 m22) ?_)
              generalize hmm30 : zu_up m22 a0 4 2 = m30
              have hIm30 := zi_up hmm30 hIm22 hc0 zb_15_4 (by omega) (by omega)
              have hFm30 := zfr_up hmm30 hFm22 hc0 rfl
              have r31 : 0 ≤ (m30 a0 10) ∧ (m30 a0 10) ≤ 700 := zi_rd hIm30 hc0 zb_15_10
              generalize hmm32 : zu_up m30 a0 5 (m30 a0 10) = m32
              have hIm32 := zi_up hmm32 hIm30 hc0 zb_15_5 (by omega) (by omega)
              have hFm32 := zfr_up hmm32 hFm30 hc0 rfl
              refine zw_b (by omega) ?_
              refine zw_some ?_
              refine zw_b (by omega) ?_
              refine zw_some ?_
              refine zw_ite (fun h33 => ?_) (fun h33 => ?_)
              · exfalso; omega
              · refine zw_b (by omega) ?_
                refine zw_some ?_
                refine zw_ite (fun h34 => ?_) (fun h34 => ?_)
                · exfalso; omega
                · refine zw_b (by omega) ?_
                  exact zw_some ⟨hIm32, hFm32, ⟨by omega, by omega⟩⟩
          · refine zw_ite (fun h35 => ?_) (fun h35 => ?_)
            · refine zw_b (by omega) ?_
              refine zw_some ?_
              refine zw_ite (fun h36 => ?_) (fun h36 => ?_)
              · exfalso; omega
              · refine zw_bd (zw_eq (zr_85_0 n a0 2 m22) ?_)
                generalize hmm37 : zu_up m22 a0 4 2 = m37
                have hIm37 := zi_up hmm37 hIm22 hc0 zb_15_4 (by omega) (by omega)
                have hFm37 := zfr_up hmm37 hFm22 hc0 rfl
                have r38 : 0 ≤ (m37 a0 10) ∧ (m37 a0 10) ≤ 700 := zi_rd hIm37 hc0 zb_15_10
                generalize hmm39 : zu_up m37 a0 5 (m37 a0 10) = m39
                have hIm39 := zi_up hmm39 hIm37 hc0 zb_15_5 (by omega) (by omega)
                have hFm39 := zfr_up hmm39 hFm37 hc0 rfl
                refine zw_b (by omega) ?_
                refine zw_some ?_
                refine zw_b (by omega) ?_
                refine zw_some ?_
                refine zw_ite (fun h40 => ?_) (fun h40 => ?_)
                · exfalso; omega
                · refine zw_b (by omega) ?_
                  refine zw_some ?_
                  refine zw_ite (fun h41 => ?_) (fun h41 => ?_)
                  · exfalso; omega
                  · refine zw_b (by omega) ?_
                    exact zw_some ⟨hIm39, hFm39, ⟨by omega, by omega⟩⟩
            · refine zw_b (by omega) ?_
              refine zw_some ?_
              refine zw_ite (fun h42 => ?_) (fun h42 => ?_)
              · generalize hmm43 : zu_up m22 a0 11 (m22 a0 9) = m43
                have hIm43 := zi_up hmm43 hIm22 hc0 zb_15_11 (by omega) (by omega)
                have hFm43 := zfr_up hmm43 hFm22 hc0 rfl
                refine zw_bd (zw_mono (zk_89 n hIm43 hc0) (fun v45 m44 hqm44 => ?_))
                obtain ⟨hIm44, hfm44, hvm44⟩ := hqm44
                have hFm44 := zfr_tr hFm43 hfm44 rfl
                refine zw_b (by omega) ?_
                refine zw_some ?_
                refine zw_ite (fun h46 => ?_) (fun h46 => ?_)
                · have r47 : (-2147483648) ≤ (m44 a0 11) ∧ (m44 a0 11) ≤ 2147483647 := zi_rd hIm44 hc0 zb_15_11
                  have e48 : (m44 a0 11) = (m22 a0 9) := (Eq.trans (zfr_ap hfm44 hc0 rfl) (zs_eq hmm43))
                  have r49 : 0 ≤ (m44 a0 10) ∧ (m44 a0 10) ≤ 700 := zi_rd hIm44 hc0 zb_15_10
                  generalize hmm50 : zu_up m44 a0 42 (m44 a0 10) = m50
                  have hIm50 := zi_up hmm50 hIm44 hc0 zb_15_42 (by omega) (by omega)
                  have hFm50 := zfr_up hmm50 hFm44 hc0 rfl
                  have r51 : 1 ≤ (m50 a0 18) ∧ (m50 a0 18) ≤ 6 := zi_rd hIm50 hc0 zb_15_18
                  have w52 := zu_w32_id (z := (m50 a0 18) - 1) (by omega) (by omega)
                  refine zw_bd (zw_eq (zr_94_0 n a0 0 (zu_w32 ((m50 a0 18) - 1)) m50) ?_)
                  have r53 : 0 ≤ (m50 a0 8) ∧ (m50 a0 8) ≤ 6 := zi_rd hIm50 hc0 zb_15_8
                  refine zw_ite (fun h54 => ?_) (fun h54 => ?_)
                  · have r55 : (-2147483648) ≤ (m50 a0 9) ∧ (m50 a0 9) ≤ 2147483647 := zi_rd hIm50 hc0 zb_15_9
                    refine zw_bd (zw_eq (zr_83_0 n (m50 a0 9) 0 (zu_w32 ((m50 a0 18) - 1)) m50) ?_)
                    refine zw_ite (fun h56 => ?_) (fun h56 => ?_)
                    · refine zw_b (by omega) ?_
                      refine zw_some ?_
                      refine zw_ite (fun h57 => ?_) (fun h57 => ?_)
                      · exfalso; omega
                      · refine zw_bd (zw_eq (zr_85_0 n a0 2 m50) ?_)
                        generalize hmm58 : zu_up m50 a0 4 2 = m58
                        have hIm58 := zi_up hmm58 hIm50 hc0 zb_15_4 (by omega) (by omega)
                        have hFm58 := zfr_up hmm58 hFm50 hc0 rfl
                        have r59 : 0 ≤ (m58 a0 10) ∧ (m58 a0 10) ≤ 700 := zi_rd hIm58 hc0 zb_15_10
                        have e60 : (m58 a0 10) = (m44 a0 10) := (Eq.trans (zs_ne hmm58 (Or.inr (by decide))) (zs_ne hmm50 (Or.inr (by decide))))
                        generalize hmm61 : zu_up m58 a0 5 (m58 a0 10) = m61
                        have hIm61 := zi_up hmm61 hIm58 hc0 zb_15_5 (by omega) (by omega)
                        have hFm61 := zfr_up hmm61 hFm58 hc0 rfl
                        refine zw_b (by omega) ?_
                        refine zw_some ?_
                        refine zw_b (by omega) ?_
                        refine zw_some ?_
                        refine zw_ite (fun h62 => ?_) (fun h62 => ?_)
                        · exfalso; omega
                        · refine zw_b (by omega) ?_
                          refine zw_some ?_
                          refine zw_ite (fun h63 => ?_) (fun h63 => ?_)
                          · exfalso; omega
                          · refine zw_b (by omega) ?_
                            exact zw_some ⟨hIm61, hFm61, ⟨by omega, by omega⟩⟩
                    · refine zw_ite (fun h64 => ?_) (fun h64 => ?_)
                      · refine zw_b (by omega) ?_
                        refine zw_some ?_
                        refine zw_ite (fun h65 => ?_) (fun h65 => ?_)
                        · exfalso; omega
                        · refine zw_bd (zw_eq (zr_85_0 n a0 2 m50) ?_)
                          generalize hmm66 : zu_up m50 a0 4 2 = m66
                          have hIm66 := zi_up hmm66 hIm50 hc0 zb_15_4 (by omega) (by omega)
                          have hFm66 := zfr_up hmm66 hFm50 hc0 rfl
                          have r67 : 0 ≤ (m66 a0 10) ∧ (m66 a0 10) ≤ 700 := zi_rd hIm66 hc0 zb_15_10
                          have e68 : (m66 a0 10) = (m44 a0 10) := (Eq.trans (zs_ne hmm66 (Or.inr (by decide))) (zs_ne hmm50 (Or.inr (by decide))))
                          generalize hmm69 : zu_up m66 a0 5 (m66 a0 10) = m69
                          have hIm69 := zi_up hmm69 hIm66 hc0 zb_15_5 (by omega) (by omega)
                          have hFm69 := zfr_up hmm69 hFm66 hc0 rfl
                          refine zw_b (by omega) ?_
                          refine zw_some ?_
                          refine zw_b (by omega) ?_
                          refine zw_some ?_
                          refine zw_ite (fun h70 => ?_) (fun h70 => ?_)
                          · exfalso; omega
                          · refine zw_b (by omega) ?_
                            refine zw_some ?_
                            refine zw_ite (fun h71 => ?_) (fun h71 => ?_)
                            · exfalso; omega
                            · refine zw_b (by omega) ?_
                              exact zw_some ⟨hIm69, hFm69, ⟨by omega, by omega⟩⟩
                      · refine zw_b (by omega) ?_
                        refine zw_some ?_
                        refine zw_ite (fun h72 => ?_) (fun h72 => ?_)
                        · generalize hmm73 : zu_up m50 a0 11 (m50 a0 9) = m73
                          have hIm73 := zi_up hmm73 hIm50 hc0 zb_15_11 (by omega) (by omega)
                          have hFm73 := zfr_up hmm73 hFm50 hc0 rfl
                          refine zw_bd (zw_mono (zk_89 n hIm73 hc0) (fun v75 m74 hqm74 => ?_))
                          obtain ⟨hIm74, hfm74, hvm74⟩ := hqm74
                          have hFm74 := zfr_tr hFm73 hfm74 rfl
                          refine zw_b (by omega) ?_
                          refine zw_some ?_
                          refine zw_ite (fun h76 => ?_) (fun h76 => ?_)
                          · have r77 : 1 ≤ (m74 a0 17) ∧ (m74 a0 17) ≤ 8 := zi_rd hIm74 hc0 zb_15_17
                            have e78 : (m74 a0 17) = (m22 a0 17) := (Eq.trans (zfr_ap hfm74 hc0 rfl) (Eq.trans (zs_ne hmm73 (Or.inr (by decide))) (Eq.trans (zs_ne hmm50 (Or.inr (by decide))) (Eq.trans (zfr_ap hfm44 hc0 rfl) (zs_ne hmm43 (Or.inr (by decide)))))))
                            have r79 : (-2147483648) ≤ (m74 a0 11) ∧ (m74 a0 11) ≤ 2147483647 := zi_rd hIm74 hc0 zb_15_11
                            have e80 : (m74 a0 11) = (m50 a0 9) := (Eq.trans (zfr_ap hfm74 hc0 rfl) (zs_eq hmm73))
                            have p81 := zmul_bd (x := (m74 a0 17)) (y := (m74 a0 11)) (a := 1) (b := 0) (A := 8) (B := 5) (by omega) (by omega) (by omega) (by omega) (by omega) (by omega)
                            have w82 := zu_w32_id (z := (m74 a0 17) * (m74 a0 11)) (by omega) (by omega)
                            have w83 := zu_w32_id (z := (zu_w32 ((m74 a0 17) * (m74 a0 11))) + (m44 a0 11)) (by omega) (by omega)
                            generalize hmm84 : zu_up m74 a0 11 (zu_w32 ((zu_w32 ((m74 a0 17) * (m74 a0 11))) + (m44 a0 11))) = m84
                            have hIm84 := zi_up hmm84 hIm74 hc0 zb_15_11 (by omega) (by omega)
                            have hFm84 := zfr_up hmm84 hFm74 hc0 rfl
                            refine zw_b (by omega) ?_
                            refine zw_some ?_
                            refine zw_ite (fun h85 => ?_) (fun h85 => ?_)
                            · have r86 : (-2147483648) ≤ (m84 a0 11) ∧ (m84 a0 11) ≤ 2147483647 := zi_rd hIm84 hc0 zb_15_11
                              have e87 : (m84 a0 11) = (zu_w32 ((zu_w32 ((m74 a0 17) * (m74 a0 11))) + (m44 a0 11))) := (zs_eq hmm84)
                              have b88 : 0 ≤ (zu_w32 (4 + (m10 a0 20))) ∧ (zu_w32 (4 + (m10 a0 20))) < 8 := by omega
                              refine zw_if b88 ?_
                              generalize hmm89 : zu_up m84 201 (zu_w32 (4 + (m10 a0 20))) (m84 a0 11) = m89
                              have hIm89 := zi_up hmm89 hIm84 zq_201 (zb_71 _) (by omega) (by omega)
                              have hFm89 := zfr_up hmm89 hFm84 zq_201 rfl
                              refine zw_bd (zw_eq (zr_94_0 n a0 1 15 m89) ?_)
                              have r90 : 0 ≤ (m89 a0 8) ∧ (m89 a0 8) ≤ 6 := zi_rd hIm89 hc0 zb_15_8
                              refine zw_ite (fun h91 => ?_) (fun h91 => ?_)
                              · have r92 : (-2147483648) ≤ (m89 a0 9) ∧ (m89 a0 9) ≤ 2147483647 := zi_rd hIm89 hc0 zb_15_9
                                refine zw_bd (zw_eq (zr_83_0 n (m89 a0 9) 1 15 m89) ?_)
                                refine zw_ite (fun h93 => ?_) (fun h93 => ?_)
                                · refine zw_b (by omega) ?_
                                  refine zw_some ?_
                                  refine zw_ite (fun h94 => ?_) (fun h94 => ?_)
                                  · exfalso; omega
                                  · refine zw_bd (zw_eq (zr_85_0 n a0 2 m89) ?_)
                                    generalize hmm95 : zu_up m89 a0 4 2 = m95
                                    have hIm95 := zi_up hmm95 hIm89 hc0 zb_15_4 (by omega) (by omega)
                                    have hFm95 := zfr_up hmm95 hFm89 hc0 rfl
                                    have r96 : 0 ≤ (m95 a0 10) ∧ (m95 a0 10) ≤ 700 := zi_rd hIm95 hc0 zb_15_10
                                    generalize hmm97 : zu_up m95 a0 5 (m95 a0 10) = m97
                                    have hIm97 := zi_up hmm97 hIm95 hc0 zb_15_5 (by omega) (by omega)
                                    have hFm97 := zfr_up hmm97 hFm95 hc0 rfl
                                    refine zw_b (by omega) ?_
                                    refine zw_some ?_
                                    refine zw_b (by omega) ?_
                                    refine zw_some ?_
                                    refine zw_ite (fun h98 => ?_) (fun h98 => ?_)
                                    · exfalso; omega
                                    · refine zw_b (by omega) ?_
                                      exact zw_some ⟨hIm97, hFm97, ⟨by omega, by omega⟩⟩
                                · refine zw_ite (fun h99 => ?_) (fun h99 => ?_)
                                  · refine zw_b (by omega) ?_
                                    refine zw_some ?_
                                    refine zw_ite (fun h100 => ?_) (fun h100 => ?_)
                                    · exfalso; omega
                                    · refine zw_bd (zw_eq (zr_85_0 n a0 2 m89) ?_)
                                      generalize hmm101 : zu_up m89 a0 4 2 = m101
                                      have hIm101 := zi_up hmm101 hIm89 hc0 zb_15_4 (by omega) (by omega)
                                      have hFm101 := zfr_up hmm101 hFm89 hc0 rfl
                                      have r102 : 0 ≤ (m101 a0 10) ∧ (m101 a0 10) ≤ 700 := zi_rd hIm101 hc0 zb_15_10
                                      generalize hmm103 : zu_up m101 a0 5 (m101 a0 10) = m103
                                      have hIm103 := zi_up hmm103 hIm101 hc0 zb_15_5 (by omega) (by omega)
                                      have hFm103 := zfr_up hmm103 hFm101 hc0 rfl
                                      refine zw_b (by omega) ?_
                                      refine zw_some ?_
                                      refine zw_b (by omega) ?_
                                      refine zw_some ?_
                                      refine zw_ite (fun h104 => ?_) (fun h104 => ?_)
                                      · exfalso; omega
                                      · refine zw_b (by omega) ?_
                                        exact zw_some ⟨hIm103, hFm103, ⟨by omega, by omega⟩⟩
                                  · refine zw_b (by omega) ?_
                                    refine zw_some ?_
                                    refine zw_ite (fun h105 => ?_) (fun h105 => ?_)
                                    · generalize hmm106 : zu_up m89 a0 11 (m89 a0 9) = m106
                                      have hIm106 := zi_up hmm106 hIm89 hc0 zb_15_11 (by omega) (by omega)
                                      have hFm106 := zfr_up hmm106 hFm89 hc0 rfl
                                      refine zw_bd (zw_mono (zk_89 n hIm106 hc0) (fun v108 m107 hqm107 => ?_))
                                      obtain ⟨hIm107, hfm107, hvm107⟩ := hqm107
                                      have hFm107 := zfr_tr hFm106 hfm107 rfl
                                      refine zw_b (by omega) ?_
                                      refine zw_some ?_
                                      refine zw_ite (fun h109 => ?_) (fun h109 => ?_)
                                      · have r110 : (-2147483648) ≤ (m107 a0 11) ∧ (m107 a0 11) ≤ 2147483647 := zi_rd hIm107 hc0 zb_15_11
                                        have e111 : (m107 a0 11) = (m89 a0 9) := (Eq.trans (zfr_ap hfm107 hc0 rfl) (zs_eq hmm106))
                                        have b112 : 0 ≤ (zu_w32 (4 + (m10 a0 20))) ∧ (zu_w32 (4 + (m10 a0 20))) < 8 := by omega
                                        refine zw_if b112 ?_
                                        generalize hmm113 : zu_up m107 202 (zu_w32 (4 + (m10 a0 20))) (m107 a0 11) = m113
                                        have hIm113 := zi_up hmm113 hIm107 zq_202 (zb_72 _) (by omega) (by omega)
                                        have hFm113 := zfr_up hmm113 hFm107 zq_202 rfl
                                        refine zw_bd (zw_eq (zr_94_0 n a0 0 3 m113) ?_)
                                        have r114 : 0 ≤ (m113 a0 8) ∧ (m113 a0 8) ≤ 6 := zi_rd hIm113 hc0 zb_15_8
                                        refine zw_ite (fun h115 => ?_) (fun h115 => ?_)
                                        · have r116 : (-2147483648) ≤ (m113 a0 9) ∧ (m113 a0 9) ≤ 2147483647 := zi_rd hIm113 hc0 zb_15_9
                                          refine zw_bd (zw_eq (zr_83_0 n (m113 a0 9) 0 3 m113) ?_)
                                          refine zw_ite (fun h117 => ?_) (fun h117 => ?_)
                                          · refine zw_b (by omega) ?_
                                            refine zw_some ?_
                                            refine zw_ite (fun h118 => ?_) (fun h118 => ?_)
                                            · exfalso; omega
                                            · refine zw_bd (zw_eq (zr_85_0 n a0 2 m113) ?_)
                                              generalize hmm119 : zu_up m113 a0 4 2 = m119
                                              have hIm119 := zi_up hmm119 hIm113 hc0 zb_15_4 (by omega) (by omega)
                                              have hFm119 := zfr_up hmm119 hFm113 hc0 rfl
                                              have r120 : 0 ≤ (m119 a0 10) ∧ (m119 a0 10) ≤ 700 := zi_rd hIm119 hc0 zb_15_10
                                              generalize hmm121 : zu_up m119 a0 5 (m119 a0 10) = m121
                                              have hIm121 := zi_up hmm121 hIm119 hc0 zb_15_5 (by omega) (by omega)
                                              have hFm121 := zfr_up hmm121 hFm119 hc0 rfl
                                              refine zw_b (by omega) ?_
                                              refine zw_some ?_
                                              refine zw_b (by omega) ?_
                                              refine zw_some ?_
                                              refine zw_ite (fun h122 => ?_) (fun h122 => ?_)
                                              · exfalso; omega
                                              · refine zw_b (by omega) ?_
                                                exact zw_some ⟨hIm121, hFm121, ⟨by omega, by omega⟩⟩
                                          · refine zw_ite (fun h123 => ?_) (fun h123 => ?_)
                                            · refine zw_b (by omega) ?_
                                              refine zw_some ?_
                                              refine zw_ite (fun h124 => ?_) (fun h124 => ?_)
                                              · exfalso; omega
                                              · refine zw_bd (zw_eq (zr_85_0 n a0 2 m113) ?_)
                                                generalize hmm125 : zu_up m113 a0 4 2 = m125
                                                have hIm125 := zi_up hmm125 hIm113 hc0 zb_15_4 (by omega) (by omega)
                                                have hFm125 := zfr_up hmm125 hFm113 hc0 rfl
                                                have r126 : 0 ≤ (m125 a0 10) ∧ (m125 a0 10) ≤ 700 := zi_rd hIm125 hc0 zb_15_10
                                                generalize hmm127 : zu_up m125 a0 5 (m125 a0 10) = m127
                                                have hIm127 := zi_up hmm127 hIm125 hc0 zb_15_5 (by omega) (by omega)
                                                have hFm127 := zfr_up hmm127 hFm125 hc0 rfl
                                                refine zw_b (by omega) ?_
                                                refine zw_some ?_
                                                refine zw_b (by omega) ?_
                                                refine zw_some ?_
                                                refine zw_ite (fun h128 => ?_) (fun h128 => ?_)
                                                · exfalso; omega
                                                · refine zw_b (by omega) ?_
                                                  exact zw_some ⟨hIm127, hFm127, ⟨by omega, by omega⟩⟩
                                            · refine zw_b (by omega) ?_
                                              refine zw_some ?_
                                              refine zw_ite (fun h129 => ?_) (fun h129 => ?_)
                                              · generalize hmm130 : zu_up m113 a0 11 (m113 a0 9) = m130
                                                have hIm130 := zi_up hmm130 hIm113 hc0 zb_15_11 (by omega) (by omega)
                                                have hFm130 := zfr_up hmm130 hFm113 hc0 rfl
                                                refine zw_bd (zw_mono (zk_89 n hIm130 hc0) (fun v132 m131 hqm131 => ?_))
                                                obtain ⟨hIm131, hfm131, hvm131⟩ := hqm131
                                                have hFm131 := zfr_tr hFm130 hfm131 rfl
                                                refine zw_b (by omega) ?_
                                                refine zw_some ?_
                                                refine zw_ite (fun h133 => ?_) (fun h133 => ?_)
                                                · have r134 : (-2147483648) ≤ (m131 a0 11) ∧ (m131 a0 11) ≤ 2147483647 := zi_rd hIm131 hc0 zb_15_11
                                                  have e135 : (m131 a0 11) = (m113 a0 9) := (Eq.trans (zfr_ap hfm131 hc0 rfl) (zs_eq hmm130))
                                                  have b136 : 0 ≤ (zu_w32 (4 + (m10 a0 20))) ∧ (zu_w32 (4 + (m10 a0 20))) < 8 := by omega
                                                  refine zw_if b136 ?_
                                                  generalize hmm137 : zu_up m131 203 (zu_w32 (4 + (m10 a0 20))) (m131 a0 11) = m137
                                                  have hIm137 := zi_up hmm137 hIm131 zq_203 (zb_73 _) (by omega) (by omega)
                                                  have hFm137 := zfr_up hmm137 hFm131 zq_203 rfl
                                                  refine zw_bd (zw_eq (zr_94_0 n a0 0 99 m137) ?_)
                                                  have r138 : 0 ≤ (m137 a0 8) ∧ (m137 a0 8) ≤ 6 := zi_rd hIm137 hc0 zb_15_8
                                                  refine zw_ite (fun h139 => ?_) (fun h139 => ?_)
                                                  · have r140 : (-2147483648) ≤ (m137 a0 9) ∧ (m137 a0 9) ≤ 2147483647 := zi_rd hIm137 hc0 zb_15_9
                                                    refine zw_bd (zw_eq (zr_83_0 n (m137 a0 9) 0 99 m137) ?_)
                                                    refine zw_ite (fun h141 => ?_) (fun h141 => ?_)
                                                    · refine zw_b (by omega) ?_
                                                      refine zw_some ?_
                                                      refine zw_ite (fun h142 => ?_) (fun h142 => ?_)
                                                      · exfalso; omega
                                                      · refine zw_bd (zw_eq (zr_85_0 n a0 2 m137) ?_)
                                                        generalize hmm143 : zu_up m137 a0 4 2 = m143
                                                        have hIm143 := zi_up hmm143 hIm137 hc0 zb_15_4 (by omega) (by omega)
                                                        have hFm143 := zfr_up hmm143 hFm137 hc0 rfl
                                                        have r144 : 0 ≤ (m143 a0 10) ∧ (m143 a0 10) ≤ 700 := zi_rd hIm143 hc0 zb_15_10
                                                        generalize hmm145 : zu_up m143 a0 5 (m143 a0 10) = m145
                                                        have hIm145 := zi_up hmm145 hIm143 hc0 zb_15_5 (by omega) (by omega)
                                                        have hFm145 := zfr_up hmm145 hFm143 hc0 rfl
                                                        refine zw_b (by omega) ?_
                                                        refine zw_some ?_
                                                        refine zw_b (by omega) ?_
                                                        refine zw_some ?_
                                                        refine zw_ite (fun h146 => ?_) (fun h146 => ?_)
                                                        · exfalso; omega
                                                        · refine zw_b (by omega) ?_
                                                          exact zw_some ⟨hIm145, hFm145, ⟨by omega, by omega⟩⟩
                                                    · refine zw_ite (fun h147 => ?_) (fun h147 => ?_)
                                                      · refine zw_b (by omega) ?_
                                                        refine zw_some ?_
                                                        refine zw_ite (fun h148 => ?_) (fun h148 => ?_)
                                                        · exfalso; omega
                                                        · refine zw_bd (zw_eq (zr_85_0 n a0 2 m137) ?_)
                                                          generalize hmm149 : zu_up m137 a0 4 2 = m149
                                                          have hIm149 := zi_up hmm149 hIm137 hc0 zb_15_4 (by omega) (by omega)
                                                          have hFm149 := zfr_up hmm149 hFm137 hc0 rfl
                                                          have r150 : 0 ≤ (m149 a0 10) ∧ (m149 a0 10) ≤ 700 := zi_rd hIm149 hc0 zb_15_10
                                                          generalize hmm151 : zu_up m149 a0 5 (m149 a0 10) = m151
                                                          have hIm151 := zi_up hmm151 hIm149 hc0 zb_15_5 (by omega) (by omega)
                                                          have hFm151 := zfr_up hmm151 hFm149 hc0 rfl
                                                          refine zw_b (by omega) ?_
                                                          refine zw_some ?_
                                                          refine zw_b (by omega) ?_
                                                          refine zw_some ?_
                                                          refine zw_ite (fun h152 => ?_) (fun h152 => ?_)
                                                          · exfalso; omega
                                                          · refine zw_b (by omega) ?_
                                                            exact zw_some ⟨hIm151, hFm151, ⟨by omega, by omega⟩⟩
                                                      · refine zw_b (by omega) ?_
                                                        refine zw_some ?_
                                                        refine zw_ite (fun h153 => ?_) (fun h153 => ?_)
                                                        · generalize hmm154 : zu_up m137 a0 11 (m137 a0 9) = m154
                                                          have hIm154 := zi_up hmm154 hIm137 hc0 zb_15_11 (by omega) (by omega)
                                                          have hFm154 := zfr_up hmm154 hFm137 hc0 rfl
                                                          refine zw_bd (zw_mono (zk_89 n hIm154 hc0) (fun v156 m155 hqm155 => ?_))
                                                          obtain ⟨hIm155, hfm155, hvm155⟩ := hqm155
                                                          have hFm155 := zfr_tr hFm154 hfm155 rfl
                                                          refine zw_b (by omega) ?_
                                                          refine zw_some ?_
                                                          refine zw_ite (fun h157 => ?_) (fun h157 => ?_)
                                                          · have r158 : (-2147483648) ≤ (m155 a0 11) ∧ (m155 a0 11) ≤ 2147483647 := zi_rd hIm155 hc0 zb_15_11
                                                            have e159 : (m155 a0 11) = (m137 a0 9) := (Eq.trans (zfr_ap hfm155 hc0 rfl) (zs_eq hmm154))
                                                            have b160 : 0 ≤ (zu_w32 (4 + (m10 a0 20))) ∧ (zu_w32 (4 + (m10 a0 20))) < 8 := by omega
                                                            refine zw_if b160 ?_
                                                            generalize hmm161 : zu_up m155 204 (zu_w32 (4 + (m10 a0 20))) (m155 a0 11) = m161
                                                            have hIm161 := zi_up hmm161 hIm155 zq_204 (zb_74 _) (by omega) (by omega)
                                                            have hFm161 := zfr_up hmm161 hFm155 zq_204 rfl
                                                            have r162 : 0 ≤ (m161 a0 20) ∧ (m161 a0 20) ≤ 4 := zi_rd hIm161 hc0 zb_15_20
                                                            have e163 : (m161 a0 20) = (m10 a0 20) := (Eq.trans (zs_ne hmm161 (Or.inl (zc_ne hc0 zq_204 (by decide)))) (Eq.trans (zfr_ap hfm155 hc0 rfl) (Eq.trans (zs_ne hmm154 (Or.inr (by decide))) (Eq.trans (zs_ne hmm137 (Or.inl (zc_ne hc0 zq_203 (by decide)))) (Eq.trans (zfr_ap hfm131 hc0 rfl) (Eq.trans (zs_ne hmm130 (Or.inr (by decide))) (Eq.trans (zs_ne hmm113 (Or.inl (zc_ne hc0 zq_202 (by decide)))) (Eq.trans (zfr_ap hfm107 hc0 rfl) (Eq.trans (zs_ne hmm106 (Or.inr (by decide))) (Eq.trans (zs_ne hmm89 (Or.inl (zc_ne hc0 zq_201 (by decide)))) (Eq.trans (zs_ne hmm84 (Or.inr (by decide))) (Eq.trans (zfr_ap hfm74 hc0 rfl) (Eq.trans (zs_ne hmm73 (Or.inr (by decide))) (Eq.trans (zs_ne hmm50 (Or.inr (by decide))) (Eq.trans (zfr_ap hfm44 hc0 rfl) (Eq.trans (zs_ne hmm43 (Or.inr (by decide))) (Eq.trans (zs_ne hmm22 (Or.inr (by decide))) (Eq.trans (zfr_ap hfm20 hc0 rfl) (zs_ne hmm19 (Or.inl (zc_ne hc0 zq_200 (by decide))))))))))))))))))))))
                                                            have w164 := zu_w32_id (z := (m161 a0 20) + 1) (by omega) (by omega)
                                                            generalize hmm165 : zu_up m161 a0 20 (zu_w32 ((m161 a0 20) + 1)) = m165
                                                            have hIm165 := zi_up hmm165 hIm161 hc0 zb_15_20 (by omega) (by omega)
                                                            have hFm165 := zfr_up hmm165 hFm161 hc0 rfl
                                                            refine zw_b (by omega) ?_
                                                            exact zw_some ⟨hIm165, hFm165, ⟨by omega, by omega⟩⟩
                                                          · exfalso; omega
                                                        · exfalso; omega
                                                  · refine zw_bd (zw_eq (zr_85_0 n a0 1 m137) ?_)
                                                    generalize hmm166 : zu_up m137 a0 4 1 = m166
                                                    have hIm166 := zi_up hmm166 hIm137 hc0 zb_15_4 (by omega) (by omega)
                                                    have hFm166 := zfr_up hmm166 hFm137 hc0 rfl
                                                    have r167 : 0 ≤ (m166 a0 10) ∧ (m166 a0 10) ≤ 700 := zi_rd hIm166 hc0 zb_15_10
                                                    generalize hmm168 : zu_up m166 a0 5 (m166 a0 10) = m168
                                                    have hIm168 := zi_up hmm168 hIm166 hc0 zb_15_5 (by omega) (by omega)
                                                    have hFm168 := zfr_up hmm168 hFm166 hc0 rfl
                                                    refine zw_b (by omega) ?_
                                                    refine zw_some ?_
                                                    refine zw_b (by omega) ?_
                                                    refine zw_some ?_
                                                    refine zw_ite (fun h169 => ?_) (fun h169 => ?_)
                                                    · exfalso; omega
                                                    · refine zw_b (by omega) ?_
                                                      exact zw_some ⟨hIm168, hFm168, ⟨by omega, by omega⟩⟩
                                                · exfalso; omega
                                              · exfalso; omega
                                        · refine zw_bd (zw_eq (zr_85_0 n a0 1 m113) ?_)
                                          generalize hmm170 : zu_up m113 a0 4 1 = m170
                                          have hIm170 := zi_up hmm170 hIm113 hc0 zb_15_4 (by omega) (by omega)
                                          have hFm170 := zfr_up hmm170 hFm113 hc0 rfl
                                          have r171 : 0 ≤ (m170 a0 10) ∧ (m170 a0 10) ≤ 700 := zi_rd hIm170 hc0 zb_15_10
                                          generalize hmm172 : zu_up m170 a0 5 (m170 a0 10) = m172
                                          have hIm172 := zi_up hmm172 hIm170 hc0 zb_15_5 (by omega) (by omega)
                                          have hFm172 := zfr_up hmm172 hFm170 hc0 rfl
                                          refine zw_b (by omega) ?_
                                          refine zw_some ?_
                                          refine zw_b (by omega) ?_
                                          refine zw_some ?_
                                          refine zw_ite (fun h173 => ?_) (fun h173 => ?_)
                                          · exfalso; omega
                                          · refine zw_b (by omega) ?_
                                            exact zw_some ⟨hIm172, hFm172, ⟨by omega, by omega⟩⟩
                                      · exfalso; omega
                                    · exfalso; omega
                              · refine zw_bd (zw_eq (zr_85_0 n a0 1 m89) ?_)
                                generalize hmm174 : zu_up m89 a0 4 1 = m174
                                have hIm174 := zi_up hmm174 hIm89 hc0 zb_15_4 (by omega) (by omega)
                                have hFm174 := zfr_up hmm174 hFm89 hc0 rfl
                                have r175 : 0 ≤ (m174 a0 10) ∧ (m174 a0 10) ≤ 700 := zi_rd hIm174 hc0 zb_15_10
                                generalize hmm176 : zu_up m174 a0 5 (m174 a0 10) = m176
                                have hIm176 := zi_up hmm176 hIm174 hc0 zb_15_5 (by omega) (by omega)
                                have hFm176 := zfr_up hmm176 hFm174 hc0 rfl
                                refine zw_b (by omega) ?_
                                refine zw_some ?_
                                refine zw_b (by omega) ?_
                                refine zw_some ?_
                                refine zw_ite (fun h177 => ?_) (fun h177 => ?_)
                                · exfalso; omega
                                · refine zw_b (by omega) ?_
                                  exact zw_some ⟨hIm176, hFm176, ⟨by omega, by omega⟩⟩
                            · exfalso; omega
                          · exfalso; omega
                        · exfalso; omega
                  · refine zw_bd (zw_eq (zr_85_0 n a0 1 m50) ?_)
                    generalize hmm178 : zu_up m50 a0 4 1 = m178
                    have hIm178 := zi_up hmm178 hIm50 hc0 zb_15_4 (by omega) (by omega)
                    have hFm178 := zfr_up hmm178 hFm50 hc0 rfl
                    have r179 : 0 ≤ (m178 a0 10) ∧ (m178 a0 10) ≤ 700 := zi_rd hIm178 hc0 zb_15_10
                    have e180 : (m178 a0 10) = (m44 a0 10) := (Eq.trans (zs_ne hmm178 (Or.inr (by decide))) (zs_ne hmm50 (Or.inr (by decide))))
                    generalize hmm181 : zu_up m178 a0 5 (m178 a0 10) = m181
                    have hIm181 := zi_up hmm181 hIm178 hc0 zb_15_5 (by omega) (by omega)
                    have hFm181 := zfr_up hmm181 hFm178 hc0 rfl
                    refine zw_b (by omega) ?_
                    refine zw_some ?_
                    refine zw_b (by omega) ?_
                    refine zw_some ?_
                    refine zw_ite (fun h182 => ?_) (fun h182 => ?_)
                    · exfalso; omega
                    · refine zw_b (by omega) ?_
                      refine zw_some ?_
                      refine zw_ite (fun h183 => ?_) (fun h183 => ?_)
                      · exfalso; omega
                      · refine zw_b (by omega) ?_
                        exact zw_some ⟨hIm181, hFm181, ⟨by omega, by omega⟩⟩
                · exfalso; omega
              · exfalso; omega
        · refine zw_bd (zw_eq (zr_85_0 n a0 1 m22) ?_)
          generalize hmm184 : zu_up m22 a0 4 1 = m184
          have hIm184 := zi_up hmm184 hIm22 hc0 zb_15_4 (by omega) (by omega)
          have hFm184 := zfr_up hmm184 hFm22 hc0 rfl
          have r185 : 0 ≤ (m184 a0 10) ∧ (m184 a0 10) ≤ 700 := zi_rd hIm184 hc0 zb_15_10
          generalize hmm186 : zu_up m184 a0 5 (m184 a0 10) = m186
          have hIm186 := zi_up hmm186 hIm184 hc0 zb_15_5 (by omega) (by omega)
          have hFm186 := zfr_up hmm186 hFm184 hc0 rfl
          refine zw_b (by omega) ?_
          refine zw_some ?_
          refine zw_b (by omega) ?_
          refine zw_some ?_
          refine zw_ite (fun h187 => ?_) (fun h187 => ?_)
          · exfalso; omega
          · refine zw_b (by omega) ?_
            refine zw_some ?_
            refine zw_ite (fun h188 => ?_) (fun h188 => ?_)
            · exfalso; omega
            · refine zw_b (by omega) ?_
              exact zw_some ⟨hIm186, hFm186, ⟨by omega, by omega⟩⟩
      · refine zw_bd (zw_eq (zr_85_0 n a0 3 m10) ?_)
        generalize hmm189 : zu_up m10 a0 4 3 = m189
        have hIm189 := zi_up hmm189 hIm10 hc0 zb_15_4 (by omega) (by omega)
        have hFm189 := zfr_up hmm189 hFm10 hc0 rfl
        have r190 : 0 ≤ (m189 a0 10) ∧ (m189 a0 10) ≤ 700 := zi_rd hIm189 hc0 zb_15_10
        generalize hmm191 : zu_up m189 a0 5 (m189 a0 10) = m191
        have hIm191 := zi_up hmm191 hIm189 hc0 zb_15_5 (by omega) (by omega)
        have hFm191 := zfr_up hmm191 hFm189 hc0 rfl
        refine zw_b (by omega) ?_
        refine zw_some ?_
        refine zw_b (by omega) ?_
        exact zw_some ⟨hIm191, hFm191, ⟨by omega, by omega⟩⟩
    · refine zw_bd (zw_eq (zr_85_0 n a0 1 m3) ?_)
      generalize hmm192 : zu_up m3 a0 4 1 = m192
      have hIm192 := zi_up hmm192 hIm3 hc0 zb_15_4 (by omega) (by omega)
      have hFm192 := zfr_up hmm192 hFm3 hc0 rfl
      have r193 : 0 ≤ (m192 a0 10) ∧ (m192 a0 10) ≤ 700 := zi_rd hIm192 hc0 zb_15_10
      generalize hmm194 : zu_up m192 a0 5 (m192 a0 10) = m194
      have hIm194 := zi_up hmm194 hIm192 hc0 zb_15_5 (by omega) (by omega)
      have hFm194 := zfr_up hmm194 hFm192 hc0 rfl
      refine zw_b (by omega) ?_
      refine zw_some ?_
      refine zw_b (by omega) ?_
      exact zw_some ⟨hIm194, hFm194, ⟨by omega, by omega⟩⟩
  · refine zw_bd (zw_eq (zr_85_0 n a0 2 m0) ?_)
    generalize hmm195 : zu_up m0 a0 4 2 = m195
    have hIm195 := zi_up hmm195 hIm0 hc0 zb_15_4 (by omega) (by omega)
    have hFm195 := zfr_up hmm195 hFm0 hc0 rfl
    have r196 : 0 ≤ (m195 a0 10) ∧ (m195 a0 10) ≤ 700 := zi_rd hIm195 hc0 zb_15_10
    generalize hmm197 : zu_up m195 a0 5 (m195 a0 10) = m197
    have hIm197 := zi_up hmm197 hIm195 hc0 zb_15_5 (by omega) (by omega)
    have hFm197 := zfr_up hmm197 hFm195 hc0 rfl
    refine zw_b (by omega) ?_
    refine zw_some ?_
    refine zw_b (by omega) ?_
    exact zw_some ⟨hIm197, hFm197, ⟨by omega, by omega⟩⟩
set_option maxHeartbeats 4000000 in
theorem zk_103 (n : Nat) {a0 : Int} {m0 : zu_m} (hIm0 : zi_I m0) (hc0 : zcls a0 = 15)   (he0 : 1 ≤ m0 a0 8 ∧ m0 a0 8 ≤ 1) (he1 : 11 ≤ m0 a0 9 ∧ m0 a0 9 ≤ 11)  : zw (zu_call (zt_T n) 103 [(40, a0)] m0) (fun v m => zi_I m ∧ zfr [(15, 5), (15, 6), (15, 8), (15, 9), (15, 10), (15, 11), (15, 22), (15, 46), (15, 47), (15, 48), (15, 49), (15, 50), (15, 51), (75, 0), (76, 0), (77, 0), (78, 0), (79, 0), (80, 0), (81, 0), (82, 0)] m0 m ∧ (0 ≤ v ∧ v ≤ 1)) := by
  have hFm0 : zfr [(15, 5), (15, 6), (15, 8), (15, 9), (15, 10), (15, 11), (15, 22), (15, 46), (15, 47), (15, 48), (15, 49), (15, 50), (15, 51), (75, 0), (76, 0), (77, 0), (78, 0), (79, 0), (80, 0), (81, 0), (82, 0)] m0 m0 := zfr_rf _ _
  refine zw_eq (zr_103_0 n a0 m0) ?_
  refine zw_bd (zw_mono (zk_89 n hIm0 hc0) (fun v2 m1 hqm1 => ?_))
  obtain ⟨hIm1, hfm1, hvm1⟩ := hqm1
  have hFm1 := zfr_tr hFm0 hfm1 rfl
  have r3 : 0 ≤ (m1 a0 8) ∧ (m1 a0 8) ≤ 6 := zi_rd hIm1 hc0 zb_15_8
  refine zw_ite (fun h4 => ?_) (fun h4 => ?_)
  · refine zw_bd (zw_eq (zr_85_0 n a0 1 m1) ?_)
    generalize hmm5 : zu_up m1 a0 4 1 = m5
    have hIm5 := zi_up hmm5 hIm1 hc0 zb_15_4 (by omega) (by omega)
    have hFm5 := zfr_up hmm5 hFm1 hc0 rfl
    have r6 : 0 ≤ (m5 a0 10) ∧ (m5 a0 10) ≤ 700 := zi_rd hIm5 hc0 zb_15_10
    generalize hmm7 : zu_up m5 a0 5 (m5 a0 10) = m7
    have hIm7 := zi_up hmm7 hIm5 hc0 zb_15_5 (by omega) (by omega)
    have hFm7 := zfr_up hmm7 hFm5 hc0 rfl
    refine zw_b (by omega) ?_
    refine zw_some ?_
    refine zw_b (by omega) ?_
    exact zw_some ⟨hIm7, hFm7, ⟨by omega, by omega⟩⟩
  · have r8 : (-2147483648) ≤ (m1 a0 9) ∧ (m1 a0 9) ≤ 2147483647 := zi_rd hIm1 hc0 zb_15_9
    refine zw_ite (fun h9 => ?_) (fun h9 => ?_)
    · refine zw_bd (zw_eq (zr_85_0 n a0 1 m1) ?_)
      generalize hmm10 : zu_up m1 a0 4 1 = m10
      have hIm10 := zi_up hmm10 hIm1 hc0 zb_15_4 (by omega) (by omega)
      have hFm10 := zfr_up hmm10 hFm1 hc0 rfl
      have r11 : 0 ≤ (m10 a0 10) ∧ (m10 a0 10) ≤ 700 := zi_rd hIm10 hc0 zb_15_10
      generalize hmm12 : zu_up m10 a0 5 (m10 a0 10) = m12
      have hIm12 := zi_up hmm12 hIm10 hc0 zb_15_5 (by omega) (by omega)
      have hFm12 := zfr_up hmm12 hFm10 hc0 rfl
      refine zw_b (by omega) ?_
      refine zw_some ?_
      refine zw_b (by omega) ?_
      exact zw_some ⟨hIm12, hFm12, ⟨by omega, by omega⟩⟩
    · refine zw_ite (fun h13 => ?_) (fun h13 => ?_)
      · have w14 := zu_w32_id (z := 4 + (m1 a0 9)) (by omega) (by omega)
        have w15 := zu_w32_id (z := (zu_w32 (4 + (m1 a0 9))) - 19) (by omega) (by omega)
        have b16 : 0 ≤ (zu_w32 ((zu_w32 (4 + (m1 a0 9))) - 19)) ∧ (zu_w32 ((zu_w32 (4 + (m1 a0 9))) - 19)) < 8 := by omega
        refine zw_if b16 ?_
        have r17 : 0 ≤ (m1 205 (zu_w32 ((zu_w32 (4 + (m1 a0 9))) - 19))) ∧ (m1 205 (zu_w32 ((zu_w32 (4 + (m1 a0 9))) - 19))) ≤ 1 := zi_rd hIm1 zq_205 (zb_75 _)
        refine zw_ite (fun h18 => ?_) (fun h18 => ?_)
        · refine zw_b (by omega) ?_
          have b19 : 0 ≤ (zu_w32 ((zu_w32 (4 + (m1 a0 9))) - 19)) ∧ (zu_w32 ((zu_w32 (4 + (m1 a0 9))) - 19)) < 8 := by omega
          refine zw_if b19 ?_
          generalize hmm20 : zu_up m1 205 (zu_w32 ((zu_w32 (4 + (m1 a0 9))) - 19)) 1 = m20
          have hIm20 := zi_up hmm20 hIm1 zq_205 (zb_75 _) (by omega) (by omega)
          have hFm20 := zfr_up hmm20 hFm1 zq_205 rfl
          refine zw_bd (zw_mono (zk_89 n hIm20 hc0) (fun v22 m21 hqm21 => ?_))
          obtain ⟨hIm21, hfm21, hvm21⟩ := hqm21
          have hFm21 := zfr_tr hFm20 hfm21 rfl
          have r23 : 0 ≤ (m21 a0 21) ∧ (m21 a0 21) ≤ 64 := zi_rd hIm21 hc0 zb_15_21
          have b24 : 0 ≤ (zu_w32 ((zu_w32 (4 + (m1 a0 9))) - 19)) ∧ (zu_w32 ((zu_w32 (4 + (m1 a0 9))) - 19)) < 8 := by omega
          refine zw_if b24 ?_
          generalize hmm25 : zu_up m21 206 (zu_w32 ((zu_w32 (4 + (m1 a0 9))) - 19)) (m21 a0 21) = m25
          have hIm25 := zi_up hmm25 hIm21 zq_206 (zb_76 _) (by omega) (by omega)
          have hFm25 := zfr_up hmm25 hFm21 zq_206 rfl
          refine zw_bd (zw_mono (zk_118 n hIm25 hc0) (fun v27 m26 hqm26 => ?_))
          obtain ⟨hIm26, hfm26, hvm26⟩ := hqm26
          have hFm26 := zfr_tr hFm25 hfm26 rfl
          have r28 : 0 ≤ (m26 a0 21) ∧ (m26 a0 21) ≤ 64 := zi_rd hIm26 hc0 zb_15_21
          have b29 : 0 ≤ (zu_w32 ((zu_w32 (4 + (m1 a0 9))) - 19)) ∧ (zu_w32 ((zu_w32 (4 + (m1 a0 9))) - 19)) < 8 := by omega
          refine zw_if b29 ?_
          generalize hmm30 : zu_up m26 207 (zu_w32 ((zu_w32 (4 + (m1 a0 9))) - 19)) (m26 a0 21) = m30
          have hIm30 := zi_up hmm30 hIm26 zq_207 (zb_77 _) (by omega) (by omega)
          have hFm30 := zfr_up hmm30 hFm26 zq_207 rfl
          refine zw_b (by omega) ?_
          exact zw_some ⟨hIm30, hFm30, ⟨by omega, by omega⟩⟩
        · refine zw_bd (zw_eq (zr_85_0 n a0 3 m1) ?_)
          generalize hmm31 : zu_up m1 a0 4 3 = m31
          have hIm31 := zi_up hmm31 hIm1 hc0 zb_15_4 (by omega) (by omega)
          have hFm31 := zfr_up hmm31 hFm1 hc0 rfl
          have r32 : 0 ≤ (m31 a0 10) ∧ (m31 a0 10) ≤ 700 := zi_rd hIm31 hc0 zb_15_10
          generalize hmm33 : zu_up m31 a0 5 (m31 a0 10) = m33
          have hIm33 := zi_up hmm33 hIm31 hc0 zb_15_5 (by omega) (by omega)
          have hFm33 := zfr_up hmm33 hFm31 hc0 rfl
          refine zw_b (by omega) ?_
          refine zw_some ?_
          refine zw_b (by omega) ?_
          exact zw_some ⟨hIm33, hFm33, ⟨by omega, by omega⟩⟩
      · refine zw_bd (zw_eq (zr_85_0 n a0 1 m1) ?_)
        generalize hmm34 : zu_up m1 a0 4 1 = m34
        have hIm34 := zi_up hmm34 hIm1 hc0 zb_15_4 (by omega) (by omega)
        have hFm34 := zfr_up hmm34 hFm1 hc0 rfl
        have r35 : 0 ≤ (m34 a0 10) ∧ (m34 a0 10) ≤ 700 := zi_rd hIm34 hc0 zb_15_10
        generalize hmm36 : zu_up m34 a0 5 (m34 a0 10) = m36
        have hIm36 := zi_up hmm36 hIm34 hc0 zb_15_5 (by omega) (by omega)
        have hFm36 := zfr_up hmm36 hFm34 hc0 rfl
        refine zw_b (by omega) ?_
        refine zw_some ?_
        refine zw_b (by omega) ?_
        exact zw_some ⟨hIm36, hFm36, ⟨by omega, by omega⟩⟩
set_option maxHeartbeats 4000000 in
theorem zk_129 (n : Nat) {a0 a1 a2 a3 a4 a5 : Int} {m0 : zu_m} (hIm0 : zi_I m0) (hc0 : zcls a0 = 15) (ha1 : 0 ≤ a1 ∧ a1 ≤ 3) (ha2 : 0 ≤ a2 ∧ a2 ≤ 3) (ha3 : 0 ≤ a3 ∧ a3 ≤ 9) (ha4 : 0 ≤ a4 ∧ a4 ≤ 47) (ha5 : (-2147483648) ≤ a5 ∧ a5 ≤ 2147483647)    : zw (zu_call (zt_T n) 129 [(40, a0), (0, a1), (0, a2), (0, a3), (0, a4), (0, a5)] m0) (fun v m => zi_I m ∧ zfr [(15, 54), (83, 0), (84, 0)] m0 m ∧ ((-2147483648) ≤ v ∧ v ≤ 2147483647)) := by
  have hFm0 : zfr [(15, 54), (83, 0), (84, 0)] m0 m0 := zfr_rf _ _
  refine zw_eq (zr_129_0 n a0 a1 a2 a3 a4 a5 m0) ?_
  have w1 := zu_w32_id (z := 10 * a3) (by omega) (by omega)
  have w2 := zu_w32_id (z := 100 - (zu_w32 (10 * a3))) (by omega) (by omega)
  have b3 : 0 ≤ a4 ∧ a4 < 96 := by omega
  refine zw_if b3 ?_
  have r4 : (-2147483648) ≤ (m0 195 a4) ∧ (m0 195 a4) ≤ 2147483647 := zi_rd hIm0 zq_195 (zb_65 _)
  refine zw_ite (fun h5 => ?_) (fun h5 => ?_)
  · have w6 := zu_w32_id (z := (zu_w32 (100 - (zu_w32 (10 * a3)))) - 0) (by omega) (by omega)
    refine zw_bd (zw_eq (zr_128_0 n a0 a1 m0) ?_)
    have r7 : 0 ≤ (m0 a0 68) ∧ (m0 a0 68) ≤ 1 := zi_rd hIm0 hc0 zb_15_68
    refine zw_ite (fun h8 => ?_) (fun h8 => ?_)
    · have b9 : 0 ≤ a1 ∧ a1 < 8 := by omega
      refine zw_if b9 ?_
      have r10 : 0 ≤ (m0 202 a1) ∧ (m0 202 a1) ≤ 15 := zi_rd hIm0 zq_202 (zb_72 _)
      refine zw_some ?_
      refine zw_nif (by omega) ?_
      have d11 : Int.tmod a1 4 = a1 % 4 := Int.tmod_eq_emod_of_nonneg (by omega)
      refine zw_ite (fun h12 => ?_) (fun h12 => ?_)
      · refine zw_bd (zw_mono (zk_38 n hIm0 hc0 ⟨by omega, by omega⟩ ⟨by omega, by omega⟩ ⟨by omega, by omega⟩ ⟨by omega, by omega⟩ ⟨by omega, by omega⟩ ⟨by omega, by omega⟩) (fun v14 m13 hqm13 => ?_))
        obtain ⟨hIm13, hfm13, hvm13⟩ := hqm13
        have hFm13 := zfr_tr hFm0 hfm13 rfl
        refine zw_ite (fun h15 => ?_) (fun h15 => ?_)
        · refine zw_bd (zw_mono (zk_39 n hIm13 hc0 ⟨by omega, by omega⟩ ⟨by omega, by omega⟩ ⟨by omega, by omega⟩) (fun v17 m16 hqm16 => ?_))
          obtain ⟨hIm16, hfm16, hvm16⟩ := hqm16
          have hFm16 := zfr_tr hFm13 hfm16 rfl
          exact zw_some ⟨hIm16, hFm16, ⟨by omega, by omega⟩⟩
        · exfalso; omega
      · refine zw_bd (zw_mono (zk_38 n hIm0 hc0 ⟨by omega, by omega⟩ ⟨by omega, by omega⟩ ⟨by omega, by omega⟩ ⟨by omega, by omega⟩ ⟨by omega, by omega⟩ ⟨by omega, by omega⟩) (fun v19 m18 hqm18 => ?_))
        obtain ⟨hIm18, hfm18, hvm18⟩ := hqm18
        have hFm18 := zfr_tr hFm0 hfm18 rfl
        refine zw_ite (fun h20 => ?_) (fun h20 => ?_)
        · refine zw_bd (zw_mono (zk_39 n hIm18 hc0 ⟨by omega, by omega⟩ ⟨by omega, by omega⟩ ⟨by omega, by omega⟩) (fun v22 m21 hqm21 => ?_))
          obtain ⟨hIm21, hfm21, hvm21⟩ := hqm21
          have hFm21 := zfr_tr hFm18 hfm21 rfl
          exact zw_some ⟨hIm21, hFm21, ⟨by omega, by omega⟩⟩
        · exfalso; omega
    · refine zw_some ?_
      refine zw_nif (by omega) ?_
      have d23 : Int.tmod a1 4 = a1 % 4 := Int.tmod_eq_emod_of_nonneg (by omega)
      refine zw_ite (fun h24 => ?_) (fun h24 => ?_)
      · refine zw_bd (zw_mono (zk_38 n hIm0 hc0 ⟨by omega, by omega⟩ ⟨by omega, by omega⟩ ⟨by omega, by omega⟩ ⟨by omega, by omega⟩ ⟨by omega, by omega⟩ ⟨by omega, by omega⟩) (fun v26 m25 hqm25 => ?_))
        obtain ⟨hIm25, hfm25, hvm25⟩ := hqm25
        have hFm25 := zfr_tr hFm0 hfm25 rfl
        refine zw_ite (fun h27 => ?_) (fun h27 => ?_)
        · refine zw_bd (zw_mono (zk_39 n hIm25 hc0 ⟨by omega, by omega⟩ ⟨by omega, by omega⟩ ⟨by omega, by omega⟩) (fun v29 m28 hqm28 => ?_))
          obtain ⟨hIm28, hfm28, hvm28⟩ := hqm28
          have hFm28 := zfr_tr hFm25 hfm28 rfl
          exact zw_some ⟨hIm28, hFm28, ⟨by omega, by omega⟩⟩
        · exfalso; omega
      · refine zw_bd (zw_mono (zk_38 n hIm0 hc0 ⟨by omega, by omega⟩ ⟨by omega, by omega⟩ ⟨by omega, by omega⟩ ⟨by omega, by omega⟩ ⟨by omega, by omega⟩ ⟨by omega, by omega⟩) (fun v31 m30 hqm30 => ?_))
        obtain ⟨hIm30, hfm30, hvm30⟩ := hqm30
        have hFm30 := zfr_tr hFm0 hfm30 rfl
        refine zw_ite (fun h32 => ?_) (fun h32 => ?_)
        · refine zw_bd (zw_mono (zk_39 n hIm30 hc0 ⟨by omega, by omega⟩ ⟨by omega, by omega⟩ ⟨by omega, by omega⟩) (fun v34 m33 hqm33 => ?_))
          obtain ⟨hIm33, hfm33, hvm33⟩ := hqm33
          have hFm33 := zfr_tr hFm30 hfm33 rfl
          exact zw_some ⟨hIm33, hFm33, ⟨by omega, by omega⟩⟩
        · exfalso; omega
  · refine zw_bd (zw_eq (zr_128_0 n a0 a1 m0) ?_)
    have r35 : 0 ≤ (m0 a0 68) ∧ (m0 a0 68) ≤ 1 := zi_rd hIm0 hc0 zb_15_68
    refine zw_ite (fun h36 => ?_) (fun h36 => ?_)
    · have b37 : 0 ≤ a1 ∧ a1 < 8 := by omega
      refine zw_if b37 ?_
      have r38 : 0 ≤ (m0 202 a1) ∧ (m0 202 a1) ≤ 15 := zi_rd hIm0 zq_202 (zb_72 _)
      refine zw_some ?_
      refine zw_ite (fun h39 => ?_) (fun h39 => ?_)
      · have w40 := zu_w32_id (z := (zu_w32 (100 - (zu_w32 (10 * a3)))) - 0) (by omega) (by omega)
        refine zw_bd (zw_eq (zr_128_0 n a0 a1 m0) ?_)
        refine zw_ite (fun h41 => ?_) (fun h41 => ?_)
        · have b42 : 0 ≤ a1 ∧ a1 < 8 := by omega
          refine zw_if b42 ?_
          refine zw_some ?_
          refine zw_nif (by omega) ?_
          have d43 : Int.tmod a1 4 = a1 % 4 := Int.tmod_eq_emod_of_nonneg (by omega)
          refine zw_ite (fun h44 => ?_) (fun h44 => ?_)
          · refine zw_bd (zw_mono (zk_38 n hIm0 hc0 ⟨by omega, by omega⟩ ⟨by omega, by omega⟩ ⟨by omega, by omega⟩ ⟨by omega, by omega⟩ ⟨by omega, by omega⟩ ⟨by omega, by omega⟩) (fun v46 m45 hqm45 => ?_))
            obtain ⟨hIm45, hfm45, hvm45⟩ := hqm45
            have hFm45 := zfr_tr hFm0 hfm45 rfl
            refine zw_ite (fun h47 => ?_) (fun h47 => ?_)
            · refine zw_bd (zw_mono (zk_39 n hIm45 hc0 ⟨by omega, by omega⟩ ⟨by omega, by omega⟩ ⟨by omega, by omega⟩) (fun v49 m48 hqm48 => ?_))
              obtain ⟨hIm48, hfm48, hvm48⟩ := hqm48
              have hFm48 := zfr_tr hFm45 hfm48 rfl
              exact zw_some ⟨hIm48, hFm48, ⟨by omega, by omega⟩⟩
            · exfalso; omega
          · refine zw_bd (zw_mono (zk_38 n hIm0 hc0 ⟨by omega, by omega⟩ ⟨by omega, by omega⟩ ⟨by omega, by omega⟩ ⟨by omega, by omega⟩ ⟨by omega, by omega⟩ ⟨by omega, by omega⟩) (fun v51 m50 hqm50 => ?_))
            obtain ⟨hIm50, hfm50, hvm50⟩ := hqm50
            have hFm50 := zfr_tr hFm0 hfm50 rfl
            refine zw_ite (fun h52 => ?_) (fun h52 => ?_)
            · refine zw_bd (zw_mono (zk_39 n hIm50 hc0 ⟨by omega, by omega⟩ ⟨by omega, by omega⟩ ⟨by omega, by omega⟩) (fun v54 m53 hqm53 => ?_))
              obtain ⟨hIm53, hfm53, hvm53⟩ := hqm53
              have hFm53 := zfr_tr hFm50 hfm53 rfl
              exact zw_some ⟨hIm53, hFm53, ⟨by omega, by omega⟩⟩
            · exfalso; omega
        · exfalso; omega
      · have w55 := zu_w32_id (z := (zu_w32 (100 - (zu_w32 (10 * a3)))) - 20) (by omega) (by omega)
        refine zw_bd (zw_eq (zr_128_0 n a0 a1 m0) ?_)
        refine zw_ite (fun h56 => ?_) (fun h56 => ?_)
        · have b57 : 0 ≤ a1 ∧ a1 < 8 := by omega
          refine zw_if b57 ?_
          refine zw_some ?_
          refine zw_nif (by omega) ?_
          have d58 : Int.tmod a1 4 = a1 % 4 := Int.tmod_eq_emod_of_nonneg (by omega)
          refine zw_ite (fun h59 => ?_) (fun h59 => ?_)
          · refine zw_bd (zw_mono (zk_38 n hIm0 hc0 ⟨by omega, by omega⟩ ⟨by omega, by omega⟩ ⟨by omega, by omega⟩ ⟨by omega, by omega⟩ ⟨by omega, by omega⟩ ⟨by omega, by omega⟩) (fun v61 m60 hqm60 => ?_))
            obtain ⟨hIm60, hfm60, hvm60⟩ := hqm60
            have hFm60 := zfr_tr hFm0 hfm60 rfl
            refine zw_ite (fun h62 => ?_) (fun h62 => ?_)
            · refine zw_bd (zw_mono (zk_39 n hIm60 hc0 ⟨by omega, by omega⟩ ⟨by omega, by omega⟩ ⟨by omega, by omega⟩) (fun v64 m63 hqm63 => ?_))
              obtain ⟨hIm63, hfm63, hvm63⟩ := hqm63
              have hFm63 := zfr_tr hFm60 hfm63 rfl
              exact zw_some ⟨hIm63, hFm63, ⟨by omega, by omega⟩⟩
            · refine zw_bd (zw_mono (zk_39 n hIm60 hc0 ⟨by omega, by omega⟩ ⟨by omega, by omega⟩ ⟨by omega, by omega⟩) (fun v66 m65 hqm65 => ?_))
              obtain ⟨hIm65, hfm65, hvm65⟩ := hqm65
              have hFm65 := zfr_tr hFm60 hfm65 rfl
              exact zw_some ⟨hIm65, hFm65, ⟨by omega, by omega⟩⟩
          · refine zw_bd (zw_mono (zk_38 n hIm0 hc0 ⟨by omega, by omega⟩ ⟨by omega, by omega⟩ ⟨by omega, by omega⟩ ⟨by omega, by omega⟩ ⟨by omega, by omega⟩ ⟨by omega, by omega⟩) (fun v68 m67 hqm67 => ?_))
            obtain ⟨hIm67, hfm67, hvm67⟩ := hqm67
            have hFm67 := zfr_tr hFm0 hfm67 rfl
            refine zw_ite (fun h69 => ?_) (fun h69 => ?_)
            · refine zw_bd (zw_mono (zk_39 n hIm67 hc0 ⟨by omega, by omega⟩ ⟨by omega, by omega⟩ ⟨by omega, by omega⟩) (fun v71 m70 hqm70 => ?_))
              obtain ⟨hIm70, hfm70, hvm70⟩ := hqm70
              have hFm70 := zfr_tr hFm67 hfm70 rfl
              exact zw_some ⟨hIm70, hFm70, ⟨by omega, by omega⟩⟩
            · refine zw_bd (zw_mono (zk_39 n hIm67 hc0 ⟨by omega, by omega⟩ ⟨by omega, by omega⟩ ⟨by omega, by omega⟩) (fun v73 m72 hqm72 => ?_))
              obtain ⟨hIm72, hfm72, hvm72⟩ := hqm72
              have hFm72 := zfr_tr hFm67 hfm72 rfl
              exact zw_some ⟨hIm72, hFm72, ⟨by omega, by omega⟩⟩
        · exfalso; omega
    · refine zw_some ?_
      refine zw_ite (fun h74 => ?_) (fun h74 => ?_)
      · have w75 := zu_w32_id (z := (zu_w32 (100 - (zu_w32 (10 * a3)))) - 0) (by omega) (by omega)
        refine zw_bd (zw_eq (zr_128_0 n a0 a1 m0) ?_)
        refine zw_ite (fun h76 => ?_) (fun h76 => ?_)
        · exfalso; omega
        · refine zw_some ?_
          refine zw_nif (by omega) ?_
          have d77 : Int.tmod a1 4 = a1 % 4 := Int.tmod_eq_emod_of_nonneg (by omega)
          refine zw_ite (fun h78 => ?_) (fun h78 => ?_)
          · refine zw_bd (zw_mono (zk_38 n hIm0 hc0 ⟨by omega, by omega⟩ ⟨by omega, by omega⟩ ⟨by omega, by omega⟩ ⟨by omega, by omega⟩ ⟨by omega, by omega⟩ ⟨by omega, by omega⟩) (fun v80 m79 hqm79 => ?_))
            obtain ⟨hIm79, hfm79, hvm79⟩ := hqm79
            have hFm79 := zfr_tr hFm0 hfm79 rfl
            refine zw_ite (fun h81 => ?_) (fun h81 => ?_)
            · refine zw_bd (zw_mono (zk_39 n hIm79 hc0 ⟨by omega, by omega⟩ ⟨by omega, by omega⟩ ⟨by omega, by omega⟩) (fun v83 m82 hqm82 => ?_))
              obtain ⟨hIm82, hfm82, hvm82⟩ := hqm82
              have hFm82 := zfr_tr hFm79 hfm82 rfl
              exact zw_some ⟨hIm82, hFm82, ⟨by omega, by omega⟩⟩
            · exfalso; omega
          · refine zw_bd (zw_mono (zk_38 n hIm0 hc0 ⟨by omega, by omega⟩ ⟨by omega, by omega⟩ ⟨by omega, by omega⟩ ⟨by omega, by omega⟩ ⟨by omega, by omega⟩ ⟨by omega, by omega⟩) (fun v85 m84 hqm84 => ?_))
            obtain ⟨hIm84, hfm84, hvm84⟩ := hqm84
            have hFm84 := zfr_tr hFm0 hfm84 rfl
            refine zw_ite (fun h86 => ?_) (fun h86 => ?_)
            · refine zw_bd (zw_mono (zk_39 n hIm84 hc0 ⟨by omega, by omega⟩ ⟨by omega, by omega⟩ ⟨by omega, by omega⟩) (fun v88 m87 hqm87 => ?_))
              obtain ⟨hIm87, hfm87, hvm87⟩ := hqm87
              have hFm87 := zfr_tr hFm84 hfm87 rfl
              exact zw_some ⟨hIm87, hFm87, ⟨by omega, by omega⟩⟩
            · exfalso; omega
      · exfalso; omega
set_option maxHeartbeats 4000000 in
theorem zk_132 (n : Nat) {a0 a1 a2 : Int} {m0 : zu_m} (hIm0 : zi_I m0) (hc0 : zcls a0 = 15) (ha1 : 0 ≤ a1 ∧ a1 ≤ 3) (ha2 : 0 ≤ a2 ∧ a2 ≤ 15)    : zw (zu_call (zt_T n) 132 [(40, a0), (0, a1), (0, a2)] m0) (fun v m => zi_I m ∧ zfr [(15, 54), (83, 0), (84, 0)] m0 m ∧ ((-2147483648) ≤ v ∧ v ≤ 2147483647)) := by
  have hFm0 : zfr [(15, 54), (83, 0), (84, 0)] m0 m0 := zfr_rf _ _
  refine zw_eq (zr_132_0 n a0 a1 a2 m0) ?_
  have b1 : 0 ≤ a2 ∧ a2 < 36 := by omega
  refine zw_if b1 ?_
  have r2 : 0 ≤ (m0 198 a2) ∧ (m0 198 a2) ≤ 3 := zi_rd hIm0 zq_198 (zb_68 _)
  refine zw_nif (by omega) ?_
  have d3 : Int.tmod a1 4 = a1 % 4 := Int.tmod_eq_emod_of_nonneg (by omega)
  refine zw_ite (fun h4 => ?_) (fun h4 => ?_)
  · have b5 : 0 ≤ a1 ∧ a1 < 8 := by omega
    refine zw_if b5 ?_
    have r6 : 0 ≤ (m0 202 a1) ∧ (m0 202 a1) ≤ 15 := zi_rd hIm0 zq_202 (zb_72 _)
    have b7 : 0 ≤ a2 ∧ a2 < 36 := by omega
    refine zw_if b7 ?_
    have r8 : 0 ≤ (m0 199 a2) ∧ (m0 199 a2) ≤ 9 := zi_rd hIm0 zq_199 (zb_69 _)
    have b9 : 0 ≤ a2 ∧ a2 < 36 := by omega
    refine zw_if b9 ?_
    have r10 : 0 ≤ (m0 197 a2) ∧ (m0 197 a2) ≤ 47 := zi_rd hIm0 zq_197 (zb_67 _)
    have b11 : 0 ≤ a2 ∧ a2 < 36 := by omega
    refine zw_if b11 ?_
    refine zw_ite (fun h12 => ?_) (fun h12 => ?_)
    · refine zw_bd (zw_mono (zk_38 n hIm0 hc0 ⟨by omega, by omega⟩ ⟨by omega, by omega⟩ ⟨by omega, by omega⟩ ⟨by omega, by omega⟩ ⟨by omega, by omega⟩ ⟨by omega, by omega⟩) (fun v14 m13 hqm13 => ?_))
      obtain ⟨hIm13, hfm13, hvm13⟩ := hqm13
      have hFm13 := zfr_tr hFm0 hfm13 rfl
      refine zw_ite (fun h15 => ?_) (fun h15 => ?_)
      · refine zw_bd (zw_mono (zk_39 n hIm13 hc0 ⟨by omega, by omega⟩ ⟨by omega, by omega⟩ ⟨by omega, by omega⟩) (fun v17 m16 hqm16 => ?_))
        obtain ⟨hIm16, hfm16, hvm16⟩ := hqm16
        have hFm16 := zfr_tr hFm13 hfm16 rfl
        exact zw_some ⟨hIm16, hFm16, ⟨by omega, by omega⟩⟩
      · exfalso; omega
    · exfalso; omega
  · have b18 : 0 ≤ a1 ∧ a1 < 8 := by omega
    refine zw_if b18 ?_
    have r19 : 0 ≤ (m0 202 a1) ∧ (m0 202 a1) ≤ 15 := zi_rd hIm0 zq_202 (zb_72 _)
    have b20 : 0 ≤ a2 ∧ a2 < 36 := by omega
    refine zw_if b20 ?_
    have r21 : 0 ≤ (m0 199 a2) ∧ (m0 199 a2) ≤ 9 := zi_rd hIm0 zq_199 (zb_69 _)
    have b22 : 0 ≤ a2 ∧ a2 < 36 := by omega
    refine zw_if b22 ?_
    have r23 : 0 ≤ (m0 197 a2) ∧ (m0 197 a2) ≤ 47 := zi_rd hIm0 zq_197 (zb_67 _)
    have b24 : 0 ≤ a2 ∧ a2 < 36 := by omega
    refine zw_if b24 ?_
    refine zw_ite (fun h25 => ?_) (fun h25 => ?_)
    · exfalso; omega
    · refine zw_bd (zw_mono (zk_38 n hIm0 hc0 ⟨by omega, by omega⟩ ⟨by omega, by omega⟩ ⟨by omega, by omega⟩ ⟨by omega, by omega⟩ ⟨by omega, by omega⟩ ⟨by omega, by omega⟩) (fun v27 m26 hqm26 => ?_))
      obtain ⟨hIm26, hfm26, hvm26⟩ := hqm26
      have hFm26 := zfr_tr hFm0 hfm26 rfl
      refine zw_ite (fun h28 => ?_) (fun h28 => ?_)
      · exfalso; omega
      · refine zw_bd (zw_mono (zk_39 n hIm26 hc0 ⟨by omega, by omega⟩ ⟨by omega, by omega⟩ ⟨by omega, by omega⟩) (fun v30 m29 hqm29 => ?_))
        obtain ⟨hIm29, hfm29, hvm29⟩ := hqm29
        have hFm29 := zfr_tr hFm26 hfm29 rfl
        exact zw_some ⟨hIm29, hFm29, ⟨by omega, by omega⟩⟩
set_option maxHeartbeats 4000000 in
theorem zk_133 (n : Nat) {a0 a1 : Int} {m0 : zu_m} (hIm0 : zi_I m0) (hc0 : zcls a0 = 15) (ha1 : 0 ≤ a1 ∧ a1 ≤ 15)    : zw (zu_call (zt_T n) 133 [(40, a0), (0, a1)] m0) (fun v m => zi_I m ∧ zfr [(15, 54), (83, 0), (84, 0)] m0 m ∧ ((-2147483648) ≤ v ∧ v ≤ 2147483647)) := by
  have hFm0 : zfr [(15, 54), (83, 0), (84, 0)] m0 m0 := zfr_rf _ _
  refine zw_eq (zr_133_0 n a0 a1 m0) ?_
  have b1 : 0 ≤ a1 ∧ a1 < 36 := by omega
  refine zw_if b1 ?_
  have r2 : 0 ≤ (m0 199 a1) ∧ (m0 199 a1) ≤ 9 := zi_rd hIm0 zq_199 (zb_69 _)
  have b3 : 0 ≤ a1 ∧ a1 < 36 := by omega
  refine zw_if b3 ?_
  have r4 : 0 ≤ (m0 197 a1) ∧ (m0 197 a1) ≤ 47 := zi_rd hIm0 zq_197 (zb_67 _)
  have b5 : 0 ≤ a1 ∧ a1 < 36 := by omega
  refine zw_if b5 ?_
  have r6 : 0 ≤ (m0 198 a1) ∧ (m0 198 a1) ≤ 3 := zi_rd hIm0 zq_198 (zb_68 _)
  have b7 : 0 ≤ (0 : Int) ∧ (0 : Int) < 2 := by omega
  refine zw_if b7 ?_
  have r8 : (-2147483648) ≤ (m0 221 0) ∧ (m0 221 0) ≤ 2147483647 := zi_rd hIm0 zq_221 (zb_91 _)
  refine zw_bd (zw_mono (zk_38 n hIm0 hc0 ⟨by omega, by omega⟩ ⟨by omega, by omega⟩ ⟨by omega, by omega⟩ ⟨by omega, by omega⟩ ⟨by omega, by omega⟩ ⟨by omega, by omega⟩) (fun v10 m9 hqm9 => ?_))
  obtain ⟨hIm9, hfm9, hvm9⟩ := hqm9
  have hFm9 := zfr_tr hFm0 hfm9 rfl
  refine zw_bd (zw_mono (zk_39 n hIm9 hc0 ⟨by omega, by omega⟩ ⟨by omega, by omega⟩ ⟨by omega, by omega⟩) (fun v12 m11 hqm11 => ?_))
  obtain ⟨hIm11, hfm11, hvm11⟩ := hqm11
  have hFm11 := zfr_tr hFm9 hfm11 rfl
  exact zw_some ⟨hIm11, hFm11, ⟨by omega, by omega⟩⟩
set_option maxHeartbeats 4000000 in
theorem zl_214 (n : Nat) {a0 a1 a2 : Int} {m0 : zu_m} (hc0 : zcls a0 = 11)  : ∀ k : Nat, (∀ (x3 : Int) (mh : zu_m), zi_I mh → zfr [(7, 4), (8, 2), (8, 6), (8, 7), (8, 8), (11, 9), (11, 10), (24, 0), (27, 0), (38, 0), (39, 0)] m0 mh → (0 ≤ a1 ∧ a1 ≤ 200) → (0 ≤ a2 ∧ a2 ≤ 1) → (0 ≤ x3 ∧ x3 ≤ 200) → (200 - x3) * 11 + 10 < (k : Int) → zw (zu_ex (zt_T n) 214 2 [(27, a0), (0, a1), (0, a2), (0, x3), (2, 0)] [] mh) (fun v m => zi_I m ∧ zfr [(7, 4), (8, 2), (8, 6), (8, 7), (8, 8), (11, 9), (11, 10), (24, 0), (27, 0), (38, 0), (39, 0)] m0 m ∧ True)) ∧ (∀ (x3 x4 : Int) (mh : zu_m), zi_I mh → zfr [(7, 4), (8, 2), (8, 6), (8, 7), (8, 8), (11, 9), (11, 10), (24, 0), (27, 0), (38, 0), (39, 0)] m0 mh → (1 ≤ a1 ∧ a1 ≤ 200) → (0 ≤ a2 ∧ a2 ≤ 1) → (0 ≤ x3 ∧ x3 ≤ 199) → (0 ≤ x4 ∧ x4 ≤ 4) → (4 - x4) * 1 + (200 - x3) * 11 + 5 < (k : Int) → zw (zu_ex (zt_T n) 214 10 [(27, a0), (0, a1), (0, a2), (0, x3), (0, x4)] [] mh) (fun v m => zi_I m ∧ zfr [(7, 4), (8, 2), (8, 6), (8, 7), (8, 8), (11, 9), (11, 10), (24, 0), (27, 0), (38, 0), (39, 0)] m0 m ∧ True)) ∧ (∀ (x3 x4 : Int) (mh : zu_m), zi_I mh → zfr [(7, 4), (8, 2), (8, 6), (8, 7), (8, 8), (11, 9), (11, 10), (24, 0), (27, 0), (38, 0), (39, 0)] m0 mh → (1 ≤ a1 ∧ a1 ≤ 200) → (0 ≤ a2 ∧ a2 ≤ 1) → (0 ≤ x3 ∧ x3 ≤ 199) → (0 ≤ x4 ∧ x4 ≤ 4) → (4 - x4) * 1 + (200 - x3) * 11 + 0 < (k : Int) → zw (zu_ex (zt_T n) 214 52 [(27, a0), (0, a1), (0, a2), (0, x3), (0, x4)] [] mh) (fun v m => zi_I m ∧ zfr [(7, 4), (8, 2), (8, 6), (8, 7), (8, 8), (11, 9), (11, 10), (24, 0), (27, 0), (38, 0), (39, 0)] m0 m ∧ True)) := by
  intro k
  induction k with
  | zero => exact ⟨fun x3 mh hImh hFmh hba1 hba2 hbx3 hM => by exfalso; omega, fun x3 x4 mh hImh hFmh hba1 hba2 hbx3 hbx4 hM => by exfalso; omega, fun x3 x4 mh hImh hFmh hba1 hba2 hbx3 hbx4 hM => by exfalso; omega⟩
  | succ k ih =>
    refine ⟨?_, ?_, ?_⟩
    · intro x3 mh hImh hFmh hba1 hba2 hbx3 hM
      refine zw_eq (zr_214_2 n a0 a1 a2 x3 mh) ?_
      refine zw_ite (fun h1 => ?_) (fun h1 => ?_)
      · exact zw_some ⟨hImh, hFmh, trivial⟩
      · have hM : (4 - 0) * 1 + (200 - x3) * 11 + 5 < (k : Int) := by omega
        exact ih.2.1 x3 0 mh hImh hFmh ⟨by omega, by omega⟩ ⟨by omega, by omega⟩ ⟨by omega, by omega⟩ ⟨by omega, by omega⟩ hM
    · intro x3 x4 mh hImh hFmh hba1 hba2 hbx3 hbx4 hM
      refine zw_eq (zr_214_10 n a0 a1 a2 x3 x4 mh) ?_
      have r2 : 0 ≤ (mh a0 4) ∧ (mh a0 4) ≤ 4 := zi_rd hImh hc0 zb_11_4
      refine zw_ite (fun h3 => ?_) (fun h3 => ?_)
      · have hM : (4 - 0) * 1 + (200 - x3) * 11 + 0 < (k : Int) := by omega
        exact ih.2.2 x3 0 mh hImh hFmh ⟨by omega, by omega⟩ ⟨by omega, by omega⟩ ⟨by omega, by omega⟩ ⟨by omega, by omega⟩ hM
      · have b4 : 0 ≤ x4 ∧ x4 < 4 := by omega
        refine zw_if b4 ?_
        have r5 : (-2147483648) ≤ (mh ((a0 + 2) + 20 + x4) 4) ∧ (mh ((a0 + 2) + 20 + x4) 4) ≤ 2147483647 := zi_rd hImh (zc_37_e (zc_11_3 hc0) b4) zb_8_4
        have r6 : (-2147483648) ≤ (mh a0 8) ∧ (mh a0 8) ≤ 2147483647 := zi_rd hImh hc0 zb_11_8
        refine zw_ite (fun h7 => ?_) (fun h7 => ?_)
        · have w8 := zu_w32_id (z := x4 + 1) (by omega) (by omega)
          have hM : (4 - (zu_w32 (x4 + 1))) * 1 + (200 - x3) * 11 + 5 < (k : Int) := by omega
          exact ih.2.1 x3 (zu_w32 (x4 + 1)) mh hImh hFmh ⟨by omega, by omega⟩ ⟨by omega, by omega⟩ ⟨by omega, by omega⟩ ⟨by omega, by omega⟩ hM
        · refine zw_bd (zw_mono (zk_216 n hImh hc0 ⟨by omega, by omega⟩ ⟨by omega, by omega⟩) (fun v10 m9 hqm9 => ?_))
          obtain ⟨hIm9, hfm9, hvm9⟩ := hqm9
          have hFm9 := zfr_tr hFmh hfm9 rfl
          have w11 := zu_w32_id (z := x4 + 1) (by omega) (by omega)
          have hM : (4 - (zu_w32 (x4 + 1))) * 1 + (200 - x3) * 11 + 5 < (k : Int) := by omega
          exact ih.2.1 x3 (zu_w32 (x4 + 1)) m9 hIm9 hFm9 ⟨by omega, by omega⟩ ⟨by omega, by omega⟩ ⟨by omega, by omega⟩ ⟨by omega, by omega⟩ hM
    · intro x3 x4 mh hImh hFmh hba1 hba2 hbx3 hbx4 hM
      refine zw_eq (zr_214_52 n a0 a1 a2 x3 x4 mh) ?_
      have r12 : 0 ≤ (mh a0 4) ∧ (mh a0 4) ≤ 4 := zi_rd hImh hc0 zb_11_4
      refine zw_ite (fun h13 => ?_) (fun h13 => ?_)
      · refine zw_ite (fun h14 => ?_) (fun h14 => ?_)
        · have r15 : (-2147483648) ≤ (mh a0 8) ∧ (mh a0 8) ≤ 2147483647 := zi_rd hImh hc0 zb_11_8
          have r16 : (-2147483648) ≤ (mh a0 11) ∧ (mh a0 11) ≤ 2147483647 := zi_rd hImh hc0 zb_11_11
          refine zw_ite (fun h17 => ?_) (fun h17 => ?_)
          · have w18 := zu_w32_rg ((mh a0 8) + 1)
            generalize hmm19 : zu_up mh a0 8 (zu_w32 ((mh a0 8) + 1)) = m19
            have hIm19 := zi_up hmm19 hImh hc0 zb_11_8 (by omega) (by omega)
            have hFm19 := zfr_up hmm19 hFmh hc0 rfl
            have w20 := zu_w32_id (z := x3 + 1) (by omega) (by omega)
            have hM : (200 - (zu_w32 (x3 + 1))) * 11 + 10 < (k : Int) := by omega
            exact zw_le (zu_forget (zu_lr_same (zu_lr_same (zu_lr_same (zu_lr_same (zu_lr_drop zu_lr_nil)))))) (ih.1 (zu_w32 (x3 + 1)) m19 hIm19 hFm19 ⟨by omega, by omega⟩ ⟨by omega, by omega⟩ ⟨by omega, by omega⟩ hM)
          · refine zw_bd (zw_mono (zk_222 n hImh hc0) (fun v22 m21 hqm21 => ?_))
            obtain ⟨hIm21, hfm21, hvm21⟩ := hqm21
            have hFm21 := zfr_tr hFmh hfm21 rfl
            have r23 : (-2147483648) ≤ (m21 a0 8) ∧ (m21 a0 8) ≤ 2147483647 := zi_rd hIm21 hc0 zb_11_8
            have e24 : (m21 a0 8) = (mh a0 8) := (zfr_ap hfm21 hc0 rfl)
            have w25 := zu_w32_rg ((m21 a0 8) + 1)
            generalize hmm26 : zu_up m21 a0 8 (zu_w32 ((m21 a0 8) + 1)) = m26
            have hIm26 := zi_up hmm26 hIm21 hc0 zb_11_8 (by omega) (by omega)
            have hFm26 := zfr_up hmm26 hFm21 hc0 rfl
            have w27 := zu_w32_id (z := x3 + 1) (by omega) (by omega)
            have hM : (200 - (zu_w32 (x3 + 1))) * 11 + 10 < (k : Int) := by omega
            exact zw_le (zu_forget (zu_lr_same (zu_lr_same (zu_lr_same (zu_lr_same (zu_lr_drop zu_lr_nil)))))) (ih.1 (zu_w32 (x3 + 1)) m26 hIm26 hFm26 ⟨by omega, by omega⟩ ⟨by omega, by omega⟩ ⟨by omega, by omega⟩ hM)
        · refine zw_bd (zw_mono (zk_221 n hImh hc0) (fun v29 m28 hqm28 => ?_))
          obtain ⟨hIm28, hfm28, hvm28⟩ := hqm28
          have hFm28 := zfr_tr hFmh hfm28 rfl
          have r30 : (-2147483648) ≤ (m28 a0 8) ∧ (m28 a0 8) ≤ 2147483647 := zi_rd hIm28 hc0 zb_11_8
          have r31 : (-2147483648) ≤ (m28 a0 11) ∧ (m28 a0 11) ≤ 2147483647 := zi_rd hIm28 hc0 zb_11_11
          refine zw_ite (fun h32 => ?_) (fun h32 => ?_)
          · have w33 := zu_w32_rg ((m28 a0 8) + 1)
            generalize hmm34 : zu_up m28 a0 8 (zu_w32 ((m28 a0 8) + 1)) = m34
            have hIm34 := zi_up hmm34 hIm28 hc0 zb_11_8 (by omega) (by omega)
            have hFm34 := zfr_up hmm34 hFm28 hc0 rfl
            have w35 := zu_w32_id (z := x3 + 1) (by omega) (by omega)
            have hM : (200 - (zu_w32 (x3 + 1))) * 11 + 10 < (k : Int) := by omega
            exact zw_le (zu_forget (zu_lr_same (zu_lr_same (zu_lr_same (zu_lr_same (zu_lr_drop zu_lr_nil)))))) (ih.1 (zu_w32 (x3 + 1)) m34 hIm34 hFm34 ⟨by omega, by omega⟩ ⟨by omega, by omega⟩ ⟨by omega, by omega⟩ hM)
          · refine zw_bd (zw_mono (zk_222 n hIm28 hc0) (fun v37 m36 hqm36 => ?_))
            obtain ⟨hIm36, hfm36, hvm36⟩ := hqm36
            have hFm36 := zfr_tr hFm28 hfm36 rfl
            have r38 : (-2147483648) ≤ (m36 a0 8) ∧ (m36 a0 8) ≤ 2147483647 := zi_rd hIm36 hc0 zb_11_8
            have e39 : (m36 a0 8) = (m28 a0 8) := (zfr_ap hfm36 hc0 rfl)
            have w40 := zu_w32_rg ((m36 a0 8) + 1)
            generalize hmm41 : zu_up m36 a0 8 (zu_w32 ((m36 a0 8) + 1)) = m41
            have hIm41 := zi_up hmm41 hIm36 hc0 zb_11_8 (by omega) (by omega)
            have hFm41 := zfr_up hmm41 hFm36 hc0 rfl
            have w42 := zu_w32_id (z := x3 + 1) (by omega) (by omega)
            have hM : (200 - (zu_w32 (x3 + 1))) * 11 + 10 < (k : Int) := by omega
            exact zw_le (zu_forget (zu_lr_same (zu_lr_same (zu_lr_same (zu_lr_same (zu_lr_drop zu_lr_nil)))))) (ih.1 (zu_w32 (x3 + 1)) m41 hIm41 hFm41 ⟨by omega, by omega⟩ ⟨by omega, by omega⟩ ⟨by omega, by omega⟩ hM)
      · have b43 : 0 ≤ x4 ∧ x4 < 4 := by omega
        refine zw_if b43 ?_
        have r44 : (-2147483648) ≤ (mh ((a0 + 2) + 20 + x4) 4) ∧ (mh ((a0 + 2) + 20 + x4) 4) ≤ 2147483647 := zi_rd hImh (zc_37_e (zc_11_3 hc0) b43) zb_8_4
        have r45 : (-2147483648) ≤ (mh a0 8) ∧ (mh a0 8) ≤ 2147483647 := zi_rd hImh hc0 zb_11_8
        refine zw_ite (fun h46 => ?_) (fun h46 => ?_)
        · have w47 := zu_w32_id (z := x4 + 1) (by omega) (by omega)
          have hM : (4 - (zu_w32 (x4 + 1))) * 1 + (200 - x3) * 11 + 0 < (k : Int) := by omega
          exact ih.2.2 x3 (zu_w32 (x4 + 1)) mh hImh hFmh ⟨by omega, by omega⟩ ⟨by omega, by omega⟩ ⟨by omega, by omega⟩ ⟨by omega, by omega⟩ hM
        · refine zw_bd (zw_mono (zk_219 n hImh hc0 ⟨by omega, by omega⟩) (fun v49 m48 hqm48 => ?_))
          obtain ⟨hIm48, hfm48, hvm48⟩ := hqm48
          have hFm48 := zfr_tr hFmh hfm48 rfl
          have w50 := zu_w32_id (z := x4 + 1) (by omega) (by omega)
          have hM : (4 - (zu_w32 (x4 + 1))) * 1 + (200 - x3) * 11 + 0 < (k : Int) := by omega
          exact ih.2.2 x3 (zu_w32 (x4 + 1)) m48 hIm48 hFm48 ⟨by omega, by omega⟩ ⟨by omega, by omega⟩ ⟨by omega, by omega⟩ ⟨by omega, by omega⟩ hM
set_option maxHeartbeats 4000000 in
theorem zk_214 (n : Nat) {a0 a1 a2 : Int} {m0 : zu_m} (hIm0 : zi_I m0) (hc0 : zcls a0 = 11) (ha1 : 0 ≤ a1 ∧ a1 ≤ 200) (ha2 : 0 ≤ a2 ∧ a2 ≤ 1)    : zw (zu_call (zt_T n) 214 [(27, a0), (0, a1), (0, a2)] m0) (fun v m => zi_I m ∧ zfr [(7, 4), (8, 2), (8, 6), (8, 7), (8, 8), (11, 9), (11, 10), (24, 0), (27, 0), (38, 0), (39, 0)] m0 m ∧ True) := by
  have hFm0 : zfr [(7, 4), (8, 2), (8, 6), (8, 7), (8, 8), (11, 9), (11, 10), (24, 0), (27, 0), (38, 0), (39, 0)] m0 m0 := zfr_rf _ _
  refine zw_eq (zr_214_0 n a0 a1 a2 m0) ?_
  have hM : (200 - 0) * 11 + 10 < ((2211 : Nat) : Int) := by omega
  exact (zl_214 n (m0 := m0) hc0 2211).1 0 m0 hIm0 hFm0 ⟨by omega, by omega⟩ ⟨by omega, by omega⟩ ⟨by omega, by omega⟩ hM
set_option maxHeartbeats 4000000 in
theorem zl_237 (n : Nat) {a0 a1 : Int} {m0 : zu_m} (hc0 : zcls a0 = 11)  : ∀ k : Nat, (∀ (x2 x3 : Int) (mh : zu_m), zi_I mh → zfr [(24, 0), (27, 0)] m0 mh → (0 ≤ a1 ∧ a1 ≤ 3) → ((-2147483648) ≤ x2 ∧ x2 ≤ 2147483647) → (0 ≤ x3 ∧ x3 ≤ 16) → (16 - x3) * 1 + 0 < (k : Int) → zw (zu_ex (zt_T n) 237 4 [(27, a0), (0, a1), (0, x2), (0, x3)] [] mh) (fun v m => zi_I m ∧ zfr [(24, 0), (27, 0)] m0 m ∧ ((-2147483648) ≤ v ∧ v ≤ 2147483647))) := by
  intro k
  induction k with
  | zero => exact fun x2 x3 mh hImh hFmh hba1 hbx2 hbx3 hM => by exfalso; omega
  | succ k ih =>
    intro x2 x3 mh hImh hFmh hba1 hbx2 hbx3 hM
    refine zw_eq (zr_237_4 n a0 a1 x2 x3 mh) ?_
    have r1 : 0 ≤ (mh a0 2) ∧ (mh a0 2) ≤ 16 := zi_rd hImh hc0 zb_11_2
    refine zw_ite (fun h2 => ?_) (fun h2 => ?_)
    · exact zw_some ⟨hImh, hFmh, ⟨by omega, by omega⟩⟩
    · have b3 : 0 ≤ x3 ∧ x3 < 16 := by omega
      refine zw_if b3 ?_
      have r4 : (-3) ≤ (mh ((a0 + 1) + 5 + x3) 3) ∧ (mh ((a0 + 1) + 5 + x3) 3) ≤ 3 := zi_rd hImh (zc_36_e (zc_11_1 hc0) b3) zb_7_3
      refine zw_ite (fun h5 => ?_) (fun h5 => ?_)
      · have w6 := zu_w32_id (z := x3 + 1) (by omega) (by omega)
        have hM : (16 - (zu_w32 (x3 + 1))) * 1 + 0 < (k : Int) := by omega
        exact ih x2 (zu_w32 (x3 + 1)) mh hImh hFmh ⟨by omega, by omega⟩ ⟨by omega, by omega⟩ ⟨by omega, by omega⟩ hM
      · refine zw_bd (zw_mono (zk_226 n hImh hc0 ⟨by omega, by omega⟩ ⟨by omega, by omega⟩) (fun v8 m7 hqm7 => ?_))
        obtain ⟨hIm7, hfm7, hvm7⟩ := hqm7
        have hFm7 := zfr_tr hFmh hfm7 rfl
        have w9 := zu_w32_rg (x2 + v8)
        have w10 := zu_w32_id (z := x3 + 1) (by omega) (by omega)
        have hM : (16 - (zu_w32 (x3 + 1))) * 1 + 0 < (k : Int) := by omega
        exact ih (zu_w32 (x2 + v8)) (zu_w32 (x3 + 1)) m7 hIm7 hFm7 ⟨by omega, by omega⟩ ⟨by omega, by omega⟩ ⟨by omega, by omega⟩ hM
set_option maxHeartbeats 4000000 in
theorem zk_237 (n : Nat) {a0 a1 : Int} {m0 : zu_m} (hIm0 : zi_I m0) (hc0 : zcls a0 = 11) (ha1 : 0 ≤ a1 ∧ a1 ≤ 3)    : zw (zu_call (zt_T n) 237 [(27, a0), (0, a1)] m0) (fun v m => zi_I m ∧ zfr [(24, 0), (27, 0)] m0 m ∧ ((-2147483648) ≤ v ∧ v ≤ 2147483647)) := by
  have hFm0 : zfr [(24, 0), (27, 0)] m0 m0 := zfr_rf _ _
  refine zw_eq (zr_237_0 n a0 a1 m0) ?_
  have hM : (16 - 0) * 1 + 0 < ((17 : Nat) : Int) := by omega
  exact (zl_237 n (m0 := m0) hc0 17) 0 0 m0 hIm0 hFm0 ⟨by omega, by omega⟩ ⟨by omega, by omega⟩ ⟨by omega, by omega⟩ hM
set_option maxHeartbeats 4000000 in
theorem zl_242 (n : Nat) {a0 a1 a2 : Int} {m0 : zu_m} (hc0 : zcls a0 = 11)  : ∀ k : Nat, (∀ (x3 : Int) (mh : zu_m), zi_I mh → zfr [(24, 0), (27, 0)] m0 mh → (0 ≤ a1 ∧ a1 ≤ 3) → (1 ≤ a2 ∧ a2 ≤ 3) → (0 ≤ x3 ∧ x3 ≤ 16) → (16 - x3) * 18 + 17 < (k : Int) → zw (zu_ex (zt_T n) 242 2 [(27, a0), (0, a1), (0, a2), (0, x3), (2, 0)] [] mh) (fun v m => zi_I m ∧ zfr [(24, 0), (27, 0)] m0 m ∧ ((-1) ≤ v ∧ v ≤ 255))) ∧ (∀ (x3 x4 : Int) (mh : zu_m), zi_I mh → zfr [(24, 0), (27, 0)] m0 mh → (0 ≤ a1 ∧ a1 ≤ 3) → (1 ≤ a2 ∧ a2 ≤ 3) → (0 ≤ x3 ∧ x3 ≤ 15) → (0 ≤ x4 ∧ x4 ≤ 16) → (1 ≤ mh a0 2 ∧ mh a0 2 ≤ 16) → (16 - x4) * 1 + (16 - x3) * 18 + 0 < (k : Int) → zw (zu_ex (zt_T n) 242 13 [(27, a0), (0, a1), (0, a2), (0, x3), (0, x4)] [] mh) (fun v m => zi_I m ∧ zfr [(24, 0), (27, 0)] m0 m ∧ ((-1) ≤ v ∧ v ≤ 255))) := by
  intro k
  induction k with
  | zero => exact ⟨fun x3 mh hImh hFmh hba1 hba2 hbx3 hM => by exfalso; omega, fun x3 x4 mh hImh hFmh hba1 hba2 hbx3 hbx4 hg4 hM => by exfalso; omega⟩
  | succ k ih =>
    refine ⟨?_, ?_⟩
    · intro x3 mh hImh hFmh hba1 hba2 hbx3 hM
      refine zw_eq (zr_242_2 n a0 a1 a2 x3 mh) ?_
      have r1 : 0 ≤ (mh a0 2) ∧ (mh a0 2) ≤ 16 := zi_rd hImh hc0 zb_11_2
      refine zw_ite (fun h2 => ?_) (fun h2 => ?_)
      · exact zw_some ⟨hImh, hFmh, ⟨by omega, by omega⟩⟩
      · have hM : (16 - 0) * 1 + (16 - x3) * 18 + 0 < (k : Int) := by omega
        exact ih.2 x3 0 mh hImh hFmh ⟨by omega, by omega⟩ ⟨by omega, by omega⟩ ⟨by omega, by omega⟩ ⟨by omega, by omega⟩ ⟨by omega, by omega⟩ hM
    · intro x3 x4 mh hImh hFmh hba1 hba2 hbx3 hbx4 hg4 hM
      refine zw_eq (zr_242_13 n a0 a1 a2 x3 x4 mh) ?_
      refine zw_ite (fun h3 => ?_) (fun h3 => ?_)
      · have w4 := zu_w32_id (z := x3 + 1) (by omega) (by omega)
        have hM : (16 - (zu_w32 (x3 + 1))) * 18 + 17 < (k : Int) := by omega
        exact zw_le (zu_forget (zu_lr_same (zu_lr_same (zu_lr_same (zu_lr_same (zu_lr_drop zu_lr_nil)))))) (ih.1 (zu_w32 (x3 + 1)) mh hImh hFmh ⟨by omega, by omega⟩ ⟨by omega, by omega⟩ ⟨by omega, by omega⟩ hM)
      · have b5 : 0 ≤ x3 ∧ x3 < 16 := by omega
        refine zw_if b5 ?_
        have r6 : (-3) ≤ (mh ((a0 + 1) + 5 + x3) 3) ∧ (mh ((a0 + 1) + 5 + x3) 3) ≤ 3 := zi_rd hImh (zc_36_e (zc_11_1 hc0) b5) zb_7_3
        refine zw_ite (fun h7 => ?_) (fun h7 => ?_)
        · have w8 := zu_w32_id (z := x3 + 1) (by omega) (by omega)
          have hM : (16 - (zu_w32 (x3 + 1))) * 18 + 17 < (k : Int) := by omega
          exact zw_le (zu_forget (zu_lr_same (zu_lr_same (zu_lr_same (zu_lr_same (zu_lr_drop zu_lr_nil)))))) (ih.1 (zu_w32 (x3 + 1)) mh hImh hFmh ⟨by omega, by omega⟩ ⟨by omega, by omega⟩ ⟨by omega, by omega⟩ hM)
        · have b9 : 0 ≤ x4 ∧ x4 < 16 := by omega
          refine zw_if b9 ?_
          have r10 : (-3) ≤ (mh ((a0 + 1) + 5 + x4) 3) ∧ (mh ((a0 + 1) + 5 + x4) 3) ≤ 3 := zi_rd hImh (zc_36_e (zc_11_1 hc0) b9) zb_7_3
          refine zw_ite (fun h11 => ?_) (fun h11 => ?_)
          · have w12 := zu_w32_id (z := x4 + 1) (by omega) (by omega)
            have hM : (16 - (zu_w32 (x4 + 1))) * 1 + (16 - x3) * 18 + 0 < (k : Int) := by omega
            exact ih.2 x3 (zu_w32 (x4 + 1)) mh hImh hFmh ⟨by omega, by omega⟩ ⟨by omega, by omega⟩ ⟨by omega, by omega⟩ ⟨by omega, by omega⟩ ⟨by omega, by omega⟩ hM
          · refine zw_bd (zw_mono (zk_226 n hImh hc0 ⟨by omega, by omega⟩ ⟨by omega, by omega⟩) (fun v14 m13 hqm13 => ?_))
            obtain ⟨hIm13, hfm13, hvm13⟩ := hqm13
            have hFm13 := zfr_tr hFmh hfm13 rfl
            refine zw_bd (zw_mono (zk_226 n hIm13 hc0 ⟨by omega, by omega⟩ ⟨by omega, by omega⟩) (fun v16 m15 hqm15 => ?_))
            obtain ⟨hIm15, hfm15, hvm15⟩ := hqm15
            have hFm15 := zfr_tr hFm13 hfm15 rfl
            refine zw_ite (fun h17 => ?_) (fun h17 => ?_)
            · have w18 := zu_w32_id (z := x4 + 1) (by omega) (by omega)
              have r19 : 0 ≤ (m15 a0 2) ∧ (m15 a0 2) ≤ 16 := zi_rd hIm15 hc0 zb_11_2
              have e20 : (m15 a0 2) = (mh a0 2) := (Eq.trans (zfr_ap hfm15 hc0 rfl) (zfr_ap hfm13 hc0 rfl))
              have hM : (16 - (zu_w32 (x4 + 1))) * 1 + (16 - x3) * 18 + 0 < (k : Int) := by omega
              exact ih.2 x3 (zu_w32 (x4 + 1)) m15 hIm15 hFm15 ⟨by omega, by omega⟩ ⟨by omega, by omega⟩ ⟨by omega, by omega⟩ ⟨by omega, by omega⟩ ⟨by omega, by omega⟩ hM
            · refine zw_bd (zw_mono (zk_226 n hIm15 hc0 ⟨by omega, by omega⟩ ⟨by omega, by omega⟩) (fun v22 m21 hqm21 => ?_))
              obtain ⟨hIm21, hfm21, hvm21⟩ := hqm21
              have hFm21 := zfr_tr hFm15 hfm21 rfl
              refine zw_bd (zw_mono (zk_226 n hIm21 hc0 ⟨by omega, by omega⟩ ⟨by omega, by omega⟩) (fun v24 m23 hqm23 => ?_))
              obtain ⟨hIm23, hfm23, hvm23⟩ := hqm23
              have hFm23 := zfr_tr hFm21 hfm23 rfl
              refine zw_ite (fun h25 => ?_) (fun h25 => ?_)
              · have w26 := zu_w32_id (z := x4 + 1) (by omega) (by omega)
                have r27 : 0 ≤ (m23 a0 2) ∧ (m23 a0 2) ≤ 16 := zi_rd hIm23 hc0 zb_11_2
                have e28 : (m23 a0 2) = (mh a0 2) := (Eq.trans (zfr_ap hfm23 hc0 rfl) (Eq.trans (zfr_ap hfm21 hc0 rfl) (Eq.trans (zfr_ap hfm15 hc0 rfl) (zfr_ap hfm13 hc0 rfl))))
                have hM : (16 - (zu_w32 (x4 + 1))) * 1 + (16 - x3) * 18 + 0 < (k : Int) := by omega
                exact ih.2 x3 (zu_w32 (x4 + 1)) m23 hIm23 hFm23 ⟨by omega, by omega⟩ ⟨by omega, by omega⟩ ⟨by omega, by omega⟩ ⟨by omega, by omega⟩ ⟨by omega, by omega⟩ hM
              · have w29 := zu_w32_id (z := x3 * 16) (by omega) (by omega)
                have w30 := zu_w32_id (z := (zu_w32 (x3 * 16)) + x4) (by omega) (by omega)
                exact zw_some ⟨hIm23, hFm23, ⟨by omega, by omega⟩⟩
set_option maxHeartbeats 4000000 in
theorem zk_242 (n : Nat) {a0 a1 a2 : Int} {m0 : zu_m} (hIm0 : zi_I m0) (hc0 : zcls a0 = 11) (ha1 : 0 ≤ a1 ∧ a1 ≤ 3) (ha2 : 1 ≤ a2 ∧ a2 ≤ 3)    : zw (zu_call (zt_T n) 242 [(27, a0), (0, a1), (0, a2)] m0) (fun v m => zi_I m ∧ zfr [(24, 0), (27, 0)] m0 m ∧ ((-1) ≤ v ∧ v ≤ 255)) := by
  have hFm0 : zfr [(24, 0), (27, 0)] m0 m0 := zfr_rf _ _
  refine zw_eq (zr_242_0 n a0 a1 a2 m0) ?_
  have hM : (16 - 0) * 18 + 17 < ((306 : Nat) : Int) := by omega
  exact (zl_242 n (m0 := m0) hc0 306).1 0 m0 hIm0 hFm0 ⟨by omega, by omega⟩ ⟨by omega, by omega⟩ ⟨by omega, by omega⟩ hM
set_option maxHeartbeats 4000000 in
theorem zl_243 (n : Nat) {a0 a1 : Int} {m0 : zu_m} (hc0 : zcls a0 = 11)  : ∀ k : Nat, (∀ (x2 : Int) (mh : zu_m), zi_I mh → zfr [(24, 0), (27, 0), (40, 0)] m0 mh → (0 ≤ a1 ∧ a1 ≤ 15) → (0 ≤ x2 ∧ x2 ≤ 4) → (1 ≤ mh a0 2 ∧ mh a0 2 ≤ 16) → (4 - x2) * 1 + 85 < (k : Int) → zw (zu_ex (zt_T n) 243 2 [(27, a0), (0, a1), (0, x2), (2, 0), (2, 0)] [] mh) (fun v m => zi_I m ∧ zfr [(24, 0), (27, 0), (40, 0)] m0 m ∧ ((-8) ≤ v ∧ v ≤ 3))) ∧ (∀ (x2 : Int) (mh : zu_m), zi_I mh → zfr [(24, 0), (27, 0), (40, 0)] m0 mh → (0 ≤ a1 ∧ a1 ≤ 15) → (0 ≤ x2 ∧ x2 ≤ 16) → (1 ≤ mh a0 2 ∧ mh a0 2 ≤ 16) → (16 - x2) * 5 + 4 < (k : Int) → zw (zu_ex (zt_T n) 243 22 [(27, a0), (0, a1), (0, x2), (2, 0), (2, 0)] [] mh) (fun v m => zi_I m ∧ zfr [(24, 0), (27, 0), (40, 0)] m0 m ∧ ((-8) ≤ v ∧ v ≤ 3))) ∧ (∀ (x2 x3 x4 : Int) (mh : zu_m), zi_I mh → zfr [(24, 0), (27, 0), (40, 0)] m0 mh → (0 ≤ a1 ∧ a1 ≤ 15) → (0 ≤ x2 ∧ x2 ≤ 15) → (0 ≤ x3 ∧ x3 ≤ 3) → (1 ≤ x4 ∧ x4 ≤ 4) → (1 ≤ mh a0 2 ∧ mh a0 2 ≤ 16) → (4 - x4) * 1 + (16 - x2) * 5 + 0 < (k : Int) → zw (zu_ex (zt_T n) 243 47 [(27, a0), (0, a1), (0, x2), (0, x3), (0, x4)] [] mh) (fun v m => zi_I m ∧ zfr [(24, 0), (27, 0), (40, 0)] m0 m ∧ ((-8) ≤ v ∧ v ≤ 3))) := by
  intro k
  induction k with
  | zero => exact ⟨fun x2 mh hImh hFmh hba1 hbx2 hg2 hM => by exfalso; omega, fun x2 mh hImh hFmh hba1 hbx2 hg2 hM => by exfalso; omega, fun x2 x3 x4 mh hImh hFmh hba1 hbx2 hbx3 hbx4 hg4 hM => by exfalso; omega⟩
  | succ k ih =>
    refine ⟨?_, ?_, ?_⟩
    · intro x2 mh hImh hFmh hba1 hbx2 hg2 hM
      refine zw_eq (zr_243_2 n a0 a1 x2 mh) ?_
      refine zw_ite (fun h1 => ?_) (fun h1 => ?_)
      · have hM : (16 - 0) * 5 + 4 < (k : Int) := by omega
        exact ih.2.1 0 mh hImh hFmh ⟨by omega, by omega⟩ ⟨by omega, by omega⟩ ⟨by omega, by omega⟩ hM
      · have b2 : 0 ≤ x2 ∧ x2 < 4 := by omega
        refine zw_if b2 ?_
        generalize hmm3 : zu_up mh (a0 + 5) x2 0 = m3
        have hIm3 := zi_up hmm3 hImh (zc_11_7 hc0) (zb_40 _) (by omega) (by omega)
        have hFm3 := zfr_up hmm3 hFmh (zc_11_7 hc0) rfl
        have w4 := zu_w32_id (z := x2 + 1) (by omega) (by omega)
        have r5 : 0 ≤ (m3 a0 2) ∧ (m3 a0 2) ≤ 16 := zi_rd hIm3 hc0 zb_11_2
        have e6 : (m3 a0 2) = (mh a0 2) := (zs_ne hmm3 (Or.inl (zc_ne hc0 (zc_11_7 hc0) (by decide))))
        have hM : (4 - (zu_w32 (x2 + 1))) * 1 + 85 < (k : Int) := by omega
        exact ih.1 (zu_w32 (x2 + 1)) m3 hIm3 hFm3 ⟨by omega, by omega⟩ ⟨by omega, by omega⟩ ⟨by omega, by omega⟩ hM
    · intro x2 mh hImh hFmh hba1 hbx2 hg2 hM
      refine zw_eq (zr_243_22 n a0 a1 x2 mh) ?_
      refine zw_ite (fun h7 => ?_) (fun h7 => ?_)
      · exact zw_some ⟨hImh, hFmh, ⟨by omega, by omega⟩⟩
      · have b8 : 0 ≤ x2 ∧ x2 < 16 := by omega
        refine zw_if b8 ?_
        have r9 : (-3) ≤ (mh ((a0 + 1) + 5 + x2) 3) ∧ (mh ((a0 + 1) + 5 + x2) 3) ≤ 3 := zi_rd hImh (zc_36_e (zc_11_1 hc0) b8) zb_7_3
        refine zw_ite (fun h10 => ?_) (fun h10 => ?_)
        · have w11 := zu_w32_id (z := x2 + 1) (by omega) (by omega)
          have hM : (16 - (zu_w32 (x2 + 1))) * 5 + 4 < (k : Int) := by omega
          exact ih.2.1 (zu_w32 (x2 + 1)) mh hImh hFmh ⟨by omega, by omega⟩ ⟨by omega, by omega⟩ ⟨by omega, by omega⟩ hM
        · have hM : (4 - 1) * 1 + (16 - x2) * 5 + 0 < (k : Int) := by omega
          exact ih.2.2 x2 0 1 mh hImh hFmh ⟨by omega, by omega⟩ ⟨by omega, by omega⟩ ⟨by omega, by omega⟩ ⟨by omega, by omega⟩ ⟨by omega, by omega⟩ hM
    · intro x2 x3 x4 mh hImh hFmh hba1 hbx2 hbx3 hbx4 hg4 hM
      refine zw_eq (zr_243_47 n a0 a1 x2 x3 x4 mh) ?_
      have r12 : 0 ≤ (mh a0 4) ∧ (mh a0 4) ≤ 4 := zi_rd hImh hc0 zb_11_4
      refine zw_ite (fun h13 => ?_) (fun h13 => ?_)
      · refine zw_ite (fun h14 => ?_) (fun h14 => ?_)
        · have b15 : 0 ≤ x3 ∧ x3 < 4 := by omega
          refine zw_if b15 ?_
          have r16 : (-2147483648) ≤ (mh (a0 + 5) x3) ∧ (mh (a0 + 5) x3) ≤ 2147483647 := zi_rd hImh (zc_11_7 hc0) (zb_40 _)
          refine zw_bd (zw_mono (zk_226 n hImh hc0 ⟨by omega, by omega⟩ ⟨by omega, by omega⟩) (fun v18 m17 hqm17 => ?_))
          obtain ⟨hIm17, hfm17, hvm17⟩ := hqm17
          have hFm17 := zfr_tr hFmh hfm17 rfl
          have w19 := zu_w32_rg ((mh (a0 + 5) x3) + v18)
          have b20 : 0 ≤ x3 ∧ x3 < 4 := by omega
          refine zw_if b20 ?_
          generalize hmm21 : zu_up m17 (a0 + 5) x3 (zu_w32 ((mh (a0 + 5) x3) + v18)) = m21
          have hIm21 := zi_up hmm21 hIm17 (zc_11_7 hc0) (zb_40 _) (by omega) (by omega)
          have hFm21 := zfr_up hmm21 hFm17 (zc_11_7 hc0) rfl
          have w22 := zu_w32_id (z := x2 + 1) (by omega) (by omega)
          have r23 : 0 ≤ (m21 a0 2) ∧ (m21 a0 2) ≤ 16 := zi_rd hIm21 hc0 zb_11_2
          have e24 : (m21 a0 2) = (mh a0 2) := (Eq.trans (zs_ne hmm21 (Or.inl (zc_ne hc0 (zc_11_7 hc0) (by decide)))) (zfr_ap hfm17 hc0 rfl))
          have hM : (16 - (zu_w32 (x2 + 1))) * 5 + 4 < (k : Int) := by omega
          exact zw_le (zu_forget (zu_lr_same (zu_lr_same (zu_lr_same (zu_lr_drop (zu_lr_drop zu_lr_nil)))))) (ih.2.1 (zu_w32 (x2 + 1)) m21 hIm21 hFm21 ⟨by omega, by omega⟩ ⟨by omega, by omega⟩ ⟨by omega, by omega⟩ hM)
        · exact zw_some ⟨hImh, hFmh, ⟨by omega, by omega⟩⟩
      · have b25 : 0 ≤ x4 ∧ x4 < 4 := by omega
        refine zw_if b25 ?_
        have r26 : (-2147483648) ≤ (mh (a0 + 5) x4) ∧ (mh (a0 + 5) x4) ≤ 2147483647 := zi_rd hImh (zc_11_7 hc0) (zb_40 _)
        have b27 : 0 ≤ x3 ∧ x3 < 4 := by omega
        refine zw_if b27 ?_
        have r28 : (-2147483648) ≤ (mh (a0 + 5) x3) ∧ (mh (a0 + 5) x3) ≤ 2147483647 := zi_rd hImh (zc_11_7 hc0) (zb_40 _)
        refine zw_ite (fun h29 => ?_) (fun h29 => ?_)
        · have w30 := zu_w32_id (z := x4 + 1) (by omega) (by omega)
          have hM : (4 - (zu_w32 (x4 + 1))) * 1 + (16 - x2) * 5 + 0 < (k : Int) := by omega
          exact ih.2.2 x2 x3 (zu_w32 (x4 + 1)) mh hImh hFmh ⟨by omega, by omega⟩ ⟨by omega, by omega⟩ ⟨by omega, by omega⟩ ⟨by omega, by omega⟩ ⟨by omega, by omega⟩ hM
        · have w31 := zu_w32_id (z := x4 + 1) (by omega) (by omega)
          have hM : (4 - (zu_w32 (x4 + 1))) * 1 + (16 - x2) * 5 + 0 < (k : Int) := by omega
          exact ih.2.2 x2 x4 (zu_w32 (x4 + 1)) mh hImh hFmh ⟨by omega, by omega⟩ ⟨by omega, by omega⟩ ⟨by omega, by omega⟩ ⟨by omega, by omega⟩ ⟨by omega, by omega⟩ hM
set_option maxHeartbeats 4000000 in
theorem zk_243 (n : Nat) {a0 a1 : Int} {m0 : zu_m} (hIm0 : zi_I m0) (hc0 : zcls a0 = 11) (ha1 : 0 ≤ a1 ∧ a1 ≤ 15)  (he0 : 1 ≤ m0 a0 2 ∧ m0 a0 2 ≤ 16)  : zw (zu_call (zt_T n) 243 [(27, a0), (0, a1)] m0) (fun v m => zi_I m ∧ zfr [(24, 0), (27, 0), (40, 0)] m0 m ∧ ((-8) ≤ v ∧ v ≤ 3)) := by
  have hFm0 : zfr [(24, 0), (27, 0), (40, 0)] m0 m0 := zfr_rf _ _
  refine zw_eq (zr_243_0 n a0 a1 m0) ?_
  have hM : (4 - 0) * 1 + 85 < ((90 : Nat) : Int) := by omega
  exact (zl_243 n (m0 := m0) hc0 90).1 0 m0 hIm0 hFm0 ⟨by omega, by omega⟩ ⟨by omega, by omega⟩ ⟨by omega, by omega⟩ hM

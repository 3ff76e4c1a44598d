set_option maxHeartbeats 4000000 in
theorem zk_267 (n : Nat) {a0 : Int} {m0 : zu_m} (hIm0 : zi_I m0) (hc0 : zcls a0 = 3)   (he0 : 1 ≤ m0 45 4 ∧ m0 45 4 ≤ 1) (he1 : 5 ≤ m0 45 5 ∧ m0 45 5 ≤ 5)   : zw (zu_call (zt_T n) 267 [(7, a0)] m0) (fun v m => zi_I m ∧ zfr [(3, 7), (3, 8), (3, 9), (3, 10), (3, 11), (6, 5), (8, 1), (8, 2), (8, 3), (8, 4), (8, 5), (8, 6), (8, 7), (9, 4), (9, 5), (9, 6), (9, 7)] m0 m ∧ (0 ≤ v ∧ v ≤ 1)) := by
  have hFm0 : zfr [(3, 7), (3, 8), (3, 9), (3, 10), (3, 11), (6, 5), (8, 1), (8, 2), (8, 3), (8, 4), (8, 5), (8, 6), (8, 7), (9, 4), (9, 5), (9, 6), (9, 7)] m0 m0 := zfr_rf _ _
  refine zw_eq (zu_call_at (zt_T n) (zm_267 n) (zdp_267 n) _ _ _ _ _ rfl (zr_267_0 n _ _ a0 m0)) ?_
  have r1 : 0 ≤ (m0 19 4) ∧ (m0 19 4) ≤ 4 := zi_rd hIm0 zq_19 zb_6_4
  refine zw_ite (fun h2 => ?_) (fun h2 => ?_)
  · refine zw_bd (zw_mono (zk_18 n hIm0 zq_45) (fun v4 m3 hqm3 => ?_))
    obtain ⟨hIm3, hfm3, hvm3⟩ := hqm3
    have hFm3 := zfr_tr hFm0 hfm3 rfl
    obtain ⟨hRTVm3, hvm3⟩ := hvm3
    have s5 := hRTVm3 45 zq_45
    have r6 : 0 ≤ (m3 45 4) ∧ (m3 45 4) ≤ 5 := zi_rd hIm3 zq_45 zb_9_4
    refine zw_ite (fun h7 => ?_) (fun h7 => ?_)
    · have r8 : (-2147483648) ≤ (m3 45 5) ∧ (m3 45 5) ≤ 2147483647 := zi_rd hIm3 zq_45 zb_9_5
      have r9 : 0 ≤ (m3 19 4) ∧ (m3 19 4) ≤ 4 := zi_rd hIm3 zq_19 zb_6_4
      have e10 : (m3 19 4) = (m0 19 4) := (zfr_ap hfm3 zq_19 rfl)
      refine zw_bd (zw_mono (zk_212_6 n hIm3 zq_19 ⟨by omega, by omega⟩ ⟨by omega, by omega⟩) (fun v12 m11 hqm11 => ?_))
      obtain ⟨hIm11, hfm11, hvm11⟩ := hqm11
      have hFm11 := zfr_tr hFm3 hfm11 rfl
      have hRTVm11 := zR_TV_fr (zdis_fr hfm11 rfl) hRTVm3
      have s13 := hRTVm11 45 zq_45
      refine zw_ite (fun h14 => ?_) (fun h14 => ?_)
      · have r15 : 0 ≤ (m11 19 4) ∧ (m11 19 4) ≤ 4 := zi_rd hIm11 zq_19 zb_6_4
        have e16 : (m11 19 4) = (m3 19 4) := (zfr_ap hfm11 zq_19 rfl)
        have b17 : 0 ≤ (m11 19 4) ∧ (m11 19 4) < 4 := by omega
        refine zw_if b17 ?_
        have r18 : (-2147483648) ≤ (m11 45 5) ∧ (m11 45 5) ≤ 2147483647 := zi_rd hIm11 zq_45 zb_9_5
        have e19 : (m11 45 5) = (m3 45 5) := (zfr_ap hfm11 zq_45 rfl)
        generalize hmm20 : zu_up m11 (21 + 20 + (m11 19 4)) 0 (m11 45 5) = m20
        have hIm20 := zi_up hmm20 hIm11 (zc_42_e zq_21 b17) zb_8_0 (by omega) (by omega)
        have hFm20 := zfr_up hmm20 hFm11 (zc_42_e zq_21 b17) rfl
        have hRTVm20 := zR_TV_fr (zdis_fr (zfr_up hmm20 (zfr_rf [(8, 1)] _) (zc_42_e zq_21 b17) rfl) rfl) hRTVm11
        generalize hmm21 : zu_up m20 (21 + 20 + (m11 19 4)) 5 0 = m21
        have hIm21 := zi_up hmm21 hIm20 (zc_42_e zq_21 b17) zb_8_5 (by omega) (by omega)
        have hFm21 := zfr_up hmm21 hFm20 (zc_42_e zq_21 b17) rfl
        have hRTVm21 := zR_TV_fr (zdis_fr (zfr_up hmm21 (zfr_rf [(8, 6)] _) (zc_42_e zq_21 b17) rfl) rfl) hRTVm20
        generalize hmm22 : zu_up m21 (21 + 20 + (m11 19 4)) 6 0 = m22
        have hIm22 := zi_up hmm22 hIm21 (zc_42_e zq_21 b17) zb_8_6 (by omega) (by omega)
        have hFm22 := zfr_up hmm22 hFm21 (zc_42_e zq_21 b17) rfl
        have hRTVm22 := zR_TV_fr (zdis_fr (zfr_up hmm22 (zfr_rf [(8, 7)] _) (zc_42_e zq_21 b17) rfl) rfl) hRTVm21
        refine zw_bd (zw_eq (zu_call_at (zt_T n) (zm_262 n) (zdp_262 n) _ _ _ _ _ rfl (zr_262_0 n _ _ a0 m22)) ?_)
        refine zw_b (by omega) ?_
        generalize hmm23 : zu_up m22 a0 6 1 = m23
        have hIm23 := zi_up hmm23 hIm22 hc0 zb_3_6 (by omega) (by omega)
        have hFm23 := zfr_up hmm23 hFm22 hc0 rfl
        have hRTVm23 := zR_TV_fr (zdis_fr (zfr_up hmm23 (zfr_rf [(3, 7)] _) hc0 rfl) rfl) hRTVm22
        have r24 : 1 ≤ (m23 6 0) ∧ (m23 6 0) ≤ 8 := zi_rd hIm23 zq_6 zb_4_0
        have w25 := zu_w32_id (z := (m23 6 0) - 1) (by omega) (by omega)
        refine zw_bd (zw_eq (zu_call_at (zt_T n) (zm_260 n) (zdp_260 n) _ _ _ _ _ rfl (zr_260_0 n _ _ a0 0 (zu_w32 ((m23 6 0) - 1)) m23)) ?_)
        refine zw_bd (zw_mono (zk_18 n hIm23 zq_45) (fun v27 m26 hqm26 => ?_))
        obtain ⟨hIm26, hfm26, hvm26⟩ := hqm26
        have hFm26 := zfr_tr hFm23 hfm26 rfl
        obtain ⟨hRTVm26, hvm26⟩ := hvm26
        have s28 := hRTVm26 45 zq_45
        have r29 : 0 ≤ (m26 45 4) ∧ (m26 45 4) ≤ 5 := zi_rd hIm26 zq_45 zb_9_4
        refine zw_ite (fun h30 => ?_) (fun h30 => ?_)
        · have r31 : (-2147483648) ≤ (m26 45 5) ∧ (m26 45 5) ≤ 2147483647 := zi_rd hIm26 zq_45 zb_9_5
          generalize hmm32 : zu_up m26 a0 7 (m26 45 5) = m32
          have hIm32 := zi_up hmm32 hIm26 hc0 zb_3_7 (by omega) (by omega)
          have hFm32 := zfr_up hmm32 hFm26 hc0 rfl
          have hRTVm32 := zR_TV_fr (zdis_fr (zfr_up hmm32 (zfr_rf [(3, 8)] _) hc0 rfl) rfl) hRTVm26
          have r33 : (-2147483648) ≤ (m32 a0 7) ∧ (m32 a0 7) ≤ 2147483647 := zi_rd hIm32 hc0 zb_3_7
          have e34 : (m32 a0 7) = (m26 45 5) := (zs_eq hmm32)
          refine zw_ite (fun h35 => ?_) (fun h35 => ?_)
          · refine zw_bd (zw_eq (zu_call_at (zt_T n) (zm_257 n) (zdp_257 n) _ _ _ _ _ rfl (zr_257_0 n _ _ a0 2 m32)) ?_)
            generalize hmm36 : zu_up m32 a0 9 2 = m36
            have hIm36 := zi_up hmm36 hIm32 hc0 zb_3_9 (by omega) (by omega)
            have hFm36 := zfr_up hmm36 hFm32 hc0 rfl
            have hRTVm36 := zR_TV_fr (zdis_fr (zfr_up hmm36 (zfr_rf [(3, 10)] _) hc0 rfl) rfl) hRTVm32
            have r37 : 0 ≤ (m36 45 6) ∧ (m36 45 6) ≤ 700 := zi_rd hIm36 zq_45 zb_9_6
            generalize hmm38 : zu_up m36 a0 10 (m36 45 6) = m38
            have hIm38 := zi_up hmm38 hIm36 hc0 zb_3_10 (by omega) (by omega)
            have hFm38 := zfr_up hmm38 hFm36 hc0 rfl
            have hRTVm38 := zR_TV_fr (zdis_fr (zfr_up hmm38 (zfr_rf [(3, 11)] _) hc0 rfl) rfl) hRTVm36
            refine zw_b (by omega) ?_
            refine zw_some ?_
            refine zw_ite (fun h39 => ?_) (fun h39 => ?_)
            · refine zw_b (by omega) ?_
              refine zw_some ?_
              refine zw_ite (fun h40 => ?_) (fun h40 => ?_)
              · exfalso; omega
              · refine zw_b (by omega) ?_
                refine zw_some ?_
                refine zw_ite (fun h41 => ?_) (fun h41 => ?_)
                · refine zw_b (by omega) ?_
                  exact zw_some ⟨hIm38, hFm38, ⟨by omega, by omega⟩⟩
                · exfalso; omega
            · exfalso; omega
          · refine zw_ite (fun h42 => ?_) (fun h42 => ?_)
            · refine zw_b (by omega) ?_
              refine zw_some ?_
              refine zw_ite (fun h43 => ?_) (fun h43 => ?_)
              · have r44 : 1 ≤ (m32 6 1) ∧ (m32 6 1) ≤ 6 := zi_rd hIm32 zq_6 zb_4_1
                have w45 := zu_w32_id (z := (m32 6 1) - 1) (by omega) (by omega)
                refine zw_bd (zw_eq (zu_call_at (zt_T n) (zm_260 n) (zdp_260 n) _ _ _ _ _ rfl (zr_260_0 n _ _ a0 0 (zu_w32 ((m32 6 1) - 1)) m32)) ?_)
                refine zw_bd (zw_mono (zk_18 n hIm32 zq_45) (fun v47 m46 hqm46 => ?_))
                obtain ⟨hIm46, hfm46, hvm46⟩ := hqm46
                have hFm46 := zfr_tr hFm32 hfm46 rfl
                obtain ⟨hRTVm46, hvm46⟩ := hvm46
                have s48 := hRTVm46 45 zq_45
                have r49 : 0 ≤ (m46 45 4) ∧ (m46 45 4) ≤ 5 := zi_rd hIm46 zq_45 zb_9_4
                refine zw_ite (fun h50 => ?_) (fun h50 => ?_)
                · have r51 : (-2147483648) ≤ (m46 45 5) ∧ (m46 45 5) ≤ 2147483647 := zi_rd hIm46 zq_45 zb_9_5
                  generalize hmm52 : zu_up m46 a0 7 (m46 45 5) = m52
                  have hIm52 := zi_up hmm52 hIm46 hc0 zb_3_7 (by omega) (by omega)
                  have hFm52 := zfr_up hmm52 hFm46 hc0 rfl
                  have hRTVm52 := zR_TV_fr (zdis_fr (zfr_up hmm52 (zfr_rf [(3, 8)] _) hc0 rfl) rfl) hRTVm46
                  have r53 : (-2147483648) ≤ (m52 a0 7) ∧ (m52 a0 7) ≤ 2147483647 := zi_rd hIm52 hc0 zb_3_7
                  have e54 : (m52 a0 7) = (m46 45 5) := (zs_eq hmm52)
                  refine zw_ite (fun h55 => ?_) (fun h55 => ?_)
                  · refine zw_bd (zw_eq (zu_call_at (zt_T n) (zm_257 n) (zdp_257 n) _ _ _ _ _ rfl (zr_257_0 n _ _ a0 2 m52)) ?_)
                    generalize hmm56 : zu_up m52 a0 9 2 = m56
                    have hIm56 := zi_up hmm56 hIm52 hc0 zb_3_9 (by omega) (by omega)
                    have hFm56 := zfr_up hmm56 hFm52 hc0 rfl
                    have hRTVm56 := zR_TV_fr (zdis_fr (zfr_up hmm56 (zfr_rf [(3, 10)] _) hc0 rfl) rfl) hRTVm52
                    have r57 : 0 ≤ (m56 45 6) ∧ (m56 45 6) ≤ 700 := zi_rd hIm56 zq_45 zb_9_6
                    generalize hmm58 : zu_up m56 a0 10 (m56 45 6) = m58
                    have hIm58 := zi_up hmm58 hIm56 hc0 zb_3_10 (by omega) (by omega)
                    have hFm58 := zfr_up hmm58 hFm56 hc0 rfl
                    have hRTVm58 := zR_TV_fr (zdis_fr (zfr_up hmm58 (zfr_rf [(3, 11)] _) hc0 rfl) rfl) hRTVm56
                    refine zw_b (by omega) ?_
                    refine zw_some ?_
                    refine zw_ite (fun h59 => ?_) (fun h59 => ?_)
                    · refine zw_b (by omega) ?_
                      refine zw_some ?_
                      refine zw_ite (fun h60 => ?_) (fun h60 => ?_)
                      · exfalso; omega
                      · refine zw_b (by omega) ?_
                        refine zw_some ?_
                        refine zw_ite (fun h61 => ?_) (fun h61 => ?_)
                        · refine zw_b (by omega) ?_
                          exact zw_some ⟨hIm58, hFm58, ⟨by omega, by omega⟩⟩
                        · exfalso; omega
                    · exfalso; omega
                  · refine zw_ite (fun h62 => ?_) (fun h62 => ?_)
                    · refine zw_b (by omega) ?_
                      refine zw_some ?_
                      refine zw_ite (fun h63 => ?_) (fun h63 => ?_)
                      · have r64 : 1 ≤ (m52 6 0) ∧ (m52 6 0) ≤ 8 := zi_rd hIm52 zq_6 zb_4_0
                        have e65 : (m52 6 0) = (m23 6 0) := (Eq.trans (zs_ne hmm52 (Or.inl (zc_ne zq_6 hc0 (by decide)))) (Eq.trans (zfr_ap hfm46 zq_6 rfl) (Eq.trans (zs_ne hmm32 (Or.inl (zc_ne zq_6 hc0 (by decide)))) (zfr_ap hfm26 zq_6 rfl))))
                        have p66 := zmul_bd (x := (m52 a0 7)) (y := (m52 6 0)) (a := 0) (b := 1) (A := 5) (B := 8) (by omega) (by omega) (by omega) (by omega) (by omega) (by omega)
                        have w67 := zu_w32_id (z := (m52 a0 7) * (m52 6 0)) (by omega) (by omega)
                        have w68 := zu_w32_id (z := (zu_w32 ((m52 a0 7) * (m52 6 0))) + (m32 a0 7)) (by omega) (by omega)
                        generalize hmm69 : zu_up m52 a0 8 (zu_w32 ((zu_w32 ((m52 a0 7) * (m52 6 0))) + (m32 a0 7))) = m69
                        have hIm69 := zi_up hmm69 hIm52 hc0 zb_3_8 (by omega) (by omega)
                        have hFm69 := zfr_up hmm69 hFm52 hc0 rfl
                        have hRTVm69 := zR_TV_fr (zdis_fr (zfr_up hmm69 (zfr_rf [(3, 9)] _) hc0 rfl) rfl) hRTVm52
                        refine zw_b (by omega) ?_
                        refine zw_some ?_
                        refine zw_ite (fun h70 => ?_) (fun h70 => ?_)
                        · exfalso; omega
                        · refine zw_bd (zw_eq (zu_call_at (zt_T n) (zm_260 n) (zdp_260 n) _ _ _ _ _ rfl (zr_260_0 n _ _ a0 1 15 m69)) ?_)
                          refine zw_bd (zw_mono (zk_18 n hIm69 zq_45) (fun v72 m71 hqm71 => ?_))
                          obtain ⟨hIm71, hfm71, hvm71⟩ := hqm71
                          have hFm71 := zfr_tr hFm69 hfm71 rfl
                          obtain ⟨hRTVm71, hvm71⟩ := hvm71
                          have s73 := hRTVm71 45 zq_45
                          have r74 : 0 ≤ (m71 45 4) ∧ (m71 45 4) ≤ 5 := zi_rd hIm71 zq_45 zb_9_4
                          refine zw_ite (fun h75 => ?_) (fun h75 => ?_)
                          · have r76 : (-2147483648) ≤ (m71 45 5) ∧ (m71 45 5) ≤ 2147483647 := zi_rd hIm71 zq_45 zb_9_5
                            generalize hmm77 : zu_up m71 a0 7 (m71 45 5) = m77
                            have hIm77 := zi_up hmm77 hIm71 hc0 zb_3_7 (by omega) (by omega)
                            have hFm77 := zfr_up hmm77 hFm71 hc0 rfl
                            have hRTVm77 := zR_TV_fr (zdis_fr (zfr_up hmm77 (zfr_rf [(3, 8)] _) hc0 rfl) rfl) hRTVm71
                            have r78 : (-2147483648) ≤ (m77 a0 7) ∧ (m77 a0 7) ≤ 2147483647 := zi_rd hIm77 hc0 zb_3_7
                            have e79 : (m77 a0 7) = (m71 45 5) := (zs_eq hmm77)
                            refine zw_ite (fun h80 => ?_) (fun h80 => ?_)
                            · refine zw_bd (zw_eq (zu_call_at (zt_T n) (zm_257 n) (zdp_257 n) _ _ _ _ _ rfl (zr_257_0 n _ _ a0 2 m77)) ?_)
                              generalize hmm81 : zu_up m77 a0 9 2 = m81
                              have hIm81 := zi_up hmm81 hIm77 hc0 zb_3_9 (by omega) (by omega)
                              have hFm81 := zfr_up hmm81 hFm77 hc0 rfl
                              have hRTVm81 := zR_TV_fr (zdis_fr (zfr_up hmm81 (zfr_rf [(3, 10)] _) hc0 rfl) rfl) hRTVm77
                              have r82 : 0 ≤ (m81 45 6) ∧ (m81 45 6) ≤ 700 := zi_rd hIm81 zq_45 zb_9_6
                              generalize hmm83 : zu_up m81 a0 10 (m81 45 6) = m83
                              have hIm83 := zi_up hmm83 hIm81 hc0 zb_3_10 (by omega) (by omega)
                              have hFm83 := zfr_up hmm83 hFm81 hc0 rfl
                              have hRTVm83 := zR_TV_fr (zdis_fr (zfr_up hmm83 (zfr_rf [(3, 11)] _) hc0 rfl) rfl) hRTVm81
                              refine zw_b (by omega) ?_
                              refine zw_some ?_
                              refine zw_ite (fun h84 => ?_) (fun h84 => ?_)
                              · refine zw_b (by omega) ?_
                                refine zw_some ?_
                                refine zw_ite (fun h85 => ?_) (fun h85 => ?_)
                                · exfalso; omega
                                · refine zw_b (by omega) ?_
                                  exact zw_some ⟨hIm83, hFm83, ⟨by omega, by omega⟩⟩
                              · exfalso; omega
                            · refine zw_ite (fun h86 => ?_) (fun h86 => ?_)
                              · refine zw_b (by omega) ?_
                                refine zw_some ?_
                                refine zw_ite (fun h87 => ?_) (fun h87 => ?_)
                                · have r88 : 0 ≤ (m77 a0 8) ∧ (m77 a0 8) ≤ 47 := zi_rd hIm77 hc0 zb_3_8
                                  have e89 : (m77 a0 8) = (zu_w32 ((zu_w32 ((m52 a0 7) * (m52 6 0))) + (m32 a0 7))) := (Eq.trans (zs_ne hmm77 (Or.inr (by decide))) (Eq.trans (zfr_ap hfm71 hc0 rfl) (zs_eq hmm69)))
                                  generalize hmm90 : zu_up m77 (21 + 20 + (m11 19 4)) 1 (m77 a0 8) = m90
                                  have hIm90 := zi_up hmm90 hIm77 (zc_42_e zq_21 b17) zb_8_1 (by omega) (by omega)
                                  have hFm90 := zfr_up hmm90 hFm77 (zc_42_e zq_21 b17) rfl
                                  have hRTVm90 := zR_TV_fr (zdis_fr (zfr_up hmm90 (zfr_rf [(8, 2)] _) (zc_42_e zq_21 b17) rfl) rfl) hRTVm77
                                  have r91 : (-2147483648) ≤ (m90 a0 7) ∧ (m90 a0 7) ≤ 2147483647 := zi_rd hIm90 hc0 zb_3_7
                                  have e92 : (m90 a0 7) = (m77 a0 7) := (zs_ne hmm90 (Or.inl (zc_ne hc0 (zc_42_e zq_21 b17) (by decide))))
                                  generalize hmm93 : zu_up m90 (21 + 20 + (m11 19 4)) 2 (m90 a0 7) = m93
                                  have hIm93 := zi_up hmm93 hIm90 (zc_42_e zq_21 b17) zb_8_2 (by omega) (by omega)
                                  have hFm93 := zfr_up hmm93 hFm90 (zc_42_e zq_21 b17) rfl
                                  have hRTVm93 := zR_TV_fr (zdis_fr (zfr_up hmm93 (zfr_rf [(8, 3)] _) (zc_42_e zq_21 b17) rfl) rfl) hRTVm90
                                  refine zw_bd (zw_eq (zu_call_at (zt_T n) (zm_260 n) (zdp_260 n) _ _ _ _ _ rfl (zr_260_0 n _ _ a0 0 3 m93)) ?_)
                                  refine zw_bd (zw_mono (zk_18 n hIm93 zq_45) (fun v95 m94 hqm94 => ?_))
                                  obtain ⟨hIm94, hfm94, hvm94⟩ := hqm94
                                  have hFm94 := zfr_tr hFm93 hfm94 rfl
                                  obtain ⟨hRTVm94, hvm94⟩ := hvm94
                                  have s96 := hRTVm94 45 zq_45
                                  have r97 : 0 ≤ (m94 45 4) ∧ (m94 45 4) ≤ 5 := zi_rd hIm94 zq_45 zb_9_4
                                  refine zw_ite (fun h98 => ?_) (fun h98 => ?_)
                                  · have r99 : (-2147483648) ≤ (m94 45 5) ∧ (m94 45 5) ≤ 2147483647 := zi_rd hIm94 zq_45 zb_9_5
                                    generalize hmm100 : zu_up m94 a0 7 (m94 45 5) = m100
                                    have hIm100 := zi_up hmm100 hIm94 hc0 zb_3_7 (by omega) (by omega)
                                    have hFm100 := zfr_up hmm100 hFm94 hc0 rfl
                                    have hRTVm100 := zR_TV_fr (zdis_fr (zfr_up hmm100 (zfr_rf [(3, 8)] _) hc0 rfl) rfl) hRTVm94
                                    have r101 : (-2147483648) ≤ (m100 a0 7) ∧ (m100 a0 7) ≤ 2147483647 := zi_rd hIm100 hc0 zb_3_7
                                    have e102 : (m100 a0 7) = (m94 45 5) := (zs_eq hmm100)
                                    refine zw_ite (fun h103 => ?_) (fun h103 => ?_)
                                    · refine zw_bd (zw_eq (zu_call_at (zt_T n) (zm_257 n) (zdp_257 n) _ _ _ _ _ rfl (zr_257_0 n _ _ a0 2 m100)) ?_)
                                      generalize hmm104 : zu_up m100 a0 9 2 = m104
                                      have hIm104 := zi_up hmm104 hIm100 hc0 zb_3_9 (by omega) (by omega)
                                      have hFm104 := zfr_up hmm104 hFm100 hc0 rfl
                                      have hRTVm104 := zR_TV_fr (zdis_fr (zfr_up hmm104 (zfr_rf [(3, 10)] _) hc0 rfl) rfl) hRTVm100
                                      have r105 : 0 ≤ (m104 45 6) ∧ (m104 45 6) ≤ 700 := zi_rd hIm104 zq_45 zb_9_6
                                      generalize hmm106 : zu_up m104 a0 10 (m104 45 6) = m106
                                      have hIm106 := zi_up hmm106 hIm104 hc0 zb_3_10 (by omega) (by omega)
                                      have hFm106 := zfr_up hmm106 hFm104 hc0 rfl
                                      have hRTVm106 := zR_TV_fr (zdis_fr (zfr_up hmm106 (zfr_rf [(3, 11)] _) hc0 rfl) rfl) hRTVm104
                                      refine zw_b (by omega) ?_
                                      refine zw_some ?_
                                      refine zw_ite (fun h107 => ?_) (fun h107 => ?_)
                                      · refine zw_b (by omega) ?_
                                        refine zw_some ?_
                                        refine zw_ite (fun h108 => ?_) (fun h108 => ?_)
                                        · exfalso; omega
                                        · refine zw_b (by omega) ?_
                                          exact zw_some ⟨hIm106, hFm106, ⟨by omega, by omega⟩⟩
                                      · exfalso; omega
                                    · refine zw_ite (fun h109 => ?_) (fun h109 => ?_)
                                      · refine zw_b (by omega) ?_
                                        refine zw_some ?_
                                        refine zw_ite (fun h110 => ?_) (fun h110 => ?_)
                                        · generalize hmm111 : zu_up m100 (21 + 20 + (m11 19 4)) 3 (m100 a0 7) = m111
                                          have hIm111 := zi_up hmm111 hIm100 (zc_42_e zq_21 b17) zb_8_3 (by omega) (by omega)
                                          have hFm111 := zfr_up hmm111 hFm100 (zc_42_e zq_21 b17) rfl
                                          have hRTVm111 := zR_TV_fr (zdis_fr (zfr_up hmm111 (zfr_rf [(8, 4)] _) (zc_42_e zq_21 b17) rfl) rfl) hRTVm100
                                          refine zw_bd (zw_eq (zu_call_at (zt_T n) (zm_260 n) (zdp_260 n) _ _ _ _ _ rfl (zr_260_0 n _ _ a0 0 99 m111)) ?_)
                                          refine zw_bd (zw_mono (zk_18 n hIm111 zq_45) (fun v113 m112 hqm112 => ?_))
                                          obtain ⟨hIm112, hfm112, hvm112⟩ := hqm112
                                          have hFm112 := zfr_tr hFm111 hfm112 rfl
                                          obtain ⟨hRTVm112, hvm112⟩ := hvm112
                                          have s114 := hRTVm112 45 zq_45
                                          have r115 : 0 ≤ (m112 45 4) ∧ (m112 45 4) ≤ 5 := zi_rd hIm112 zq_45 zb_9_4
                                          refine zw_ite (fun h116 => ?_) (fun h116 => ?_)
                                          · have r117 : (-2147483648) ≤ (m112 45 5) ∧ (m112 45 5) ≤ 2147483647 := zi_rd hIm112 zq_45 zb_9_5
                                            generalize hmm118 : zu_up m112 a0 7 (m112 45 5) = m118
                                            have hIm118 := zi_up hmm118 hIm112 hc0 zb_3_7 (by omega) (by omega)
                                            have hFm118 := zfr_up hmm118 hFm112 hc0 rfl
                                            have hRTVm118 := zR_TV_fr (zdis_fr (zfr_up hmm118 (zfr_rf [(3, 8)] _) hc0 rfl) rfl) hRTVm112
                                            have r119 : (-2147483648) ≤ (m118 a0 7) ∧ (m118 a0 7) ≤ 2147483647 := zi_rd hIm118 hc0 zb_3_7
                                            have e120 : (m118 a0 7) = (m112 45 5) := (zs_eq hmm118)
                                            refine zw_ite (fun h121 => ?_) (fun h121 => ?_)
                                            · refine zw_bd (zw_eq (zu_call_at (zt_T n) (zm_257 n) (zdp_257 n) _ _ _ _ _ rfl (zr_257_0 n _ _ a0 2 m118)) ?_)
                                              generalize hmm122 : zu_up m118 a0 9 2 = m122
                                              have hIm122 := zi_up hmm122 hIm118 hc0 zb_3_9 (by omega) (by omega)
                                              have hFm122 := zfr_up hmm122 hFm118 hc0 rfl
                                              have hRTVm122 := zR_TV_fr (zdis_fr (zfr_up hmm122 (zfr_rf [(3, 10)] _) hc0 rfl) rfl) hRTVm118
                                              have r123 : 0 ≤ (m122 45 6) ∧ (m122 45 6) ≤ 700 := zi_rd hIm122 zq_45 zb_9_6
                                              generalize hmm124 : zu_up m122 a0 10 (m122 45 6) = m124
                                              have hIm124 := zi_up hmm124 hIm122 hc0 zb_3_10 (by omega) (by omega)
                                              have hFm124 := zfr_up hmm124 hFm122 hc0 rfl
                                              have hRTVm124 := zR_TV_fr (zdis_fr (zfr_up hmm124 (zfr_rf [(3, 11)] _) hc0 rfl) rfl) hRTVm122
                                              refine zw_b (by omega) ?_
                                              refine zw_some ?_
                                              refine zw_ite (fun h125 => ?_) (fun h125 => ?_)
                                              · refine zw_b (by omega) ?_
                                                refine zw_some ?_
                                                refine zw_ite (fun h126 => ?_) (fun h126 => ?_)
                                                · exfalso; omega
                                                · refine zw_b (by omega) ?_
                                                  exact zw_some ⟨hIm124, hFm124, ⟨by omega, by omega⟩⟩
                                              · exfalso; omega
                                            · refine zw_ite (fun h127 => ?_) (fun h127 => ?_)
                                              · refine zw_b (by omega) ?_
                                                refine zw_some ?_
                                                refine zw_ite (fun h128 => ?_) (fun h128 => ?_)
                                                · generalize hmm129 : zu_up m118 (21 + 20 + (m11 19 4)) 4 (m118 a0 7) = m129
                                                  have hIm129 := zi_up hmm129 hIm118 (zc_42_e zq_21 b17) zb_8_4 (by omega) (by omega)
                                                  have hFm129 := zfr_up hmm129 hFm118 (zc_42_e zq_21 b17) rfl
                                                  have hRTVm129 := zR_TV_fr (zdis_fr (zfr_up hmm129 (zfr_rf [(8, 5)] _) (zc_42_e zq_21 b17) rfl) rfl) hRTVm118
                                                  have r130 : 0 ≤ (m129 19 4) ∧ (m129 19 4) ≤ 4 := zi_rd hIm129 zq_19 zb_6_4
                                                  have e131 : (m129 19 4) = (m11 19 4) := (Eq.trans (zs_ne hmm129 (Or.inl (zc_ne zq_19 (zc_42_e zq_21 b17) (by decide)))) (Eq.trans (zs_ne hmm118 (Or.inl (zc_ne zq_19 hc0 (by decide)))) (Eq.trans (zfr_ap hfm112 zq_19 rfl) (Eq.trans (zs_ne hmm111 (Or.inl (zc_ne zq_19 (zc_42_e zq_21 b17) (by decide)))) (Eq.trans (zs_ne hmm100 (Or.inl (zc_ne zq_19 hc0 (by decide)))) (Eq.trans (zfr_ap hfm94 zq_19 rfl) (Eq.trans (zs_ne hmm93 (Or.inl (zc_ne zq_19 (zc_42_e zq_21 b17) (by decide)))) (Eq.trans (zs_ne hmm90 (Or.inl (zc_ne zq_19 (zc_42_e zq_21 b17) (by decide)))) (Eq.trans (zs_ne hmm77 (Or.inl (zc_ne zq_19 hc0 (by decide)))) (Eq.trans (zfr_ap hfm71 zq_19 rfl) (Eq.trans (zs_ne hmm69 (Or.inl (zc_ne zq_19 hc0 (by decide)))) (Eq.trans (zs_ne hmm52 (Or.inl (zc_ne zq_19 hc0 (by decide)))) (Eq.trans (zfr_ap hfm46 zq_19 rfl) (Eq.trans (zs_ne hmm32 (Or.inl (zc_ne zq_19 hc0 (by decide)))) (Eq.trans (zfr_ap hfm26 zq_19 rfl) (Eq.trans (zs_ne hmm23 (Or.inl (zc_ne zq_19 hc0 (by decide)))) (Eq.trans (zs_ne hmm22 (Or.inl (zc_ne zq_19 (zc_42_e zq_21 b17) (by decide)))) (Eq.trans (zs_ne hmm21 (Or.inl (zc_ne zq_19 (zc_42_e zq_21 b17) (by decide)))) (zs_ne hmm20 (Or.inl (zc_ne zq_19 (zc_42_e zq_21 b17) (by decide))))))))))))))))))))))
                                                  have w132 := zu_w32_id (z := (m129 19 4) + 1) (by omega) (by omega)
                                                  generalize hmm133 : zu_up m129 19 4 (zu_w32 ((m129 19 4) + 1)) = m133
                                                  have hIm133 := zi_up hmm133 hIm129 zq_19 zb_6_4 (by omega) (by omega)
                                                  have hFm133 := zfr_up hmm133 hFm129 zq_19 rfl
                                                  have hRTVm133 := zR_TV_fr (zdis_fr (zfr_up hmm133 (zfr_rf [(6, 5)] _) zq_19 rfl) rfl) hRTVm129
                                                  refine zw_b (by omega) ?_
                                                  exact zw_some ⟨hIm133, hFm133, ⟨by omega, by omega⟩⟩
                                                · exfalso; omega
                                              · refine zw_bd (zw_eq (zu_call_at (zt_T n) (zm_257 n) (zdp_257 n) _ _ _ _ _ rfl (zr_257_0 n _ _ a0 2 m118)) ?_)
                                                generalize hmm134 : zu_up m118 a0 9 2 = m134
                                                have hIm134 := zi_up hmm134 hIm118 hc0 zb_3_9 (by omega) (by omega)
                                                have hFm134 := zfr_up hmm134 hFm118 hc0 rfl
                                                have hRTVm134 := zR_TV_fr (zdis_fr (zfr_up hmm134 (zfr_rf [(3, 10)] _) hc0 rfl) rfl) hRTVm118
                                                have r135 : 0 ≤ (m134 45 6) ∧ (m134 45 6) ≤ 700 := zi_rd hIm134 zq_45 zb_9_6
                                                generalize hmm136 : zu_up m134 a0 10 (m134 45 6) = m136
                                                have hIm136 := zi_up hmm136 hIm134 hc0 zb_3_10 (by omega) (by omega)
                                                have hFm136 := zfr_up hmm136 hFm134 hc0 rfl
                                                have hRTVm136 := zR_TV_fr (zdis_fr (zfr_up hmm136 (zfr_rf [(3, 11)] _) hc0 rfl) rfl) hRTVm134
                                                refine zw_b (by omega) ?_
                                                refine zw_some ?_
                                                refine zw_ite (fun h137 => ?_) (fun h137 => ?_)
                                                · refine zw_b (by omega) ?_
                                                  refine zw_some ?_
                                                  refine zw_ite (fun h138 => ?_) (fun h138 => ?_)
                                                  · exfalso; omega
                                                  · refine zw_b (by omega) ?_
                                                    exact zw_some ⟨hIm136, hFm136, ⟨by omega, by omega⟩⟩
                                                · exfalso; omega
                                          · refine zw_bd (zw_eq (zu_call_at (zt_T n) (zm_257 n) (zdp_257 n) _ _ _ _ _ rfl (zr_257_0 n _ _ a0 1 m112)) ?_)
                                            generalize hmm139 : zu_up m112 a0 9 1 = m139
                                            have hIm139 := zi_up hmm139 hIm112 hc0 zb_3_9 (by omega) (by omega)
                                            have hFm139 := zfr_up hmm139 hFm112 hc0 rfl
                                            have hRTVm139 := zR_TV_fr (zdis_fr (zfr_up hmm139 (zfr_rf [(3, 10)] _) hc0 rfl) rfl) hRTVm112
                                            have r140 : 0 ≤ (m139 45 6) ∧ (m139 45 6) ≤ 700 := zi_rd hIm139 zq_45 zb_9_6
                                            generalize hmm141 : zu_up m139 a0 10 (m139 45 6) = m141
                                            have hIm141 := zi_up hmm141 hIm139 hc0 zb_3_10 (by omega) (by omega)
                                            have hFm141 := zfr_up hmm141 hFm139 hc0 rfl
                                            have hRTVm141 := zR_TV_fr (zdis_fr (zfr_up hmm141 (zfr_rf [(3, 11)] _) hc0 rfl) rfl) hRTVm139
                                            refine zw_b (by omega) ?_
                                            refine zw_some ?_
                                            refine zw_b (by omega) ?_
                                            refine zw_some ?_
                                            refine zw_ite (fun h142 => ?_) (fun h142 => ?_)
                                            · exfalso; omega
                                            · refine zw_b (by omega) ?_
                                              exact zw_some ⟨hIm141, hFm141, ⟨by omega, by omega⟩⟩
                                        · exfalso; omega
                                      · refine zw_bd (zw_eq (zu_call_at (zt_T n) (zm_257 n) (zdp_257 n) _ _ _ _ _ rfl (zr_257_0 n _ _ a0 2 m100)) ?_)
                                        generalize hmm143 : zu_up m100 a0 9 2 = m143
                                        have hIm143 := zi_up hmm143 hIm100 hc0 zb_3_9 (by omega) (by omega)
                                        have hFm143 := zfr_up hmm143 hFm100 hc0 rfl
                                        have hRTVm143 := zR_TV_fr (zdis_fr (zfr_up hmm143 (zfr_rf [(3, 10)] _) hc0 rfl) rfl) hRTVm100
                                        have r144 : 0 ≤ (m143 45 6) ∧ (m143 45 6) ≤ 700 := zi_rd hIm143 zq_45 zb_9_6
                                        generalize hmm145 : zu_up m143 a0 10 (m143 45 6) = m145
                                        have hIm145 := zi_up hmm145 hIm143 hc0 zb_3_10 (by omega) (by omega)
                                        have hFm145 := zfr_up hmm145 hFm143 hc0 rfl
                                        have hRTVm145 := zR_TV_fr (zdis_fr (zfr_up hmm145 (zfr_rf [(3, 11)] _) hc0 rfl) rfl) hRTVm143
                                        refine zw_b (by omega) ?_
                                        refine zw_some ?_
                                        refine zw_ite (fun h146 => ?_) (fun h146 => ?_)
                                        · refine zw_b (by omega) ?_
                                          refine zw_some ?_
                                          refine zw_ite (fun h147 => ?_) (fun h147 => ?_)
                                          · exfalso; omega
                                          · refine zw_b (by omega) ?_
                                            exact zw_some ⟨hIm145, hFm145, ⟨by omega, by omega⟩⟩
                                        · exfalso; omega
                                  · refine zw_bd (zw_eq (zu_call_at (zt_T n) (zm_257 n) (zdp_257 n) _ _ _ _ _ rfl (zr_257_0 n _ _ a0 1 m94)) ?_)
                                    generalize hmm148 : zu_up m94 a0 9 1 = m148
                                    have hIm148 := zi_up hmm148 hIm94 hc0 zb_3_9 (by omega) (by omega)
                                    have hFm148 := zfr_up hmm148 hFm94 hc0 rfl
                                    have hRTVm148 := zR_TV_fr (zdis_fr (zfr_up hmm148 (zfr_rf [(3, 10)] _) hc0 rfl) rfl) hRTVm94
                                    have r149 : 0 ≤ (m148 45 6) ∧ (m148 45 6) ≤ 700 := zi_rd hIm148 zq_45 zb_9_6
                                    generalize hmm150 : zu_up m148 a0 10 (m148 45 6) = m150
                                    have hIm150 := zi_up hmm150 hIm148 hc0 zb_3_10 (by omega) (by omega)
                                    have hFm150 := zfr_up hmm150 hFm148 hc0 rfl
                                    have hRTVm150 := zR_TV_fr (zdis_fr (zfr_up hmm150 (zfr_rf [(3, 11)] _) hc0 rfl) rfl) hRTVm148
                                    refine zw_b (by omega) ?_
                                    refine zw_some ?_
                                    refine zw_b (by omega) ?_
                                    refine zw_some ?_
                                    refine zw_ite (fun h151 => ?_) (fun h151 => ?_)
                                    · exfalso; omega
                                    · refine zw_b (by omega) ?_
                                      exact zw_some ⟨hIm150, hFm150, ⟨by omega, by omega⟩⟩
                                · exfalso; omega
                              · refine zw_bd (zw_eq (zu_call_at (zt_T n) (zm_257 n) (zdp_257 n) _ _ _ _ _ rfl (zr_257_0 n _ _ a0 2 m77)) ?_)
                                generalize hmm152 : zu_up m77 a0 9 2 = m152
                                have hIm152 := zi_up hmm152 hIm77 hc0 zb_3_9 (by omega) (by omega)
                                have hFm152 := zfr_up hmm152 hFm77 hc0 rfl
                                have hRTVm152 := zR_TV_fr (zdis_fr (zfr_up hmm152 (zfr_rf [(3, 10)] _) hc0 rfl) rfl) hRTVm77
                                have r153 : 0 ≤ (m152 45 6) ∧ (m152 45 6) ≤ 700 := zi_rd hIm152 zq_45 zb_9_6
                                generalize hmm154 : zu_up m152 a0 10 (m152 45 6) = m154
                                have hIm154 := zi_up hmm154 hIm152 hc0 zb_3_10 (by omega) (by omega)
                                have hFm154 := zfr_up hmm154 hFm152 hc0 rfl
                                have hRTVm154 := zR_TV_fr (zdis_fr (zfr_up hmm154 (zfr_rf [(3, 11)] _) hc0 rfl) rfl) hRTVm152
                                refine zw_b (by omega) ?_
                                refine zw_some ?_
                                refine zw_ite (fun h155 => ?_) (fun h155 => ?_)
                                · refine zw_b (by omega) ?_
                                  refine zw_some ?_
                                  refine zw_ite (fun h156 => ?_) (fun h156 => ?_)
                                  · exfalso; omega
                                  · refine zw_b (by omega) ?_
                                    exact zw_some ⟨hIm154, hFm154, ⟨by omega, by omega⟩⟩
                                · exfalso; omega
                          · refine zw_bd (zw_eq (zu_call_at (zt_T n) (zm_257 n) (zdp_257 n) _ _ _ _ _ rfl (zr_257_0 n _ _ a0 1 m71)) ?_)
                            generalize hmm157 : zu_up m71 a0 9 1 = m157
                            have hIm157 := zi_up hmm157 hIm71 hc0 zb_3_9 (by omega) (by omega)
                            have hFm157 := zfr_up hmm157 hFm71 hc0 rfl
                            have hRTVm157 := zR_TV_fr (zdis_fr (zfr_up hmm157 (zfr_rf [(3, 10)] _) hc0 rfl) rfl) hRTVm71
                            have r158 : 0 ≤ (m157 45 6) ∧ (m157 45 6) ≤ 700 := zi_rd hIm157 zq_45 zb_9_6
                            generalize hmm159 : zu_up m157 a0 10 (m157 45 6) = m159
                            have hIm159 := zi_up hmm159 hIm157 hc0 zb_3_10 (by omega) (by omega)
                            have hFm159 := zfr_up hmm159 hFm157 hc0 rfl
                            have hRTVm159 := zR_TV_fr (zdis_fr (zfr_up hmm159 (zfr_rf [(3, 11)] _) hc0 rfl) rfl) hRTVm157
                            refine zw_b (by omega) ?_
                            refine zw_some ?_
                            refine zw_b (by omega) ?_
                            refine zw_some ?_
                            refine zw_ite (fun h160 => ?_) (fun h160 => ?_)
                            · exfalso; omega
                            · refine zw_b (by omega) ?_
                              exact zw_some ⟨hIm159, hFm159, ⟨by omega, by omega⟩⟩
                      · exfalso; omega
                    · refine zw_bd (zw_eq (zu_call_at (zt_T n) (zm_257 n) (zdp_257 n) _ _ _ _ _ rfl (zr_257_0 n _ _ a0 2 m52)) ?_)
                      generalize hmm161 : zu_up m52 a0 9 2 = m161
                      have hIm161 := zi_up hmm161 hIm52 hc0 zb_3_9 (by omega) (by omega)
                      have hFm161 := zfr_up hmm161 hFm52 hc0 rfl
                      have hRTVm161 := zR_TV_fr (zdis_fr (zfr_up hmm161 (zfr_rf [(3, 10)] _) hc0 rfl) rfl) hRTVm52
                      have r162 : 0 ≤ (m161 45 6) ∧ (m161 45 6) ≤ 700 := zi_rd hIm161 zq_45 zb_9_6
                      generalize hmm163 : zu_up m161 a0 10 (m161 45 6) = m163
                      have hIm163 := zi_up hmm163 hIm161 hc0 zb_3_10 (by omega) (by omega)
                      have hFm163 := zfr_up hmm163 hFm161 hc0 rfl
                      have hRTVm163 := zR_TV_fr (zdis_fr (zfr_up hmm163 (zfr_rf [(3, 11)] _) hc0 rfl) rfl) hRTVm161
                      refine zw_b (by omega) ?_
                      refine zw_some ?_
                      refine zw_ite (fun h164 => ?_) (fun h164 => ?_)
                      · refine zw_b (by omega) ?_
                        refine zw_some ?_
                        refine zw_ite (fun h165 => ?_) (fun h165 => ?_)
                        · exfalso; omega
                        · refine zw_b (by omega) ?_
                          refine zw_some ?_
                          refine zw_ite (fun h166 => ?_) (fun h166 => ?_)
                          · refine zw_b (by omega) ?_
                            exact zw_some ⟨hIm163, hFm163, ⟨by omega, by omega⟩⟩
                          · exfalso; omega
                      · exfalso; omega
                · refine zw_bd (zw_eq (zu_call_at (zt_T n) (zm_257 n) (zdp_257 n) _ _ _ _ _ rfl (zr_257_0 n _ _ a0 1 m46)) ?_)
                  generalize hmm167 : zu_up m46 a0 9 1 = m167
                  have hIm167 := zi_up hmm167 hIm46 hc0 zb_3_9 (by omega) (by omega)
                  have hFm167 := zfr_up hmm167 hFm46 hc0 rfl
                  have hRTVm167 := zR_TV_fr (zdis_fr (zfr_up hmm167 (zfr_rf [(3, 10)] _) hc0 rfl) rfl) hRTVm46
                  have r168 : 0 ≤ (m167 45 6) ∧ (m167 45 6) ≤ 700 := zi_rd hIm167 zq_45 zb_9_6
                  generalize hmm169 : zu_up m167 a0 10 (m167 45 6) = m169
                  have hIm169 := zi_up hmm169 hIm167 hc0 zb_3_10 (by omega) (by omega)
                  have hFm169 := zfr_up hmm169 hFm167 hc0 rfl
                  have hRTVm169 := zR_TV_fr (zdis_fr (zfr_up hmm169 (zfr_rf [(3, 11)] _) hc0 rfl) rfl) hRTVm167
                  refine zw_b (by omega) ?_
                  refine zw_some ?_
                  refine zw_b (by omega) ?_
                  refine zw_some ?_
                  refine zw_ite (fun h170 => ?_) (fun h170 => ?_)
                  · exfalso; omega
                  · refine zw_b (by omega) ?_
                    refine zw_some ?_
                    refine zw_ite (fun h171 => ?_) (fun h171 => ?_)
                    · refine zw_b (by omega) ?_
                      exact zw_some ⟨hIm169, hFm169, ⟨by omega, by omega⟩⟩
                    · exfalso; omega
              · exfalso; omega
            · refine zw_bd (zw_eq (zu_call_at (zt_T n) (zm_257 n) (zdp_257 n) _ _ _ _ _ rfl (zr_257_0 n _ _ a0 2 m32)) ?_)
              generalize hmm172 : zu_up m32 a0 9 2 = m172
              have hIm172 := zi_up hmm172 hIm32 hc0 zb_3_9 (by omega) (by omega)
              have hFm172 := zfr_up hmm172 hFm32 hc0 rfl
              have hRTVm172 := zR_TV_fr (zdis_fr (zfr_up hmm172 (zfr_rf [(3, 10)] _) hc0 rfl) rfl) hRTVm32
              have r173 : 0 ≤ (m172 45 6) ∧ (m172 45 6) ≤ 700 := zi_rd hIm172 zq_45 zb_9_6
              generalize hmm174 : zu_up m172 a0 10 (m172 45 6) = m174
              have hIm174 := zi_up hmm174 hIm172 hc0 zb_3_10 (by omega) (by omega)
              have hFm174 := zfr_up hmm174 hFm172 hc0 rfl
              have hRTVm174 := zR_TV_fr (zdis_fr (zfr_up hmm174 (zfr_rf [(3, 11)] _) hc0 rfl) rfl) hRTVm172
              refine zw_b (by omega) ?_
              refine zw_some ?_
              refine zw_ite (fun h175 => ?_) (fun h175 => ?_)
              · refine zw_b (by omega) ?_
                refine zw_some ?_
                refine zw_ite (fun h176 => ?_) (fun h176 => ?_)
                · exfalso; omega
                · refine zw_b (by omega) ?_
                  refine zw_some ?_
                  refine zw_ite (fun h177 => ?_) (fun h177 => ?_)
                  · refine zw_b (by omega) ?_
                    exact zw_some ⟨hIm174, hFm174, ⟨by omega, by omega⟩⟩
                  · exfalso; omega
              · exfalso; omega
        · refine zw_bd (zw_eq (zu_call_at (zt_T n) (zm_257 n) (zdp_257 n) _ _ _ _ _ rfl (zr_257_0 n _ _ a0 1 m26)) ?_)
          generalize hmm178 : zu_up m26 a0 9 1 = m178
          have hIm178 := zi_up hmm178 hIm26 hc0 zb_3_9 (by omega) (by omega)
          have hFm178 := zfr_up hmm178 hFm26 hc0 rfl
          have hRTVm178 := zR_TV_fr (zdis_fr (zfr_up hmm178 (zfr_rf [(3, 10)] _) hc0 rfl) rfl) hRTVm26
          have r179 : 0 ≤ (m178 45 6) ∧ (m178 45 6) ≤ 700 := zi_rd hIm178 zq_45 zb_9_6
          generalize hmm180 : zu_up m178 a0 10 (m178 45 6) = m180
          have hIm180 := zi_up hmm180 hIm178 hc0 zb_3_10 (by omega) (by omega)
          have hFm180 := zfr_up hmm180 hFm178 hc0 rfl
          have hRTVm180 := zR_TV_fr (zdis_fr (zfr_up hmm180 (zfr_rf [(3, 11)] _) hc0 rfl) rfl) hRTVm178
          refine zw_b (by omega) ?_
          refine zw_some ?_
          refine zw_b (by omega) ?_
          refine zw_some ?_
          refine zw_ite (fun h181 => ?_) (fun h181 => ?_)
          · exfalso; omega
          · refine zw_b (by omega) ?_
            refine zw_some ?_
            refine zw_ite (fun h182 => ?_) (fun h182 => ?_)
            · refine zw_b (by omega) ?_
              exact zw_some ⟨hIm180, hFm180, ⟨by omega, by omega⟩⟩
            · exfalso; omega
      · refine zw_bd (zw_eq (zu_call_at (zt_T n) (zm_257 n) (zdp_257 n) _ _ _ _ _ rfl (zr_257_0 n _ _ a0 3 m11)) ?_)
        generalize hmm183 : zu_up m11 a0 9 3 = m183
        have hIm183 := zi_up hmm183 hIm11 hc0 zb_3_9 (by omega) (by omega)
        have hFm183 := zfr_up hmm183 hFm11 hc0 rfl
        have hRTVm183 := zR_TV_fr (zdis_fr (zfr_up hmm183 (zfr_rf [(3, 10)] _) hc0 rfl) rfl) hRTVm11
        have r184 : 0 ≤ (m183 45 6) ∧ (m183 45 6) ≤ 700 := zi_rd hIm183 zq_45 zb_9_6
        generalize hmm185 : zu_up m183 a0 10 (m183 45 6) = m185
        have hIm185 := zi_up hmm185 hIm183 hc0 zb_3_10 (by omega) (by omega)
        have hFm185 := zfr_up hmm185 hFm183 hc0 rfl
        have hRTVm185 := zR_TV_fr (zdis_fr (zfr_up hmm185 (zfr_rf [(3, 11)] _) hc0 rfl) rfl) hRTVm183
        refine zw_b (by omega) ?_
        refine zw_some ?_
        refine zw_b (by omega) ?_
        exact zw_some ⟨hIm185, hFm185, ⟨by omega, by omega⟩⟩
    · refine zw_bd (zw_eq (zu_call_at (zt_T n) (zm_257 n) (zdp_257 n) _ _ _ _ _ rfl (zr_257_0 n _ _ a0 1 m3)) ?_)
      generalize hmm186 : zu_up m3 a0 9 1 = m186
      have hIm186 := zi_up hmm186 hIm3 hc0 zb_3_9 (by omega) (by omega)
      have hFm186 := zfr_up hmm186 hFm3 hc0 rfl
      have hRTVm186 := zR_TV_fr (zdis_fr (zfr_up hmm186 (zfr_rf [(3, 10)] _) hc0 rfl) rfl) hRTVm3
      have r187 : 0 ≤ (m186 45 6) ∧ (m186 45 6) ≤ 700 := zi_rd hIm186 zq_45 zb_9_6
      generalize hmm188 : zu_up m186 a0 10 (m186 45 6) = m188
      have hIm188 := zi_up hmm188 hIm186 hc0 zb_3_10 (by omega) (by omega)
      have hFm188 := zfr_up hmm188 hFm186 hc0 rfl
      have hRTVm188 := zR_TV_fr (zdis_fr (zfr_up hmm188 (zfr_rf [(3, 11)] _) hc0 rfl) rfl) hRTVm186
      refine zw_b (by omega) ?_
      refine zw_some ?_
      refine zw_b (by omega) ?_
      exact zw_some ⟨hIm188, hFm188, ⟨by omega, by omega⟩⟩
  · refine zw_bd (zw_eq (zu_call_at (zt_T n) (zm_257 n) (zdp_257 n) _ _ _ _ _ rfl (zr_257_0 n _ _ a0 2 m0)) ?_)
    generalize hmm189 : zu_up m0 a0 9 2 = m189
    have hIm189 := zi_up hmm189 hIm0 hc0 zb_3_9 (by omega) (by omega)
    have hFm189 := zfr_up hmm189 hFm0 hc0 rfl
    have r190 : 0 ≤ (m189 45 6) ∧ (m189 45 6) ≤ 700 := zi_rd hIm189 zq_45 zb_9_6
    generalize hmm191 : zu_up m189 a0 10 (m189 45 6) = m191
    have hIm191 := zi_up hmm191 hIm189 hc0 zb_3_10 (by omega) (by omega)
    have hFm191 := zfr_up hmm191 hFm189 hc0 rfl
    refine zw_b (by omega) ?_
    refine zw_some ?_
    refine zw_b (by omega) ?_
    exact zw_some ⟨hIm191, hFm191, ⟨by omega, by omega⟩⟩
set_option maxHeartbeats 4000000 in
theorem zk_270 (n : Nat) {a0 : Int} {m0 : zu_m} (hIm0 : zi_I m0) (hc0 : zcls a0 = 3)   (he0 : 1 ≤ m0 45 4 ∧ m0 45 4 ≤ 1) (he1 : 11 ≤ m0 45 5 ∧ m0 45 5 ≤ 11)  (hRBNm0 : zR_BN m0) (hRK10m0 : zR_K10 m0) : zw (zu_call (zt_T n) 270 [(7, a0)] m0) (fun v m => zi_I m ∧ zfr [(3, 8), (3, 10), (3, 11), (5, 6), (5, 7), (9, 4), (9, 5), (9, 6), (9, 7), (10, 4), (10, 5), (10, 7), (10, 8), (33, 0), (34, 0), (35, 0), (36, 0), (47, 0), (48, 0)] m0 m ∧ zR_BN m ∧ zR_K10 m ∧ (0 ≤ v ∧ v ≤ 1)) := by
  have hFm0 : zfr [(3, 8), (3, 10), (3, 11), (5, 6), (5, 7), (9, 4), (9, 5), (9, 6), (9, 7), (10, 4), (10, 5), (10, 7), (10, 8), (33, 0), (34, 0), (35, 0), (36, 0), (47, 0), (48, 0)] m0 m0 := zfr_rf _ _
  refine zw_eq (zu_call_at (zt_T n) (zm_270 n) (zdp_270 n) _ _ _ _ _ rfl (zr_270_0 n _ _ a0 m0)) ?_
  refine zw_bd (zw_eq (zu_call_at (zt_T n) (zm_261 n) (zdp_261 n) _ _ _ _ _ rfl (zr_261_0 n _ _ a0 19 4 m0)) ?_)
  refine zw_bd (zw_mono (zk_18 n hIm0 zq_45) (fun v2 m1 hqm1 => ?_))
  obtain ⟨hIm1, hfm1, hvm1⟩ := hqm1
  have hFm1 := zfr_tr hFm0 hfm1 rfl
  obtain ⟨hRTVm1, hvm1⟩ := hvm1
  have hRBNm1 := zR_BN_fr (zdis_fr hfm1 rfl) hRBNm0
  have hRK10m1 := zR_K10_fr (zdis_fr hfm1 rfl) hRK10m0
  have s3 := hRTVm1 45 zq_45
  refine zw_bd (zw_eq (zu_call_at (zt_T n) (zm_279 n) (zdp_279 n) _ _ _ _ _ rfl (zr_279_0 n _ _ 45 19 4 m1)) ?_)
  have r4 : 0 ≤ (m1 45 4) ∧ (m1 45 4) ≤ 5 := zi_rd hIm1 zq_45 zb_9_4
  refine zw_ite (fun h5 => ?_) (fun h5 => ?_)
  · refine zw_b (by omega) ?_
    refine zw_some ?_
    refine zw_ite (fun h6 => ?_) (fun h6 => ?_)
    · exfalso; omega
    · refine zw_bd (zw_eq (zu_call_at (zt_T n) (zm_257 n) (zdp_257 n) _ _ _ _ _ rfl (zr_257_0 n _ _ a0 1 m1)) ?_)
      generalize hmm7 : zu_up m1 a0 9 1 = m7
      have hIm7 := zi_up hmm7 hIm1 hc0 zb_3_9 (by omega) (by omega)
      have hFm7 := zfr_up hmm7 hFm1 hc0 rfl
      have hRBNm7 := zR_BN_fr (zdis_fr (zfr_up hmm7 (zfr_rf [(3, 10)] _) hc0 rfl) rfl) hRBNm1
      have hRK10m7 := zR_K10_fr (zdis_fr (zfr_up hmm7 (zfr_rf [(3, 10)] _) hc0 rfl) rfl) hRK10m1
      have hRTVm7 := zR_TV_fr (zdis_fr (zfr_up hmm7 (zfr_rf [(3, 10)] _) hc0 rfl) rfl) hRTVm1
      have r8 : 0 ≤ (m7 45 6) ∧ (m7 45 6) ≤ 700 := zi_rd hIm7 zq_45 zb_9_6
      generalize hmm9 : zu_up m7 a0 10 (m7 45 6) = m9
      have hIm9 := zi_up hmm9 hIm7 hc0 zb_3_10 (by omega) (by omega)
      have hFm9 := zfr_up hmm9 hFm7 hc0 rfl
      have hRBNm9 := zR_BN_fr (zdis_fr (zfr_up hmm9 (zfr_rf [(3, 11)] _) hc0 rfl) rfl) hRBNm7
      have hRK10m9 := zR_K10_fr (zdis_fr (zfr_up hmm9 (zfr_rf [(3, 11)] _) hc0 rfl) rfl) hRK10m7
      have hRTVm9 := zR_TV_fr (zdis_fr (zfr_up hmm9 (zfr_rf [(3, 11)] _) hc0 rfl) rfl) hRTVm7
      refine zw_b (by omega) ?_
      refine zw_some ?_
      refine zw_b (by omega) ?_
      refine zw_some ?_
      refine zw_ite (fun h10 => ?_) (fun h10 => ?_)
      · exfalso; omega
      · refine zw_b (by omega) ?_
        exact zw_some ⟨hIm9, hFm9, hRBNm9, hRK10m9, ⟨by omega, by omega⟩⟩
  · have r11 : (-2147483648) ≤ (m1 45 5) ∧ (m1 45 5) ≤ 2147483647 := zi_rd hIm1 zq_45 zb_9_5
    refine zw_ite (fun h12 => ?_) (fun h12 => ?_)
    · refine zw_b (by omega) ?_
      refine zw_some ?_
      refine zw_ite (fun h13 => ?_) (fun h13 => ?_)
      · exfalso; omega
      · refine zw_bd (zw_eq (zu_call_at (zt_T n) (zm_257 n) (zdp_257 n) _ _ _ _ _ rfl (zr_257_0 n _ _ a0 1 m1)) ?_)
        generalize hmm14 : zu_up m1 a0 9 1 = m14
        have hIm14 := zi_up hmm14 hIm1 hc0 zb_3_9 (by omega) (by omega)
        have hFm14 := zfr_up hmm14 hFm1 hc0 rfl
        have hRBNm14 := zR_BN_fr (zdis_fr (zfr_up hmm14 (zfr_rf [(3, 10)] _) hc0 rfl) rfl) hRBNm1
        have hRK10m14 := zR_K10_fr (zdis_fr (zfr_up hmm14 (zfr_rf [(3, 10)] _) hc0 rfl) rfl) hRK10m1
        have hRTVm14 := zR_TV_fr (zdis_fr (zfr_up hmm14 (zfr_rf [(3, 10)] _) hc0 rfl) rfl) hRTVm1
        have r15 : 0 ≤ (m14 45 6) ∧ (m14 45 6) ≤ 700 := zi_rd hIm14 zq_45 zb_9_6
        generalize hmm16 : zu_up m14 a0 10 (m14 45 6) = m16
        have hIm16 := zi_up hmm16 hIm14 hc0 zb_3_10 (by omega) (by omega)
        have hFm16 := zfr_up hmm16 hFm14 hc0 rfl
        have hRBNm16 := zR_BN_fr (zdis_fr (zfr_up hmm16 (zfr_rf [(3, 11)] _) hc0 rfl) rfl) hRBNm14
        have hRK10m16 := zR_K10_fr (zdis_fr (zfr_up hmm16 (zfr_rf [(3, 11)] _) hc0 rfl) rfl) hRK10m14
        have hRTVm16 := zR_TV_fr (zdis_fr (zfr_up hmm16 (zfr_rf [(3, 11)] _) hc0 rfl) rfl) hRTVm14
        refine zw_b (by omega) ?_
        refine zw_some ?_
        refine zw_b (by omega) ?_
        refine zw_some ?_
        refine zw_ite (fun h17 => ?_) (fun h17 => ?_)
        · exfalso; omega
        · refine zw_b (by omega) ?_
          exact zw_some ⟨hIm16, hFm16, hRBNm16, hRK10m16, ⟨by omega, by omega⟩⟩
    · have w18 := zu_w32_id (z := 19 + 4) (by omega) (by omega)
      refine zw_ite (fun h19 => ?_) (fun h19 => ?_)
      · refine zw_b (by omega) ?_
        refine zw_some ?_
        refine zw_ite (fun h20 => ?_) (fun h20 => ?_)
        · exfalso; omega
        · refine zw_bd (zw_eq (zu_call_at (zt_T n) (zm_257 n) (zdp_257 n) _ _ _ _ _ rfl (zr_257_0 n _ _ a0 1 m1)) ?_)
          generalize hmm21 : zu_up m1 a0 9 1 = m21
          have hIm21 := zi_up hmm21 hIm1 hc0 zb_3_9 (by omega) (by omega)
          have hFm21 := zfr_up hmm21 hFm1 hc0 rfl
          have hRBNm21 := zR_BN_fr (zdis_fr (zfr_up hmm21 (zfr_rf [(3, 10)] _) hc0 rfl) rfl) hRBNm1
          have hRK10m21 := zR_K10_fr (zdis_fr (zfr_up hmm21 (zfr_rf [(3, 10)] _) hc0 rfl) rfl) hRK10m1
          have hRTVm21 := zR_TV_fr (zdis_fr (zfr_up hmm21 (zfr_rf [(3, 10)] _) hc0 rfl) rfl) hRTVm1
          have r22 : 0 ≤ (m21 45 6) ∧ (m21 45 6) ≤ 700 := zi_rd hIm21 zq_45 zb_9_6
          generalize hmm23 : zu_up m21 a0 10 (m21 45 6) = m23
          have hIm23 := zi_up hmm23 hIm21 hc0 zb_3_10 (by omega) (by omega)
          have hFm23 := zfr_up hmm23 hFm21 hc0 rfl
          have hRBNm23 := zR_BN_fr (zdis_fr (zfr_up hmm23 (zfr_rf [(3, 11)] _) hc0 rfl) rfl) hRBNm21
          have hRK10m23 := zR_K10_fr (zdis_fr (zfr_up hmm23 (zfr_rf [(3, 11)] _) hc0 rfl) rfl) hRK10m21
          have hRTVm23 := zR_TV_fr (zdis_fr (zfr_up hmm23 (zfr_rf [(3, 11)] _) hc0 rfl) rfl) hRTVm21
          refine zw_b (by omega) ?_
          refine zw_some ?_
          refine zw_b (by omega) ?_
          refine zw_some ?_
          refine zw_ite (fun h24 => ?_) (fun h24 => ?_)
          · exfalso; omega
          · refine zw_b (by omega) ?_
            exact zw_some ⟨hIm23, hFm23, hRBNm23, hRK10m23, ⟨by omega, by omega⟩⟩
      · refine zw_b (by omega) ?_
        refine zw_some ?_
        refine zw_ite (fun h25 => ?_) (fun h25 => ?_)
        · have w26 := zu_w32_id (z := (m1 45 5) - 19) (by omega) (by omega)
          generalize hmm27 : zu_up m1 a0 7 (zu_w32 ((m1 45 5) - 19)) = m27
          have hIm27 := zi_up hmm27 hIm1 hc0 zb_3_7 (by omega) (by omega)
          have hFm27 := zfr_up hmm27 hFm1 hc0 rfl
          have hRBNm27 := zR_BN_fr (zdis_fr (zfr_up hmm27 (zfr_rf [(3, 8)] _) hc0 rfl) rfl) hRBNm1
          have hRK10m27 := zR_K10_fr (zdis_fr (zfr_up hmm27 (zfr_rf [(3, 8)] _) hc0 rfl) rfl) hRK10m1
          have hRTVm27 := zR_TV_fr (zdis_fr (zfr_up hmm27 (zfr_rf [(3, 8)] _) hc0 rfl) rfl) hRTVm1
          refine zw_b (by omega) ?_
          refine zw_some ?_
          refine zw_ite (fun h28 => ?_) (fun h28 => ?_)
          · have r29 : (-2147483648) ≤ (m27 a0 7) ∧ (m27 a0 7) ≤ 2147483647 := zi_rd hIm27 hc0 zb_3_7
            have e30 : (m27 a0 7) = (zu_w32 ((m1 45 5) - 19)) := (zs_eq hmm27)
            have b31 : 0 ≤ (m27 a0 7) ∧ (m27 a0 7) < 4 := by omega
            refine zw_if b31 ?_
            have r32 : (-1) ≤ (m27 ((6 + 4) + 3) (m27 a0 7)) ∧ (m27 ((6 + 4) + 3) (m27 a0 7)) ≤ 64 := zi_rd hIm27 (zc_5_2 (zc_4_9 zq_6)) (zb_35 _)
            refine zw_ite (fun h33 => ?_) (fun h33 => ?_)
            · refine zw_bd (zw_mono (zk_198 n hIm27 zq_47 ⟨by omega, by omega⟩ hRBNm27 hRK10m27) (fun v35 m34 hqm34 => ?_))
              obtain ⟨hIm34, hfm34, hvm34⟩ := hqm34
              have hFm34 := zfr_tr hFm27 hfm34 rfl
              obtain ⟨hRBNm34, hRK10m34, hvm34⟩ := hvm34
              refine zw_ite (fun h36 => ?_) (fun h36 => ?_)
              · refine zw_b (by omega) ?_
                exact zw_some ⟨hIm34, hFm34, hRBNm34, hRK10m34, ⟨by omega, by omega⟩⟩
              · refine zw_bd (zw_eq (zu_call_at (zt_T n) (zm_257 n) (zdp_257 n) _ _ _ _ _ rfl (zr_257_0 n _ _ a0 v35 m34)) ?_)
                generalize hmm37 : zu_up m34 a0 9 v35 = m37
                have hIm37 := zi_up hmm37 hIm34 hc0 zb_3_9 (by omega) (by omega)
                have hFm37 := zfr_up hmm37 hFm34 hc0 rfl
                have hRBNm37 := zR_BN_fr (zdis_fr (zfr_up hmm37 (zfr_rf [(3, 10)] _) hc0 rfl) rfl) hRBNm34
                have hRK10m37 := zR_K10_fr (zdis_fr (zfr_up hmm37 (zfr_rf [(3, 10)] _) hc0 rfl) rfl) hRK10m34
                have r38 : 0 ≤ (m37 45 6) ∧ (m37 45 6) ≤ 700 := zi_rd hIm37 zq_45 zb_9_6
                generalize hmm39 : zu_up m37 a0 10 (m37 45 6) = m39
                have hIm39 := zi_up hmm39 hIm37 hc0 zb_3_10 (by omega) (by omega)
                have hFm39 := zfr_up hmm39 hFm37 hc0 rfl
                have hRBNm39 := zR_BN_fr (zdis_fr (zfr_up hmm39 (zfr_rf [(3, 11)] _) hc0 rfl) rfl) hRBNm37
                have hRK10m39 := zR_K10_fr (zdis_fr (zfr_up hmm39 (zfr_rf [(3, 11)] _) hc0 rfl) rfl) hRK10m37
                refine zw_b (by omega) ?_
                refine zw_some ?_
                refine zw_ite (fun h40 => ?_) (fun h40 => ?_)
                · refine zw_b (by omega) ?_
                  exact zw_some ⟨hIm39, hFm39, hRBNm39, hRK10m39, ⟨by omega, by omega⟩⟩
                · exfalso; omega
            · refine zw_bd (zw_eq (zu_call_at (zt_T n) (zm_257 n) (zdp_257 n) _ _ _ _ _ rfl (zr_257_0 n _ _ a0 3 m27)) ?_)
              generalize hmm41 : zu_up m27 a0 9 3 = m41
              have hIm41 := zi_up hmm41 hIm27 hc0 zb_3_9 (by omega) (by omega)
              have hFm41 := zfr_up hmm41 hFm27 hc0 rfl
              have hRBNm41 := zR_BN_fr (zdis_fr (zfr_up hmm41 (zfr_rf [(3, 10)] _) hc0 rfl) rfl) hRBNm27
              have hRK10m41 := zR_K10_fr (zdis_fr (zfr_up hmm41 (zfr_rf [(3, 10)] _) hc0 rfl) rfl) hRK10m27
              have hRTVm41 := zR_TV_fr (zdis_fr (zfr_up hmm41 (zfr_rf [(3, 10)] _) hc0 rfl) rfl) hRTVm27
              have r42 : 0 ≤ (m41 45 6) ∧ (m41 45 6) ≤ 700 := zi_rd hIm41 zq_45 zb_9_6
              generalize hmm43 : zu_up m41 a0 10 (m41 45 6) = m43
              have hIm43 := zi_up hmm43 hIm41 hc0 zb_3_10 (by omega) (by omega)
              have hFm43 := zfr_up hmm43 hFm41 hc0 rfl
              have hRBNm43 := zR_BN_fr (zdis_fr (zfr_up hmm43 (zfr_rf [(3, 11)] _) hc0 rfl) rfl) hRBNm41
              have hRK10m43 := zR_K10_fr (zdis_fr (zfr_up hmm43 (zfr_rf [(3, 11)] _) hc0 rfl) rfl) hRK10m41
              have hRTVm43 := zR_TV_fr (zdis_fr (zfr_up hmm43 (zfr_rf [(3, 11)] _) hc0 rfl) rfl) hRTVm41
              refine zw_b (by omega) ?_
              refine zw_some ?_
              refine zw_b (by omega) ?_
              exact zw_some ⟨hIm43, hFm43, hRBNm43, hRK10m43, ⟨by omega, by omega⟩⟩
          · exfalso; omega
        · exfalso; omega
set_option maxHeartbeats 4000000 in
theorem zl_290 (n : Nat) {a0 a1 a2 a3 : Int} {m0 : zu_m} (hc0 : zcls a0 = 24)   : ∀ k : Nat, (∀ (x4 : Int) (mh : zu_m), zi_I mh → zfr [(56, 0), (59, 1), (59, 2), (59, 3), (59, 4), (59, 5), (59, 6), (59, 7), (87, 0), (88, 0), (89, 0), (90, 0), (91, 0)] m0 mh → (0 ≤ a1 ∧ a1 ≤ 3) → (0 ≤ a2 ∧ a2 ≤ 47) → (1 ≤ a3 ∧ a3 ≤ 18) → (0 ≤ x4 ∧ x4 ≤ 18) → (zR_K54 mh) → (18 - x4) * 1 + 0 < (k : Int) → zw (zu_ex (zt_T n) 290 3 [(33, a0), (0, a1), (0, a2), (0, a3), (0, x4)] [] mh) (fun v m => zi_I m ∧ zfr [(56, 0), (59, 1), (59, 2), (59, 3), (59, 4), (59, 5), (59, 6), (59, 7), (87, 0), (88, 0), (89, 0), (90, 0), (91, 0)] m0 m ∧ zR_K54 m ∧ True)) := by
  intro k
  induction k with
  | zero => exact fun x4 mh hImh hFmh hba1 hba2 hba3 hbx4 hRK54mh hM => by exfalso; omega
  | succ k ih =>
    intro x4 mh hImh hFmh hba1 hba2 hba3 hbx4 hRK54mh hM
    refine zw_eq (zu_rega_at (zt_T n) (zm_290 n) (zdp_290 n) _ _ _ _ _ _ (zr_290_3 n _ _ a0 a1 a2 a3 x4 mh)) ?_
    refine zw_ite (fun h1 => ?_) (fun h1 => ?_)
    · exact zw_some ⟨hImh, hFmh, hRK54mh, trivial⟩
    · refine zw_ite (fun h2 => ?_) (fun h2 => ?_)
      · exfalso; omega
      · have b3 : 0 ≤ a2 ∧ a2 < 48 := by omega
        refine zw_if b3 ?_
        have r4 : (-2147483648) ≤ (mh 157 a2) ∧ (mh 157 a2) ≤ 2147483647 := zi_rd hImh zq_157 (zb_88 _)
        refine zw_ite (fun h5 => ?_) (fun h5 => ?_)
        · exact zw_some ⟨hImh, hFmh, hRK54mh, trivial⟩
        · have b6 : 0 ≤ x4 ∧ x4 < 18 := by omega
          refine zw_if b6 ?_
          have r7 : 0 ≤ (mh 156 x4) ∧ (mh 156 x4) ≤ 1 := zi_rd hImh zq_156 (zb_87 _)
          refine zw_ite (fun h8 => ?_) (fun h8 => ?_)
          · have w9 := zu_w32_id (z := x4 + 1) (by omega) (by omega)
            have hM : (18 - (zu_w32 (x4 + 1))) * 1 + 0 < (k : Int) := by omega
            exact ih (zu_w32 (x4 + 1)) mh hImh hFmh ⟨by omega, by omega⟩ ⟨by omega, by omega⟩ ⟨by omega, by omega⟩ ⟨by omega, by omega⟩ hRK54mh hM
          · have b10 : 0 ≤ x4 ∧ x4 < 18 := by omega
            refine zw_if b10 ?_
            have r11 : 0 ≤ (mh 155 x4) ∧ (mh 155 x4) ≤ 47 := zi_rd hImh zq_155 (zb_86 _)
            refine zw_ite (fun h12 => ?_) (fun h12 => ?_)
            · have w13 := zu_w32_id (z := x4 + 1) (by omega) (by omega)
              have hM : (18 - (zu_w32 (x4 + 1))) * 1 + 0 < (k : Int) := by omega
              exact ih (zu_w32 (x4 + 1)) mh hImh hFmh ⟨by omega, by omega⟩ ⟨by omega, by omega⟩ ⟨by omega, by omega⟩ ⟨by omega, by omega⟩ hRK54mh hM
            · refine zw_bd (zw_mono (zk_291 n hImh hc0 ⟨by omega, by omega⟩ ⟨by omega, by omega⟩ hRK54mh) (fun v15 m14 hqm14 => ?_))
              obtain ⟨hIm14, hfm14, hvm14⟩ := hqm14
              have hFm14 := zfr_tr hFmh hfm14 rfl
              obtain ⟨hRK54m14, hvm14⟩ := hvm14
              refine zw_ite (fun h16 => ?_) (fun h16 => ?_)
              · have w17 := zu_w32_id (z := x4 + 1) (by omega) (by omega)
                have hM : (18 - (zu_w32 (x4 + 1))) * 1 + 0 < (k : Int) := by omega
                exact ih (zu_w32 (x4 + 1)) m14 hIm14 hFm14 ⟨by omega, by omega⟩ ⟨by omega, by omega⟩ ⟨by omega, by omega⟩ ⟨by omega, by omega⟩ hRK54m14 hM
              · refine zw_b (by omega) ?_
                have b18 : 0 ≤ x4 ∧ x4 < 18 := by omega
                refine zw_if b18 ?_
                generalize hmm19 : zu_up m14 156 x4 1 = m19
                have hIm19 := zi_up hmm19 hIm14 zq_156 (zb_87 _) (by omega) (by omega)
                have hFm19 := zfr_up hmm19 hFm14 zq_156 rfl
                have hRK54m19 := zR_K54_fr (zdis_fr (zfr_up hmm19 (zfr_rf [(87, 0)] _) zq_156 rfl) rfl) hRK54m14
                have b20 : 0 ≤ a2 ∧ a2 < 48 := by omega
                refine zw_if b20 ?_
                have r21 : (-2147483648) ≤ (m19 157 a2) ∧ (m19 157 a2) ≤ 2147483647 := zi_rd hIm19 zq_157 (zb_88 _)
                have e22 : (m19 157 a2) = (mh 157 a2) := (Eq.trans (zs_ne hmm19 (Or.inl (zc_ne zq_157 zq_156 (by decide)))) (zfr_ap hfm14 zq_157 rfl))
                have w23 := zu_w32_id (z := (m19 157 a2) - 1) (by omega) (by omega)
                have b24 : 0 ≤ a2 ∧ a2 < 48 := by omega
                refine zw_if b24 ?_
                generalize hmm25 : zu_up m19 157 a2 (zu_w32 ((m19 157 a2) - 1)) = m25
                have hIm25 := zi_up hmm25 hIm19 zq_157 (zb_88 _) (by omega) (by omega)
                have hFm25 := zfr_up hmm25 hFm19 zq_157 rfl
                have hRK54m25 := zR_K54_fr (zdis_fr (zfr_up hmm25 (zfr_rf [(88, 0)] _) zq_157 rfl) rfl) hRK54m19
                have b26 : 0 ≤ a1 ∧ a1 < 4 := by omega
                refine zw_if b26 ?_
                have r27 : (-2147483648) ≤ (m25 158 a1) ∧ (m25 158 a1) ≤ 2147483647 := zi_rd hIm25 zq_158 (zb_89 _)
                have w28 := zu_w32_rg ((m25 158 a1) + 1)
                have b29 : 0 ≤ a1 ∧ a1 < 4 := by omega
                refine zw_if b29 ?_
                generalize hmm30 : zu_up m25 158 a1 (zu_w32 ((m25 158 a1) + 1)) = m30
                have hIm30 := zi_up hmm30 hIm25 zq_158 (zb_89 _) (by omega) (by omega)
                have hFm30 := zfr_up hmm30 hFm25 zq_158 rfl
                have hRK54m30 := zR_K54_fr (zdis_fr (zfr_up hmm30 (zfr_rf [(89, 0)] _) zq_158 rfl) rfl) hRK54m25
                have w31 := zu_w32_id (z := x4 + 1) (by omega) (by omega)
                have hM : (18 - (zu_w32 (x4 + 1))) * 1 + 0 < (k : Int) := by omega
                exact ih (zu_w32 (x4 + 1)) m30 hIm30 hFm30 ⟨by omega, by omega⟩ ⟨by omega, by omega⟩ ⟨by omega, by omega⟩ ⟨by omega, by omega⟩ hRK54m30 hM
set_option maxHeartbeats 4000000 in
theorem zk_290 (n : Nat) {a0 a1 a2 a3 : Int} {m0 : zu_m} (hIm0 : zi_I m0) (hc0 : zcls a0 = 24) (ha1 : 0 ≤ a1 ∧ a1 ≤ 3) (ha2 : 0 ≤ a2 ∧ a2 ≤ 47) (ha3 : 1 ≤ a3 ∧ a3 ≤ 18)    (hRK54m0 : zR_K54 m0) : zw (zu_call (zt_T n) 290 [(33, a0), (0, a1), (0, a2), (0, a3)] m0) (fun v m => zi_I m ∧ zfr [(56, 0), (59, 1), (59, 2), (59, 3), (59, 4), (59, 5), (59, 6), (59, 7), (87, 0), (88, 0), (89, 0), (90, 0), (91, 0)] m0 m ∧ zR_K54 m ∧ True) := by
  have hFm0 : zfr [(56, 0), (59, 1), (59, 2), (59, 3), (59, 4), (59, 5), (59, 6), (59, 7), (87, 0), (88, 0), (89, 0), (90, 0), (91, 0)] m0 m0 := zfr_rf _ _
  refine zw_eq (zu_call_at (zt_T n) (zm_290 n) (zdp_290 n) _ _ _ _ _ rfl (zr_290_0 n _ _ a0 a1 a2 a3 m0)) ?_
  have hM : (18 - 0) * 1 + 0 < ((19 : Nat) : Int) := by omega
  exact (zl_290 n (m0 := m0) hc0 19) 0 m0 hIm0 hFm0 ⟨by omega, by omega⟩ ⟨by omega, by omega⟩ ⟨by omega, by omega⟩ ⟨by omega, by omega⟩ hRK54m0 hM
set_option maxHeartbeats 4000000 in
theorem zl_33 (n : Nat) {a0 : Int} {m0 : zu_m} (hc0 : zcls a0 = 28)   : ∀ k : Nat, (∀ (x1 : Int) (mh : zu_m), zi_I mh → zfr [(28, 54), (28, 63), (28, 64), (28, 65), (28, 66), (28, 67), (28, 68), (28, 69), (28, 70), (28, 78), (28, 79), (28, 82), (28, 84), (122, 0), (123, 0), (124, 0), (125, 0), (126, 0), (127, 0), (128, 0), (129, 0), (130, 0), (131, 0)] m0 mh → (0 ≤ x1 ∧ x1 ≤ 4) → ((-1) ≤ mh a0 62 ∧ mh a0 62 ≤ 99999) → ((-1) ≤ mh a0 63 ∧ mh a0 63 ≤ 99999) → (zR_KN mh) → (4 - x1) * 1 + 49 < (k : Int) → zw (zu_ex (zt_T n) 33 32 [(40, a0), (0, x1)] [] mh) (fun v m => zi_I m ∧ zfr [(28, 54), (28, 63), (28, 64), (28, 65), (28, 66), (28, 67), (28, 68), (28, 69), (28, 70), (28, 78), (28, 79), (28, 82), (28, 84), (122, 0), (123, 0), (124, 0), (125, 0), (126, 0), (127, 0), (128, 0), (129, 0), (130, 0), (131, 0)] m0 m ∧ zR_KN m ∧ True ∧ ((-1) ≤ m a0 62 ∧ m a0 62 ≤ 99999) ∧ ((-1) ≤ m a0 63 ∧ m a0 63 ≤ 99999) ∧ (0 ≤ m a0 77 ∧ m a0 77 ≤ 0) ∧ ((-1) ≤ m a0 78 ∧ m a0 78 ≤ (-1)) ∧ (0 ≤ m a0 81 ∧ m a0 81 ≤ 0) ∧ (0 ≤ m a0 83 ∧ m a0 83 ≤ 0))) ∧ (∀ (x1 : Int) (mh : zu_m), zi_I mh → zfr [(28, 54), (28, 63), (28, 64), (28, 65), (28, 66), (28, 67), (28, 68), (28, 69), (28, 70), (28, 78), (28, 79), (28, 82), (28, 84), (122, 0), (123, 0), (124, 0), (125, 0), (126, 0), (127, 0), (128, 0), (129, 0), (130, 0), (131, 0)] m0 mh → (0 ≤ x1 ∧ x1 ≤ 48) → ((-1) ≤ mh a0 62 ∧ mh a0 62 ≤ 99999) → ((-1) ≤ mh a0 63 ∧ mh a0 63 ≤ 99999) → (zR_KN mh) → (48 - x1) * 1 + 0 < (k : Int) → zw (zu_ex (zt_T n) 33 52 [(40, a0), (0, x1)] [] mh) (fun v m => zi_I m ∧ zfr [(28, 54), (28, 63), (28, 64), (28, 65), (28, 66), (28, 67), (28, 68), (28, 69), (28, 70), (28, 78), (28, 79), (28, 82), (28, 84), (122, 0), (123, 0), (124, 0), (125, 0), (126, 0), (127, 0), (128, 0), (129, 0), (130, 0), (131, 0)] m0 m ∧ zR_KN m ∧ True ∧ ((-1) ≤ m a0 62 ∧ m a0 62 ≤ 99999) ∧ ((-1) ≤ m a0 63 ∧ m a0 63 ≤ 99999) ∧ (0 ≤ m a0 77 ∧ m a0 77 ≤ 0) ∧ ((-1) ≤ m a0 78 ∧ m a0 78 ≤ (-1)) ∧ (0 ≤ m a0 81 ∧ m a0 81 ≤ 0) ∧ (0 ≤ m a0 83 ∧ m a0 83 ≤ 0))) := by
  intro k
  induction k with
  | zero => exact ⟨fun x1 mh hImh hFmh hbx1 hg1 hg2 hRKNmh hM => by exfalso; omega, fun x1 mh hImh hFmh hbx1 hg1 hg2 hRKNmh hM => by exfalso; omega⟩
  | succ k ih =>
    refine ⟨?_, ?_⟩
    · intro x1 mh hImh hFmh hbx1 hg1 hg2 hRKNmh hM
      refine zw_eq (zu_rega_at (zt_T n) (zm_33 n) (zdp_33 n) _ _ _ _ _ _ (zr_33_32 n _ _ a0 x1 mh)) ?_
      refine zw_ite (fun h1 => ?_) (fun h1 => ?_)
      · have hM : (48 - 0) * 1 + 0 < (k : Int) := by omega
        exact ih.2 0 mh hImh hFmh ⟨by omega, by omega⟩ ⟨by omega, by omega⟩ ⟨by omega, by omega⟩ hRKNmh hM
      · have b2 : 0 ≤ x1 ∧ x1 < 4 := by omega
        refine zw_if b2 ?_
        generalize hmm3 : zu_up mh 219 x1 0 = m3
        have hIm3 := zi_up hmm3 hImh zq_219 (zb_128 _) (by omega) (by omega)
        have hFm3 := zfr_up hmm3 hFmh zq_219 rfl
        have hRKNm3 := zR_KN_fr (zdis_fr (zfr_up hmm3 (zfr_rf [(128, 0)] _) zq_219 rfl) rfl) hRKNmh
        have w4 := zu_w32_id (z := x1 + 1) (by omega) (by omega)
        have r5 : (-2147483648) ≤ (m3 a0 62) ∧ (m3 a0 62) ≤ 2147483647 := zi_rd hIm3 hc0 zb_28_62
        have e6 : (m3 a0 62) = (mh a0 62) := (zs_ne hmm3 (Or.inl (zc_ne hc0 zq_219 (by decide))))
        have r7 : (-9223372036854775808) ≤ (m3 a0 63) ∧ (m3 a0 63) ≤ 9223372036854775807 := zi_rd hIm3 hc0 zb_28_63
        have e8 : (m3 a0 63) = (mh a0 63) := (zs_ne hmm3 (Or.inl (zc_ne hc0 zq_219 (by decide))))
        have hM : (4 - (zu_w32 (x1 + 1))) * 1 + 49 < (k : Int) := by omega
        exact ih.1 (zu_w32 (x1 + 1)) m3 hIm3 hFm3 ⟨by omega, by omega⟩ ⟨by omega, by omega⟩ ⟨by omega, by omega⟩ hRKNm3 hM
    · intro x1 mh hImh hFmh hbx1 hg1 hg2 hRKNmh hM
      refine zw_eq (zu_rega_at (zt_T n) (zm_33 n) (zdp_33 n) _ _ _ _ _ _ (zr_33_52 n _ _ a0 x1 mh)) ?_
      refine zw_ite (fun h9 => ?_) (fun h9 => ?_)
      · generalize hmm10 : zu_up mh a0 77 0 = m10
        have hIm10 := zi_up hmm10 hImh hc0 zb_28_77 (by omega) (by omega)
        have hFm10 := zfr_up hmm10 hFmh hc0 rfl
        have hRKNm10 := zR_KN_fr (zdis_fr (zfr_up hmm10 (zfr_rf [(28, 78)] _) hc0 rfl) rfl) hRKNmh
        generalize hmm11 : zu_up m10 a0 78 (-1) = m11
        have hIm11 := zi_up hmm11 hIm10 hc0 zb_28_78 (by omega) (by omega)
        have hFm11 := zfr_up hmm11 hFm10 hc0 rfl
        have hRKNm11 := zR_KN_fr (zdis_fr (zfr_up hmm11 (zfr_rf [(28, 79)] _) hc0 rfl) rfl) hRKNm10
        generalize hmm12 : zu_up m11 a0 81 0 = m12
        have hIm12 := zi_up hmm12 hIm11 hc0 zb_28_81 (by omega) (by omega)
        have hFm12 := zfr_up hmm12 hFm11 hc0 rfl
        have hRKNm12 := zR_KN_fr (zdis_fr (zfr_up hmm12 (zfr_rf [(28, 82)] _) hc0 rfl) rfl) hRKNm11
        refine zw_b (by omega) ?_
        generalize hmm13 : zu_up m12 a0 83 0 = m13
        have hIm13 := zi_up hmm13 hIm12 hc0 zb_28_83 (by omega) (by omega)
        have hFm13 := zfr_up hmm13 hFm12 hc0 rfl
        have hRKNm13 := zR_KN_fr (zdis_fr (zfr_up hmm13 (zfr_rf [(28, 84)] _) hc0 rfl) rfl) hRKNm12
        have r14 : (-2147483648) ≤ (m13 a0 62) ∧ (m13 a0 62) ≤ 2147483647 := zi_rd hIm13 hc0 zb_28_62
        have e15 : (m13 a0 62) = (mh a0 62) := (Eq.trans (zs_ne hmm13 (Or.inr (by decide))) (Eq.trans (zs_ne hmm12 (Or.inr (by decide))) (Eq.trans (zs_ne hmm11 (Or.inr (by decide))) (zs_ne hmm10 (Or.inr (by decide))))))
        have r16 : (-9223372036854775808) ≤ (m13 a0 63) ∧ (m13 a0 63) ≤ 9223372036854775807 := zi_rd hIm13 hc0 zb_28_63
        have e17 : (m13 a0 63) = (mh a0 63) := (Eq.trans (zs_ne hmm13 (Or.inr (by decide))) (Eq.trans (zs_ne hmm12 (Or.inr (by decide))) (Eq.trans (zs_ne hmm11 (Or.inr (by decide))) (zs_ne hmm10 (Or.inr (by decide))))))
        have r18 : 0 ≤ (m13 a0 77) ∧ (m13 a0 77) ≤ 24 := zi_rd hIm13 hc0 zb_28_77
        have e19 : (m13 a0 77) = 0 := (Eq.trans (zs_ne hmm13 (Or.inr (by decide))) (Eq.trans (zs_ne hmm12 (Or.inr (by decide))) (Eq.trans (zs_ne hmm11 (Or.inr (by decide))) (zs_eq hmm10))))
        have r20 : (-1) ≤ (m13 a0 78) ∧ (m13 a0 78) ≤ 24 := zi_rd hIm13 hc0 zb_28_78
        have e21 : (m13 a0 78) = (-1) := (Eq.trans (zs_ne hmm13 (Or.inr (by decide))) (Eq.trans (zs_ne hmm12 (Or.inr (by decide))) (zs_eq hmm11)))
        have r22 : 0 ≤ (m13 a0 81) ∧ (m13 a0 81) ≤ 20 := zi_rd hIm13 hc0 zb_28_81
        have e23 : (m13 a0 81) = 0 := (Eq.trans (zs_ne hmm13 (Or.inr (by decide))) (zs_eq hmm12))
        have r24 : 0 ≤ (m13 a0 83) ∧ (m13 a0 83) ≤ 1 := zi_rd hIm13 hc0 zb_28_83
        have e25 : (m13 a0 83) = 0 := (zs_eq hmm13)
        exact zw_some ⟨hIm13, hFm13, hRKNm13, trivial, ⟨by omega, by omega⟩, ⟨by omega, by omega⟩, ⟨by omega, by omega⟩, ⟨by omega, by omega⟩, ⟨by omega, by omega⟩, ⟨by omega, by omega⟩⟩
      · refine zw_bd (zw_eq (zu_call_at (zt_T n) (zm_36 n) (zdp_36 n) _ _ _ _ _ rfl (zr_36_0 n _ _ a0 mh)) ?_)
        have r26 : 1 ≤ (mh a0 12) ∧ (mh a0 12) ≤ 8 := zi_rd hImh hc0 zb_28_12
        have r27 : 1 ≤ (mh a0 13) ∧ (mh a0 13) ≤ 6 := zi_rd hImh hc0 zb_28_13
        have p28 := zmul_bd (x := (mh a0 12)) (y := (mh a0 13)) (a := 1) (b := 1) (A := 8) (B := 6) (by omega) (by omega) (by omega) (by omega) (by omega) (by omega)
        have w29 := zu_w32_id (z := (mh a0 12) * (mh a0 13)) (by omega) (by omega)
        refine zw_some ?_
        refine zw_ite (fun h30 => ?_) (fun h30 => ?_)
        · have b31 : 0 ≤ x1 ∧ x1 < 48 := by omega
          refine zw_if b31 ?_
          generalize hmm32 : zu_up mh 222 x1 0 = m32
          have hIm32 := zi_up hmm32 hImh zq_222 (zb_131 _) (by omega) (by omega)
          have hFm32 := zfr_up hmm32 hFmh zq_222 rfl
          have hRKNm32 := zR_KN_fr (zdis_fr (zfr_up hmm32 (zfr_rf [(131, 0)] _) zq_222 rfl) rfl) hRKNmh
          have w33 := zu_w32_id (z := x1 + 1) (by omega) (by omega)
          have r34 : (-2147483648) ≤ (m32 a0 62) ∧ (m32 a0 62) ≤ 2147483647 := zi_rd hIm32 hc0 zb_28_62
          have e35 : (m32 a0 62) = (mh a0 62) := (zs_ne hmm32 (Or.inl (zc_ne hc0 zq_222 (by decide))))
          have r36 : (-9223372036854775808) ≤ (m32 a0 63) ∧ (m32 a0 63) ≤ 9223372036854775807 := zi_rd hIm32 hc0 zb_28_63
          have e37 : (m32 a0 63) = (mh a0 63) := (zs_ne hmm32 (Or.inl (zc_ne hc0 zq_222 (by decide))))
          have hM : (48 - (zu_w32 (x1 + 1))) * 1 + 0 < (k : Int) := by omega
          exact ih.2 (zu_w32 (x1 + 1)) m32 hIm32 hFm32 ⟨by omega, by omega⟩ ⟨by omega, by omega⟩ ⟨by omega, by omega⟩ hRKNm32 hM
        · refine zw_bd (zw_mono (zk_37 n hImh hc0 ⟨by omega, by omega⟩ hRKNmh) (fun v39 m38 hqm38 => ?_))
          obtain ⟨hIm38, hfm38, hvm38⟩ := hqm38
          have hFm38 := zfr_tr hFmh hfm38 rfl
          obtain ⟨hRKNm38, hvm38⟩ := hvm38
          have w40 := zu_w32_rg (1000 * v39)
          have b41 : 0 ≤ x1 ∧ x1 < 48 := by omega
          refine zw_if b41 ?_
          generalize hmm42 : zu_up m38 222 x1 (zu_w32 (1000 * v39)) = m42
          have hIm42 := zi_up hmm42 hIm38 zq_222 (zb_131 _) (by omega) (by omega)
          have hFm42 := zfr_up hmm42 hFm38 zq_222 rfl
          have hRKNm42 := zR_KN_fr (zdis_fr (zfr_up hmm42 (zfr_rf [(131, 0)] _) zq_222 rfl) rfl) hRKNm38
          have w43 := zu_w32_id (z := x1 + 1) (by omega) (by omega)
          have r44 : (-2147483648) ≤ (m42 a0 62) ∧ (m42 a0 62) ≤ 2147483647 := zi_rd hIm42 hc0 zb_28_62
          have e45 : (m42 a0 62) = (mh a0 62) := (Eq.trans (zs_ne hmm42 (Or.inl (zc_ne hc0 zq_222 (by decide)))) (zfr_ap hfm38 hc0 rfl))
          have r46 : (-9223372036854775808) ≤ (m42 a0 63) ∧ (m42 a0 63) ≤ 9223372036854775807 := zi_rd hIm42 hc0 zb_28_63
          have e47 : (m42 a0 63) = (mh a0 63) := (Eq.trans (zs_ne hmm42 (Or.inl (zc_ne hc0 zq_222 (by decide)))) (zfr_ap hfm38 hc0 rfl))
          have hM : (48 - (zu_w32 (x1 + 1))) * 1 + 0 < (k : Int) := by omega
          exact ih.2 (zu_w32 (x1 + 1)) m42 hIm42 hFm42 ⟨by omega, by omega⟩ ⟨by omega, by omega⟩ ⟨by omega, by omega⟩ hRKNm42 hM
set_option maxHeartbeats 4000000 in
theorem zk_33 (n : Nat) {a0 : Int} {m0 : zu_m} (hIm0 : zi_I m0) (hc0 : zcls a0 = 28)     (hRKNm0 : zR_KN m0) : zw (zu_call (zt_T n) 33 [(40, a0)] m0) (fun v m => zi_I m ∧ zfr [(28, 54), (28, 63), (28, 64), (28, 65), (28, 66), (28, 67), (28, 68), (28, 69), (28, 70), (28, 78), (28, 79), (28, 82), (28, 84), (122, 0), (123, 0), (124, 0), (125, 0), (126, 0), (127, 0), (128, 0), (129, 0), (130, 0), (131, 0)] m0 m ∧ zR_KN m ∧ True ∧ ((-1) ≤ m a0 62 ∧ m a0 62 ≤ 99999) ∧ ((-1) ≤ m a0 63 ∧ m a0 63 ≤ 99999) ∧ (0 ≤ m a0 77 ∧ m a0 77 ≤ 0) ∧ ((-1) ≤ m a0 78 ∧ m a0 78 ≤ (-1)) ∧ (0 ≤ m a0 81 ∧ m a0 81 ≤ 0) ∧ (0 ≤ m a0 83 ∧ m a0 83 ≤ 0)) := by
  have hFm0 : zfr [(28, 54), (28, 63), (28, 64), (28, 65), (28, 66), (28, 67), (28, 68), (28, 69), (28, 70), (28, 78), (28, 79), (28, 82), (28, 84), (122, 0), (123, 0), (124, 0), (125, 0), (126, 0), (127, 0), (128, 0), (129, 0), (130, 0), (131, 0)] m0 m0 := zfr_rf _ _
  refine zw_eq (zu_call_at (zt_T n) (zm_33 n) (zdp_33 n) _ _ _ _ _ rfl (zr_33_0 n _ _ a0 m0)) ?_
  refine zw_bd (zw_mono (zk_34 n hIm0 hc0 ⟨by omega, by omega⟩) (fun v49 m48 hqm48 => ?_))
  obtain ⟨hIm48, hfm48, hvm48⟩ := hqm48
  have hFm48 := zfr_tr hFm0 hfm48 rfl
  have hRKNm48 := zR_KN_fr (zdis_fr hfm48 rfl) hRKNm0
  have b50 : 0 ≤ (0 : Int) ∧ (0 : Int) < 10 := by omega
  refine zw_if b50 ?_
  have r51 : (-1) ≤ (m48 194 0) ∧ (m48 194 0) ≤ 99999 := zi_rd hIm48 zq_194 (zb_103 _)
  generalize hmm52 : zu_up m48 a0 62 (m48 194 0) = m52
  have hIm52 := zi_up hmm52 hIm48 hc0 zb_28_62 (by omega) (by omega)
  have hFm52 := zfr_up hmm52 hFm48 hc0 rfl
  have hRKNm52 := zR_KN_fr (zdis_fr (zfr_up hmm52 (zfr_rf [(28, 63)] _) hc0 rfl) rfl) hRKNm48
  have b53 : 0 ≤ (4 : Int) ∧ (4 : Int) < 10 := by omega
  refine zw_if b53 ?_
  have r54 : (-1) ≤ (m52 194 4) ∧ (m52 194 4) ≤ 99999 := zi_rd hIm52 zq_194 (zb_103 _)
  generalize hmm55 : zu_up m52 a0 63 (m52 194 4) = m55
  have hIm55 := zi_up hmm55 hIm52 hc0 zb_28_63 (by omega) (by omega)
  have hFm55 := zfr_up hmm55 hFm52 hc0 rfl
  have hRKNm55 := zR_KN_fr (zdis_fr (zfr_up hmm55 (zfr_rf [(28, 64)] _) hc0 rfl) rfl) hRKNm52
  refine zw_bd (zw_mono (zk_35 n hIm55 hc0) (fun v57 m56 hqm56 => ?_))
  obtain ⟨hIm56, hfm56, hvm56⟩ := hqm56
  have hFm56 := zfr_tr hFm55 hfm56 rfl
  have hRKNm56 := zR_KN_fr (zdis_fr hfm56 rfl) hRKNm55
  have r58 : (-2147483648) ≤ (m56 a0 62) ∧ (m56 a0 62) ≤ 2147483647 := zi_rd hIm56 hc0 zb_28_62
  have e59 : (m56 a0 62) = (m48 194 0) := (Eq.trans (zfr_ap hfm56 hc0 rfl) (Eq.trans (zs_ne hmm55 (Or.inr (by decide))) (zs_eq hmm52)))
  have r60 : (-9223372036854775808) ≤ (m56 a0 63) ∧ (m56 a0 63) ≤ 9223372036854775807 := zi_rd hIm56 hc0 zb_28_63
  have e61 : (m56 a0 63) = (m52 194 4) := (Eq.trans (zfr_ap hfm56 hc0 rfl) (zs_eq hmm55))
  have hM : (4 - 0) * 1 + 49 < ((54 : Nat) : Int) := by omega
  exact (zl_33 n (m0 := m0) hc0 54).1 0 m56 hIm56 hFm56 ⟨by omega, by omega⟩ ⟨by omega, by omega⟩ ⟨by omega, by omega⟩ hRKNm56 hM
set_option maxHeartbeats 4000000 in
theorem zk_47 (n : Nat) {a0 a1 a2 : Int} {m0 : zu_m} (hIm0 : zi_I m0) (hc0 : zcls a0 = 2) (ha1 : (-2147483648) ≤ a1 ∧ a1 ≤ 2147483647) (ha2 : (-2147483648) ≤ a2 ∧ a2 ≤ 2147483647)    (hRK54m0 : zR_K54 m0) : zw (zu_call (zt_T n) 47 [(5, a0), (0, a1), (0, a2)] m0) (fun v m => zi_I m ∧ zfr [(56, 0), (59, 1), (59, 2), (59, 3), (59, 4), (59, 5), (59, 6), (59, 7)] m0 m ∧ zR_K54 m ∧ ((-2147483648) ≤ v ∧ v ≤ 2147483647)) := by
  have hFm0 : zfr [(56, 0), (59, 1), (59, 2), (59, 3), (59, 4), (59, 5), (59, 6), (59, 7)] m0 m0 := zfr_rf _ _
  refine zw_eq (zu_call_at (zt_T n) (zm_47 n) (zdp_47 n) _ _ _ _ _ rfl (zr_47_0 n _ _ a0 a1 a2 m0)) ?_
  refine zw_bd (zw_eq (zu_call_at (zt_T n) (zm_211 n) (zdp_211 n) _ _ _ _ _ rfl (zr_211_0 n _ _ 89 a1 m0)) ?_)
  refine zw_ite (fun h1 => ?_) (fun h1 => ?_)
  · refine zw_b (by omega) ?_
    refine zw_some ?_
    refine zw_ite (fun h2 => ?_) (fun h2 => ?_)
    · exfalso; omega
    · exact zw_some ⟨hIm0, hFm0, hRK54m0, ⟨by omega, by omega⟩⟩
  · have r3 : 0 ≤ (m0 89 4) ∧ (m0 89 4) ≤ 4 := zi_rd hIm0 zq_89 zb_16_4
    refine zw_ite (fun h4 => ?_) (fun h4 => ?_)
    · refine zw_b (by omega) ?_
      refine zw_some ?_
      refine zw_ite (fun h5 => ?_) (fun h5 => ?_)
      · exfalso; omega
      · exact zw_some ⟨hIm0, hFm0, hRK54m0, ⟨by omega, by omega⟩⟩
    · refine zw_b (by omega) ?_
      refine zw_some ?_
      refine zw_ite (fun h6 => ?_) (fun h6 => ?_)
      · have b7 : 0 ≤ a1 ∧ a1 < 4 := by omega
        refine zw_if b7 ?_
        refine zw_ite (fun h8 => ?_) (fun h8 => ?_)
        · have r9 : 0 ≤ (m0 ((89 + 2) + 20 + a1) 1) ∧ (m0 ((89 + 2) + 20 + a1) 1) ≤ 47 := zi_rd hIm0 (zc_66_e (zc_16_3 zq_89) b7) zb_18_1
          exact zw_some ⟨hIm0, hFm0, hRK54m0, ⟨by omega, by omega⟩⟩
        · refine zw_ite (fun h10 => ?_) (fun h10 => ?_)
          · have r11 : (-2147483648) ≤ (m0 ((89 + 2) + 20 + a1) 6) ∧ (m0 ((89 + 2) + 20 + a1) 6) ≤ 2147483647 := zi_rd hIm0 (zc_66_e (zc_16_3 zq_89) b7) zb_18_6
            exact zw_some ⟨hIm0, hFm0, hRK54m0, ⟨by omega, by omega⟩⟩
          · refine zw_ite (fun h12 => ?_) (fun h12 => ?_)
            · refine zw_bd (zw_mono (zk_236 n hIm0 zq_89 ⟨by omega, by omega⟩) (fun v14 m13 hqm13 => ?_))
              obtain ⟨hIm13, hfm13, hvm13⟩ := hqm13
              have hFm13 := zfr_tr hFm0 hfm13 rfl
              have hRK54m13 := zR_K54_fr (zdis_fr hfm13 rfl) hRK54m0
              exact zw_some ⟨hIm13, hFm13, hRK54m13, ⟨by omega, by omega⟩⟩
            · refine zw_ite (fun h15 => ?_) (fun h15 => ?_)
              · have r16 : (-2147483648) ≤ (m0 ((89 + 2) + 20 + a1) 5) ∧ (m0 ((89 + 2) + 20 + a1) 5) ≤ 2147483647 := zi_rd hIm0 (zc_66_e (zc_16_3 zq_89) b7) zb_18_5
                exact zw_some ⟨hIm0, hFm0, hRK54m0, ⟨by omega, by omega⟩⟩
              · refine zw_ite (fun h17 => ?_) (fun h17 => ?_)
                · refine zw_bd (zw_mono (zk_237 n hIm0 zq_89 ⟨by omega, by omega⟩ hRK54m0) (fun v19 m18 hqm18 => ?_))
                  obtain ⟨hIm18, hfm18, hvm18⟩ := hqm18
                  have hFm18 := zfr_tr hFm0 hfm18 rfl
                  obtain ⟨hRK54m18, hvm18⟩ := hvm18
                  exact zw_some ⟨hIm18, hFm18, hRK54m18, ⟨by omega, by omega⟩⟩
                · exact zw_some ⟨hIm0, hFm0, hRK54m0, ⟨by omega, by omega⟩⟩
      · exfalso; omega
set_option maxHeartbeats 4000000 in
theorem zk_57 (n : Nat) {a0 a1 : Int} {m0 : zu_m} (hIm0 : zi_I m0) (hc0 : zcls a0 = 2) (ha1 : (-2147483648) ≤ a1 ∧ a1 ≤ 2147483647)    (hRK54m0 : zR_K54 m0) : zw (zu_call (zt_T n) 57 [(5, a0), (0, a1)] m0) (fun v m => zi_I m ∧ zfr [(16, 9), (16, 10), (17, 4), (18, 2), (18, 6), (18, 7), (18, 8), (23, 5), (56, 0), (59, 1), (59, 2), (59, 3), (59, 4), (59, 5), (59, 6), (59, 7), (67, 0), (68, 0)] m0 m ∧ zR_K54 m ∧ ((-1) ≤ v ∧ v ≤ 9999)) := by
  have hFm0 : zfr [(16, 9), (16, 10), (17, 4), (18, 2), (18, 6), (18, 7), (18, 8), (23, 5), (56, 0), (59, 1), (59, 2), (59, 3), (59, 4), (59, 5), (59, 6), (59, 7), (67, 0), (68, 0)] m0 m0 := zfr_rf _ _
  refine zw_eq (zu_call_at (zt_T n) (zm_57 n) (zdp_57 n) _ _ _ _ _ rfl (zr_57_0 n _ _ a0 a1 m0)) ?_
  refine zw_ite (fun h1 => ?_) (fun h1 => ?_)
  · exact zw_some ⟨hIm0, hFm0, hRK54m0, ⟨by omega, by omega⟩⟩
  · refine zw_ite (fun h2 => ?_) (fun h2 => ?_)
    · exact zw_some ⟨hIm0, hFm0, hRK54m0, ⟨by omega, by omega⟩⟩
    · have r3 : 0 ≤ (m0 89 8) ∧ (m0 89 8) ≤ 9999 := zi_rd hIm0 zq_89 zb_16_8
      have w4 := zu_w32_id (z := (m0 89 8) + a1) (by omega) (by omega)
      refine zw_ite (fun h5 => ?_) (fun h5 => ?_)
      · refine zw_bd (zw_mono (zk_214_16 n hIm0 zq_89 ⟨by omega, by omega⟩ ⟨by omega, by omega⟩ (by omega) hRK54m0) (fun v7 m6 hqm6 => ?_))
        obtain ⟨hIm6, hfm6, hvm6⟩ := hqm6
        have hFm6 := zfr_tr hFm0 hfm6 rfl
        obtain ⟨hRK54m6, hvm6⟩ := hvm6
        refine zw_ite (fun h8 => ?_) (fun h8 => ?_)
        · have r9 : 0 ≤ (m6 89 8) ∧ (m6 89 8) ≤ 9999 := zi_rd hIm6 zq_89 zb_16_8
          exact zw_some ⟨hIm6, hFm6, hRK54m6, ⟨by omega, by omega⟩⟩
        · refine zw_bd (zw_mono (zk_28 n hIm6 zq_148) (fun v11 m10 hqm10 => ?_))
          obtain ⟨hIm10, hfm10, hvm10⟩ := hqm10
          have hFm10 := zfr_tr hFm6 hfm10 rfl
          have hRK54m10 := zR_K54_fr (zdis_fr hfm10 rfl) hRK54m6
          have r12 : 0 ≤ (m10 89 8) ∧ (m10 89 8) ≤ 9999 := zi_rd hIm10 zq_89 zb_16_8
          exact zw_some ⟨hIm10, hFm10, hRK54m10, ⟨by omega, by omega⟩⟩
      · exact zw_some ⟨hIm0, hFm0, hRK54m0, ⟨by omega, by omega⟩⟩
set_option maxHeartbeats 4000000 in
theorem zk_71 (n : Nat) {a0 a1 : Int} {m0 : zu_m} (hIm0 : zi_I m0) (hc0 : zcls a0 = 2) (ha1 : (-2147483648) ≤ a1 ∧ a1 ≤ 2147483647)    (hRK54m0 : zR_K54 m0) : zw (zu_call (zt_T n) 71 [(5, a0), (0, a1)] m0) (fun v m => zi_I m ∧ zfr [(56, 0), (59, 1), (59, 2), (59, 3), (59, 4), (59, 5), (59, 6), (59, 7), (69, 0)] m0 m ∧ zR_K54 m ∧ ((-8) ≤ v ∧ v ≤ 3)) := by
  have hFm0 : zfr [(56, 0), (59, 1), (59, 2), (59, 3), (59, 4), (59, 5), (59, 6), (59, 7), (69, 0)] m0 m0 := zfr_rf _ _
  refine zw_eq (zu_call_at (zt_T n) (zm_71 n) (zdp_71 n) _ _ _ _ _ rfl (zr_71_0 n _ _ a0 a1 m0)) ?_
  refine zw_bd (zw_eq (zu_call_at (zt_T n) (zm_210 n) (zdp_210 n) _ _ _ _ _ rfl (zr_210_0 n _ _ 89 a1 m0)) ?_)
  refine zw_ite (fun h1 => ?_) (fun h1 => ?_)
  · refine zw_b (by omega) ?_
    refine zw_some ?_
    refine zw_ite (fun h2 => ?_) (fun h2 => ?_)
    · exact zw_some ⟨hIm0, hFm0, hRK54m0, ⟨by omega, by omega⟩⟩
    · exfalso; omega
  · have r3 : 0 ≤ (m0 89 2) ∧ (m0 89 2) ≤ 16 := zi_rd hIm0 zq_89 zb_16_2
    refine zw_ite (fun h4 => ?_) (fun h4 => ?_)
    · refine zw_b (by omega) ?_
      refine zw_some ?_
      refine zw_ite (fun h5 => ?_) (fun h5 => ?_)
      · exact zw_some ⟨hIm0, hFm0, hRK54m0, ⟨by omega, by omega⟩⟩
      · exfalso; omega
    · refine zw_b (by omega) ?_
      refine zw_some ?_
      refine zw_ite (fun h6 => ?_) (fun h6 => ?_)
      · exfalso; omega
      · refine zw_bd (zw_mono (zk_243 n hIm0 zq_89 ⟨by omega, by omega⟩ ⟨by omega, by omega⟩ hRK54m0) (fun v8 m7 hqm7 => ?_))
        obtain ⟨hIm7, hfm7, hvm7⟩ := hqm7
        have hFm7 := zfr_tr hFm0 hfm7 rfl
        obtain ⟨hRK54m7, hvm7⟩ := hvm7
        exact zw_some ⟨hIm7, hFm7, hRK54m7, ⟨by omega, by omega⟩⟩

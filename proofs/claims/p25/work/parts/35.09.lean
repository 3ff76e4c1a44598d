set_option maxHeartbeats 4000000 in
theorem zl_117H0 (n : Nat) {a0 : Int} {m0 : zu_m} (hc0 : zcls a0 = 28)  (hxp0 : (m0 a0 21) + znz m0 = (m0 a0 48)) (hxp1 : (m0 a0 45) = znz m0 + (m0 a0 47)) (hxp2 : (m0 a0 46) = zbi m0 + 1) (hxp3 : (m0 a0 49) = 0) (hxp4 : 1 ≤ (m0 a0 21)) (k : Nat) (ih : (∀ (mh : zu_m), zi_I mh → zfr [(28, 5), (28, 6), (28, 8), (28, 9), (28, 10), (28, 11), (28, 22), (28, 46), (28, 47), (28, 48), (28, 49), (28, 50), (28, 51), (117, 0), (118, 0), (119, 0), (120, 0), (121, 0)] m0 mh → (0 ≤ mh a0 49 ∧ mh a0 49 ≤ 0) → ((mh a0 21) + znz mh = (mh a0 48)) → ((mh a0 45) = znz mh + (mh a0 47)) → ((mh a0 46) = zbi mh + 1) → (1 ≤ (mh a0 21)) → ((mh a0 7) = (m0 a0 7)) → ((mh a0 8) = (m0 a0 8)) → ((mh a0 4) = (m0 a0 4)) → (zR_KN mh) → (zR_NS mh) → (zR_TR mh) → (zR_WD mh) → 2 < (k : Int) → zw (zu_ex (zt_T n) 117 47 [(40, a0), (2, 0)] [] mh) (fun v m => zi_I m ∧ zfr [(28, 5), (28, 6), (28, 8), (28, 9), (28, 10), (28, 11), (28, 22), (28, 46), (28, 47), (28, 48), (28, 49), (28, 50), (28, 51), (117, 0), (118, 0), (119, 0), (120, 0), (121, 0)] m0 m ∧ zR_KN m ∧ zR_NS m ∧ zR_TR m ∧ zR_WD m ∧ (0 ≤ v ∧ v ≤ 1) ∧ ((m0 a0 7) ≤ (m a0 7)) ∧ (v = 1 → ((m0 a0 8) ≠ 0 ∧ ((m a0 8) = 0 ∨ (m0 a0 7) < (m a0 7)))) ∧ (v = 1 → (m a0 21) + znz m = (m a0 48)) ∧ (v = 1 → (m a0 46) + (m a0 49) = zbi m + 1) ∧ (v = 1 → (m a0 45) = znz m + (m a0 47)) ∧ (v = 1 → ((m a0 49) = 0 → 1 ≤ (m a0 21))) ∧ (v = 1 → (m a0 4) = (m0 a0 4)) ∧ (v = 0 → (m a0 4) ≠ 0))) ∧ (∀ (y0 : Int) (mh : zu_m), zi_I mh → zfr [(28, 5), (28, 6), (28, 8), (28, 9), (28, 10), (28, 11), (28, 22), (28, 46), (28, 47), (28, 48), (28, 49), (28, 50), (28, 51), (117, 0), (118, 0), (119, 0), (120, 0), (121, 0)] m0 mh → (0 ≤ y0 ∧ y0 ≤ 14) → (0 ≤ mh a0 49 ∧ mh a0 49 ≤ 0) → ((mh a0 21) + znz mh = (mh a0 48)) → ((mh a0 45) = znz mh + (mh a0 47)) → ((mh a0 46) = zbi mh + 1) → (1 ≤ (mh a0 21)) → ((mh a0 7) = (m0 a0 7)) → (y0 ≠ 0 → (m0 a0 8) ≠ 0) → (y0 = 0 ∨ 3 ≤ y0) → ((mh a0 4) = (m0 a0 4)) → (zR_KN mh) → (zR_NS mh) → (zR_TR mh) → (zR_WD mh) → 1 < (k : Int) → zw (zu_ex (zt_T n) 117 147 [(40, a0), (2, 0)] [(0, y0)] mh) (fun v m => zi_I m ∧ zfr [(28, 5), (28, 6), (28, 8), (28, 9), (28, 10), (28, 11), (28, 22), (28, 46), (28, 47), (28, 48), (28, 49), (28, 50), (28, 51), (117, 0), (118, 0), (119, 0), (120, 0), (121, 0)] m0 m ∧ zR_KN m ∧ zR_NS m ∧ zR_TR m ∧ zR_WD m ∧ (0 ≤ v ∧ v ≤ 1) ∧ ((m0 a0 7) ≤ (m a0 7)) ∧ (v = 1 → ((m0 a0 8) ≠ 0 ∧ ((m a0 8) = 0 ∨ (m0 a0 7) < (m a0 7)))) ∧ (v = 1 → (m a0 21) + znz m = (m a0 48)) ∧ (v = 1 → (m a0 46) + (m a0 49) = zbi m + 1) ∧ (v = 1 → (m a0 45) = znz m + (m a0 47)) ∧ (v = 1 → ((m a0 49) = 0 → 1 ≤ (m a0 21))) ∧ (v = 1 → (m a0 4) = (m0 a0 4)) ∧ (v = 0 → (m a0 4) ≠ 0))) ∧ (∀ (x1 : Int) (mh : zu_m), zi_I mh → zfr [(28, 5), (28, 6), (28, 8), (28, 9), (28, 10), (28, 11), (28, 22), (28, 46), (28, 47), (28, 48), (28, 49), (28, 50), (28, 51), (117, 0), (118, 0), (119, 0), (120, 0), (121, 0)] m0 mh → (1 ≤ x1 ∧ x1 ≤ 14) → (0 ≤ mh a0 49 ∧ mh a0 49 ≤ 0) → ((mh a0 21) + znz mh = (mh a0 48)) → ((mh a0 45) = znz mh + (mh a0 47)) → ((mh a0 46) = zbi mh + 1) → (1 ≤ (mh a0 21)) → ((mh a0 7) = (m0 a0 7)) → ((m0 a0 8) ≠ 0) → (3 ≤ x1) → ((mh a0 4) = (m0 a0 4)) → (zR_KN mh) → (zR_NS mh) → (zR_TR mh) → (zR_WD mh) → 0 < (k : Int) → zw (zu_ex (zt_T n) 117 217 [(40, a0), (0, x1)] [] mh) (fun v m => zi_I m ∧ zfr [(28, 5), (28, 6), (28, 8), (28, 9), (28, 10), (28, 11), (28, 22), (28, 46), (28, 47), (28, 48), (28, 49), (28, 50), (28, 51), (117, 0), (118, 0), (119, 0), (120, 0), (121, 0)] m0 m ∧ zR_KN m ∧ zR_NS m ∧ zR_TR m ∧ zR_WD m ∧ (0 ≤ v ∧ v ≤ 1) ∧ ((m0 a0 7) ≤ (m a0 7)) ∧ (v = 1 → ((m0 a0 8) ≠ 0 ∧ ((m a0 8) = 0 ∨ (m0 a0 7) < (m a0 7)))) ∧ (v = 1 → (m a0 21) + znz m = (m a0 48)) ∧ (v = 1 → (m a0 46) + (m a0 49) = zbi m + 1) ∧ (v = 1 → (m a0 45) = znz m + (m a0 47)) ∧ (v = 1 → ((m a0 49) = 0 → 1 ≤ (m a0 21))) ∧ (v = 1 → (m a0 4) = (m0 a0 4)) ∧ (v = 0 → (m a0 4) ≠ 0)))) : (∀ (mh : zu_m), zi_I mh → zfr [(28, 5), (28, 6), (28, 8), (28, 9), (28, 10), (28, 11), (28, 22), (28, 46), (28, 47), (28, 48), (28, 49), (28, 50), (28, 51), (117, 0), (118, 0), (119, 0), (120, 0), (121, 0)] m0 mh → (0 ≤ mh a0 49 ∧ mh a0 49 ≤ 0) → ((mh a0 21) + znz mh = (mh a0 48)) → ((mh a0 45) = znz mh + (mh a0 47)) → ((mh a0 46) = zbi mh + 1) → (1 ≤ (mh a0 21)) → ((mh a0 7) = (m0 a0 7)) → ((mh a0 8) = (m0 a0 8)) → ((mh a0 4) = (m0 a0 4)) → (zR_KN mh) → (zR_NS mh) → (zR_TR mh) → (zR_WD mh) → 2 < ((k + 1 : Nat) : Int) → zw (zu_ex (zt_T n) 117 47 [(40, a0), (2, 0)] [] mh) (fun v m => zi_I m ∧ zfr [(28, 5), (28, 6), (28, 8), (28, 9), (28, 10), (28, 11), (28, 22), (28, 46), (28, 47), (28, 48), (28, 49), (28, 50), (28, 51), (117, 0), (118, 0), (119, 0), (120, 0), (121, 0)] m0 m ∧ zR_KN m ∧ zR_NS m ∧ zR_TR m ∧ zR_WD m ∧ (0 ≤ v ∧ v ≤ 1) ∧ ((m0 a0 7) ≤ (m a0 7)) ∧ (v = 1 → ((m0 a0 8) ≠ 0 ∧ ((m a0 8) = 0 ∨ (m0 a0 7) < (m a0 7)))) ∧ (v = 1 → (m a0 21) + znz m = (m a0 48)) ∧ (v = 1 → (m a0 46) + (m a0 49) = zbi m + 1) ∧ (v = 1 → (m a0 45) = znz m + (m a0 47)) ∧ (v = 1 → ((m a0 49) = 0 → 1 ≤ (m a0 21))) ∧ (v = 1 → (m a0 4) = (m0 a0 4)) ∧ (v = 0 → (m a0 4) ≠ 0))) := by
      intro mh hImh hFmh hg0 hH0 hH1 hH2 hH3 hH4 hH5 hH6 hRKNmh hRNSmh hRTRmh hRWDmh hM
      refine zw_eq (zu_rega_at (zt_T n) (zm_117 n) (zdp_117 n) _ _ _ _ _ _ (zr_117_47 n _ _ a0 mh)) ?_
      have r1 : 0 ≤ (mh a0 21) ∧ (mh a0 21) ≤ 64 := zi_rd hImh hc0 zb_28_21
      have r2 : 0 ≤ (mh a0 48) ∧ (mh a0 48) ≤ 64 := zi_rd hImh hc0 zb_28_48
      have r3 : 0 ≤ (mh a0 45) ∧ (mh a0 45) ≤ 96 := zi_rd hImh hc0 zb_28_45
      have r4 : 0 ≤ (mh a0 47) ∧ (mh a0 47) ≤ 8 := zi_rd hImh hc0 zb_28_47
      have r5 : 0 ≤ (mh a0 46) ∧ (mh a0 46) ≤ 96 := zi_rd hImh hc0 zb_28_46
      have r6 : 0 ≤ (mh a0 7) ∧ (mh a0 7) ≤ 700 := zi_rd hImh hc0 zb_28_7
      have r7 : 0 ≤ (mh a0 8) ∧ (mh a0 8) ≤ 6 := zi_rd hImh hc0 zb_28_8
      have r8 : (-2147483648) ≤ (mh a0 4) ∧ (mh a0 4) ≤ 2147483647 := zi_rd hImh hc0 zb_28_4
      have g9 := zwt_bd hImh hc0
      have s10 := hRNSmh a0 hc0
      refine zw_bd (zw_eq (zu_call_at (zt_T n) (zm_92 n) (zdp_92 n) _ _ _ _ _ rfl (zr_92_0 n _ _ a0 23 mh)) ?_)
      refine zw_ite (fun h11 => ?_) (fun h11 => ?_)
      · refine zw_b (by omega) ?_
        refine zw_some ?_
        refine zw_ite (fun h13 => ?_) (fun h13 => ?_)
        · refine zw_bd (zw_eq (zu_call_at (zt_T n) (zm_92 n) (zdp_92 n) _ _ _ _ _ rfl (zr_92_0 n _ _ a0 24 mh)) ?_)
          refine zw_ite (fun h14 => ?_) (fun h14 => ?_)
          · refine zw_b (by omega) ?_
            refine zw_some ?_
            refine zw_ite (fun h15 => ?_) (fun h15 => ?_)
            · refine zw_ite (fun h16 => ?_) (fun h16 => ?_)
              · refine zw_bd (zw_eq (zu_call_at (zt_T n) (zm_93 n) (zdp_93 n) _ _ _ _ _ rfl (zr_93_0 n _ _ a0 43 mh)) ?_)
                refine zw_ite (fun h18 => ?_) (fun h18 => ?_)
                · refine zw_b (by omega) ?_
                  refine zw_some ?_
                  refine zw_ite (fun h19 => ?_) (fun h19 => ?_)
                  · refine zw_bd (zw_eq (zu_call_at (zt_T n) (zm_93 n) (zdp_93 n) _ _ _ _ _ rfl (zr_93_0 n _ _ a0 45 mh)) ?_)
                    refine zw_ite (fun h20 => ?_) (fun h20 => ?_)
                    · refine zw_b (by omega) ?_
                      refine zw_some ?_
                      refine zw_ite (fun h21 => ?_) (fun h21 => ?_)
                      · refine zw_bd (zw_eq (zu_call_at (zt_T n) (zm_93 n) (zdp_93 n) _ _ _ _ _ rfl (zr_93_0 n _ _ a0 42 mh)) ?_)
                        refine zw_ite (fun h22 => ?_) (fun h22 => ?_)
                        · refine zw_b (by omega) ?_
                          refine zw_some ?_
                          refine zw_ite (fun h23 => ?_) (fun h23 => ?_)
                          · refine zw_bd (zw_eq (zu_call_at (zt_T n) (zm_93 n) (zdp_93 n) _ _ _ _ _ rfl (zr_93_0 n _ _ a0 47 mh)) ?_)
                            refine zw_ite (fun h24 => ?_) (fun h24 => ?_)
                            · refine zw_b (by omega) ?_
                              refine zw_some ?_
                              refine zw_ite (fun h25 => ?_) (fun h25 => ?_)
                              · have hM : 1 < (k : Int) := by omega
                                exact ih.2.1 0 mh hImh hFmh ⟨by omega, by omega⟩ ⟨by omega, by omega⟩ (by omega) (by omega) (by omega) (by omega) (by omega) (by omega) (by omega) (by omega) hRKNmh hRNSmh hRTRmh hRWDmh hM
                              · exfalso; omega
                            · exfalso; omega
                          · exfalso; omega
                        · exfalso; omega
                      · exfalso; omega
                    · exfalso; omega
                  · exfalso; omega
                · have r26 : (-2147483648) ≤ (mh a0 9) ∧ (mh a0 9) ≤ 2147483647 := zi_rd hImh hc0 zb_28_9
                  refine zw_ite (fun h27 => ?_) (fun h27 => ?_)
                  · refine zw_b (by omega) ?_
                    refine zw_some ?_
                    refine zw_ite (fun h28 => ?_) (fun h28 => ?_)
                    · refine zw_bd (zw_eq (zu_call_at (zt_T n) (zm_93 n) (zdp_93 n) _ _ _ _ _ rfl (zr_93_0 n _ _ a0 45 mh)) ?_)
                      refine zw_ite (fun h29 => ?_) (fun h29 => ?_)
                      · exfalso; omega
                      · refine zw_ite (fun h30 => ?_) (fun h30 => ?_)
                        · refine zw_b (by omega) ?_
                          refine zw_some ?_
                          refine zw_ite (fun h31 => ?_) (fun h31 => ?_)
                          · refine zw_bd (zw_eq (zu_call_at (zt_T n) (zm_93 n) (zdp_93 n) _ _ _ _ _ rfl (zr_93_0 n _ _ a0 42 mh)) ?_)
                            refine zw_ite (fun h32 => ?_) (fun h32 => ?_)
                            · exfalso; omega
                            · refine zw_ite (fun h33 => ?_) (fun h33 => ?_)
                              · refine zw_b (by omega) ?_
                                refine zw_some ?_
                                refine zw_ite (fun h34 => ?_) (fun h34 => ?_)
                                · refine zw_bd (zw_eq (zu_call_at (zt_T n) (zm_93 n) (zdp_93 n) _ _ _ _ _ rfl (zr_93_0 n _ _ a0 47 mh)) ?_)
                                  refine zw_ite (fun h35 => ?_) (fun h35 => ?_)
                                  · exfalso; omega
                                  · refine zw_ite (fun h36 => ?_) (fun h36 => ?_)
                                    · refine zw_b (by omega) ?_
                                      refine zw_some ?_
                                      refine zw_ite (fun h37 => ?_) (fun h37 => ?_)
                                      · have hM : 1 < (k : Int) := by omega
                                        exact ih.2.1 0 mh hImh hFmh ⟨by omega, by omega⟩ ⟨by omega, by omega⟩ (by omega) (by omega) (by omega) (by omega) (by omega) (by omega) (by omega) (by omega) hRKNmh hRNSmh hRTRmh hRWDmh hM
                                      · exfalso; omega
                                    · refine zw_b (by omega) ?_
                                      refine zw_some ?_
                                      refine zw_ite (fun h38 => ?_) (fun h38 => ?_)
                                      · exfalso; omega
                                      · have hM : 1 < (k : Int) := by omega
                                        exact ih.2.1 14 mh hImh hFmh ⟨by omega, by omega⟩ ⟨by omega, by omega⟩ (by omega) (by omega) (by omega) (by omega) (by omega) (by omega) (by omega) (by omega) hRKNmh hRNSmh hRTRmh hRWDmh hM
                                · exfalso; omega
                              · refine zw_b (by omega) ?_
                                refine zw_some ?_
                                refine zw_ite (fun h39 => ?_) (fun h39 => ?_)
                                · exfalso; omega
                                · have hM : 1 < (k : Int) := by omega
                                  exact ih.2.1 13 mh hImh hFmh ⟨by omega, by omega⟩ ⟨by omega, by omega⟩ (by omega) (by omega) (by omega) (by omega) (by omega) (by omega) (by omega) (by omega) hRKNmh hRNSmh hRTRmh hRWDmh hM
                          · exfalso; omega
                        · refine zw_b (by omega) ?_
                          refine zw_some ?_
                          refine zw_ite (fun h40 => ?_) (fun h40 => ?_)
                          · exfalso; omega
                          · have hM : 1 < (k : Int) := by omega
                            exact ih.2.1 12 mh hImh hFmh ⟨by omega, by omega⟩ ⟨by omega, by omega⟩ (by omega) (by omega) (by omega) (by omega) (by omega) (by omega) (by omega) (by omega) hRKNmh hRNSmh hRTRmh hRWDmh hM
                    · exfalso; omega
                  · refine zw_b (by omega) ?_
                    refine zw_some ?_
                    refine zw_ite (fun h41 => ?_) (fun h41 => ?_)
                    · exfalso; omega
                    · have hM : 1 < (k : Int) := by omega
                      exact ih.2.1 11 mh hImh hFmh ⟨by omega, by omega⟩ ⟨by omega, by omega⟩ (by omega) (by omega) (by omega) (by omega) (by omega) (by omega) (by omega) (by omega) hRKNmh hRNSmh hRTRmh hRWDmh hM
              · have s17 := (hRTRmh a0 hc0).1 (by omega)
                have w42 := zu_w32_id (z := 5 + (mh a0 9)) (by omega) (by omega)
                have hM : 1 < (k : Int) := by omega
                exact ih.2.1 (zu_w32 (5 + (mh a0 9))) mh hImh hFmh ⟨by omega, by omega⟩ ⟨by omega, by omega⟩ (by omega) (by omega) (by omega) (by omega) (by omega) (by omega) (by omega) (by omega) hRKNmh hRNSmh hRTRmh hRWDmh hM
            · exfalso; omega
          · exfalso; omega
        · exfalso; omega
      · have s12 := (hRTRmh a0 hc0).2.1 (by omega)
        refine zw_ite (fun h43 => ?_) (fun h43 => ?_)
        · refine zw_b (by omega) ?_
          refine zw_some ?_
          refine zw_ite (fun h44 => ?_) (fun h44 => ?_)
          · refine zw_bd (zw_eq (zu_call_at (zt_T n) (zm_92 n) (zdp_92 n) _ _ _ _ _ rfl (zr_92_0 n _ _ a0 24 mh)) ?_)
            refine zw_ite (fun h45 => ?_) (fun h45 => ?_)
            · exfalso; omega
            · have s46 := (hRTRmh a0 hc0).2.1 (by omega)
              refine zw_ite (fun h47 => ?_) (fun h47 => ?_)
              · refine zw_b (by omega) ?_
                refine zw_some ?_
                refine zw_ite (fun h48 => ?_) (fun h48 => ?_)
                · refine zw_ite (fun h49 => ?_) (fun h49 => ?_)
                  · have s50 := (hRTRmh a0 hc0).2.1 (by omega)
                    refine zw_bd (zw_eq (zu_call_at (zt_T n) (zm_93 n) (zdp_93 n) _ _ _ _ _ rfl (zr_93_0 n _ _ a0 43 mh)) ?_)
                    refine zw_ite (fun h51 => ?_) (fun h51 => ?_)
                    · have s52 := (hRTRmh a0 hc0).2.1 (by omega)
                      refine zw_b (by omega) ?_
                      refine zw_some ?_
                      refine zw_ite (fun h53 => ?_) (fun h53 => ?_)
                      · refine zw_bd (zw_eq (zu_call_at (zt_T n) (zm_93 n) (zdp_93 n) _ _ _ _ _ rfl (zr_93_0 n _ _ a0 45 mh)) ?_)
                        refine zw_ite (fun h54 => ?_) (fun h54 => ?_)
                        · have s55 := (hRTRmh a0 hc0).2.1 (by omega)
                          refine zw_b (by omega) ?_
                          refine zw_some ?_
                          refine zw_ite (fun h56 => ?_) (fun h56 => ?_)
                          · refine zw_bd (zw_eq (zu_call_at (zt_T n) (zm_93 n) (zdp_93 n) _ _ _ _ _ rfl (zr_93_0 n _ _ a0 42 mh)) ?_)
                            refine zw_ite (fun h57 => ?_) (fun h57 => ?_)
                            · have s58 := (hRTRmh a0 hc0).2.1 (by omega)
                              refine zw_b (by omega) ?_
                              refine zw_some ?_
                              refine zw_ite (fun h59 => ?_) (fun h59 => ?_)
                              · refine zw_bd (zw_eq (zu_call_at (zt_T n) (zm_93 n) (zdp_93 n) _ _ _ _ _ rfl (zr_93_0 n _ _ a0 47 mh)) ?_)
                                refine zw_ite (fun h60 => ?_) (fun h60 => ?_)
                                · have s61 := (hRTRmh a0 hc0).2.1 (by omega)
                                  refine zw_b (by omega) ?_
                                  refine zw_some ?_
                                  refine zw_ite (fun h62 => ?_) (fun h62 => ?_)
                                  · have hM : 1 < (k : Int) := by omega
                                    exact ih.2.1 0 mh hImh hFmh ⟨by omega, by omega⟩ ⟨by omega, by omega⟩ (by omega) (by omega) (by omega) (by omega) (by omega) (by omega) (by omega) (by omega) hRKNmh hRNSmh hRTRmh hRWDmh hM
                                  · exfalso; omega
                                · exfalso; omega
                              · exfalso; omega
                            · exfalso; omega
                          · exfalso; omega
                        · exfalso; omega
                      · exfalso; omega
                    · exfalso; omega
                  · exfalso; omega
                · exfalso; omega
              · refine zw_b (by omega) ?_
                refine zw_some ?_
                refine zw_ite (fun h63 => ?_) (fun h63 => ?_)
                · exfalso; omega
                · have hM : 1 < (k : Int) := by omega
                  exact ih.2.1 4 mh hImh hFmh ⟨by omega, by omega⟩ ⟨by omega, by omega⟩ (by omega) (by omega) (by omega) (by omega) (by omega) (by omega) (by omega) (by omega) hRKNmh hRNSmh hRTRmh hRWDmh hM
          · exfalso; omega
        · refine zw_b (by omega) ?_
          refine zw_some ?_
          refine zw_ite (fun h64 => ?_) (fun h64 => ?_)
          · exfalso; omega
          · have hM : 1 < (k : Int) := by omega
            exact ih.2.1 3 mh hImh hFmh ⟨by omega, by omega⟩ ⟨by omega, by omega⟩ (by omega) (by omega) (by omega) (by omega) (by omega) (by omega) (by omega) (by omega) hRKNmh hRNSmh hRTRmh hRWDmh hM
set_option maxHeartbeats 4000000 in
theorem zl_117H1 (n : Nat) {a0 : Int} {m0 : zu_m} (hc0 : zcls a0 = 28)  (hxp0 : (m0 a0 21) + znz m0 = (m0 a0 48)) (hxp1 : (m0 a0 45) = znz m0 + (m0 a0 47)) (hxp2 : (m0 a0 46) = zbi m0 + 1) (hxp3 : (m0 a0 49) = 0) (hxp4 : 1 ≤ (m0 a0 21)) (k : Nat) (ih : (∀ (mh : zu_m), zi_I mh → zfr [(28, 5), (28, 6), (28, 8), (28, 9), (28, 10), (28, 11), (28, 22), (28, 46), (28, 47), (28, 48), (28, 49), (28, 50), (28, 51), (117, 0), (118, 0), (119, 0), (120, 0), (121, 0)] m0 mh → (0 ≤ mh a0 49 ∧ mh a0 49 ≤ 0) → ((mh a0 21) + znz mh = (mh a0 48)) → ((mh a0 45) = znz mh + (mh a0 47)) → ((mh a0 46) = zbi mh + 1) → (1 ≤ (mh a0 21)) → ((mh a0 7) = (m0 a0 7)) → ((mh a0 8) = (m0 a0 8)) → ((mh a0 4) = (m0 a0 4)) → (zR_KN mh) → (zR_NS mh) → (zR_TR mh) → (zR_WD mh) → 2 < (k : Int) → zw (zu_ex (zt_T n) 117 47 [(40, a0), (2, 0)] [] mh) (fun v m => zi_I m ∧ zfr [(28, 5), (28, 6), (28, 8), (28, 9), (28, 10), (28, 11), (28, 22), (28, 46), (28, 47), (28, 48), (28, 49), (28, 50), (28, 51), (117, 0), (118, 0), (119, 0), (120, 0), (121, 0)] m0 m ∧ zR_KN m ∧ zR_NS m ∧ zR_TR m ∧ zR_WD m ∧ (0 ≤ v ∧ v ≤ 1) ∧ ((m0 a0 7) ≤ (m a0 7)) ∧ (v = 1 → ((m0 a0 8) ≠ 0 ∧ ((m a0 8) = 0 ∨ (m0 a0 7) < (m a0 7)))) ∧ (v = 1 → (m a0 21) + znz m = (m a0 48)) ∧ (v = 1 → (m a0 46) + (m a0 49) = zbi m + 1) ∧ (v = 1 → (m a0 45) = znz m + (m a0 47)) ∧ (v = 1 → ((m a0 49) = 0 → 1 ≤ (m a0 21))) ∧ (v = 1 → (m a0 4) = (m0 a0 4)) ∧ (v = 0 → (m a0 4) ≠ 0))) ∧ (∀ (y0 : Int) (mh : zu_m), zi_I mh → zfr [(28, 5), (28, 6), (28, 8), (28, 9), (28, 10), (28, 11), (28, 22), (28, 46), (28, 47), (28, 48), (28, 49), (28, 50), (28, 51), (117, 0), (118, 0), (119, 0), (120, 0), (121, 0)] m0 mh → (0 ≤ y0 ∧ y0 ≤ 14) → (0 ≤ mh a0 49 ∧ mh a0 49 ≤ 0) → ((mh a0 21) + znz mh = (mh a0 48)) → ((mh a0 45) = znz mh + (mh a0 47)) → ((mh a0 46) = zbi mh + 1) → (1 ≤ (mh a0 21)) → ((mh a0 7) = (m0 a0 7)) → (y0 ≠ 0 → (m0 a0 8) ≠ 0) → (y0 = 0 ∨ 3 ≤ y0) → ((mh a0 4) = (m0 a0 4)) → (zR_KN mh) → (zR_NS mh) → (zR_TR mh) → (zR_WD mh) → 1 < (k : Int) → zw (zu_ex (zt_T n) 117 147 [(40, a0), (2, 0)] [(0, y0)] mh) (fun v m => zi_I m ∧ zfr [(28, 5), (28, 6), (28, 8), (28, 9), (28, 10), (28, 11), (28, 22), (28, 46), (28, 47), (28, 48), (28, 49), (28, 50), (28, 51), (117, 0), (118, 0), (119, 0), (120, 0), (121, 0)] m0 m ∧ zR_KN m ∧ zR_NS m ∧ zR_TR m ∧ zR_WD m ∧ (0 ≤ v ∧ v ≤ 1) ∧ ((m0 a0 7) ≤ (m a0 7)) ∧ (v = 1 → ((m0 a0 8) ≠ 0 ∧ ((m a0 8) = 0 ∨ (m0 a0 7) < (m a0 7)))) ∧ (v = 1 → (m a0 21) + znz m = (m a0 48)) ∧ (v = 1 → (m a0 46) + (m a0 49) = zbi m + 1) ∧ (v = 1 → (m a0 45) = znz m + (m a0 47)) ∧ (v = 1 → ((m a0 49) = 0 → 1 ≤ (m a0 21))) ∧ (v = 1 → (m a0 4) = (m0 a0 4)) ∧ (v = 0 → (m a0 4) ≠ 0))) ∧ (∀ (x1 : Int) (mh : zu_m), zi_I mh → zfr [(28, 5), (28, 6), (28, 8), (28, 9), (28, 10), (28, 11), (28, 22), (28, 46), (28, 47), (28, 48), (28, 49), (28, 50), (28, 51), (117, 0), (118, 0), (119, 0), (120, 0), (121, 0)] m0 mh → (1 ≤ x1 ∧ x1 ≤ 14) → (0 ≤ mh a0 49 ∧ mh a0 49 ≤ 0) → ((mh a0 21) + znz mh = (mh a0 48)) → ((mh a0 45) = znz mh + (mh a0 47)) → ((mh a0 46) = zbi mh + 1) → (1 ≤ (mh a0 21)) → ((mh a0 7) = (m0 a0 7)) → ((m0 a0 8) ≠ 0) → (3 ≤ x1) → ((mh a0 4) = (m0 a0 4)) → (zR_KN mh) → (zR_NS mh) → (zR_TR mh) → (zR_WD mh) → 0 < (k : Int) → zw (zu_ex (zt_T n) 117 217 [(40, a0), (0, x1)] [] mh) (fun v m => zi_I m ∧ zfr [(28, 5), (28, 6), (28, 8), (28, 9), (28, 10), (28, 11), (28, 22), (28, 46), (28, 47), (28, 48), (28, 49), (28, 50), (28, 51), (117, 0), (118, 0), (119, 0), (120, 0), (121, 0)] m0 m ∧ zR_KN m ∧ zR_NS m ∧ zR_TR m ∧ zR_WD m ∧ (0 ≤ v ∧ v ≤ 1) ∧ ((m0 a0 7) ≤ (m a0 7)) ∧ (v = 1 → ((m0 a0 8) ≠ 0 ∧ ((m a0 8) = 0 ∨ (m0 a0 7) < (m a0 7)))) ∧ (v = 1 → (m a0 21) + znz m = (m a0 48)) ∧ (v = 1 → (m a0 46) + (m a0 49) = zbi m + 1) ∧ (v = 1 → (m a0 45) = znz m + (m a0 47)) ∧ (v = 1 → ((m a0 49) = 0 → 1 ≤ (m a0 21))) ∧ (v = 1 → (m a0 4) = (m0 a0 4)) ∧ (v = 0 → (m a0 4) ≠ 0)))) : (∀ (y0 : Int) (mh : zu_m), zi_I mh → zfr [(28, 5), (28, 6), (28, 8), (28, 9), (28, 10), (28, 11), (28, 22), (28, 46), (28, 47), (28, 48), (28, 49), (28, 50), (28, 51), (117, 0), (118, 0), (119, 0), (120, 0), (121, 0)] m0 mh → (0 ≤ y0 ∧ y0 ≤ 14) → (0 ≤ mh a0 49 ∧ mh a0 49 ≤ 0) → ((mh a0 21) + znz mh = (mh a0 48)) → ((mh a0 45) = znz mh + (mh a0 47)) → ((mh a0 46) = zbi mh + 1) → (1 ≤ (mh a0 21)) → ((mh a0 7) = (m0 a0 7)) → (y0 ≠ 0 → (m0 a0 8) ≠ 0) → (y0 = 0 ∨ 3 ≤ y0) → ((mh a0 4) = (m0 a0 4)) → (zR_KN mh) → (zR_NS mh) → (zR_TR mh) → (zR_WD mh) → 1 < ((k + 1 : Nat) : Int) → zw (zu_ex (zt_T n) 117 147 [(40, a0), (2, 0)] [(0, y0)] mh) (fun v m => zi_I m ∧ zfr [(28, 5), (28, 6), (28, 8), (28, 9), (28, 10), (28, 11), (28, 22), (28, 46), (28, 47), (28, 48), (28, 49), (28, 50), (28, 51), (117, 0), (118, 0), (119, 0), (120, 0), (121, 0)] m0 m ∧ zR_KN m ∧ zR_NS m ∧ zR_TR m ∧ zR_WD m ∧ (0 ≤ v ∧ v ≤ 1) ∧ ((m0 a0 7) ≤ (m a0 7)) ∧ (v = 1 → ((m0 a0 8) ≠ 0 ∧ ((m a0 8) = 0 ∨ (m0 a0 7) < (m a0 7)))) ∧ (v = 1 → (m a0 21) + znz m = (m a0 48)) ∧ (v = 1 → (m a0 46) + (m a0 49) = zbi m + 1) ∧ (v = 1 → (m a0 45) = znz m + (m a0 47)) ∧ (v = 1 → ((m a0 49) = 0 → 1 ≤ (m a0 21))) ∧ (v = 1 → (m a0 4) = (m0 a0 4)) ∧ (v = 0 → (m a0 4) ≠ 0))) := by
      intro y0 mh hImh hFmh hby0 hg1 hH0 hH1 hH2 hH3 hH4 hH5 hH6 hH7 hRKNmh hRNSmh hRTRmh hRWDmh hM
      refine zw_eq (zu_rega_at (zt_T n) (zm_117 n) (zdp_117 n) _ _ _ _ _ _ (zr_117_147 n _ _ a0 y0 mh)) ?_
      have r65 : 0 ≤ (mh a0 21) ∧ (mh a0 21) ≤ 64 := zi_rd hImh hc0 zb_28_21
      have r66 : 0 ≤ (mh a0 48) ∧ (mh a0 48) ≤ 64 := zi_rd hImh hc0 zb_28_48
      have r67 : 0 ≤ (mh a0 45) ∧ (mh a0 45) ≤ 96 := zi_rd hImh hc0 zb_28_45
      have r68 : 0 ≤ (mh a0 47) ∧ (mh a0 47) ≤ 8 := zi_rd hImh hc0 zb_28_47
      have r69 : 0 ≤ (mh a0 46) ∧ (mh a0 46) ≤ 96 := zi_rd hImh hc0 zb_28_46
      have r70 : 0 ≤ (mh a0 7) ∧ (mh a0 7) ≤ 700 := zi_rd hImh hc0 zb_28_7
      have r71 : (-2147483648) ≤ (mh a0 4) ∧ (mh a0 4) ≤ 2147483647 := zi_rd hImh hc0 zb_28_4
      have g72 := zwt_bd hImh hc0
      have s73 := hRNSmh a0 hc0
      refine zw_ite (fun h74 => ?_) (fun h74 => ?_)
      · refine zw_bd (zw_eq (zu_call_at (zt_T n) (zm_109 n) (zdp_109 n) _ _ _ _ _ rfl (zr_109_0 n _ _ y0 mh)) ?_)
        refine zw_ite (fun h75 => ?_) (fun h75 => ?_)
        · refine zw_ite (fun h76 => ?_) (fun h76 => ?_)
          · refine zw_ite (fun h77 => ?_) (fun h77 => ?_)
            · refine zw_ite (fun h78 => ?_) (fun h78 => ?_)
              · refine zw_ite (fun h79 => ?_) (fun h79 => ?_)
                · refine zw_ite (fun h80 => ?_) (fun h80 => ?_)
                  · refine zw_some ?_
                    refine zw_ite (fun h81 => ?_) (fun h81 => ?_)
                    · refine zw_bd (zw_eq (zu_call_at (zt_T n) (zm_109 n) (zdp_109 n) _ _ _ _ _ rfl (zr_109_0 n _ _ y0 mh)) ?_)
                      refine zw_ite (fun h82 => ?_) (fun h82 => ?_)
                      · refine zw_ite (fun h83 => ?_) (fun h83 => ?_)
                        · refine zw_ite (fun h84 => ?_) (fun h84 => ?_)
                          · refine zw_ite (fun h85 => ?_) (fun h85 => ?_)
                            · refine zw_ite (fun h86 => ?_) (fun h86 => ?_)
                              · refine zw_ite (fun h87 => ?_) (fun h87 => ?_)
                                · refine zw_some ?_
                                  refine zw_bd (zw_mono (zk_112 n hImh hc0 ⟨by decide, by decide⟩ (by omega) (by omega) (by omega) hRKNmh) (fun v89 m88 hqm88 => ?_))
                                  obtain ⟨hIm88, hfm88, hvm88⟩ := hqm88
                                  have hFm88 := zfr_tr hFmh hfm88 rfl
                                  obtain ⟨hRKNm88, hvm88⟩ := hvm88
                                  have hRNSm88 := zR_NS_fr (zdis_fr hfm88 rfl) hRNSmh
                                  have hRTRm88 := zR_TR_fr (zdis_fr hfm88 rfl) hRTRmh
                                  have hRWDm88 := zR_WD_fr (zdis_fr hfm88 rfl) hRWDmh
                                  have g90 := zwt_bd hIm88 hc0
                                  have s91 := hRNSm88 a0 hc0
                                  have r92 : 0 ≤ (m88 a0 21) ∧ (m88 a0 21) ≤ 64 := zi_rd hIm88 hc0 zb_28_21
                                  have r93 : 0 ≤ (m88 a0 46) ∧ (m88 a0 46) ≤ 96 := zi_rd hIm88 hc0 zb_28_46
                                  have r94 : 0 ≤ (m88 a0 45) ∧ (m88 a0 45) ≤ 96 := zi_rd hIm88 hc0 zb_28_45
                                  refine zw_bd (zw_eq (zu_call_at (zt_T n) (zm_109 n) (zdp_109 n) _ _ _ _ _ rfl (zr_109_0 n _ _ y0 m88)) ?_)
                                  refine zw_ite (fun h95 => ?_) (fun h95 => ?_)
                                  · refine zw_ite (fun h96 => ?_) (fun h96 => ?_)
                                    · refine zw_ite (fun h97 => ?_) (fun h97 => ?_)
                                      · refine zw_ite (fun h98 => ?_) (fun h98 => ?_)
                                        · refine zw_ite (fun h99 => ?_) (fun h99 => ?_)
                                          · refine zw_ite (fun h100 => ?_) (fun h100 => ?_)
                                            · refine zw_some ?_
                                              refine zw_ite (fun h101 => ?_) (fun h101 => ?_)
                                              · have r102 : 0 ≤ (m88 a0 49) ∧ (m88 a0 49) ≤ 1 := zi_rd hIm88 hc0 zb_28_49
                                                have e103 : (m88 a0 49) = (mh a0 49) := (zfr_ap hfm88 hc0 rfl)
                                                have r104 : 0 ≤ (m88 a0 48) ∧ (m88 a0 48) ≤ 64 := zi_rd hIm88 hc0 zb_28_48
                                                have e105 : (m88 a0 48) = (mh a0 48) := (zfr_ap hfm88 hc0 rfl)
                                                have r106 : 0 ≤ (m88 a0 47) ∧ (m88 a0 47) ≤ 8 := zi_rd hIm88 hc0 zb_28_47
                                                have e107 : (m88 a0 47) = (mh a0 47) := (zfr_ap hfm88 hc0 rfl)
                                                have r108 : 0 ≤ (m88 a0 7) ∧ (m88 a0 7) ≤ 700 := zi_rd hIm88 hc0 zb_28_7
                                                have e109 : (m88 a0 7) = (mh a0 7) := (zfr_ap hfm88 hc0 rfl)
                                                have r110 : (-2147483648) ≤ (m88 a0 4) ∧ (m88 a0 4) ≤ 2147483647 := zi_rd hIm88 hc0 zb_28_4
                                                have e111 : (m88 a0 4) = (mh a0 4) := (zfr_ap hfm88 hc0 rfl)
                                                have hM : 0 < (k : Int) := by omega
                                                exact ih.2.2 y0 m88 hIm88 hFm88 ⟨by omega, by omega⟩ ⟨by omega, by omega⟩ (by omega) (by omega) (by omega) (by omega) (by omega) (by omega) (by omega) (by omega) hRKNm88 hRNSm88 hRTRm88 hRWDm88 hM
                                              · exfalso; omega
                                            · exfalso; omega
                                          · exfalso; omega
                                        · exfalso; omega
                                      · exfalso; omega
                                    · exfalso; omega
                                  · exfalso; omega
                                · exfalso; omega
                              · exfalso; omega
                            · exfalso; omega
                          · exfalso; omega
                        · exfalso; omega
                      · exfalso; omega
                    · exfalso; omega
                  · refine zw_some ?_
                    refine zw_ite (fun h112 => ?_) (fun h112 => ?_)
                    · refine zw_bd (zw_eq (zu_call_at (zt_T n) (zm_109 n) (zdp_109 n) _ _ _ _ _ rfl (zr_109_0 n _ _ y0 mh)) ?_)
                      refine zw_ite (fun h113 => ?_) (fun h113 => ?_)
                      · refine zw_ite (fun h114 => ?_) (fun h114 => ?_)
                        · refine zw_ite (fun h115 => ?_) (fun h115 => ?_)
                          · refine zw_ite (fun h116 => ?_) (fun h116 => ?_)
                            · refine zw_ite (fun h117 => ?_) (fun h117 => ?_)
                              · refine zw_ite (fun h118 => ?_) (fun h118 => ?_)
                                · exfalso; omega
                                · refine zw_some ?_
                                  refine zw_bd (zw_mono (zk_112 n hImh hc0 ⟨by decide, by decide⟩ (by omega) (by omega) (by omega) hRKNmh) (fun v120 m119 hqm119 => ?_))
                                  obtain ⟨hIm119, hfm119, hvm119⟩ := hqm119
                                  have hFm119 := zfr_tr hFmh hfm119 rfl
                                  obtain ⟨hRKNm119, hvm119⟩ := hvm119
                                  have hRNSm119 := zR_NS_fr (zdis_fr hfm119 rfl) hRNSmh
                                  have hRTRm119 := zR_TR_fr (zdis_fr hfm119 rfl) hRTRmh
                                  have hRWDm119 := zR_WD_fr (zdis_fr hfm119 rfl) hRWDmh
                                  have g121 := zwt_bd hIm119 hc0
                                  have s122 := hRNSm119 a0 hc0
                                  have r123 : 0 ≤ (m119 a0 21) ∧ (m119 a0 21) ≤ 64 := zi_rd hIm119 hc0 zb_28_21
                                  have r124 : 0 ≤ (m119 a0 46) ∧ (m119 a0 46) ≤ 96 := zi_rd hIm119 hc0 zb_28_46
                                  have r125 : 0 ≤ (m119 a0 45) ∧ (m119 a0 45) ≤ 96 := zi_rd hIm119 hc0 zb_28_45
                                  refine zw_bd (zw_eq (zu_call_at (zt_T n) (zm_109 n) (zdp_109 n) _ _ _ _ _ rfl (zr_109_0 n _ _ y0 m119)) ?_)
                                  refine zw_ite (fun h126 => ?_) (fun h126 => ?_)
                                  · refine zw_ite (fun h127 => ?_) (fun h127 => ?_)
                                    · refine zw_ite (fun h128 => ?_) (fun h128 => ?_)
                                      · refine zw_ite (fun h129 => ?_) (fun h129 => ?_)
                                        · refine zw_ite (fun h130 => ?_) (fun h130 => ?_)
                                          · refine zw_ite (fun h131 => ?_) (fun h131 => ?_)
                                            · exfalso; omega
                                            · refine zw_some ?_
                                              refine zw_ite (fun h132 => ?_) (fun h132 => ?_)
                                              · have r133 : 0 ≤ (m119 a0 49) ∧ (m119 a0 49) ≤ 1 := zi_rd hIm119 hc0 zb_28_49
                                                have e134 : (m119 a0 49) = (mh a0 49) := (zfr_ap hfm119 hc0 rfl)
                                                have r135 : 0 ≤ (m119 a0 48) ∧ (m119 a0 48) ≤ 64 := zi_rd hIm119 hc0 zb_28_48
                                                have e136 : (m119 a0 48) = (mh a0 48) := (zfr_ap hfm119 hc0 rfl)
                                                have r137 : 0 ≤ (m119 a0 47) ∧ (m119 a0 47) ≤ 8 := zi_rd hIm119 hc0 zb_28_47
                                                have e138 : (m119 a0 47) = (mh a0 47) := (zfr_ap hfm119 hc0 rfl)
                                                have r139 : 0 ≤ (m119 a0 7) ∧ (m119 a0 7) ≤ 700 := zi_rd hIm119 hc0 zb_28_7
                                                have e140 : (m119 a0 7) = (mh a0 7) := (zfr_ap hfm119 hc0 rfl)
                                                have r141 : (-2147483648) ≤ (m119 a0 4) ∧ (m119 a0 4) ≤ 2147483647 := zi_rd hIm119 hc0 zb_28_4
                                                have e142 : (m119 a0 4) = (mh a0 4) := (zfr_ap hfm119 hc0 rfl)
                                                have hM : 0 < (k : Int) := by omega
                                                exact ih.2.2 y0 m119 hIm119 hFm119 ⟨by omega, by omega⟩ ⟨by omega, by omega⟩ (by omega) (by omega) (by omega) (by omega) (by omega) (by omega) (by omega) (by omega) hRKNm119 hRNSm119 hRTRm119 hRWDm119 hM
                                              · exfalso; omega
                                          · exfalso; omega
                                        · exfalso; omega
                                      · exfalso; omega
                                    · exfalso; omega
                                  · exfalso; omega
                              · exfalso; omega
                            · exfalso; omega
                          · exfalso; omega
                        · exfalso; omega
                      · exfalso; omega
                    · exfalso; omega
                · refine zw_some ?_
                  refine zw_ite (fun h143 => ?_) (fun h143 => ?_)
                  · refine zw_bd (zw_eq (zu_call_at (zt_T n) (zm_109 n) (zdp_109 n) _ _ _ _ _ rfl (zr_109_0 n _ _ y0 mh)) ?_)
                    refine zw_ite (fun h144 => ?_) (fun h144 => ?_)
                    · refine zw_ite (fun h145 => ?_) (fun h145 => ?_)
                      · refine zw_ite (fun h146 => ?_) (fun h146 => ?_)
                        · refine zw_ite (fun h147 => ?_) (fun h147 => ?_)
                          · refine zw_ite (fun h148 => ?_) (fun h148 => ?_)
                            · exfalso; omega
                            · refine zw_some ?_
                              refine zw_bd (zw_mono (zk_112 n hImh hc0 ⟨by decide, by decide⟩ (by omega) (by omega) (by omega) hRKNmh) (fun v150 m149 hqm149 => ?_))
                              obtain ⟨hIm149, hfm149, hvm149⟩ := hqm149
                              have hFm149 := zfr_tr hFmh hfm149 rfl
                              obtain ⟨hRKNm149, hvm149⟩ := hvm149
                              have hRNSm149 := zR_NS_fr (zdis_fr hfm149 rfl) hRNSmh
                              have hRTRm149 := zR_TR_fr (zdis_fr hfm149 rfl) hRTRmh
                              have hRWDm149 := zR_WD_fr (zdis_fr hfm149 rfl) hRWDmh
                              have g151 := zwt_bd hIm149 hc0
                              have s152 := hRNSm149 a0 hc0
                              have r153 : 0 ≤ (m149 a0 21) ∧ (m149 a0 21) ≤ 64 := zi_rd hIm149 hc0 zb_28_21
                              have r154 : 0 ≤ (m149 a0 46) ∧ (m149 a0 46) ≤ 96 := zi_rd hIm149 hc0 zb_28_46
                              have r155 : 0 ≤ (m149 a0 45) ∧ (m149 a0 45) ≤ 96 := zi_rd hIm149 hc0 zb_28_45
                              refine zw_bd (zw_eq (zu_call_at (zt_T n) (zm_109 n) (zdp_109 n) _ _ _ _ _ rfl (zr_109_0 n _ _ y0 m149)) ?_)
                              refine zw_ite (fun h156 => ?_) (fun h156 => ?_)
                              · refine zw_ite (fun h157 => ?_) (fun h157 => ?_)
                                · refine zw_ite (fun h158 => ?_) (fun h158 => ?_)
                                  · refine zw_ite (fun h159 => ?_) (fun h159 => ?_)
                                    · refine zw_ite (fun h160 => ?_) (fun h160 => ?_)
                                      · exfalso; omega
                                      · refine zw_some ?_
                                        refine zw_ite (fun h161 => ?_) (fun h161 => ?_)
                                        · have r162 : 0 ≤ (m149 a0 49) ∧ (m149 a0 49) ≤ 1 := zi_rd hIm149 hc0 zb_28_49
                                          have e163 : (m149 a0 49) = (mh a0 49) := (zfr_ap hfm149 hc0 rfl)
                                          have r164 : 0 ≤ (m149 a0 48) ∧ (m149 a0 48) ≤ 64 := zi_rd hIm149 hc0 zb_28_48
                                          have e165 : (m149 a0 48) = (mh a0 48) := (zfr_ap hfm149 hc0 rfl)
                                          have r166 : 0 ≤ (m149 a0 47) ∧ (m149 a0 47) ≤ 8 := zi_rd hIm149 hc0 zb_28_47
                                          have e167 : (m149 a0 47) = (mh a0 47) := (zfr_ap hfm149 hc0 rfl)
                                          have r168 : 0 ≤ (m149 a0 7) ∧ (m149 a0 7) ≤ 700 := zi_rd hIm149 hc0 zb_28_7
                                          have e169 : (m149 a0 7) = (mh a0 7) := (zfr_ap hfm149 hc0 rfl)
                                          have r170 : (-2147483648) ≤ (m149 a0 4) ∧ (m149 a0 4) ≤ 2147483647 := zi_rd hIm149 hc0 zb_28_4
                                          have e171 : (m149 a0 4) = (mh a0 4) := (zfr_ap hfm149 hc0 rfl)
                                          have hM : 0 < (k : Int) := by omega
                                          exact ih.2.2 y0 m149 hIm149 hFm149 ⟨by omega, by omega⟩ ⟨by omega, by omega⟩ (by omega) (by omega) (by omega) (by omega) (by omega) (by omega) (by omega) (by omega) hRKNm149 hRNSm149 hRTRm149 hRWDm149 hM
                                        · exfalso; omega
                                    · exfalso; omega
                                  · exfalso; omega
                                · exfalso; omega
                              · exfalso; omega
                          · exfalso; omega
                        · exfalso; omega
                      · exfalso; omega
                    · exfalso; omega
                  · exfalso; omega
              · refine zw_some ?_
                refine zw_ite (fun h172 => ?_) (fun h172 => ?_)
                · refine zw_bd (zw_eq (zu_call_at (zt_T n) (zm_109 n) (zdp_109 n) _ _ _ _ _ rfl (zr_109_0 n _ _ y0 mh)) ?_)
                  refine zw_ite (fun h173 => ?_) (fun h173 => ?_)
                  · refine zw_ite (fun h174 => ?_) (fun h174 => ?_)
                    · refine zw_ite (fun h175 => ?_) (fun h175 => ?_)
                      · refine zw_ite (fun h176 => ?_) (fun h176 => ?_)
                        · exfalso; omega
                        · refine zw_some ?_
                          refine zw_bd (zw_mono (zk_112 n hImh hc0 ⟨by decide, by decide⟩ (by omega) (by omega) (by omega) hRKNmh) (fun v178 m177 hqm177 => ?_))
                          obtain ⟨hIm177, hfm177, hvm177⟩ := hqm177
                          have hFm177 := zfr_tr hFmh hfm177 rfl
                          obtain ⟨hRKNm177, hvm177⟩ := hvm177
                          have hRNSm177 := zR_NS_fr (zdis_fr hfm177 rfl) hRNSmh
                          have hRTRm177 := zR_TR_fr (zdis_fr hfm177 rfl) hRTRmh
                          have hRWDm177 := zR_WD_fr (zdis_fr hfm177 rfl) hRWDmh
                          have g179 := zwt_bd hIm177 hc0
                          have s180 := hRNSm177 a0 hc0
                          have r181 : 0 ≤ (m177 a0 21) ∧ (m177 a0 21) ≤ 64 := zi_rd hIm177 hc0 zb_28_21
                          have r182 : 0 ≤ (m177 a0 46) ∧ (m177 a0 46) ≤ 96 := zi_rd hIm177 hc0 zb_28_46
                          have r183 : 0 ≤ (m177 a0 45) ∧ (m177 a0 45) ≤ 96 := zi_rd hIm177 hc0 zb_28_45
                          refine zw_bd (zw_eq (zu_call_at (zt_T n) (zm_109 n) (zdp_109 n) _ _ _ _ _ rfl (zr_109_0 n _ _ y0 m177)) ?_)
                          refine zw_ite (fun h184 => ?_) (fun h184 => ?_)
                          · refine zw_ite (fun h185 => ?_) (fun h185 => ?_)
                            · refine zw_ite (fun h186 => ?_) (fun h186 => ?_)
                              · refine zw_ite (fun h187 => ?_) (fun h187 => ?_)
                                · exfalso; omega
                                · refine zw_some ?_
                                  refine zw_ite (fun h188 => ?_) (fun h188 => ?_)
                                  · have r189 : 0 ≤ (m177 a0 49) ∧ (m177 a0 49) ≤ 1 := zi_rd hIm177 hc0 zb_28_49
                                    have e190 : (m177 a0 49) = (mh a0 49) := (zfr_ap hfm177 hc0 rfl)
                                    have r191 : 0 ≤ (m177 a0 48) ∧ (m177 a0 48) ≤ 64 := zi_rd hIm177 hc0 zb_28_48
                                    have e192 : (m177 a0 48) = (mh a0 48) := (zfr_ap hfm177 hc0 rfl)
                                    have r193 : 0 ≤ (m177 a0 47) ∧ (m177 a0 47) ≤ 8 := zi_rd hIm177 hc0 zb_28_47
                                    have e194 : (m177 a0 47) = (mh a0 47) := (zfr_ap hfm177 hc0 rfl)
                                    have r195 : 0 ≤ (m177 a0 7) ∧ (m177 a0 7) ≤ 700 := zi_rd hIm177 hc0 zb_28_7
                                    have e196 : (m177 a0 7) = (mh a0 7) := (zfr_ap hfm177 hc0 rfl)
                                    have r197 : (-2147483648) ≤ (m177 a0 4) ∧ (m177 a0 4) ≤ 2147483647 := zi_rd hIm177 hc0 zb_28_4
                                    have e198 : (m177 a0 4) = (mh a0 4) := (zfr_ap hfm177 hc0 rfl)
                                    have hM : 0 < (k : Int) := by omega
                                    exact ih.2.2 y0 m177 hIm177 hFm177 ⟨by omega, by omega⟩ ⟨by omega, by omega⟩ (by omega) (by omega) (by omega) (by omega) (by omega) (by omega) (by omega) (by omega) hRKNm177 hRNSm177 hRTRm177 hRWDm177 hM
                                  · exfalso; omega
                              · exfalso; omega
                            · exfalso; omega
                          · exfalso; omega
                      · exfalso; omega
                    · exfalso; omega
                  · exfalso; omega
                · exfalso; omega
            · refine zw_some ?_
              refine zw_ite (fun h199 => ?_) (fun h199 => ?_)
              · exfalso; omega
              · refine zw_bd (zw_mono (zk_112 n hImh hc0 ⟨by decide, by decide⟩ (by omega) (by omega) (by omega) hRKNmh) (fun v201 m200 hqm200 => ?_))
                obtain ⟨hIm200, hfm200, hvm200⟩ := hqm200
                have hFm200 := zfr_tr hFmh hfm200 rfl
                obtain ⟨hRKNm200, hvm200⟩ := hvm200
                have hRNSm200 := zR_NS_fr (zdis_fr hfm200 rfl) hRNSmh
                have hRTRm200 := zR_TR_fr (zdis_fr hfm200 rfl) hRTRmh
                have hRWDm200 := zR_WD_fr (zdis_fr hfm200 rfl) hRWDmh
                have g202 := zwt_bd hIm200 hc0
                have s203 := hRNSm200 a0 hc0
                have r204 : 0 ≤ (m200 a0 21) ∧ (m200 a0 21) ≤ 64 := zi_rd hIm200 hc0 zb_28_21
                have r205 : 0 ≤ (m200 a0 46) ∧ (m200 a0 46) ≤ 96 := zi_rd hIm200 hc0 zb_28_46
                have r206 : 0 ≤ (m200 a0 45) ∧ (m200 a0 45) ≤ 96 := zi_rd hIm200 hc0 zb_28_45
                refine zw_bd (zw_eq (zu_call_at (zt_T n) (zm_109 n) (zdp_109 n) _ _ _ _ _ rfl (zr_109_0 n _ _ y0 m200)) ?_)
                refine zw_ite (fun h207 => ?_) (fun h207 => ?_)
                · refine zw_ite (fun h208 => ?_) (fun h208 => ?_)
                  · refine zw_ite (fun h209 => ?_) (fun h209 => ?_)
                    · exfalso; omega
                    · refine zw_some ?_
                      refine zw_ite (fun h210 => ?_) (fun h210 => ?_)
                      · exfalso; omega
                      · refine zw_ite (fun h211 => ?_) (fun h211 => ?_)
                        · have r212 : 0 ≤ (m200 a0 49) ∧ (m200 a0 49) ≤ 1 := zi_rd hIm200 hc0 zb_28_49
                          have e213 : (m200 a0 49) = (mh a0 49) := (zfr_ap hfm200 hc0 rfl)
                          have r214 : 0 ≤ (m200 a0 48) ∧ (m200 a0 48) ≤ 64 := zi_rd hIm200 hc0 zb_28_48
                          have e215 : (m200 a0 48) = (mh a0 48) := (zfr_ap hfm200 hc0 rfl)
                          have r216 : 0 ≤ (m200 a0 47) ∧ (m200 a0 47) ≤ 8 := zi_rd hIm200 hc0 zb_28_47
                          have e217 : (m200 a0 47) = (mh a0 47) := (zfr_ap hfm200 hc0 rfl)
                          have r218 : 0 ≤ (m200 a0 7) ∧ (m200 a0 7) ≤ 700 := zi_rd hIm200 hc0 zb_28_7
                          have e219 : (m200 a0 7) = (mh a0 7) := (zfr_ap hfm200 hc0 rfl)
                          have r220 : (-2147483648) ≤ (m200 a0 4) ∧ (m200 a0 4) ≤ 2147483647 := zi_rd hIm200 hc0 zb_28_4
                          have e221 : (m200 a0 4) = (mh a0 4) := (zfr_ap hfm200 hc0 rfl)
                          have hM : 0 < (k : Int) := by omega
                          exact ih.2.2 y0 m200 hIm200 hFm200 ⟨by omega, by omega⟩ ⟨by omega, by omega⟩ (by omega) (by omega) (by omega) (by omega) (by omega) (by omega) (by omega) (by omega) hRKNm200 hRNSm200 hRTRm200 hRWDm200 hM
                        · have w222 := zu_w32_id (z := (m200 a0 45) - 1) (by omega) (by omega)
                          have b223 : 0 ≤ (zu_w32 ((m200 a0 45) - 1)) ∧ (zu_w32 ((m200 a0 45) - 1)) < 96 := by omega
                          refine zw_if b223 ?_
                          have r224 : 0 ≤ (m200 211 (zu_w32 ((m200 a0 45) - 1))) ∧ (m200 211 (zu_w32 ((m200 a0 45) - 1))) ≤ 14 := zi_rd hIm200 zq_211 (zb_120 _)
                          refine zw_bd (zw_eq (zu_call_at (zt_T n) (zm_109 n) (zdp_109 n) _ _ _ _ _ rfl (zr_109_0 n _ _ (m200 211 (zu_w32 ((m200 a0 45) - 1))) m200)) ?_)
                          refine zw_ite (fun h225 => ?_) (fun h225 => ?_)
                          · refine zw_ite (fun h226 => ?_) (fun h226 => ?_)
                            · refine zw_ite (fun h227 => ?_) (fun h227 => ?_)
                              · refine zw_ite (fun h228 => ?_) (fun h228 => ?_)
                                · refine zw_ite (fun h229 => ?_) (fun h229 => ?_)
                                  · refine zw_ite (fun h230 => ?_) (fun h230 => ?_)
                                    · refine zw_some ?_
                                      refine zw_ite (fun h231 => ?_) (fun h231 => ?_)
                                      · have r232 : 0 ≤ (m200 a0 49) ∧ (m200 a0 49) ≤ 1 := zi_rd hIm200 hc0 zb_28_49
                                        have e233 : (m200 a0 49) = (mh a0 49) := (zfr_ap hfm200 hc0 rfl)
                                        have r234 : 0 ≤ (m200 a0 48) ∧ (m200 a0 48) ≤ 64 := zi_rd hIm200 hc0 zb_28_48
                                        have e235 : (m200 a0 48) = (mh a0 48) := (zfr_ap hfm200 hc0 rfl)
                                        have r236 : 0 ≤ (m200 a0 47) ∧ (m200 a0 47) ≤ 8 := zi_rd hIm200 hc0 zb_28_47
                                        have e237 : (m200 a0 47) = (mh a0 47) := (zfr_ap hfm200 hc0 rfl)
                                        have r238 : 0 ≤ (m200 a0 7) ∧ (m200 a0 7) ≤ 700 := zi_rd hIm200 hc0 zb_28_7
                                        have e239 : (m200 a0 7) = (mh a0 7) := (zfr_ap hfm200 hc0 rfl)
                                        have r240 : (-2147483648) ≤ (m200 a0 4) ∧ (m200 a0 4) ≤ 2147483647 := zi_rd hIm200 hc0 zb_28_4
                                        have e241 : (m200 a0 4) = (mh a0 4) := (zfr_ap hfm200 hc0 rfl)
                                        have hM : 0 < (k : Int) := by omega
                                        exact ih.2.2 y0 m200 hIm200 hFm200 ⟨by omega, by omega⟩ ⟨by omega, by omega⟩ (by omega) (by omega) (by omega) (by omega) (by omega) (by omega) (by omega) (by omega) hRKNm200 hRNSm200 hRTRm200 hRWDm200 hM
                                      · exfalso; omega
                                    · refine zw_some ?_
                                      refine zw_ite (fun h242 => ?_) (fun h242 => ?_)
                                      · have r243 : 0 ≤ (m200 a0 49) ∧ (m200 a0 49) ≤ 1 := zi_rd hIm200 hc0 zb_28_49
                                        have e244 : (m200 a0 49) = (mh a0 49) := (zfr_ap hfm200 hc0 rfl)
                                        have r245 : 0 ≤ (m200 a0 48) ∧ (m200 a0 48) ≤ 64 := zi_rd hIm200 hc0 zb_28_48
                                        have e246 : (m200 a0 48) = (mh a0 48) := (zfr_ap hfm200 hc0 rfl)
                                        have r247 : 0 ≤ (m200 a0 47) ∧ (m200 a0 47) ≤ 8 := zi_rd hIm200 hc0 zb_28_47
                                        have e248 : (m200 a0 47) = (mh a0 47) := (zfr_ap hfm200 hc0 rfl)
                                        have r249 : 0 ≤ (m200 a0 7) ∧ (m200 a0 7) ≤ 700 := zi_rd hIm200 hc0 zb_28_7
                                        have e250 : (m200 a0 7) = (mh a0 7) := (zfr_ap hfm200 hc0 rfl)
                                        have r251 : (-2147483648) ≤ (m200 a0 4) ∧ (m200 a0 4) ≤ 2147483647 := zi_rd hIm200 hc0 zb_28_4
                                        have e252 : (m200 a0 4) = (mh a0 4) := (zfr_ap hfm200 hc0 rfl)
                                        have hM : 0 < (k : Int) := by omega
                                        exact ih.2.2 y0 m200 hIm200 hFm200 ⟨by omega, by omega⟩ ⟨by omega, by omega⟩ (by omega) (by omega) (by omega) (by omega) (by omega) (by omega) (by omega) (by omega) hRKNm200 hRNSm200 hRTRm200 hRWDm200 hM
                                      · exfalso; omega
                                  · refine zw_some ?_
                                    refine zw_ite (fun h253 => ?_) (fun h253 => ?_)
                                    · have r254 : 0 ≤ (m200 a0 49) ∧ (m200 a0 49) ≤ 1 := zi_rd hIm200 hc0 zb_28_49
                                      have e255 : (m200 a0 49) = (mh a0 49) := (zfr_ap hfm200 hc0 rfl)
                                      have r256 : 0 ≤ (m200 a0 48) ∧ (m200 a0 48) ≤ 64 := zi_rd hIm200 hc0 zb_28_48
                                      have e257 : (m200 a0 48) = (mh a0 48) := (zfr_ap hfm200 hc0 rfl)
                                      have r258 : 0 ≤ (m200 a0 47) ∧ (m200 a0 47) ≤ 8 := zi_rd hIm200 hc0 zb_28_47
                                      have e259 : (m200 a0 47) = (mh a0 47) := (zfr_ap hfm200 hc0 rfl)
                                      have r260 : 0 ≤ (m200 a0 7) ∧ (m200 a0 7) ≤ 700 := zi_rd hIm200 hc0 zb_28_7
                                      have e261 : (m200 a0 7) = (mh a0 7) := (zfr_ap hfm200 hc0 rfl)
                                      have r262 : (-2147483648) ≤ (m200 a0 4) ∧ (m200 a0 4) ≤ 2147483647 := zi_rd hIm200 hc0 zb_28_4
                                      have e263 : (m200 a0 4) = (mh a0 4) := (zfr_ap hfm200 hc0 rfl)
                                      have hM : 0 < (k : Int) := by omega
                                      exact ih.2.2 y0 m200 hIm200 hFm200 ⟨by omega, by omega⟩ ⟨by omega, by omega⟩ (by omega) (by omega) (by omega) (by omega) (by omega) (by omega) (by omega) (by omega) hRKNm200 hRNSm200 hRTRm200 hRWDm200 hM
                                    · exfalso; omega
                                · refine zw_some ?_
                                  refine zw_ite (fun h264 => ?_) (fun h264 => ?_)
                                  · have r265 : 0 ≤ (m200 a0 49) ∧ (m200 a0 49) ≤ 1 := zi_rd hIm200 hc0 zb_28_49
                                    have e266 : (m200 a0 49) = (mh a0 49) := (zfr_ap hfm200 hc0 rfl)
                                    have r267 : 0 ≤ (m200 a0 48) ∧ (m200 a0 48) ≤ 64 := zi_rd hIm200 hc0 zb_28_48
                                    have e268 : (m200 a0 48) = (mh a0 48) := (zfr_ap hfm200 hc0 rfl)
                                    have r269 : 0 ≤ (m200 a0 47) ∧ (m200 a0 47) ≤ 8 := zi_rd hIm200 hc0 zb_28_47
                                    have e270 : (m200 a0 47) = (mh a0 47) := (zfr_ap hfm200 hc0 rfl)
                                    have r271 : 0 ≤ (m200 a0 7) ∧ (m200 a0 7) ≤ 700 := zi_rd hIm200 hc0 zb_28_7
                                    have e272 : (m200 a0 7) = (mh a0 7) := (zfr_ap hfm200 hc0 rfl)
                                    have r273 : (-2147483648) ≤ (m200 a0 4) ∧ (m200 a0 4) ≤ 2147483647 := zi_rd hIm200 hc0 zb_28_4
                                    have e274 : (m200 a0 4) = (mh a0 4) := (zfr_ap hfm200 hc0 rfl)
                                    have hM : 0 < (k : Int) := by omega
                                    exact ih.2.2 y0 m200 hIm200 hFm200 ⟨by omega, by omega⟩ ⟨by omega, by omega⟩ (by omega) (by omega) (by omega) (by omega) (by omega) (by omega) (by omega) (by omega) hRKNm200 hRNSm200 hRTRm200 hRWDm200 hM
                                  · exfalso; omega
                              · refine zw_some ?_
                                refine zw_ite (fun h275 => ?_) (fun h275 => ?_)
                                · exfalso; omega
                                · refine zw_bd (zw_eq (zu_call_at (zt_T n) (zm_85 n) (zdp_85 n) _ _ _ _ _ rfl (zr_85_0 n _ _ a0 1 m200)) ?_)
                                  generalize hmm276 : zu_up m200 a0 4 1 = m276
                                  have hIm276 := zi_up hmm276 hIm200 hc0 zb_28_4 (by omega) (by omega)
                                  have hFm276 := zfr_up hmm276 hFm200 hc0 rfl
                                  have g277 := zwt_fr (zdis_fr (zfr_up hmm276 (zfr_rf [(28, 5)] _) hc0 rfl) rfl)
                                  have hRKNm276 := zR_KN_fr (zdis_fr (zfr_up hmm276 (zfr_rf [(28, 5)] _) hc0 rfl) rfl) hRKNm200
                                  have hRNSm276 := zR_NS_fr (zdis_fr (zfr_up hmm276 (zfr_rf [(28, 5)] _) hc0 rfl) rfl) hRNSm200
                                  have hRTRm276 := zR_TR_fr (zdis_fr (zfr_up hmm276 (zfr_rf [(28, 5)] _) hc0 rfl) rfl) hRTRm200
                                  have hRWDm276 := zR_WD_fr (zdis_fr (zfr_up hmm276 (zfr_rf [(28, 5)] _) hc0 rfl) rfl) hRWDm200
                                  have hRLRm276 := zLR_wr (zone_190 hc0) hmm276 (by decide)
                                  have r278 : 0 ≤ (m276 a0 10) ∧ (m276 a0 10) ≤ 700 := zi_rd hIm276 hc0 zb_28_10
                                  generalize hmm279 : zu_up m276 a0 5 (m276 a0 10) = m279
                                  have hIm279 := zi_up hmm279 hIm276 hc0 zb_28_5 (by omega) (by omega)
                                  have hFm279 := zfr_up hmm279 hFm276 hc0 rfl
                                  have g280 := zwt_fr (zdis_fr (zfr_up hmm279 (zfr_rf [(28, 6)] _) hc0 rfl) rfl)
                                  have hRKNm279 := zR_KN_fr (zdis_fr (zfr_up hmm279 (zfr_rf [(28, 6)] _) hc0 rfl) rfl) hRKNm276
                                  have hRLRm279 := zR_LR_fr (zdis_fr (zfr_up hmm279 (zfr_rf [(28, 6)] _) hc0 rfl) rfl) hRLRm276
                                  have hRNSm279 := zR_NS_fr (zdis_fr (zfr_up hmm279 (zfr_rf [(28, 6)] _) hc0 rfl) rfl) hRNSm276
                                  have hRTRm279 := zR_TR_fr (zdis_fr (zfr_up hmm279 (zfr_rf [(28, 6)] _) hc0 rfl) rfl) hRTRm276
                                  have hRWDm279 := zR_WD_fr (zdis_fr (zfr_up hmm279 (zfr_rf [(28, 6)] _) hc0 rfl) rfl) hRWDm276
                                  refine zw_b (by omega) ?_
                                  refine zw_some ?_
                                  refine zw_b (by omega) ?_
                                  have r281 : 0 ≤ (m279 a0 7) ∧ (m279 a0 7) ≤ 700 := zi_rd hIm279 hc0 zb_28_7
                                  have e282 : (m279 a0 7) = (mh a0 7) := (Eq.trans (zs_ne hmm279 (Or.inr (by decide))) (Eq.trans (zs_ne hmm276 (Or.inr (by decide))) (zfr_ap hfm200 hc0 rfl)))
                                  have r283 : 0 ≤ (m279 a0 8) ∧ (m279 a0 8) ≤ 6 := zi_rd hIm279 hc0 zb_28_8
                                  have r284 : 0 ≤ (m279 a0 21) ∧ (m279 a0 21) ≤ 64 := zi_rd hIm279 hc0 zb_28_21
                                  have e285 : (m279 a0 21) = (m200 a0 21) := (Eq.trans (zs_ne hmm279 (Or.inr (by decide))) (zs_ne hmm276 (Or.inr (by decide))))
                                  have r286 : 0 ≤ (m279 a0 48) ∧ (m279 a0 48) ≤ 64 := zi_rd hIm279 hc0 zb_28_48
                                  have e287 : (m279 a0 48) = (mh a0 48) := (Eq.trans (zs_ne hmm279 (Or.inr (by decide))) (Eq.trans (zs_ne hmm276 (Or.inr (by decide))) (zfr_ap hfm200 hc0 rfl)))
                                  have r288 : 0 ≤ (m279 a0 46) ∧ (m279 a0 46) ≤ 96 := zi_rd hIm279 hc0 zb_28_46
                                  have e289 : (m279 a0 46) = (m200 a0 46) := (Eq.trans (zs_ne hmm279 (Or.inr (by decide))) (zs_ne hmm276 (Or.inr (by decide))))
                                  have r290 : 0 ≤ (m279 a0 49) ∧ (m279 a0 49) ≤ 1 := zi_rd hIm279 hc0 zb_28_49
                                  have e291 : (m279 a0 49) = (mh a0 49) := (Eq.trans (zs_ne hmm279 (Or.inr (by decide))) (Eq.trans (zs_ne hmm276 (Or.inr (by decide))) (zfr_ap hfm200 hc0 rfl)))
                                  have r292 : 0 ≤ (m279 a0 45) ∧ (m279 a0 45) ≤ 96 := zi_rd hIm279 hc0 zb_28_45
                                  have e293 : (m279 a0 45) = (m200 a0 45) := (Eq.trans (zs_ne hmm279 (Or.inr (by decide))) (zs_ne hmm276 (Or.inr (by decide))))
                                  have r294 : 0 ≤ (m279 a0 47) ∧ (m279 a0 47) ≤ 8 := zi_rd hIm279 hc0 zb_28_47
                                  have e295 : (m279 a0 47) = (mh a0 47) := (Eq.trans (zs_ne hmm279 (Or.inr (by decide))) (Eq.trans (zs_ne hmm276 (Or.inr (by decide))) (zfr_ap hfm200 hc0 rfl)))
                                  have r296 : (-2147483648) ≤ (m279 a0 4) ∧ (m279 a0 4) ≤ 2147483647 := zi_rd hIm279 hc0 zb_28_4
                                  have e297 : (m279 a0 4) = 1 := (Eq.trans (zs_ne hmm279 (Or.inr (by decide))) (zs_eq hmm276))
                                  exact zw_some ⟨hIm279, hFm279, hRKNm279, hRNSm279, hRTRm279, hRWDm279, ⟨by decide, by decide⟩, by omega, fun h => absurd h (by decide), fun h => absurd h (by decide), fun h => absurd h (by decide), fun h => absurd h (by decide), fun h => absurd h (by decide), fun h => absurd h (by decide), fun _ => by omega⟩
                            · refine zw_some ?_
                              refine zw_ite (fun h298 => ?_) (fun h298 => ?_)
                              · have r299 : 0 ≤ (m200 a0 49) ∧ (m200 a0 49) ≤ 1 := zi_rd hIm200 hc0 zb_28_49
                                have e300 : (m200 a0 49) = (mh a0 49) := (zfr_ap hfm200 hc0 rfl)
                                have r301 : 0 ≤ (m200 a0 48) ∧ (m200 a0 48) ≤ 64 := zi_rd hIm200 hc0 zb_28_48
                                have e302 : (m200 a0 48) = (mh a0 48) := (zfr_ap hfm200 hc0 rfl)
                                have r303 : 0 ≤ (m200 a0 47) ∧ (m200 a0 47) ≤ 8 := zi_rd hIm200 hc0 zb_28_47
                                have e304 : (m200 a0 47) = (mh a0 47) := (zfr_ap hfm200 hc0 rfl)
                                have r305 : 0 ≤ (m200 a0 7) ∧ (m200 a0 7) ≤ 700 := zi_rd hIm200 hc0 zb_28_7
                                have e306 : (m200 a0 7) = (mh a0 7) := (zfr_ap hfm200 hc0 rfl)
                                have r307 : (-2147483648) ≤ (m200 a0 4) ∧ (m200 a0 4) ≤ 2147483647 := zi_rd hIm200 hc0 zb_28_4
                                have e308 : (m200 a0 4) = (mh a0 4) := (zfr_ap hfm200 hc0 rfl)
                                have hM : 0 < (k : Int) := by omega
                                exact ih.2.2 y0 m200 hIm200 hFm200 ⟨by omega, by omega⟩ ⟨by omega, by omega⟩ (by omega) (by omega) (by omega) (by omega) (by omega) (by omega) (by omega) (by omega) hRKNm200 hRNSm200 hRTRm200 hRWDm200 hM
                              · exfalso; omega
                          · refine zw_some ?_
                            refine zw_ite (fun h309 => ?_) (fun h309 => ?_)
                            · have r310 : 0 ≤ (m200 a0 49) ∧ (m200 a0 49) ≤ 1 := zi_rd hIm200 hc0 zb_28_49
                              have e311 : (m200 a0 49) = (mh a0 49) := (zfr_ap hfm200 hc0 rfl)
                              have r312 : 0 ≤ (m200 a0 48) ∧ (m200 a0 48) ≤ 64 := zi_rd hIm200 hc0 zb_28_48
                              have e313 : (m200 a0 48) = (mh a0 48) := (zfr_ap hfm200 hc0 rfl)
                              have r314 : 0 ≤ (m200 a0 47) ∧ (m200 a0 47) ≤ 8 := zi_rd hIm200 hc0 zb_28_47
                              have e315 : (m200 a0 47) = (mh a0 47) := (zfr_ap hfm200 hc0 rfl)
                              have r316 : 0 ≤ (m200 a0 7) ∧ (m200 a0 7) ≤ 700 := zi_rd hIm200 hc0 zb_28_7
                              have e317 : (m200 a0 7) = (mh a0 7) := (zfr_ap hfm200 hc0 rfl)
                              have r318 : (-2147483648) ≤ (m200 a0 4) ∧ (m200 a0 4) ≤ 2147483647 := zi_rd hIm200 hc0 zb_28_4
                              have e319 : (m200 a0 4) = (mh a0 4) := (zfr_ap hfm200 hc0 rfl)
                              have hM : 0 < (k : Int) := by omega
                              exact ih.2.2 y0 m200 hIm200 hFm200 ⟨by omega, by omega⟩ ⟨by omega, by omega⟩ (by omega) (by omega) (by omega) (by omega) (by omega) (by omega) (by omega) (by omega) hRKNm200 hRNSm200 hRTRm200 hRWDm200 hM
                            · exfalso; omega
                  · exfalso; omega
                · exfalso; omega
          · refine zw_some ?_
            refine zw_ite (fun h320 => ?_) (fun h320 => ?_)
            · refine zw_bd (zw_eq (zu_call_at (zt_T n) (zm_109 n) (zdp_109 n) _ _ _ _ _ rfl (zr_109_0 n _ _ y0 mh)) ?_)
              refine zw_ite (fun h321 => ?_) (fun h321 => ?_)
              · refine zw_ite (fun h322 => ?_) (fun h322 => ?_)
                · exfalso; omega
                · refine zw_some ?_
                  refine zw_bd (zw_mono (zk_112 n hImh hc0 ⟨by decide, by decide⟩ (by omega) (by omega) (by omega) hRKNmh) (fun v324 m323 hqm323 => ?_))
                  obtain ⟨hIm323, hfm323, hvm323⟩ := hqm323
                  have hFm323 := zfr_tr hFmh hfm323 rfl
                  obtain ⟨hRKNm323, hvm323⟩ := hvm323
                  have hRNSm323 := zR_NS_fr (zdis_fr hfm323 rfl) hRNSmh
                  have hRTRm323 := zR_TR_fr (zdis_fr hfm323 rfl) hRTRmh
                  have hRWDm323 := zR_WD_fr (zdis_fr hfm323 rfl) hRWDmh
                  have g325 := zwt_bd hIm323 hc0
                  have s326 := hRNSm323 a0 hc0
                  have r327 : 0 ≤ (m323 a0 21) ∧ (m323 a0 21) ≤ 64 := zi_rd hIm323 hc0 zb_28_21
                  have r328 : 0 ≤ (m323 a0 46) ∧ (m323 a0 46) ≤ 96 := zi_rd hIm323 hc0 zb_28_46
                  have r329 : 0 ≤ (m323 a0 45) ∧ (m323 a0 45) ≤ 96 := zi_rd hIm323 hc0 zb_28_45
                  refine zw_bd (zw_eq (zu_call_at (zt_T n) (zm_109 n) (zdp_109 n) _ _ _ _ _ rfl (zr_109_0 n _ _ y0 m323)) ?_)
                  refine zw_ite (fun h330 => ?_) (fun h330 => ?_)
                  · refine zw_ite (fun h331 => ?_) (fun h331 => ?_)
                    · exfalso; omega
                    · refine zw_some ?_
                      refine zw_ite (fun h332 => ?_) (fun h332 => ?_)
                      · have r333 : 0 ≤ (m323 a0 49) ∧ (m323 a0 49) ≤ 1 := zi_rd hIm323 hc0 zb_28_49
                        have e334 : (m323 a0 49) = (mh a0 49) := (zfr_ap hfm323 hc0 rfl)
                        have r335 : 0 ≤ (m323 a0 48) ∧ (m323 a0 48) ≤ 64 := zi_rd hIm323 hc0 zb_28_48
                        have e336 : (m323 a0 48) = (mh a0 48) := (zfr_ap hfm323 hc0 rfl)
                        have r337 : 0 ≤ (m323 a0 47) ∧ (m323 a0 47) ≤ 8 := zi_rd hIm323 hc0 zb_28_47
                        have e338 : (m323 a0 47) = (mh a0 47) := (zfr_ap hfm323 hc0 rfl)
                        have r339 : 0 ≤ (m323 a0 7) ∧ (m323 a0 7) ≤ 700 := zi_rd hIm323 hc0 zb_28_7
                        have e340 : (m323 a0 7) = (mh a0 7) := (zfr_ap hfm323 hc0 rfl)
                        have r341 : (-2147483648) ≤ (m323 a0 4) ∧ (m323 a0 4) ≤ 2147483647 := zi_rd hIm323 hc0 zb_28_4
                        have e342 : (m323 a0 4) = (mh a0 4) := (zfr_ap hfm323 hc0 rfl)
                        have hM : 0 < (k : Int) := by omega
                        exact ih.2.2 y0 m323 hIm323 hFm323 ⟨by omega, by omega⟩ ⟨by omega, by omega⟩ (by omega) (by omega) (by omega) (by omega) (by omega) (by omega) (by omega) (by omega) hRKNm323 hRNSm323 hRTRm323 hRWDm323 hM
                      · exfalso; omega
                  · exfalso; omega
              · exfalso; omega
            · exfalso; omega
        · refine zw_some ?_
          refine zw_ite (fun h343 => ?_) (fun h343 => ?_)
          · refine zw_bd (zw_eq (zu_call_at (zt_T n) (zm_109 n) (zdp_109 n) _ _ _ _ _ rfl (zr_109_0 n _ _ y0 mh)) ?_)
            refine zw_ite (fun h344 => ?_) (fun h344 => ?_)
            · exfalso; omega
            · refine zw_some ?_
              refine zw_bd (zw_mono (zk_112 n hImh hc0 ⟨by decide, by decide⟩ (by omega) (by omega) (by omega) hRKNmh) (fun v346 m345 hqm345 => ?_))
              obtain ⟨hIm345, hfm345, hvm345⟩ := hqm345
              have hFm345 := zfr_tr hFmh hfm345 rfl
              obtain ⟨hRKNm345, hvm345⟩ := hvm345
              have hRNSm345 := zR_NS_fr (zdis_fr hfm345 rfl) hRNSmh
              have hRTRm345 := zR_TR_fr (zdis_fr hfm345 rfl) hRTRmh
              have hRWDm345 := zR_WD_fr (zdis_fr hfm345 rfl) hRWDmh
              have g347 := zwt_bd hIm345 hc0
              have s348 := hRNSm345 a0 hc0
              have r349 : 0 ≤ (m345 a0 21) ∧ (m345 a0 21) ≤ 64 := zi_rd hIm345 hc0 zb_28_21
              have r350 : 0 ≤ (m345 a0 46) ∧ (m345 a0 46) ≤ 96 := zi_rd hIm345 hc0 zb_28_46
              have r351 : 0 ≤ (m345 a0 45) ∧ (m345 a0 45) ≤ 96 := zi_rd hIm345 hc0 zb_28_45
              refine zw_bd (zw_eq (zu_call_at (zt_T n) (zm_109 n) (zdp_109 n) _ _ _ _ _ rfl (zr_109_0 n _ _ y0 m345)) ?_)
              refine zw_ite (fun h352 => ?_) (fun h352 => ?_)
              · exfalso; omega
              · refine zw_some ?_
                refine zw_ite (fun h353 => ?_) (fun h353 => ?_)
                · have r354 : 0 ≤ (m345 a0 49) ∧ (m345 a0 49) ≤ 1 := zi_rd hIm345 hc0 zb_28_49
                  have e355 : (m345 a0 49) = (mh a0 49) := (zfr_ap hfm345 hc0 rfl)
                  have r356 : 0 ≤ (m345 a0 48) ∧ (m345 a0 48) ≤ 64 := zi_rd hIm345 hc0 zb_28_48
                  have e357 : (m345 a0 48) = (mh a0 48) := (zfr_ap hfm345 hc0 rfl)
                  have r358 : 0 ≤ (m345 a0 47) ∧ (m345 a0 47) ≤ 8 := zi_rd hIm345 hc0 zb_28_47
                  have e359 : (m345 a0 47) = (mh a0 47) := (zfr_ap hfm345 hc0 rfl)
                  have r360 : 0 ≤ (m345 a0 7) ∧ (m345 a0 7) ≤ 700 := zi_rd hIm345 hc0 zb_28_7
                  have e361 : (m345 a0 7) = (mh a0 7) := (zfr_ap hfm345 hc0 rfl)
                  have r362 : (-2147483648) ≤ (m345 a0 4) ∧ (m345 a0 4) ≤ 2147483647 := zi_rd hIm345 hc0 zb_28_4
                  have e363 : (m345 a0 4) = (mh a0 4) := (zfr_ap hfm345 hc0 rfl)
                  have hM : 0 < (k : Int) := by omega
                  exact ih.2.2 y0 m345 hIm345 hFm345 ⟨by omega, by omega⟩ ⟨by omega, by omega⟩ (by omega) (by omega) (by omega) (by omega) (by omega) (by omega) (by omega) (by omega) hRKNm345 hRNSm345 hRTRm345 hRWDm345 hM
                · exfalso; omega
          · exfalso; omega
      · refine zw_bd (zw_eq (zu_call_at (zt_T n) (zm_85 n) (zdp_85 n) _ _ _ _ _ rfl (zr_85_0 n _ _ a0 1 mh)) ?_)
        generalize hmm364 : zu_up mh a0 4 1 = m364
        have hIm364 := zi_up hmm364 hImh hc0 zb_28_4 (by omega) (by omega)
        have hFm364 := zfr_up hmm364 hFmh hc0 rfl
        have g365 := zwt_fr (zdis_fr (zfr_up hmm364 (zfr_rf [(28, 5)] _) hc0 rfl) rfl)
        have hRKNm364 := zR_KN_fr (zdis_fr (zfr_up hmm364 (zfr_rf [(28, 5)] _) hc0 rfl) rfl) hRKNmh
        have hRNSm364 := zR_NS_fr (zdis_fr (zfr_up hmm364 (zfr_rf [(28, 5)] _) hc0 rfl) rfl) hRNSmh
        have hRTRm364 := zR_TR_fr (zdis_fr (zfr_up hmm364 (zfr_rf [(28, 5)] _) hc0 rfl) rfl) hRTRmh
        have hRWDm364 := zR_WD_fr (zdis_fr (zfr_up hmm364 (zfr_rf [(28, 5)] _) hc0 rfl) rfl) hRWDmh
        have hRLRm364 := zLR_wr (zone_190 hc0) hmm364 (by decide)
        have r366 : 0 ≤ (m364 a0 10) ∧ (m364 a0 10) ≤ 700 := zi_rd hIm364 hc0 zb_28_10
        generalize hmm367 : zu_up m364 a0 5 (m364 a0 10) = m367
        have hIm367 := zi_up hmm367 hIm364 hc0 zb_28_5 (by omega) (by omega)
        have hFm367 := zfr_up hmm367 hFm364 hc0 rfl
        have g368 := zwt_fr (zdis_fr (zfr_up hmm367 (zfr_rf [(28, 6)] _) hc0 rfl) rfl)
        have hRKNm367 := zR_KN_fr (zdis_fr (zfr_up hmm367 (zfr_rf [(28, 6)] _) hc0 rfl) rfl) hRKNm364
        have hRLRm367 := zR_LR_fr (zdis_fr (zfr_up hmm367 (zfr_rf [(28, 6)] _) hc0 rfl) rfl) hRLRm364
        have hRNSm367 := zR_NS_fr (zdis_fr (zfr_up hmm367 (zfr_rf [(28, 6)] _) hc0 rfl) rfl) hRNSm364
        have hRTRm367 := zR_TR_fr (zdis_fr (zfr_up hmm367 (zfr_rf [(28, 6)] _) hc0 rfl) rfl) hRTRm364
        have hRWDm367 := zR_WD_fr (zdis_fr (zfr_up hmm367 (zfr_rf [(28, 6)] _) hc0 rfl) rfl) hRWDm364
        refine zw_b (by omega) ?_
        refine zw_some ?_
        refine zw_b (by omega) ?_
        have r369 : 0 ≤ (m367 a0 7) ∧ (m367 a0 7) ≤ 700 := zi_rd hIm367 hc0 zb_28_7
        have e370 : (m367 a0 7) = (mh a0 7) := (Eq.trans (zs_ne hmm367 (Or.inr (by decide))) (zs_ne hmm364 (Or.inr (by decide))))
        have r371 : 0 ≤ (m367 a0 8) ∧ (m367 a0 8) ≤ 6 := zi_rd hIm367 hc0 zb_28_8
        have r372 : 0 ≤ (m367 a0 21) ∧ (m367 a0 21) ≤ 64 := zi_rd hIm367 hc0 zb_28_21
        have e373 : (m367 a0 21) = (mh a0 21) := (Eq.trans (zs_ne hmm367 (Or.inr (by decide))) (zs_ne hmm364 (Or.inr (by decide))))
        have r374 : 0 ≤ (m367 a0 48) ∧ (m367 a0 48) ≤ 64 := zi_rd hIm367 hc0 zb_28_48
        have e375 : (m367 a0 48) = (mh a0 48) := (Eq.trans (zs_ne hmm367 (Or.inr (by decide))) (zs_ne hmm364 (Or.inr (by decide))))
        have r376 : 0 ≤ (m367 a0 46) ∧ (m367 a0 46) ≤ 96 := zi_rd hIm367 hc0 zb_28_46
        have e377 : (m367 a0 46) = (mh a0 46) := (Eq.trans (zs_ne hmm367 (Or.inr (by decide))) (zs_ne hmm364 (Or.inr (by decide))))
        have r378 : 0 ≤ (m367 a0 49) ∧ (m367 a0 49) ≤ 1 := zi_rd hIm367 hc0 zb_28_49
        have e379 : (m367 a0 49) = (mh a0 49) := (Eq.trans (zs_ne hmm367 (Or.inr (by decide))) (zs_ne hmm364 (Or.inr (by decide))))
        have r380 : 0 ≤ (m367 a0 45) ∧ (m367 a0 45) ≤ 96 := zi_rd hIm367 hc0 zb_28_45
        have e381 : (m367 a0 45) = (mh a0 45) := (Eq.trans (zs_ne hmm367 (Or.inr (by decide))) (zs_ne hmm364 (Or.inr (by decide))))
        have r382 : 0 ≤ (m367 a0 47) ∧ (m367 a0 47) ≤ 8 := zi_rd hIm367 hc0 zb_28_47
        have e383 : (m367 a0 47) = (mh a0 47) := (Eq.trans (zs_ne hmm367 (Or.inr (by decide))) (zs_ne hmm364 (Or.inr (by decide))))
        have r384 : (-2147483648) ≤ (m367 a0 4) ∧ (m367 a0 4) ≤ 2147483647 := zi_rd hIm367 hc0 zb_28_4
        have e385 : (m367 a0 4) = 1 := (Eq.trans (zs_ne hmm367 (Or.inr (by decide))) (zs_eq hmm364))
        exact zw_some ⟨hIm367, hFm367, hRKNm367, hRNSm367, hRTRm367, hRWDm367, ⟨by decide, by decide⟩, by omega, fun h => absurd h (by decide), fun h => absurd h (by decide), fun h => absurd h (by decide), fun h => absurd h (by decide), fun h => absurd h (by decide), fun h => absurd h (by decide), fun _ => by omega⟩
set_option maxHeartbeats 4000000 in
theorem zl_117H2 (n : Nat) {a0 : Int} {m0 : zu_m} (hc0 : zcls a0 = 28)  (hxp0 : (m0 a0 21) + znz m0 = (m0 a0 48)) (hxp1 : (m0 a0 45) = znz m0 + (m0 a0 47)) (hxp2 : (m0 a0 46) = zbi m0 + 1) (hxp3 : (m0 a0 49) = 0) (hxp4 : 1 ≤ (m0 a0 21)) (k : Nat) (ih : (∀ (mh : zu_m), zi_I mh → zfr [(28, 5), (28, 6), (28, 8), (28, 9), (28, 10), (28, 11), (28, 22), (28, 46), (28, 47), (28, 48), (28, 49), (28, 50), (28, 51), (117, 0), (118, 0), (119, 0), (120, 0), (121, 0)] m0 mh → (0 ≤ mh a0 49 ∧ mh a0 49 ≤ 0) → ((mh a0 21) + znz mh = (mh a0 48)) → ((mh a0 45) = znz mh + (mh a0 47)) → ((mh a0 46) = zbi mh + 1) → (1 ≤ (mh a0 21)) → ((mh a0 7) = (m0 a0 7)) → ((mh a0 8) = (m0 a0 8)) → ((mh a0 4) = (m0 a0 4)) → (zR_KN mh) → (zR_NS mh) → (zR_TR mh) → (zR_WD mh) → 2 < (k : Int) → zw (zu_ex (zt_T n) 117 47 [(40, a0), (2, 0)] [] mh) (fun v m => zi_I m ∧ zfr [(28, 5), (28, 6), (28, 8), (28, 9), (28, 10), (28, 11), (28, 22), (28, 46), (28, 47), (28, 48), (28, 49), (28, 50), (28, 51), (117, 0), (118, 0), (119, 0), (120, 0), (121, 0)] m0 m ∧ zR_KN m ∧ zR_NS m ∧ zR_TR m ∧ zR_WD m ∧ (0 ≤ v ∧ v ≤ 1) ∧ ((m0 a0 7) ≤ (m a0 7)) ∧ (v = 1 → ((m0 a0 8) ≠ 0 ∧ ((m a0 8) = 0 ∨ (m0 a0 7) < (m a0 7)))) ∧ (v = 1 → (m a0 21) + znz m = (m a0 48)) ∧ (v = 1 → (m a0 46) + (m a0 49) = zbi m + 1) ∧ (v = 1 → (m a0 45) = znz m + (m a0 47)) ∧ (v = 1 → ((m a0 49) = 0 → 1 ≤ (m a0 21))) ∧ (v = 1 → (m a0 4) = (m0 a0 4)) ∧ (v = 0 → (m a0 4) ≠ 0))) ∧ (∀ (y0 : Int) (mh : zu_m), zi_I mh → zfr [(28, 5), (28, 6), (28, 8), (28, 9), (28, 10), (28, 11), (28, 22), (28, 46), (28, 47), (28, 48), (28, 49), (28, 50), (28, 51), (117, 0), (118, 0), (119, 0), (120, 0), (121, 0)] m0 mh → (0 ≤ y0 ∧ y0 ≤ 14) → (0 ≤ mh a0 49 ∧ mh a0 49 ≤ 0) → ((mh a0 21) + znz mh = (mh a0 48)) → ((mh a0 45) = znz mh + (mh a0 47)) → ((mh a0 46) = zbi mh + 1) → (1 ≤ (mh a0 21)) → ((mh a0 7) = (m0 a0 7)) → (y0 ≠ 0 → (m0 a0 8) ≠ 0) → (y0 = 0 ∨ 3 ≤ y0) → ((mh a0 4) = (m0 a0 4)) → (zR_KN mh) → (zR_NS mh) → (zR_TR mh) → (zR_WD mh) → 1 < (k : Int) → zw (zu_ex (zt_T n) 117 147 [(40, a0), (2, 0)] [(0, y0)] mh) (fun v m => zi_I m ∧ zfr [(28, 5), (28, 6), (28, 8), (28, 9), (28, 10), (28, 11), (28, 22), (28, 46), (28, 47), (28, 48), (28, 49), (28, 50), (28, 51), (117, 0), (118, 0), (119, 0), (120, 0), (121, 0)] m0 m ∧ zR_KN m ∧ zR_NS m ∧ zR_TR m ∧ zR_WD m ∧ (0 ≤ v ∧ v ≤ 1) ∧ ((m0 a0 7) ≤ (m a0 7)) ∧ (v = 1 → ((m0 a0 8) ≠ 0 ∧ ((m a0 8) = 0 ∨ (m0 a0 7) < (m a0 7)))) ∧ (v = 1 → (m a0 21) + znz m = (m a0 48)) ∧ (v = 1 → (m a0 46) + (m a0 49) = zbi m + 1) ∧ (v = 1 → (m a0 45) = znz m + (m a0 47)) ∧ (v = 1 → ((m a0 49) = 0 → 1 ≤ (m a0 21))) ∧ (v = 1 → (m a0 4) = (m0 a0 4)) ∧ (v = 0 → (m a0 4) ≠ 0))) ∧ (∀ (x1 : Int) (mh : zu_m), zi_I mh → zfr [(28, 5), (28, 6), (28, 8), (28, 9), (28, 10), (28, 11), (28, 22), (28, 46), (28, 47), (28, 48), (28, 49), (28, 50), (28, 51), (117, 0), (118, 0), (119, 0), (120, 0), (121, 0)] m0 mh → (1 ≤ x1 ∧ x1 ≤ 14) → (0 ≤ mh a0 49 ∧ mh a0 49 ≤ 0) → ((mh a0 21) + znz mh = (mh a0 48)) → ((mh a0 45) = znz mh + (mh a0 47)) → ((mh a0 46) = zbi mh + 1) → (1 ≤ (mh a0 21)) → ((mh a0 7) = (m0 a0 7)) → ((m0 a0 8) ≠ 0) → (3 ≤ x1) → ((mh a0 4) = (m0 a0 4)) → (zR_KN mh) → (zR_NS mh) → (zR_TR mh) → (zR_WD mh) → 0 < (k : Int) → zw (zu_ex (zt_T n) 117 217 [(40, a0), (0, x1)] [] mh) (fun v m => zi_I m ∧ zfr [(28, 5), (28, 6), (28, 8), (28, 9), (28, 10), (28, 11), (28, 22), (28, 46), (28, 47), (28, 48), (28, 49), (28, 50), (28, 51), (117, 0), (118, 0), (119, 0), (120, 0), (121, 0)] m0 m ∧ zR_KN m ∧ zR_NS m ∧ zR_TR m ∧ zR_WD m ∧ (0 ≤ v ∧ v ≤ 1) ∧ ((m0 a0 7) ≤ (m a0 7)) ∧ (v = 1 → ((m0 a0 8) ≠ 0 ∧ ((m a0 8) = 0 ∨ (m0 a0 7) < (m a0 7)))) ∧ (v = 1 → (m a0 21) + znz m = (m a0 48)) ∧ (v = 1 → (m a0 46) + (m a0 49) = zbi m + 1) ∧ (v = 1 → (m a0 45) = znz m + (m a0 47)) ∧ (v = 1 → ((m a0 49) = 0 → 1 ≤ (m a0 21))) ∧ (v = 1 → (m a0 4) = (m0 a0 4)) ∧ (v = 0 → (m a0 4) ≠ 0)))) : (∀ (x1 : Int) (mh : zu_m), zi_I mh → zfr [(28, 5), (28, 6), (28, 8), (28, 9), (28, 10), (28, 11), (28, 22), (28, 46), (28, 47), (28, 48), (28, 49), (28, 50), (28, 51), (117, 0), (118, 0), (119, 0), (120, 0), (121, 0)] m0 mh → (1 ≤ x1 ∧ x1 ≤ 14) → (0 ≤ mh a0 49 ∧ mh a0 49 ≤ 0) → ((mh a0 21) + znz mh = (mh a0 48)) → ((mh a0 45) = znz mh + (mh a0 47)) → ((mh a0 46) = zbi mh + 1) → (1 ≤ (mh a0 21)) → ((mh a0 7) = (m0 a0 7)) → ((m0 a0 8) ≠ 0) → (3 ≤ x1) → ((mh a0 4) = (m0 a0 4)) → (zR_KN mh) → (zR_NS mh) → (zR_TR mh) → (zR_WD mh) → 0 < ((k + 1 : Nat) : Int) → zw (zu_ex (zt_T n) 117 217 [(40, a0), (0, x1)] [] mh) (fun v m => zi_I m ∧ zfr [(28, 5), (28, 6), (28, 8), (28, 9), (28, 10), (28, 11), (28, 22), (28, 46), (28, 47), (28, 48), (28, 49), (28, 50), (28, 51), (117, 0), (118, 0), (119, 0), (120, 0), (121, 0)] m0 m ∧ zR_KN m ∧ zR_NS m ∧ zR_TR m ∧ zR_WD m ∧ (0 ≤ v ∧ v ≤ 1) ∧ ((m0 a0 7) ≤ (m a0 7)) ∧ (v = 1 → ((m0 a0 8) ≠ 0 ∧ ((m a0 8) = 0 ∨ (m0 a0 7) < (m a0 7)))) ∧ (v = 1 → (m a0 21) + znz m = (m a0 48)) ∧ (v = 1 → (m a0 46) + (m a0 49) = zbi m + 1) ∧ (v = 1 → (m a0 45) = znz m + (m a0 47)) ∧ (v = 1 → ((m a0 49) = 0 → 1 ≤ (m a0 21))) ∧ (v = 1 → (m a0 4) = (m0 a0 4)) ∧ (v = 0 → (m a0 4) ≠ 0))) := by
      intro x1 mh hImh hFmh hbx1 hg1 hH0 hH1 hH2 hH3 hH4 hH5 hH6 hH7 hRKNmh hRNSmh hRTRmh hRWDmh hM
      refine zw_eq (zu_rega_at (zt_T n) (zm_117 n) (zdp_117 n) _ _ _ _ _ _ (zr_117_217 n _ _ a0 x1 mh)) ?_
      have r386 : 0 ≤ (mh a0 21) ∧ (mh a0 21) ≤ 64 := zi_rd hImh hc0 zb_28_21
      have r387 : 0 ≤ (mh a0 48) ∧ (mh a0 48) ≤ 64 := zi_rd hImh hc0 zb_28_48
      have r388 : 0 ≤ (mh a0 45) ∧ (mh a0 45) ≤ 96 := zi_rd hImh hc0 zb_28_45
      have r389 : 0 ≤ (mh a0 47) ∧ (mh a0 47) ≤ 8 := zi_rd hImh hc0 zb_28_47
      have r390 : 0 ≤ (mh a0 46) ∧ (mh a0 46) ≤ 96 := zi_rd hImh hc0 zb_28_46
      have r391 : 0 ≤ (mh a0 7) ∧ (mh a0 7) ≤ 700 := zi_rd hImh hc0 zb_28_7
      have r392 : (-2147483648) ≤ (mh a0 4) ∧ (mh a0 4) ≤ 2147483647 := zi_rd hImh hc0 zb_28_4
      have g393 := zwt_bd hImh hc0
      have s394 := hRNSmh a0 hc0
      refine zw_bd (zw_eq (zu_call_at (zt_T n) (zm_113 n) (zdp_113 n) _ _ _ _ _ rfl (zr_113_0 n _ _ a0 mh)) ?_)
      refine zw_ite (fun h395 => ?_) (fun h395 => ?_)
      · have w396 := zu_w32_id (z := (mh a0 48) + 1) (by omega) (by omega)
        generalize hmm397 : zu_up mh a0 48 (zu_w32 ((mh a0 48) + 1)) = m397
        have hIm397 := zi_up hmm397 hImh hc0 zb_28_48 (by omega) (by omega)
        have hFm397 := zfr_up hmm397 hFmh hc0 rfl
        have g398 := zwt_fr (zdis_fr (zfr_up hmm397 (zfr_rf [(28, 49)] _) hc0 rfl) rfl)
        have hRKNm397 := zR_KN_fr (zdis_fr (zfr_up hmm397 (zfr_rf [(28, 49)] _) hc0 rfl) rfl) hRKNmh
        have hRNSm397 := zR_NS_fr (zdis_fr (zfr_up hmm397 (zfr_rf [(28, 49)] _) hc0 rfl) rfl) hRNSmh
        have hRTRm397 := zR_TR_fr (zdis_fr (zfr_up hmm397 (zfr_rf [(28, 49)] _) hc0 rfl) rfl) hRTRmh
        have hRWDm397 := zR_WD_fr (zdis_fr (zfr_up hmm397 (zfr_rf [(28, 49)] _) hc0 rfl) rfl) hRWDmh
        refine zw_b (by omega) ?_
        refine zw_some ?_
        refine zw_ite (fun h399 => ?_) (fun h399 => ?_)
        · refine zw_bd (zw_eq (zu_call_at (zt_T n) (zm_114 n) (zdp_114 n) _ _ _ _ _ rfl (zr_114_0 n _ _ a0 x1 m397)) ?_)
          have r400 : 0 ≤ (m397 a0 45) ∧ (m397 a0 45) ≤ 96 := zi_rd hIm397 hc0 zb_28_45
          have e401 : (m397 a0 45) = (mh a0 45) := (zs_ne hmm397 (Or.inr (by decide)))
          have b402 : 0 ≤ (m397 a0 45) ∧ (m397 a0 45) < 96 := by omega
          refine zw_if b402 ?_
          generalize hmm403 : zu_up m397 211 (m397 a0 45) x1 = m403
          have hIm403 := zi_up hmm403 hIm397 zq_211 (zb_120 _) (by omega) (by omega)
          have hFm403 := zfr_up hmm403 hFm397 zq_211 rfl
          have hRKNm403 := zR_KN_fr (zdis_fr (zfr_up hmm403 (zfr_rf [(120, 0)] _) zq_211 rfl) rfl) hRKNm397
          have hRNSm403 := zR_NS_fr (zdis_fr (zfr_up hmm403 (zfr_rf [(120, 0)] _) zq_211 rfl) rfl) hRNSm397
          have hRTRm403 := zR_TR_fr (zdis_fr (zfr_up hmm403 (zfr_rf [(120, 0)] _) zq_211 rfl) rfl) hRTRm397
          have hRWDm403 := zR_WD_fr (zdis_fr (zfr_up hmm403 (zfr_rf [(120, 0)] _) zq_211 rfl) rfl) hRWDm397
          have r404 : 0 ≤ (m403 a0 45) ∧ (m403 a0 45) ≤ 96 := zi_rd hIm403 hc0 zb_28_45
          have e405 : (m403 a0 45) = (m397 a0 45) := (zs_ne hmm403 (Or.inl (zc_ne hc0 zq_211 (by decide))))
          have w406 := zu_w32_id (z := (m403 a0 45) + 1) (by omega) (by omega)
          generalize hmm407 : zu_up m403 a0 45 (zu_w32 ((m403 a0 45) + 1)) = m407
          have hIm407 := zi_up hmm407 hIm403 hc0 zb_28_45 (by omega) (by omega)
          have hFm407 := zfr_up hmm407 hFm403 hc0 rfl
          have hRKNm407 := zR_KN_fr (zdis_fr (zfr_up hmm407 (zfr_rf [(28, 46)] _) hc0 rfl) rfl) hRKNm403
          have hRNSm407 := zR_NS_fr (zdis_fr (zfr_up hmm407 (zfr_rf [(28, 46)] _) hc0 rfl) rfl) hRNSm403
          have hRTRm407 := zR_TR_fr (zdis_fr (zfr_up hmm407 (zfr_rf [(28, 46)] _) hc0 rfl) rfl) hRTRm403
          have hRWDm407 := zR_WD_fr (zdis_fr (zfr_up hmm407 (zfr_rf [(28, 46)] _) hc0 rfl) rfl) hRWDm403
          have g408 := zwt_push hmm403 hmm407 hc0 (by omega) (by omega) (by omega)
          have g409 := zwt_bd hIm407 hc0
          refine zw_some ?_
          refine zw_b (by omega) ?_
          generalize hmm410 : zu_up m407 a0 49 1 = m410
          have hIm410 := zi_up hmm410 hIm407 hc0 zb_28_49 (by omega) (by omega)
          have hFm410 := zfr_up hmm410 hFm407 hc0 rfl
          have g411 := zwt_fr (zdis_fr (zfr_up hmm410 (zfr_rf [(28, 50)] _) hc0 rfl) rfl)
          have hRKNm410 := zR_KN_fr (zdis_fr (zfr_up hmm410 (zfr_rf [(28, 50)] _) hc0 rfl) rfl) hRKNm407
          have hRNSm410 := zR_NS_fr (zdis_fr (zfr_up hmm410 (zfr_rf [(28, 50)] _) hc0 rfl) rfl) hRNSm407
          have hRTRm410 := zR_TR_fr (zdis_fr (zfr_up hmm410 (zfr_rf [(28, 50)] _) hc0 rfl) rfl) hRTRm407
          have hRWDm410 := zR_WD_fr (zdis_fr (zfr_up hmm410 (zfr_rf [(28, 50)] _) hc0 rfl) rfl) hRWDm407
          refine zw_bd (zw_eq (zu_call_at (zt_T n) (zm_109 n) (zdp_109 n) _ _ _ _ _ rfl (zr_109_0 n _ _ x1 m410)) ?_)
          refine zw_ite (fun h412 => ?_) (fun h412 => ?_)
          · refine zw_ite (fun h413 => ?_) (fun h413 => ?_)
            · refine zw_ite (fun h414 => ?_) (fun h414 => ?_)
              · refine zw_ite (fun h415 => ?_) (fun h415 => ?_)
                · refine zw_ite (fun h416 => ?_) (fun h416 => ?_)
                  · refine zw_ite (fun h417 => ?_) (fun h417 => ?_)
                    · refine zw_some ?_
                      refine zw_ite (fun h418 => ?_) (fun h418 => ?_)
                      · exfalso; omega
                      · refine zw_b (by omega) ?_
                        generalize hmm419 : zu_up m410 a0 50 1 = m419
                        have hIm419 := zi_up hmm419 hIm410 hc0 zb_28_50 (by omega) (by omega)
                        have hFm419 := zfr_up hmm419 hFm410 hc0 rfl
                        have g420 := zwt_fr (zdis_fr (zfr_up hmm419 (zfr_rf [(28, 51)] _) hc0 rfl) rfl)
                        have hRKNm419 := zR_KN_fr (zdis_fr (zfr_up hmm419 (zfr_rf [(28, 51)] _) hc0 rfl) rfl) hRKNm410
                        have hRNSm419 := zR_NS_fr (zdis_fr (zfr_up hmm419 (zfr_rf [(28, 51)] _) hc0 rfl) rfl) hRNSm410
                        have hRTRm419 := zR_TR_fr (zdis_fr (zfr_up hmm419 (zfr_rf [(28, 51)] _) hc0 rfl) rfl) hRTRm410
                        have hRWDm419 := zR_WD_fr (zdis_fr (zfr_up hmm419 (zfr_rf [(28, 51)] _) hc0 rfl) rfl) hRWDm410
                        have r423 : 0 ≤ (m419 a0 7) ∧ (m419 a0 7) ≤ 700 := zi_rd hIm419 hc0 zb_28_7
                        have e424 : (m419 a0 7) = (mh a0 7) := (Eq.trans (zs_ne hmm419 (Or.inr (by decide))) (Eq.trans (zs_ne hmm410 (Or.inr (by decide))) (Eq.trans (zs_ne hmm407 (Or.inr (by decide))) (Eq.trans (zs_ne hmm403 (Or.inl (zc_ne hc0 zq_211 (by decide)))) (zs_ne hmm397 (Or.inr (by decide)))))))
                        refine zw_bd (zw_mono (zk_89 n hIm419 hc0 hRNSm419 hRWDm419) (fun v422 m421 hqm421 => ?_))
                        obtain ⟨hIm421, hfm421, hvm421⟩ := hqm421
                        have hFm421 := zfr_tr hFm419 hfm421 rfl
                        obtain ⟨hRNSm421, hRTRm421, hRWDm421, hvm421⟩ := hvm421
                        have g425 := zwt_fr (zdis_fr hfm421 rfl)
                        have hRKNm421 := zR_KN_fr (zdis_fr hfm421 rfl) hRKNm419
                        have g426 := zwt_bd hIm421 hc0
                        have s427 := hRNSm421 a0 hc0
                        have r428 : 0 ≤ (m421 a0 7) ∧ (m421 a0 7) ≤ 700 := zi_rd hIm421 hc0 zb_28_7
                        have r429 : 0 ≤ (m421 a0 8) ∧ (m421 a0 8) ≤ 6 := zi_rd hIm421 hc0 zb_28_8
                        refine zw_b (by omega) ?_
                        have r430 : 0 ≤ (m421 a0 21) ∧ (m421 a0 21) ≤ 64 := zi_rd hIm421 hc0 zb_28_21
                        have e431 : (m421 a0 21) = (mh a0 21) := (Eq.trans (zfr_ap hfm421 hc0 rfl) (Eq.trans (zs_ne hmm419 (Or.inr (by decide))) (Eq.trans (zs_ne hmm410 (Or.inr (by decide))) (Eq.trans (zs_ne hmm407 (Or.inr (by decide))) (Eq.trans (zs_ne hmm403 (Or.inl (zc_ne hc0 zq_211 (by decide)))) (zs_ne hmm397 (Or.inr (by decide))))))))
                        have r432 : 0 ≤ (m421 a0 48) ∧ (m421 a0 48) ≤ 64 := zi_rd hIm421 hc0 zb_28_48
                        have e433 : (m421 a0 48) = (zu_w32 ((mh a0 48) + 1)) := (Eq.trans (zfr_ap hfm421 hc0 rfl) (Eq.trans (zs_ne hmm419 (Or.inr (by decide))) (Eq.trans (zs_ne hmm410 (Or.inr (by decide))) (Eq.trans (zs_ne hmm407 (Or.inr (by decide))) (Eq.trans (zs_ne hmm403 (Or.inl (zc_ne hc0 zq_211 (by decide)))) (zs_eq hmm397))))))
                        have r434 : 0 ≤ (m421 a0 46) ∧ (m421 a0 46) ≤ 96 := zi_rd hIm421 hc0 zb_28_46
                        have e435 : (m421 a0 46) = (mh a0 46) := (Eq.trans (zfr_ap hfm421 hc0 rfl) (Eq.trans (zs_ne hmm419 (Or.inr (by decide))) (Eq.trans (zs_ne hmm410 (Or.inr (by decide))) (Eq.trans (zs_ne hmm407 (Or.inr (by decide))) (Eq.trans (zs_ne hmm403 (Or.inl (zc_ne hc0 zq_211 (by decide)))) (zs_ne hmm397 (Or.inr (by decide))))))))
                        have r436 : 0 ≤ (m421 a0 49) ∧ (m421 a0 49) ≤ 1 := zi_rd hIm421 hc0 zb_28_49
                        have e437 : (m421 a0 49) = 1 := (Eq.trans (zfr_ap hfm421 hc0 rfl) (Eq.trans (zs_ne hmm419 (Or.inr (by decide))) (zs_eq hmm410)))
                        have r438 : 0 ≤ (m421 a0 45) ∧ (m421 a0 45) ≤ 96 := zi_rd hIm421 hc0 zb_28_45
                        have e439 : (m421 a0 45) = (zu_w32 ((m403 a0 45) + 1)) := (Eq.trans (zfr_ap hfm421 hc0 rfl) (Eq.trans (zs_ne hmm419 (Or.inr (by decide))) (Eq.trans (zs_ne hmm410 (Or.inr (by decide))) (zs_eq hmm407))))
                        have r440 : 0 ≤ (m421 a0 47) ∧ (m421 a0 47) ≤ 8 := zi_rd hIm421 hc0 zb_28_47
                        have e441 : (m421 a0 47) = (mh a0 47) := (Eq.trans (zfr_ap hfm421 hc0 rfl) (Eq.trans (zs_ne hmm419 (Or.inr (by decide))) (Eq.trans (zs_ne hmm410 (Or.inr (by decide))) (Eq.trans (zs_ne hmm407 (Or.inr (by decide))) (Eq.trans (zs_ne hmm403 (Or.inl (zc_ne hc0 zq_211 (by decide)))) (zs_ne hmm397 (Or.inr (by decide))))))))
                        have r442 : (-2147483648) ≤ (m421 a0 4) ∧ (m421 a0 4) ≤ 2147483647 := zi_rd hIm421 hc0 zb_28_4
                        have e443 : (m421 a0 4) = (mh a0 4) := (Eq.trans (zfr_ap hfm421 hc0 rfl) (Eq.trans (zs_ne hmm419 (Or.inr (by decide))) (Eq.trans (zs_ne hmm410 (Or.inr (by decide))) (Eq.trans (zs_ne hmm407 (Or.inr (by decide))) (Eq.trans (zs_ne hmm403 (Or.inl (zc_ne hc0 zq_211 (by decide)))) (zs_ne hmm397 (Or.inr (by decide))))))))
                        exact zw_some ⟨hIm421, hFm421, hRKNm421, hRNSm421, hRTRm421, hRWDm421, ⟨by decide, by decide⟩, by omega, fun _ => by omega, fun _ => by omega, fun _ => by omega, fun _ => by omega, fun _ => by omega, fun _ => by omega, fun h => absurd h (by decide)⟩
                    · refine zw_some ?_
                      refine zw_ite (fun h444 => ?_) (fun h444 => ?_)
                      · exfalso; omega
                      · refine zw_b (by omega) ?_
                        generalize hmm445 : zu_up m410 a0 50 1 = m445
                        have hIm445 := zi_up hmm445 hIm410 hc0 zb_28_50 (by omega) (by omega)
                        have hFm445 := zfr_up hmm445 hFm410 hc0 rfl
                        have g446 := zwt_fr (zdis_fr (zfr_up hmm445 (zfr_rf [(28, 51)] _) hc0 rfl) rfl)
                        have hRKNm445 := zR_KN_fr (zdis_fr (zfr_up hmm445 (zfr_rf [(28, 51)] _) hc0 rfl) rfl) hRKNm410
                        have hRNSm445 := zR_NS_fr (zdis_fr (zfr_up hmm445 (zfr_rf [(28, 51)] _) hc0 rfl) rfl) hRNSm410
                        have hRTRm445 := zR_TR_fr (zdis_fr (zfr_up hmm445 (zfr_rf [(28, 51)] _) hc0 rfl) rfl) hRTRm410
                        have hRWDm445 := zR_WD_fr (zdis_fr (zfr_up hmm445 (zfr_rf [(28, 51)] _) hc0 rfl) rfl) hRWDm410
                        have r449 : 0 ≤ (m445 a0 7) ∧ (m445 a0 7) ≤ 700 := zi_rd hIm445 hc0 zb_28_7
                        have e450 : (m445 a0 7) = (mh a0 7) := (Eq.trans (zs_ne hmm445 (Or.inr (by decide))) (Eq.trans (zs_ne hmm410 (Or.inr (by decide))) (Eq.trans (zs_ne hmm407 (Or.inr (by decide))) (Eq.trans (zs_ne hmm403 (Or.inl (zc_ne hc0 zq_211 (by decide)))) (zs_ne hmm397 (Or.inr (by decide)))))))
                        refine zw_bd (zw_mono (zk_89 n hIm445 hc0 hRNSm445 hRWDm445) (fun v448 m447 hqm447 => ?_))
                        obtain ⟨hIm447, hfm447, hvm447⟩ := hqm447
                        have hFm447 := zfr_tr hFm445 hfm447 rfl
                        obtain ⟨hRNSm447, hRTRm447, hRWDm447, hvm447⟩ := hvm447
                        have g451 := zwt_fr (zdis_fr hfm447 rfl)
                        have hRKNm447 := zR_KN_fr (zdis_fr hfm447 rfl) hRKNm445
                        have g452 := zwt_bd hIm447 hc0
                        have s453 := hRNSm447 a0 hc0
                        have r454 : 0 ≤ (m447 a0 7) ∧ (m447 a0 7) ≤ 700 := zi_rd hIm447 hc0 zb_28_7
                        have r455 : 0 ≤ (m447 a0 8) ∧ (m447 a0 8) ≤ 6 := zi_rd hIm447 hc0 zb_28_8
                        refine zw_b (by omega) ?_
                        have r456 : 0 ≤ (m447 a0 21) ∧ (m447 a0 21) ≤ 64 := zi_rd hIm447 hc0 zb_28_21
                        have e457 : (m447 a0 21) = (mh a0 21) := (Eq.trans (zfr_ap hfm447 hc0 rfl) (Eq.trans (zs_ne hmm445 (Or.inr (by decide))) (Eq.trans (zs_ne hmm410 (Or.inr (by decide))) (Eq.trans (zs_ne hmm407 (Or.inr (by decide))) (Eq.trans (zs_ne hmm403 (Or.inl (zc_ne hc0 zq_211 (by decide)))) (zs_ne hmm397 (Or.inr (by decide))))))))
                        have r458 : 0 ≤ (m447 a0 48) ∧ (m447 a0 48) ≤ 64 := zi_rd hIm447 hc0 zb_28_48
                        have e459 : (m447 a0 48) = (zu_w32 ((mh a0 48) + 1)) := (Eq.trans (zfr_ap hfm447 hc0 rfl) (Eq.trans (zs_ne hmm445 (Or.inr (by decide))) (Eq.trans (zs_ne hmm410 (Or.inr (by decide))) (Eq.trans (zs_ne hmm407 (Or.inr (by decide))) (Eq.trans (zs_ne hmm403 (Or.inl (zc_ne hc0 zq_211 (by decide)))) (zs_eq hmm397))))))
                        have r460 : 0 ≤ (m447 a0 46) ∧ (m447 a0 46) ≤ 96 := zi_rd hIm447 hc0 zb_28_46
                        have e461 : (m447 a0 46) = (mh a0 46) := (Eq.trans (zfr_ap hfm447 hc0 rfl) (Eq.trans (zs_ne hmm445 (Or.inr (by decide))) (Eq.trans (zs_ne hmm410 (Or.inr (by decide))) (Eq.trans (zs_ne hmm407 (Or.inr (by decide))) (Eq.trans (zs_ne hmm403 (Or.inl (zc_ne hc0 zq_211 (by decide)))) (zs_ne hmm397 (Or.inr (by decide))))))))
                        have r462 : 0 ≤ (m447 a0 49) ∧ (m447 a0 49) ≤ 1 := zi_rd hIm447 hc0 zb_28_49
                        have e463 : (m447 a0 49) = 1 := (Eq.trans (zfr_ap hfm447 hc0 rfl) (Eq.trans (zs_ne hmm445 (Or.inr (by decide))) (zs_eq hmm410)))
                        have r464 : 0 ≤ (m447 a0 45) ∧ (m447 a0 45) ≤ 96 := zi_rd hIm447 hc0 zb_28_45
                        have e465 : (m447 a0 45) = (zu_w32 ((m403 a0 45) + 1)) := (Eq.trans (zfr_ap hfm447 hc0 rfl) (Eq.trans (zs_ne hmm445 (Or.inr (by decide))) (Eq.trans (zs_ne hmm410 (Or.inr (by decide))) (zs_eq hmm407))))
                        have r466 : 0 ≤ (m447 a0 47) ∧ (m447 a0 47) ≤ 8 := zi_rd hIm447 hc0 zb_28_47
                        have e467 : (m447 a0 47) = (mh a0 47) := (Eq.trans (zfr_ap hfm447 hc0 rfl) (Eq.trans (zs_ne hmm445 (Or.inr (by decide))) (Eq.trans (zs_ne hmm410 (Or.inr (by decide))) (Eq.trans (zs_ne hmm407 (Or.inr (by decide))) (Eq.trans (zs_ne hmm403 (Or.inl (zc_ne hc0 zq_211 (by decide)))) (zs_ne hmm397 (Or.inr (by decide))))))))
                        have r468 : (-2147483648) ≤ (m447 a0 4) ∧ (m447 a0 4) ≤ 2147483647 := zi_rd hIm447 hc0 zb_28_4
                        have e469 : (m447 a0 4) = (mh a0 4) := (Eq.trans (zfr_ap hfm447 hc0 rfl) (Eq.trans (zs_ne hmm445 (Or.inr (by decide))) (Eq.trans (zs_ne hmm410 (Or.inr (by decide))) (Eq.trans (zs_ne hmm407 (Or.inr (by decide))) (Eq.trans (zs_ne hmm403 (Or.inl (zc_ne hc0 zq_211 (by decide)))) (zs_ne hmm397 (Or.inr (by decide))))))))
                        exact zw_some ⟨hIm447, hFm447, hRKNm447, hRNSm447, hRTRm447, hRWDm447, ⟨by decide, by decide⟩, by omega, fun _ => by omega, fun _ => by omega, fun _ => by omega, fun _ => by omega, fun _ => by omega, fun _ => by omega, fun h => absurd h (by decide)⟩
                  · refine zw_some ?_
                    refine zw_ite (fun h470 => ?_) (fun h470 => ?_)
                    · exfalso; omega
                    · refine zw_b (by omega) ?_
                      generalize hmm471 : zu_up m410 a0 50 1 = m471
                      have hIm471 := zi_up hmm471 hIm410 hc0 zb_28_50 (by omega) (by omega)
                      have hFm471 := zfr_up hmm471 hFm410 hc0 rfl
                      have g472 := zwt_fr (zdis_fr (zfr_up hmm471 (zfr_rf [(28, 51)] _) hc0 rfl) rfl)
                      have hRKNm471 := zR_KN_fr (zdis_fr (zfr_up hmm471 (zfr_rf [(28, 51)] _) hc0 rfl) rfl) hRKNm410
                      have hRNSm471 := zR_NS_fr (zdis_fr (zfr_up hmm471 (zfr_rf [(28, 51)] _) hc0 rfl) rfl) hRNSm410
                      have hRTRm471 := zR_TR_fr (zdis_fr (zfr_up hmm471 (zfr_rf [(28, 51)] _) hc0 rfl) rfl) hRTRm410
                      have hRWDm471 := zR_WD_fr (zdis_fr (zfr_up hmm471 (zfr_rf [(28, 51)] _) hc0 rfl) rfl) hRWDm410
                      have r475 : 0 ≤ (m471 a0 7) ∧ (m471 a0 7) ≤ 700 := zi_rd hIm471 hc0 zb_28_7
                      have e476 : (m471 a0 7) = (mh a0 7) := (Eq.trans (zs_ne hmm471 (Or.inr (by decide))) (Eq.trans (zs_ne hmm410 (Or.inr (by decide))) (Eq.trans (zs_ne hmm407 (Or.inr (by decide))) (Eq.trans (zs_ne hmm403 (Or.inl (zc_ne hc0 zq_211 (by decide)))) (zs_ne hmm397 (Or.inr (by decide)))))))
                      refine zw_bd (zw_mono (zk_89 n hIm471 hc0 hRNSm471 hRWDm471) (fun v474 m473 hqm473 => ?_))
                      obtain ⟨hIm473, hfm473, hvm473⟩ := hqm473
                      have hFm473 := zfr_tr hFm471 hfm473 rfl
                      obtain ⟨hRNSm473, hRTRm473, hRWDm473, hvm473⟩ := hvm473
                      have g477 := zwt_fr (zdis_fr hfm473 rfl)
                      have hRKNm473 := zR_KN_fr (zdis_fr hfm473 rfl) hRKNm471
                      have g478 := zwt_bd hIm473 hc0
                      have s479 := hRNSm473 a0 hc0
                      have r480 : 0 ≤ (m473 a0 7) ∧ (m473 a0 7) ≤ 700 := zi_rd hIm473 hc0 zb_28_7
                      have r481 : 0 ≤ (m473 a0 8) ∧ (m473 a0 8) ≤ 6 := zi_rd hIm473 hc0 zb_28_8
                      refine zw_b (by omega) ?_
                      have r482 : 0 ≤ (m473 a0 21) ∧ (m473 a0 21) ≤ 64 := zi_rd hIm473 hc0 zb_28_21
                      have e483 : (m473 a0 21) = (mh a0 21) := (Eq.trans (zfr_ap hfm473 hc0 rfl) (Eq.trans (zs_ne hmm471 (Or.inr (by decide))) (Eq.trans (zs_ne hmm410 (Or.inr (by decide))) (Eq.trans (zs_ne hmm407 (Or.inr (by decide))) (Eq.trans (zs_ne hmm403 (Or.inl (zc_ne hc0 zq_211 (by decide)))) (zs_ne hmm397 (Or.inr (by decide))))))))
                      have r484 : 0 ≤ (m473 a0 48) ∧ (m473 a0 48) ≤ 64 := zi_rd hIm473 hc0 zb_28_48
                      have e485 : (m473 a0 48) = (zu_w32 ((mh a0 48) + 1)) := (Eq.trans (zfr_ap hfm473 hc0 rfl) (Eq.trans (zs_ne hmm471 (Or.inr (by decide))) (Eq.trans (zs_ne hmm410 (Or.inr (by decide))) (Eq.trans (zs_ne hmm407 (Or.inr (by decide))) (Eq.trans (zs_ne hmm403 (Or.inl (zc_ne hc0 zq_211 (by decide)))) (zs_eq hmm397))))))
                      have r486 : 0 ≤ (m473 a0 46) ∧ (m473 a0 46) ≤ 96 := zi_rd hIm473 hc0 zb_28_46
                      have e487 : (m473 a0 46) = (mh a0 46) := (Eq.trans (zfr_ap hfm473 hc0 rfl) (Eq.trans (zs_ne hmm471 (Or.inr (by decide))) (Eq.trans (zs_ne hmm410 (Or.inr (by decide))) (Eq.trans (zs_ne hmm407 (Or.inr (by decide))) (Eq.trans (zs_ne hmm403 (Or.inl (zc_ne hc0 zq_211 (by decide)))) (zs_ne hmm397 (Or.inr (by decide))))))))
                      have r488 : 0 ≤ (m473 a0 49) ∧ (m473 a0 49) ≤ 1 := zi_rd hIm473 hc0 zb_28_49
                      have e489 : (m473 a0 49) = 1 := (Eq.trans (zfr_ap hfm473 hc0 rfl) (Eq.trans (zs_ne hmm471 (Or.inr (by decide))) (zs_eq hmm410)))
                      have r490 : 0 ≤ (m473 a0 45) ∧ (m473 a0 45) ≤ 96 := zi_rd hIm473 hc0 zb_28_45
                      have e491 : (m473 a0 45) = (zu_w32 ((m403 a0 45) + 1)) := (Eq.trans (zfr_ap hfm473 hc0 rfl) (Eq.trans (zs_ne hmm471 (Or.inr (by decide))) (Eq.trans (zs_ne hmm410 (Or.inr (by decide))) (zs_eq hmm407))))
                      have r492 : 0 ≤ (m473 a0 47) ∧ (m473 a0 47) ≤ 8 := zi_rd hIm473 hc0 zb_28_47
                      have e493 : (m473 a0 47) = (mh a0 47) := (Eq.trans (zfr_ap hfm473 hc0 rfl) (Eq.trans (zs_ne hmm471 (Or.inr (by decide))) (Eq.trans (zs_ne hmm410 (Or.inr (by decide))) (Eq.trans (zs_ne hmm407 (Or.inr (by decide))) (Eq.trans (zs_ne hmm403 (Or.inl (zc_ne hc0 zq_211 (by decide)))) (zs_ne hmm397 (Or.inr (by decide))))))))
                      have r494 : (-2147483648) ≤ (m473 a0 4) ∧ (m473 a0 4) ≤ 2147483647 := zi_rd hIm473 hc0 zb_28_4
                      have e495 : (m473 a0 4) = (mh a0 4) := (Eq.trans (zfr_ap hfm473 hc0 rfl) (Eq.trans (zs_ne hmm471 (Or.inr (by decide))) (Eq.trans (zs_ne hmm410 (Or.inr (by decide))) (Eq.trans (zs_ne hmm407 (Or.inr (by decide))) (Eq.trans (zs_ne hmm403 (Or.inl (zc_ne hc0 zq_211 (by decide)))) (zs_ne hmm397 (Or.inr (by decide))))))))
                      exact zw_some ⟨hIm473, hFm473, hRKNm473, hRNSm473, hRTRm473, hRWDm473, ⟨by decide, by decide⟩, by omega, fun _ => by omega, fun _ => by omega, fun _ => by omega, fun _ => by omega, fun _ => by omega, fun _ => by omega, fun h => absurd h (by decide)⟩
                · refine zw_some ?_
                  refine zw_ite (fun h496 => ?_) (fun h496 => ?_)
                  · refine zw_b (by omega) ?_
                    generalize hmm497 : zu_up m410 a0 50 0 = m497
                    have hIm497 := zi_up hmm497 hIm410 hc0 zb_28_50 (by omega) (by omega)
                    have hFm497 := zfr_up hmm497 hFm410 hc0 rfl
                    have g498 := zwt_fr (zdis_fr (zfr_up hmm497 (zfr_rf [(28, 51)] _) hc0 rfl) rfl)
                    have hRKNm497 := zR_KN_fr (zdis_fr (zfr_up hmm497 (zfr_rf [(28, 51)] _) hc0 rfl) rfl) hRKNm410
                    have hRNSm497 := zR_NS_fr (zdis_fr (zfr_up hmm497 (zfr_rf [(28, 51)] _) hc0 rfl) rfl) hRNSm410
                    have hRTRm497 := zR_TR_fr (zdis_fr (zfr_up hmm497 (zfr_rf [(28, 51)] _) hc0 rfl) rfl) hRTRm410
                    have hRWDm497 := zR_WD_fr (zdis_fr (zfr_up hmm497 (zfr_rf [(28, 51)] _) hc0 rfl) rfl) hRWDm410
                    have r501 : 0 ≤ (m497 a0 7) ∧ (m497 a0 7) ≤ 700 := zi_rd hIm497 hc0 zb_28_7
                    have e502 : (m497 a0 7) = (mh a0 7) := (Eq.trans (zs_ne hmm497 (Or.inr (by decide))) (Eq.trans (zs_ne hmm410 (Or.inr (by decide))) (Eq.trans (zs_ne hmm407 (Or.inr (by decide))) (Eq.trans (zs_ne hmm403 (Or.inl (zc_ne hc0 zq_211 (by decide)))) (zs_ne hmm397 (Or.inr (by decide)))))))
                    refine zw_bd (zw_mono (zk_89 n hIm497 hc0 hRNSm497 hRWDm497) (fun v500 m499 hqm499 => ?_))
                    obtain ⟨hIm499, hfm499, hvm499⟩ := hqm499
                    have hFm499 := zfr_tr hFm497 hfm499 rfl
                    obtain ⟨hRNSm499, hRTRm499, hRWDm499, hvm499⟩ := hvm499
                    have g503 := zwt_fr (zdis_fr hfm499 rfl)
                    have hRKNm499 := zR_KN_fr (zdis_fr hfm499 rfl) hRKNm497
                    have g504 := zwt_bd hIm499 hc0
                    have s505 := hRNSm499 a0 hc0
                    have r506 : 0 ≤ (m499 a0 7) ∧ (m499 a0 7) ≤ 700 := zi_rd hIm499 hc0 zb_28_7
                    have r507 : 0 ≤ (m499 a0 8) ∧ (m499 a0 8) ≤ 6 := zi_rd hIm499 hc0 zb_28_8
                    refine zw_b (by omega) ?_
                    have r508 : 0 ≤ (m499 a0 21) ∧ (m499 a0 21) ≤ 64 := zi_rd hIm499 hc0 zb_28_21
                    have e509 : (m499 a0 21) = (mh a0 21) := (Eq.trans (zfr_ap hfm499 hc0 rfl) (Eq.trans (zs_ne hmm497 (Or.inr (by decide))) (Eq.trans (zs_ne hmm410 (Or.inr (by decide))) (Eq.trans (zs_ne hmm407 (Or.inr (by decide))) (Eq.trans (zs_ne hmm403 (Or.inl (zc_ne hc0 zq_211 (by decide)))) (zs_ne hmm397 (Or.inr (by decide))))))))
                    have r510 : 0 ≤ (m499 a0 48) ∧ (m499 a0 48) ≤ 64 := zi_rd hIm499 hc0 zb_28_48
                    have e511 : (m499 a0 48) = (zu_w32 ((mh a0 48) + 1)) := (Eq.trans (zfr_ap hfm499 hc0 rfl) (Eq.trans (zs_ne hmm497 (Or.inr (by decide))) (Eq.trans (zs_ne hmm410 (Or.inr (by decide))) (Eq.trans (zs_ne hmm407 (Or.inr (by decide))) (Eq.trans (zs_ne hmm403 (Or.inl (zc_ne hc0 zq_211 (by decide)))) (zs_eq hmm397))))))
                    have r512 : 0 ≤ (m499 a0 46) ∧ (m499 a0 46) ≤ 96 := zi_rd hIm499 hc0 zb_28_46
                    have e513 : (m499 a0 46) = (mh a0 46) := (Eq.trans (zfr_ap hfm499 hc0 rfl) (Eq.trans (zs_ne hmm497 (Or.inr (by decide))) (Eq.trans (zs_ne hmm410 (Or.inr (by decide))) (Eq.trans (zs_ne hmm407 (Or.inr (by decide))) (Eq.trans (zs_ne hmm403 (Or.inl (zc_ne hc0 zq_211 (by decide)))) (zs_ne hmm397 (Or.inr (by decide))))))))
                    have r514 : 0 ≤ (m499 a0 49) ∧ (m499 a0 49) ≤ 1 := zi_rd hIm499 hc0 zb_28_49
                    have e515 : (m499 a0 49) = 1 := (Eq.trans (zfr_ap hfm499 hc0 rfl) (Eq.trans (zs_ne hmm497 (Or.inr (by decide))) (zs_eq hmm410)))
                    have r516 : 0 ≤ (m499 a0 45) ∧ (m499 a0 45) ≤ 96 := zi_rd hIm499 hc0 zb_28_45
                    have e517 : (m499 a0 45) = (zu_w32 ((m403 a0 45) + 1)) := (Eq.trans (zfr_ap hfm499 hc0 rfl) (Eq.trans (zs_ne hmm497 (Or.inr (by decide))) (Eq.trans (zs_ne hmm410 (Or.inr (by decide))) (zs_eq hmm407))))
                    have r518 : 0 ≤ (m499 a0 47) ∧ (m499 a0 47) ≤ 8 := zi_rd hIm499 hc0 zb_28_47
                    have e519 : (m499 a0 47) = (mh a0 47) := (Eq.trans (zfr_ap hfm499 hc0 rfl) (Eq.trans (zs_ne hmm497 (Or.inr (by decide))) (Eq.trans (zs_ne hmm410 (Or.inr (by decide))) (Eq.trans (zs_ne hmm407 (Or.inr (by decide))) (Eq.trans (zs_ne hmm403 (Or.inl (zc_ne hc0 zq_211 (by decide)))) (zs_ne hmm397 (Or.inr (by decide))))))))
                    have r520 : (-2147483648) ≤ (m499 a0 4) ∧ (m499 a0 4) ≤ 2147483647 := zi_rd hIm499 hc0 zb_28_4
                    have e521 : (m499 a0 4) = (mh a0 4) := (Eq.trans (zfr_ap hfm499 hc0 rfl) (Eq.trans (zs_ne hmm497 (Or.inr (by decide))) (Eq.trans (zs_ne hmm410 (Or.inr (by decide))) (Eq.trans (zs_ne hmm407 (Or.inr (by decide))) (Eq.trans (zs_ne hmm403 (Or.inl (zc_ne hc0 zq_211 (by decide)))) (zs_ne hmm397 (Or.inr (by decide))))))))
                    exact zw_some ⟨hIm499, hFm499, hRKNm499, hRNSm499, hRTRm499, hRWDm499, ⟨by decide, by decide⟩, by omega, fun _ => by omega, fun _ => by omega, fun _ => by omega, fun _ => by omega, fun _ => by omega, fun _ => by omega, fun h => absurd h (by decide)⟩
                  · exfalso; omega
              · refine zw_some ?_
                refine zw_ite (fun h522 => ?_) (fun h522 => ?_)
                · refine zw_b (by omega) ?_
                  generalize hmm523 : zu_up m410 a0 50 0 = m523
                  have hIm523 := zi_up hmm523 hIm410 hc0 zb_28_50 (by omega) (by omega)
                  have hFm523 := zfr_up hmm523 hFm410 hc0 rfl
                  have g524 := zwt_fr (zdis_fr (zfr_up hmm523 (zfr_rf [(28, 51)] _) hc0 rfl) rfl)
                  have hRKNm523 := zR_KN_fr (zdis_fr (zfr_up hmm523 (zfr_rf [(28, 51)] _) hc0 rfl) rfl) hRKNm410
                  have hRNSm523 := zR_NS_fr (zdis_fr (zfr_up hmm523 (zfr_rf [(28, 51)] _) hc0 rfl) rfl) hRNSm410
                  have hRTRm523 := zR_TR_fr (zdis_fr (zfr_up hmm523 (zfr_rf [(28, 51)] _) hc0 rfl) rfl) hRTRm410
                  have hRWDm523 := zR_WD_fr (zdis_fr (zfr_up hmm523 (zfr_rf [(28, 51)] _) hc0 rfl) rfl) hRWDm410
                  have r527 : 0 ≤ (m523 a0 7) ∧ (m523 a0 7) ≤ 700 := zi_rd hIm523 hc0 zb_28_7
                  have e528 : (m523 a0 7) = (mh a0 7) := (Eq.trans (zs_ne hmm523 (Or.inr (by decide))) (Eq.trans (zs_ne hmm410 (Or.inr (by decide))) (Eq.trans (zs_ne hmm407 (Or.inr (by decide))) (Eq.trans (zs_ne hmm403 (Or.inl (zc_ne hc0 zq_211 (by decide)))) (zs_ne hmm397 (Or.inr (by decide)))))))
                  refine zw_bd (zw_mono (zk_89 n hIm523 hc0 hRNSm523 hRWDm523) (fun v526 m525 hqm525 => ?_))
                  obtain ⟨hIm525, hfm525, hvm525⟩ := hqm525
                  have hFm525 := zfr_tr hFm523 hfm525 rfl
                  obtain ⟨hRNSm525, hRTRm525, hRWDm525, hvm525⟩ := hvm525
                  have g529 := zwt_fr (zdis_fr hfm525 rfl)
                  have hRKNm525 := zR_KN_fr (zdis_fr hfm525 rfl) hRKNm523
                  have g530 := zwt_bd hIm525 hc0
                  have s531 := hRNSm525 a0 hc0
                  have r532 : 0 ≤ (m525 a0 7) ∧ (m525 a0 7) ≤ 700 := zi_rd hIm525 hc0 zb_28_7
                  have r533 : 0 ≤ (m525 a0 8) ∧ (m525 a0 8) ≤ 6 := zi_rd hIm525 hc0 zb_28_8
                  refine zw_b (by omega) ?_
                  have r534 : 0 ≤ (m525 a0 21) ∧ (m525 a0 21) ≤ 64 := zi_rd hIm525 hc0 zb_28_21
                  have e535 : (m525 a0 21) = (mh a0 21) := (Eq.trans (zfr_ap hfm525 hc0 rfl) (Eq.trans (zs_ne hmm523 (Or.inr (by decide))) (Eq.trans (zs_ne hmm410 (Or.inr (by decide))) (Eq.trans (zs_ne hmm407 (Or.inr (by decide))) (Eq.trans (zs_ne hmm403 (Or.inl (zc_ne hc0 zq_211 (by decide)))) (zs_ne hmm397 (Or.inr (by decide))))))))
                  have r536 : 0 ≤ (m525 a0 48) ∧ (m525 a0 48) ≤ 64 := zi_rd hIm525 hc0 zb_28_48
                  have e537 : (m525 a0 48) = (zu_w32 ((mh a0 48) + 1)) := (Eq.trans (zfr_ap hfm525 hc0 rfl) (Eq.trans (zs_ne hmm523 (Or.inr (by decide))) (Eq.trans (zs_ne hmm410 (Or.inr (by decide))) (Eq.trans (zs_ne hmm407 (Or.inr (by decide))) (Eq.trans (zs_ne hmm403 (Or.inl (zc_ne hc0 zq_211 (by decide)))) (zs_eq hmm397))))))
                  have r538 : 0 ≤ (m525 a0 46) ∧ (m525 a0 46) ≤ 96 := zi_rd hIm525 hc0 zb_28_46
                  have e539 : (m525 a0 46) = (mh a0 46) := (Eq.trans (zfr_ap hfm525 hc0 rfl) (Eq.trans (zs_ne hmm523 (Or.inr (by decide))) (Eq.trans (zs_ne hmm410 (Or.inr (by decide))) (Eq.trans (zs_ne hmm407 (Or.inr (by decide))) (Eq.trans (zs_ne hmm403 (Or.inl (zc_ne hc0 zq_211 (by decide)))) (zs_ne hmm397 (Or.inr (by decide))))))))
                  have r540 : 0 ≤ (m525 a0 49) ∧ (m525 a0 49) ≤ 1 := zi_rd hIm525 hc0 zb_28_49
                  have e541 : (m525 a0 49) = 1 := (Eq.trans (zfr_ap hfm525 hc0 rfl) (Eq.trans (zs_ne hmm523 (Or.inr (by decide))) (zs_eq hmm410)))
                  have r542 : 0 ≤ (m525 a0 45) ∧ (m525 a0 45) ≤ 96 := zi_rd hIm525 hc0 zb_28_45
                  have e543 : (m525 a0 45) = (zu_w32 ((m403 a0 45) + 1)) := (Eq.trans (zfr_ap hfm525 hc0 rfl) (Eq.trans (zs_ne hmm523 (Or.inr (by decide))) (Eq.trans (zs_ne hmm410 (Or.inr (by decide))) (zs_eq hmm407))))
                  have r544 : 0 ≤ (m525 a0 47) ∧ (m525 a0 47) ≤ 8 := zi_rd hIm525 hc0 zb_28_47
                  have e545 : (m525 a0 47) = (mh a0 47) := (Eq.trans (zfr_ap hfm525 hc0 rfl) (Eq.trans (zs_ne hmm523 (Or.inr (by decide))) (Eq.trans (zs_ne hmm410 (Or.inr (by decide))) (Eq.trans (zs_ne hmm407 (Or.inr (by decide))) (Eq.trans (zs_ne hmm403 (Or.inl (zc_ne hc0 zq_211 (by decide)))) (zs_ne hmm397 (Or.inr (by decide))))))))
                  have r546 : (-2147483648) ≤ (m525 a0 4) ∧ (m525 a0 4) ≤ 2147483647 := zi_rd hIm525 hc0 zb_28_4
                  have e547 : (m525 a0 4) = (mh a0 4) := (Eq.trans (zfr_ap hfm525 hc0 rfl) (Eq.trans (zs_ne hmm523 (Or.inr (by decide))) (Eq.trans (zs_ne hmm410 (Or.inr (by decide))) (Eq.trans (zs_ne hmm407 (Or.inr (by decide))) (Eq.trans (zs_ne hmm403 (Or.inl (zc_ne hc0 zq_211 (by decide)))) (zs_ne hmm397 (Or.inr (by decide))))))))
                  exact zw_some ⟨hIm525, hFm525, hRKNm525, hRNSm525, hRTRm525, hRWDm525, ⟨by decide, by decide⟩, by omega, fun _ => by omega, fun _ => by omega, fun _ => by omega, fun _ => by omega, fun _ => by omega, fun _ => by omega, fun h => absurd h (by decide)⟩
                · exfalso; omega
            · refine zw_some ?_
              refine zw_ite (fun h548 => ?_) (fun h548 => ?_)
              · refine zw_b (by omega) ?_
                generalize hmm549 : zu_up m410 a0 50 0 = m549
                have hIm549 := zi_up hmm549 hIm410 hc0 zb_28_50 (by omega) (by omega)
                have hFm549 := zfr_up hmm549 hFm410 hc0 rfl
                have g550 := zwt_fr (zdis_fr (zfr_up hmm549 (zfr_rf [(28, 51)] _) hc0 rfl) rfl)
                have hRKNm549 := zR_KN_fr (zdis_fr (zfr_up hmm549 (zfr_rf [(28, 51)] _) hc0 rfl) rfl) hRKNm410
                have hRNSm549 := zR_NS_fr (zdis_fr (zfr_up hmm549 (zfr_rf [(28, 51)] _) hc0 rfl) rfl) hRNSm410
                have hRTRm549 := zR_TR_fr (zdis_fr (zfr_up hmm549 (zfr_rf [(28, 51)] _) hc0 rfl) rfl) hRTRm410
                have hRWDm549 := zR_WD_fr (zdis_fr (zfr_up hmm549 (zfr_rf [(28, 51)] _) hc0 rfl) rfl) hRWDm410
                have r553 : 0 ≤ (m549 a0 7) ∧ (m549 a0 7) ≤ 700 := zi_rd hIm549 hc0 zb_28_7
                have e554 : (m549 a0 7) = (mh a0 7) := (Eq.trans (zs_ne hmm549 (Or.inr (by decide))) (Eq.trans (zs_ne hmm410 (Or.inr (by decide))) (Eq.trans (zs_ne hmm407 (Or.inr (by decide))) (Eq.trans (zs_ne hmm403 (Or.inl (zc_ne hc0 zq_211 (by decide)))) (zs_ne hmm397 (Or.inr (by decide)))))))
                refine zw_bd (zw_mono (zk_89 n hIm549 hc0 hRNSm549 hRWDm549) (fun v552 m551 hqm551 => ?_))
                obtain ⟨hIm551, hfm551, hvm551⟩ := hqm551
                have hFm551 := zfr_tr hFm549 hfm551 rfl
                obtain ⟨hRNSm551, hRTRm551, hRWDm551, hvm551⟩ := hvm551
                have g555 := zwt_fr (zdis_fr hfm551 rfl)
                have hRKNm551 := zR_KN_fr (zdis_fr hfm551 rfl) hRKNm549
                have g556 := zwt_bd hIm551 hc0
                have s557 := hRNSm551 a0 hc0
                have r558 : 0 ≤ (m551 a0 7) ∧ (m551 a0 7) ≤ 700 := zi_rd hIm551 hc0 zb_28_7
                have r559 : 0 ≤ (m551 a0 8) ∧ (m551 a0 8) ≤ 6 := zi_rd hIm551 hc0 zb_28_8
                refine zw_b (by omega) ?_
                have r560 : 0 ≤ (m551 a0 21) ∧ (m551 a0 21) ≤ 64 := zi_rd hIm551 hc0 zb_28_21
                have e561 : (m551 a0 21) = (mh a0 21) := (Eq.trans (zfr_ap hfm551 hc0 rfl) (Eq.trans (zs_ne hmm549 (Or.inr (by decide))) (Eq.trans (zs_ne hmm410 (Or.inr (by decide))) (Eq.trans (zs_ne hmm407 (Or.inr (by decide))) (Eq.trans (zs_ne hmm403 (Or.inl (zc_ne hc0 zq_211 (by decide)))) (zs_ne hmm397 (Or.inr (by decide))))))))
                have r562 : 0 ≤ (m551 a0 48) ∧ (m551 a0 48) ≤ 64 := zi_rd hIm551 hc0 zb_28_48
                have e563 : (m551 a0 48) = (zu_w32 ((mh a0 48) + 1)) := (Eq.trans (zfr_ap hfm551 hc0 rfl) (Eq.trans (zs_ne hmm549 (Or.inr (by decide))) (Eq.trans (zs_ne hmm410 (Or.inr (by decide))) (Eq.trans (zs_ne hmm407 (Or.inr (by decide))) (Eq.trans (zs_ne hmm403 (Or.inl (zc_ne hc0 zq_211 (by decide)))) (zs_eq hmm397))))))
                have r564 : 0 ≤ (m551 a0 46) ∧ (m551 a0 46) ≤ 96 := zi_rd hIm551 hc0 zb_28_46
                have e565 : (m551 a0 46) = (mh a0 46) := (Eq.trans (zfr_ap hfm551 hc0 rfl) (Eq.trans (zs_ne hmm549 (Or.inr (by decide))) (Eq.trans (zs_ne hmm410 (Or.inr (by decide))) (Eq.trans (zs_ne hmm407 (Or.inr (by decide))) (Eq.trans (zs_ne hmm403 (Or.inl (zc_ne hc0 zq_211 (by decide)))) (zs_ne hmm397 (Or.inr (by decide))))))))
                have r566 : 0 ≤ (m551 a0 49) ∧ (m551 a0 49) ≤ 1 := zi_rd hIm551 hc0 zb_28_49
                have e567 : (m551 a0 49) = 1 := (Eq.trans (zfr_ap hfm551 hc0 rfl) (Eq.trans (zs_ne hmm549 (Or.inr (by decide))) (zs_eq hmm410)))
                have r568 : 0 ≤ (m551 a0 45) ∧ (m551 a0 45) ≤ 96 := zi_rd hIm551 hc0 zb_28_45
                have e569 : (m551 a0 45) = (zu_w32 ((m403 a0 45) + 1)) := (Eq.trans (zfr_ap hfm551 hc0 rfl) (Eq.trans (zs_ne hmm549 (Or.inr (by decide))) (Eq.trans (zs_ne hmm410 (Or.inr (by decide))) (zs_eq hmm407))))
                have r570 : 0 ≤ (m551 a0 47) ∧ (m551 a0 47) ≤ 8 := zi_rd hIm551 hc0 zb_28_47
                have e571 : (m551 a0 47) = (mh a0 47) := (Eq.trans (zfr_ap hfm551 hc0 rfl) (Eq.trans (zs_ne hmm549 (Or.inr (by decide))) (Eq.trans (zs_ne hmm410 (Or.inr (by decide))) (Eq.trans (zs_ne hmm407 (Or.inr (by decide))) (Eq.trans (zs_ne hmm403 (Or.inl (zc_ne hc0 zq_211 (by decide)))) (zs_ne hmm397 (Or.inr (by decide))))))))
                have r572 : (-2147483648) ≤ (m551 a0 4) ∧ (m551 a0 4) ≤ 2147483647 := zi_rd hIm551 hc0 zb_28_4
                have e573 : (m551 a0 4) = (mh a0 4) := (Eq.trans (zfr_ap hfm551 hc0 rfl) (Eq.trans (zs_ne hmm549 (Or.inr (by decide))) (Eq.trans (zs_ne hmm410 (Or.inr (by decide))) (Eq.trans (zs_ne hmm407 (Or.inr (by decide))) (Eq.trans (zs_ne hmm403 (Or.inl (zc_ne hc0 zq_211 (by decide)))) (zs_ne hmm397 (Or.inr (by decide))))))))
                exact zw_some ⟨hIm551, hFm551, hRKNm551, hRNSm551, hRTRm551, hRWDm551, ⟨by decide, by decide⟩, by omega, fun _ => by omega, fun _ => by omega, fun _ => by omega, fun _ => by omega, fun _ => by omega, fun _ => by omega, fun h => absurd h (by decide)⟩
              · exfalso; omega
          · refine zw_some ?_
            refine zw_ite (fun h574 => ?_) (fun h574 => ?_)
            · refine zw_b (by omega) ?_
              generalize hmm575 : zu_up m410 a0 50 0 = m575
              have hIm575 := zi_up hmm575 hIm410 hc0 zb_28_50 (by omega) (by omega)
              have hFm575 := zfr_up hmm575 hFm410 hc0 rfl
              have g576 := zwt_fr (zdis_fr (zfr_up hmm575 (zfr_rf [(28, 51)] _) hc0 rfl) rfl)
              have hRKNm575 := zR_KN_fr (zdis_fr (zfr_up hmm575 (zfr_rf [(28, 51)] _) hc0 rfl) rfl) hRKNm410
              have hRNSm575 := zR_NS_fr (zdis_fr (zfr_up hmm575 (zfr_rf [(28, 51)] _) hc0 rfl) rfl) hRNSm410
              have hRTRm575 := zR_TR_fr (zdis_fr (zfr_up hmm575 (zfr_rf [(28, 51)] _) hc0 rfl) rfl) hRTRm410
              have hRWDm575 := zR_WD_fr (zdis_fr (zfr_up hmm575 (zfr_rf [(28, 51)] _) hc0 rfl) rfl) hRWDm410
              have r579 : 0 ≤ (m575 a0 7) ∧ (m575 a0 7) ≤ 700 := zi_rd hIm575 hc0 zb_28_7
              have e580 : (m575 a0 7) = (mh a0 7) := (Eq.trans (zs_ne hmm575 (Or.inr (by decide))) (Eq.trans (zs_ne hmm410 (Or.inr (by decide))) (Eq.trans (zs_ne hmm407 (Or.inr (by decide))) (Eq.trans (zs_ne hmm403 (Or.inl (zc_ne hc0 zq_211 (by decide)))) (zs_ne hmm397 (Or.inr (by decide)))))))
              refine zw_bd (zw_mono (zk_89 n hIm575 hc0 hRNSm575 hRWDm575) (fun v578 m577 hqm577 => ?_))
              obtain ⟨hIm577, hfm577, hvm577⟩ := hqm577
              have hFm577 := zfr_tr hFm575 hfm577 rfl
              obtain ⟨hRNSm577, hRTRm577, hRWDm577, hvm577⟩ := hvm577
              have g581 := zwt_fr (zdis_fr hfm577 rfl)
              have hRKNm577 := zR_KN_fr (zdis_fr hfm577 rfl) hRKNm575
              have g582 := zwt_bd hIm577 hc0
              have s583 := hRNSm577 a0 hc0
              have r584 : 0 ≤ (m577 a0 7) ∧ (m577 a0 7) ≤ 700 := zi_rd hIm577 hc0 zb_28_7
              have r585 : 0 ≤ (m577 a0 8) ∧ (m577 a0 8) ≤ 6 := zi_rd hIm577 hc0 zb_28_8
              refine zw_b (by omega) ?_
              have r586 : 0 ≤ (m577 a0 21) ∧ (m577 a0 21) ≤ 64 := zi_rd hIm577 hc0 zb_28_21
              have e587 : (m577 a0 21) = (mh a0 21) := (Eq.trans (zfr_ap hfm577 hc0 rfl) (Eq.trans (zs_ne hmm575 (Or.inr (by decide))) (Eq.trans (zs_ne hmm410 (Or.inr (by decide))) (Eq.trans (zs_ne hmm407 (Or.inr (by decide))) (Eq.trans (zs_ne hmm403 (Or.inl (zc_ne hc0 zq_211 (by decide)))) (zs_ne hmm397 (Or.inr (by decide))))))))
              have r588 : 0 ≤ (m577 a0 48) ∧ (m577 a0 48) ≤ 64 := zi_rd hIm577 hc0 zb_28_48
              have e589 : (m577 a0 48) = (zu_w32 ((mh a0 48) + 1)) := (Eq.trans (zfr_ap hfm577 hc0 rfl) (Eq.trans (zs_ne hmm575 (Or.inr (by decide))) (Eq.trans (zs_ne hmm410 (Or.inr (by decide))) (Eq.trans (zs_ne hmm407 (Or.inr (by decide))) (Eq.trans (zs_ne hmm403 (Or.inl (zc_ne hc0 zq_211 (by decide)))) (zs_eq hmm397))))))
              have r590 : 0 ≤ (m577 a0 46) ∧ (m577 a0 46) ≤ 96 := zi_rd hIm577 hc0 zb_28_46
              have e591 : (m577 a0 46) = (mh a0 46) := (Eq.trans (zfr_ap hfm577 hc0 rfl) (Eq.trans (zs_ne hmm575 (Or.inr (by decide))) (Eq.trans (zs_ne hmm410 (Or.inr (by decide))) (Eq.trans (zs_ne hmm407 (Or.inr (by decide))) (Eq.trans (zs_ne hmm403 (Or.inl (zc_ne hc0 zq_211 (by decide)))) (zs_ne hmm397 (Or.inr (by decide))))))))
              have r592 : 0 ≤ (m577 a0 49) ∧ (m577 a0 49) ≤ 1 := zi_rd hIm577 hc0 zb_28_49
              have e593 : (m577 a0 49) = 1 := (Eq.trans (zfr_ap hfm577 hc0 rfl) (Eq.trans (zs_ne hmm575 (Or.inr (by decide))) (zs_eq hmm410)))
              have r594 : 0 ≤ (m577 a0 45) ∧ (m577 a0 45) ≤ 96 := zi_rd hIm577 hc0 zb_28_45
              have e595 : (m577 a0 45) = (zu_w32 ((m403 a0 45) + 1)) := (Eq.trans (zfr_ap hfm577 hc0 rfl) (Eq.trans (zs_ne hmm575 (Or.inr (by decide))) (Eq.trans (zs_ne hmm410 (Or.inr (by decide))) (zs_eq hmm407))))
              have r596 : 0 ≤ (m577 a0 47) ∧ (m577 a0 47) ≤ 8 := zi_rd hIm577 hc0 zb_28_47
              have e597 : (m577 a0 47) = (mh a0 47) := (Eq.trans (zfr_ap hfm577 hc0 rfl) (Eq.trans (zs_ne hmm575 (Or.inr (by decide))) (Eq.trans (zs_ne hmm410 (Or.inr (by decide))) (Eq.trans (zs_ne hmm407 (Or.inr (by decide))) (Eq.trans (zs_ne hmm403 (Or.inl (zc_ne hc0 zq_211 (by decide)))) (zs_ne hmm397 (Or.inr (by decide))))))))
              have r598 : (-2147483648) ≤ (m577 a0 4) ∧ (m577 a0 4) ≤ 2147483647 := zi_rd hIm577 hc0 zb_28_4
              have e599 : (m577 a0 4) = (mh a0 4) := (Eq.trans (zfr_ap hfm577 hc0 rfl) (Eq.trans (zs_ne hmm575 (Or.inr (by decide))) (Eq.trans (zs_ne hmm410 (Or.inr (by decide))) (Eq.trans (zs_ne hmm407 (Or.inr (by decide))) (Eq.trans (zs_ne hmm403 (Or.inl (zc_ne hc0 zq_211 (by decide)))) (zs_ne hmm397 (Or.inr (by decide))))))))
              exact zw_some ⟨hIm577, hFm577, hRKNm577, hRNSm577, hRTRm577, hRWDm577, ⟨by decide, by decide⟩, by omega, fun _ => by omega, fun _ => by omega, fun _ => by omega, fun _ => by omega, fun _ => by omega, fun _ => by omega, fun h => absurd h (by decide)⟩
            · exfalso; omega
        · exfalso; omega
      · refine zw_bd (zw_eq (zu_call_at (zt_T n) (zm_85 n) (zdp_85 n) _ _ _ _ _ rfl (zr_85_0 n _ _ a0 2 mh)) ?_)
        generalize hmm600 : zu_up mh a0 4 2 = m600
        have hIm600 := zi_up hmm600 hImh hc0 zb_28_4 (by omega) (by omega)
        have hFm600 := zfr_up hmm600 hFmh hc0 rfl
        have g601 := zwt_fr (zdis_fr (zfr_up hmm600 (zfr_rf [(28, 5)] _) hc0 rfl) rfl)
        have hRKNm600 := zR_KN_fr (zdis_fr (zfr_up hmm600 (zfr_rf [(28, 5)] _) hc0 rfl) rfl) hRKNmh
        have hRNSm600 := zR_NS_fr (zdis_fr (zfr_up hmm600 (zfr_rf [(28, 5)] _) hc0 rfl) rfl) hRNSmh
        have hRTRm600 := zR_TR_fr (zdis_fr (zfr_up hmm600 (zfr_rf [(28, 5)] _) hc0 rfl) rfl) hRTRmh
        have hRWDm600 := zR_WD_fr (zdis_fr (zfr_up hmm600 (zfr_rf [(28, 5)] _) hc0 rfl) rfl) hRWDmh
        have hRLRm600 := zLR_wr (zone_190 hc0) hmm600 (by decide)
        have r602 : 0 ≤ (m600 a0 10) ∧ (m600 a0 10) ≤ 700 := zi_rd hIm600 hc0 zb_28_10
        generalize hmm603 : zu_up m600 a0 5 (m600 a0 10) = m603
        have hIm603 := zi_up hmm603 hIm600 hc0 zb_28_5 (by omega) (by omega)
        have hFm603 := zfr_up hmm603 hFm600 hc0 rfl
        have g604 := zwt_fr (zdis_fr (zfr_up hmm603 (zfr_rf [(28, 6)] _) hc0 rfl) rfl)
        have hRKNm603 := zR_KN_fr (zdis_fr (zfr_up hmm603 (zfr_rf [(28, 6)] _) hc0 rfl) rfl) hRKNm600
        have hRLRm603 := zR_LR_fr (zdis_fr (zfr_up hmm603 (zfr_rf [(28, 6)] _) hc0 rfl) rfl) hRLRm600
        have hRNSm603 := zR_NS_fr (zdis_fr (zfr_up hmm603 (zfr_rf [(28, 6)] _) hc0 rfl) rfl) hRNSm600
        have hRTRm603 := zR_TR_fr (zdis_fr (zfr_up hmm603 (zfr_rf [(28, 6)] _) hc0 rfl) rfl) hRTRm600
        have hRWDm603 := zR_WD_fr (zdis_fr (zfr_up hmm603 (zfr_rf [(28, 6)] _) hc0 rfl) rfl) hRWDm600
        refine zw_b (by omega) ?_
        refine zw_some ?_
        refine zw_b (by omega) ?_
        refine zw_some ?_
        refine zw_ite (fun h605 => ?_) (fun h605 => ?_)
        · exfalso; omega
        · refine zw_b (by omega) ?_
          have r606 : 0 ≤ (m603 a0 7) ∧ (m603 a0 7) ≤ 700 := zi_rd hIm603 hc0 zb_28_7
          have e607 : (m603 a0 7) = (mh a0 7) := (Eq.trans (zs_ne hmm603 (Or.inr (by decide))) (zs_ne hmm600 (Or.inr (by decide))))
          have r608 : 0 ≤ (m603 a0 8) ∧ (m603 a0 8) ≤ 6 := zi_rd hIm603 hc0 zb_28_8
          have r609 : 0 ≤ (m603 a0 21) ∧ (m603 a0 21) ≤ 64 := zi_rd hIm603 hc0 zb_28_21
          have e610 : (m603 a0 21) = (mh a0 21) := (Eq.trans (zs_ne hmm603 (Or.inr (by decide))) (zs_ne hmm600 (Or.inr (by decide))))
          have r611 : 0 ≤ (m603 a0 48) ∧ (m603 a0 48) ≤ 64 := zi_rd hIm603 hc0 zb_28_48
          have e612 : (m603 a0 48) = (mh a0 48) := (Eq.trans (zs_ne hmm603 (Or.inr (by decide))) (zs_ne hmm600 (Or.inr (by decide))))
          have r613 : 0 ≤ (m603 a0 46) ∧ (m603 a0 46) ≤ 96 := zi_rd hIm603 hc0 zb_28_46
          have e614 : (m603 a0 46) = (mh a0 46) := (Eq.trans (zs_ne hmm603 (Or.inr (by decide))) (zs_ne hmm600 (Or.inr (by decide))))
          have r615 : 0 ≤ (m603 a0 49) ∧ (m603 a0 49) ≤ 1 := zi_rd hIm603 hc0 zb_28_49
          have e616 : (m603 a0 49) = (mh a0 49) := (Eq.trans (zs_ne hmm603 (Or.inr (by decide))) (zs_ne hmm600 (Or.inr (by decide))))
          have r617 : 0 ≤ (m603 a0 45) ∧ (m603 a0 45) ≤ 96 := zi_rd hIm603 hc0 zb_28_45
          have e618 : (m603 a0 45) = (mh a0 45) := (Eq.trans (zs_ne hmm603 (Or.inr (by decide))) (zs_ne hmm600 (Or.inr (by decide))))
          have r619 : 0 ≤ (m603 a0 47) ∧ (m603 a0 47) ≤ 8 := zi_rd hIm603 hc0 zb_28_47
          have e620 : (m603 a0 47) = (mh a0 47) := (Eq.trans (zs_ne hmm603 (Or.inr (by decide))) (zs_ne hmm600 (Or.inr (by decide))))
          have r621 : (-2147483648) ≤ (m603 a0 4) ∧ (m603 a0 4) ≤ 2147483647 := zi_rd hIm603 hc0 zb_28_4
          have e622 : (m603 a0 4) = 2 := (Eq.trans (zs_ne hmm603 (Or.inr (by decide))) (zs_eq hmm600))
          exact zw_some ⟨hIm603, hFm603, hRKNm603, hRNSm603, hRTRm603, hRWDm603, ⟨by decide, by decide⟩, by omega, fun h => absurd h (by decide), fun h => absurd h (by decide), fun h => absurd h (by decide), fun h => absurd h (by decide), fun h => absurd h (by decide), fun h => absurd h (by decide), fun _ => by omega⟩
set_option maxHeartbeats 4000000 in
theorem zl_117 (n : Nat) {a0 : Int} {m0 : zu_m} (hc0 : zcls a0 = 28)  (hxp0 : (m0 a0 21) + znz m0 = (m0 a0 48)) (hxp1 : (m0 a0 45) = znz m0 + (m0 a0 47)) (hxp2 : (m0 a0 46) = zbi m0 + 1) (hxp3 : (m0 a0 49) = 0) (hxp4 : 1 ≤ (m0 a0 21)) : ∀ k : Nat, (∀ (mh : zu_m), zi_I mh → zfr [(28, 5), (28, 6), (28, 8), (28, 9), (28, 10), (28, 11), (28, 22), (28, 46), (28, 47), (28, 48), (28, 49), (28, 50), (28, 51), (117, 0), (118, 0), (119, 0), (120, 0), (121, 0)] m0 mh → (0 ≤ mh a0 49 ∧ mh a0 49 ≤ 0) → ((mh a0 21) + znz mh = (mh a0 48)) → ((mh a0 45) = znz mh + (mh a0 47)) → ((mh a0 46) = zbi mh + 1) → (1 ≤ (mh a0 21)) → ((mh a0 7) = (m0 a0 7)) → ((mh a0 8) = (m0 a0 8)) → ((mh a0 4) = (m0 a0 4)) → (zR_KN mh) → (zR_NS mh) → (zR_TR mh) → (zR_WD mh) → 2 < (k : Int) → zw (zu_ex (zt_T n) 117 47 [(40, a0), (2, 0)] [] mh) (fun v m => zi_I m ∧ zfr [(28, 5), (28, 6), (28, 8), (28, 9), (28, 10), (28, 11), (28, 22), (28, 46), (28, 47), (28, 48), (28, 49), (28, 50), (28, 51), (117, 0), (118, 0), (119, 0), (120, 0), (121, 0)] m0 m ∧ zR_KN m ∧ zR_NS m ∧ zR_TR m ∧ zR_WD m ∧ (0 ≤ v ∧ v ≤ 1) ∧ ((m0 a0 7) ≤ (m a0 7)) ∧ (v = 1 → ((m0 a0 8) ≠ 0 ∧ ((m a0 8) = 0 ∨ (m0 a0 7) < (m a0 7)))) ∧ (v = 1 → (m a0 21) + znz m = (m a0 48)) ∧ (v = 1 → (m a0 46) + (m a0 49) = zbi m + 1) ∧ (v = 1 → (m a0 45) = znz m + (m a0 47)) ∧ (v = 1 → ((m a0 49) = 0 → 1 ≤ (m a0 21))) ∧ (v = 1 → (m a0 4) = (m0 a0 4)) ∧ (v = 0 → (m a0 4) ≠ 0))) ∧ (∀ (y0 : Int) (mh : zu_m), zi_I mh → zfr [(28, 5), (28, 6), (28, 8), (28, 9), (28, 10), (28, 11), (28, 22), (28, 46), (28, 47), (28, 48), (28, 49), (28, 50), (28, 51), (117, 0), (118, 0), (119, 0), (120, 0), (121, 0)] m0 mh → (0 ≤ y0 ∧ y0 ≤ 14) → (0 ≤ mh a0 49 ∧ mh a0 49 ≤ 0) → ((mh a0 21) + znz mh = (mh a0 48)) → ((mh a0 45) = znz mh + (mh a0 47)) → ((mh a0 46) = zbi mh + 1) → (1 ≤ (mh a0 21)) → ((mh a0 7) = (m0 a0 7)) → (y0 ≠ 0 → (m0 a0 8) ≠ 0) → (y0 = 0 ∨ 3 ≤ y0) → ((mh a0 4) = (m0 a0 4)) → (zR_KN mh) → (zR_NS mh) → (zR_TR mh) → (zR_WD mh) → 1 < (k : Int) → zw (zu_ex (zt_T n) 117 147 [(40, a0), (2, 0)] [(0, y0)] mh) (fun v m => zi_I m ∧ zfr [(28, 5), (28, 6), (28, 8), (28, 9), (28, 10), (28, 11), (28, 22), (28, 46), (28, 47), (28, 48), (28, 49), (28, 50), (28, 51), (117, 0), (118, 0), (119, 0), (120, 0), (121, 0)] m0 m ∧ zR_KN m ∧ zR_NS m ∧ zR_TR m ∧ zR_WD m ∧ (0 ≤ v ∧ v ≤ 1) ∧ ((m0 a0 7) ≤ (m a0 7)) ∧ (v = 1 → ((m0 a0 8) ≠ 0 ∧ ((m a0 8) = 0 ∨ (m0 a0 7) < (m a0 7)))) ∧ (v = 1 → (m a0 21) + znz m = (m a0 48)) ∧ (v = 1 → (m a0 46) + (m a0 49) = zbi m + 1) ∧ (v = 1 → (m a0 45) = znz m + (m a0 47)) ∧ (v = 1 → ((m a0 49) = 0 → 1 ≤ (m a0 21))) ∧ (v = 1 → (m a0 4) = (m0 a0 4)) ∧ (v = 0 → (m a0 4) ≠ 0))) ∧ (∀ (x1 : Int) (mh : zu_m), zi_I mh → zfr [(28, 5), (28, 6), (28, 8), (28, 9), (28, 10), (28, 11), (28, 22), (28, 46), (28, 47), (28, 48), (28, 49), (28, 50), (28, 51), (117, 0), (118, 0), (119, 0), (120, 0), (121, 0)] m0 mh → (1 ≤ x1 ∧ x1 ≤ 14) → (0 ≤ mh a0 49 ∧ mh a0 49 ≤ 0) → ((mh a0 21) + znz mh = (mh a0 48)) → ((mh a0 45) = znz mh + (mh a0 47)) → ((mh a0 46) = zbi mh + 1) → (1 ≤ (mh a0 21)) → ((mh a0 7) = (m0 a0 7)) → ((m0 a0 8) ≠ 0) → (3 ≤ x1) → ((mh a0 4) = (m0 a0 4)) → (zR_KN mh) → (zR_NS mh) → (zR_TR mh) → (zR_WD mh) → 0 < (k : Int) → zw (zu_ex (zt_T n) 117 217 [(40, a0), (0, x1)] [] mh) (fun v m => zi_I m ∧ zfr [(28, 5), (28, 6), (28, 8), (28, 9), (28, 10), (28, 11), (28, 22), (28, 46), (28, 47), (28, 48), (28, 49), (28, 50), (28, 51), (117, 0), (118, 0), (119, 0), (120, 0), (121, 0)] m0 m ∧ zR_KN m ∧ zR_NS m ∧ zR_TR m ∧ zR_WD m ∧ (0 ≤ v ∧ v ≤ 1) ∧ ((m0 a0 7) ≤ (m a0 7)) ∧ (v = 1 → ((m0 a0 8) ≠ 0 ∧ ((m a0 8) = 0 ∨ (m0 a0 7) < (m a0 7)))) ∧ (v = 1 → (m a0 21) + znz m = (m a0 48)) ∧ (v = 1 → (m a0 46) + (m a0 49) = zbi m + 1) ∧ (v = 1 → (m a0 45) = znz m + (m a0 47)) ∧ (v = 1 → ((m a0 49) = 0 → 1 ≤ (m a0 21))) ∧ (v = 1 → (m a0 4) = (m0 a0 4)) ∧ (v = 0 → (m a0 4) ≠ 0))) := by
  intro k
  induction k with
  | zero => exact ⟨fun mh hImh hFmh hg0 hH0 hH1 hH2 hH3 hH4 hH5 hH6 hRKNmh hRNSmh hRTRmh hRWDmh hM => by exfalso; omega, fun y0 mh hImh hFmh hby0 hg1 hH0 hH1 hH2 hH3 hH4 hH5 hH6 hH7 hRKNmh hRNSmh hRTRmh hRWDmh hM => by exfalso; omega, fun x1 mh hImh hFmh hbx1 hg1 hH0 hH1 hH2 hH3 hH4 hH5 hH6 hH7 hRKNmh hRNSmh hRTRmh hRWDmh hM => by exfalso; omega⟩
  | succ k ih => exact ⟨zl_117H0 n (m0 := m0) hc0 hxp0 hxp1 hxp2 hxp3 hxp4 k ih, zl_117H1 n (m0 := m0) hc0 hxp0 hxp1 hxp2 hxp3 hxp4 k ih, zl_117H2 n (m0 := m0) hc0 hxp0 hxp1 hxp2 hxp3 hxp4 k ih⟩
set_option maxHeartbeats 4000000 in
theorem zk_117 (n : Nat) {a0 : Int} {m0 : zu_m} (hIm0 : zi_I m0) (hc0 : zcls a0 = 28)   (he0 : 0 ≤ m0 a0 49 ∧ m0 a0 49 ≤ 0) (hxp0 : (m0 a0 21) + znz m0 = (m0 a0 48)) (hxp1 : (m0 a0 45) = znz m0 + (m0 a0 47)) (hxp2 : (m0 a0 46) = zbi m0 + 1) (hxp3 : (m0 a0 49) = 0) (hxp4 : 1 ≤ (m0 a0 21)) (hRKNm0 : zR_KN m0) (hRNSm0 : zR_NS m0) (hRTRm0 : zR_TR m0) (hRWDm0 : zR_WD m0) : zw (zu_call (zt_T n) 117 [(40, a0)] m0) (fun v m => zi_I m ∧ zfr [(28, 5), (28, 6), (28, 8), (28, 9), (28, 10), (28, 11), (28, 22), (28, 46), (28, 47), (28, 48), (28, 49), (28, 50), (28, 51), (117, 0), (118, 0), (119, 0), (120, 0), (121, 0)] m0 m ∧ zR_KN m ∧ zR_NS m ∧ zR_TR m ∧ zR_WD m ∧ (0 ≤ v ∧ v ≤ 1) ∧ ((m0 a0 7) ≤ (m a0 7)) ∧ (v = 1 → ((m0 a0 8) ≠ 0 ∧ ((m a0 8) = 0 ∨ (m0 a0 7) < (m a0 7)))) ∧ (v = 1 → (m a0 21) + znz m = (m a0 48)) ∧ (v = 1 → (m a0 46) + (m a0 49) = zbi m + 1) ∧ (v = 1 → (m a0 45) = znz m + (m a0 47)) ∧ (v = 1 → ((m a0 49) = 0 → 1 ≤ (m a0 21))) ∧ (v = 1 → (m a0 4) = (m0 a0 4)) ∧ (v = 0 → (m a0 4) ≠ 0)) := by
  have hFm0 : zfr [(28, 5), (28, 6), (28, 8), (28, 9), (28, 10), (28, 11), (28, 22), (28, 46), (28, 47), (28, 48), (28, 49), (28, 50), (28, 51), (117, 0), (118, 0), (119, 0), (120, 0), (121, 0)] m0 m0 := zfr_rf _ _
  have r623 : 0 ≤ (m0 a0 7) ∧ (m0 a0 7) ≤ 700 := zi_rd hIm0 hc0 zb_28_7
  have r624 : 0 ≤ (m0 a0 8) ∧ (m0 a0 8) ≤ 6 := zi_rd hIm0 hc0 zb_28_8
  have r625 : (-2147483648) ≤ (m0 a0 4) ∧ (m0 a0 4) ≤ 2147483647 := zi_rd hIm0 hc0 zb_28_4
  have r626 : 0 ≤ (m0 a0 21) ∧ (m0 a0 21) ≤ 64 := zi_rd hIm0 hc0 zb_28_21
  have r627 : 0 ≤ (m0 a0 48) ∧ (m0 a0 48) ≤ 64 := zi_rd hIm0 hc0 zb_28_48
  have r628 : 0 ≤ (m0 a0 45) ∧ (m0 a0 45) ≤ 96 := zi_rd hIm0 hc0 zb_28_45
  have r629 : 0 ≤ (m0 a0 47) ∧ (m0 a0 47) ≤ 8 := zi_rd hIm0 hc0 zb_28_47
  have r630 : 0 ≤ (m0 a0 46) ∧ (m0 a0 46) ≤ 96 := zi_rd hIm0 hc0 zb_28_46
  have g631 := zwt_bd hIm0 hc0
  have s632 := hRNSm0 a0 hc0
  refine zw_eq (zu_call_at (zt_T n) (zm_117 n) (zdp_117 n) _ _ _ _ _ rfl (zr_117_0 n _ _ a0 m0)) ?_
  refine zw_bd (zw_eq (zu_call_at (zt_T n) (zm_93 n) (zdp_93 n) _ _ _ _ _ rfl (zr_93_0 n _ _ a0 41 m0)) ?_)
  refine zw_ite (fun h633 => ?_) (fun h633 => ?_)
  · refine zw_b (by omega) ?_
    refine zw_some ?_
    refine zw_ite (fun h634 => ?_) (fun h634 => ?_)
    · have hM : 2 < ((3 : Nat) : Int) := by omega
      exact (zl_117 n (m0 := m0) hc0 hxp0 hxp1 hxp2 hxp3 hxp4 3).1  m0 hIm0 hFm0 ⟨by omega, by omega⟩ (by omega) (by omega) (by omega) (by omega) (by omega) (by omega) (by omega) hRKNm0 hRNSm0 hRTRm0 hRWDm0 hM
    · exfalso; omega
  · have r635 : (-2147483648) ≤ (m0 a0 9) ∧ (m0 a0 9) ≤ 2147483647 := zi_rd hIm0 hc0 zb_28_9
    refine zw_ite (fun h636 => ?_) (fun h636 => ?_)
    · refine zw_b (by omega) ?_
      refine zw_some ?_
      refine zw_ite (fun h637 => ?_) (fun h637 => ?_)
      · have hM : 2 < ((3 : Nat) : Int) := by omega
        exact (zl_117 n (m0 := m0) hc0 hxp0 hxp1 hxp2 hxp3 hxp4 3).1  m0 hIm0 hFm0 ⟨by omega, by omega⟩ (by omega) (by omega) (by omega) (by omega) (by omega) (by omega) (by omega) hRKNm0 hRNSm0 hRTRm0 hRWDm0 hM
      · exfalso; omega
    · refine zw_b (by omega) ?_
      refine zw_some ?_
      refine zw_ite (fun h638 => ?_) (fun h638 => ?_)
      · exfalso; omega
      · refine zw_ite (fun h639 => ?_) (fun h639 => ?_)
        · have hM : 2 < ((3 : Nat) : Int) := by omega
          exact (zl_117 n (m0 := m0) hc0 hxp0 hxp1 hxp2 hxp3 hxp4 3).1  m0 hIm0 hFm0 ⟨by omega, by omega⟩ (by omega) (by omega) (by omega) (by omega) (by omega) (by omega) (by omega) hRKNm0 hRNSm0 hRTRm0 hRWDm0 hM
        · refine zw_bd (zw_mono (zk_112 n hIm0 hc0 ⟨by decide, by decide⟩ (by omega) (by omega) (by omega) hRKNm0) (fun v641 m640 hqm640 => ?_))
          obtain ⟨hIm640, hfm640, hvm640⟩ := hqm640
          have hFm640 := zfr_tr hFm0 hfm640 rfl
          obtain ⟨hRKNm640, hvm640⟩ := hvm640
          have hRNSm640 := zR_NS_fr (zdis_fr hfm640 rfl) hRNSm0
          have hRTRm640 := zR_TR_fr (zdis_fr hfm640 rfl) hRTRm0
          have hRWDm640 := zR_WD_fr (zdis_fr hfm640 rfl) hRWDm0
          have g642 := zwt_bd hIm640 hc0
          have s643 := hRNSm640 a0 hc0
          have r644 : 0 ≤ (m640 a0 21) ∧ (m640 a0 21) ≤ 64 := zi_rd hIm640 hc0 zb_28_21
          have r645 : 0 ≤ (m640 a0 46) ∧ (m640 a0 46) ≤ 96 := zi_rd hIm640 hc0 zb_28_46
          have r646 : 0 ≤ (m640 a0 45) ∧ (m640 a0 45) ≤ 96 := zi_rd hIm640 hc0 zb_28_45
          have w647 := zu_w32_id (z := (m640 a0 45) - 1) (by omega) (by omega)
          generalize hmm648 : zu_up m640 a0 45 (zu_w32 ((m640 a0 45) - 1)) = m648
          have hIm648 := zi_up hmm648 hIm640 hc0 zb_28_45 (by omega) (by omega)
          have hFm648 := zfr_up hmm648 hFm640 hc0 rfl
          have hRKNm648 := zR_KN_fr (zdis_fr (zfr_up hmm648 (zfr_rf [(28, 46)] _) hc0 rfl) rfl) hRKNm640
          have hRNSm648 := zR_NS_fr (zdis_fr (zfr_up hmm648 (zfr_rf [(28, 46)] _) hc0 rfl) rfl) hRNSm640
          have hRTRm648 := zR_TR_fr (zdis_fr (zfr_up hmm648 (zfr_rf [(28, 46)] _) hc0 rfl) rfl) hRTRm640
          have hRWDm648 := zR_WD_fr (zdis_fr (zfr_up hmm648 (zfr_rf [(28, 46)] _) hc0 rfl) rfl) hRWDm640
          have g649 := zwt_pop hmm648 hc0 (by omega) (by omega)
          have g650 := zwt_bd hIm648 hc0
          have r651 : 0 ≤ (m648 a0 47) ∧ (m648 a0 47) ≤ 8 := zi_rd hIm648 hc0 zb_28_47
          have e652 : (m648 a0 47) = (m0 a0 47) := (Eq.trans (zs_ne hmm648 (Or.inr (by decide))) (zfr_ap hfm640 hc0 rfl))
          have w653 := zu_w32_id (z := (m648 a0 47) - 1) (by omega) (by omega)
          generalize hmm654 : zu_up m648 a0 47 (zu_w32 ((m648 a0 47) - 1)) = m654
          have hIm654 := zi_up hmm654 hIm648 hc0 zb_28_47 (by omega) (by omega)
          have hFm654 := zfr_up hmm654 hFm648 hc0 rfl
          have g655 := zwt_fr (zdis_fr (zfr_up hmm654 (zfr_rf [(28, 48)] _) hc0 rfl) rfl)
          have hRKNm654 := zR_KN_fr (zdis_fr (zfr_up hmm654 (zfr_rf [(28, 48)] _) hc0 rfl) rfl) hRKNm648
          have hRNSm654 := zR_NS_fr (zdis_fr (zfr_up hmm654 (zfr_rf [(28, 48)] _) hc0 rfl) rfl) hRNSm648
          have hRTRm654 := zR_TR_fr (zdis_fr (zfr_up hmm654 (zfr_rf [(28, 48)] _) hc0 rfl) rfl) hRTRm648
          have hRWDm654 := zR_WD_fr (zdis_fr (zfr_up hmm654 (zfr_rf [(28, 48)] _) hc0 rfl) rfl) hRWDm648
          have r658 : 0 ≤ (m654 a0 7) ∧ (m654 a0 7) ≤ 700 := zi_rd hIm654 hc0 zb_28_7
          have e659 : (m654 a0 7) = (m0 a0 7) := (Eq.trans (zs_ne hmm654 (Or.inr (by decide))) (Eq.trans (zs_ne hmm648 (Or.inr (by decide))) (zfr_ap hfm640 hc0 rfl)))
          refine zw_bd (zw_mono (zk_89 n hIm654 hc0 hRNSm654 hRWDm654) (fun v657 m656 hqm656 => ?_))
          obtain ⟨hIm656, hfm656, hvm656⟩ := hqm656
          have hFm656 := zfr_tr hFm654 hfm656 rfl
          obtain ⟨hRNSm656, hRTRm656, hRWDm656, hvm656⟩ := hvm656
          have g660 := zwt_fr (zdis_fr hfm656 rfl)
          have hRKNm656 := zR_KN_fr (zdis_fr hfm656 rfl) hRKNm654
          have g661 := zwt_bd hIm656 hc0
          have s662 := hRNSm656 a0 hc0
          have r663 : 0 ≤ (m656 a0 7) ∧ (m656 a0 7) ≤ 700 := zi_rd hIm656 hc0 zb_28_7
          have r664 : 0 ≤ (m656 a0 8) ∧ (m656 a0 8) ≤ 6 := zi_rd hIm656 hc0 zb_28_8
          refine zw_b (by omega) ?_
          have r665 : 0 ≤ (m656 a0 21) ∧ (m656 a0 21) ≤ 64 := zi_rd hIm656 hc0 zb_28_21
          have e666 : (m656 a0 21) = (m640 a0 21) := (Eq.trans (zfr_ap hfm656 hc0 rfl) (Eq.trans (zs_ne hmm654 (Or.inr (by decide))) (zs_ne hmm648 (Or.inr (by decide)))))
          have r667 : 0 ≤ (m656 a0 48) ∧ (m656 a0 48) ≤ 64 := zi_rd hIm656 hc0 zb_28_48
          have e668 : (m656 a0 48) = (m0 a0 48) := (Eq.trans (zfr_ap hfm656 hc0 rfl) (Eq.trans (zs_ne hmm654 (Or.inr (by decide))) (Eq.trans (zs_ne hmm648 (Or.inr (by decide))) (zfr_ap hfm640 hc0 rfl))))
          have r669 : 0 ≤ (m656 a0 46) ∧ (m656 a0 46) ≤ 96 := zi_rd hIm656 hc0 zb_28_46
          have e670 : (m656 a0 46) = (m640 a0 46) := (Eq.trans (zfr_ap hfm656 hc0 rfl) (Eq.trans (zs_ne hmm654 (Or.inr (by decide))) (zs_ne hmm648 (Or.inr (by decide)))))
          have r671 : 0 ≤ (m656 a0 49) ∧ (m656 a0 49) ≤ 1 := zi_rd hIm656 hc0 zb_28_49
          have e672 : (m656 a0 49) = (m0 a0 49) := (Eq.trans (zfr_ap hfm656 hc0 rfl) (Eq.trans (zs_ne hmm654 (Or.inr (by decide))) (Eq.trans (zs_ne hmm648 (Or.inr (by decide))) (zfr_ap hfm640 hc0 rfl))))
          have r673 : 0 ≤ (m656 a0 45) ∧ (m656 a0 45) ≤ 96 := zi_rd hIm656 hc0 zb_28_45
          have e674 : (m656 a0 45) = (zu_w32 ((m640 a0 45) - 1)) := (Eq.trans (zfr_ap hfm656 hc0 rfl) (Eq.trans (zs_ne hmm654 (Or.inr (by decide))) (zs_eq hmm648)))
          have r675 : 0 ≤ (m656 a0 47) ∧ (m656 a0 47) ≤ 8 := zi_rd hIm656 hc0 zb_28_47
          have e676 : (m656 a0 47) = (zu_w32 ((m648 a0 47) - 1)) := (Eq.trans (zfr_ap hfm656 hc0 rfl) (zs_eq hmm654))
          have r677 : (-2147483648) ≤ (m656 a0 4) ∧ (m656 a0 4) ≤ 2147483647 := zi_rd hIm656 hc0 zb_28_4
          have e678 : (m656 a0 4) = (m0 a0 4) := (Eq.trans (zfr_ap hfm656 hc0 rfl) (Eq.trans (zs_ne hmm654 (Or.inr (by decide))) (Eq.trans (zs_ne hmm648 (Or.inr (by decide))) (zfr_ap hfm640 hc0 rfl))))
          exact zw_some ⟨hIm656, hFm656, hRKNm656, hRNSm656, hRTRm656, hRWDm656, ⟨by decide, by decide⟩, by omega, fun _ => by omega, fun _ => by omega, fun _ => by omega, fun _ => by omega, fun _ => by omega, fun _ => by omega, fun h => absurd h (by decide)⟩

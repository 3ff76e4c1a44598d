set_option maxHeartbeats 4000000 in
theorem zl_117H0 (n : Nat) {a0 : Int} {m0 : zu_m} (hc0 : zcls a0 = 28)  (hxp0 : (m0 a0 21) + znz m0 = (m0 a0 48)) (hxp1 : (m0 a0 45) = znz m0 + (m0 a0 47)) (hxp2 : (m0 a0 46) = zbi m0 + 1) (hxp3 : (m0 a0 49) = 0) (hxp4 : 1 ≤ (m0 a0 21)) (k : Nat) (ih : (∀ (mh : zu_m), zi_I mh → zfr [(28, 5), (28, 6), (28, 8), (28, 9), (28, 10), (28, 11), (28, 22), (28, 46), (28, 47), (28, 48), (28, 49), (28, 50), (28, 51), (117, 0), (118, 0), (119, 0), (120, 0), (121, 0)] m0 mh → (0 ≤ mh a0 49 ∧ mh a0 49 ≤ 0) → ((mh a0 21) + znz mh = (mh a0 48)) → ((mh a0 45) = znz mh + (mh a0 47)) → ((mh a0 46) = zbi mh + 1) → (1 ≤ (mh a0 21)) → ((mh a0 7) = (m0 a0 7)) → ((mh a0 8) = (m0 a0 8)) → ((mh a0 4) = (m0 a0 4)) → (zR_KN mh) → (zR_NS mh) → (zR_TR mh) → (zR_WD mh) → 2 < (k : Int) → zw (zu_ex (zt_T n) 117 47 [(40, a0), (2, 0)] [] mh) (fun v m => zi_I m ∧ zfr [(28, 5), (28, 6), (28, 8), (28, 9), (28, 10), (28, 11), (28, 22), (28, 46), (28, 47), (28, 48), (28, 49), (28, 50), (28, 51), (117, 0), (118, 0), (119, 0), (120, 0), (121, 0)] m0 m ∧ zR_KN m ∧ zR_NS m ∧ zR_TR m ∧ zR_WD m ∧ (0 ≤ v ∧ v ≤ 1) ∧ ((m0 a0 7) ≤ (m a0 7)) ∧ (v = 1 → ((m0 a0 8) ≠ 0 ∧ ((m a0 8) = 0 ∨ (m0 a0 7) < (m a0 7)))) ∧ (v = 1 → (m a0 21) + znz m = (m a0 48)) ∧ (v = 1 → (m a0 46) + (m a0 49) = zbi m + 1) ∧ (v = 1 → (m a0 45) = znz m + (m a0 47)) ∧ (v = 1 → ((m a0 49) = 0 → 1 ≤ (m a0 21))) ∧ (v = 1 → (m a0 4) = (m0 a0 4)) ∧ (v = 0 → (m a0 4) ≠ 0))) ∧ (∀ (y0 : Int) (mh : zu_m), zi_I mh → zfr [(28, 5), (28, 6), (28, 8), (28, 9), (28, 10), (28, 11), (28, 22), (28, 46), (28, 47), (28, 48), (28, 49), (28, 50), (28, 51), (117, 0), (118, 0), (119, 0), (120, 0), (121, 0)] m0 mh → (0 ≤ y0 ∧ y0 ≤ 14) → (0 ≤ mh a0 49 ∧ mh a0 49 ≤ 0) → ((mh a0 21) + znz mh = (mh a0 48)) → ((mh a0 45) = znz mh + (mh a0 47)) → ((mh a0 46) = zbi mh + 1) → (1 ≤ (mh a0 21)) → ((mh a0 7) = (m0 a0 7)) → (y0 ≠ 0 → (m0 a0 8) ≠ 0) → (y0 = 0 ∨ 3 ≤ y0) → ((mh a0 4) = (m0 a0 4)) → (zR_KN mh) → (zR_NS mh) → (zR_TR mh) → (zR_WD mh) → 1 < (k : Int) → zw (zu_ex (zt_T n) 117 147 [(40, a0), (2, 0)] [(0, y0)] mh) (fun v m => zi_I m ∧ zfr [(28, 5), (28, 6), (28, 8), (28, 9), (28, 10), (28, 11), (28, 22), (28, 46), (28, 47), (28, 48), (28, 49), (28, 50), (28, 51), (117, 0), (118, 0), (119, 0), (120, 0), (121, 0)] m0 m ∧ zR_KN m ∧ zR_NS m ∧ zR_TR m ∧ zR_WD m ∧ (0 ≤ v ∧ v ≤ 1) ∧ ((m0 a0 7) ≤ (m a0 7)) ∧ (v = 1 → ((m0 a0 8) ≠ 0 ∧ ((m a0 8) = 0 ∨ (m0 a0 7) < (m a0 7)))) ∧ (v = 1 → (m a0 21) + znz m = (m a0 48)) ∧ (v = 1 → (m a0 46) + (m a0 49) = zbi m + 1) ∧ (v = 1 → (m a0 45) = znz m + (m a0 47)) ∧ (v = 1 → ((m a0 49) = 0 → 1 ≤ (m a0 21))) ∧ (v = 1 → (m a0 4) = (m0 a0 4)) ∧ (v = 0 → (m a0 4) ≠ 0))) ∧ (∀ (x1 : Int) (mh : zu_m), zi_I mh → zfr [(28, 5), (28, 6), (28, 8), (28, 9), (28, 10), (28, 11), (28, 22), (28, 46), (28, 47), (28, 48), (28, 49), (28, 50), (28, 51), (117, 0), (118, 0), (119, 0), (120, 0), (121, 0)] m0 mh → (1 ≤ x1 ∧ x1 ≤ 14) → (0 ≤ mh a0 49 ∧ mh a0 49 ≤ 0) → ((mh a0 21) + znz mh = (mh a0 48)) → ((mh a0 45) = znz mh + (mh a0 47)) → ((mh a0 46) = zbi mh + 1) → (1 ≤ (mh a0 21)) → ((mh a0 7) = (m0 a0 7)) → ((m0 a0 8) ≠ 0) → (3 ≤ x1) → ((mh a0 4) = (m0 a0 4)) → (zR_KN mh) → (zR_NS mh) → (zR_TR mh) → (zR_WD mh) → 0 < (k : Int) → zw (zu_ex (zt_T n) 117 217 [(40, a0), (0, x1)] [] mh) (fun v m => zi_I m ∧ zfr [(28, 5), (28, 6), (28, 8), (28, 9), (28, 10), (28, 11), (28, 22), (28, 46), (28, 47), (28, 48), (28, 49), (28, 50), (28, 51), (117, 0), (118, 0), (119, 0), (120, 0), (121, 0)] m0 m ∧ zR_KN m ∧ zR_NS m ∧ zR_TR m ∧ zR_WD m ∧ (0 ≤ v ∧ v ≤ 1) ∧ ((m0 a0 7) ≤ (m a0 7)) ∧ (v = 1 → ((m0 a0 8) ≠ 0 ∧ ((m a0 8) = 0 ∨ (m0 a0 7) < (m a0 7)))) ∧ (v = 1 → (m a0 21) + znz m = (m a0 48)) ∧ (v = 1 → (m a0 46) + (m a0 49) = zbi m + 1) ∧ (v = 1 → (m a0 45) = znz m + (m a0 47)) ∧ (v = 1 → ((m a0 49) = 0 → 1 ≤ (m a0 21))) ∧ (v = 1 → (m a0 4) = (m0 a0 4)) ∧ (v = 0 → (m a0 4) ≠ 0)))) : (∀ (mh : zu_m), zi_I mh → zfr [(28, 5), (28, 6), (28, 8), (28, 9), (28, 10), (28, 11), (28, 22), (28, 46), (28, 47), (28, 48), (28, 49), (28, 50), (28, 51), (117, 0), (118, 0), (119, 0), (120, 0), (121, 0)] m0 mh → (0 ≤ mh a0 49 ∧ mh a0 49 ≤ 0) → ((mh a0 21) + znz mh = (mh a0 48)) → ((mh a0 45) = znz mh + (mh a0 47)) → ((mh a0 46) = zbi mh + 1) → (1 ≤ (mh a0 21)) → ((mh a0 7) = (m0 a0 7)) → ((mh a0 8) = (m0 a0 8)) → ((mh a0 4) = (m0 a0 4)) → (zR_KN mh) → (zR_NS mh) → (zR_TR mh) → (zR_WD mh) → 2 < ((k + 1 : Nat) : Int) → zw (zu_ex (zt_T n) 117 47 [(40, a0), (2, 0)] [] mh) (fun v m => zi_I m ∧ zfr [(28, 5), (28, 6), (28, 8), (28, 9), (28, 10), (28, 11), (28, 22), (28, 46), (28, 47), (28, 48), (28, 49), (28, 50), (28, 51), (117, 0), (118, 0), (119, 0), (120, 0), (121, 0)] m0 m ∧ zR_KN m ∧ zR_NS m ∧ zR_TR m ∧ zR_WD m ∧ (0 ≤ v ∧ v ≤ 1) ∧ ((m0 a0 7) ≤ (m a0 7)) ∧ (v = 1 → ((m0 a0 8) ≠ 0 ∧ ((m a0 8) = 0 ∨ (m0 a0 7) < (m a0 7)))) ∧ (v = 1 → (m a0 21) + znz m = (m a0 48)) ∧ (v = 1 → (m a0 46) + (m a0 49) = zbi m + 1) ∧ (v = 1 → (m a0 45) = znz m + (m a0 47)) ∧ (v = 1 → ((m a0 49) = 0 → 1 ≤ (m a0 21))) ∧ (v = 1 → (m a0 4) = (m0 a0 4)) ∧ (v = 0 → (m a0 4) ≠ 0))) := by
      intro mh hImh hFmh hg0 hH0 hH1 hH2 hH3 hH4 hH5 hH6 hRKNmh hRNSmh hRTRmh hRWDmh hM
      refine zw_eq (zu_rega_at (zt_T n) (zm_117 n) (zdp_117 n) _ _ _ _ _ _ (zr_117_47 n _ _ a0 mh)) ?_
      have r1 : 0 ≤ (mh a0 21) ∧ (mh a0 21) ≤ 64 := zi_rd hImh hc0 zb_28_21
      have r2 : 0 ≤ (mh a0 48) ∧ (mh a0 48) ≤ 64 := zi_rd hImh hc0 zb_28_48
      have r3 : 0 ≤ (mh a0 45) ∧ (mh a0 45) ≤ 96 := zi_rd hImh hc0 zb_28_45
      have r4 : 0 ≤ (mh a0 47) ∧ (mh a0 47) ≤ 8 := zi_rd hImh hc0 zb_28_47
      have r5 : 0 ≤ (mh a0 46) ∧ (mh a0 46) ≤ 96 := zi_rd hImh hc0 zb_28_46
      have r6 : 0 ≤ (mh a0 7) ∧ (mh a0 7) ≤ 700 := zi_rd hImh hc0 zb_28_7
      have r7 : 0 ≤ (mh a0 8) ∧ (mh a0 8) ≤ 6 := zi_rd hImh hc0 zb_28_8
      have r8 : (-2147483648) ≤ (mh a0 4) ∧ (mh a0 4) ≤ 2147483647 := zi_rd hImh hc0 zb_28_4
      have g9 := zwt_bd hImh hc0
      have s10 := hRNSmh a0 hc0
      have s11 := hRTRmh a0 hc0
      refine zw_bd (zw_eq (zu_call_at (zt_T n) (zm_92 n) (zdp_92 n) _ _ _ _ _ rfl (zr_92_0 n _ _ a0 23 mh)) ?_)
      refine zw_ite (fun h12 => ?_) (fun h12 => ?_)
      · refine zw_b (by omega) ?_
        refine zw_some ?_
        refine zw_ite (fun h13 => ?_) (fun h13 => ?_)
        · refine zw_bd (zw_eq (zu_call_at (zt_T n) (zm_92 n) (zdp_92 n) _ _ _ _ _ rfl (zr_92_0 n _ _ a0 24 mh)) ?_)
          refine zw_ite (fun h14 => ?_) (fun h14 => ?_)
          · refine zw_b (by omega) ?_
            refine zw_some ?_
            refine zw_ite (fun h15 => ?_) (fun h15 => ?_)
            · refine zw_ite (fun h16 => ?_) (fun h16 => ?_)
              · refine zw_bd (zw_eq (zu_call_at (zt_T n) (zm_93 n) (zdp_93 n) _ _ _ _ _ rfl (zr_93_0 n _ _ a0 43 mh)) ?_)
                refine zw_ite (fun h17 => ?_) (fun h17 => ?_)
                · refine zw_b (by omega) ?_
                  refine zw_some ?_
                  refine zw_ite (fun h18 => ?_) (fun h18 => ?_)
                  · refine zw_bd (zw_eq (zu_call_at (zt_T n) (zm_93 n) (zdp_93 n) _ _ _ _ _ rfl (zr_93_0 n _ _ a0 45 mh)) ?_)
                    refine zw_ite (fun h19 => ?_) (fun h19 => ?_)
                    · refine zw_b (by omega) ?_
                      refine zw_some ?_
                      refine zw_ite (fun h20 => ?_) (fun h20 => ?_)
                      · refine zw_bd (zw_eq (zu_call_at (zt_T n) (zm_93 n) (zdp_93 n) _ _ _ _ _ rfl (zr_93_0 n _ _ a0 42 mh)) ?_)
                        refine zw_ite (fun h21 => ?_) (fun h21 => ?_)
                        · refine zw_b (by omega) ?_
                          refine zw_some ?_
                          refine zw_ite (fun h22 => ?_) (fun h22 => ?_)
                          · refine zw_bd (zw_eq (zu_call_at (zt_T n) (zm_93 n) (zdp_93 n) _ _ _ _ _ rfl (zr_93_0 n _ _ a0 47 mh)) ?_)
                            refine zw_ite (fun h23 => ?_) (fun h23 => ?_)
                            · refine zw_b (by omega) ?_
                              refine zw_some ?_
                              refine zw_ite (fun h24 => ?_) (fun h24 => ?_)
                              · have hM : 1 < (k : Int) := by omega
                                exact ih.2.1 0 mh hImh hFmh ⟨by omega, by omega⟩ ⟨by omega, by omega⟩ (by omega) (by omega) (by omega) (by omega) (by omega) (by omega) (by omega) (by omega) hRKNmh hRNSmh hRTRmh hRWDmh hM
                              · exfalso; omega
                            · exfalso; omega
                          · exfalso; omega
                        · exfalso; omega
                      · exfalso; omega
                    · exfalso; omega
                  · exfalso; omega
                · have r25 : (-2147483648) ≤ (mh a0 9) ∧ (mh a0 9) ≤ 2147483647 := zi_rd hImh hc0 zb_28_9
                  refine zw_ite (fun h26 => ?_) (fun h26 => ?_)
                  · refine zw_b (by omega) ?_
                    refine zw_some ?_
                    refine zw_ite (fun h27 => ?_) (fun h27 => ?_)
                    · refine zw_bd (zw_eq (zu_call_at (zt_T n) (zm_93 n) (zdp_93 n) _ _ _ _ _ rfl (zr_93_0 n _ _ a0 45 mh)) ?_)
                      refine zw_ite (fun h28 => ?_) (fun h28 => ?_)
                      · exfalso; omega
                      · refine zw_ite (fun h29 => ?_) (fun h29 => ?_)
                        · refine zw_b (by omega) ?_
                          refine zw_some ?_
                          refine zw_ite (fun h30 => ?_) (fun h30 => ?_)
                          · refine zw_bd (zw_eq (zu_call_at (zt_T n) (zm_93 n) (zdp_93 n) _ _ _ _ _ rfl (zr_93_0 n _ _ a0 42 mh)) ?_)
                            refine zw_ite (fun h31 => ?_) (fun h31 => ?_)
                            · exfalso; omega
                            · refine zw_ite (fun h32 => ?_) (fun h32 => ?_)
                              · refine zw_b (by omega) ?_
                                refine zw_some ?_
                                refine zw_ite (fun h33 => ?_) (fun h33 => ?_)
                                · refine zw_bd (zw_eq (zu_call_at (zt_T n) (zm_93 n) (zdp_93 n) _ _ _ _ _ rfl (zr_93_0 n _ _ a0 47 mh)) ?_)
                                  refine zw_ite (fun h34 => ?_) (fun h34 => ?_)
                                  · exfalso; omega
                                  · refine zw_ite (fun h35 => ?_) (fun h35 => ?_)
                                    · refine zw_b (by omega) ?_
                                      refine zw_some ?_
                                      refine zw_ite (fun h36 => ?_) (fun h36 => ?_)
                                      · have hM : 1 < (k : Int) := by omega
                                        exact ih.2.1 0 mh hImh hFmh ⟨by omega, by omega⟩ ⟨by omega, by omega⟩ (by omega) (by omega) (by omega) (by omega) (by omega) (by omega) (by omega) (by omega) hRKNmh hRNSmh hRTRmh hRWDmh hM
                                      · exfalso; omega
                                    · refine zw_b (by omega) ?_
                                      refine zw_some ?_
                                      refine zw_ite (fun h37 => ?_) (fun h37 => ?_)
                                      · exfalso; omega
                                      · have hM : 1 < (k : Int) := by omega
                                        exact ih.2.1 14 mh hImh hFmh ⟨by omega, by omega⟩ ⟨by omega, by omega⟩ (by omega) (by omega) (by omega) (by omega) (by omega) (by omega) (by omega) (by omega) hRKNmh hRNSmh hRTRmh hRWDmh hM
                                · exfalso; omega
                              · refine zw_b (by omega) ?_
                                refine zw_some ?_
                                refine zw_ite (fun h38 => ?_) (fun h38 => ?_)
                                · exfalso; omega
                                · have hM : 1 < (k : Int) := by omega
                                  exact ih.2.1 13 mh hImh hFmh ⟨by omega, by omega⟩ ⟨by omega, by omega⟩ (by omega) (by omega) (by omega) (by omega) (by omega) (by omega) (by omega) (by omega) hRKNmh hRNSmh hRTRmh hRWDmh hM
                          · exfalso; omega
                        · refine zw_b (by omega) ?_
                          refine zw_some ?_
                          refine zw_ite (fun h39 => ?_) (fun h39 => ?_)
                          · exfalso; omega
                          · have hM : 1 < (k : Int) := by omega
                            exact ih.2.1 12 mh hImh hFmh ⟨by omega, by omega⟩ ⟨by omega, by omega⟩ (by omega) (by omega) (by omega) (by omega) (by omega) (by omega) (by omega) (by omega) hRKNmh hRNSmh hRTRmh hRWDmh hM
                    · exfalso; omega
                  · refine zw_b (by omega) ?_
                    refine zw_some ?_
                    refine zw_ite (fun h40 => ?_) (fun h40 => ?_)
                    · exfalso; omega
                    · have hM : 1 < (k : Int) := by omega
                      exact ih.2.1 11 mh hImh hFmh ⟨by omega, by omega⟩ ⟨by omega, by omega⟩ (by omega) (by omega) (by omega) (by omega) (by omega) (by omega) (by omega) (by omega) hRKNmh hRNSmh hRTRmh hRWDmh hM
              · have w41 := zu_w32_id (z := 5 + (mh a0 9)) (by omega) (by omega)
                have hM : 1 < (k : Int) := by omega
                exact ih.2.1 (zu_w32 (5 + (mh a0 9))) mh hImh hFmh ⟨by omega, by omega⟩ ⟨by omega, by omega⟩ (by omega) (by omega) (by omega) (by omega) (by omega) (by omega) (by omega) (by omega) hRKNmh hRNSmh hRTRmh hRWDmh hM
            · exfalso; omega
          · exfalso; omega
        · exfalso; omega
      · refine zw_ite (fun h42 => ?_) (fun h42 => ?_)
        · refine zw_b (by omega) ?_
          refine zw_some ?_
          refine zw_ite (fun h43 => ?_) (fun h43 => ?_)
          · refine zw_bd (zw_eq (zu_call_at (zt_T n) (zm_92 n) (zdp_92 n) _ _ _ _ _ rfl (zr_92_0 n _ _ a0 24 mh)) ?_)
            refine zw_ite (fun h44 => ?_) (fun h44 => ?_)
            · exfalso; omega
            · refine zw_ite (fun h45 => ?_) (fun h45 => ?_)
              · refine zw_b (by omega) ?_
                refine zw_some ?_
                refine zw_ite (fun h46 => ?_) (fun h46 => ?_)
                · refine zw_ite (fun h47 => ?_) (fun h47 => ?_)
                  · refine zw_bd (zw_eq (zu_call_at (zt_T n) (zm_93 n) (zdp_93 n) _ _ _ _ _ rfl (zr_93_0 n _ _ a0 43 mh)) ?_)
                    refine zw_ite (fun h48 => ?_) (fun h48 => ?_)
                    · refine zw_b (by omega) ?_
                      refine zw_some ?_
                      refine zw_ite (fun h49 => ?_) (fun h49 => ?_)
                      · refine zw_bd (zw_eq (zu_call_at (zt_T n) (zm_93 n) (zdp_93 n) _ _ _ _ _ rfl (zr_93_0 n _ _ a0 45 mh)) ?_)
                        refine zw_ite (fun h50 => ?_) (fun h50 => ?_)
                        · refine zw_b (by omega) ?_
                          refine zw_some ?_
                          refine zw_ite (fun h51 => ?_) (fun h51 => ?_)
                          · refine zw_bd (zw_eq (zu_call_at (zt_T n) (zm_93 n) (zdp_93 n) _ _ _ _ _ rfl (zr_93_0 n _ _ a0 42 mh)) ?_)
                            refine zw_ite (fun h52 => ?_) (fun h52 => ?_)
                            · refine zw_b (by omega) ?_
                              refine zw_some ?_
                              refine zw_ite (fun h53 => ?_) (fun h53 => ?_)
                              · refine zw_bd (zw_eq (zu_call_at (zt_T n) (zm_93 n) (zdp_93 n) _ _ _ _ _ rfl (zr_93_0 n _ _ a0 47 mh)) ?_)
                                refine zw_ite (fun h54 => ?_) (fun h54 => ?_)
                                · refine zw_b (by omega) ?_
                                  refine zw_some ?_
                                  refine zw_ite (fun h55 => ?_) (fun h55 => ?_)
                                  · have hM : 1 < (k : Int) := by omega
                                    exact ih.2.1 0 mh hImh hFmh ⟨by omega, by omega⟩ ⟨by omega, by omega⟩ (by omega) (by omega) (by omega) (by omega) (by omega) (by omega) (by omega) (by omega) hRKNmh hRNSmh hRTRmh hRWDmh hM
                                  · exfalso; omega
                                · exfalso; omega
                              · exfalso; omega
                            · exfalso; omega
                          · exfalso; omega
                        · exfalso; omega
                      · exfalso; omega
                    · exfalso; omega
                  · exfalso; omega
                · exfalso; omega
              · refine zw_b (by omega) ?_
                refine zw_some ?_
                refine zw_ite (fun h56 => ?_) (fun h56 => ?_)
                · exfalso; omega
                · have hM : 1 < (k : Int) := by omega
                  exact ih.2.1 4 mh hImh hFmh ⟨by omega, by omega⟩ ⟨by omega, by omega⟩ (by omega) (by omega) (by omega) (by omega) (by omega) (by omega) (by omega) (by omega) hRKNmh hRNSmh hRTRmh hRWDmh hM
          · exfalso; omega
        · refine zw_b (by omega) ?_
          refine zw_some ?_
          refine zw_ite (fun h57 => ?_) (fun h57 => ?_)
          · exfalso; omega
          · have hM : 1 < (k : Int) := by omega
            exact ih.2.1 3 mh hImh hFmh ⟨by omega, by omega⟩ ⟨by omega, by omega⟩ (by omega) (by omega) (by omega) (by omega) (by omega) (by omega) (by omega) (by omega) hRKNmh hRNSmh hRTRmh hRWDmh hM
set_option maxHeartbeats 4000000 in
theorem zl_117H1 (n : Nat) {a0 : Int} {m0 : zu_m} (hc0 : zcls a0 = 28)  (hxp0 : (m0 a0 21) + znz m0 = (m0 a0 48)) (hxp1 : (m0 a0 45) = znz m0 + (m0 a0 47)) (hxp2 : (m0 a0 46) = zbi m0 + 1) (hxp3 : (m0 a0 49) = 0) (hxp4 : 1 ≤ (m0 a0 21)) (k : Nat) (ih : (∀ (mh : zu_m), zi_I mh → zfr [(28, 5), (28, 6), (28, 8), (28, 9), (28, 10), (28, 11), (28, 22), (28, 46), (28, 47), (28, 48), (28, 49), (28, 50), (28, 51), (117, 0), (118, 0), (119, 0), (120, 0), (121, 0)] m0 mh → (0 ≤ mh a0 49 ∧ mh a0 49 ≤ 0) → ((mh a0 21) + znz mh = (mh a0 48)) → ((mh a0 45) = znz mh + (mh a0 47)) → ((mh a0 46) = zbi mh + 1) → (1 ≤ (mh a0 21)) → ((mh a0 7) = (m0 a0 7)) → ((mh a0 8) = (m0 a0 8)) → ((mh a0 4) = (m0 a0 4)) → (zR_KN mh) → (zR_NS mh) → (zR_TR mh) → (zR_WD mh) → 2 < (k : Int) → zw (zu_ex (zt_T n) 117 47 [(40, a0), (2, 0)] [] mh) (fun v m => zi_I m ∧ zfr [(28, 5), (28, 6), (28, 8), (28, 9), (28, 10), (28, 11), (28, 22), (28, 46), (28, 47), (28, 48), (28, 49), (28, 50), (28, 51), (117, 0), (118, 0), (119, 0), (120, 0), (121, 0)] m0 m ∧ zR_KN m ∧ zR_NS m ∧ zR_TR m ∧ zR_WD m ∧ (0 ≤ v ∧ v ≤ 1) ∧ ((m0 a0 7) ≤ (m a0 7)) ∧ (v = 1 → ((m0 a0 8) ≠ 0 ∧ ((m a0 8) = 0 ∨ (m0 a0 7) < (m a0 7)))) ∧ (v = 1 → (m a0 21) + znz m = (m a0 48)) ∧ (v = 1 → (m a0 46) + (m a0 49) = zbi m + 1) ∧ (v = 1 → (m a0 45) = znz m + (m a0 47)) ∧ (v = 1 → ((m a0 49) = 0 → 1 ≤ (m a0 21))) ∧ (v = 1 → (m a0 4) = (m0 a0 4)) ∧ (v = 0 → (m a0 4) ≠ 0))) ∧ (∀ (y0 : Int) (mh : zu_m), zi_I mh → zfr [(28, 5), (28, 6), (28, 8), (28, 9), (28, 10), (28, 11), (28, 22), (28, 46), (28, 47), (28, 48), (28, 49), (28, 50), (28, 51), (117, 0), (118, 0), (119, 0), (120, 0), (121, 0)] m0 mh → (0 ≤ y0 ∧ y0 ≤ 14) → (0 ≤ mh a0 49 ∧ mh a0 49 ≤ 0) → ((mh a0 21) + znz mh = (mh a0 48)) → ((mh a0 45) = znz mh + (mh a0 47)) → ((mh a0 46) = zbi mh + 1) → (1 ≤ (mh a0 21)) → ((mh a0 7) = (m0 a0 7)) → (y0 ≠ 0 → (m0 a0 8) ≠ 0) → (y0 = 0 ∨ 3 ≤ y0) → ((mh a0 4) = (m0 a0 4)) → (zR_KN mh) → (zR_NS mh) → (zR_TR mh) → (zR_WD mh) → 1 < (k : Int) → zw (zu_ex (zt_T n) 117 147 [(40, a0), (2, 0)] [(0, y0)] mh) (fun v m => zi_I m ∧ zfr [(28, 5), (28, 6), (28, 8), (28, 9), (28, 10), (28, 11), (28, 22), (28, 46), (28, 47), (28, 48), (28, 49), (28, 50), (28, 51), (117, 0), (118, 0), (119, 0), (120, 0), (121, 0)] m0 m ∧ zR_KN m ∧ zR_NS m ∧ zR_TR m ∧ zR_WD m ∧ (0 ≤ v ∧ v ≤ 1) ∧ ((m0 a0 7) ≤ (m a0 7)) ∧ (v = 1 → ((m0 a0 8) ≠ 0 ∧ ((m a0 8) = 0 ∨ (m0 a0 7) < (m a0 7)))) ∧ (v = 1 → (m a0 21) + znz m = (m a0 48)) ∧ (v = 1 → (m a0 46) + (m a0 49) = zbi m + 1) ∧ (v = 1 → (m a0 45) = znz m + (m a0 47)) ∧ (v = 1 → ((m a0 49) = 0 → 1 ≤ (m a0 21))) ∧ (v = 1 → (m a0 4) = (m0 a0 4)) ∧ (v = 0 → (m a0 4) ≠ 0))) ∧ (∀ (x1 : Int) (mh : zu_m), zi_I mh → zfr [(28, 5), (28, 6), (28, 8), (28, 9), (28, 10), (28, 11), (28, 22), (28, 46), (28, 47), (28, 48), (28, 49), (28, 50), (28, 51), (117, 0), (118, 0), (119, 0), (120, 0), (121, 0)] m0 mh → (1 ≤ x1 ∧ x1 ≤ 14) → (0 ≤ mh a0 49 ∧ mh a0 49 ≤ 0) → ((mh a0 21) + znz mh = (mh a0 48)) → ((mh a0 45) = znz mh + (mh a0 47)) → ((mh a0 46) = zbi mh + 1) → (1 ≤ (mh a0 21)) → ((mh a0 7) = (m0 a0 7)) → ((m0 a0 8) ≠ 0) → (3 ≤ x1) → ((mh a0 4) = (m0 a0 4)) → (zR_KN mh) → (zR_NS mh) → (zR_TR mh) → (zR_WD mh) → 0 < (k : Int) → zw (zu_ex (zt_T n) 117 217 [(40, a0), (0, x1)] [] mh) (fun v m => zi_I m ∧ zfr [(28, 5), (28, 6), (28, 8), (28, 9), (28, 10), (28, 11), (28, 22), (28, 46), (28, 47), (28, 48), (28, 49), (28, 50), (28, 51), (117, 0), (118, 0), (119, 0), (120, 0), (121, 0)] m0 m ∧ zR_KN m ∧ zR_NS m ∧ zR_TR m ∧ zR_WD m ∧ (0 ≤ v ∧ v ≤ 1) ∧ ((m0 a0 7) ≤ (m a0 7)) ∧ (v = 1 → ((m0 a0 8) ≠ 0 ∧ ((m a0 8) = 0 ∨ (m0 a0 7) < (m a0 7)))) ∧ (v = 1 → (m a0 21) + znz m = (m a0 48)) ∧ (v = 1 → (m a0 46) + (m a0 49) = zbi m + 1) ∧ (v = 1 → (m a0 45) = znz m + (m a0 47)) ∧ (v = 1 → ((m a0 49) = 0 → 1 ≤ (m a0 21))) ∧ (v = 1 → (m a0 4) = (m0 a0 4)) ∧ (v = 0 → (m a0 4) ≠ 0)))) : (∀ (y0 : Int) (mh : zu_m), zi_I mh → zfr [(28, 5), (28, 6), (28, 8), (28, 9), (28, 10), (28, 11), (28, 22), (28, 46), (28, 47), (28, 48), (28, 49), (28, 50), (28, 51), (117, 0), (118, 0), (119, 0), (120, 0), (121, 0)] m0 mh → (0 ≤ y0 ∧ y0 ≤ 14) → (0 ≤ mh a0 49 ∧ mh a0 49 ≤ 0) → ((mh a0 21) + znz mh = (mh a0 48)) → ((mh a0 45) = znz mh + (mh a0 47)) → ((mh a0 46) = zbi mh + 1) → (1 ≤ (mh a0 21)) → ((mh a0 7) = (m0 a0 7)) → (y0 ≠ 0 → (m0 a0 8) ≠ 0) → (y0 = 0 ∨ 3 ≤ y0) → ((mh a0 4) = (m0 a0 4)) → (zR_KN mh) → (zR_NS mh) → (zR_TR mh) → (zR_WD mh) → 1 < ((k + 1 : Nat) : Int) → zw (zu_ex (zt_T n) 117 147 [(40, a0), (2, 0)] [(0, y0)] mh) (fun v m => zi_I m ∧ zfr [(28, 5), (28, 6), (28, 8), (28, 9), (28, 10), (28, 11), (28, 22), (28, 46), (28, 47), (28, 48), (28, 49), (28, 50), (28, 51), (117, 0), (118, 0), (119, 0), (120, 0), (121, 0)] m0 m ∧ zR_KN m ∧ zR_NS m ∧ zR_TR m ∧ zR_WD m ∧ (0 ≤ v ∧ v ≤ 1) ∧ ((m0 a0 7) ≤ (m a0 7)) ∧ (v = 1 → ((m0 a0 8) ≠ 0 ∧ ((m a0 8) = 0 ∨ (m0 a0 7) < (m a0 7)))) ∧ (v = 1 → (m a0 21) + znz m = (m a0 48)) ∧ (v = 1 → (m a0 46) + (m a0 49) = zbi m + 1) ∧ (v = 1 → (m a0 45) = znz m + (m a0 47)) ∧ (v = 1 → ((m a0 49) = 0 → 1 ≤ (m a0 21))) ∧ (v = 1 → (m a0 4) = (m0 a0 4)) ∧ (v = 0 → (m a0 4) ≠ 0))) := by
      intro y0 mh hImh hFmh hby0 hg1 hH0 hH1 hH2 hH3 hH4 hH5 hH6 hH7 hRKNmh hRNSmh hRTRmh hRWDmh hM
      refine zw_eq (zu_rega_at (zt_T n) (zm_117 n) (zdp_117 n) _ _ _ _ _ _ (zr_117_147 n _ _ a0 y0 mh)) ?_
      have r58 : 0 ≤ (mh a0 21) ∧ (mh a0 21) ≤ 64 := zi_rd hImh hc0 zb_28_21
      have r59 : 0 ≤ (mh a0 48) ∧ (mh a0 48) ≤ 64 := zi_rd hImh hc0 zb_28_48
      have r60 : 0 ≤ (mh a0 45) ∧ (mh a0 45) ≤ 96 := zi_rd hImh hc0 zb_28_45
      have r61 : 0 ≤ (mh a0 47) ∧ (mh a0 47) ≤ 8 := zi_rd hImh hc0 zb_28_47
      have r62 : 0 ≤ (mh a0 46) ∧ (mh a0 46) ≤ 96 := zi_rd hImh hc0 zb_28_46
      have r63 : 0 ≤ (mh a0 7) ∧ (mh a0 7) ≤ 700 := zi_rd hImh hc0 zb_28_7
      have r64 : (-2147483648) ≤ (mh a0 4) ∧ (mh a0 4) ≤ 2147483647 := zi_rd hImh hc0 zb_28_4
      have g65 := zwt_bd hImh hc0
      have s66 := hRNSmh a0 hc0
      have s67 := hRTRmh a0 hc0
      refine zw_ite (fun h68 => ?_) (fun h68 => ?_)
      · refine zw_bd (zw_eq (zu_call_at (zt_T n) (zm_109 n) (zdp_109 n) _ _ _ _ _ rfl (zr_109_0 n _ _ y0 mh)) ?_)
        refine zw_ite (fun h69 => ?_) (fun h69 => ?_)
        · refine zw_ite (fun h70 => ?_) (fun h70 => ?_)
          · refine zw_ite (fun h71 => ?_) (fun h71 => ?_)
            · refine zw_ite (fun h72 => ?_) (fun h72 => ?_)
              · refine zw_ite (fun h73 => ?_) (fun h73 => ?_)
                · refine zw_ite (fun h74 => ?_) (fun h74 => ?_)
                  · refine zw_some ?_
                    refine zw_ite (fun h75 => ?_) (fun h75 => ?_)
                    · refine zw_bd (zw_eq (zu_call_at (zt_T n) (zm_109 n) (zdp_109 n) _ _ _ _ _ rfl (zr_109_0 n _ _ y0 mh)) ?_)
                      refine zw_ite (fun h76 => ?_) (fun h76 => ?_)
                      · refine zw_ite (fun h77 => ?_) (fun h77 => ?_)
                        · refine zw_ite (fun h78 => ?_) (fun h78 => ?_)
                          · refine zw_ite (fun h79 => ?_) (fun h79 => ?_)
                            · refine zw_ite (fun h80 => ?_) (fun h80 => ?_)
                              · refine zw_ite (fun h81 => ?_) (fun h81 => ?_)
                                · refine zw_some ?_
                                  refine zw_bd (zw_mono (zk_112 n hImh hc0 ⟨by omega, by omega⟩ (by omega) (by omega) (by omega) hRKNmh) (fun v83 m82 hqm82 => ?_))
                                  obtain ⟨hIm82, hfm82, hvm82⟩ := hqm82
                                  have hFm82 := zfr_tr hFmh hfm82 rfl
                                  obtain ⟨hRKNm82, hvm82⟩ := hvm82
                                  have hRNSm82 := zR_NS_fr (zdis_fr hfm82 rfl) hRNSmh
                                  have hRTRm82 := zR_TR_fr (zdis_fr hfm82 rfl) hRTRmh
                                  have hRWDm82 := zR_WD_fr (zdis_fr hfm82 rfl) hRWDmh
                                  have g84 := zwt_bd hIm82 hc0
                                  have s85 := hRNSm82 a0 hc0
                                  have s86 := hRTRm82 a0 hc0
                                  have r87 : 0 ≤ (m82 a0 21) ∧ (m82 a0 21) ≤ 64 := zi_rd hIm82 hc0 zb_28_21
                                  have r88 : 0 ≤ (m82 a0 46) ∧ (m82 a0 46) ≤ 96 := zi_rd hIm82 hc0 zb_28_46
                                  have r89 : 0 ≤ (m82 a0 45) ∧ (m82 a0 45) ≤ 96 := zi_rd hIm82 hc0 zb_28_45
                                  refine zw_bd (zw_eq (zu_call_at (zt_T n) (zm_109 n) (zdp_109 n) _ _ _ _ _ rfl (zr_109_0 n _ _ y0 m82)) ?_)
                                  refine zw_ite (fun h90 => ?_) (fun h90 => ?_)
                                  · refine zw_ite (fun h91 => ?_) (fun h91 => ?_)
                                    · refine zw_ite (fun h92 => ?_) (fun h92 => ?_)
                                      · refine zw_ite (fun h93 => ?_) (fun h93 => ?_)
                                        · refine zw_ite (fun h94 => ?_) (fun h94 => ?_)
                                          · refine zw_ite (fun h95 => ?_) (fun h95 => ?_)
                                            · refine zw_some ?_
                                              refine zw_ite (fun h96 => ?_) (fun h96 => ?_)
                                              · have r97 : 0 ≤ (m82 a0 49) ∧ (m82 a0 49) ≤ 1 := zi_rd hIm82 hc0 zb_28_49
                                                have e98 : (m82 a0 49) = (mh a0 49) := (zfr_ap hfm82 hc0 rfl)
                                                have r99 : 0 ≤ (m82 a0 48) ∧ (m82 a0 48) ≤ 64 := zi_rd hIm82 hc0 zb_28_48
                                                have e100 : (m82 a0 48) = (mh a0 48) := (zfr_ap hfm82 hc0 rfl)
                                                have r101 : 0 ≤ (m82 a0 47) ∧ (m82 a0 47) ≤ 8 := zi_rd hIm82 hc0 zb_28_47
                                                have e102 : (m82 a0 47) = (mh a0 47) := (zfr_ap hfm82 hc0 rfl)
                                                have r103 : 0 ≤ (m82 a0 7) ∧ (m82 a0 7) ≤ 700 := zi_rd hIm82 hc0 zb_28_7
                                                have e104 : (m82 a0 7) = (mh a0 7) := (zfr_ap hfm82 hc0 rfl)
                                                have r105 : (-2147483648) ≤ (m82 a0 4) ∧ (m82 a0 4) ≤ 2147483647 := zi_rd hIm82 hc0 zb_28_4
                                                have e106 : (m82 a0 4) = (mh a0 4) := (zfr_ap hfm82 hc0 rfl)
                                                have hM : 0 < (k : Int) := by omega
                                                exact ih.2.2 y0 m82 hIm82 hFm82 ⟨by omega, by omega⟩ ⟨by omega, by omega⟩ (by omega) (by omega) (by omega) (by omega) (by omega) (by omega) (by omega) (by omega) hRKNm82 hRNSm82 hRTRm82 hRWDm82 hM
                                              · exfalso; omega
                                            · exfalso; omega
                                          · exfalso; omega
                                        · exfalso; omega
                                      · exfalso; omega
                                    · exfalso; omega
                                  · exfalso; omega
                                · exfalso; omega
                              · exfalso; omega
                            · exfalso; omega
                          · exfalso; omega
                        · exfalso; omega
                      · exfalso; omega
                    · exfalso; omega
                  · refine zw_some ?_
                    refine zw_ite (fun h107 => ?_) (fun h107 => ?_)
                    · refine zw_bd (zw_eq (zu_call_at (zt_T n) (zm_109 n) (zdp_109 n) _ _ _ _ _ rfl (zr_109_0 n _ _ y0 mh)) ?_)
                      refine zw_ite (fun h108 => ?_) (fun h108 => ?_)
                      · refine zw_ite (fun h109 => ?_) (fun h109 => ?_)
                        · refine zw_ite (fun h110 => ?_) (fun h110 => ?_)
                          · refine zw_ite (fun h111 => ?_) (fun h111 => ?_)
                            · refine zw_ite (fun h112 => ?_) (fun h112 => ?_)
                              · refine zw_ite (fun h113 => ?_) (fun h113 => ?_)
                                · exfalso; omega
                                · refine zw_some ?_
                                  refine zw_bd (zw_mono (zk_112 n hImh hc0 ⟨by omega, by omega⟩ (by omega) (by omega) (by omega) hRKNmh) (fun v115 m114 hqm114 => ?_))
                                  obtain ⟨hIm114, hfm114, hvm114⟩ := hqm114
                                  have hFm114 := zfr_tr hFmh hfm114 rfl
                                  obtain ⟨hRKNm114, hvm114⟩ := hvm114
                                  have hRNSm114 := zR_NS_fr (zdis_fr hfm114 rfl) hRNSmh
                                  have hRTRm114 := zR_TR_fr (zdis_fr hfm114 rfl) hRTRmh
                                  have hRWDm114 := zR_WD_fr (zdis_fr hfm114 rfl) hRWDmh
                                  have g116 := zwt_bd hIm114 hc0
                                  have s117 := hRNSm114 a0 hc0
                                  have s118 := hRTRm114 a0 hc0
                                  have r119 : 0 ≤ (m114 a0 21) ∧ (m114 a0 21) ≤ 64 := zi_rd hIm114 hc0 zb_28_21
                                  have r120 : 0 ≤ (m114 a0 46) ∧ (m114 a0 46) ≤ 96 := zi_rd hIm114 hc0 zb_28_46
                                  have r121 : 0 ≤ (m114 a0 45) ∧ (m114 a0 45) ≤ 96 := zi_rd hIm114 hc0 zb_28_45
                                  refine zw_bd (zw_eq (zu_call_at (zt_T n) (zm_109 n) (zdp_109 n) _ _ _ _ _ rfl (zr_109_0 n _ _ y0 m114)) ?_)
                                  refine zw_ite (fun h122 => ?_) (fun h122 => ?_)
                                  · refine zw_ite (fun h123 => ?_) (fun h123 => ?_)
                                    · refine zw_ite (fun h124 => ?_) (fun h124 => ?_)
                                      · refine zw_ite (fun h125 => ?_) (fun h125 => ?_)
                                        · refine zw_ite (fun h126 => ?_) (fun h126 => ?_)
                                          · refine zw_ite (fun h127 => ?_) (fun h127 => ?_)
                                            · exfalso; omega
                                            · refine zw_some ?_
                                              refine zw_ite (fun h128 => ?_) (fun h128 => ?_)
                                              · have r129 : 0 ≤ (m114 a0 49) ∧ (m114 a0 49) ≤ 1 := zi_rd hIm114 hc0 zb_28_49
                                                have e130 : (m114 a0 49) = (mh a0 49) := (zfr_ap hfm114 hc0 rfl)
                                                have r131 : 0 ≤ (m114 a0 48) ∧ (m114 a0 48) ≤ 64 := zi_rd hIm114 hc0 zb_28_48
                                                have e132 : (m114 a0 48) = (mh a0 48) := (zfr_ap hfm114 hc0 rfl)
                                                have r133 : 0 ≤ (m114 a0 47) ∧ (m114 a0 47) ≤ 8 := zi_rd hIm114 hc0 zb_28_47
                                                have e134 : (m114 a0 47) = (mh a0 47) := (zfr_ap hfm114 hc0 rfl)
                                                have r135 : 0 ≤ (m114 a0 7) ∧ (m114 a0 7) ≤ 700 := zi_rd hIm114 hc0 zb_28_7
                                                have e136 : (m114 a0 7) = (mh a0 7) := (zfr_ap hfm114 hc0 rfl)
                                                have r137 : (-2147483648) ≤ (m114 a0 4) ∧ (m114 a0 4) ≤ 2147483647 := zi_rd hIm114 hc0 zb_28_4
                                                have e138 : (m114 a0 4) = (mh a0 4) := (zfr_ap hfm114 hc0 rfl)
                                                have hM : 0 < (k : Int) := by omega
                                                exact ih.2.2 y0 m114 hIm114 hFm114 ⟨by omega, by omega⟩ ⟨by omega, by omega⟩ (by omega) (by omega) (by omega) (by omega) (by omega) (by omega) (by omega) (by omega) hRKNm114 hRNSm114 hRTRm114 hRWDm114 hM
                                              · exfalso; omega
                                          · exfalso; omega
                                        · exfalso; omega
                                      · exfalso; omega
                                    · exfalso; omega
                                  · exfalso; omega
                              · exfalso; omega
                            · exfalso; omega
                          · exfalso; omega
                        · exfalso; omega
                      · exfalso; omega
                    · exfalso; omega
                · refine zw_some ?_
                  refine zw_ite (fun h139 => ?_) (fun h139 => ?_)
                  · refine zw_bd (zw_eq (zu_call_at (zt_T n) (zm_109 n) (zdp_109 n) _ _ _ _ _ rfl (zr_109_0 n _ _ y0 mh)) ?_)
                    refine zw_ite (fun h140 => ?_) (fun h140 => ?_)
                    · refine zw_ite (fun h141 => ?_) (fun h141 => ?_)
                      · refine zw_ite (fun h142 => ?_) (fun h142 => ?_)
                        · refine zw_ite (fun h143 => ?_) (fun h143 => ?_)
                          · refine zw_ite (fun h144 => ?_) (fun h144 => ?_)
                            · exfalso; omega
                            · refine zw_some ?_
                              refine zw_bd (zw_mono (zk_112 n hImh hc0 ⟨by omega, by omega⟩ (by omega) (by omega) (by omega) hRKNmh) (fun v146 m145 hqm145 => ?_))
                              obtain ⟨hIm145, hfm145, hvm145⟩ := hqm145
                              have hFm145 := zfr_tr hFmh hfm145 rfl
                              obtain ⟨hRKNm145, hvm145⟩ := hvm145
                              have hRNSm145 := zR_NS_fr (zdis_fr hfm145 rfl) hRNSmh
                              have hRTRm145 := zR_TR_fr (zdis_fr hfm145 rfl) hRTRmh
                              have hRWDm145 := zR_WD_fr (zdis_fr hfm145 rfl) hRWDmh
                              have g147 := zwt_bd hIm145 hc0
                              have s148 := hRNSm145 a0 hc0
                              have s149 := hRTRm145 a0 hc0
                              have r150 : 0 ≤ (m145 a0 21) ∧ (m145 a0 21) ≤ 64 := zi_rd hIm145 hc0 zb_28_21
                              have r151 : 0 ≤ (m145 a0 46) ∧ (m145 a0 46) ≤ 96 := zi_rd hIm145 hc0 zb_28_46
                              have r152 : 0 ≤ (m145 a0 45) ∧ (m145 a0 45) ≤ 96 := zi_rd hIm145 hc0 zb_28_45
                              refine zw_bd (zw_eq (zu_call_at (zt_T n) (zm_109 n) (zdp_109 n) _ _ _ _ _ rfl (zr_109_0 n _ _ y0 m145)) ?_)
                              refine zw_ite (fun h153 => ?_) (fun h153 => ?_)
                              · refine zw_ite (fun h154 => ?_) (fun h154 => ?_)
                                · refine zw_ite (fun h155 => ?_) (fun h155 => ?_)
                                  · refine zw_ite (fun h156 => ?_) (fun h156 => ?_)
                                    · refine zw_ite (fun h157 => ?_) (fun h157 => ?_)
                                      · exfalso; omega
                                      · refine zw_some ?_
                                        refine zw_ite (fun h158 => ?_) (fun h158 => ?_)
                                        · have r159 : 0 ≤ (m145 a0 49) ∧ (m145 a0 49) ≤ 1 := zi_rd hIm145 hc0 zb_28_49
                                          have e160 : (m145 a0 49) = (mh a0 49) := (zfr_ap hfm145 hc0 rfl)
                                          have r161 : 0 ≤ (m145 a0 48) ∧ (m145 a0 48) ≤ 64 := zi_rd hIm145 hc0 zb_28_48
                                          have e162 : (m145 a0 48) = (mh a0 48) := (zfr_ap hfm145 hc0 rfl)
                                          have r163 : 0 ≤ (m145 a0 47) ∧ (m145 a0 47) ≤ 8 := zi_rd hIm145 hc0 zb_28_47
                                          have e164 : (m145 a0 47) = (mh a0 47) := (zfr_ap hfm145 hc0 rfl)
                                          have r165 : 0 ≤ (m145 a0 7) ∧ (m145 a0 7) ≤ 700 := zi_rd hIm145 hc0 zb_28_7
                                          have e166 : (m145 a0 7) = (mh a0 7) := (zfr_ap hfm145 hc0 rfl)
                                          have r167 : (-2147483648) ≤ (m145 a0 4) ∧ (m145 a0 4) ≤ 2147483647 := zi_rd hIm145 hc0 zb_28_4
                                          have e168 : (m145 a0 4) = (mh a0 4) := (zfr_ap hfm145 hc0 rfl)
                                          have hM : 0 < (k : Int) := by omega
                                          exact ih.2.2 y0 m145 hIm145 hFm145 ⟨by omega, by omega⟩ ⟨by omega, by omega⟩ (by omega) (by omega) (by omega) (by omega) (by omega) (by omega) (by omega) (by omega) hRKNm145 hRNSm145 hRTRm145 hRWDm145 hM
                                        · exfalso; omega
                                    · exfalso; omega
                                  · exfalso; omega
                                · exfalso; omega
                              · exfalso; omega
                          · exfalso; omega
                        · exfalso; omega
                      · exfalso; omega
                    · exfalso; omega
                  · exfalso; omega
              · refine zw_some ?_
                refine zw_ite (fun h169 => ?_) (fun h169 => ?_)
                · refine zw_bd (zw_eq (zu_call_at (zt_T n) (zm_109 n) (zdp_109 n) _ _ _ _ _ rfl (zr_109_0 n _ _ y0 mh)) ?_)
                  refine zw_ite (fun h170 => ?_) (fun h170 => ?_)
                  · refine zw_ite (fun h171 => ?_) (fun h171 => ?_)
                    · refine zw_ite (fun h172 => ?_) (fun h172 => ?_)
                      · refine zw_ite (fun h173 => ?_) (fun h173 => ?_)
                        · exfalso; omega
                        · refine zw_some ?_
                          refine zw_bd (zw_mono (zk_112 n hImh hc0 ⟨by omega, by omega⟩ (by omega) (by omega) (by omega) hRKNmh) (fun v175 m174 hqm174 => ?_))
                          obtain ⟨hIm174, hfm174, hvm174⟩ := hqm174
                          have hFm174 := zfr_tr hFmh hfm174 rfl
                          obtain ⟨hRKNm174, hvm174⟩ := hvm174
                          have hRNSm174 := zR_NS_fr (zdis_fr hfm174 rfl) hRNSmh
                          have hRTRm174 := zR_TR_fr (zdis_fr hfm174 rfl) hRTRmh
                          have hRWDm174 := zR_WD_fr (zdis_fr hfm174 rfl) hRWDmh
                          have g176 := zwt_bd hIm174 hc0
                          have s177 := hRNSm174 a0 hc0
                          have s178 := hRTRm174 a0 hc0
                          have r179 : 0 ≤ (m174 a0 21) ∧ (m174 a0 21) ≤ 64 := zi_rd hIm174 hc0 zb_28_21
                          have r180 : 0 ≤ (m174 a0 46) ∧ (m174 a0 46) ≤ 96 := zi_rd hIm174 hc0 zb_28_46
                          have r181 : 0 ≤ (m174 a0 45) ∧ (m174 a0 45) ≤ 96 := zi_rd hIm174 hc0 zb_28_45
                          refine zw_bd (zw_eq (zu_call_at (zt_T n) (zm_109 n) (zdp_109 n) _ _ _ _ _ rfl (zr_109_0 n _ _ y0 m174)) ?_)
                          refine zw_ite (fun h182 => ?_) (fun h182 => ?_)
                          · refine zw_ite (fun h183 => ?_) (fun h183 => ?_)
                            · refine zw_ite (fun h184 => ?_) (fun h184 => ?_)
                              · refine zw_ite (fun h185 => ?_) (fun h185 => ?_)
                                · exfalso; omega
                                · refine zw_some ?_
                                  refine zw_ite (fun h186 => ?_) (fun h186 => ?_)
                                  · have r187 : 0 ≤ (m174 a0 49) ∧ (m174 a0 49) ≤ 1 := zi_rd hIm174 hc0 zb_28_49
                                    have e188 : (m174 a0 49) = (mh a0 49) := (zfr_ap hfm174 hc0 rfl)
                                    have r189 : 0 ≤ (m174 a0 48) ∧ (m174 a0 48) ≤ 64 := zi_rd hIm174 hc0 zb_28_48
                                    have e190 : (m174 a0 48) = (mh a0 48) := (zfr_ap hfm174 hc0 rfl)
                                    have r191 : 0 ≤ (m174 a0 47) ∧ (m174 a0 47) ≤ 8 := zi_rd hIm174 hc0 zb_28_47
                                    have e192 : (m174 a0 47) = (mh a0 47) := (zfr_ap hfm174 hc0 rfl)
                                    have r193 : 0 ≤ (m174 a0 7) ∧ (m174 a0 7) ≤ 700 := zi_rd hIm174 hc0 zb_28_7
                                    have e194 : (m174 a0 7) = (mh a0 7) := (zfr_ap hfm174 hc0 rfl)
                                    have r195 : (-2147483648) ≤ (m174 a0 4) ∧ (m174 a0 4) ≤ 2147483647 := zi_rd hIm174 hc0 zb_28_4
                                    have e196 : (m174 a0 4) = (mh a0 4) := (zfr_ap hfm174 hc0 rfl)
                                    have hM : 0 < (k : Int) := by omega
                                    exact ih.2.2 y0 m174 hIm174 hFm174 ⟨by omega, by omega⟩ ⟨by omega, by omega⟩ (by omega) (by omega) (by omega) (by omega) (by omega) (by omega) (by omega) (by omega) hRKNm174 hRNSm174 hRTRm174 hRWDm174 hM
                                  · exfalso; omega
                              · exfalso; omega
                            · exfalso; omega
                          · exfalso; omega
                      · exfalso; omega
                    · exfalso; omega
                  · exfalso; omega
                · exfalso; omega
            · refine zw_some ?_
              refine zw_ite (fun h197 => ?_) (fun h197 => ?_)
              · exfalso; omega
              · refine zw_bd (zw_mono (zk_112 n hImh hc0 ⟨by omega, by omega⟩ (by omega) (by omega) (by omega) hRKNmh) (fun v199 m198 hqm198 => ?_))
                obtain ⟨hIm198, hfm198, hvm198⟩ := hqm198
                have hFm198 := zfr_tr hFmh hfm198 rfl
                obtain ⟨hRKNm198, hvm198⟩ := hvm198
                have hRNSm198 := zR_NS_fr (zdis_fr hfm198 rfl) hRNSmh
                have hRTRm198 := zR_TR_fr (zdis_fr hfm198 rfl) hRTRmh
                have hRWDm198 := zR_WD_fr (zdis_fr hfm198 rfl) hRWDmh
                have g200 := zwt_bd hIm198 hc0
                have s201 := hRNSm198 a0 hc0
                have s202 := hRTRm198 a0 hc0
                have r203 : 0 ≤ (m198 a0 21) ∧ (m198 a0 21) ≤ 64 := zi_rd hIm198 hc0 zb_28_21
                have r204 : 0 ≤ (m198 a0 46) ∧ (m198 a0 46) ≤ 96 := zi_rd hIm198 hc0 zb_28_46
                have r205 : 0 ≤ (m198 a0 45) ∧ (m198 a0 45) ≤ 96 := zi_rd hIm198 hc0 zb_28_45
                refine zw_bd (zw_eq (zu_call_at (zt_T n) (zm_109 n) (zdp_109 n) _ _ _ _ _ rfl (zr_109_0 n _ _ y0 m198)) ?_)
                refine zw_ite (fun h206 => ?_) (fun h206 => ?_)
                · refine zw_ite (fun h207 => ?_) (fun h207 => ?_)
                  · refine zw_ite (fun h208 => ?_) (fun h208 => ?_)
                    · exfalso; omega
                    · refine zw_some ?_
                      refine zw_ite (fun h209 => ?_) (fun h209 => ?_)
                      · exfalso; omega
                      · refine zw_ite (fun h210 => ?_) (fun h210 => ?_)
                        · have r211 : 0 ≤ (m198 a0 49) ∧ (m198 a0 49) ≤ 1 := zi_rd hIm198 hc0 zb_28_49
                          have e212 : (m198 a0 49) = (mh a0 49) := (zfr_ap hfm198 hc0 rfl)
                          have r213 : 0 ≤ (m198 a0 48) ∧ (m198 a0 48) ≤ 64 := zi_rd hIm198 hc0 zb_28_48
                          have e214 : (m198 a0 48) = (mh a0 48) := (zfr_ap hfm198 hc0 rfl)
                          have r215 : 0 ≤ (m198 a0 47) ∧ (m198 a0 47) ≤ 8 := zi_rd hIm198 hc0 zb_28_47
                          have e216 : (m198 a0 47) = (mh a0 47) := (zfr_ap hfm198 hc0 rfl)
                          have r217 : 0 ≤ (m198 a0 7) ∧ (m198 a0 7) ≤ 700 := zi_rd hIm198 hc0 zb_28_7
                          have e218 : (m198 a0 7) = (mh a0 7) := (zfr_ap hfm198 hc0 rfl)
                          have r219 : (-2147483648) ≤ (m198 a0 4) ∧ (m198 a0 4) ≤ 2147483647 := zi_rd hIm198 hc0 zb_28_4
                          have e220 : (m198 a0 4) = (mh a0 4) := (zfr_ap hfm198 hc0 rfl)
                          have hM : 0 < (k : Int) := by omega
                          exact ih.2.2 y0 m198 hIm198 hFm198 ⟨by omega, by omega⟩ ⟨by omega, by omega⟩ (by omega) (by omega) (by omega) (by omega) (by omega) (by omega) (by omega) (by omega) hRKNm198 hRNSm198 hRTRm198 hRWDm198 hM
                        · have w221 := zu_w32_id (z := (m198 a0 45) - 1) (by omega) (by omega)
                          have b222 : 0 ≤ (zu_w32 ((m198 a0 45) - 1)) ∧ (zu_w32 ((m198 a0 45) - 1)) < 96 := by omega
                          refine zw_if b222 ?_
                          have r223 : 0 ≤ (m198 211 (zu_w32 ((m198 a0 45) - 1))) ∧ (m198 211 (zu_w32 ((m198 a0 45) - 1))) ≤ 14 := zi_rd hIm198 zq_211 (zb_120 _)
                          refine zw_bd (zw_eq (zu_call_at (zt_T n) (zm_109 n) (zdp_109 n) _ _ _ _ _ rfl (zr_109_0 n _ _ (m198 211 (zu_w32 ((m198 a0 45) - 1))) m198)) ?_)
                          refine zw_ite (fun h224 => ?_) (fun h224 => ?_)
                          · refine zw_ite (fun h225 => ?_) (fun h225 => ?_)
                            · refine zw_ite (fun h226 => ?_) (fun h226 => ?_)
                              · refine zw_ite (fun h227 => ?_) (fun h227 => ?_)
                                · refine zw_ite (fun h228 => ?_) (fun h228 => ?_)
                                  · refine zw_ite (fun h229 => ?_) (fun h229 => ?_)
                                    · refine zw_some ?_
                                      refine zw_ite (fun h230 => ?_) (fun h230 => ?_)
                                      · have r231 : 0 ≤ (m198 a0 49) ∧ (m198 a0 49) ≤ 1 := zi_rd hIm198 hc0 zb_28_49
                                        have e232 : (m198 a0 49) = (mh a0 49) := (zfr_ap hfm198 hc0 rfl)
                                        have r233 : 0 ≤ (m198 a0 48) ∧ (m198 a0 48) ≤ 64 := zi_rd hIm198 hc0 zb_28_48
                                        have e234 : (m198 a0 48) = (mh a0 48) := (zfr_ap hfm198 hc0 rfl)
                                        have r235 : 0 ≤ (m198 a0 47) ∧ (m198 a0 47) ≤ 8 := zi_rd hIm198 hc0 zb_28_47
                                        have e236 : (m198 a0 47) = (mh a0 47) := (zfr_ap hfm198 hc0 rfl)
                                        have r237 : 0 ≤ (m198 a0 7) ∧ (m198 a0 7) ≤ 700 := zi_rd hIm198 hc0 zb_28_7
                                        have e238 : (m198 a0 7) = (mh a0 7) := (zfr_ap hfm198 hc0 rfl)
                                        have r239 : (-2147483648) ≤ (m198 a0 4) ∧ (m198 a0 4) ≤ 2147483647 := zi_rd hIm198 hc0 zb_28_4
                                        have e240 : (m198 a0 4) = (mh a0 4) := (zfr_ap hfm198 hc0 rfl)
                                        have hM : 0 < (k : Int) := by omega
                                        exact ih.2.2 y0 m198 hIm198 hFm198 ⟨by omega, by omega⟩ ⟨by omega, by omega⟩ (by omega) (by omega) (by omega) (by omega) (by omega) (by omega) (by omega) (by omega) hRKNm198 hRNSm198 hRTRm198 hRWDm198 hM
                                      · exfalso; omega
                                    · refine zw_some ?_
                                      refine zw_ite (fun h241 => ?_) (fun h241 => ?_)
                                      · have r242 : 0 ≤ (m198 a0 49) ∧ (m198 a0 49) ≤ 1 := zi_rd hIm198 hc0 zb_28_49
                                        have e243 : (m198 a0 49) = (mh a0 49) := (zfr_ap hfm198 hc0 rfl)
                                        have r244 : 0 ≤ (m198 a0 48) ∧ (m198 a0 48) ≤ 64 := zi_rd hIm198 hc0 zb_28_48
                                        have e245 : (m198 a0 48) = (mh a0 48) := (zfr_ap hfm198 hc0 rfl)
                                        have r246 : 0 ≤ (m198 a0 47) ∧ (m198 a0 47) ≤ 8 := zi_rd hIm198 hc0 zb_28_47
                                        have e247 : (m198 a0 47) = (mh a0 47) := (zfr_ap hfm198 hc0 rfl)
                                        have r248 : 0 ≤ (m198 a0 7) ∧ (m198 a0 7) ≤ 700 := zi_rd hIm198 hc0 zb_28_7
                                        have e249 : (m198 a0 7) = (mh a0 7) := (zfr_ap hfm198 hc0 rfl)
                                        have r250 : (-2147483648) ≤ (m198 a0 4) ∧ (m198 a0 4) ≤ 2147483647 := zi_rd hIm198 hc0 zb_28_4
                                        have e251 : (m198 a0 4) = (mh a0 4) := (zfr_ap hfm198 hc0 rfl)
                                        have hM : 0 < (k : Int) := by omega
                                        exact ih.2.2 y0 m198 hIm198 hFm198 ⟨by omega, by omega⟩ ⟨by omega, by omega⟩ (by omega) (by omega) (by omega) (by omega) (by omega) (by omega) (by omega) (by omega) hRKNm198 hRNSm198 hRTRm198 hRWDm198 hM
                                      · exfalso; omega
                                  · refine zw_some ?_
                                    refine zw_ite (fun h252 => ?_) (fun h252 => ?_)
                                    · have r253 : 0 ≤ (m198 a0 49) ∧ (m198 a0 49) ≤ 1 := zi_rd hIm198 hc0 zb_28_49
                                      have e254 : (m198 a0 49) = (mh a0 49) := (zfr_ap hfm198 hc0 rfl)
                                      have r255 : 0 ≤ (m198 a0 48) ∧ (m198 a0 48) ≤ 64 := zi_rd hIm198 hc0 zb_28_48
                                      have e256 : (m198 a0 48) = (mh a0 48) := (zfr_ap hfm198 hc0 rfl)
                                      have r257 : 0 ≤ (m198 a0 47) ∧ (m198 a0 47) ≤ 8 := zi_rd hIm198 hc0 zb_28_47
                                      have e258 : (m198 a0 47) = (mh a0 47) := (zfr_ap hfm198 hc0 rfl)
                                      have r259 : 0 ≤ (m198 a0 7) ∧ (m198 a0 7) ≤ 700 := zi_rd hIm198 hc0 zb_28_7
                                      have e260 : (m198 a0 7) = (mh a0 7) := (zfr_ap hfm198 hc0 rfl)
                                      have r261 : (-2147483648) ≤ (m198 a0 4) ∧ (m198 a0 4) ≤ 2147483647 := zi_rd hIm198 hc0 zb_28_4
                                      have e262 : (m198 a0 4) = (mh a0 4) := (zfr_ap hfm198 hc0 rfl)
                                      have hM : 0 < (k : Int) := by omega
                                      exact ih.2.2 y0 m198 hIm198 hFm198 ⟨by omega, by omega⟩ ⟨by omega, by omega⟩ (by omega) (by omega) (by omega) (by omega) (by omega) (by omega) (by omega) (by omega) hRKNm198 hRNSm198 hRTRm198 hRWDm198 hM
                                    · exfalso; omega
                                · refine zw_some ?_
                                  refine zw_ite (fun h263 => ?_) (fun h263 => ?_)
                                  · have r264 : 0 ≤ (m198 a0 49) ∧ (m198 a0 49) ≤ 1 := zi_rd hIm198 hc0 zb_28_49
                                    have e265 : (m198 a0 49) = (mh a0 49) := (zfr_ap hfm198 hc0 rfl)
                                    have r266 : 0 ≤ (m198 a0 48) ∧ (m198 a0 48) ≤ 64 := zi_rd hIm198 hc0 zb_28_48
                                    have e267 : (m198 a0 48) = (mh a0 48) := (zfr_ap hfm198 hc0 rfl)
                                    have r268 : 0 ≤ (m198 a0 47) ∧ (m198 a0 47) ≤ 8 := zi_rd hIm198 hc0 zb_28_47
                                    have e269 : (m198 a0 47) = (mh a0 47) := (zfr_ap hfm198 hc0 rfl)
                                    have r270 : 0 ≤ (m198 a0 7) ∧ (m198 a0 7) ≤ 700 := zi_rd hIm198 hc0 zb_28_7
                                    have e271 : (m198 a0 7) = (mh a0 7) := (zfr_ap hfm198 hc0 rfl)
                                    have r272 : (-2147483648) ≤ (m198 a0 4) ∧ (m198 a0 4) ≤ 2147483647 := zi_rd hIm198 hc0 zb_28_4
                                    have e273 : (m198 a0 4) = (mh a0 4) := (zfr_ap hfm198 hc0 rfl)
                                    have hM : 0 < (k : Int) := by omega
                                    exact ih.2.2 y0 m198 hIm198 hFm198 ⟨by omega, by omega⟩ ⟨by omega, by omega⟩ (by omega) (by omega) (by omega) (by omega) (by omega) (by omega) (by omega) (by omega) hRKNm198 hRNSm198 hRTRm198 hRWDm198 hM
                                  · exfalso; omega
                              · refine zw_some ?_
                                refine zw_ite (fun h274 => ?_) (fun h274 => ?_)
                                · exfalso; omega
                                · refine zw_bd (zw_eq (zu_call_at (zt_T n) (zm_85 n) (zdp_85 n) _ _ _ _ _ rfl (zr_85_0 n _ _ a0 1 m198)) ?_)
                                  generalize hmm275 : zu_up m198 a0 4 1 = m275
                                  have hIm275 := zi_up hmm275 hIm198 hc0 zb_28_4 (by omega) (by omega)
                                  have hFm275 := zfr_up hmm275 hFm198 hc0 rfl
                                  have g276 := zwt_fr (zdis_fr (zfr_up hmm275 (zfr_rf [(28, 5)] _) hc0 rfl) rfl)
                                  have hRKNm275 := zR_KN_fr (zdis_fr (zfr_up hmm275 (zfr_rf [(28, 5)] _) hc0 rfl) rfl) hRKNm198
                                  have hRNSm275 := zR_NS_fr (zdis_fr (zfr_up hmm275 (zfr_rf [(28, 5)] _) hc0 rfl) rfl) hRNSm198
                                  have hRTRm275 := zR_TR_fr (zdis_fr (zfr_up hmm275 (zfr_rf [(28, 5)] _) hc0 rfl) rfl) hRTRm198
                                  have hRWDm275 := zR_WD_fr (zdis_fr (zfr_up hmm275 (zfr_rf [(28, 5)] _) hc0 rfl) rfl) hRWDm198
                                  have hRLRm275 := zLR_wr (zone_190 hc0) hmm275 (by decide)
                                  have r277 : 0 ≤ (m275 a0 10) ∧ (m275 a0 10) ≤ 700 := zi_rd hIm275 hc0 zb_28_10
                                  generalize hmm278 : zu_up m275 a0 5 (m275 a0 10) = m278
                                  have hIm278 := zi_up hmm278 hIm275 hc0 zb_28_5 (by omega) (by omega)
                                  have hFm278 := zfr_up hmm278 hFm275 hc0 rfl
                                  have g279 := zwt_fr (zdis_fr (zfr_up hmm278 (zfr_rf [(28, 6)] _) hc0 rfl) rfl)
                                  have hRKNm278 := zR_KN_fr (zdis_fr (zfr_up hmm278 (zfr_rf [(28, 6)] _) hc0 rfl) rfl) hRKNm275
                                  have hRLRm278 := zR_LR_fr (zdis_fr (zfr_up hmm278 (zfr_rf [(28, 6)] _) hc0 rfl) rfl) hRLRm275
                                  have hRNSm278 := zR_NS_fr (zdis_fr (zfr_up hmm278 (zfr_rf [(28, 6)] _) hc0 rfl) rfl) hRNSm275
                                  have hRTRm278 := zR_TR_fr (zdis_fr (zfr_up hmm278 (zfr_rf [(28, 6)] _) hc0 rfl) rfl) hRTRm275
                                  have hRWDm278 := zR_WD_fr (zdis_fr (zfr_up hmm278 (zfr_rf [(28, 6)] _) hc0 rfl) rfl) hRWDm275
                                  refine zw_b (by omega) ?_
                                  refine zw_some ?_
                                  refine zw_b (by omega) ?_
                                  have r280 : 0 ≤ (m278 a0 7) ∧ (m278 a0 7) ≤ 700 := zi_rd hIm278 hc0 zb_28_7
                                  have e281 : (m278 a0 7) = (mh a0 7) := (Eq.trans (zs_ne hmm278 (Or.inr (by decide))) (Eq.trans (zs_ne hmm275 (Or.inr (by decide))) (zfr_ap hfm198 hc0 rfl)))
                                  have r282 : 0 ≤ (m278 a0 8) ∧ (m278 a0 8) ≤ 6 := zi_rd hIm278 hc0 zb_28_8
                                  have r283 : 0 ≤ (m278 a0 21) ∧ (m278 a0 21) ≤ 64 := zi_rd hIm278 hc0 zb_28_21
                                  have e284 : (m278 a0 21) = (m198 a0 21) := (Eq.trans (zs_ne hmm278 (Or.inr (by decide))) (zs_ne hmm275 (Or.inr (by decide))))
                                  have r285 : 0 ≤ (m278 a0 48) ∧ (m278 a0 48) ≤ 64 := zi_rd hIm278 hc0 zb_28_48
                                  have e286 : (m278 a0 48) = (mh a0 48) := (Eq.trans (zs_ne hmm278 (Or.inr (by decide))) (Eq.trans (zs_ne hmm275 (Or.inr (by decide))) (zfr_ap hfm198 hc0 rfl)))
                                  have r287 : 0 ≤ (m278 a0 46) ∧ (m278 a0 46) ≤ 96 := zi_rd hIm278 hc0 zb_28_46
                                  have e288 : (m278 a0 46) = (m198 a0 46) := (Eq.trans (zs_ne hmm278 (Or.inr (by decide))) (zs_ne hmm275 (Or.inr (by decide))))
                                  have r289 : 0 ≤ (m278 a0 49) ∧ (m278 a0 49) ≤ 1 := zi_rd hIm278 hc0 zb_28_49
                                  have e290 : (m278 a0 49) = (mh a0 49) := (Eq.trans (zs_ne hmm278 (Or.inr (by decide))) (Eq.trans (zs_ne hmm275 (Or.inr (by decide))) (zfr_ap hfm198 hc0 rfl)))
                                  have r291 : 0 ≤ (m278 a0 45) ∧ (m278 a0 45) ≤ 96 := zi_rd hIm278 hc0 zb_28_45
                                  have e292 : (m278 a0 45) = (m198 a0 45) := (Eq.trans (zs_ne hmm278 (Or.inr (by decide))) (zs_ne hmm275 (Or.inr (by decide))))
                                  have r293 : 0 ≤ (m278 a0 47) ∧ (m278 a0 47) ≤ 8 := zi_rd hIm278 hc0 zb_28_47
                                  have e294 : (m278 a0 47) = (mh a0 47) := (Eq.trans (zs_ne hmm278 (Or.inr (by decide))) (Eq.trans (zs_ne hmm275 (Or.inr (by decide))) (zfr_ap hfm198 hc0 rfl)))
                                  have r295 : (-2147483648) ≤ (m278 a0 4) ∧ (m278 a0 4) ≤ 2147483647 := zi_rd hIm278 hc0 zb_28_4
                                  have e296 : (m278 a0 4) = 1 := (Eq.trans (zs_ne hmm278 (Or.inr (by decide))) (zs_eq hmm275))
                                  exact zw_some ⟨hIm278, hFm278, hRKNm278, hRNSm278, hRTRm278, hRWDm278, ⟨by omega, by omega⟩, by omega, by omega, by omega, by omega, by omega, by omega, by omega, by omega⟩
                            · refine zw_some ?_
                              refine zw_ite (fun h297 => ?_) (fun h297 => ?_)
                              · have r298 : 0 ≤ (m198 a0 49) ∧ (m198 a0 49) ≤ 1 := zi_rd hIm198 hc0 zb_28_49
                                have e299 : (m198 a0 49) = (mh a0 49) := (zfr_ap hfm198 hc0 rfl)
                                have r300 : 0 ≤ (m198 a0 48) ∧ (m198 a0 48) ≤ 64 := zi_rd hIm198 hc0 zb_28_48
                                have e301 : (m198 a0 48) = (mh a0 48) := (zfr_ap hfm198 hc0 rfl)
                                have r302 : 0 ≤ (m198 a0 47) ∧ (m198 a0 47) ≤ 8 := zi_rd hIm198 hc0 zb_28_47
                                have e303 : (m198 a0 47) = (mh a0 47) := (zfr_ap hfm198 hc0 rfl)
                                have r304 : 0 ≤ (m198 a0 7) ∧ (m198 a0 7) ≤ 700 := zi_rd hIm198 hc0 zb_28_7
                                have e305 : (m198 a0 7) = (mh a0 7) := (zfr_ap hfm198 hc0 rfl)
                                have r306 : (-2147483648) ≤ (m198 a0 4) ∧ (m198 a0 4) ≤ 2147483647 := zi_rd hIm198 hc0 zb_28_4
                                have e307 : (m198 a0 4) = (mh a0 4) := (zfr_ap hfm198 hc0 rfl)
                                have hM : 0 < (k : Int) := by omega
                                exact ih.2.2 y0 m198 hIm198 hFm198 ⟨by omega, by omega⟩ ⟨by omega, by omega⟩ (by omega) (by omega) (by omega) (by omega) (by omega) (by omega) (by omega) (by omega) hRKNm198 hRNSm198 hRTRm198 hRWDm198 hM
                              · exfalso; omega
                          · refine zw_some ?_
                            refine zw_ite (fun h308 => ?_) (fun h308 => ?_)
                            · have r309 : 0 ≤ (m198 a0 49) ∧ (m198 a0 49) ≤ 1 := zi_rd hIm198 hc0 zb_28_49
                              have e310 : (m198 a0 49) = (mh a0 49) := (zfr_ap hfm198 hc0 rfl)
                              have r311 : 0 ≤ (m198 a0 48) ∧ (m198 a0 48) ≤ 64 := zi_rd hIm198 hc0 zb_28_48
                              have e312 : (m198 a0 48) = (mh a0 48) := (zfr_ap hfm198 hc0 rfl)
                              have r313 : 0 ≤ (m198 a0 47) ∧ (m198 a0 47) ≤ 8 := zi_rd hIm198 hc0 zb_28_47
                              have e314 : (m198 a0 47) = (mh a0 47) := (zfr_ap hfm198 hc0 rfl)
                              have r315 : 0 ≤ (m198 a0 7) ∧ (m198 a0 7) ≤ 700 := zi_rd hIm198 hc0 zb_28_7
                              have e316 : (m198 a0 7) = (mh a0 7) := (zfr_ap hfm198 hc0 rfl)
                              have r317 : (-2147483648) ≤ (m198 a0 4) ∧ (m198 a0 4) ≤ 2147483647 := zi_rd hIm198 hc0 zb_28_4
                              have e318 : (m198 a0 4) = (mh a0 4) := (zfr_ap hfm198 hc0 rfl)
                              have hM : 0 < (k : Int) := by omega
                              exact ih.2.2 y0 m198 hIm198 hFm198 ⟨by omega, by omega⟩ ⟨by omega, by omega⟩ (by omega) (by omega) (by omega) (by omega) (by omega) (by omega) (by omega) (by omega) hRKNm198 hRNSm198 hRTRm198 hRWDm198 hM
                            · exfalso; omega
                  · exfalso; omega
                · exfalso; omega
          · refine zw_some ?_
            refine zw_ite (fun h319 => ?_) (fun h319 => ?_)
            · refine zw_bd (zw_eq (zu_call_at (zt_T n) (zm_109 n) (zdp_109 n) _ _ _ _ _ rfl (zr_109_0 n _ _ y0 mh)) ?_)
              refine zw_ite (fun h320 => ?_) (fun h320 => ?_)
              · refine zw_ite (fun h321 => ?_) (fun h321 => ?_)
                · exfalso; omega
                · refine zw_some ?_
                  refine zw_bd (zw_mono (zk_112 n hImh hc0 ⟨by omega, by omega⟩ (by omega) (by omega) (by omega) hRKNmh) (fun v323 m322 hqm322 => ?_))
                  obtain ⟨hIm322, hfm322, hvm322⟩ := hqm322
                  have hFm322 := zfr_tr hFmh hfm322 rfl
                  obtain ⟨hRKNm322, hvm322⟩ := hvm322
                  have hRNSm322 := zR_NS_fr (zdis_fr hfm322 rfl) hRNSmh
                  have hRTRm322 := zR_TR_fr (zdis_fr hfm322 rfl) hRTRmh
                  have hRWDm322 := zR_WD_fr (zdis_fr hfm322 rfl) hRWDmh
                  have g324 := zwt_bd hIm322 hc0
                  have s325 := hRNSm322 a0 hc0
                  have s326 := hRTRm322 a0 hc0
                  have r327 : 0 ≤ (m322 a0 21) ∧ (m322 a0 21) ≤ 64 := zi_rd hIm322 hc0 zb_28_21
                  have r328 : 0 ≤ (m322 a0 46) ∧ (m322 a0 46) ≤ 96 := zi_rd hIm322 hc0 zb_28_46
                  have r329 : 0 ≤ (m322 a0 45) ∧ (m322 a0 45) ≤ 96 := zi_rd hIm322 hc0 zb_28_45
                  refine zw_bd (zw_eq (zu_call_at (zt_T n) (zm_109 n) (zdp_109 n) _ _ _ _ _ rfl (zr_109_0 n _ _ y0 m322)) ?_)
                  refine zw_ite (fun h330 => ?_) (fun h330 => ?_)
                  · refine zw_ite (fun h331 => ?_) (fun h331 => ?_)
                    · exfalso; omega
                    · refine zw_some ?_
                      refine zw_ite (fun h332 => ?_) (fun h332 => ?_)
                      · have r333 : 0 ≤ (m322 a0 49) ∧ (m322 a0 49) ≤ 1 := zi_rd hIm322 hc0 zb_28_49
                        have e334 : (m322 a0 49) = (mh a0 49) := (zfr_ap hfm322 hc0 rfl)
                        have r335 : 0 ≤ (m322 a0 48) ∧ (m322 a0 48) ≤ 64 := zi_rd hIm322 hc0 zb_28_48
                        have e336 : (m322 a0 48) = (mh a0 48) := (zfr_ap hfm322 hc0 rfl)
                        have r337 : 0 ≤ (m322 a0 47) ∧ (m322 a0 47) ≤ 8 := zi_rd hIm322 hc0 zb_28_47
                        have e338 : (m322 a0 47) = (mh a0 47) := (zfr_ap hfm322 hc0 rfl)
                        have r339 : 0 ≤ (m322 a0 7) ∧ (m322 a0 7) ≤ 700 := zi_rd hIm322 hc0 zb_28_7
                        have e340 : (m322 a0 7) = (mh a0 7) := (zfr_ap hfm322 hc0 rfl)
                        have r341 : (-2147483648) ≤ (m322 a0 4) ∧ (m322 a0 4) ≤ 2147483647 := zi_rd hIm322 hc0 zb_28_4
                        have e342 : (m322 a0 4) = (mh a0 4) := (zfr_ap hfm322 hc0 rfl)
                        have hM : 0 < (k : Int) := by omega
                        exact ih.2.2 y0 m322 hIm322 hFm322 ⟨by omega, by omega⟩ ⟨by omega, by omega⟩ (by omega) (by omega) (by omega) (by omega) (by omega) (by omega) (by omega) (by omega) hRKNm322 hRNSm322 hRTRm322 hRWDm322 hM
                      · exfalso; omega
                  · exfalso; omega
              · exfalso; omega
            · exfalso; omega
        · refine zw_some ?_
          refine zw_ite (fun h343 => ?_) (fun h343 => ?_)
          · refine zw_bd (zw_eq (zu_call_at (zt_T n) (zm_109 n) (zdp_109 n) _ _ _ _ _ rfl (zr_109_0 n _ _ y0 mh)) ?_)
            refine zw_ite (fun h344 => ?_) (fun h344 => ?_)
            · exfalso; omega
            · refine zw_some ?_
              refine zw_bd (zw_mono (zk_112 n hImh hc0 ⟨by omega, by omega⟩ (by omega) (by omega) (by omega) hRKNmh) (fun v346 m345 hqm345 => ?_))
              obtain ⟨hIm345, hfm345, hvm345⟩ := hqm345
              have hFm345 := zfr_tr hFmh hfm345 rfl
              obtain ⟨hRKNm345, hvm345⟩ := hvm345
              have hRNSm345 := zR_NS_fr (zdis_fr hfm345 rfl) hRNSmh
              have hRTRm345 := zR_TR_fr (zdis_fr hfm345 rfl) hRTRmh
              have hRWDm345 := zR_WD_fr (zdis_fr hfm345 rfl) hRWDmh
              have g347 := zwt_bd hIm345 hc0
              have s348 := hRNSm345 a0 hc0
              have s349 := hRTRm345 a0 hc0
              have r350 : 0 ≤ (m345 a0 21) ∧ (m345 a0 21) ≤ 64 := zi_rd hIm345 hc0 zb_28_21
              have r351 : 0 ≤ (m345 a0 46) ∧ (m345 a0 46) ≤ 96 := zi_rd hIm345 hc0 zb_28_46
              have r352 : 0 ≤ (m345 a0 45) ∧ (m345 a0 45) ≤ 96 := zi_rd hIm345 hc0 zb_28_45
              refine zw_bd (zw_eq (zu_call_at (zt_T n) (zm_109 n) (zdp_109 n) _ _ _ _ _ rfl (zr_109_0 n _ _ y0 m345)) ?_)
              refine zw_ite (fun h353 => ?_) (fun h353 => ?_)
              · exfalso; omega
              · refine zw_some ?_
                refine zw_ite (fun h354 => ?_) (fun h354 => ?_)
                · have r355 : 0 ≤ (m345 a0 49) ∧ (m345 a0 49) ≤ 1 := zi_rd hIm345 hc0 zb_28_49
                  have e356 : (m345 a0 49) = (mh a0 49) := (zfr_ap hfm345 hc0 rfl)
                  have r357 : 0 ≤ (m345 a0 48) ∧ (m345 a0 48) ≤ 64 := zi_rd hIm345 hc0 zb_28_48
                  have e358 : (m345 a0 48) = (mh a0 48) := (zfr_ap hfm345 hc0 rfl)
                  have r359 : 0 ≤ (m345 a0 47) ∧ (m345 a0 47) ≤ 8 := zi_rd hIm345 hc0 zb_28_47
                  have e360 : (m345 a0 47) = (mh a0 47) := (zfr_ap hfm345 hc0 rfl)
                  have r361 : 0 ≤ (m345 a0 7) ∧ (m345 a0 7) ≤ 700 := zi_rd hIm345 hc0 zb_28_7
                  have e362 : (m345 a0 7) = (mh a0 7) := (zfr_ap hfm345 hc0 rfl)
                  have r363 : (-2147483648) ≤ (m345 a0 4) ∧ (m345 a0 4) ≤ 2147483647 := zi_rd hIm345 hc0 zb_28_4
                  have e364 : (m345 a0 4) = (mh a0 4) := (zfr_ap hfm345 hc0 rfl)
                  have hM : 0 < (k : Int) := by omega
                  exact ih.2.2 y0 m345 hIm345 hFm345 ⟨by omega, by omega⟩ ⟨by omega, by omega⟩ (by omega) (by omega) (by omega) (by omega) (by omega) (by omega) (by omega) (by omega) hRKNm345 hRNSm345 hRTRm345 hRWDm345 hM
                · exfalso; omega
          · exfalso; omega
      · refine zw_bd (zw_eq (zu_call_at (zt_T n) (zm_85 n) (zdp_85 n) _ _ _ _ _ rfl (zr_85_0 n _ _ a0 1 mh)) ?_)
        generalize hmm365 : zu_up mh a0 4 1 = m365
        have hIm365 := zi_up hmm365 hImh hc0 zb_28_4 (by omega) (by omega)
        have hFm365 := zfr_up hmm365 hFmh hc0 rfl
        have g366 := zwt_fr (zdis_fr (zfr_up hmm365 (zfr_rf [(28, 5)] _) hc0 rfl) rfl)
        have hRKNm365 := zR_KN_fr (zdis_fr (zfr_up hmm365 (zfr_rf [(28, 5)] _) hc0 rfl) rfl) hRKNmh
        have hRNSm365 := zR_NS_fr (zdis_fr (zfr_up hmm365 (zfr_rf [(28, 5)] _) hc0 rfl) rfl) hRNSmh
        have hRTRm365 := zR_TR_fr (zdis_fr (zfr_up hmm365 (zfr_rf [(28, 5)] _) hc0 rfl) rfl) hRTRmh
        have hRWDm365 := zR_WD_fr (zdis_fr (zfr_up hmm365 (zfr_rf [(28, 5)] _) hc0 rfl) rfl) hRWDmh
        have hRLRm365 := zLR_wr (zone_190 hc0) hmm365 (by decide)
        have r367 : 0 ≤ (m365 a0 10) ∧ (m365 a0 10) ≤ 700 := zi_rd hIm365 hc0 zb_28_10
        generalize hmm368 : zu_up m365 a0 5 (m365 a0 10) = m368
        have hIm368 := zi_up hmm368 hIm365 hc0 zb_28_5 (by omega) (by omega)
        have hFm368 := zfr_up hmm368 hFm365 hc0 rfl
        have g369 := zwt_fr (zdis_fr (zfr_up hmm368 (zfr_rf [(28, 6)] _) hc0 rfl) rfl)
        have hRKNm368 := zR_KN_fr (zdis_fr (zfr_up hmm368 (zfr_rf [(28, 6)] _) hc0 rfl) rfl) hRKNm365
        have hRLRm368 := zR_LR_fr (zdis_fr (zfr_up hmm368 (zfr_rf [(28, 6)] _) hc0 rfl) rfl) hRLRm365
        have hRNSm368 := zR_NS_fr (zdis_fr (zfr_up hmm368 (zfr_rf [(28, 6)] _) hc0 rfl) rfl) hRNSm365
        have hRTRm368 := zR_TR_fr (zdis_fr (zfr_up hmm368 (zfr_rf [(28, 6)] _) hc0 rfl) rfl) hRTRm365
        have hRWDm368 := zR_WD_fr (zdis_fr (zfr_up hmm368 (zfr_rf [(28, 6)] _) hc0 rfl) rfl) hRWDm365
        refine zw_b (by omega) ?_
        refine zw_some ?_
        refine zw_b (by omega) ?_
        have r370 : 0 ≤ (m368 a0 7) ∧ (m368 a0 7) ≤ 700 := zi_rd hIm368 hc0 zb_28_7
        have e371 : (m368 a0 7) = (mh a0 7) := (Eq.trans (zs_ne hmm368 (Or.inr (by decide))) (zs_ne hmm365 (Or.inr (by decide))))
        have r372 : 0 ≤ (m368 a0 8) ∧ (m368 a0 8) ≤ 6 := zi_rd hIm368 hc0 zb_28_8
        have r373 : 0 ≤ (m368 a0 21) ∧ (m368 a0 21) ≤ 64 := zi_rd hIm368 hc0 zb_28_21
        have e374 : (m368 a0 21) = (mh a0 21) := (Eq.trans (zs_ne hmm368 (Or.inr (by decide))) (zs_ne hmm365 (Or.inr (by decide))))
        have r375 : 0 ≤ (m368 a0 48) ∧ (m368 a0 48) ≤ 64 := zi_rd hIm368 hc0 zb_28_48
        have e376 : (m368 a0 48) = (mh a0 48) := (Eq.trans (zs_ne hmm368 (Or.inr (by decide))) (zs_ne hmm365 (Or.inr (by decide))))
        have r377 : 0 ≤ (m368 a0 46) ∧ (m368 a0 46) ≤ 96 := zi_rd hIm368 hc0 zb_28_46
        have e378 : (m368 a0 46) = (mh a0 46) := (Eq.trans (zs_ne hmm368 (Or.inr (by decide))) (zs_ne hmm365 (Or.inr (by decide))))
        have r379 : 0 ≤ (m368 a0 49) ∧ (m368 a0 49) ≤ 1 := zi_rd hIm368 hc0 zb_28_49
        have e380 : (m368 a0 49) = (mh a0 49) := (Eq.trans (zs_ne hmm368 (Or.inr (by decide))) (zs_ne hmm365 (Or.inr (by decide))))
        have r381 : 0 ≤ (m368 a0 45) ∧ (m368 a0 45) ≤ 96 := zi_rd hIm368 hc0 zb_28_45
        have e382 : (m368 a0 45) = (mh a0 45) := (Eq.trans (zs_ne hmm368 (Or.inr (by decide))) (zs_ne hmm365 (Or.inr (by decide))))
        have r383 : 0 ≤ (m368 a0 47) ∧ (m368 a0 47) ≤ 8 := zi_rd hIm368 hc0 zb_28_47
        have e384 : (m368 a0 47) = (mh a0 47) := (Eq.trans (zs_ne hmm368 (Or.inr (by decide))) (zs_ne hmm365 (Or.inr (by decide))))
        have r385 : (-2147483648) ≤ (m368 a0 4) ∧ (m368 a0 4) ≤ 2147483647 := zi_rd hIm368 hc0 zb_28_4
        have e386 : (m368 a0 4) = 1 := (Eq.trans (zs_ne hmm368 (Or.inr (by decide))) (zs_eq hmm365))
        exact zw_some ⟨hIm368, hFm368, hRKNm368, hRNSm368, hRTRm368, hRWDm368, ⟨by omega, by omega⟩, by omega, by omega, by omega, by omega, by omega, by omega, by omega, by omega⟩
set_option maxHeartbeats 4000000 in
theorem zl_117H2 (n : Nat) {a0 : Int} {m0 : zu_m} (hc0 : zcls a0 = 28)  (hxp0 : (m0 a0 21) + znz m0 = (m0 a0 48)) (hxp1 : (m0 a0 45) = znz m0 + (m0 a0 47)) (hxp2 : (m0 a0 46) = zbi m0 + 1) (hxp3 : (m0 a0 49) = 0) (hxp4 : 1 ≤ (m0 a0 21)) (k : Nat) (ih : (∀ (mh : zu_m), zi_I mh → zfr [(28, 5), (28, 6), (28, 8), (28, 9), (28, 10), (28, 11), (28, 22), (28, 46), (28, 47), (28, 48), (28, 49), (28, 50), (28, 51), (117, 0), (118, 0), (119, 0), (120, 0), (121, 0)] m0 mh → (0 ≤ mh a0 49 ∧ mh a0 49 ≤ 0) → ((mh a0 21) + znz mh = (mh a0 48)) → ((mh a0 45) = znz mh + (mh a0 47)) → ((mh a0 46) = zbi mh + 1) → (1 ≤ (mh a0 21)) → ((mh a0 7) = (m0 a0 7)) → ((mh a0 8) = (m0 a0 8)) → ((mh a0 4) = (m0 a0 4)) → (zR_KN mh) → (zR_NS mh) → (zR_TR mh) → (zR_WD mh) → 2 < (k : Int) → zw (zu_ex (zt_T n) 117 47 [(40, a0), (2, 0)] [] mh) (fun v m => zi_I m ∧ zfr [(28, 5), (28, 6), (28, 8), (28, 9), (28, 10), (28, 11), (28, 22), (28, 46), (28, 47), (28, 48), (28, 49), (28, 50), (28, 51), (117, 0), (118, 0), (119, 0), (120, 0), (121, 0)] m0 m ∧ zR_KN m ∧ zR_NS m ∧ zR_TR m ∧ zR_WD m ∧ (0 ≤ v ∧ v ≤ 1) ∧ ((m0 a0 7) ≤ (m a0 7)) ∧ (v = 1 → ((m0 a0 8) ≠ 0 ∧ ((m a0 8) = 0 ∨ (m0 a0 7) < (m a0 7)))) ∧ (v = 1 → (m a0 21) + znz m = (m a0 48)) ∧ (v = 1 → (m a0 46) + (m a0 49) = zbi m + 1) ∧ (v = 1 → (m a0 45) = znz m + (m a0 47)) ∧ (v = 1 → ((m a0 49) = 0 → 1 ≤ (m a0 21))) ∧ (v = 1 → (m a0 4) = (m0 a0 4)) ∧ (v = 0 → (m a0 4) ≠ 0))) ∧ (∀ (y0 : Int) (mh : zu_m), zi_I mh → zfr [(28, 5), (28, 6), (28, 8), (28, 9), (28, 10), (28, 11), (28, 22), (28, 46), (28, 47), (28, 48), (28, 49), (28, 50), (28, 51), (117, 0), (118, 0), (119, 0), (120, 0), (121, 0)] m0 mh → (0 ≤ y0 ∧ y0 ≤ 14) → (0 ≤ mh a0 49 ∧ mh a0 49 ≤ 0) → ((mh a0 21) + znz mh = (mh a0 48)) → ((mh a0 45) = znz mh + (mh a0 47)) → ((mh a0 46) = zbi mh + 1) → (1 ≤ (mh a0 21)) → ((mh a0 7) = (m0 a0 7)) → (y0 ≠ 0 → (m0 a0 8) ≠ 0) → (y0 = 0 ∨ 3 ≤ y0) → ((mh a0 4) = (m0 a0 4)) → (zR_KN mh) → (zR_NS mh) → (zR_TR mh) → (zR_WD mh) → 1 < (k : Int) → zw (zu_ex (zt_T n) 117 147 [(40, a0), (2, 0)] [(0, y0)] mh) (fun v m => zi_I m ∧ zfr [(28, 5), (28, 6), (28, 8), (28, 9), (28, 10), (28, 11), (28, 22), (28, 46), (28, 47), (28, 48), (28, 49), (28, 50), (28, 51), (117, 0), (118, 0), (119, 0), (120, 0), (121, 0)] m0 m ∧ zR_KN m ∧ zR_NS m ∧ zR_TR m ∧ zR_WD m ∧ (0 ≤ v ∧ v ≤ 1) ∧ ((m0 a0 7) ≤ (m a0 7)) ∧ (v = 1 → ((m0 a0 8) ≠ 0 ∧ ((m a0 8) = 0 ∨ (m0 a0 7) < (m a0 7)))) ∧ (v = 1 → (m a0 21) + znz m = (m a0 48)) ∧ (v = 1 → (m a0 46) + (m a0 49) = zbi m + 1) ∧ (v = 1 → (m a0 45) = znz m + (m a0 47)) ∧ (v = 1 → ((m a0 49) = 0 → 1 ≤ (m a0 21))) ∧ (v = 1 → (m a0 4) = (m0 a0 4)) ∧ (v = 0 → (m a0 4) ≠ 0))) ∧ (∀ (x1 : Int) (mh : zu_m), zi_I mh → zfr [(28, 5), (28, 6), (28, 8), (28, 9), (28, 10), (28, 11), (28, 22), (28, 46), (28, 47), (28, 48), (28, 49), (28, 50), (28, 51), (117, 0), (118, 0), (119, 0), (120, 0), (121, 0)] m0 mh → (1 ≤ x1 ∧ x1 ≤ 14) → (0 ≤ mh a0 49 ∧ mh a0 49 ≤ 0) → ((mh a0 21) + znz mh = (mh a0 48)) → ((mh a0 45) = znz mh + (mh a0 47)) → ((mh a0 46) = zbi mh + 1) → (1 ≤ (mh a0 21)) → ((mh a0 7) = (m0 a0 7)) → ((m0 a0 8) ≠ 0) → (3 ≤ x1) → ((mh a0 4) = (m0 a0 4)) → (zR_KN mh) → (zR_NS mh) → (zR_TR mh) → (zR_WD mh) → 0 < (k : Int) → zw (zu_ex (zt_T n) 117 217 [(40, a0), (0, x1)] [] mh) (fun v m => zi_I m ∧ zfr [(28, 5), (28, 6), (28, 8), (28, 9), (28, 10), (28, 11), (28, 22), (28, 46), (28, 47), (28, 48), (28, 49), (28, 50), (28, 51), (117, 0), (118, 0), (119, 0), (120, 0), (121, 0)] m0 m ∧ zR_KN m ∧ zR_NS m ∧ zR_TR m ∧ zR_WD m ∧ (0 ≤ v ∧ v ≤ 1) ∧ ((m0 a0 7) ≤ (m a0 7)) ∧ (v = 1 → ((m0 a0 8) ≠ 0 ∧ ((m a0 8) = 0 ∨ (m0 a0 7) < (m a0 7)))) ∧ (v = 1 → (m a0 21) + znz m = (m a0 48)) ∧ (v = 1 → (m a0 46) + (m a0 49) = zbi m + 1) ∧ (v = 1 → (m a0 45) = znz m + (m a0 47)) ∧ (v = 1 → ((m a0 49) = 0 → 1 ≤ (m a0 21))) ∧ (v = 1 → (m a0 4) = (m0 a0 4)) ∧ (v = 0 → (m a0 4) ≠ 0)))) : (∀ (x1 : Int) (mh : zu_m), zi_I mh → zfr [(28, 5), (28, 6), (28, 8), (28, 9), (28, 10), (28, 11), (28, 22), (28, 46), (28, 47), (28, 48), (28, 49), (28, 50), (28, 51), (117, 0), (118, 0), (119, 0), (120, 0), (121, 0)] m0 mh → (1 ≤ x1 ∧ x1 ≤ 14) → (0 ≤ mh a0 49 ∧ mh a0 49 ≤ 0) → ((mh a0 21) + znz mh = (mh a0 48)) → ((mh a0 45) = znz mh + (mh a0 47)) → ((mh a0 46) = zbi mh + 1) → (1 ≤ (mh a0 21)) → ((mh a0 7) = (m0 a0 7)) → ((m0 a0 8) ≠ 0) → (3 ≤ x1) → ((mh a0 4) = (m0 a0 4)) → (zR_KN mh) → (zR_NS mh) → (zR_TR mh) → (zR_WD mh) → 0 < ((k + 1 : Nat) : Int) → zw (zu_ex (zt_T n) 117 217 [(40, a0), (0, x1)] [] mh) (fun v m => zi_I m ∧ zfr [(28, 5), (28, 6), (28, 8), (28, 9), (28, 10), (28, 11), (28, 22), (28, 46), (28, 47), (28, 48), (28, 49), (28, 50), (28, 51), (117, 0), (118, 0), (119, 0), (120, 0), (121, 0)] m0 m ∧ zR_KN m ∧ zR_NS m ∧ zR_TR m ∧ zR_WD m ∧ (0 ≤ v ∧ v ≤ 1) ∧ ((m0 a0 7) ≤ (m a0 7)) ∧ (v = 1 → ((m0 a0 8) ≠ 0 ∧ ((m a0 8) = 0 ∨ (m0 a0 7) < (m a0 7)))) ∧ (v = 1 → (m a0 21) + znz m = (m a0 48)) ∧ (v = 1 → (m a0 46) + (m a0 49) = zbi m + 1) ∧ (v = 1 → (m a0 45) = znz m + (m a0 47)) ∧ (v = 1 → ((m a0 49) = 0 → 1 ≤ (m a0 21))) ∧ (v = 1 → (m a0 4) = (m0 a0 4)) ∧ (v = 0 → (m a0 4) ≠ 0))) := by
      intro x1 mh hImh hFmh hbx1 hg1 hH0 hH1 hH2 hH3 hH4 hH5 hH6 hH7 hRKNmh hRNSmh hRTRmh hRWDmh hM
      refine zw_eq (zu_rega_at (zt_T n) (zm_117 n) (zdp_117 n) _ _ _ _ _ _ (zr_117_217 n _ _ a0 x1 mh)) ?_
      have r387 : 0 ≤ (mh a0 21) ∧ (mh a0 21) ≤ 64 := zi_rd hImh hc0 zb_28_21
      have r388 : 0 ≤ (mh a0 48) ∧ (mh a0 48) ≤ 64 := zi_rd hImh hc0 zb_28_48
      have r389 : 0 ≤ (mh a0 45) ∧ (mh a0 45) ≤ 96 := zi_rd hImh hc0 zb_28_45
      have r390 : 0 ≤ (mh a0 47) ∧ (mh a0 47) ≤ 8 := zi_rd hImh hc0 zb_28_47
      have r391 : 0 ≤ (mh a0 46) ∧ (mh a0 46) ≤ 96 := zi_rd hImh hc0 zb_28_46
      have r392 : 0 ≤ (mh a0 7) ∧ (mh a0 7) ≤ 700 := zi_rd hImh hc0 zb_28_7
      have r393 : (-2147483648) ≤ (mh a0 4) ∧ (mh a0 4) ≤ 2147483647 := zi_rd hImh hc0 zb_28_4
      have g394 := zwt_bd hImh hc0
      have s395 := hRNSmh a0 hc0
      have s396 := hRTRmh a0 hc0
      refine zw_bd (zw_eq (zu_call_at (zt_T n) (zm_113 n) (zdp_113 n) _ _ _ _ _ rfl (zr_113_0 n _ _ a0 mh)) ?_)
      refine zw_ite (fun h397 => ?_) (fun h397 => ?_)
      · have w398 := zu_w32_id (z := (mh a0 48) + 1) (by omega) (by omega)
        generalize hmm399 : zu_up mh a0 48 (zu_w32 ((mh a0 48) + 1)) = m399
        have hIm399 := zi_up hmm399 hImh hc0 zb_28_48 (by omega) (by omega)
        have hFm399 := zfr_up hmm399 hFmh hc0 rfl
        have g400 := zwt_fr (zdis_fr (zfr_up hmm399 (zfr_rf [(28, 49)] _) hc0 rfl) rfl)
        have hRKNm399 := zR_KN_fr (zdis_fr (zfr_up hmm399 (zfr_rf [(28, 49)] _) hc0 rfl) rfl) hRKNmh
        have hRNSm399 := zR_NS_fr (zdis_fr (zfr_up hmm399 (zfr_rf [(28, 49)] _) hc0 rfl) rfl) hRNSmh
        have hRTRm399 := zR_TR_fr (zdis_fr (zfr_up hmm399 (zfr_rf [(28, 49)] _) hc0 rfl) rfl) hRTRmh
        have hRWDm399 := zR_WD_fr (zdis_fr (zfr_up hmm399 (zfr_rf [(28, 49)] _) hc0 rfl) rfl) hRWDmh
        refine zw_b (by omega) ?_
        refine zw_some ?_
        refine zw_ite (fun h401 => ?_) (fun h401 => ?_)
        · refine zw_bd (zw_eq (zu_call_at (zt_T n) (zm_114 n) (zdp_114 n) _ _ _ _ _ rfl (zr_114_0 n _ _ a0 x1 m399)) ?_)
          have r402 : 0 ≤ (m399 a0 45) ∧ (m399 a0 45) ≤ 96 := zi_rd hIm399 hc0 zb_28_45
          have e403 : (m399 a0 45) = (mh a0 45) := (zs_ne hmm399 (Or.inr (by decide)))
          have b404 : 0 ≤ (m399 a0 45) ∧ (m399 a0 45) < 96 := by omega
          refine zw_if b404 ?_
          generalize hmm405 : zu_up m399 211 (m399 a0 45) x1 = m405
          have hIm405 := zi_up hmm405 hIm399 zq_211 (zb_120 _) (by omega) (by omega)
          have hFm405 := zfr_up hmm405 hFm399 zq_211 rfl
          have hRKNm405 := zR_KN_fr (zdis_fr (zfr_up hmm405 (zfr_rf [(120, 0)] _) zq_211 rfl) rfl) hRKNm399
          have hRNSm405 := zR_NS_fr (zdis_fr (zfr_up hmm405 (zfr_rf [(120, 0)] _) zq_211 rfl) rfl) hRNSm399
          have hRTRm405 := zR_TR_fr (zdis_fr (zfr_up hmm405 (zfr_rf [(120, 0)] _) zq_211 rfl) rfl) hRTRm399
          have hRWDm405 := zR_WD_fr (zdis_fr (zfr_up hmm405 (zfr_rf [(120, 0)] _) zq_211 rfl) rfl) hRWDm399
          have r406 : 0 ≤ (m405 a0 45) ∧ (m405 a0 45) ≤ 96 := zi_rd hIm405 hc0 zb_28_45
          have e407 : (m405 a0 45) = (m399 a0 45) := (zs_ne hmm405 (Or.inl (zc_ne hc0 zq_211 (by decide))))
          have w408 := zu_w32_id (z := (m405 a0 45) + 1) (by omega) (by omega)
          generalize hmm409 : zu_up m405 a0 45 (zu_w32 ((m405 a0 45) + 1)) = m409
          have hIm409 := zi_up hmm409 hIm405 hc0 zb_28_45 (by omega) (by omega)
          have hFm409 := zfr_up hmm409 hFm405 hc0 rfl
          have hRKNm409 := zR_KN_fr (zdis_fr (zfr_up hmm409 (zfr_rf [(28, 46)] _) hc0 rfl) rfl) hRKNm405
          have hRNSm409 := zR_NS_fr (zdis_fr (zfr_up hmm409 (zfr_rf [(28, 46)] _) hc0 rfl) rfl) hRNSm405
          have hRTRm409 := zR_TR_fr (zdis_fr (zfr_up hmm409 (zfr_rf [(28, 46)] _) hc0 rfl) rfl) hRTRm405
          have hRWDm409 := zR_WD_fr (zdis_fr (zfr_up hmm409 (zfr_rf [(28, 46)] _) hc0 rfl) rfl) hRWDm405
          have g410 := zwt_push hmm405 hmm409 hc0 (by omega) (by omega) (by omega)
          have g411 := zwt_bd hIm409 hc0
          refine zw_some ?_
          refine zw_b (by omega) ?_
          generalize hmm412 : zu_up m409 a0 49 1 = m412
          have hIm412 := zi_up hmm412 hIm409 hc0 zb_28_49 (by omega) (by omega)
          have hFm412 := zfr_up hmm412 hFm409 hc0 rfl
          have g413 := zwt_fr (zdis_fr (zfr_up hmm412 (zfr_rf [(28, 50)] _) hc0 rfl) rfl)
          have hRKNm412 := zR_KN_fr (zdis_fr (zfr_up hmm412 (zfr_rf [(28, 50)] _) hc0 rfl) rfl) hRKNm409
          have hRNSm412 := zR_NS_fr (zdis_fr (zfr_up hmm412 (zfr_rf [(28, 50)] _) hc0 rfl) rfl) hRNSm409
          have hRTRm412 := zR_TR_fr (zdis_fr (zfr_up hmm412 (zfr_rf [(28, 50)] _) hc0 rfl) rfl) hRTRm409
          have hRWDm412 := zR_WD_fr (zdis_fr (zfr_up hmm412 (zfr_rf [(28, 50)] _) hc0 rfl) rfl) hRWDm409
          refine zw_bd (zw_eq (zu_call_at (zt_T n) (zm_109 n) (zdp_109 n) _ _ _ _ _ rfl (zr_109_0 n _ _ x1 m412)) ?_)
          refine zw_ite (fun h414 => ?_) (fun h414 => ?_)
          · refine zw_ite (fun h415 => ?_) (fun h415 => ?_)
            · refine zw_ite (fun h416 => ?_) (fun h416 => ?_)
              · refine zw_ite (fun h417 => ?_) (fun h417 => ?_)
                · refine zw_ite (fun h418 => ?_) (fun h418 => ?_)
                  · refine zw_ite (fun h419 => ?_) (fun h419 => ?_)
                    · refine zw_some ?_
                      refine zw_ite (fun h420 => ?_) (fun h420 => ?_)
                      · exfalso; omega
                      · refine zw_b (by omega) ?_
                        generalize hmm421 : zu_up m412 a0 50 1 = m421
                        have hIm421 := zi_up hmm421 hIm412 hc0 zb_28_50 (by omega) (by omega)
                        have hFm421 := zfr_up hmm421 hFm412 hc0 rfl
                        have g422 := zwt_fr (zdis_fr (zfr_up hmm421 (zfr_rf [(28, 51)] _) hc0 rfl) rfl)
                        have hRKNm421 := zR_KN_fr (zdis_fr (zfr_up hmm421 (zfr_rf [(28, 51)] _) hc0 rfl) rfl) hRKNm412
                        have hRNSm421 := zR_NS_fr (zdis_fr (zfr_up hmm421 (zfr_rf [(28, 51)] _) hc0 rfl) rfl) hRNSm412
                        have hRTRm421 := zR_TR_fr (zdis_fr (zfr_up hmm421 (zfr_rf [(28, 51)] _) hc0 rfl) rfl) hRTRm412
                        have hRWDm421 := zR_WD_fr (zdis_fr (zfr_up hmm421 (zfr_rf [(28, 51)] _) hc0 rfl) rfl) hRWDm412
                        have r425 : 0 ≤ (m421 a0 7) ∧ (m421 a0 7) ≤ 700 := zi_rd hIm421 hc0 zb_28_7
                        have e426 : (m421 a0 7) = (mh a0 7) := (Eq.trans (zs_ne hmm421 (Or.inr (by decide))) (Eq.trans (zs_ne hmm412 (Or.inr (by decide))) (Eq.trans (zs_ne hmm409 (Or.inr (by decide))) (Eq.trans (zs_ne hmm405 (Or.inl (zc_ne hc0 zq_211 (by decide)))) (zs_ne hmm399 (Or.inr (by decide)))))))
                        refine zw_bd (zw_mono (zk_89 n hIm421 hc0 hRNSm421 hRWDm421) (fun v424 m423 hqm423 => ?_))
                        obtain ⟨hIm423, hfm423, hvm423⟩ := hqm423
                        have hFm423 := zfr_tr hFm421 hfm423 rfl
                        obtain ⟨hRNSm423, hRTRm423, hRWDm423, hvm423⟩ := hvm423
                        have g427 := zwt_fr (zdis_fr hfm423 rfl)
                        have hRKNm423 := zR_KN_fr (zdis_fr hfm423 rfl) hRKNm421
                        have g428 := zwt_bd hIm423 hc0
                        have s429 := hRNSm423 a0 hc0
                        have s430 := hRTRm423 a0 hc0
                        have r431 : 0 ≤ (m423 a0 7) ∧ (m423 a0 7) ≤ 700 := zi_rd hIm423 hc0 zb_28_7
                        have r432 : 0 ≤ (m423 a0 8) ∧ (m423 a0 8) ≤ 6 := zi_rd hIm423 hc0 zb_28_8
                        refine zw_b (by omega) ?_
                        have r433 : 0 ≤ (m423 a0 21) ∧ (m423 a0 21) ≤ 64 := zi_rd hIm423 hc0 zb_28_21
                        have e434 : (m423 a0 21) = (mh a0 21) := (Eq.trans (zfr_ap hfm423 hc0 rfl) (Eq.trans (zs_ne hmm421 (Or.inr (by decide))) (Eq.trans (zs_ne hmm412 (Or.inr (by decide))) (Eq.trans (zs_ne hmm409 (Or.inr (by decide))) (Eq.trans (zs_ne hmm405 (Or.inl (zc_ne hc0 zq_211 (by decide)))) (zs_ne hmm399 (Or.inr (by decide))))))))
                        have r435 : 0 ≤ (m423 a0 48) ∧ (m423 a0 48) ≤ 64 := zi_rd hIm423 hc0 zb_28_48
                        have e436 : (m423 a0 48) = (zu_w32 ((mh a0 48) + 1)) := (Eq.trans (zfr_ap hfm423 hc0 rfl) (Eq.trans (zs_ne hmm421 (Or.inr (by decide))) (Eq.trans (zs_ne hmm412 (Or.inr (by decide))) (Eq.trans (zs_ne hmm409 (Or.inr (by decide))) (Eq.trans (zs_ne hmm405 (Or.inl (zc_ne hc0 zq_211 (by decide)))) (zs_eq hmm399))))))
                        have r437 : 0 ≤ (m423 a0 46) ∧ (m423 a0 46) ≤ 96 := zi_rd hIm423 hc0 zb_28_46
                        have e438 : (m423 a0 46) = (mh a0 46) := (Eq.trans (zfr_ap hfm423 hc0 rfl) (Eq.trans (zs_ne hmm421 (Or.inr (by decide))) (Eq.trans (zs_ne hmm412 (Or.inr (by decide))) (Eq.trans (zs_ne hmm409 (Or.inr (by decide))) (Eq.trans (zs_ne hmm405 (Or.inl (zc_ne hc0 zq_211 (by decide)))) (zs_ne hmm399 (Or.inr (by decide))))))))
                        have r439 : 0 ≤ (m423 a0 49) ∧ (m423 a0 49) ≤ 1 := zi_rd hIm423 hc0 zb_28_49
                        have e440 : (m423 a0 49) = 1 := (Eq.trans (zfr_ap hfm423 hc0 rfl) (Eq.trans (zs_ne hmm421 (Or.inr (by decide))) (zs_eq hmm412)))
                        have r441 : 0 ≤ (m423 a0 45) ∧ (m423 a0 45) ≤ 96 := zi_rd hIm423 hc0 zb_28_45
                        have e442 : (m423 a0 45) = (zu_w32 ((m405 a0 45) + 1)) := (Eq.trans (zfr_ap hfm423 hc0 rfl) (Eq.trans (zs_ne hmm421 (Or.inr (by decide))) (Eq.trans (zs_ne hmm412 (Or.inr (by decide))) (zs_eq hmm409))))
                        have r443 : 0 ≤ (m423 a0 47) ∧ (m423 a0 47) ≤ 8 := zi_rd hIm423 hc0 zb_28_47
                        have e444 : (m423 a0 47) = (mh a0 47) := (Eq.trans (zfr_ap hfm423 hc0 rfl) (Eq.trans (zs_ne hmm421 (Or.inr (by decide))) (Eq.trans (zs_ne hmm412 (Or.inr (by decide))) (Eq.trans (zs_ne hmm409 (Or.inr (by decide))) (Eq.trans (zs_ne hmm405 (Or.inl (zc_ne hc0 zq_211 (by decide)))) (zs_ne hmm399 (Or.inr (by decide))))))))
                        have r445 : (-2147483648) ≤ (m423 a0 4) ∧ (m423 a0 4) ≤ 2147483647 := zi_rd hIm423 hc0 zb_28_4
                        have e446 : (m423 a0 4) = (mh a0 4) := (Eq.trans (zfr_ap hfm423 hc0 rfl) (Eq.trans (zs_ne hmm421 (Or.inr (by decide))) (Eq.trans (zs_ne hmm412 (Or.inr (by decide))) (Eq.trans (zs_ne hmm409 (Or.inr (by decide))) (Eq.trans (zs_ne hmm405 (Or.inl (zc_ne hc0 zq_211 (by decide)))) (zs_ne hmm399 (Or.inr (by decide))))))))
                        exact zw_some ⟨hIm423, hFm423, hRKNm423, hRNSm423, hRTRm423, hRWDm423, ⟨by omega, by omega⟩, by omega, by omega, by omega, by omega, by omega, by omega, by omega, by omega⟩
                    · refine zw_some ?_
                      refine zw_ite (fun h447 => ?_) (fun h447 => ?_)
                      · exfalso; omega
                      · refine zw_b (by omega) ?_
                        generalize hmm448 : zu_up m412 a0 50 1 = m448
                        have hIm448 := zi_up hmm448 hIm412 hc0 zb_28_50 (by omega) (by omega)
                        have hFm448 := zfr_up hmm448 hFm412 hc0 rfl
                        have g449 := zwt_fr (zdis_fr (zfr_up hmm448 (zfr_rf [(28, 51)] _) hc0 rfl) rfl)
                        have hRKNm448 := zR_KN_fr (zdis_fr (zfr_up hmm448 (zfr_rf [(28, 51)] _) hc0 rfl) rfl) hRKNm412
                        have hRNSm448 := zR_NS_fr (zdis_fr (zfr_up hmm448 (zfr_rf [(28, 51)] _) hc0 rfl) rfl) hRNSm412
                        have hRTRm448 := zR_TR_fr (zdis_fr (zfr_up hmm448 (zfr_rf [(28, 51)] _) hc0 rfl) rfl) hRTRm412
                        have hRWDm448 := zR_WD_fr (zdis_fr (zfr_up hmm448 (zfr_rf [(28, 51)] _) hc0 rfl) rfl) hRWDm412
                        have r452 : 0 ≤ (m448 a0 7) ∧ (m448 a0 7) ≤ 700 := zi_rd hIm448 hc0 zb_28_7
                        have e453 : (m448 a0 7) = (mh a0 7) := (Eq.trans (zs_ne hmm448 (Or.inr (by decide))) (Eq.trans (zs_ne hmm412 (Or.inr (by decide))) (Eq.trans (zs_ne hmm409 (Or.inr (by decide))) (Eq.trans (zs_ne hmm405 (Or.inl (zc_ne hc0 zq_211 (by decide)))) (zs_ne hmm399 (Or.inr (by decide)))))))
                        refine zw_bd (zw_mono (zk_89 n hIm448 hc0 hRNSm448 hRWDm448) (fun v451 m450 hqm450 => ?_))
                        obtain ⟨hIm450, hfm450, hvm450⟩ := hqm450
                        have hFm450 := zfr_tr hFm448 hfm450 rfl
                        obtain ⟨hRNSm450, hRTRm450, hRWDm450, hvm450⟩ := hvm450
                        have g454 := zwt_fr (zdis_fr hfm450 rfl)
                        have hRKNm450 := zR_KN_fr (zdis_fr hfm450 rfl) hRKNm448
                        have g455 := zwt_bd hIm450 hc0
                        have s456 := hRNSm450 a0 hc0
                        have s457 := hRTRm450 a0 hc0
                        have r458 : 0 ≤ (m450 a0 7) ∧ (m450 a0 7) ≤ 700 := zi_rd hIm450 hc0 zb_28_7
                        have r459 : 0 ≤ (m450 a0 8) ∧ (m450 a0 8) ≤ 6 := zi_rd hIm450 hc0 zb_28_8
                        refine zw_b (by omega) ?_
                        have r460 : 0 ≤ (m450 a0 21) ∧ (m450 a0 21) ≤ 64 := zi_rd hIm450 hc0 zb_28_21
                        have e461 : (m450 a0 21) = (mh a0 21) := (Eq.trans (zfr_ap hfm450 hc0 rfl) (Eq.trans (zs_ne hmm448 (Or.inr (by decide))) (Eq.trans (zs_ne hmm412 (Or.inr (by decide))) (Eq.trans (zs_ne hmm409 (Or.inr (by decide))) (Eq.trans (zs_ne hmm405 (Or.inl (zc_ne hc0 zq_211 (by decide)))) (zs_ne hmm399 (Or.inr (by decide))))))))
                        have r462 : 0 ≤ (m450 a0 48) ∧ (m450 a0 48) ≤ 64 := zi_rd hIm450 hc0 zb_28_48
                        have e463 : (m450 a0 48) = (zu_w32 ((mh a0 48) + 1)) := (Eq.trans (zfr_ap hfm450 hc0 rfl) (Eq.trans (zs_ne hmm448 (Or.inr (by decide))) (Eq.trans (zs_ne hmm412 (Or.inr (by decide))) (Eq.trans (zs_ne hmm409 (Or.inr (by decide))) (Eq.trans (zs_ne hmm405 (Or.inl (zc_ne hc0 zq_211 (by decide)))) (zs_eq hmm399))))))
                        have r464 : 0 ≤ (m450 a0 46) ∧ (m450 a0 46) ≤ 96 := zi_rd hIm450 hc0 zb_28_46
                        have e465 : (m450 a0 46) = (mh a0 46) := (Eq.trans (zfr_ap hfm450 hc0 rfl) (Eq.trans (zs_ne hmm448 (Or.inr (by decide))) (Eq.trans (zs_ne hmm412 (Or.inr (by decide))) (Eq.trans (zs_ne hmm409 (Or.inr (by decide))) (Eq.trans (zs_ne hmm405 (Or.inl (zc_ne hc0 zq_211 (by decide)))) (zs_ne hmm399 (Or.inr (by decide))))))))
                        have r466 : 0 ≤ (m450 a0 49) ∧ (m450 a0 49) ≤ 1 := zi_rd hIm450 hc0 zb_28_49
                        have e467 : (m450 a0 49) = 1 := (Eq.trans (zfr_ap hfm450 hc0 rfl) (Eq.trans (zs_ne hmm448 (Or.inr (by decide))) (zs_eq hmm412)))
                        have r468 : 0 ≤ (m450 a0 45) ∧ (m450 a0 45) ≤ 96 := zi_rd hIm450 hc0 zb_28_45
                        have e469 : (m450 a0 45) = (zu_w32 ((m405 a0 45) + 1)) := (Eq.trans (zfr_ap hfm450 hc0 rfl) (Eq.trans (zs_ne hmm448 (Or.inr (by decide))) (Eq.trans (zs_ne hmm412 (Or.inr (by decide))) (zs_eq hmm409))))
                        have r470 : 0 ≤ (m450 a0 47) ∧ (m450 a0 47) ≤ 8 := zi_rd hIm450 hc0 zb_28_47
                        have e471 : (m450 a0 47) = (mh a0 47) := (Eq.trans (zfr_ap hfm450 hc0 rfl) (Eq.trans (zs_ne hmm448 (Or.inr (by decide))) (Eq.trans (zs_ne hmm412 (Or.inr (by decide))) (Eq.trans (zs_ne hmm409 (Or.inr (by decide))) (Eq.trans (zs_ne hmm405 (Or.inl (zc_ne hc0 zq_211 (by decide)))) (zs_ne hmm399 (Or.inr (by decide))))))))
                        have r472 : (-2147483648) ≤ (m450 a0 4) ∧ (m450 a0 4) ≤ 2147483647 := zi_rd hIm450 hc0 zb_28_4
                        have e473 : (m450 a0 4) = (mh a0 4) := (Eq.trans (zfr_ap hfm450 hc0 rfl) (Eq.trans (zs_ne hmm448 (Or.inr (by decide))) (Eq.trans (zs_ne hmm412 (Or.inr (by decide))) (Eq.trans (zs_ne hmm409 (Or.inr (by decide))) (Eq.trans (zs_ne hmm405 (Or.inl (zc_ne hc0 zq_211 (by decide)))) (zs_ne hmm399 (Or.inr (by decide))))))))
                        exact zw_some ⟨hIm450, hFm450, hRKNm450, hRNSm450, hRTRm450, hRWDm450, ⟨by omega, by omega⟩, by omega, by omega, by omega, by omega, by omega, by omega, by omega, by omega⟩
                  · refine zw_some ?_
                    refine zw_ite (fun h474 => ?_) (fun h474 => ?_)
                    · exfalso; omega
                    · refine zw_b (by omega) ?_
                      generalize hmm475 : zu_up m412 a0 50 1 = m475
                      have hIm475 := zi_up hmm475 hIm412 hc0 zb_28_50 (by omega) (by omega)
                      have hFm475 := zfr_up hmm475 hFm412 hc0 rfl
                      have g476 := zwt_fr (zdis_fr (zfr_up hmm475 (zfr_rf [(28, 51)] _) hc0 rfl) rfl)
                      have hRKNm475 := zR_KN_fr (zdis_fr (zfr_up hmm475 (zfr_rf [(28, 51)] _) hc0 rfl) rfl) hRKNm412
                      have hRNSm475 := zR_NS_fr (zdis_fr (zfr_up hmm475 (zfr_rf [(28, 51)] _) hc0 rfl) rfl) hRNSm412
                      have hRTRm475 := zR_TR_fr (zdis_fr (zfr_up hmm475 (zfr_rf [(28, 51)] _) hc0 rfl) rfl) hRTRm412
                      have hRWDm475 := zR_WD_fr (zdis_fr (zfr_up hmm475 (zfr_rf [(28, 51)] _) hc0 rfl) rfl) hRWDm412
                      have r479 : 0 ≤ (m475 a0 7) ∧ (m475 a0 7) ≤ 700 := zi_rd hIm475 hc0 zb_28_7
                      have e480 : (m475 a0 7) = (mh a0 7) := (Eq.trans (zs_ne hmm475 (Or.inr (by decide))) (Eq.trans (zs_ne hmm412 (Or.inr (by decide))) (Eq.trans (zs_ne hmm409 (Or.inr (by decide))) (Eq.trans (zs_ne hmm405 (Or.inl (zc_ne hc0 zq_211 (by decide)))) (zs_ne hmm399 (Or.inr (by decide)))))))
                      refine zw_bd (zw_mono (zk_89 n hIm475 hc0 hRNSm475 hRWDm475) (fun v478 m477 hqm477 => ?_))
                      obtain ⟨hIm477, hfm477, hvm477⟩ := hqm477
                      have hFm477 := zfr_tr hFm475 hfm477 rfl
                      obtain ⟨hRNSm477, hRTRm477, hRWDm477, hvm477⟩ := hvm477
                      have g481 := zwt_fr (zdis_fr hfm477 rfl)
                      have hRKNm477 := zR_KN_fr (zdis_fr hfm477 rfl) hRKNm475
                      have g482 := zwt_bd hIm477 hc0
                      have s483 := hRNSm477 a0 hc0
                      have s484 := hRTRm477 a0 hc0
                      have r485 : 0 ≤ (m477 a0 7) ∧ (m477 a0 7) ≤ 700 := zi_rd hIm477 hc0 zb_28_7
                      have r486 : 0 ≤ (m477 a0 8) ∧ (m477 a0 8) ≤ 6 := zi_rd hIm477 hc0 zb_28_8
                      refine zw_b (by omega) ?_
                      have r487 : 0 ≤ (m477 a0 21) ∧ (m477 a0 21) ≤ 64 := zi_rd hIm477 hc0 zb_28_21
                      have e488 : (m477 a0 21) = (mh a0 21) := (Eq.trans (zfr_ap hfm477 hc0 rfl) (Eq.trans (zs_ne hmm475 (Or.inr (by decide))) (Eq.trans (zs_ne hmm412 (Or.inr (by decide))) (Eq.trans (zs_ne hmm409 (Or.inr (by decide))) (Eq.trans (zs_ne hmm405 (Or.inl (zc_ne hc0 zq_211 (by decide)))) (zs_ne hmm399 (Or.inr (by decide))))))))
                      have r489 : 0 ≤ (m477 a0 48) ∧ (m477 a0 48) ≤ 64 := zi_rd hIm477 hc0 zb_28_48
                      have e490 : (m477 a0 48) = (zu_w32 ((mh a0 48) + 1)) := (Eq.trans (zfr_ap hfm477 hc0 rfl) (Eq.trans (zs_ne hmm475 (Or.inr (by decide))) (Eq.trans (zs_ne hmm412 (Or.inr (by decide))) (Eq.trans (zs_ne hmm409 (Or.inr (by decide))) (Eq.trans (zs_ne hmm405 (Or.inl (zc_ne hc0 zq_211 (by decide)))) (zs_eq hmm399))))))
                      have r491 : 0 ≤ (m477 a0 46) ∧ (m477 a0 46) ≤ 96 := zi_rd hIm477 hc0 zb_28_46
                      have e492 : (m477 a0 46) = (mh a0 46) := (Eq.trans (zfr_ap hfm477 hc0 rfl) (Eq.trans (zs_ne hmm475 (Or.inr (by decide))) (Eq.trans (zs_ne hmm412 (Or.inr (by decide))) (Eq.trans (zs_ne hmm409 (Or.inr (by decide))) (Eq.trans (zs_ne hmm405 (Or.inl (zc_ne hc0 zq_211 (by decide)))) (zs_ne hmm399 (Or.inr (by decide))))))))
                      have r493 : 0 ≤ (m477 a0 49) ∧ (m477 a0 49) ≤ 1 := zi_rd hIm477 hc0 zb_28_49
                      have e494 : (m477 a0 49) = 1 := (Eq.trans (zfr_ap hfm477 hc0 rfl) (Eq.trans (zs_ne hmm475 (Or.inr (by decide))) (zs_eq hmm412)))
                      have r495 : 0 ≤ (m477 a0 45) ∧ (m477 a0 45) ≤ 96 := zi_rd hIm477 hc0 zb_28_45
                      have e496 : (m477 a0 45) = (zu_w32 ((m405 a0 45) + 1)) := (Eq.trans (zfr_ap hfm477 hc0 rfl) (Eq.trans (zs_ne hmm475 (Or.inr (by decide))) (Eq.trans (zs_ne hmm412 (Or.inr (by decide))) (zs_eq hmm409))))
                      have r497 : 0 ≤ (m477 a0 47) ∧ (m477 a0 47) ≤ 8 := zi_rd hIm477 hc0 zb_28_47
                      have e498 : (m477 a0 47) = (mh a0 47) := (Eq.trans (zfr_ap hfm477 hc0 rfl) (Eq.trans (zs_ne hmm475 (Or.inr (by decide))) (Eq.trans (zs_ne hmm412 (Or.inr (by decide))) (Eq.trans (zs_ne hmm409 (Or.inr (by decide))) (Eq.trans (zs_ne hmm405 (Or.inl (zc_ne hc0 zq_211 (by decide)))) (zs_ne hmm399 (Or.inr (by decide))))))))
                      have r499 : (-2147483648) ≤ (m477 a0 4) ∧ (m477 a0 4) ≤ 2147483647 := zi_rd hIm477 hc0 zb_28_4
                      have e500 : (m477 a0 4) = (mh a0 4) := (Eq.trans (zfr_ap hfm477 hc0 rfl) (Eq.trans (zs_ne hmm475 (Or.inr (by decide))) (Eq.trans (zs_ne hmm412 (Or.inr (by decide))) (Eq.trans (zs_ne hmm409 (Or.inr (by decide))) (Eq.trans (zs_ne hmm405 (Or.inl (zc_ne hc0 zq_211 (by decide)))) (zs_ne hmm399 (Or.inr (by decide))))))))
                      exact zw_some ⟨hIm477, hFm477, hRKNm477, hRNSm477, hRTRm477, hRWDm477, ⟨by omega, by omega⟩, by omega, by omega, by omega, by omega, by omega, by omega, by omega, by omega⟩
                · refine zw_some ?_
                  refine zw_ite (fun h501 => ?_) (fun h501 => ?_)
                  · refine zw_b (by omega) ?_
                    generalize hmm502 : zu_up m412 a0 50 0 = m502
                    have hIm502 := zi_up hmm502 hIm412 hc0 zb_28_50 (by omega) (by omega)
                    have hFm502 := zfr_up hmm502 hFm412 hc0 rfl
                    have g503 := zwt_fr (zdis_fr (zfr_up hmm502 (zfr_rf [(28, 51)] _) hc0 rfl) rfl)
                    have hRKNm502 := zR_KN_fr (zdis_fr (zfr_up hmm502 (zfr_rf [(28, 51)] _) hc0 rfl) rfl) hRKNm412
                    have hRNSm502 := zR_NS_fr (zdis_fr (zfr_up hmm502 (zfr_rf [(28, 51)] _) hc0 rfl) rfl) hRNSm412
                    have hRTRm502 := zR_TR_fr (zdis_fr (zfr_up hmm502 (zfr_rf [(28, 51)] _) hc0 rfl) rfl) hRTRm412
                    have hRWDm502 := zR_WD_fr (zdis_fr (zfr_up hmm502 (zfr_rf [(28, 51)] _) hc0 rfl) rfl) hRWDm412
                    have r506 : 0 ≤ (m502 a0 7) ∧ (m502 a0 7) ≤ 700 := zi_rd hIm502 hc0 zb_28_7
                    have e507 : (m502 a0 7) = (mh a0 7) := (Eq.trans (zs_ne hmm502 (Or.inr (by decide))) (Eq.trans (zs_ne hmm412 (Or.inr (by decide))) (Eq.trans (zs_ne hmm409 (Or.inr (by decide))) (Eq.trans (zs_ne hmm405 (Or.inl (zc_ne hc0 zq_211 (by decide)))) (zs_ne hmm399 (Or.inr (by decide)))))))
                    refine zw_bd (zw_mono (zk_89 n hIm502 hc0 hRNSm502 hRWDm502) (fun v505 m504 hqm504 => ?_))
                    obtain ⟨hIm504, hfm504, hvm504⟩ := hqm504
                    have hFm504 := zfr_tr hFm502 hfm504 rfl
                    obtain ⟨hRNSm504, hRTRm504, hRWDm504, hvm504⟩ := hvm504
                    have g508 := zwt_fr (zdis_fr hfm504 rfl)
                    have hRKNm504 := zR_KN_fr (zdis_fr hfm504 rfl) hRKNm502
                    have g509 := zwt_bd hIm504 hc0
                    have s510 := hRNSm504 a0 hc0
                    have s511 := hRTRm504 a0 hc0
                    have r512 : 0 ≤ (m504 a0 7) ∧ (m504 a0 7) ≤ 700 := zi_rd hIm504 hc0 zb_28_7
                    have r513 : 0 ≤ (m504 a0 8) ∧ (m504 a0 8) ≤ 6 := zi_rd hIm504 hc0 zb_28_8
                    refine zw_b (by omega) ?_
                    have r514 : 0 ≤ (m504 a0 21) ∧ (m504 a0 21) ≤ 64 := zi_rd hIm504 hc0 zb_28_21
                    have e515 : (m504 a0 21) = (mh a0 21) := (Eq.trans (zfr_ap hfm504 hc0 rfl) (Eq.trans (zs_ne hmm502 (Or.inr (by decide))) (Eq.trans (zs_ne hmm412 (Or.inr (by decide))) (Eq.trans (zs_ne hmm409 (Or.inr (by decide))) (Eq.trans (zs_ne hmm405 (Or.inl (zc_ne hc0 zq_211 (by decide)))) (zs_ne hmm399 (Or.inr (by decide))))))))
                    have r516 : 0 ≤ (m504 a0 48) ∧ (m504 a0 48) ≤ 64 := zi_rd hIm504 hc0 zb_28_48
                    have e517 : (m504 a0 48) = (zu_w32 ((mh a0 48) + 1)) := (Eq.trans (zfr_ap hfm504 hc0 rfl) (Eq.trans (zs_ne hmm502 (Or.inr (by decide))) (Eq.trans (zs_ne hmm412 (Or.inr (by decide))) (Eq.trans (zs_ne hmm409 (Or.inr (by decide))) (Eq.trans (zs_ne hmm405 (Or.inl (zc_ne hc0 zq_211 (by decide)))) (zs_eq hmm399))))))
                    have r518 : 0 ≤ (m504 a0 46) ∧ (m504 a0 46) ≤ 96 := zi_rd hIm504 hc0 zb_28_46
                    have e519 : (m504 a0 46) = (mh a0 46) := (Eq.trans (zfr_ap hfm504 hc0 rfl) (Eq.trans (zs_ne hmm502 (Or.inr (by decide))) (Eq.trans (zs_ne hmm412 (Or.inr (by decide))) (Eq.trans (zs_ne hmm409 (Or.inr (by decide))) (Eq.trans (zs_ne hmm405 (Or.inl (zc_ne hc0 zq_211 (by decide)))) (zs_ne hmm399 (Or.inr (by decide))))))))
                    have r520 : 0 ≤ (m504 a0 49) ∧ (m504 a0 49) ≤ 1 := zi_rd hIm504 hc0 zb_28_49
                    have e521 : (m504 a0 49) = 1 := (Eq.trans (zfr_ap hfm504 hc0 rfl) (Eq.trans (zs_ne hmm502 (Or.inr (by decide))) (zs_eq hmm412)))
                    have r522 : 0 ≤ (m504 a0 45) ∧ (m504 a0 45) ≤ 96 := zi_rd hIm504 hc0 zb_28_45
                    have e523 : (m504 a0 45) = (zu_w32 ((m405 a0 45) + 1)) := (Eq.trans (zfr_ap hfm504 hc0 rfl) (Eq.trans (zs_ne hmm502 (Or.inr (by decide))) (Eq.trans (zs_ne hmm412 (Or.inr (by decide))) (zs_eq hmm409))))
                    have r524 : 0 ≤ (m504 a0 47) ∧ (m504 a0 47) ≤ 8 := zi_rd hIm504 hc0 zb_28_47
                    have e525 : (m504 a0 47) = (mh a0 47) := (Eq.trans (zfr_ap hfm504 hc0 rfl) (Eq.trans (zs_ne hmm502 (Or.inr (by decide))) (Eq.trans (zs_ne hmm412 (Or.inr (by decide))) (Eq.trans (zs_ne hmm409 (Or.inr (by decide))) (Eq.trans (zs_ne hmm405 (Or.inl (zc_ne hc0 zq_211 (by decide)))) (zs_ne hmm399 (Or.inr (by decide))))))))
                    have r526 : (-2147483648) ≤ (m504 a0 4) ∧ (m504 a0 4) ≤ 2147483647 := zi_rd hIm504 hc0 zb_28_4
                    have e527 : (m504 a0 4) = (mh a0 4) := (Eq.trans (zfr_ap hfm504 hc0 rfl) (Eq.trans (zs_ne hmm502 (Or.inr (by decide))) (Eq.trans (zs_ne hmm412 (Or.inr (by decide))) (Eq.trans (zs_ne hmm409 (Or.inr (by decide))) (Eq.trans (zs_ne hmm405 (Or.inl (zc_ne hc0 zq_211 (by decide)))) (zs_ne hmm399 (Or.inr (by decide))))))))
                    exact zw_some ⟨hIm504, hFm504, hRKNm504, hRNSm504, hRTRm504, hRWDm504, ⟨by omega, by omega⟩, by omega, by omega, by omega, by omega, by omega, by omega, by omega, by omega⟩
                  · exfalso; omega
              · refine zw_some ?_
                refine zw_ite (fun h528 => ?_) (fun h528 => ?_)
                · refine zw_b (by omega) ?_
                  generalize hmm529 : zu_up m412 a0 50 0 = m529
                  have hIm529 := zi_up hmm529 hIm412 hc0 zb_28_50 (by omega) (by omega)
                  have hFm529 := zfr_up hmm529 hFm412 hc0 rfl
                  have g530 := zwt_fr (zdis_fr (zfr_up hmm529 (zfr_rf [(28, 51)] _) hc0 rfl) rfl)
                  have hRKNm529 := zR_KN_fr (zdis_fr (zfr_up hmm529 (zfr_rf [(28, 51)] _) hc0 rfl) rfl) hRKNm412
                  have hRNSm529 := zR_NS_fr (zdis_fr (zfr_up hmm529 (zfr_rf [(28, 51)] _) hc0 rfl) rfl) hRNSm412
                  have hRTRm529 := zR_TR_fr (zdis_fr (zfr_up hmm529 (zfr_rf [(28, 51)] _) hc0 rfl) rfl) hRTRm412
                  have hRWDm529 := zR_WD_fr (zdis_fr (zfr_up hmm529 (zfr_rf [(28, 51)] _) hc0 rfl) rfl) hRWDm412
                  have r533 : 0 ≤ (m529 a0 7) ∧ (m529 a0 7) ≤ 700 := zi_rd hIm529 hc0 zb_28_7
                  have e534 : (m529 a0 7) = (mh a0 7) := (Eq.trans (zs_ne hmm529 (Or.inr (by decide))) (Eq.trans (zs_ne hmm412 (Or.inr (by decide))) (Eq.trans (zs_ne hmm409 (Or.inr (by decide))) (Eq.trans (zs_ne hmm405 (Or.inl (zc_ne hc0 zq_211 (by decide)))) (zs_ne hmm399 (Or.inr (by decide)))))))
                  refine zw_bd (zw_mono (zk_89 n hIm529 hc0 hRNSm529 hRWDm529) (fun v532 m531 hqm531 => ?_))
                  obtain ⟨hIm531, hfm531, hvm531⟩ := hqm531
                  have hFm531 := zfr_tr hFm529 hfm531 rfl
                  obtain ⟨hRNSm531, hRTRm531, hRWDm531, hvm531⟩ := hvm531
                  have g535 := zwt_fr (zdis_fr hfm531 rfl)
                  have hRKNm531 := zR_KN_fr (zdis_fr hfm531 rfl) hRKNm529
                  have g536 := zwt_bd hIm531 hc0
                  have s537 := hRNSm531 a0 hc0
                  have s538 := hRTRm531 a0 hc0
                  have r539 : 0 ≤ (m531 a0 7) ∧ (m531 a0 7) ≤ 700 := zi_rd hIm531 hc0 zb_28_7
                  have r540 : 0 ≤ (m531 a0 8) ∧ (m531 a0 8) ≤ 6 := zi_rd hIm531 hc0 zb_28_8
                  refine zw_b (by omega) ?_
                  have r541 : 0 ≤ (m531 a0 21) ∧ (m531 a0 21) ≤ 64 := zi_rd hIm531 hc0 zb_28_21
                  have e542 : (m531 a0 21) = (mh a0 21) := (Eq.trans (zfr_ap hfm531 hc0 rfl) (Eq.trans (zs_ne hmm529 (Or.inr (by decide))) (Eq.trans (zs_ne hmm412 (Or.inr (by decide))) (Eq.trans (zs_ne hmm409 (Or.inr (by decide))) (Eq.trans (zs_ne hmm405 (Or.inl (zc_ne hc0 zq_211 (by decide)))) (zs_ne hmm399 (Or.inr (by decide))))))))
                  have r543 : 0 ≤ (m531 a0 48) ∧ (m531 a0 48) ≤ 64 := zi_rd hIm531 hc0 zb_28_48
                  have e544 : (m531 a0 48) = (zu_w32 ((mh a0 48) + 1)) := (Eq.trans (zfr_ap hfm531 hc0 rfl) (Eq.trans (zs_ne hmm529 (Or.inr (by decide))) (Eq.trans (zs_ne hmm412 (Or.inr (by decide))) (Eq.trans (zs_ne hmm409 (Or.inr (by decide))) (Eq.trans (zs_ne hmm405 (Or.inl (zc_ne hc0 zq_211 (by decide)))) (zs_eq hmm399))))))
                  have r545 : 0 ≤ (m531 a0 46) ∧ (m531 a0 46) ≤ 96 := zi_rd hIm531 hc0 zb_28_46
                  have e546 : (m531 a0 46) = (mh a0 46) := (Eq.trans (zfr_ap hfm531 hc0 rfl) (Eq.trans (zs_ne hmm529 (Or.inr (by decide))) (Eq.trans (zs_ne hmm412 (Or.inr (by decide))) (Eq.trans (zs_ne hmm409 (Or.inr (by decide))) (Eq.trans (zs_ne hmm405 (Or.inl (zc_ne hc0 zq_211 (by decide)))) (zs_ne hmm399 (Or.inr (by decide))))))))
                  have r547 : 0 ≤ (m531 a0 49) ∧ (m531 a0 49) ≤ 1 := zi_rd hIm531 hc0 zb_28_49
                  have e548 : (m531 a0 49) = 1 := (Eq.trans (zfr_ap hfm531 hc0 rfl) (Eq.trans (zs_ne hmm529 (Or.inr (by decide))) (zs_eq hmm412)))
                  have r549 : 0 ≤ (m531 a0 45) ∧ (m531 a0 45) ≤ 96 := zi_rd hIm531 hc0 zb_28_45
                  have e550 : (m531 a0 45) = (zu_w32 ((m405 a0 45) + 1)) := (Eq.trans (zfr_ap hfm531 hc0 rfl) (Eq.trans (zs_ne hmm529 (Or.inr (by decide))) (Eq.trans (zs_ne hmm412 (Or.inr (by decide))) (zs_eq hmm409))))
                  have r551 : 0 ≤ (m531 a0 47) ∧ (m531 a0 47) ≤ 8 := zi_rd hIm531 hc0 zb_28_47
                  have e552 : (m531 a0 47) = (mh a0 47) := (Eq.trans (zfr_ap hfm531 hc0 rfl) (Eq.trans (zs_ne hmm529 (Or.inr (by decide))) (Eq.trans (zs_ne hmm412 (Or.inr (by decide))) (Eq.trans (zs_ne hmm409 (Or.inr (by decide))) (Eq.trans (zs_ne hmm405 (Or.inl (zc_ne hc0 zq_211 (by decide)))) (zs_ne hmm399 (Or.inr (by decide))))))))
                  have r553 : (-2147483648) ≤ (m531 a0 4) ∧ (m531 a0 4) ≤ 2147483647 := zi_rd hIm531 hc0 zb_28_4
                  have e554 : (m531 a0 4) = (mh a0 4) := (Eq.trans (zfr_ap hfm531 hc0 rfl) (Eq.trans (zs_ne hmm529 (Or.inr (by decide))) (Eq.trans (zs_ne hmm412 (Or.inr (by decide))) (Eq.trans (zs_ne hmm409 (Or.inr (by decide))) (Eq.trans (zs_ne hmm405 (Or.inl (zc_ne hc0 zq_211 (by decide)))) (zs_ne hmm399 (Or.inr (by decide))))))))
                  exact zw_some ⟨hIm531, hFm531, hRKNm531, hRNSm531, hRTRm531, hRWDm531, ⟨by omega, by omega⟩, by omega, by omega, by omega, by omega, by omega, by omega, by omega, by omega⟩
                · exfalso; omega
            · refine zw_some ?_
              refine zw_ite (fun h555 => ?_) (fun h555 => ?_)
              · refine zw_b (by omega) ?_
                generalize hmm556 : zu_up m412 a0 50 0 = m556
                have hIm556 := zi_up hmm556 hIm412 hc0 zb_28_50 (by omega) (by omega)
                have hFm556 := zfr_up hmm556 hFm412 hc0 rfl
                have g557 := zwt_fr (zdis_fr (zfr_up hmm556 (zfr_rf [(28, 51)] _) hc0 rfl) rfl)
                have hRKNm556 := zR_KN_fr (zdis_fr (zfr_up hmm556 (zfr_rf [(28, 51)] _) hc0 rfl) rfl) hRKNm412
                have hRNSm556 := zR_NS_fr (zdis_fr (zfr_up hmm556 (zfr_rf [(28, 51)] _) hc0 rfl) rfl) hRNSm412
                have hRTRm556 := zR_TR_fr (zdis_fr (zfr_up hmm556 (zfr_rf [(28, 51)] _) hc0 rfl) rfl) hRTRm412
                have hRWDm556 := zR_WD_fr (zdis_fr (zfr_up hmm556 (zfr_rf [(28, 51)] _) hc0 rfl) rfl) hRWDm412
                have r560 : 0 ≤ (m556 a0 7) ∧ (m556 a0 7) ≤ 700 := zi_rd hIm556 hc0 zb_28_7
                have e561 : (m556 a0 7) = (mh a0 7) := (Eq.trans (zs_ne hmm556 (Or.inr (by decide))) (Eq.trans (zs_ne hmm412 (Or.inr (by decide))) (Eq.trans (zs_ne hmm409 (Or.inr (by decide))) (Eq.trans (zs_ne hmm405 (Or.inl (zc_ne hc0 zq_211 (by decide)))) (zs_ne hmm399 (Or.inr (by decide)))))))
                refine zw_bd (zw_mono (zk_89 n hIm556 hc0 hRNSm556 hRWDm556) (fun v559 m558 hqm558 => ?_))
                obtain ⟨hIm558, hfm558, hvm558⟩ := hqm558
                have hFm558 := zfr_tr hFm556 hfm558 rfl
                obtain ⟨hRNSm558, hRTRm558, hRWDm558, hvm558⟩ := hvm558
                have g562 := zwt_fr (zdis_fr hfm558 rfl)
                have hRKNm558 := zR_KN_fr (zdis_fr hfm558 rfl) hRKNm556
                have g563 := zwt_bd hIm558 hc0
                have s564 := hRNSm558 a0 hc0
                have s565 := hRTRm558 a0 hc0
                have r566 : 0 ≤ (m558 a0 7) ∧ (m558 a0 7) ≤ 700 := zi_rd hIm558 hc0 zb_28_7
                have r567 : 0 ≤ (m558 a0 8) ∧ (m558 a0 8) ≤ 6 := zi_rd hIm558 hc0 zb_28_8
                refine zw_b (by omega) ?_
                have r568 : 0 ≤ (m558 a0 21) ∧ (m558 a0 21) ≤ 64 := zi_rd hIm558 hc0 zb_28_21
                have e569 : (m558 a0 21) = (mh a0 21) := (Eq.trans (zfr_ap hfm558 hc0 rfl) (Eq.trans (zs_ne hmm556 (Or.inr (by decide))) (Eq.trans (zs_ne hmm412 (Or.inr (by decide))) (Eq.trans (zs_ne hmm409 (Or.inr (by decide))) (Eq.trans (zs_ne hmm405 (Or.inl (zc_ne hc0 zq_211 (by decide)))) (zs_ne hmm399 (Or.inr (by decide))))))))
                have r570 : 0 ≤ (m558 a0 48) ∧ (m558 a0 48) ≤ 64 := zi_rd hIm558 hc0 zb_28_48
                have e571 : (m558 a0 48) = (zu_w32 ((mh a0 48) + 1)) := (Eq.trans (zfr_ap hfm558 hc0 rfl) (Eq.trans (zs_ne hmm556 (Or.inr (by decide))) (Eq.trans (zs_ne hmm412 (Or.inr (by decide))) (Eq.trans (zs_ne hmm409 (Or.inr (by decide))) (Eq.trans (zs_ne hmm405 (Or.inl (zc_ne hc0 zq_211 (by decide)))) (zs_eq hmm399))))))
                have r572 : 0 ≤ (m558 a0 46) ∧ (m558 a0 46) ≤ 96 := zi_rd hIm558 hc0 zb_28_46
                have e573 : (m558 a0 46) = (mh a0 46) := (Eq.trans (zfr_ap hfm558 hc0 rfl) (Eq.trans (zs_ne hmm556 (Or.inr (by decide))) (Eq.trans (zs_ne hmm412 (Or.inr (by decide))) (Eq.trans (zs_ne hmm409 (Or.inr (by decide))) (Eq.trans (zs_ne hmm405 (Or.inl (zc_ne hc0 zq_211 (by decide)))) (zs_ne hmm399 (Or.inr (by decide))))))))
                have r574 : 0 ≤ (m558 a0 49) ∧ (m558 a0 49) ≤ 1 := zi_rd hIm558 hc0 zb_28_49
                have e575 : (m558 a0 49) = 1 := (Eq.trans (zfr_ap hfm558 hc0 rfl) (Eq.trans (zs_ne hmm556 (Or.inr (by decide))) (zs_eq hmm412)))
                have r576 : 0 ≤ (m558 a0 45) ∧ (m558 a0 45) ≤ 96 := zi_rd hIm558 hc0 zb_28_45
                have e577 : (m558 a0 45) = (zu_w32 ((m405 a0 45) + 1)) := (Eq.trans (zfr_ap hfm558 hc0 rfl) (Eq.trans (zs_ne hmm556 (Or.inr (by decide))) (Eq.trans (zs_ne hmm412 (Or.inr (by decide))) (zs_eq hmm409))))
                have r578 : 0 ≤ (m558 a0 47) ∧ (m558 a0 47) ≤ 8 := zi_rd hIm558 hc0 zb_28_47
                have e579 : (m558 a0 47) = (mh a0 47) := (Eq.trans (zfr_ap hfm558 hc0 rfl) (Eq.trans (zs_ne hmm556 (Or.inr (by decide))) (Eq.trans (zs_ne hmm412 (Or.inr (by decide))) (Eq.trans (zs_ne hmm409 (Or.inr (by decide))) (Eq.trans (zs_ne hmm405 (Or.inl (zc_ne hc0 zq_211 (by decide)))) (zs_ne hmm399 (Or.inr (by decide))))))))
                have r580 : (-2147483648) ≤ (m558 a0 4) ∧ (m558 a0 4) ≤ 2147483647 := zi_rd hIm558 hc0 zb_28_4
                have e581 : (m558 a0 4) = (mh a0 4) := (Eq.trans (zfr_ap hfm558 hc0 rfl) (Eq.trans (zs_ne hmm556 (Or.inr (by decide))) (Eq.trans (zs_ne hmm412 (Or.inr (by decide))) (Eq.trans (zs_ne hmm409 (Or.inr (by decide))) (Eq.trans (zs_ne hmm405 (Or.inl (zc_ne hc0 zq_211 (by decide)))) (zs_ne hmm399 (Or.inr (by decide))))))))
                exact zw_some ⟨hIm558, hFm558, hRKNm558, hRNSm558, hRTRm558, hRWDm558, ⟨by omega, by omega⟩, by omega, by omega, by omega, by omega, by omega, by omega, by omega, by omega⟩
              · exfalso; omega
          · refine zw_some ?_
            refine zw_ite (fun h582 => ?_) (fun h582 => ?_)
            · refine zw_b (by omega) ?_
              generalize hmm583 : zu_up m412 a0 50 0 = m583
              have hIm583 := zi_up hmm583 hIm412 hc0 zb_28_50 (by omega) (by omega)
              have hFm583 := zfr_up hmm583 hFm412 hc0 rfl
              have g584 := zwt_fr (zdis_fr (zfr_up hmm583 (zfr_rf [(28, 51)] _) hc0 rfl) rfl)
              have hRKNm583 := zR_KN_fr (zdis_fr (zfr_up hmm583 (zfr_rf [(28, 51)] _) hc0 rfl) rfl) hRKNm412
              have hRNSm583 := zR_NS_fr (zdis_fr (zfr_up hmm583 (zfr_rf [(28, 51)] _) hc0 rfl) rfl) hRNSm412
              have hRTRm583 := zR_TR_fr (zdis_fr (zfr_up hmm583 (zfr_rf [(28, 51)] _) hc0 rfl) rfl) hRTRm412
              have hRWDm583 := zR_WD_fr (zdis_fr (zfr_up hmm583 (zfr_rf [(28, 51)] _) hc0 rfl) rfl) hRWDm412
              have r587 : 0 ≤ (m583 a0 7) ∧ (m583 a0 7) ≤ 700 := zi_rd hIm583 hc0 zb_28_7
              have e588 : (m583 a0 7) = (mh a0 7) := (Eq.trans (zs_ne hmm583 (Or.inr (by decide))) (Eq.trans (zs_ne hmm412 (Or.inr (by decide))) (Eq.trans (zs_ne hmm409 (Or.inr (by decide))) (Eq.trans (zs_ne hmm405 (Or.inl (zc_ne hc0 zq_211 (by decide)))) (zs_ne hmm399 (Or.inr (by decide)))))))
              refine zw_bd (zw_mono (zk_89 n hIm583 hc0 hRNSm583 hRWDm583) (fun v586 m585 hqm585 => ?_))
              obtain ⟨hIm585, hfm585, hvm585⟩ := hqm585
              have hFm585 := zfr_tr hFm583 hfm585 rfl
              obtain ⟨hRNSm585, hRTRm585, hRWDm585, hvm585⟩ := hvm585
              have g589 := zwt_fr (zdis_fr hfm585 rfl)
              have hRKNm585 := zR_KN_fr (zdis_fr hfm585 rfl) hRKNm583
              have g590 := zwt_bd hIm585 hc0
              have s591 := hRNSm585 a0 hc0
              have s592 := hRTRm585 a0 hc0
              have r593 : 0 ≤ (m585 a0 7) ∧ (m585 a0 7) ≤ 700 := zi_rd hIm585 hc0 zb_28_7
              have r594 : 0 ≤ (m585 a0 8) ∧ (m585 a0 8) ≤ 6 := zi_rd hIm585 hc0 zb_28_8
              refine zw_b (by omega) ?_
              have r595 : 0 ≤ (m585 a0 21) ∧ (m585 a0 21) ≤ 64 := zi_rd hIm585 hc0 zb_28_21
              have e596 : (m585 a0 21) = (mh a0 21) := (Eq.trans (zfr_ap hfm585 hc0 rfl) (Eq.trans (zs_ne hmm583 (Or.inr (by decide))) (Eq.trans (zs_ne hmm412 (Or.inr (by decide))) (Eq.trans (zs_ne hmm409 (Or.inr (by decide))) (Eq.trans (zs_ne hmm405 (Or.inl (zc_ne hc0 zq_211 (by decide)))) (zs_ne hmm399 (Or.inr (by decide))))))))
              have r597 : 0 ≤ (m585 a0 48) ∧ (m585 a0 48) ≤ 64 := zi_rd hIm585 hc0 zb_28_48
              have e598 : (m585 a0 48) = (zu_w32 ((mh a0 48) + 1)) := (Eq.trans (zfr_ap hfm585 hc0 rfl) (Eq.trans (zs_ne hmm583 (Or.inr (by decide))) (Eq.trans (zs_ne hmm412 (Or.inr (by decide))) (Eq.trans (zs_ne hmm409 (Or.inr (by decide))) (Eq.trans (zs_ne hmm405 (Or.inl (zc_ne hc0 zq_211 (by decide)))) (zs_eq hmm399))))))
              have r599 : 0 ≤ (m585 a0 46) ∧ (m585 a0 46) ≤ 96 := zi_rd hIm585 hc0 zb_28_46
              have e600 : (m585 a0 46) = (mh a0 46) := (Eq.trans (zfr_ap hfm585 hc0 rfl) (Eq.trans (zs_ne hmm583 (Or.inr (by decide))) (Eq.trans (zs_ne hmm412 (Or.inr (by decide))) (Eq.trans (zs_ne hmm409 (Or.inr (by decide))) (Eq.trans (zs_ne hmm405 (Or.inl (zc_ne hc0 zq_211 (by decide)))) (zs_ne hmm399 (Or.inr (by decide))))))))
              have r601 : 0 ≤ (m585 a0 49) ∧ (m585 a0 49) ≤ 1 := zi_rd hIm585 hc0 zb_28_49
              have e602 : (m585 a0 49) = 1 := (Eq.trans (zfr_ap hfm585 hc0 rfl) (Eq.trans (zs_ne hmm583 (Or.inr (by decide))) (zs_eq hmm412)))
              have r603 : 0 ≤ (m585 a0 45) ∧ (m585 a0 45) ≤ 96 := zi_rd hIm585 hc0 zb_28_45
              have e604 : (m585 a0 45) = (zu_w32 ((m405 a0 45) + 1)) := (Eq.trans (zfr_ap hfm585 hc0 rfl) (Eq.trans (zs_ne hmm583 (Or.inr (by decide))) (Eq.trans (zs_ne hmm412 (Or.inr (by decide))) (zs_eq hmm409))))
              have r605 : 0 ≤ (m585 a0 47) ∧ (m585 a0 47) ≤ 8 := zi_rd hIm585 hc0 zb_28_47
              have e606 : (m585 a0 47) = (mh a0 47) := (Eq.trans (zfr_ap hfm585 hc0 rfl) (Eq.trans (zs_ne hmm583 (Or.inr (by decide))) (Eq.trans (zs_ne hmm412 (Or.inr (by decide))) (Eq.trans (zs_ne hmm409 (Or.inr (by decide))) (Eq.trans (zs_ne hmm405 (Or.inl (zc_ne hc0 zq_211 (by decide)))) (zs_ne hmm399 (Or.inr (by decide))))))))
              have r607 : (-2147483648) ≤ (m585 a0 4) ∧ (m585 a0 4) ≤ 2147483647 := zi_rd hIm585 hc0 zb_28_4
              have e608 : (m585 a0 4) = (mh a0 4) := (Eq.trans (zfr_ap hfm585 hc0 rfl) (Eq.trans (zs_ne hmm583 (Or.inr (by decide))) (Eq.trans (zs_ne hmm412 (Or.inr (by decide))) (Eq.trans (zs_ne hmm409 (Or.inr (by decide))) (Eq.trans (zs_ne hmm405 (Or.inl (zc_ne hc0 zq_211 (by decide)))) (zs_ne hmm399 (Or.inr (by decide))))))))
              exact zw_some ⟨hIm585, hFm585, hRKNm585, hRNSm585, hRTRm585, hRWDm585, ⟨by omega, by omega⟩, by omega, by omega, by omega, by omega, by omega, by omega, by omega, by omega⟩
            · exfalso; omega
        · exfalso; omega
      · refine zw_bd (zw_eq (zu_call_at (zt_T n) (zm_85 n) (zdp_85 n) _ _ _ _ _ rfl (zr_85_0 n _ _ a0 2 mh)) ?_)
        generalize hmm609 : zu_up mh a0 4 2 = m609
        have hIm609 := zi_up hmm609 hImh hc0 zb_28_4 (by omega) (by omega)
        have hFm609 := zfr_up hmm609 hFmh hc0 rfl
        have g610 := zwt_fr (zdis_fr (zfr_up hmm609 (zfr_rf [(28, 5)] _) hc0 rfl) rfl)
        have hRKNm609 := zR_KN_fr (zdis_fr (zfr_up hmm609 (zfr_rf [(28, 5)] _) hc0 rfl) rfl) hRKNmh
        have hRNSm609 := zR_NS_fr (zdis_fr (zfr_up hmm609 (zfr_rf [(28, 5)] _) hc0 rfl) rfl) hRNSmh
        have hRTRm609 := zR_TR_fr (zdis_fr (zfr_up hmm609 (zfr_rf [(28, 5)] _) hc0 rfl) rfl) hRTRmh
        have hRWDm609 := zR_WD_fr (zdis_fr (zfr_up hmm609 (zfr_rf [(28, 5)] _) hc0 rfl) rfl) hRWDmh
        have hRLRm609 := zLR_wr (zone_190 hc0) hmm609 (by decide)
        have r611 : 0 ≤ (m609 a0 10) ∧ (m609 a0 10) ≤ 700 := zi_rd hIm609 hc0 zb_28_10
        generalize hmm612 : zu_up m609 a0 5 (m609 a0 10) = m612
        have hIm612 := zi_up hmm612 hIm609 hc0 zb_28_5 (by omega) (by omega)
        have hFm612 := zfr_up hmm612 hFm609 hc0 rfl
        have g613 := zwt_fr (zdis_fr (zfr_up hmm612 (zfr_rf [(28, 6)] _) hc0 rfl) rfl)
        have hRKNm612 := zR_KN_fr (zdis_fr (zfr_up hmm612 (zfr_rf [(28, 6)] _) hc0 rfl) rfl) hRKNm609
        have hRLRm612 := zR_LR_fr (zdis_fr (zfr_up hmm612 (zfr_rf [(28, 6)] _) hc0 rfl) rfl) hRLRm609
        have hRNSm612 := zR_NS_fr (zdis_fr (zfr_up hmm612 (zfr_rf [(28, 6)] _) hc0 rfl) rfl) hRNSm609
        have hRTRm612 := zR_TR_fr (zdis_fr (zfr_up hmm612 (zfr_rf [(28, 6)] _) hc0 rfl) rfl) hRTRm609
        have hRWDm612 := zR_WD_fr (zdis_fr (zfr_up hmm612 (zfr_rf [(28, 6)] _) hc0 rfl) rfl) hRWDm609
        refine zw_b (by omega) ?_
        refine zw_some ?_
        refine zw_b (by omega) ?_
        refine zw_some ?_
        refine zw_ite (fun h614 => ?_) (fun h614 => ?_)
        · exfalso; omega
        · refine zw_b (by omega) ?_
          have r615 : 0 ≤ (m612 a0 7) ∧ (m612 a0 7) ≤ 700 := zi_rd hIm612 hc0 zb_28_7
          have e616 : (m612 a0 7) = (mh a0 7) := (Eq.trans (zs_ne hmm612 (Or.inr (by decide))) (zs_ne hmm609 (Or.inr (by decide))))
          have r617 : 0 ≤ (m612 a0 8) ∧ (m612 a0 8) ≤ 6 := zi_rd hIm612 hc0 zb_28_8
          have r618 : 0 ≤ (m612 a0 21) ∧ (m612 a0 21) ≤ 64 := zi_rd hIm612 hc0 zb_28_21
          have e619 : (m612 a0 21) = (mh a0 21) := (Eq.trans (zs_ne hmm612 (Or.inr (by decide))) (zs_ne hmm609 (Or.inr (by decide))))
          have r620 : 0 ≤ (m612 a0 48) ∧ (m612 a0 48) ≤ 64 := zi_rd hIm612 hc0 zb_28_48
          have e621 : (m612 a0 48) = (mh a0 48) := (Eq.trans (zs_ne hmm612 (Or.inr (by decide))) (zs_ne hmm609 (Or.inr (by decide))))
          have r622 : 0 ≤ (m612 a0 46) ∧ (m612 a0 46) ≤ 96 := zi_rd hIm612 hc0 zb_28_46
          have e623 : (m612 a0 46) = (mh a0 46) := (Eq.trans (zs_ne hmm612 (Or.inr (by decide))) (zs_ne hmm609 (Or.inr (by decide))))
          have r624 : 0 ≤ (m612 a0 49) ∧ (m612 a0 49) ≤ 1 := zi_rd hIm612 hc0 zb_28_49
          have e625 : (m612 a0 49) = (mh a0 49) := (Eq.trans (zs_ne hmm612 (Or.inr (by decide))) (zs_ne hmm609 (Or.inr (by decide))))
          have r626 : 0 ≤ (m612 a0 45) ∧ (m612 a0 45) ≤ 96 := zi_rd hIm612 hc0 zb_28_45
          have e627 : (m612 a0 45) = (mh a0 45) := (Eq.trans (zs_ne hmm612 (Or.inr (by decide))) (zs_ne hmm609 (Or.inr (by decide))))
          have r628 : 0 ≤ (m612 a0 47) ∧ (m612 a0 47) ≤ 8 := zi_rd hIm612 hc0 zb_28_47
          have e629 : (m612 a0 47) = (mh a0 47) := (Eq.trans (zs_ne hmm612 (Or.inr (by decide))) (zs_ne hmm609 (Or.inr (by decide))))
          have r630 : (-2147483648) ≤ (m612 a0 4) ∧ (m612 a0 4) ≤ 2147483647 := zi_rd hIm612 hc0 zb_28_4
          have e631 : (m612 a0 4) = 2 := (Eq.trans (zs_ne hmm612 (Or.inr (by decide))) (zs_eq hmm609))
          exact zw_some ⟨hIm612, hFm612, hRKNm612, hRNSm612, hRTRm612, hRWDm612, ⟨by omega, by omega⟩, by omega, by omega, by omega, by omega, by omega, by omega, by omega, by omega⟩
set_option maxHeartbeats 4000000 in
theorem zl_117 (n : Nat) {a0 : Int} {m0 : zu_m} (hc0 : zcls a0 = 28)  (hxp0 : (m0 a0 21) + znz m0 = (m0 a0 48)) (hxp1 : (m0 a0 45) = znz m0 + (m0 a0 47)) (hxp2 : (m0 a0 46) = zbi m0 + 1) (hxp3 : (m0 a0 49) = 0) (hxp4 : 1 ≤ (m0 a0 21)) : ∀ k : Nat, (∀ (mh : zu_m), zi_I mh → zfr [(28, 5), (28, 6), (28, 8), (28, 9), (28, 10), (28, 11), (28, 22), (28, 46), (28, 47), (28, 48), (28, 49), (28, 50), (28, 51), (117, 0), (118, 0), (119, 0), (120, 0), (121, 0)] m0 mh → (0 ≤ mh a0 49 ∧ mh a0 49 ≤ 0) → ((mh a0 21) + znz mh = (mh a0 48)) → ((mh a0 45) = znz mh + (mh a0 47)) → ((mh a0 46) = zbi mh + 1) → (1 ≤ (mh a0 21)) → ((mh a0 7) = (m0 a0 7)) → ((mh a0 8) = (m0 a0 8)) → ((mh a0 4) = (m0 a0 4)) → (zR_KN mh) → (zR_NS mh) → (zR_TR mh) → (zR_WD mh) → 2 < (k : Int) → zw (zu_ex (zt_T n) 117 47 [(40, a0), (2, 0)] [] mh) (fun v m => zi_I m ∧ zfr [(28, 5), (28, 6), (28, 8), (28, 9), (28, 10), (28, 11), (28, 22), (28, 46), (28, 47), (28, 48), (28, 49), (28, 50), (28, 51), (117, 0), (118, 0), (119, 0), (120, 0), (121, 0)] m0 m ∧ zR_KN m ∧ zR_NS m ∧ zR_TR m ∧ zR_WD m ∧ (0 ≤ v ∧ v ≤ 1) ∧ ((m0 a0 7) ≤ (m a0 7)) ∧ (v = 1 → ((m0 a0 8) ≠ 0 ∧ ((m a0 8) = 0 ∨ (m0 a0 7) < (m a0 7)))) ∧ (v = 1 → (m a0 21) + znz m = (m a0 48)) ∧ (v = 1 → (m a0 46) + (m a0 49) = zbi m + 1) ∧ (v = 1 → (m a0 45) = znz m + (m a0 47)) ∧ (v = 1 → ((m a0 49) = 0 → 1 ≤ (m a0 21))) ∧ (v = 1 → (m a0 4) = (m0 a0 4)) ∧ (v = 0 → (m a0 4) ≠ 0))) ∧ (∀ (y0 : Int) (mh : zu_m), zi_I mh → zfr [(28, 5), (28, 6), (28, 8), (28, 9), (28, 10), (28, 11), (28, 22), (28, 46), (28, 47), (28, 48), (28, 49), (28, 50), (28, 51), (117, 0), (118, 0), (119, 0), (120, 0), (121, 0)] m0 mh → (0 ≤ y0 ∧ y0 ≤ 14) → (0 ≤ mh a0 49 ∧ mh a0 49 ≤ 0) → ((mh a0 21) + znz mh = (mh a0 48)) → ((mh a0 45) = znz mh + (mh a0 47)) → ((mh a0 46) = zbi mh + 1) → (1 ≤ (mh a0 21)) → ((mh a0 7) = (m0 a0 7)) → (y0 ≠ 0 → (m0 a0 8) ≠ 0) → (y0 = 0 ∨ 3 ≤ y0) → ((mh a0 4) = (m0 a0 4)) → (zR_KN mh) → (zR_NS mh) → (zR_TR mh) → (zR_WD mh) → 1 < (k : Int) → zw (zu_ex (zt_T n) 117 147 [(40, a0), (2, 0)] [(0, y0)] mh) (fun v m => zi_I m ∧ zfr [(28, 5), (28, 6), (28, 8), (28, 9), (28, 10), (28, 11), (28, 22), (28, 46), (28, 47), (28, 48), (28, 49), (28, 50), (28, 51), (117, 0), (118, 0), (119, 0), (120, 0), (121, 0)] m0 m ∧ zR_KN m ∧ zR_NS m ∧ zR_TR m ∧ zR_WD m ∧ (0 ≤ v ∧ v ≤ 1) ∧ ((m0 a0 7) ≤ (m a0 7)) ∧ (v = 1 → ((m0 a0 8) ≠ 0 ∧ ((m a0 8) = 0 ∨ (m0 a0 7) < (m a0 7)))) ∧ (v = 1 → (m a0 21) + znz m = (m a0 48)) ∧ (v = 1 → (m a0 46) + (m a0 49) = zbi m + 1) ∧ (v = 1 → (m a0 45) = znz m + (m a0 47)) ∧ (v = 1 → ((m a0 49) = 0 → 1 ≤ (m a0 21))) ∧ (v = 1 → (m a0 4) = (m0 a0 4)) ∧ (v = 0 → (m a0 4) ≠ 0))) ∧ (∀ (x1 : Int) (mh : zu_m), zi_I mh → zfr [(28, 5), (28, 6), (28, 8), (28, 9), (28, 10), (28, 11), (28, 22), (28, 46), (28, 47), (28, 48), (28, 49), (28, 50), (28, 51), (117, 0), (118, 0), (119, 0), (120, 0), (121, 0)] m0 mh → (1 ≤ x1 ∧ x1 ≤ 14) → (0 ≤ mh a0 49 ∧ mh a0 49 ≤ 0) → ((mh a0 21) + znz mh = (mh a0 48)) → ((mh a0 45) = znz mh + (mh a0 47)) → ((mh a0 46) = zbi mh + 1) → (1 ≤ (mh a0 21)) → ((mh a0 7) = (m0 a0 7)) → ((m0 a0 8) ≠ 0) → (3 ≤ x1) → ((mh a0 4) = (m0 a0 4)) → (zR_KN mh) → (zR_NS mh) → (zR_TR mh) → (zR_WD mh) → 0 < (k : Int) → zw (zu_ex (zt_T n) 117 217 [(40, a0), (0, x1)] [] mh) (fun v m => zi_I m ∧ zfr [(28, 5), (28, 6), (28, 8), (28, 9), (28, 10), (28, 11), (28, 22), (28, 46), (28, 47), (28, 48), (28, 49), (28, 50), (28, 51), (117, 0), (118, 0), (119, 0), (120, 0), (121, 0)] m0 m ∧ zR_KN m ∧ zR_NS m ∧ zR_TR m ∧ zR_WD m ∧ (0 ≤ v ∧ v ≤ 1) ∧ ((m0 a0 7) ≤ (m a0 7)) ∧ (v = 1 → ((m0 a0 8) ≠ 0 ∧ ((m a0 8) = 0 ∨ (m0 a0 7) < (m a0 7)))) ∧ (v = 1 → (m a0 21) + znz m = (m a0 48)) ∧ (v = 1 → (m a0 46) + (m a0 49) = zbi m + 1) ∧ (v = 1 → (m a0 45) = znz m + (m a0 47)) ∧ (v = 1 → ((m a0 49) = 0 → 1 ≤ (m a0 21))) ∧ (v = 1 → (m a0 4) = (m0 a0 4)) ∧ (v = 0 → (m a0 4) ≠ 0))) := by
  intro k
  induction k with
  | zero => exact ⟨fun mh hImh hFmh hg0 hH0 hH1 hH2 hH3 hH4 hH5 hH6 hRKNmh hRNSmh hRTRmh hRWDmh hM => by exfalso; omega, fun y0 mh hImh hFmh hby0 hg1 hH0 hH1 hH2 hH3 hH4 hH5 hH6 hH7 hRKNmh hRNSmh hRTRmh hRWDmh hM => by exfalso; omega, fun x1 mh hImh hFmh hbx1 hg1 hH0 hH1 hH2 hH3 hH4 hH5 hH6 hH7 hRKNmh hRNSmh hRTRmh hRWDmh hM => by exfalso; omega⟩
  | succ k ih => exact ⟨zl_117H0 n (m0 := m0) hc0 hxp0 hxp1 hxp2 hxp3 hxp4 k ih, zl_117H1 n (m0 := m0) hc0 hxp0 hxp1 hxp2 hxp3 hxp4 k ih, zl_117H2 n (m0 := m0) hc0 hxp0 hxp1 hxp2 hxp3 hxp4 k ih⟩
set_option maxHeartbeats 4000000 in
theorem zk_117 (n : Nat) {a0 : Int} {m0 : zu_m} (hIm0 : zi_I m0) (hc0 : zcls a0 = 28)   (he0 : 0 ≤ m0 a0 49 ∧ m0 a0 49 ≤ 0) (hxp0 : (m0 a0 21) + znz m0 = (m0 a0 48)) (hxp1 : (m0 a0 45) = znz m0 + (m0 a0 47)) (hxp2 : (m0 a0 46) = zbi m0 + 1) (hxp3 : (m0 a0 49) = 0) (hxp4 : 1 ≤ (m0 a0 21)) (hRKNm0 : zR_KN m0) (hRNSm0 : zR_NS m0) (hRTRm0 : zR_TR m0) (hRWDm0 : zR_WD m0) : zw (zu_call (zt_T n) 117 [(40, a0)] m0) (fun v m => zi_I m ∧ zfr [(28, 5), (28, 6), (28, 8), (28, 9), (28, 10), (28, 11), (28, 22), (28, 46), (28, 47), (28, 48), (28, 49), (28, 50), (28, 51), (117, 0), (118, 0), (119, 0), (120, 0), (121, 0)] m0 m ∧ zR_KN m ∧ zR_NS m ∧ zR_TR m ∧ zR_WD m ∧ (0 ≤ v ∧ v ≤ 1) ∧ ((m0 a0 7) ≤ (m a0 7)) ∧ (v = 1 → ((m0 a0 8) ≠ 0 ∧ ((m a0 8) = 0 ∨ (m0 a0 7) < (m a0 7)))) ∧ (v = 1 → (m a0 21) + znz m = (m a0 48)) ∧ (v = 1 → (m a0 46) + (m a0 49) = zbi m + 1) ∧ (v = 1 → (m a0 45) = znz m + (m a0 47)) ∧ (v = 1 → ((m a0 49) = 0 → 1 ≤ (m a0 21))) ∧ (v = 1 → (m a0 4) = (m0 a0 4)) ∧ (v = 0 → (m a0 4) ≠ 0)) := by
  have hFm0 : zfr [(28, 5), (28, 6), (28, 8), (28, 9), (28, 10), (28, 11), (28, 22), (28, 46), (28, 47), (28, 48), (28, 49), (28, 50), (28, 51), (117, 0), (118, 0), (119, 0), (120, 0), (121, 0)] m0 m0 := zfr_rf _ _
  have r632 : 0 ≤ (m0 a0 7) ∧ (m0 a0 7) ≤ 700 := zi_rd hIm0 hc0 zb_28_7
  have r633 : 0 ≤ (m0 a0 8) ∧ (m0 a0 8) ≤ 6 := zi_rd hIm0 hc0 zb_28_8
  have r634 : (-2147483648) ≤ (m0 a0 4) ∧ (m0 a0 4) ≤ 2147483647 := zi_rd hIm0 hc0 zb_28_4
  have r635 : 0 ≤ (m0 a0 21) ∧ (m0 a0 21) ≤ 64 := zi_rd hIm0 hc0 zb_28_21
  have r636 : 0 ≤ (m0 a0 48) ∧ (m0 a0 48) ≤ 64 := zi_rd hIm0 hc0 zb_28_48
  have r637 : 0 ≤ (m0 a0 45) ∧ (m0 a0 45) ≤ 96 := zi_rd hIm0 hc0 zb_28_45
  have r638 : 0 ≤ (m0 a0 47) ∧ (m0 a0 47) ≤ 8 := zi_rd hIm0 hc0 zb_28_47
  have r639 : 0 ≤ (m0 a0 46) ∧ (m0 a0 46) ≤ 96 := zi_rd hIm0 hc0 zb_28_46
  have g640 := zwt_bd hIm0 hc0
  have s641 := hRNSm0 a0 hc0
  have s642 := hRTRm0 a0 hc0
  refine zw_eq (zu_call_at (zt_T n) (zm_117 n) (zdp_117 n) _ _ _ _ _ rfl (zr_117_0 n _ _ a0 m0)) ?_
  refine zw_bd (zw_eq (zu_call_at (zt_T n) (zm_93 n) (zdp_93 n) _ _ _ _ _ rfl (zr_93_0 n _ _ a0 41 m0)) ?_)
  refine zw_ite (fun h643 => ?_) (fun h643 => ?_)
  · refine zw_b (by omega) ?_
    refine zw_some ?_
    refine zw_ite (fun h644 => ?_) (fun h644 => ?_)
    · have hM : 2 < ((3 : Nat) : Int) := by omega
      exact (zl_117 n (m0 := m0) hc0 hxp0 hxp1 hxp2 hxp3 hxp4 3).1  m0 hIm0 hFm0 ⟨by omega, by omega⟩ (by omega) (by omega) (by omega) (by omega) (by omega) (by omega) (by omega) hRKNm0 hRNSm0 hRTRm0 hRWDm0 hM
    · exfalso; omega
  · have r645 : (-2147483648) ≤ (m0 a0 9) ∧ (m0 a0 9) ≤ 2147483647 := zi_rd hIm0 hc0 zb_28_9
    refine zw_ite (fun h646 => ?_) (fun h646 => ?_)
    · refine zw_b (by omega) ?_
      refine zw_some ?_
      refine zw_ite (fun h647 => ?_) (fun h647 => ?_)
      · have hM : 2 < ((3 : Nat) : Int) := by omega
        exact (zl_117 n (m0 := m0) hc0 hxp0 hxp1 hxp2 hxp3 hxp4 3).1  m0 hIm0 hFm0 ⟨by omega, by omega⟩ (by omega) (by omega) (by omega) (by omega) (by omega) (by omega) (by omega) hRKNm0 hRNSm0 hRTRm0 hRWDm0 hM
      · exfalso; omega
    · refine zw_b (by omega) ?_
      refine zw_some ?_
      refine zw_ite (fun h648 => ?_) (fun h648 => ?_)
      · exfalso; omega
      · refine zw_ite (fun h649 => ?_) (fun h649 => ?_)
        · have hM : 2 < ((3 : Nat) : Int) := by omega
          exact (zl_117 n (m0 := m0) hc0 hxp0 hxp1 hxp2 hxp3 hxp4 3).1  m0 hIm0 hFm0 ⟨by omega, by omega⟩ (by omega) (by omega) (by omega) (by omega) (by omega) (by omega) (by omega) hRKNm0 hRNSm0 hRTRm0 hRWDm0 hM
        · refine zw_bd (zw_mono (zk_112 n hIm0 hc0 ⟨by omega, by omega⟩ (by omega) (by omega) (by omega) hRKNm0) (fun v651 m650 hqm650 => ?_))
          obtain ⟨hIm650, hfm650, hvm650⟩ := hqm650
          have hFm650 := zfr_tr hFm0 hfm650 rfl
          obtain ⟨hRKNm650, hvm650⟩ := hvm650
          have hRNSm650 := zR_NS_fr (zdis_fr hfm650 rfl) hRNSm0
          have hRTRm650 := zR_TR_fr (zdis_fr hfm650 rfl) hRTRm0
          have hRWDm650 := zR_WD_fr (zdis_fr hfm650 rfl) hRWDm0
          have g652 := zwt_bd hIm650 hc0
          have s653 := hRNSm650 a0 hc0
          have s654 := hRTRm650 a0 hc0
          have r655 : 0 ≤ (m650 a0 21) ∧ (m650 a0 21) ≤ 64 := zi_rd hIm650 hc0 zb_28_21
          have r656 : 0 ≤ (m650 a0 46) ∧ (m650 a0 46) ≤ 96 := zi_rd hIm650 hc0 zb_28_46
          have r657 : 0 ≤ (m650 a0 45) ∧ (m650 a0 45) ≤ 96 := zi_rd hIm650 hc0 zb_28_45
          have w658 := zu_w32_id (z := (m650 a0 45) - 1) (by omega) (by omega)
          generalize hmm659 : zu_up m650 a0 45 (zu_w32 ((m650 a0 45) - 1)) = m659
          have hIm659 := zi_up hmm659 hIm650 hc0 zb_28_45 (by omega) (by omega)
          have hFm659 := zfr_up hmm659 hFm650 hc0 rfl
          have hRKNm659 := zR_KN_fr (zdis_fr (zfr_up hmm659 (zfr_rf [(28, 46)] _) hc0 rfl) rfl) hRKNm650
          have hRNSm659 := zR_NS_fr (zdis_fr (zfr_up hmm659 (zfr_rf [(28, 46)] _) hc0 rfl) rfl) hRNSm650
          have hRTRm659 := zR_TR_fr (zdis_fr (zfr_up hmm659 (zfr_rf [(28, 46)] _) hc0 rfl) rfl) hRTRm650
          have hRWDm659 := zR_WD_fr (zdis_fr (zfr_up hmm659 (zfr_rf [(28, 46)] _) hc0 rfl) rfl) hRWDm650
          have g660 := zwt_pop hmm659 hc0 (by omega) (by omega)
          have g661 := zwt_bd hIm659 hc0
          have r662 : 0 ≤ (m659 a0 47) ∧ (m659 a0 47) ≤ 8 := zi_rd hIm659 hc0 zb_28_47
          have e663 : (m659 a0 47) = (m0 a0 47) := (Eq.trans (zs_ne hmm659 (Or.inr (by decide))) (zfr_ap hfm650 hc0 rfl))
          have w664 := zu_w32_id (z := (m659 a0 47) - 1) (by omega) (by omega)
          generalize hmm665 : zu_up m659 a0 47 (zu_w32 ((m659 a0 47) - 1)) = m665
          have hIm665 := zi_up hmm665 hIm659 hc0 zb_28_47 (by omega) (by omega)
          have hFm665 := zfr_up hmm665 hFm659 hc0 rfl
          have g666 := zwt_fr (zdis_fr (zfr_up hmm665 (zfr_rf [(28, 48)] _) hc0 rfl) rfl)
          have hRKNm665 := zR_KN_fr (zdis_fr (zfr_up hmm665 (zfr_rf [(28, 48)] _) hc0 rfl) rfl) hRKNm659
          have hRNSm665 := zR_NS_fr (zdis_fr (zfr_up hmm665 (zfr_rf [(28, 48)] _) hc0 rfl) rfl) hRNSm659
          have hRTRm665 := zR_TR_fr (zdis_fr (zfr_up hmm665 (zfr_rf [(28, 48)] _) hc0 rfl) rfl) hRTRm659
          have hRWDm665 := zR_WD_fr (zdis_fr (zfr_up hmm665 (zfr_rf [(28, 48)] _) hc0 rfl) rfl) hRWDm659
          have r669 : 0 ≤ (m665 a0 7) ∧ (m665 a0 7) ≤ 700 := zi_rd hIm665 hc0 zb_28_7
          have e670 : (m665 a0 7) = (m0 a0 7) := (Eq.trans (zs_ne hmm665 (Or.inr (by decide))) (Eq.trans (zs_ne hmm659 (Or.inr (by decide))) (zfr_ap hfm650 hc0 rfl)))
          refine zw_bd (zw_mono (zk_89 n hIm665 hc0 hRNSm665 hRWDm665) (fun v668 m667 hqm667 => ?_))
          obtain ⟨hIm667, hfm667, hvm667⟩ := hqm667
          have hFm667 := zfr_tr hFm665 hfm667 rfl
          obtain ⟨hRNSm667, hRTRm667, hRWDm667, hvm667⟩ := hvm667
          have g671 := zwt_fr (zdis_fr hfm667 rfl)
          have hRKNm667 := zR_KN_fr (zdis_fr hfm667 rfl) hRKNm665
          have g672 := zwt_bd hIm667 hc0
          have s673 := hRNSm667 a0 hc0
          have s674 := hRTRm667 a0 hc0
          have r675 : 0 ≤ (m667 a0 7) ∧ (m667 a0 7) ≤ 700 := zi_rd hIm667 hc0 zb_28_7
          have r676 : 0 ≤ (m667 a0 8) ∧ (m667 a0 8) ≤ 6 := zi_rd hIm667 hc0 zb_28_8
          refine zw_b (by omega) ?_
          have r677 : 0 ≤ (m667 a0 21) ∧ (m667 a0 21) ≤ 64 := zi_rd hIm667 hc0 zb_28_21
          have e678 : (m667 a0 21) = (m650 a0 21) := (Eq.trans (zfr_ap hfm667 hc0 rfl) (Eq.trans (zs_ne hmm665 (Or.inr (by decide))) (zs_ne hmm659 (Or.inr (by decide)))))
          have r679 : 0 ≤ (m667 a0 48) ∧ (m667 a0 48) ≤ 64 := zi_rd hIm667 hc0 zb_28_48
          have e680 : (m667 a0 48) = (m0 a0 48) := (Eq.trans (zfr_ap hfm667 hc0 rfl) (Eq.trans (zs_ne hmm665 (Or.inr (by decide))) (Eq.trans (zs_ne hmm659 (Or.inr (by decide))) (zfr_ap hfm650 hc0 rfl))))
          have r681 : 0 ≤ (m667 a0 46) ∧ (m667 a0 46) ≤ 96 := zi_rd hIm667 hc0 zb_28_46
          have e682 : (m667 a0 46) = (m650 a0 46) := (Eq.trans (zfr_ap hfm667 hc0 rfl) (Eq.trans (zs_ne hmm665 (Or.inr (by decide))) (zs_ne hmm659 (Or.inr (by decide)))))
          have r683 : 0 ≤ (m667 a0 49) ∧ (m667 a0 49) ≤ 1 := zi_rd hIm667 hc0 zb_28_49
          have e684 : (m667 a0 49) = (m0 a0 49) := (Eq.trans (zfr_ap hfm667 hc0 rfl) (Eq.trans (zs_ne hmm665 (Or.inr (by decide))) (Eq.trans (zs_ne hmm659 (Or.inr (by decide))) (zfr_ap hfm650 hc0 rfl))))
          have r685 : 0 ≤ (m667 a0 45) ∧ (m667 a0 45) ≤ 96 := zi_rd hIm667 hc0 zb_28_45
          have e686 : (m667 a0 45) = (zu_w32 ((m650 a0 45) - 1)) := (Eq.trans (zfr_ap hfm667 hc0 rfl) (Eq.trans (zs_ne hmm665 (Or.inr (by decide))) (zs_eq hmm659)))
          have r687 : 0 ≤ (m667 a0 47) ∧ (m667 a0 47) ≤ 8 := zi_rd hIm667 hc0 zb_28_47
          have e688 : (m667 a0 47) = (zu_w32 ((m659 a0 47) - 1)) := (Eq.trans (zfr_ap hfm667 hc0 rfl) (zs_eq hmm665))
          have r689 : (-2147483648) ≤ (m667 a0 4) ∧ (m667 a0 4) ≤ 2147483647 := zi_rd hIm667 hc0 zb_28_4
          have e690 : (m667 a0 4) = (m0 a0 4) := (Eq.trans (zfr_ap hfm667 hc0 rfl) (Eq.trans (zs_ne hmm665 (Or.inr (by decide))) (Eq.trans (zs_ne hmm659 (Or.inr (by decide))) (zfr_ap hfm650 hc0 rfl))))
          exact zw_some ⟨hIm667, hFm667, hRKNm667, hRNSm667, hRTRm667, hRWDm667, ⟨by omega, by omega⟩, by omega, by omega, by omega, by omega, by omega, by omega, by omega, by omega⟩

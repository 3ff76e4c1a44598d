set_option maxHeartbeats 4000000 in
theorem zl_117 (n : Nat) {a0 : Int} {m0 : zu_m} (hc0 : zcls a0 = 28)  (hxp0 : (m0 a0 21) + znz m0 = (m0 a0 48)) (hxp1 : (m0 a0 45) = znz m0 + (m0 a0 47)) (hxp2 : (m0 a0 46) = zbi m0 + 1) (hxp3 : (m0 a0 49) = 0) (hxp4 : 1 ≤ (m0 a0 21)) : ∀ k : Nat, (∀ (mh : zu_m), zi_I mh → zfr [(28, 5), (28, 6), (28, 8), (28, 9), (28, 10), (28, 11), (28, 22), (28, 46), (28, 47), (28, 48), (28, 49), (28, 50), (28, 51), (117, 0), (118, 0), (119, 0), (120, 0), (121, 0)] m0 mh → (0 ≤ mh a0 49 ∧ mh a0 49 ≤ 0) → ((mh a0 21) + znz mh = (mh a0 48)) → ((mh a0 45) = znz mh + (mh a0 47)) → ((mh a0 46) = zbi mh + 1) → (1 ≤ (mh a0 21)) → ((mh a0 7) = (m0 a0 7)) → ((mh a0 8) = (m0 a0 8)) → ((mh a0 4) = (m0 a0 4)) → (zR_KN mh) → (zR_NS mh) → (zR_TR mh) → (zR_WD mh) → 2 < (k : Int) → zw (zu_ex (zt_T n) 117 47 [(40, a0), (2, 0)] [] mh) (fun v m => zi_I m ∧ zfr [(28, 5), (28, 6), (28, 8), (28, 9), (28, 10), (28, 11), (28, 22), (28, 46), (28, 47), (28, 48), (28, 49), (28, 50), (28, 51), (117, 0), (118, 0), (119, 0), (120, 0), (121, 0)] m0 m ∧ zR_KN m ∧ zR_NS m ∧ zR_TR m ∧ zR_WD m ∧ (0 ≤ v ∧ v ≤ 1) ∧ ((m0 a0 7) ≤ (m a0 7)) ∧ (v = 1 → ((m0 a0 8) ≠ 0 ∧ ((m a0 8) = 0 ∨ (m0 a0 7) < (m a0 7)))) ∧ (v = 1 → (m a0 21) + znz m = (m a0 48)) ∧ (v = 1 → (m a0 46) + (m a0 49) = zbi m + 1) ∧ (v = 1 → (m a0 45) = znz m + (m a0 47)) ∧ (v = 1 → ((m a0 49) = 0 → 1 ≤ (m a0 21))) ∧ (v = 1 → (m a0 4) = (m0 a0 4)) ∧ (v = 0 → (m a0 4) ≠ 0))) ∧ (∀ (y0 : Int) (mh : zu_m), zi_I mh → zfr [(28, 5), (28, 6), (28, 8), (28, 9), (28, 10), (28, 11), (28, 22), (28, 46), (28, 47), (28, 48), (28, 49), (28, 50), (28, 51), (117, 0), (118, 0), (119, 0), (120, 0), (121, 0)] m0 mh → (0 ≤ y0 ∧ y0 ≤ 14) → (0 ≤ mh a0 49 ∧ mh a0 49 ≤ 0) → ((mh a0 21) + znz mh = (mh a0 48)) → ((mh a0 45) = znz mh + (mh a0 47)) → ((mh a0 46) = zbi mh + 1) → (1 ≤ (mh a0 21)) → ((mh a0 7) = (m0 a0 7)) → (y0 ≠ 0 → (m0 a0 8) ≠ 0) → (y0 = 0 ∨ 3 ≤ y0) → ((mh a0 4) = (m0 a0 4)) → (zR_KN mh) → (zR_NS mh) → (zR_TR mh) → (zR_WD mh) → 1 < (k : Int) → zw (zu_ex (zt_T n) 117 147 [(40, a0), (2, 0)] [(0, y0)] mh) (fun v m => zi_I m ∧ zfr [(28, 5), (28, 6), (28, 8), (28, 9), (28, 10), (28, 11), (28, 22), (28, 46), (28, 47), (28, 48), (28, 49), (28, 50), (28, 51), (117, 0), (118, 0), (119, 0), (120, 0), (121, 0)] m0 m ∧ zR_KN m ∧ zR_NS m ∧ zR_TR m ∧ zR_WD m ∧ (0 ≤ v ∧ v ≤ 1) ∧ ((m0 a0 7) ≤ (m a0 7)) ∧ (v = 1 → ((m0 a0 8) ≠ 0 ∧ ((m a0 8) = 0 ∨ (m0 a0 7) < (m a0 7)))) ∧ (v = 1 → (m a0 21) + znz m = (m a0 48)) ∧ (v = 1 → (m a0 46) + (m a0 49) = zbi m + 1) ∧ (v = 1 → (m a0 45) = znz m + (m a0 47)) ∧ (v = 1 → ((m a0 49) = 0 → 1 ≤ (m a0 21))) ∧ (v = 1 → (m a0 4) = (m0 a0 4)) ∧ (v = 0 → (m a0 4) ≠ 0))) ∧ (∀ (x1 : Int) (mh : zu_m), zi_I mh → zfr [(28, 5), (28, 6), (28, 8), (28, 9), (28, 10), (28, 11), (28, 22), (28, 46), (28, 47), (28, 48), (28, 49), (28, 50), (28, 51), (117, 0), (118, 0), (119, 0), (120, 0), (121, 0)] m0 mh → (1 ≤ x1 ∧ x1 ≤ 14) → (0 ≤ mh a0 49 ∧ mh a0 49 ≤ 0) → ((mh a0 21) + znz mh = (mh a0 48)) → ((mh a0 45) = znz mh + (mh a0 47)) → ((mh a0 46) = zbi mh + 1) → (1 ≤ (mh a0 21)) → ((mh a0 7) = (m0 a0 7)) → ((m0 a0 8) ≠ 0) → (3 ≤ x1) → ((mh a0 4) = (m0 a0 4)) → (zR_KN mh) → (zR_NS mh) → (zR_TR mh) → (zR_WD mh) → 0 < (k : Int) → zw (zu_ex (zt_T n) 117 217 [(40, a0), (0, x1)] [] mh) (fun v m => zi_I m ∧ zfr [(28, 5), (28, 6), (28, 8), (28, 9), (28, 10), (28, 11), (28, 22), (28, 46), (28, 47), (28, 48), (28, 49), (28, 50), (28, 51), (117, 0), (118, 0), (119, 0), (120, 0), (121, 0)] m0 m ∧ zR_KN m ∧ zR_NS m ∧ zR_TR m ∧ zR_WD m ∧ (0 ≤ v ∧ v ≤ 1) ∧ ((m0 a0 7) ≤ (m a0 7)) ∧ (v = 1 → ((m0 a0 8) ≠ 0 ∧ ((m a0 8) = 0 ∨ (m0 a0 7) < (m a0 7)))) ∧ (v = 1 → (m a0 21) + znz m = (m a0 48)) ∧ (v = 1 → (m a0 46) + (m a0 49) = zbi m + 1) ∧ (v = 1 → (m a0 45) = znz m + (m a0 47)) ∧ (v = 1 → ((m a0 49) = 0 → 1 ≤ (m a0 21))) ∧ (v = 1 → (m a0 4) = (m0 a0 4)) ∧ (v = 0 → (m a0 4) ≠ 0))) := by
  intro k
  induction k with
  | zero => exact ⟨fun mh hImh hFmh hg0 hH0 hH1 hH2 hH3 hH4 hH5 hH6 hRKNmh hRNSmh hRTRmh hRWDmh hM => by exfalso; omega, fun y0 mh hImh hFmh hby0 hg1 hH0 hH1 hH2 hH3 hH4 hH5 hH6 hH7 hRKNmh hRNSmh hRTRmh hRWDmh hM => by exfalso; omega, fun x1 mh hImh hFmh hbx1 hg1 hH0 hH1 hH2 hH3 hH4 hH5 hH6 hH7 hRKNmh hRNSmh hRTRmh hRWDmh hM => by exfalso; omega⟩
  | succ k ih =>
    refine ⟨?_, ?_, ?_⟩
    · intro mh hImh hFmh hg0 hH0 hH1 hH2 hH3 hH4 hH5 hH6 hRKNmh hRNSmh hRTRmh hRWDmh hM
      refine zw_eq (zu_rega_at (zt_T n) (zm_117 n) (zdp_117 n) _ _ _ _ _ _ (zr_117_47 n _ _ a0 mh)) ?_
      have r1 : 0 ≤ (mh a0 21) ∧ (mh a0 21) ≤ 64 := zi_rd hImh hc0 zb_28_21
      have r2 : 0 ≤ (mh a0 48) ∧ (mh a0 48) ≤ 64 := zi_rd hImh hc0 zb_28_48
      have r3 : 0 ≤ (mh a0 45) ∧ (mh a0 45) ≤ 96 := zi_rd hImh hc0 zb_28_45
      have r4 : 0 ≤ (mh a0 47) ∧ (mh a0 47) ≤ 8 := zi_rd hImh hc0 zb_28_47
      have r5 : 0 ≤ (mh a0 46) ∧ (mh a0 46) ≤ 96 := zi_rd hImh hc0 zb_28_46
      have r6 : 0 ≤ (mh a0 7) ∧ (mh a0 7) ≤ 700 := zi_rd hImh hc0 zb_28_7
      have r7 : 0 ≤ (mh a0 8) ∧ (mh a0 8) ≤ 6 := zi_rd hImh hc0 zb_28_8
      have r8 : (-2147483648) ≤ (mh a0 4) ∧ (mh a0 4) ≤ 2147483647 := zi_rd hImh hc0 zb_28_4
      have g9 := zwt_bd hImh hc0
      have s10 := hRNSmh a0 hc0
      have s11 := hRTRmh a0 hc0
      refine zw_bd (zw_eq (zu_call_at (zt_T n) (zm_92 n) (zdp_92 n) _ _ _ _ _ rfl (zr_92_0 n _ _ a0 23 mh)) ?_)
      refine zw_ite (fun h12 => ?_) (fun h12 => ?_)
      · refine zw_b (by omega) ?_
        refine zw_some ?_
        refine zw_ite (fun h13 => ?_) (fun h13 => ?_)
        · refine zw_bd (zw_eq (zu_call_at (zt_T n) (zm_92 n) (zdp_92 n) _ _ _ _ _ rfl (zr_92_0 n _ _ a0 24 mh)) ?_)
          refine zw_ite (fun h14 => ?_) (fun h14 => ?_)
          · refine zw_b (by omega) ?_
            refine zw_some ?_
            refine zw_ite (fun h15 => ?_) (fun h15 => ?_)
            · refine zw_ite (fun h16 => ?_) (fun h16 => ?_)
              · refine zw_bd (zw_eq (zu_call_at (zt_T n) (zm_93 n) (zdp_93 n) _ _ _ _ _ rfl (zr_93_0 n _ _ a0 43 mh)) ?_)
                refine zw_ite (fun h17 => ?_) (fun h17 => ?_)
                · refine zw_b (by omega) ?_
                  refine zw_some ?_
                  refine zw_ite (fun h18 => ?_) (fun h18 => ?_)
                  · refine zw_bd (zw_eq (zu_call_at (zt_T n) (zm_93 n) (zdp_93 n) _ _ _ _ _ rfl (zr_93_0 n _ _ a0 45 mh)) ?_)
                    refine zw_ite (fun h19 => ?_) (fun h19 => ?_)
                    · refine zw_b (by omega) ?_
                      refine zw_some ?_
                      refine zw_ite (fun h20 => ?_) (fun h20 => ?_)
                      · refine zw_bd (zw_eq (zu_call_at (zt_T n) (zm_93 n) (zdp_93 n) _ _ _ _ _ rfl (zr_93_0 n _ _ a0 42 mh)) ?_)
                        refine zw_ite (fun h21 => ?_) (fun h21 => ?_)
                        · refine zw_b (by omega) ?_
                          refine zw_some ?_
                          refine zw_ite (fun h22 => ?_) (fun h22 => ?_)
                          · refine zw_bd (zw_eq (zu_call_at (zt_T n) (zm_93 n) (zdp_93 n) _ _ _ _ _ rfl (zr_93_0 n _ _ a0 47 mh)) ?_)
                            refine zw_ite (fun h23 => ?_) (fun h23 => ?_)
                            · refine zw_b (by omega) ?_
                              refine zw_some ?_
                              refine zw_ite (fun h24 => ?_) (fun h24 => ?_)
                              · have hM : 1 < (k : Int) := by omega
                                exact ih.2.1 0 mh hImh hFmh ⟨by omega, by omega⟩ ⟨by omega, by omega⟩ (by omega) (by omega) (by omega) (by omega) (by omega) (by omega) (by omega) (by omega) hRKNmh hRNSmh hRTRmh hRWDmh hM
                              · exfalso; omega
                            · exfalso; omega
                          · exfalso; omega
                        · exfalso; omega
                      · exfalso; omega
                    · exfalso; omega
                  · exfalso; omega
                · have r25 : (-2147483648) ≤ (mh a0 9) ∧ (mh a0 9) ≤ 2147483647 := zi_rd hImh hc0 zb_28_9
                  refine zw_ite (fun h26 => ?_) (fun h26 => ?_)
                  · refine zw_b (by omega) ?_
                    refine zw_some ?_
                    refine zw_ite (fun h27 => ?_) (fun h27 => ?_)
                    · refine zw_bd (zw_eq (zu_call_at (zt_T n) (zm_93 n) (zdp_93 n) _ _ _ _ _ rfl (zr_93_0 n _ _ a0 45 mh)) ?_)
                      refine zw_ite (fun h28 => ?_) (fun h28 => ?_)
                      · exfalso; omega
                      · refine zw_ite (fun h29 => ?_) (fun h29 => ?_)
                        · refine zw_b (by omega) ?_
                          refine zw_some ?_
                          refine zw_ite (fun h30 => ?_) (fun h30 => ?_)
                          · refine zw_bd (zw_eq (zu_call_at (zt_T n) (zm_93 n) (zdp_93 n) _ _ _ _ _ rfl (zr_93_0 n _ _ a0 42 mh)) ?_)
                            refine zw_ite (fun h31 => ?_) (fun h31 => ?_)
                            · exfalso; omega
                            · refine zw_ite (fun h32 => ?_) (fun h32 => ?_)
                              · refine zw_b (by omega) ?_
                                refine zw_some ?_
                                refine zw_ite (fun h33 => ?_) (fun h33 => ?_)
                                · refine zw_bd (zw_eq (zu_call_at (zt_T n) (zm_93 n) (zdp_93 n) _ _ _ _ _ rfl (zr_93_0 n _ _ a0 47 mh)) ?_)
                                  refine zw_ite (fun h34 => ?_) (fun h34 => ?_)
                                  · exfalso; omega
                                  · refine zw_ite (fun h35 => ?_) (fun h35 => ?_)
                                    · refine zw_b (by omega) ?_
                                      refine zw_some ?_
                                      refine zw_ite (fun h36 => ?_) (fun h36 => ?_)
                                      · have hM : 1 < (k : Int) := by omega
                                        exact ih.2.1 0 mh hImh hFmh ⟨by omega, by omega⟩ ⟨by omega, by omega⟩ (by omega) (by omega) (by omega) (by omega) (by omega) (by omega) (by omega) (by omega) hRKNmh hRNSmh hRTRmh hRWDmh hM
                                      · exfalso; omega
                                    · refine zw_b (by omega) ?_
                                      refine zw_some ?_
                                      refine zw_ite (fun h37 => ?_) (fun h37 => ?_)
                                      · exfalso; omega
                                      · have hM : 1 < (k : Int) := by omega
                                        exact ih.2.1 14 mh hImh hFmh ⟨by omega, by omega⟩ ⟨by omega, by omega⟩ (by omega) (by omega) (by omega) (by omega) (by omega) (by omega) (by omega) (by omega) hRKNmh hRNSmh hRTRmh hRWDmh hM
                                · exfalso; omega
                              · refine zw_b (by omega) ?_
                                refine zw_some ?_
                                refine zw_ite (fun h38 => ?_) (fun h38 => ?_)
                                · exfalso; omega
                                · have hM : 1 < (k : Int) := by omega
                                  exact ih.2.1 13 mh hImh hFmh ⟨by omega, by omega⟩ ⟨by omega, by omega⟩ (by omega) (by omega) (by omega) (by omega) (by omega) (by omega) (by omega) (by omega) hRKNmh hRNSmh hRTRmh hRWDmh hM
                          · exfalso; omega
                        · refine zw_b (by omega) ?_
                          refine zw_some ?_
                          refine zw_ite (fun h39 => ?_) (fun h39 => ?_)
                          · exfalso; omega
                          · have hM : 1 < (k : Int) := by omega
                            exact ih.2.1 12 mh hImh hFmh ⟨by omega, by omega⟩ ⟨by omega, by omega⟩ (by omega) (by omega) (by omega) (by omega) (by omega) (by omega) (by omega) (by omega) hRKNmh hRNSmh hRTRmh hRWDmh hM
                    · exfalso; omega
                  · refine zw_b (by omega) ?_
                    refine zw_some ?_
                    refine zw_ite (fun h40 => ?_) (fun h40 => ?_)
                    · exfalso; omega
                    · have hM : 1 < (k : Int) := by omega
                      exact ih.2.1 11 mh hImh hFmh ⟨by omega, by omega⟩ ⟨by omega, by omega⟩ (by omega) (by omega) (by omega) (by omega) (by omega) (by omega) (by omega) (by omega) hRKNmh hRNSmh hRTRmh hRWDmh hM
              · have w41 := zu_w32_id (z := 5 + (mh a0 9)) (by omega) (by omega)
                have hM : 1 < (k : Int) := by omega
                exact ih.2.1 (zu_w32 (5 + (mh a0 9))) mh hImh hFmh ⟨by omega, by omega⟩ ⟨by omega, by omega⟩ (by omega) (by omega) (by omega) (by omega) (by omega) (by omega) (by omega) (by omega) hRKNmh hRNSmh hRTRmh hRWDmh hM
            · exfalso; omega
          · exfalso; omega
        · exfalso; omega
      · refine zw_ite (fun h42 => ?_) (fun h42 => ?_)
        · refine zw_b (by omega) ?_
          refine zw_some ?_
          refine zw_ite (fun h43 => ?_) (fun h43 => ?_)
          · refine zw_bd (zw_eq (zu_call_at (zt_T n) (zm_92 n) (zdp_92 n) _ _ _ _ _ rfl (zr_92_0 n _ _ a0 24 mh)) ?_)
            refine zw_ite (fun h44 => ?_) (fun h44 => ?_)
            · exfalso; omega
            · refine zw_ite (fun h45 => ?_) (fun h45 => ?_)
              · refine zw_b (by omega) ?_
                refine zw_some ?_
                refine zw_ite (fun h46 => ?_) (fun h46 => ?_)
                · refine zw_ite (fun h47 => ?_) (fun h47 => ?_)
                  · refine zw_bd (zw_eq (zu_call_at (zt_T n) (zm_93 n) (zdp_93 n) _ _ _ _ _ rfl (zr_93_0 n _ _ a0 43 mh)) ?_)
                    refine zw_ite (fun h48 => ?_) (fun h48 => ?_)
                    · refine zw_b (by omega) ?_
                      refine zw_some ?_
                      refine zw_ite (fun h49 => ?_) (fun h49 => ?_)
                      · refine zw_bd (zw_eq (zu_call_at (zt_T n) (zm_93 n) (zdp_93 n) _ _ _ _ _ rfl (zr_93_0 n _ _ a0 45 mh)) ?_)
                        refine zw_ite (fun h50 => ?_) (fun h50 => ?_)
                        · refine zw_b (by omega) ?_
                          refine zw_some ?_
                          refine zw_ite (fun h51 => ?_) (fun h51 => ?_)
                          · refine zw_bd (zw_eq (zu_call_at (zt_T n) (zm_93 n) (zdp_93 n) _ _ _ _ _ rfl (zr_93_0 n _ _ a0 42 mh)) ?_)
                            refine zw_ite (fun h52 => ?_) (fun h52 => ?_)
                            · refine zw_b (by omega) ?_
                              refine zw_some ?_
                              refine zw_ite (fun h53 => ?_) (fun h53 => ?_)
                              · refine zw_bd (zw_eq (zu_call_at (zt_T n) (zm_93 n) (zdp_93 n) _ _ _ _ _ rfl (zr_93_0 n _ _ a0 47 mh)) ?_)
                                refine zw_ite (fun h54 => ?_) (fun h54 => ?_)
                                · refine zw_b (by omega) ?_
                                  refine zw_some ?_
                                  refine zw_ite (fun h55 => ?_) (fun h55 => ?_)
                                  · have hM : 1 < (k : Int) := by omega
                                    exact ih.2.1 0 mh hImh hFmh ⟨by omega, by omega⟩ ⟨by omega, by omega⟩ (by omega) (by omega) (by omega) (by omega) (by omega) (by omega) (by omega) (by omega) hRKNmh hRNSmh hRTRmh hRWDmh hM
                                  · exfalso; omega
                                · exfalso; omega
                              · exfalso; omega
                            · exfalso; omega
                          · exfalso; omega
                        · exfalso; omega
                      · exfalso; omega
                    · exfalso; omega
                  · exfalso; omega
                · exfalso; omega
              · refine zw_b (by omega) ?_
                refine zw_some ?_
                refine zw_ite (fun h56 => ?_) (fun h56 => ?_)
                · exfalso; omega
                · have hM : 1 < (k : Int) := by omega
                  exact ih.2.1 4 mh hImh hFmh ⟨by omega, by omega⟩ ⟨by omega, by omega⟩ (by omega) (by omega) (by omega) (by omega) (by omega) (by omega) (by omega) (by omega) hRKNmh hRNSmh hRTRmh hRWDmh hM
          · exfalso; omega
        · refine zw_b (by omega) ?_
          refine zw_some ?_
          refine zw_ite (fun h57 => ?_) (fun h57 => ?_)
          · exfalso; omega
          · have hM : 1 < (k : Int) := by omega
            exact ih.2.1 3 mh hImh hFmh ⟨by omega, by omega⟩ ⟨by omega, by omega⟩ (by omega) (by omega) (by omega) (by omega) (by omega) (by omega) (by omega) (by omega) hRKNmh hRNSmh hRTRmh hRWDmh hM
    · intro y0 mh hImh hFmh hby0 hg1 hH0 hH1 hH2 hH3 hH4 hH5 hH6 hH7 hRKNmh hRNSmh hRTRmh hRWDmh hM
      refine zw_eq (zu_rega_at (zt_T n) (zm_117 n) (zdp_117 n) _ _ _ _ _ _ (zr_117_147 n _ _ a0 y0 mh)) ?_
      have r58 : 0 ≤ (mh a0 21) ∧ (mh a0 21) ≤ 64 := zi_rd hImh hc0 zb_28_21
      have r59 : 0 ≤ (mh a0 48) ∧ (mh a0 48) ≤ 64 := zi_rd hImh hc0 zb_28_48
      have r60 : 0 ≤ (mh a0 45) ∧ (mh a0 45) ≤ 96 := zi_rd hImh hc0 zb_28_45
      have r61 : 0 ≤ (mh a0 47) ∧ (mh a0 47) ≤ 8 := zi_rd hImh hc0 zb_28_47
      have r62 : 0 ≤ (mh a0 46) ∧ (mh a0 46) ≤ 96 := zi_rd hImh hc0 zb_28_46
      have r63 : 0 ≤ (mh a0 7) ∧ (mh a0 7) ≤ 700 := zi_rd hImh hc0 zb_28_7
      have r64 : (-2147483648) ≤ (mh a0 4) ∧ (mh a0 4) ≤ 2147483647 := zi_rd hImh hc0 zb_28_4
      have g65 := zwt_bd hImh hc0
      have s66 := hRNSmh a0 hc0
      have s67 := hRTRmh a0 hc0
      refine zw_ite (fun h68 => ?_) (fun h68 => ?_)
      · refine zw_bd (zw_eq (zu_call_at (zt_T n) (zm_109 n) (zdp_109 n) _ _ _ _ _ rfl (zr_109_0 n _ _ y0 mh)) ?_)
        refine zw_ite (fun h69 => ?_) (fun h69 => ?_)
        · refine zw_ite (fun h70 => ?_) (fun h70 => ?_)
          · refine zw_ite (fun h71 => ?_) (fun h71 => ?_)
            · refine zw_ite (fun h72 => ?_) (fun h72 => ?_)
              · refine zw_ite (fun h73 => ?_) (fun h73 => ?_)
                · refine zw_ite (fun h74 => ?_) (fun h74 => ?_)
                  · refine zw_some ?_
                    refine zw_ite (fun h75 => ?_) (fun h75 => ?_)
                    · refine zw_bd (zw_eq (zu_call_at (zt_T n) (zm_109 n) (zdp_109 n) _ _ _ _ _ rfl (zr_109_0 n _ _ y0 mh)) ?_)
                      refine zw_ite (fun h76 => ?_) (fun h76 => ?_)
                      · refine zw_ite (fun h77 => ?_) (fun h77 => ?_)
                        · refine zw_ite (fun h78 => ?_) (fun h78 => ?_)
                          · refine zw_ite (fun h79 => ?_) (fun h79 => ?_)
                            · refine zw_ite (fun h80 => ?_) (fun h80 => ?_)
                              · refine zw_ite (fun h81 => ?_) (fun h81 => ?_)
                                · refine zw_some ?_
                                  refine zw_bd (zw_mono (zk_112 n hImh hc0 ⟨by omega, by omega⟩ (by omega) (by omega) (by omega) hRKNmh) (fun v83 m82 hqm82 => ?_))
                                  obtain ⟨hIm82, hfm82, hvm82⟩ := hqm82
                                  have hFm82 := zfr_tr hFmh hfm82 rfl
                                  obtain ⟨hRKNm82, hvm82⟩ := hvm82
                                  have hRNSm82 := zR_NS_fr (zdis_fr hfm82 rfl) hRNSmh
                                  have hRTRm82 := zR_TR_fr (zdis_fr hfm82 rfl) hRTRmh
                                  have hRWDm82 := zR_WD_fr (zdis_fr hfm82 rfl) hRWDmh
                                  have g84 := zwt_bd hIm82 hc0
                                  have s85 := hRNSm82 a0 hc0
                                  have s86 := hRTRm82 a0 hc0
                                  refine zw_bd (zw_eq (zu_call_at (zt_T n) (zm_109 n) (zdp_109 n) _ _ _ _ _ rfl (zr_109_0 n _ _ y0 m82)) ?_)
                                  refine zw_ite (fun h87 => ?_) (fun h87 => ?_)
                                  · refine zw_ite (fun h88 => ?_) (fun h88 => ?_)
                                    · refine zw_ite (fun h89 => ?_) (fun h89 => ?_)
                                      · refine zw_ite (fun h90 => ?_) (fun h90 => ?_)
                                        · refine zw_ite (fun h91 => ?_) (fun h91 => ?_)
                                          · refine zw_ite (fun h92 => ?_) (fun h92 => ?_)
                                            · refine zw_some ?_
                                              refine zw_ite (fun h93 => ?_) (fun h93 => ?_)
                                              · have r94 : 0 ≤ (m82 a0 49) ∧ (m82 a0 49) ≤ 1 := zi_rd hIm82 hc0 zb_28_49
                                                have e95 : (m82 a0 49) = (mh a0 49) := (zfr_ap hfm82 hc0 rfl)
                                                have r96 : 0 ≤ (m82 a0 21) ∧ (m82 a0 21) ≤ 64 := zi_rd hIm82 hc0 zb_28_21
                                                have r97 : 0 ≤ (m82 a0 48) ∧ (m82 a0 48) ≤ 64 := zi_rd hIm82 hc0 zb_28_48
                                                have e98 : (m82 a0 48) = (mh a0 48) := (zfr_ap hfm82 hc0 rfl)
                                                have r99 : 0 ≤ (m82 a0 45) ∧ (m82 a0 45) ≤ 96 := zi_rd hIm82 hc0 zb_28_45
                                                have r100 : 0 ≤ (m82 a0 47) ∧ (m82 a0 47) ≤ 8 := zi_rd hIm82 hc0 zb_28_47
                                                have e101 : (m82 a0 47) = (mh a0 47) := (zfr_ap hfm82 hc0 rfl)
                                                have r102 : 0 ≤ (m82 a0 46) ∧ (m82 a0 46) ≤ 96 := zi_rd hIm82 hc0 zb_28_46
                                                have r103 : 0 ≤ (m82 a0 7) ∧ (m82 a0 7) ≤ 700 := zi_rd hIm82 hc0 zb_28_7
                                                have e104 : (m82 a0 7) = (mh a0 7) := (zfr_ap hfm82 hc0 rfl)
                                                have r105 : (-2147483648) ≤ (m82 a0 4) ∧ (m82 a0 4) ≤ 2147483647 := zi_rd hIm82 hc0 zb_28_4
                                                have e106 : (m82 a0 4) = (mh a0 4) := (zfr_ap hfm82 hc0 rfl)
                                                have hM : 0 < (k : Int) := by omega
                                                exact ih.2.2 y0 m82 hIm82 hFm82 ⟨by omega, by omega⟩ ⟨by omega, by omega⟩ (by omega) (by omega) (by omega) (by omega) (by omega) (by omega) (by omega) (by omega) hRKNm82 hRNSm82 hRTRm82 hRWDm82 hM
                                              · exfalso; omega
                                            · exfalso; omega
                                          · exfalso; omega
                                        · exfalso; omega
                                      · exfalso; omega
                                    · exfalso; omega
                                  · exfalso; omega
                                · exfalso; omega
                              · exfalso; omega
                            · exfalso; omega
                          · exfalso; omega
                        · exfalso; omega
                      · exfalso; omega
                    · exfalso; omega
                  · refine zw_some ?_
                    refine zw_ite (fun h107 => ?_) (fun h107 => ?_)
                    · refine zw_bd (zw_eq (zu_call_at (zt_T n) (zm_109 n) (zdp_109 n) _ _ _ _ _ rfl (zr_109_0 n _ _ y0 mh)) ?_)
                      refine zw_ite (fun h108 => ?_) (fun h108 => ?_)
                      · refine zw_ite (fun h109 => ?_) (fun h109 => ?_)
                        · refine zw_ite (fun h110 => ?_) (fun h110 => ?_)
                          · refine zw_ite (fun h111 => ?_) (fun h111 => ?_)
                            · refine zw_ite (fun h112 => ?_) (fun h112 => ?_)
                              · refine zw_ite (fun h113 => ?_) (fun h113 => ?_)
                                · exfalso; omega
                                · refine zw_some ?_
                                  refine zw_bd (zw_mono (zk_112 n hImh hc0 ⟨by omega, by omega⟩ (by omega) (by omega) (by omega) hRKNmh) (fun v115 m114 hqm114 => ?_))
                                  obtain ⟨hIm114, hfm114, hvm114⟩ := hqm114
                                  have hFm114 := zfr_tr hFmh hfm114 rfl
                                  obtain ⟨hRKNm114, hvm114⟩ := hvm114
                                  have hRNSm114 := zR_NS_fr (zdis_fr hfm114 rfl) hRNSmh
                                  have hRTRm114 := zR_TR_fr (zdis_fr hfm114 rfl) hRTRmh
                                  have hRWDm114 := zR_WD_fr (zdis_fr hfm114 rfl) hRWDmh
                                  have g116 := zwt_bd hIm114 hc0
                                  have s117 := hRNSm114 a0 hc0
                                  have s118 := hRTRm114 a0 hc0
                                  refine zw_bd (zw_eq (zu_call_at (zt_T n) (zm_109 n) (zdp_109 n) _ _ _ _ _ rfl (zr_109_0 n _ _ y0 m114)) ?_)
                                  refine zw_ite (fun h119 => ?_) (fun h119 => ?_)
                                  · refine zw_ite (fun h120 => ?_) (fun h120 => ?_)
                                    · refine zw_ite (fun h121 => ?_) (fun h121 => ?_)
                                      · refine zw_ite (fun h122 => ?_) (fun h122 => ?_)
                                        · refine zw_ite (fun h123 => ?_) (fun h123 => ?_)
                                          · refine zw_ite (fun h124 => ?_) (fun h124 => ?_)
                                            · exfalso; omega
                                            · refine zw_some ?_
                                              refine zw_ite (fun h125 => ?_) (fun h125 => ?_)
                                              · have r126 : 0 ≤ (m114 a0 49) ∧ (m114 a0 49) ≤ 1 := zi_rd hIm114 hc0 zb_28_49
                                                have e127 : (m114 a0 49) = (mh a0 49) := (zfr_ap hfm114 hc0 rfl)
                                                have r128 : 0 ≤ (m114 a0 21) ∧ (m114 a0 21) ≤ 64 := zi_rd hIm114 hc0 zb_28_21
                                                have r129 : 0 ≤ (m114 a0 48) ∧ (m114 a0 48) ≤ 64 := zi_rd hIm114 hc0 zb_28_48
                                                have e130 : (m114 a0 48) = (mh a0 48) := (zfr_ap hfm114 hc0 rfl)
                                                have r131 : 0 ≤ (m114 a0 45) ∧ (m114 a0 45) ≤ 96 := zi_rd hIm114 hc0 zb_28_45
                                                have r132 : 0 ≤ (m114 a0 47) ∧ (m114 a0 47) ≤ 8 := zi_rd hIm114 hc0 zb_28_47
                                                have e133 : (m114 a0 47) = (mh a0 47) := (zfr_ap hfm114 hc0 rfl)
                                                have r134 : 0 ≤ (m114 a0 46) ∧ (m114 a0 46) ≤ 96 := zi_rd hIm114 hc0 zb_28_46
                                                have r135 : 0 ≤ (m114 a0 7) ∧ (m114 a0 7) ≤ 700 := zi_rd hIm114 hc0 zb_28_7
                                                have e136 : (m114 a0 7) = (mh a0 7) := (zfr_ap hfm114 hc0 rfl)
                                                have r137 : (-2147483648) ≤ (m114 a0 4) ∧ (m114 a0 4) ≤ 2147483647 := zi_rd hIm114 hc0 zb_28_4
                                                have e138 : (m114 a0 4) = (mh a0 4) := (zfr_ap hfm114 hc0 rfl)
                                                have hM : 0 < (k : Int) := by omega
                                                exact ih.2.2 y0 m114 hIm114 hFm114 ⟨by omega, by omega⟩ ⟨by omega, by omega⟩ (by omega) (by omega) (by omega) (by omega) (by omega) (by omega) (by omega) (by omega) hRKNm114 hRNSm114 hRTRm114 hRWDm114 hM
                                              · exfalso; omega
                                          · exfalso; omega
                                        · exfalso; omega
                                      · exfalso; omega
                                    · exfalso; omega
                                  · exfalso; omega
                              · exfalso; omega
                            · exfalso; omega
                          · exfalso; omega
                        · exfalso; omega
                      · exfalso; omega
                    · exfalso; omega
                · refine zw_some ?_
                  refine zw_ite (fun h139 => ?_) (fun h139 => ?_)
                  · refine zw_bd (zw_eq (zu_call_at (zt_T n) (zm_109 n) (zdp_109 n) _ _ _ _ _ rfl (zr_109_0 n _ _ y0 mh)) ?_)
                    refine zw_ite (fun h140 => ?_) (fun h140 => ?_)
                    · refine zw_ite (fun h141 => ?_) (fun h141 => ?_)
                      · refine zw_ite (fun h142 => ?_) (fun h142 => ?_)
                        · refine zw_ite (fun h143 => ?_) (fun h143 => ?_)
                          · refine zw_ite (fun h144 => ?_) (fun h144 => ?_)
                            · exfalso; omega
                            · refine zw_some ?_
                              refine zw_bd (zw_mono (zk_112 n hImh hc0 ⟨by omega, by omega⟩ (by omega) (by omega) (by omega) hRKNmh) (fun v146 m145 hqm145 => ?_))
                              obtain ⟨hIm145, hfm145, hvm145⟩ := hqm145
                              have hFm145 := zfr_tr hFmh hfm145 rfl
                              obtain ⟨hRKNm145, hvm145⟩ := hvm145
                              have hRNSm145 := zR_NS_fr (zdis_fr hfm145 rfl) hRNSmh
                              have hRTRm145 := zR_TR_fr (zdis_fr hfm145 rfl) hRTRmh
                              have hRWDm145 := zR_WD_fr (zdis_fr hfm145 rfl) hRWDmh
                              have g147 := zwt_bd hIm145 hc0
                              have s148 := hRNSm145 a0 hc0
                              have s149 := hRTRm145 a0 hc0
                              refine zw_bd (zw_eq (zu_call_at (zt_T n) (zm_109 n) (zdp_109 n) _ _ _ _ _ rfl (zr_109_0 n _ _ y0 m145)) ?_)
                              refine zw_ite (fun h150 => ?_) (fun h150 => ?_)
                              · refine zw_ite (fun h151 => ?_) (fun h151 => ?_)
                                · refine zw_ite (fun h152 => ?_) (fun h152 => ?_)
                                  · refine zw_ite (fun h153 => ?_) (fun h153 => ?_)
                                    · refine zw_ite (fun h154 => ?_) (fun h154 => ?_)
                                      · exfalso; omega
                                      · refine zw_some ?_
                                        refine zw_ite (fun h155 => ?_) (fun h155 => ?_)
                                        · have r156 : 0 ≤ (m145 a0 49) ∧ (m145 a0 49) ≤ 1 := zi_rd hIm145 hc0 zb_28_49
                                          have e157 : (m145 a0 49) = (mh a0 49) := (zfr_ap hfm145 hc0 rfl)
                                          have r158 : 0 ≤ (m145 a0 21) ∧ (m145 a0 21) ≤ 64 := zi_rd hIm145 hc0 zb_28_21
                                          have r159 : 0 ≤ (m145 a0 48) ∧ (m145 a0 48) ≤ 64 := zi_rd hIm145 hc0 zb_28_48
                                          have e160 : (m145 a0 48) = (mh a0 48) := (zfr_ap hfm145 hc0 rfl)
                                          have r161 : 0 ≤ (m145 a0 45) ∧ (m145 a0 45) ≤ 96 := zi_rd hIm145 hc0 zb_28_45
                                          have r162 : 0 ≤ (m145 a0 47) ∧ (m145 a0 47) ≤ 8 := zi_rd hIm145 hc0 zb_28_47
                                          have e163 : (m145 a0 47) = (mh a0 47) := (zfr_ap hfm145 hc0 rfl)
                                          have r164 : 0 ≤ (m145 a0 46) ∧ (m145 a0 46) ≤ 96 := zi_rd hIm145 hc0 zb_28_46
                                          have r165 : 0 ≤ (m145 a0 7) ∧ (m145 a0 7) ≤ 700 := zi_rd hIm145 hc0 zb_28_7
                                          have e166 : (m145 a0 7) = (mh a0 7) := (zfr_ap hfm145 hc0 rfl)
                                          have r167 : (-2147483648) ≤ (m145 a0 4) ∧ (m145 a0 4) ≤ 2147483647 := zi_rd hIm145 hc0 zb_28_4
                                          have e168 : (m145 a0 4) = (mh a0 4) := (zfr_ap hfm145 hc0 rfl)
                                          have hM : 0 < (k : Int) := by omega
                                          exact ih.2.2 y0 m145 hIm145 hFm145 ⟨by omega, by omega⟩ ⟨by omega, by omega⟩ (by omega) (by omega) (by omega) (by omega) (by omega) (by omega) (by omega) (by omega) hRKNm145 hRNSm145 hRTRm145 hRWDm145 hM
                                        · exfalso; omega
                                    · exfalso; omega
                                  · exfalso; omega
                                · exfalso; omega
                              · exfalso; omega
                          · exfalso; omega
                        · exfalso; omega
                      · exfalso; omega
                    · exfalso; omega
                  · exfalso; omega
              · refine zw_some ?_
                refine zw_ite (fun h169 => ?_) (fun h169 => ?_)
                · refine zw_bd (zw_eq (zu_call_at (zt_T n) (zm_109 n) (zdp_109 n) _ _ _ _ _ rfl (zr_109_0 n _ _ y0 mh)) ?_)
                  refine zw_ite (fun h170 => ?_) (fun h170 => ?_)
                  · refine zw_ite (fun h171 => ?_) (fun h171 => ?_)
                    · refine zw_ite (fun h172 => ?_) (fun h172 => ?_)
                      · refine zw_ite (fun h173 => ?_) (fun h173 => ?_)
                        · exfalso; omega
                        · refine zw_some ?_
                          refine zw_bd (zw_mono (zk_112 n hImh hc0 ⟨by omega, by omega⟩ (by omega) (by omega) (by omega) hRKNmh) (fun v175 m174 hqm174 => ?_))
                          obtain ⟨hIm174, hfm174, hvm174⟩ := hqm174
                          have hFm174 := zfr_tr hFmh hfm174 rfl
                          obtain ⟨hRKNm174, hvm174⟩ := hvm174
                          have hRNSm174 := zR_NS_fr (zdis_fr hfm174 rfl) hRNSmh
                          have hRTRm174 := zR_TR_fr (zdis_fr hfm174 rfl) hRTRmh
                          have hRWDm174 := zR_WD_fr (zdis_fr hfm174 rfl) hRWDmh
                          have g176 := zwt_bd hIm174 hc0
                          have s177 := hRNSm174 a0 hc0
                          have s178 := hRTRm174 a0 hc0
                          refine zw_bd (zw_eq (zu_call_at (zt_T n) (zm_109 n) (zdp_109 n) _ _ _ _ _ rfl (zr_109_0 n _ _ y0 m174)) ?_)
                          refine zw_ite (fun h179 => ?_) (fun h179 => ?_)
                          · refine zw_ite (fun h180 => ?_) (fun h180 => ?_)
                            · refine zw_ite (fun h181 => ?_) (fun h181 => ?_)
                              · refine zw_ite (fun h182 => ?_) (fun h182 => ?_)
                                · exfalso; omega
                                · refine zw_some ?_
                                  refine zw_ite (fun h183 => ?_) (fun h183 => ?_)
                                  · have r184 : 0 ≤ (m174 a0 49) ∧ (m174 a0 49) ≤ 1 := zi_rd hIm174 hc0 zb_28_49
                                    have e185 : (m174 a0 49) = (mh a0 49) := (zfr_ap hfm174 hc0 rfl)
                                    have r186 : 0 ≤ (m174 a0 21) ∧ (m174 a0 21) ≤ 64 := zi_rd hIm174 hc0 zb_28_21
                                    have r187 : 0 ≤ (m174 a0 48) ∧ (m174 a0 48) ≤ 64 := zi_rd hIm174 hc0 zb_28_48
                                    have e188 : (m174 a0 48) = (mh a0 48) := (zfr_ap hfm174 hc0 rfl)
                                    have r189 : 0 ≤ (m174 a0 45) ∧ (m174 a0 45) ≤ 96 := zi_rd hIm174 hc0 zb_28_45
                                    have r190 : 0 ≤ (m174 a0 47) ∧ (m174 a0 47) ≤ 8 := zi_rd hIm174 hc0 zb_28_47
                                    have e191 : (m174 a0 47) = (mh a0 47) := (zfr_ap hfm174 hc0 rfl)
                                    have r192 : 0 ≤ (m174 a0 46) ∧ (m174 a0 46) ≤ 96 := zi_rd hIm174 hc0 zb_28_46
                                    have r193 : 0 ≤ (m174 a0 7) ∧ (m174 a0 7) ≤ 700 := zi_rd hIm174 hc0 zb_28_7
                                    have e194 : (m174 a0 7) = (mh a0 7) := (zfr_ap hfm174 hc0 rfl)
                                    have r195 : (-2147483648) ≤ (m174 a0 4) ∧ (m174 a0 4) ≤ 2147483647 := zi_rd hIm174 hc0 zb_28_4
                                    have e196 : (m174 a0 4) = (mh a0 4) := (zfr_ap hfm174 hc0 rfl)
                                    have hM : 0 < (k : Int) := by omega
                                    exact ih.2.2 y0 m174 hIm174 hFm174 ⟨by omega, by omega⟩ ⟨by omega, by omega⟩ (by omega) (by omega) (by omega) (by omega) (by omega) (by omega) (by omega) (by omega) hRKNm174 hRNSm174 hRTRm174 hRWDm174 hM
                                  · exfalso; omega
                              · exfalso; omega
                            · exfalso; omega
                          · exfalso; omega
                      · exfalso; omega
                    · exfalso; omega
                  · exfalso; omega
                · exfalso; omega
            · refine zw_some ?_
              refine zw_ite (fun h197 => ?_) (fun h197 => ?_)
              · exfalso; omega
              · refine zw_bd (zw_mono (zk_112 n hImh hc0 ⟨by omega, by omega⟩ (by omega) (by omega) (by omega) hRKNmh) (fun v199 m198 hqm198 => ?_))
                obtain ⟨hIm198, hfm198, hvm198⟩ := hqm198
                have hFm198 := zfr_tr hFmh hfm198 rfl
                obtain ⟨hRKNm198, hvm198⟩ := hvm198
                have hRNSm198 := zR_NS_fr (zdis_fr hfm198 rfl) hRNSmh
                have hRTRm198 := zR_TR_fr (zdis_fr hfm198 rfl) hRTRmh
                have hRWDm198 := zR_WD_fr (zdis_fr hfm198 rfl) hRWDmh
                have g200 := zwt_bd hIm198 hc0
                have s201 := hRNSm198 a0 hc0
                have s202 := hRTRm198 a0 hc0
                refine zw_bd (zw_eq (zu_call_at (zt_T n) (zm_109 n) (zdp_109 n) _ _ _ _ _ rfl (zr_109_0 n _ _ y0 m198)) ?_)
                refine zw_ite (fun h203 => ?_) (fun h203 => ?_)
                · refine zw_ite (fun h204 => ?_) (fun h204 => ?_)
                  · refine zw_ite (fun h205 => ?_) (fun h205 => ?_)
                    · exfalso; omega
                    · refine zw_some ?_
                      refine zw_ite (fun h206 => ?_) (fun h206 => ?_)
                      · exfalso; omega
                      · have r207 : 0 ≤ (m198 a0 45) ∧ (m198 a0 45) ≤ 96 := zi_rd hIm198 hc0 zb_28_45
                        refine zw_ite (fun h208 => ?_) (fun h208 => ?_)
                        · have r209 : 0 ≤ (m198 a0 49) ∧ (m198 a0 49) ≤ 1 := zi_rd hIm198 hc0 zb_28_49
                          have e210 : (m198 a0 49) = (mh a0 49) := (zfr_ap hfm198 hc0 rfl)
                          have r211 : 0 ≤ (m198 a0 21) ∧ (m198 a0 21) ≤ 64 := zi_rd hIm198 hc0 zb_28_21
                          have r212 : 0 ≤ (m198 a0 48) ∧ (m198 a0 48) ≤ 64 := zi_rd hIm198 hc0 zb_28_48
                          have e213 : (m198 a0 48) = (mh a0 48) := (zfr_ap hfm198 hc0 rfl)
                          have r214 : 0 ≤ (m198 a0 47) ∧ (m198 a0 47) ≤ 8 := zi_rd hIm198 hc0 zb_28_47
                          have e215 : (m198 a0 47) = (mh a0 47) := (zfr_ap hfm198 hc0 rfl)
                          have r216 : 0 ≤ (m198 a0 46) ∧ (m198 a0 46) ≤ 96 := zi_rd hIm198 hc0 zb_28_46
                          have r217 : 0 ≤ (m198 a0 7) ∧ (m198 a0 7) ≤ 700 := zi_rd hIm198 hc0 zb_28_7
                          have e218 : (m198 a0 7) = (mh a0 7) := (zfr_ap hfm198 hc0 rfl)
                          have r219 : (-2147483648) ≤ (m198 a0 4) ∧ (m198 a0 4) ≤ 2147483647 := zi_rd hIm198 hc0 zb_28_4
                          have e220 : (m198 a0 4) = (mh a0 4) := (zfr_ap hfm198 hc0 rfl)
                          have hM : 0 < (k : Int) := by omega
                          exact ih.2.2 y0 m198 hIm198 hFm198 ⟨by omega, by omega⟩ ⟨by omega, by omega⟩ (by omega) (by omega) (by omega) (by omega) (by omega) (by omega) (by omega) (by omega) hRKNm198 hRNSm198 hRTRm198 hRWDm198 hM
                        · have w221 := zu_w32_id (z := (m198 a0 45) - 1) (by omega) (by omega)
                          have b222 : 0 ≤ (zu_w32 ((m198 a0 45) - 1)) ∧ (zu_w32 ((m198 a0 45) - 1)) < 96 := by omega
                          refine zw_if b222 ?_
                          have r223 : 0 ≤ (m198 211 (zu_w32 ((m198 a0 45) - 1))) ∧ (m198 211 (zu_w32 ((m198 a0 45) - 1))) ≤ 14 := zi_rd hIm198 zq_211 (zb_120 _)
                          refine zw_bd (zw_eq (zu_call_at (zt_T n) (zm_109 n) (zdp_109 n) _ _ _ _ _ rfl (zr_109_0 n _ _ (m198 211 (zu_w32 ((m198 a0 45) - 1))) m198)) ?_)
                          refine zw_ite (fun h224 => ?_) (fun h224 => ?_)
                          · refine zw_ite (fun h225 => ?_) (fun h225 => ?_)
                            · refine zw_ite (fun h226 => ?_) (fun h226 => ?_)
                              · refine zw_ite (fun h227 => ?_) (fun h227 => ?_)
                                · refine zw_ite (fun h228 => ?_) (fun h228 => ?_)
                                  · refine zw_ite (fun h229 => ?_) (fun h229 => ?_)
                                    · refine zw_some ?_
                                      refine zw_ite (fun h230 => ?_) (fun h230 => ?_)
                                      · have r231 : 0 ≤ (m198 a0 49) ∧ (m198 a0 49) ≤ 1 := zi_rd hIm198 hc0 zb_28_49
                                        have e232 : (m198 a0 49) = (mh a0 49) := (zfr_ap hfm198 hc0 rfl)
                                        have r233 : 0 ≤ (m198 a0 21) ∧ (m198 a0 21) ≤ 64 := zi_rd hIm198 hc0 zb_28_21
                                        have r234 : 0 ≤ (m198 a0 48) ∧ (m198 a0 48) ≤ 64 := zi_rd hIm198 hc0 zb_28_48
                                        have e235 : (m198 a0 48) = (mh a0 48) := (zfr_ap hfm198 hc0 rfl)
                                        have r236 : 0 ≤ (m198 a0 47) ∧ (m198 a0 47) ≤ 8 := zi_rd hIm198 hc0 zb_28_47
                                        have e237 : (m198 a0 47) = (mh a0 47) := (zfr_ap hfm198 hc0 rfl)
                                        have r238 : 0 ≤ (m198 a0 46) ∧ (m198 a0 46) ≤ 96 := zi_rd hIm198 hc0 zb_28_46
                                        have r239 : 0 ≤ (m198 a0 7) ∧ (m198 a0 7) ≤ 700 := zi_rd hIm198 hc0 zb_28_7
                                        have e240 : (m198 a0 7) = (mh a0 7) := (zfr_ap hfm198 hc0 rfl)
                                        have r241 : (-2147483648) ≤ (m198 a0 4) ∧ (m198 a0 4) ≤ 2147483647 := zi_rd hIm198 hc0 zb_28_4
                                        have e242 : (m198 a0 4) = (mh a0 4) := (zfr_ap hfm198 hc0 rfl)
                                        have hM : 0 < (k : Int) := by omega
                                        exact ih.2.2 y0 m198 hIm198 hFm198 ⟨by omega, by omega⟩ ⟨by omega, by omega⟩ (by omega) (by omega) (by omega) (by omega) (by omega) (by omega) (by omega) (by omega) hRKNm198 hRNSm198 hRTRm198 hRWDm198 hM
                                      · exfalso; omega
                                    · refine zw_some ?_
                                      refine zw_ite (fun h243 => ?_) (fun h243 => ?_)
                                      · have r244 : 0 ≤ (m198 a0 49) ∧ (m198 a0 49) ≤ 1 := zi_rd hIm198 hc0 zb_28_49
                                        have e245 : (m198 a0 49) = (mh a0 49) := (zfr_ap hfm198 hc0 rfl)
                                        have r246 : 0 ≤ (m198 a0 21) ∧ (m198 a0 21) ≤ 64 := zi_rd hIm198 hc0 zb_28_21
                                        have r247 : 0 ≤ (m198 a0 48) ∧ (m198 a0 48) ≤ 64 := zi_rd hIm198 hc0 zb_28_48
                                        have e248 : (m198 a0 48) = (mh a0 48) := (zfr_ap hfm198 hc0 rfl)
                                        have r249 : 0 ≤ (m198 a0 47) ∧ (m198 a0 47) ≤ 8 := zi_rd hIm198 hc0 zb_28_47
                                        have e250 : (m198 a0 47) = (mh a0 47) := (zfr_ap hfm198 hc0 rfl)
                                        have r251 : 0 ≤ (m198 a0 46) ∧ (m198 a0 46) ≤ 96 := zi_rd hIm198 hc0 zb_28_46
                                        have r252 : 0 ≤ (m198 a0 7) ∧ (m198 a0 7) ≤ 700 := zi_rd hIm198 hc0 zb_28_7
                                        have e253 : (m198 a0 7) = (mh a0 7) := (zfr_ap hfm198 hc0 rfl)
                                        have r254 : (-2147483648) ≤ (m198 a0 4) ∧ (m198 a0 4) ≤ 2147483647 := zi_rd hIm198 hc0 zb_28_4
                                        have e255 : (m198 a0 4) = (mh a0 4) := (zfr_ap hfm198 hc0 rfl)
                                        have hM : 0 < (k : Int) := by omega
                                        exact ih.2.2 y0 m198 hIm198 hFm198 ⟨by omega, by omega⟩ ⟨by omega, by omega⟩ (by omega) (by omega) (by omega) (by omega) (by omega) (by omega) (by omega) (by omega) hRKNm198 hRNSm198 hRTRm198 hRWDm198 hM
                                      · exfalso; omega
                                  · refine zw_some ?_
                                    refine zw_ite (fun h256 => ?_) (fun h256 => ?_)
                                    · have r257 : 0 ≤ (m198 a0 49) ∧ (m198 a0 49) ≤ 1 := zi_rd hIm198 hc0 zb_28_49
                                      have e258 : (m198 a0 49) = (mh a0 49) := (zfr_ap hfm198 hc0 rfl)
                                      have r259 : 0 ≤ (m198 a0 21) ∧ (m198 a0 21) ≤ 64 := zi_rd hIm198 hc0 zb_28_21
                                      have r260 : 0 ≤ (m198 a0 48) ∧ (m198 a0 48) ≤ 64 := zi_rd hIm198 hc0 zb_28_48
                                      have e261 : (m198 a0 48) = (mh a0 48) := (zfr_ap hfm198 hc0 rfl)
                                      have r262 : 0 ≤ (m198 a0 47) ∧ (m198 a0 47) ≤ 8 := zi_rd hIm198 hc0 zb_28_47
                                      have e263 : (m198 a0 47) = (mh a0 47) := (zfr_ap hfm198 hc0 rfl)
                                      have r264 : 0 ≤ (m198 a0 46) ∧ (m198 a0 46) ≤ 96 := zi_rd hIm198 hc0 zb_28_46
                                      have r265 : 0 ≤ (m198 a0 7) ∧ (m198 a0 7) ≤ 700 := zi_rd hIm198 hc0 zb_28_7
                                      have e266 : (m198 a0 7) = (mh a0 7) := (zfr_ap hfm198 hc0 rfl)
                                      have r267 : (-2147483648) ≤ (m198 a0 4) ∧ (m198 a0 4) ≤ 2147483647 := zi_rd hIm198 hc0 zb_28_4
                                      have e268 : (m198 a0 4) = (mh a0 4) := (zfr_ap hfm198 hc0 rfl)
                                      have hM : 0 < (k : Int) := by omega
                                      exact ih.2.2 y0 m198 hIm198 hFm198 ⟨by omega, by omega⟩ ⟨by omega, by omega⟩ (by omega) (by omega) (by omega) (by omega) (by omega) (by omega) (by omega) (by omega) hRKNm198 hRNSm198 hRTRm198 hRWDm198 hM
                                    · exfalso; omega
                                · refine zw_some ?_
                                  refine zw_ite (fun h269 => ?_) (fun h269 => ?_)
                                  · have r270 : 0 ≤ (m198 a0 49) ∧ (m198 a0 49) ≤ 1 := zi_rd hIm198 hc0 zb_28_49
                                    have e271 : (m198 a0 49) = (mh a0 49) := (zfr_ap hfm198 hc0 rfl)
                                    have r272 : 0 ≤ (m198 a0 21) ∧ (m198 a0 21) ≤ 64 := zi_rd hIm198 hc0 zb_28_21
                                    have r273 : 0 ≤ (m198 a0 48) ∧ (m198 a0 48) ≤ 64 := zi_rd hIm198 hc0 zb_28_48
                                    have e274 : (m198 a0 48) = (mh a0 48) := (zfr_ap hfm198 hc0 rfl)
                                    have r275 : 0 ≤ (m198 a0 47) ∧ (m198 a0 47) ≤ 8 := zi_rd hIm198 hc0 zb_28_47
                                    have e276 : (m198 a0 47) = (mh a0 47) := (zfr_ap hfm198 hc0 rfl)
                                    have r277 : 0 ≤ (m198 a0 46) ∧ (m198 a0 46) ≤ 96 := zi_rd hIm198 hc0 zb_28_46
                                    have r278 : 0 ≤ (m198 a0 7) ∧ (m198 a0 7) ≤ 700 := zi_rd hIm198 hc0 zb_28_7
                                    have e279 : (m198 a0 7) = (mh a0 7) := (zfr_ap hfm198 hc0 rfl)
                                    have r280 : (-2147483648) ≤ (m198 a0 4) ∧ (m198 a0 4) ≤ 2147483647 := zi_rd hIm198 hc0 zb_28_4
                                    have e281 : (m198 a0 4) = (mh a0 4) := (zfr_ap hfm198 hc0 rfl)
                                    have hM : 0 < (k : Int) := by omega
                                    exact ih.2.2 y0 m198 hIm198 hFm198 ⟨by omega, by omega⟩ ⟨by omega, by omega⟩ (by omega) (by omega) (by omega) (by omega) (by omega) (by omega) (by omega) (by omega) hRKNm198 hRNSm198 hRTRm198 hRWDm198 hM
                                  · exfalso; omega
                              · refine zw_some ?_
                                refine zw_ite (fun h282 => ?_) (fun h282 => ?_)
                                · exfalso; omega
                                · refine zw_bd (zw_eq (zu_call_at (zt_T n) (zm_85 n) (zdp_85 n) _ _ _ _ _ rfl (zr_85_0 n _ _ a0 1 m198)) ?_)
                                  generalize hmm283 : zu_up m198 a0 4 1 = m283
                                  have hIm283 := zi_up hmm283 hIm198 hc0 zb_28_4 (by omega) (by omega)
                                  have hFm283 := zfr_up hmm283 hFm198 hc0 rfl
                                  have g284 := zwt_fr (zdis_fr (zfr_up hmm283 (zfr_rf [(28, 5)] _) hc0 rfl) rfl)
                                  have hRKNm283 := zR_KN_fr (zdis_fr (zfr_up hmm283 (zfr_rf [(28, 5)] _) hc0 rfl) rfl) hRKNm198
                                  have hRNSm283 := zR_NS_fr (zdis_fr (zfr_up hmm283 (zfr_rf [(28, 5)] _) hc0 rfl) rfl) hRNSm198
                                  have hRTRm283 := zR_TR_fr (zdis_fr (zfr_up hmm283 (zfr_rf [(28, 5)] _) hc0 rfl) rfl) hRTRm198
                                  have hRWDm283 := zR_WD_fr (zdis_fr (zfr_up hmm283 (zfr_rf [(28, 5)] _) hc0 rfl) rfl) hRWDm198
                                  have hRLRm283 := zLR_wr (zone_190 hc0) hmm283 (by decide)
                                  have r285 : 0 ≤ (m283 a0 10) ∧ (m283 a0 10) ≤ 700 := zi_rd hIm283 hc0 zb_28_10
                                  generalize hmm286 : zu_up m283 a0 5 (m283 a0 10) = m286
                                  have hIm286 := zi_up hmm286 hIm283 hc0 zb_28_5 (by omega) (by omega)
                                  have hFm286 := zfr_up hmm286 hFm283 hc0 rfl
                                  have g287 := zwt_fr (zdis_fr (zfr_up hmm286 (zfr_rf [(28, 6)] _) hc0 rfl) rfl)
                                  have hRKNm286 := zR_KN_fr (zdis_fr (zfr_up hmm286 (zfr_rf [(28, 6)] _) hc0 rfl) rfl) hRKNm283
                                  have hRLRm286 := zR_LR_fr (zdis_fr (zfr_up hmm286 (zfr_rf [(28, 6)] _) hc0 rfl) rfl) hRLRm283
                                  have hRNSm286 := zR_NS_fr (zdis_fr (zfr_up hmm286 (zfr_rf [(28, 6)] _) hc0 rfl) rfl) hRNSm283
                                  have hRTRm286 := zR_TR_fr (zdis_fr (zfr_up hmm286 (zfr_rf [(28, 6)] _) hc0 rfl) rfl) hRTRm283
                                  have hRWDm286 := zR_WD_fr (zdis_fr (zfr_up hmm286 (zfr_rf [(28, 6)] _) hc0 rfl) rfl) hRWDm283
                                  refine zw_b (by omega) ?_
                                  refine zw_some ?_
                                  refine zw_b (by omega) ?_
                                  have r288 : 0 ≤ (m286 a0 7) ∧ (m286 a0 7) ≤ 700 := zi_rd hIm286 hc0 zb_28_7
                                  have e289 : (m286 a0 7) = (mh a0 7) := (Eq.trans (zs_ne hmm286 (Or.inr (by decide))) (Eq.trans (zs_ne hmm283 (Or.inr (by decide))) (zfr_ap hfm198 hc0 rfl)))
                                  have r290 : 0 ≤ (m286 a0 8) ∧ (m286 a0 8) ≤ 6 := zi_rd hIm286 hc0 zb_28_8
                                  have r291 : 0 ≤ (m286 a0 21) ∧ (m286 a0 21) ≤ 64 := zi_rd hIm286 hc0 zb_28_21
                                  have r292 : 0 ≤ (m286 a0 48) ∧ (m286 a0 48) ≤ 64 := zi_rd hIm286 hc0 zb_28_48
                                  have e293 : (m286 a0 48) = (mh a0 48) := (Eq.trans (zs_ne hmm286 (Or.inr (by decide))) (Eq.trans (zs_ne hmm283 (Or.inr (by decide))) (zfr_ap hfm198 hc0 rfl)))
                                  have r294 : 0 ≤ (m286 a0 46) ∧ (m286 a0 46) ≤ 96 := zi_rd hIm286 hc0 zb_28_46
                                  have r295 : 0 ≤ (m286 a0 49) ∧ (m286 a0 49) ≤ 1 := zi_rd hIm286 hc0 zb_28_49
                                  have e296 : (m286 a0 49) = (mh a0 49) := (Eq.trans (zs_ne hmm286 (Or.inr (by decide))) (Eq.trans (zs_ne hmm283 (Or.inr (by decide))) (zfr_ap hfm198 hc0 rfl)))
                                  have r297 : 0 ≤ (m286 a0 45) ∧ (m286 a0 45) ≤ 96 := zi_rd hIm286 hc0 zb_28_45
                                  have e298 : (m286 a0 45) = (m198 a0 45) := (Eq.trans (zs_ne hmm286 (Or.inr (by decide))) (zs_ne hmm283 (Or.inr (by decide))))
                                  have r299 : 0 ≤ (m286 a0 47) ∧ (m286 a0 47) ≤ 8 := zi_rd hIm286 hc0 zb_28_47
                                  have e300 : (m286 a0 47) = (mh a0 47) := (Eq.trans (zs_ne hmm286 (Or.inr (by decide))) (Eq.trans (zs_ne hmm283 (Or.inr (by decide))) (zfr_ap hfm198 hc0 rfl)))
                                  have r301 : (-2147483648) ≤ (m286 a0 4) ∧ (m286 a0 4) ≤ 2147483647 := zi_rd hIm286 hc0 zb_28_4
                                  have e302 : (m286 a0 4) = 1 := (Eq.trans (zs_ne hmm286 (Or.inr (by decide))) (zs_eq hmm283))
                                  exact zw_some ⟨hIm286, hFm286, hRKNm286, hRNSm286, hRTRm286, hRWDm286, ⟨by omega, by omega⟩, by omega, by omega, by omega, by omega, by omega, by omega, by omega, by omega⟩
                            · refine zw_some ?_
                              refine zw_ite (fun h303 => ?_) (fun h303 => ?_)
                              · have r304 : 0 ≤ (m198 a0 49) ∧ (m198 a0 49) ≤ 1 := zi_rd hIm198 hc0 zb_28_49
                                have e305 : (m198 a0 49) = (mh a0 49) := (zfr_ap hfm198 hc0 rfl)
                                have r306 : 0 ≤ (m198 a0 21) ∧ (m198 a0 21) ≤ 64 := zi_rd hIm198 hc0 zb_28_21
                                have r307 : 0 ≤ (m198 a0 48) ∧ (m198 a0 48) ≤ 64 := zi_rd hIm198 hc0 zb_28_48
                                have e308 : (m198 a0 48) = (mh a0 48) := (zfr_ap hfm198 hc0 rfl)
                                have r309 : 0 ≤ (m198 a0 47) ∧ (m198 a0 47) ≤ 8 := zi_rd hIm198 hc0 zb_28_47
                                have e310 : (m198 a0 47) = (mh a0 47) := (zfr_ap hfm198 hc0 rfl)
                                have r311 : 0 ≤ (m198 a0 46) ∧ (m198 a0 46) ≤ 96 := zi_rd hIm198 hc0 zb_28_46
                                have r312 : 0 ≤ (m198 a0 7) ∧ (m198 a0 7) ≤ 700 := zi_rd hIm198 hc0 zb_28_7
                                have e313 : (m198 a0 7) = (mh a0 7) := (zfr_ap hfm198 hc0 rfl)
                                have r314 : (-2147483648) ≤ (m198 a0 4) ∧ (m198 a0 4) ≤ 2147483647 := zi_rd hIm198 hc0 zb_28_4
                                have e315 : (m198 a0 4) = (mh a0 4) := (zfr_ap hfm198 hc0 rfl)
                                have hM : 0 < (k : Int) := by omega
                                exact ih.2.2 y0 m198 hIm198 hFm198 ⟨by omega, by omega⟩ ⟨by omega, by omega⟩ (by omega) (by omega) (by omega) (by omega) (by omega) (by omega) (by omega) (by omega) hRKNm198 hRNSm198 hRTRm198 hRWDm198 hM
                              · exfalso; omega
                          · refine zw_some ?_
                            refine zw_ite (fun h316 => ?_) (fun h316 => ?_)
                            · have r317 : 0 ≤ (m198 a0 49) ∧ (m198 a0 49) ≤ 1 := zi_rd hIm198 hc0 zb_28_49
                              have e318 : (m198 a0 49) = (mh a0 49) := (zfr_ap hfm198 hc0 rfl)
                              have r319 : 0 ≤ (m198 a0 21) ∧ (m198 a0 21) ≤ 64 := zi_rd hIm198 hc0 zb_28_21
                              have r320 : 0 ≤ (m198 a0 48) ∧ (m198 a0 48) ≤ 64 := zi_rd hIm198 hc0 zb_28_48
                              have e321 : (m198 a0 48) = (mh a0 48) := (zfr_ap hfm198 hc0 rfl)
                              have r322 : 0 ≤ (m198 a0 47) ∧ (m198 a0 47) ≤ 8 := zi_rd hIm198 hc0 zb_28_47
                              have e323 : (m198 a0 47) = (mh a0 47) := (zfr_ap hfm198 hc0 rfl)
                              have r324 : 0 ≤ (m198 a0 46) ∧ (m198 a0 46) ≤ 96 := zi_rd hIm198 hc0 zb_28_46
                              have r325 : 0 ≤ (m198 a0 7) ∧ (m198 a0 7) ≤ 700 := zi_rd hIm198 hc0 zb_28_7
                              have e326 : (m198 a0 7) = (mh a0 7) := (zfr_ap hfm198 hc0 rfl)
                              have r327 : (-2147483648) ≤ (m198 a0 4) ∧ (m198 a0 4) ≤ 2147483647 := zi_rd hIm198 hc0 zb_28_4
                              have e328 : (m198 a0 4) = (mh a0 4) := (zfr_ap hfm198 hc0 rfl)
                              have hM : 0 < (k : Int) := by omega
                              exact ih.2.2 y0 m198 hIm198 hFm198 ⟨by omega, by omega⟩ ⟨by omega, by omega⟩ (by omega) (by omega) (by omega) (by omega) (by omega) (by omega) (by omega) (by omega) hRKNm198 hRNSm198 hRTRm198 hRWDm198 hM
                            · exfalso; omega
                  · exfalso; omega
                · exfalso; omega
          · refine zw_some ?_
            refine zw_ite (fun h329 => ?_) (fun h329 => ?_)
            · refine zw_bd (zw_eq (zu_call_at (zt_T n) (zm_109 n) (zdp_109 n) _ _ _ _ _ rfl (zr_109_0 n _ _ y0 mh)) ?_)
              refine zw_ite (fun h330 => ?_) (fun h330 => ?_)
              · refine zw_ite (fun h331 => ?_) (fun h331 => ?_)
                · exfalso; omega
                · refine zw_some ?_
                  refine zw_bd (zw_mono (zk_112 n hImh hc0 ⟨by omega, by omega⟩ (by omega) (by omega) (by omega) hRKNmh) (fun v333 m332 hqm332 => ?_))
                  obtain ⟨hIm332, hfm332, hvm332⟩ := hqm332
                  have hFm332 := zfr_tr hFmh hfm332 rfl
                  obtain ⟨hRKNm332, hvm332⟩ := hvm332
                  have hRNSm332 := zR_NS_fr (zdis_fr hfm332 rfl) hRNSmh
                  have hRTRm332 := zR_TR_fr (zdis_fr hfm332 rfl) hRTRmh
                  have hRWDm332 := zR_WD_fr (zdis_fr hfm332 rfl) hRWDmh
                  have g334 := zwt_bd hIm332 hc0
                  have s335 := hRNSm332 a0 hc0
                  have s336 := hRTRm332 a0 hc0
                  refine zw_bd (zw_eq (zu_call_at (zt_T n) (zm_109 n) (zdp_109 n) _ _ _ _ _ rfl (zr_109_0 n _ _ y0 m332)) ?_)
                  refine zw_ite (fun h337 => ?_) (fun h337 => ?_)
                  · refine zw_ite (fun h338 => ?_) (fun h338 => ?_)
                    · exfalso; omega
                    · refine zw_some ?_
                      refine zw_ite (fun h339 => ?_) (fun h339 => ?_)
                      · have r340 : 0 ≤ (m332 a0 49) ∧ (m332 a0 49) ≤ 1 := zi_rd hIm332 hc0 zb_28_49
                        have e341 : (m332 a0 49) = (mh a0 49) := (zfr_ap hfm332 hc0 rfl)
                        have r342 : 0 ≤ (m332 a0 21) ∧ (m332 a0 21) ≤ 64 := zi_rd hIm332 hc0 zb_28_21
                        have r343 : 0 ≤ (m332 a0 48) ∧ (m332 a0 48) ≤ 64 := zi_rd hIm332 hc0 zb_28_48
                        have e344 : (m332 a0 48) = (mh a0 48) := (zfr_ap hfm332 hc0 rfl)
                        have r345 : 0 ≤ (m332 a0 45) ∧ (m332 a0 45) ≤ 96 := zi_rd hIm332 hc0 zb_28_45
                        have r346 : 0 ≤ (m332 a0 47) ∧ (m332 a0 47) ≤ 8 := zi_rd hIm332 hc0 zb_28_47
                        have e347 : (m332 a0 47) = (mh a0 47) := (zfr_ap hfm332 hc0 rfl)
                        have r348 : 0 ≤ (m332 a0 46) ∧ (m332 a0 46) ≤ 96 := zi_rd hIm332 hc0 zb_28_46
                        have r349 : 0 ≤ (m332 a0 7) ∧ (m332 a0 7) ≤ 700 := zi_rd hIm332 hc0 zb_28_7
                        have e350 : (m332 a0 7) = (mh a0 7) := (zfr_ap hfm332 hc0 rfl)
                        have r351 : (-2147483648) ≤ (m332 a0 4) ∧ (m332 a0 4) ≤ 2147483647 := zi_rd hIm332 hc0 zb_28_4
                        have e352 : (m332 a0 4) = (mh a0 4) := (zfr_ap hfm332 hc0 rfl)
                        have hM : 0 < (k : Int) := by omega
                        exact ih.2.2 y0 m332 hIm332 hFm332 ⟨by omega, by omega⟩ ⟨by omega, by omega⟩ (by omega) (by omega) (by omega) (by omega) (by omega) (by omega) (by omega) (by omega) hRKNm332 hRNSm332 hRTRm332 hRWDm332 hM
                      · exfalso; omega
                  · exfalso; omega
              · exfalso; omega
            · exfalso; omega
        · refine zw_some ?_
          refine zw_ite (fun h353 => ?_) (fun h353 => ?_)
          · refine zw_bd (zw_eq (zu_call_at (zt_T n) (zm_109 n) (zdp_109 n) _ _ _ _ _ rfl (zr_109_0 n _ _ y0 mh)) ?_)
            refine zw_ite (fun h354 => ?_) (fun h354 => ?_)
            · exfalso; omega
            · refine zw_some ?_
              refine zw_bd (zw_mono (zk_112 n hImh hc0 ⟨by omega, by omega⟩ (by omega) (by omega) (by omega) hRKNmh) (fun v356 m355 hqm355 => ?_))
              obtain ⟨hIm355, hfm355, hvm355⟩ := hqm355
              have hFm355 := zfr_tr hFmh hfm355 rfl
              obtain ⟨hRKNm355, hvm355⟩ := hvm355
              have hRNSm355 := zR_NS_fr (zdis_fr hfm355 rfl) hRNSmh
              have hRTRm355 := zR_TR_fr (zdis_fr hfm355 rfl) hRTRmh
              have hRWDm355 := zR_WD_fr (zdis_fr hfm355 rfl) hRWDmh
              have g357 := zwt_bd hIm355 hc0
              have s358 := hRNSm355 a0 hc0
              have s359 := hRTRm355 a0 hc0
              refine zw_bd (zw_eq (zu_call_at (zt_T n) (zm_109 n) (zdp_109 n) _ _ _ _ _ rfl (zr_109_0 n _ _ y0 m355)) ?_)
              refine zw_ite (fun h360 => ?_) (fun h360 => ?_)
              · exfalso; omega
              · refine zw_some ?_
                refine zw_ite (fun h361 => ?_) (fun h361 => ?_)
                · have r362 : 0 ≤ (m355 a0 49) ∧ (m355 a0 49) ≤ 1 := zi_rd hIm355 hc0 zb_28_49
                  have e363 : (m355 a0 49) = (mh a0 49) := (zfr_ap hfm355 hc0 rfl)
                  have r364 : 0 ≤ (m355 a0 21) ∧ (m355 a0 21) ≤ 64 := zi_rd hIm355 hc0 zb_28_21
                  have r365 : 0 ≤ (m355 a0 48) ∧ (m355 a0 48) ≤ 64 := zi_rd hIm355 hc0 zb_28_48
                  have e366 : (m355 a0 48) = (mh a0 48) := (zfr_ap hfm355 hc0 rfl)
                  have r367 : 0 ≤ (m355 a0 45) ∧ (m355 a0 45) ≤ 96 := zi_rd hIm355 hc0 zb_28_45
                  have r368 : 0 ≤ (m355 a0 47) ∧ (m355 a0 47) ≤ 8 := zi_rd hIm355 hc0 zb_28_47
                  have e369 : (m355 a0 47) = (mh a0 47) := (zfr_ap hfm355 hc0 rfl)
                  have r370 : 0 ≤ (m355 a0 46) ∧ (m355 a0 46) ≤ 96 := zi_rd hIm355 hc0 zb_28_46
                  have r371 : 0 ≤ (m355 a0 7) ∧ (m355 a0 7) ≤ 700 := zi_rd hIm355 hc0 zb_28_7
                  have e372 : (m355 a0 7) = (mh a0 7) := (zfr_ap hfm355 hc0 rfl)
                  have r373 : (-2147483648) ≤ (m355 a0 4) ∧ (m355 a0 4) ≤ 2147483647 := zi_rd hIm355 hc0 zb_28_4
                  have e374 : (m355 a0 4) = (mh a0 4) := (zfr_ap hfm355 hc0 rfl)
                  have hM : 0 < (k : Int) := by omega
                  exact ih.2.2 y0 m355 hIm355 hFm355 ⟨by omega, by omega⟩ ⟨by omega, by omega⟩ (by omega) (by omega) (by omega) (by omega) (by omega) (by omega) (by omega) (by omega) hRKNm355 hRNSm355 hRTRm355 hRWDm355 hM
                · exfalso; omega
          · exfalso; omega
      · refine zw_bd (zw_eq (zu_call_at (zt_T n) (zm_85 n) (zdp_85 n) _ _ _ _ _ rfl (zr_85_0 n _ _ a0 1 mh)) ?_)
        generalize hmm375 : zu_up mh a0 4 1 = m375
        have hIm375 := zi_up hmm375 hImh hc0 zb_28_4 (by omega) (by omega)
        have hFm375 := zfr_up hmm375 hFmh hc0 rfl
        have g376 := zwt_fr (zdis_fr (zfr_up hmm375 (zfr_rf [(28, 5)] _) hc0 rfl) rfl)
        have hRKNm375 := zR_KN_fr (zdis_fr (zfr_up hmm375 (zfr_rf [(28, 5)] _) hc0 rfl) rfl) hRKNmh
        have hRNSm375 := zR_NS_fr (zdis_fr (zfr_up hmm375 (zfr_rf [(28, 5)] _) hc0 rfl) rfl) hRNSmh
        have hRTRm375 := zR_TR_fr (zdis_fr (zfr_up hmm375 (zfr_rf [(28, 5)] _) hc0 rfl) rfl) hRTRmh
        have hRWDm375 := zR_WD_fr (zdis_fr (zfr_up hmm375 (zfr_rf [(28, 5)] _) hc0 rfl) rfl) hRWDmh
        have hRLRm375 := zLR_wr (zone_190 hc0) hmm375 (by decide)
        have r377 : 0 ≤ (m375 a0 10) ∧ (m375 a0 10) ≤ 700 := zi_rd hIm375 hc0 zb_28_10
        generalize hmm378 : zu_up m375 a0 5 (m375 a0 10) = m378
        have hIm378 := zi_up hmm378 hIm375 hc0 zb_28_5 (by omega) (by omega)
        have hFm378 := zfr_up hmm378 hFm375 hc0 rfl
        have g379 := zwt_fr (zdis_fr (zfr_up hmm378 (zfr_rf [(28, 6)] _) hc0 rfl) rfl)
        have hRKNm378 := zR_KN_fr (zdis_fr (zfr_up hmm378 (zfr_rf [(28, 6)] _) hc0 rfl) rfl) hRKNm375
        have hRLRm378 := zR_LR_fr (zdis_fr (zfr_up hmm378 (zfr_rf [(28, 6)] _) hc0 rfl) rfl) hRLRm375
        have hRNSm378 := zR_NS_fr (zdis_fr (zfr_up hmm378 (zfr_rf [(28, 6)] _) hc0 rfl) rfl) hRNSm375
        have hRTRm378 := zR_TR_fr (zdis_fr (zfr_up hmm378 (zfr_rf [(28, 6)] _) hc0 rfl) rfl) hRTRm375
        have hRWDm378 := zR_WD_fr (zdis_fr (zfr_up hmm378 (zfr_rf [(28, 6)] _) hc0 rfl) rfl) hRWDm375
        refine zw_b (by omega) ?_
        refine zw_some ?_
        refine zw_b (by omega) ?_
        have r380 : 0 ≤ (m378 a0 7) ∧ (m378 a0 7) ≤ 700 := zi_rd hIm378 hc0 zb_28_7
        have e381 : (m378 a0 7) = (mh a0 7) := (Eq.trans (zs_ne hmm378 (Or.inr (by decide))) (zs_ne hmm375 (Or.inr (by decide))))
        have r382 : 0 ≤ (m378 a0 8) ∧ (m378 a0 8) ≤ 6 := zi_rd hIm378 hc0 zb_28_8
        have r383 : 0 ≤ (m378 a0 21) ∧ (m378 a0 21) ≤ 64 := zi_rd hIm378 hc0 zb_28_21
        have e384 : (m378 a0 21) = (mh a0 21) := (Eq.trans (zs_ne hmm378 (Or.inr (by decide))) (zs_ne hmm375 (Or.inr (by decide))))
        have r385 : 0 ≤ (m378 a0 48) ∧ (m378 a0 48) ≤ 64 := zi_rd hIm378 hc0 zb_28_48
        have e386 : (m378 a0 48) = (mh a0 48) := (Eq.trans (zs_ne hmm378 (Or.inr (by decide))) (zs_ne hmm375 (Or.inr (by decide))))
        have r387 : 0 ≤ (m378 a0 46) ∧ (m378 a0 46) ≤ 96 := zi_rd hIm378 hc0 zb_28_46
        have e388 : (m378 a0 46) = (mh a0 46) := (Eq.trans (zs_ne hmm378 (Or.inr (by decide))) (zs_ne hmm375 (Or.inr (by decide))))
        have r389 : 0 ≤ (m378 a0 49) ∧ (m378 a0 49) ≤ 1 := zi_rd hIm378 hc0 zb_28_49
        have e390 : (m378 a0 49) = (mh a0 49) := (Eq.trans (zs_ne hmm378 (Or.inr (by decide))) (zs_ne hmm375 (Or.inr (by decide))))
        have r391 : 0 ≤ (m378 a0 45) ∧ (m378 a0 45) ≤ 96 := zi_rd hIm378 hc0 zb_28_45
        have e392 : (m378 a0 45) = (mh a0 45) := (Eq.trans (zs_ne hmm378 (Or.inr (by decide))) (zs_ne hmm375 (Or.inr (by decide))))
        have r393 : 0 ≤ (m378 a0 47) ∧ (m378 a0 47) ≤ 8 := zi_rd hIm378 hc0 zb_28_47
        have e394 : (m378 a0 47) = (mh a0 47) := (Eq.trans (zs_ne hmm378 (Or.inr (by decide))) (zs_ne hmm375 (Or.inr (by decide))))
        have r395 : (-2147483648) ≤ (m378 a0 4) ∧ (m378 a0 4) ≤ 2147483647 := zi_rd hIm378 hc0 zb_28_4
        have e396 : (m378 a0 4) = 1 := (Eq.trans (zs_ne hmm378 (Or.inr (by decide))) (zs_eq hmm375))
        exact zw_some ⟨hIm378, hFm378, hRKNm378, hRNSm378, hRTRm378, hRWDm378, ⟨by omega, by omega⟩, by omega, by omega, by omega, by omega, by omega, by omega, by omega, by omega⟩
    · intro x1 mh hImh hFmh hbx1 hg1 hH0 hH1 hH2 hH3 hH4 hH5 hH6 hH7 hRKNmh hRNSmh hRTRmh hRWDmh hM
      refine zw_eq (zu_rega_at (zt_T n) (zm_117 n) (zdp_117 n) _ _ _ _ _ _ (zr_117_217 n _ _ a0 x1 mh)) ?_
      have r397 : 0 ≤ (mh a0 21) ∧ (mh a0 21) ≤ 64 := zi_rd hImh hc0 zb_28_21
      have r398 : 0 ≤ (mh a0 48) ∧ (mh a0 48) ≤ 64 := zi_rd hImh hc0 zb_28_48
      have r399 : 0 ≤ (mh a0 45) ∧ (mh a0 45) ≤ 96 := zi_rd hImh hc0 zb_28_45
      have r400 : 0 ≤ (mh a0 47) ∧ (mh a0 47) ≤ 8 := zi_rd hImh hc0 zb_28_47
      have r401 : 0 ≤ (mh a0 46) ∧ (mh a0 46) ≤ 96 := zi_rd hImh hc0 zb_28_46
      have r402 : 0 ≤ (mh a0 7) ∧ (mh a0 7) ≤ 700 := zi_rd hImh hc0 zb_28_7
      have r403 : (-2147483648) ≤ (mh a0 4) ∧ (mh a0 4) ≤ 2147483647 := zi_rd hImh hc0 zb_28_4
      have g404 := zwt_bd hImh hc0
      have s405 := hRNSmh a0 hc0
      have s406 := hRTRmh a0 hc0
      refine zw_bd (zw_eq (zu_call_at (zt_T n) (zm_113 n) (zdp_113 n) _ _ _ _ _ rfl (zr_113_0 n _ _ a0 mh)) ?_)
      refine zw_ite (fun h407 => ?_) (fun h407 => ?_)
      · have w408 := zu_w32_id (z := (mh a0 48) + 1) (by omega) (by omega)
        generalize hmm409 : zu_up mh a0 48 (zu_w32 ((mh a0 48) + 1)) = m409
        have hIm409 := zi_up hmm409 hImh hc0 zb_28_48 (by omega) (by omega)
        have hFm409 := zfr_up hmm409 hFmh hc0 rfl
        have g410 := zwt_fr (zdis_fr (zfr_up hmm409 (zfr_rf [(28, 49)] _) hc0 rfl) rfl)
        have hRKNm409 := zR_KN_fr (zdis_fr (zfr_up hmm409 (zfr_rf [(28, 49)] _) hc0 rfl) rfl) hRKNmh
        have hRNSm409 := zR_NS_fr (zdis_fr (zfr_up hmm409 (zfr_rf [(28, 49)] _) hc0 rfl) rfl) hRNSmh
        have hRTRm409 := zR_TR_fr (zdis_fr (zfr_up hmm409 (zfr_rf [(28, 49)] _) hc0 rfl) rfl) hRTRmh
        have hRWDm409 := zR_WD_fr (zdis_fr (zfr_up hmm409 (zfr_rf [(28, 49)] _) hc0 rfl) rfl) hRWDmh
        refine zw_b (by omega) ?_
        refine zw_some ?_
        refine zw_ite (fun h411 => ?_) (fun h411 => ?_)
        · refine zw_bd (zw_eq (zu_call_at (zt_T n) (zm_114 n) (zdp_114 n) _ _ _ _ _ rfl (zr_114_0 n _ _ a0 x1 m409)) ?_)
          have r412 : 0 ≤ (m409 a0 45) ∧ (m409 a0 45) ≤ 96 := zi_rd hIm409 hc0 zb_28_45
          have e413 : (m409 a0 45) = (mh a0 45) := (zs_ne hmm409 (Or.inr (by decide)))
          have b414 : 0 ≤ (m409 a0 45) ∧ (m409 a0 45) < 96 := by omega
          refine zw_if b414 ?_
          generalize hmm415 : zu_up m409 211 (m409 a0 45) x1 = m415
          have hIm415 := zi_up hmm415 hIm409 zq_211 (zb_120 _) (by omega) (by omega)
          have hFm415 := zfr_up hmm415 hFm409 zq_211 rfl
          have hRKNm415 := zR_KN_fr (zdis_fr (zfr_up hmm415 (zfr_rf [(120, 0)] _) zq_211 rfl) rfl) hRKNm409
          have hRNSm415 := zR_NS_fr (zdis_fr (zfr_up hmm415 (zfr_rf [(120, 0)] _) zq_211 rfl) rfl) hRNSm409
          have hRTRm415 := zR_TR_fr (zdis_fr (zfr_up hmm415 (zfr_rf [(120, 0)] _) zq_211 rfl) rfl) hRTRm409
          have hRWDm415 := zR_WD_fr (zdis_fr (zfr_up hmm415 (zfr_rf [(120, 0)] _) zq_211 rfl) rfl) hRWDm409
          have r416 : 0 ≤ (m415 a0 45) ∧ (m415 a0 45) ≤ 96 := zi_rd hIm415 hc0 zb_28_45
          have e417 : (m415 a0 45) = (m409 a0 45) := (zs_ne hmm415 (Or.inl (zc_ne hc0 zq_211 (by decide))))
          have w418 := zu_w32_id (z := (m415 a0 45) + 1) (by omega) (by omega)
          generalize hmm419 : zu_up m415 a0 45 (zu_w32 ((m415 a0 45) + 1)) = m419
          have hIm419 := zi_up hmm419 hIm415 hc0 zb_28_45 (by omega) (by omega)
          have hFm419 := zfr_up hmm419 hFm415 hc0 rfl
          have hRKNm419 := zR_KN_fr (zdis_fr (zfr_up hmm419 (zfr_rf [(28, 46)] _) hc0 rfl) rfl) hRKNm415
          have hRNSm419 := zR_NS_fr (zdis_fr (zfr_up hmm419 (zfr_rf [(28, 46)] _) hc0 rfl) rfl) hRNSm415
          have hRTRm419 := zR_TR_fr (zdis_fr (zfr_up hmm419 (zfr_rf [(28, 46)] _) hc0 rfl) rfl) hRTRm415
          have hRWDm419 := zR_WD_fr (zdis_fr (zfr_up hmm419 (zfr_rf [(28, 46)] _) hc0 rfl) rfl) hRWDm415
          have g420 := zwt_push hmm415 hmm419 hc0 (by omega) (by omega) (by omega)
          have g421 := zwt_bd hIm419 hc0
          refine zw_some ?_
          refine zw_b (by omega) ?_
          generalize hmm422 : zu_up m419 a0 49 1 = m422
          have hIm422 := zi_up hmm422 hIm419 hc0 zb_28_49 (by omega) (by omega)
          have hFm422 := zfr_up hmm422 hFm419 hc0 rfl
          have g423 := zwt_fr (zdis_fr (zfr_up hmm422 (zfr_rf [(28, 50)] _) hc0 rfl) rfl)
          have hRKNm422 := zR_KN_fr (zdis_fr (zfr_up hmm422 (zfr_rf [(28, 50)] _) hc0 rfl) rfl) hRKNm419
          have hRNSm422 := zR_NS_fr (zdis_fr (zfr_up hmm422 (zfr_rf [(28, 50)] _) hc0 rfl) rfl) hRNSm419
          have hRTRm422 := zR_TR_fr (zdis_fr (zfr_up hmm422 (zfr_rf [(28, 50)] _) hc0 rfl) rfl) hRTRm419
          have hRWDm422 := zR_WD_fr (zdis_fr (zfr_up hmm422 (zfr_rf [(28, 50)] _) hc0 rfl) rfl) hRWDm419
          refine zw_bd (zw_eq (zu_call_at (zt_T n) (zm_109 n) (zdp_109 n) _ _ _ _ _ rfl (zr_109_0 n _ _ x1 m422)) ?_)
          refine zw_ite (fun h424 => ?_) (fun h424 => ?_)
          · refine zw_ite (fun h425 => ?_) (fun h425 => ?_)
            · refine zw_ite (fun h426 => ?_) (fun h426 => ?_)
              · refine zw_ite (fun h427 => ?_) (fun h427 => ?_)
                · refine zw_ite (fun h428 => ?_) (fun h428 => ?_)
                  · refine zw_ite (fun h429 => ?_) (fun h429 => ?_)
                    · refine zw_some ?_
                      refine zw_ite (fun h430 => ?_) (fun h430 => ?_)
                      · exfalso; omega
                      · refine zw_b (by omega) ?_
                        generalize hmm431 : zu_up m422 a0 50 1 = m431
                        have hIm431 := zi_up hmm431 hIm422 hc0 zb_28_50 (by omega) (by omega)
                        have hFm431 := zfr_up hmm431 hFm422 hc0 rfl
                        have g432 := zwt_fr (zdis_fr (zfr_up hmm431 (zfr_rf [(28, 51)] _) hc0 rfl) rfl)
                        have hRKNm431 := zR_KN_fr (zdis_fr (zfr_up hmm431 (zfr_rf [(28, 51)] _) hc0 rfl) rfl) hRKNm422
                        have hRNSm431 := zR_NS_fr (zdis_fr (zfr_up hmm431 (zfr_rf [(28, 51)] _) hc0 rfl) rfl) hRNSm422
                        have hRTRm431 := zR_TR_fr (zdis_fr (zfr_up hmm431 (zfr_rf [(28, 51)] _) hc0 rfl) rfl) hRTRm422
                        have hRWDm431 := zR_WD_fr (zdis_fr (zfr_up hmm431 (zfr_rf [(28, 51)] _) hc0 rfl) rfl) hRWDm422
                        refine zw_bd (zw_mono (zk_89 n hIm431 hc0 hRNSm431 hRWDm431) (fun v434 m433 hqm433 => ?_))
                        obtain ⟨hIm433, hfm433, hvm433⟩ := hqm433
                        have hFm433 := zfr_tr hFm431 hfm433 rfl
                        obtain ⟨hRNSm433, hRTRm433, hRWDm433, hvm433⟩ := hvm433
                        have g435 := zwt_fr (zdis_fr hfm433 rfl)
                        have hRKNm433 := zR_KN_fr (zdis_fr hfm433 rfl) hRKNm431
                        have g436 := zwt_bd hIm433 hc0
                        have s437 := hRNSm433 a0 hc0
                        have s438 := hRTRm433 a0 hc0
                        refine zw_b (by omega) ?_
                        have r439 : 0 ≤ (m433 a0 7) ∧ (m433 a0 7) ≤ 700 := zi_rd hIm433 hc0 zb_28_7
                        have r440 : 0 ≤ (m433 a0 8) ∧ (m433 a0 8) ≤ 6 := zi_rd hIm433 hc0 zb_28_8
                        have r441 : 0 ≤ (m433 a0 21) ∧ (m433 a0 21) ≤ 64 := zi_rd hIm433 hc0 zb_28_21
                        have e442 : (m433 a0 21) = (mh a0 21) := (Eq.trans (zfr_ap hfm433 hc0 rfl) (Eq.trans (zs_ne hmm431 (Or.inr (by decide))) (Eq.trans (zs_ne hmm422 (Or.inr (by decide))) (Eq.trans (zs_ne hmm419 (Or.inr (by decide))) (Eq.trans (zs_ne hmm415 (Or.inl (zc_ne hc0 zq_211 (by decide)))) (zs_ne hmm409 (Or.inr (by decide))))))))
                        have r443 : 0 ≤ (m433 a0 48) ∧ (m433 a0 48) ≤ 64 := zi_rd hIm433 hc0 zb_28_48
                        have e444 : (m433 a0 48) = (zu_w32 ((mh a0 48) + 1)) := (Eq.trans (zfr_ap hfm433 hc0 rfl) (Eq.trans (zs_ne hmm431 (Or.inr (by decide))) (Eq.trans (zs_ne hmm422 (Or.inr (by decide))) (Eq.trans (zs_ne hmm419 (Or.inr (by decide))) (Eq.trans (zs_ne hmm415 (Or.inl (zc_ne hc0 zq_211 (by decide)))) (zs_eq hmm409))))))
                        have r445 : 0 ≤ (m433 a0 46) ∧ (m433 a0 46) ≤ 96 := zi_rd hIm433 hc0 zb_28_46
                        have e446 : (m433 a0 46) = (mh a0 46) := (Eq.trans (zfr_ap hfm433 hc0 rfl) (Eq.trans (zs_ne hmm431 (Or.inr (by decide))) (Eq.trans (zs_ne hmm422 (Or.inr (by decide))) (Eq.trans (zs_ne hmm419 (Or.inr (by decide))) (Eq.trans (zs_ne hmm415 (Or.inl (zc_ne hc0 zq_211 (by decide)))) (zs_ne hmm409 (Or.inr (by decide))))))))
                        have r447 : 0 ≤ (m433 a0 49) ∧ (m433 a0 49) ≤ 1 := zi_rd hIm433 hc0 zb_28_49
                        have e448 : (m433 a0 49) = 1 := (Eq.trans (zfr_ap hfm433 hc0 rfl) (Eq.trans (zs_ne hmm431 (Or.inr (by decide))) (zs_eq hmm422)))
                        have r449 : 0 ≤ (m433 a0 45) ∧ (m433 a0 45) ≤ 96 := zi_rd hIm433 hc0 zb_28_45
                        have e450 : (m433 a0 45) = (zu_w32 ((m415 a0 45) + 1)) := (Eq.trans (zfr_ap hfm433 hc0 rfl) (Eq.trans (zs_ne hmm431 (Or.inr (by decide))) (Eq.trans (zs_ne hmm422 (Or.inr (by decide))) (zs_eq hmm419))))
                        have r451 : 0 ≤ (m433 a0 47) ∧ (m433 a0 47) ≤ 8 := zi_rd hIm433 hc0 zb_28_47
                        have e452 : (m433 a0 47) = (mh a0 47) := (Eq.trans (zfr_ap hfm433 hc0 rfl) (Eq.trans (zs_ne hmm431 (Or.inr (by decide))) (Eq.trans (zs_ne hmm422 (Or.inr (by decide))) (Eq.trans (zs_ne hmm419 (Or.inr (by decide))) (Eq.trans (zs_ne hmm415 (Or.inl (zc_ne hc0 zq_211 (by decide)))) (zs_ne hmm409 (Or.inr (by decide))))))))
                        have r453 : (-2147483648) ≤ (m433 a0 4) ∧ (m433 a0 4) ≤ 2147483647 := zi_rd hIm433 hc0 zb_28_4
                        have e454 : (m433 a0 4) = (mh a0 4) := (Eq.trans (zfr_ap hfm433 hc0 rfl) (Eq.trans (zs_ne hmm431 (Or.inr (by decide))) (Eq.trans (zs_ne hmm422 (Or.inr (by decide))) (Eq.trans (zs_ne hmm419 (Or.inr (by decide))) (Eq.trans (zs_ne hmm415 (Or.inl (zc_ne hc0 zq_211 (by decide)))) (zs_ne hmm409 (Or.inr (by decide))))))))
                        exact zw_some ⟨hIm433, hFm433, hRKNm433, hRNSm433, hRTRm433, hRWDm433, ⟨by omega, by omega⟩, by omega, by omega, by omega, by omega, by omega, by omega, by omega, by omega⟩
                    · refine zw_some ?_
                      refine zw_ite (fun h455 => ?_) (fun h455 => ?_)
                      · exfalso; omega
                      · refine zw_b (by omega) ?_
                        generalize hmm456 : zu_up m422 a0 50 1 = m456
                        have hIm456 := zi_up hmm456 hIm422 hc0 zb_28_50 (by omega) (by omega)
                        have hFm456 := zfr_up hmm456 hFm422 hc0 rfl
                        have g457 := zwt_fr (zdis_fr (zfr_up hmm456 (zfr_rf [(28, 51)] _) hc0 rfl) rfl)
                        have hRKNm456 := zR_KN_fr (zdis_fr (zfr_up hmm456 (zfr_rf [(28, 51)] _) hc0 rfl) rfl) hRKNm422
                        have hRNSm456 := zR_NS_fr (zdis_fr (zfr_up hmm456 (zfr_rf [(28, 51)] _) hc0 rfl) rfl) hRNSm422
                        have hRTRm456 := zR_TR_fr (zdis_fr (zfr_up hmm456 (zfr_rf [(28, 51)] _) hc0 rfl) rfl) hRTRm422
                        have hRWDm456 := zR_WD_fr (zdis_fr (zfr_up hmm456 (zfr_rf [(28, 51)] _) hc0 rfl) rfl) hRWDm422
                        refine zw_bd (zw_mono (zk_89 n hIm456 hc0 hRNSm456 hRWDm456) (fun v459 m458 hqm458 => ?_))
                        obtain ⟨hIm458, hfm458, hvm458⟩ := hqm458
                        have hFm458 := zfr_tr hFm456 hfm458 rfl
                        obtain ⟨hRNSm458, hRTRm458, hRWDm458, hvm458⟩ := hvm458
                        have g460 := zwt_fr (zdis_fr hfm458 rfl)
                        have hRKNm458 := zR_KN_fr (zdis_fr hfm458 rfl) hRKNm456
                        have g461 := zwt_bd hIm458 hc0
                        have s462 := hRNSm458 a0 hc0
                        have s463 := hRTRm458 a0 hc0
                        refine zw_b (by omega) ?_
                        have r464 : 0 ≤ (m458 a0 7) ∧ (m458 a0 7) ≤ 700 := zi_rd hIm458 hc0 zb_28_7
                        have r465 : 0 ≤ (m458 a0 8) ∧ (m458 a0 8) ≤ 6 := zi_rd hIm458 hc0 zb_28_8
                        have r466 : 0 ≤ (m458 a0 21) ∧ (m458 a0 21) ≤ 64 := zi_rd hIm458 hc0 zb_28_21
                        have e467 : (m458 a0 21) = (mh a0 21) := (Eq.trans (zfr_ap hfm458 hc0 rfl) (Eq.trans (zs_ne hmm456 (Or.inr (by decide))) (Eq.trans (zs_ne hmm422 (Or.inr (by decide))) (Eq.trans (zs_ne hmm419 (Or.inr (by decide))) (Eq.trans (zs_ne hmm415 (Or.inl (zc_ne hc0 zq_211 (by decide)))) (zs_ne hmm409 (Or.inr (by decide))))))))
                        have r468 : 0 ≤ (m458 a0 48) ∧ (m458 a0 48) ≤ 64 := zi_rd hIm458 hc0 zb_28_48
                        have e469 : (m458 a0 48) = (zu_w32 ((mh a0 48) + 1)) := (Eq.trans (zfr_ap hfm458 hc0 rfl) (Eq.trans (zs_ne hmm456 (Or.inr (by decide))) (Eq.trans (zs_ne hmm422 (Or.inr (by decide))) (Eq.trans (zs_ne hmm419 (Or.inr (by decide))) (Eq.trans (zs_ne hmm415 (Or.inl (zc_ne hc0 zq_211 (by decide)))) (zs_eq hmm409))))))
                        have r470 : 0 ≤ (m458 a0 46) ∧ (m458 a0 46) ≤ 96 := zi_rd hIm458 hc0 zb_28_46
                        have e471 : (m458 a0 46) = (mh a0 46) := (Eq.trans (zfr_ap hfm458 hc0 rfl) (Eq.trans (zs_ne hmm456 (Or.inr (by decide))) (Eq.trans (zs_ne hmm422 (Or.inr (by decide))) (Eq.trans (zs_ne hmm419 (Or.inr (by decide))) (Eq.trans (zs_ne hmm415 (Or.inl (zc_ne hc0 zq_211 (by decide)))) (zs_ne hmm409 (Or.inr (by decide))))))))
                        have r472 : 0 ≤ (m458 a0 49) ∧ (m458 a0 49) ≤ 1 := zi_rd hIm458 hc0 zb_28_49
                        have e473 : (m458 a0 49) = 1 := (Eq.trans (zfr_ap hfm458 hc0 rfl) (Eq.trans (zs_ne hmm456 (Or.inr (by decide))) (zs_eq hmm422)))
                        have r474 : 0 ≤ (m458 a0 45) ∧ (m458 a0 45) ≤ 96 := zi_rd hIm458 hc0 zb_28_45
                        have e475 : (m458 a0 45) = (zu_w32 ((m415 a0 45) + 1)) := (Eq.trans (zfr_ap hfm458 hc0 rfl) (Eq.trans (zs_ne hmm456 (Or.inr (by decide))) (Eq.trans (zs_ne hmm422 (Or.inr (by decide))) (zs_eq hmm419))))
                        have r476 : 0 ≤ (m458 a0 47) ∧ (m458 a0 47) ≤ 8 := zi_rd hIm458 hc0 zb_28_47
                        have e477 : (m458 a0 47) = (mh a0 47) := (Eq.trans (zfr_ap hfm458 hc0 rfl) (Eq.trans (zs_ne hmm456 (Or.inr (by decide))) (Eq.trans (zs_ne hmm422 (Or.inr (by decide))) (Eq.trans (zs_ne hmm419 (Or.inr (by decide))) (Eq.trans (zs_ne hmm415 (Or.inl (zc_ne hc0 zq_211 (by decide)))) (zs_ne hmm409 (Or.inr (by decide))))))))
                        have r478 : (-2147483648) ≤ (m458 a0 4) ∧ (m458 a0 4) ≤ 2147483647 := zi_rd hIm458 hc0 zb_28_4
                        have e479 : (m458 a0 4) = (mh a0 4) := (Eq.trans (zfr_ap hfm458 hc0 rfl) (Eq.trans (zs_ne hmm456 (Or.inr (by decide))) (Eq.trans (zs_ne hmm422 (Or.inr (by decide))) (Eq.trans (zs_ne hmm419 (Or.inr (by decide))) (Eq.trans (zs_ne hmm415 (Or.inl (zc_ne hc0 zq_211 (by decide)))) (zs_ne hmm409 (Or.inr (by decide))))))))
                        exact zw_some ⟨hIm458, hFm458, hRKNm458, hRNSm458, hRTRm458, hRWDm458, ⟨by omega, by omega⟩, by omega, by omega, by omega, by omega, by omega, by omega, by omega, by omega⟩
                  · refine zw_some ?_
                    refine zw_ite (fun h480 => ?_) (fun h480 => ?_)
                    · exfalso; omega
                    · refine zw_b (by omega) ?_
                      generalize hmm481 : zu_up m422 a0 50 1 = m481
                      have hIm481 := zi_up hmm481 hIm422 hc0 zb_28_50 (by omega) (by omega)
                      have hFm481 := zfr_up hmm481 hFm422 hc0 rfl
                      have g482 := zwt_fr (zdis_fr (zfr_up hmm481 (zfr_rf [(28, 51)] _) hc0 rfl) rfl)
                      have hRKNm481 := zR_KN_fr (zdis_fr (zfr_up hmm481 (zfr_rf [(28, 51)] _) hc0 rfl) rfl) hRKNm422
                      have hRNSm481 := zR_NS_fr (zdis_fr (zfr_up hmm481 (zfr_rf [(28, 51)] _) hc0 rfl) rfl) hRNSm422
                      have hRTRm481 := zR_TR_fr (zdis_fr (zfr_up hmm481 (zfr_rf [(28, 51)] _) hc0 rfl) rfl) hRTRm422
                      have hRWDm481 := zR_WD_fr (zdis_fr (zfr_up hmm481 (zfr_rf [(28, 51)] _) hc0 rfl) rfl) hRWDm422
                      refine zw_bd (zw_mono (zk_89 n hIm481 hc0 hRNSm481 hRWDm481) (fun v484 m483 hqm483 => ?_))
                      obtain ⟨hIm483, hfm483, hvm483⟩ := hqm483
                      have hFm483 := zfr_tr hFm481 hfm483 rfl
                      obtain ⟨hRNSm483, hRTRm483, hRWDm483, hvm483⟩ := hvm483
                      have g485 := zwt_fr (zdis_fr hfm483 rfl)
                      have hRKNm483 := zR_KN_fr (zdis_fr hfm483 rfl) hRKNm481
                      have g486 := zwt_bd hIm483 hc0
                      have s487 := hRNSm483 a0 hc0
                      have s488 := hRTRm483 a0 hc0
                      refine zw_b (by omega) ?_
                      have r489 : 0 ≤ (m483 a0 7) ∧ (m483 a0 7) ≤ 700 := zi_rd hIm483 hc0 zb_28_7
                      have r490 : 0 ≤ (m483 a0 8) ∧ (m483 a0 8) ≤ 6 := zi_rd hIm483 hc0 zb_28_8
                      have r491 : 0 ≤ (m483 a0 21) ∧ (m483 a0 21) ≤ 64 := zi_rd hIm483 hc0 zb_28_21
                      have e492 : (m483 a0 21) = (mh a0 21) := (Eq.trans (zfr_ap hfm483 hc0 rfl) (Eq.trans (zs_ne hmm481 (Or.inr (by decide))) (Eq.trans (zs_ne hmm422 (Or.inr (by decide))) (Eq.trans (zs_ne hmm419 (Or.inr (by decide))) (Eq.trans (zs_ne hmm415 (Or.inl (zc_ne hc0 zq_211 (by decide)))) (zs_ne hmm409 (Or.inr (by decide))))))))
                      have r493 : 0 ≤ (m483 a0 48) ∧ (m483 a0 48) ≤ 64 := zi_rd hIm483 hc0 zb_28_48
                      have e494 : (m483 a0 48) = (zu_w32 ((mh a0 48) + 1)) := (Eq.trans (zfr_ap hfm483 hc0 rfl) (Eq.trans (zs_ne hmm481 (Or.inr (by decide))) (Eq.trans (zs_ne hmm422 (Or.inr (by decide))) (Eq.trans (zs_ne hmm419 (Or.inr (by decide))) (Eq.trans (zs_ne hmm415 (Or.inl (zc_ne hc0 zq_211 (by decide)))) (zs_eq hmm409))))))
                      have r495 : 0 ≤ (m483 a0 46) ∧ (m483 a0 46) ≤ 96 := zi_rd hIm483 hc0 zb_28_46
                      have e496 : (m483 a0 46) = (mh a0 46) := (Eq.trans (zfr_ap hfm483 hc0 rfl) (Eq.trans (zs_ne hmm481 (Or.inr (by decide))) (Eq.trans (zs_ne hmm422 (Or.inr (by decide))) (Eq.trans (zs_ne hmm419 (Or.inr (by decide))) (Eq.trans (zs_ne hmm415 (Or.inl (zc_ne hc0 zq_211 (by decide)))) (zs_ne hmm409 (Or.inr (by decide))))))))
                      have r497 : 0 ≤ (m483 a0 49) ∧ (m483 a0 49) ≤ 1 := zi_rd hIm483 hc0 zb_28_49
                      have e498 : (m483 a0 49) = 1 := (Eq.trans (zfr_ap hfm483 hc0 rfl) (Eq.trans (zs_ne hmm481 (Or.inr (by decide))) (zs_eq hmm422)))
                      have r499 : 0 ≤ (m483 a0 45) ∧ (m483 a0 45) ≤ 96 := zi_rd hIm483 hc0 zb_28_45
                      have e500 : (m483 a0 45) = (zu_w32 ((m415 a0 45) + 1)) := (Eq.trans (zfr_ap hfm483 hc0 rfl) (Eq.trans (zs_ne hmm481 (Or.inr (by decide))) (Eq.trans (zs_ne hmm422 (Or.inr (by decide))) (zs_eq hmm419))))
                      have r501 : 0 ≤ (m483 a0 47) ∧ (m483 a0 47) ≤ 8 := zi_rd hIm483 hc0 zb_28_47
                      have e502 : (m483 a0 47) = (mh a0 47) := (Eq.trans (zfr_ap hfm483 hc0 rfl) (Eq.trans (zs_ne hmm481 (Or.inr (by decide))) (Eq.trans (zs_ne hmm422 (Or.inr (by decide))) (Eq.trans (zs_ne hmm419 (Or.inr (by decide))) (Eq.trans (zs_ne hmm415 (Or.inl (zc_ne hc0 zq_211 (by decide)))) (zs_ne hmm409 (Or.inr (by decide))))))))
                      have r503 : (-2147483648) ≤ (m483 a0 4) ∧ (m483 a0 4) ≤ 2147483647 := zi_rd hIm483 hc0 zb_28_4
                      have e504 : (m483 a0 4) = (mh a0 4) := (Eq.trans (zfr_ap hfm483 hc0 rfl) (Eq.trans (zs_ne hmm481 (Or.inr (by decide))) (Eq.trans (zs_ne hmm422 (Or.inr (by decide))) (Eq.trans (zs_ne hmm419 (Or.inr (by decide))) (Eq.trans (zs_ne hmm415 (Or.inl (zc_ne hc0 zq_211 (by decide)))) (zs_ne hmm409 (Or.inr (by decide))))))))
                      exact zw_some ⟨hIm483, hFm483, hRKNm483, hRNSm483, hRTRm483, hRWDm483, ⟨by omega, by omega⟩, by omega, by omega, by omega, by omega, by omega, by omega, by omega, by omega⟩
                · refine zw_some ?_
                  refine zw_ite (fun h505 => ?_) (fun h505 => ?_)
                  · refine zw_b (by omega) ?_
                    generalize hmm506 : zu_up m422 a0 50 0 = m506
                    have hIm506 := zi_up hmm506 hIm422 hc0 zb_28_50 (by omega) (by omega)
                    have hFm506 := zfr_up hmm506 hFm422 hc0 rfl
                    have g507 := zwt_fr (zdis_fr (zfr_up hmm506 (zfr_rf [(28, 51)] _) hc0 rfl) rfl)
                    have hRKNm506 := zR_KN_fr (zdis_fr (zfr_up hmm506 (zfr_rf [(28, 51)] _) hc0 rfl) rfl) hRKNm422
                    have hRNSm506 := zR_NS_fr (zdis_fr (zfr_up hmm506 (zfr_rf [(28, 51)] _) hc0 rfl) rfl) hRNSm422
                    have hRTRm506 := zR_TR_fr (zdis_fr (zfr_up hmm506 (zfr_rf [(28, 51)] _) hc0 rfl) rfl) hRTRm422
                    have hRWDm506 := zR_WD_fr (zdis_fr (zfr_up hmm506 (zfr_rf [(28, 51)] _) hc0 rfl) rfl) hRWDm422
                    refine zw_bd (zw_mono (zk_89 n hIm506 hc0 hRNSm506 hRWDm506) (fun v509 m508 hqm508 => ?_))
                    obtain ⟨hIm508, hfm508, hvm508⟩ := hqm508
                    have hFm508 := zfr_tr hFm506 hfm508 rfl
                    obtain ⟨hRNSm508, hRTRm508, hRWDm508, hvm508⟩ := hvm508
                    have g510 := zwt_fr (zdis_fr hfm508 rfl)
                    have hRKNm508 := zR_KN_fr (zdis_fr hfm508 rfl) hRKNm506
                    have g511 := zwt_bd hIm508 hc0
                    have s512 := hRNSm508 a0 hc0
                    have s513 := hRTRm508 a0 hc0
                    refine zw_b (by omega) ?_
                    have r514 : 0 ≤ (m508 a0 7) ∧ (m508 a0 7) ≤ 700 := zi_rd hIm508 hc0 zb_28_7
                    have r515 : 0 ≤ (m508 a0 8) ∧ (m508 a0 8) ≤ 6 := zi_rd hIm508 hc0 zb_28_8
                    have r516 : 0 ≤ (m508 a0 21) ∧ (m508 a0 21) ≤ 64 := zi_rd hIm508 hc0 zb_28_21
                    have e517 : (m508 a0 21) = (mh a0 21) := (Eq.trans (zfr_ap hfm508 hc0 rfl) (Eq.trans (zs_ne hmm506 (Or.inr (by decide))) (Eq.trans (zs_ne hmm422 (Or.inr (by decide))) (Eq.trans (zs_ne hmm419 (Or.inr (by decide))) (Eq.trans (zs_ne hmm415 (Or.inl (zc_ne hc0 zq_211 (by decide)))) (zs_ne hmm409 (Or.inr (by decide))))))))
                    have r518 : 0 ≤ (m508 a0 48) ∧ (m508 a0 48) ≤ 64 := zi_rd hIm508 hc0 zb_28_48
                    have e519 : (m508 a0 48) = (zu_w32 ((mh a0 48) + 1)) := (Eq.trans (zfr_ap hfm508 hc0 rfl) (Eq.trans (zs_ne hmm506 (Or.inr (by decide))) (Eq.trans (zs_ne hmm422 (Or.inr (by decide))) (Eq.trans (zs_ne hmm419 (Or.inr (by decide))) (Eq.trans (zs_ne hmm415 (Or.inl (zc_ne hc0 zq_211 (by decide)))) (zs_eq hmm409))))))
                    have r520 : 0 ≤ (m508 a0 46) ∧ (m508 a0 46) ≤ 96 := zi_rd hIm508 hc0 zb_28_46
                    have e521 : (m508 a0 46) = (mh a0 46) := (Eq.trans (zfr_ap hfm508 hc0 rfl) (Eq.trans (zs_ne hmm506 (Or.inr (by decide))) (Eq.trans (zs_ne hmm422 (Or.inr (by decide))) (Eq.trans (zs_ne hmm419 (Or.inr (by decide))) (Eq.trans (zs_ne hmm415 (Or.inl (zc_ne hc0 zq_211 (by decide)))) (zs_ne hmm409 (Or.inr (by decide))))))))
                    have r522 : 0 ≤ (m508 a0 49) ∧ (m508 a0 49) ≤ 1 := zi_rd hIm508 hc0 zb_28_49
                    have e523 : (m508 a0 49) = 1 := (Eq.trans (zfr_ap hfm508 hc0 rfl) (Eq.trans (zs_ne hmm506 (Or.inr (by decide))) (zs_eq hmm422)))
                    have r524 : 0 ≤ (m508 a0 45) ∧ (m508 a0 45) ≤ 96 := zi_rd hIm508 hc0 zb_28_45
                    have e525 : (m508 a0 45) = (zu_w32 ((m415 a0 45) + 1)) := (Eq.trans (zfr_ap hfm508 hc0 rfl) (Eq.trans (zs_ne hmm506 (Or.inr (by decide))) (Eq.trans (zs_ne hmm422 (Or.inr (by decide))) (zs_eq hmm419))))
                    have r526 : 0 ≤ (m508 a0 47) ∧ (m508 a0 47) ≤ 8 := zi_rd hIm508 hc0 zb_28_47
                    have e527 : (m508 a0 47) = (mh a0 47) := (Eq.trans (zfr_ap hfm508 hc0 rfl) (Eq.trans (zs_ne hmm506 (Or.inr (by decide))) (Eq.trans (zs_ne hmm422 (Or.inr (by decide))) (Eq.trans (zs_ne hmm419 (Or.inr (by decide))) (Eq.trans (zs_ne hmm415 (Or.inl (zc_ne hc0 zq_211 (by decide)))) (zs_ne hmm409 (Or.inr (by decide))))))))
                    have r528 : (-2147483648) ≤ (m508 a0 4) ∧ (m508 a0 4) ≤ 2147483647 := zi_rd hIm508 hc0 zb_28_4
                    have e529 : (m508 a0 4) = (mh a0 4) := (Eq.trans (zfr_ap hfm508 hc0 rfl) (Eq.trans (zs_ne hmm506 (Or.inr (by decide))) (Eq.trans (zs_ne hmm422 (Or.inr (by decide))) (Eq.trans (zs_ne hmm419 (Or.inr (by decide))) (Eq.trans (zs_ne hmm415 (Or.inl (zc_ne hc0 zq_211 (by decide)))) (zs_ne hmm409 (Or.inr (by decide))))))))
                    exact zw_some ⟨hIm508, hFm508, hRKNm508, hRNSm508, hRTRm508, hRWDm508, ⟨by omega, by omega⟩, by omega, by omega, by omega, by omega, by omega, by omega, by omega, by omega⟩
                  · exfalso; omega
              · refine zw_some ?_
                refine zw_ite (fun h530 => ?_) (fun h530 => ?_)
                · refine zw_b (by omega) ?_
                  generalize hmm531 : zu_up m422 a0 50 0 = m531
                  have hIm531 := zi_up hmm531 hIm422 hc0 zb_28_50 (by omega) (by omega)
                  have hFm531 := zfr_up hmm531 hFm422 hc0 rfl
                  have g532 := zwt_fr (zdis_fr (zfr_up hmm531 (zfr_rf [(28, 51)] _) hc0 rfl) rfl)
                  have hRKNm531 := zR_KN_fr (zdis_fr (zfr_up hmm531 (zfr_rf [(28, 51)] _) hc0 rfl) rfl) hRKNm422
                  have hRNSm531 := zR_NS_fr (zdis_fr (zfr_up hmm531 (zfr_rf [(28, 51)] _) hc0 rfl) rfl) hRNSm422
                  have hRTRm531 := zR_TR_fr (zdis_fr (zfr_up hmm531 (zfr_rf [(28, 51)] _) hc0 rfl) rfl) hRTRm422
                  have hRWDm531 := zR_WD_fr (zdis_fr (zfr_up hmm531 (zfr_rf [(28, 51)] _) hc0 rfl) rfl) hRWDm422
                  refine zw_bd (zw_mono (zk_89 n hIm531 hc0 hRNSm531 hRWDm531) (fun v534 m533 hqm533 => ?_))
                  obtain ⟨hIm533, hfm533, hvm533⟩ := hqm533
                  have hFm533 := zfr_tr hFm531 hfm533 rfl
                  obtain ⟨hRNSm533, hRTRm533, hRWDm533, hvm533⟩ := hvm533
                  have g535 := zwt_fr (zdis_fr hfm533 rfl)
                  have hRKNm533 := zR_KN_fr (zdis_fr hfm533 rfl) hRKNm531
                  have g536 := zwt_bd hIm533 hc0
                  have s537 := hRNSm533 a0 hc0
                  have s538 := hRTRm533 a0 hc0
                  refine zw_b (by omega) ?_
                  have r539 : 0 ≤ (m533 a0 7) ∧ (m533 a0 7) ≤ 700 := zi_rd hIm533 hc0 zb_28_7
                  have r540 : 0 ≤ (m533 a0 8) ∧ (m533 a0 8) ≤ 6 := zi_rd hIm533 hc0 zb_28_8
                  have r541 : 0 ≤ (m533 a0 21) ∧ (m533 a0 21) ≤ 64 := zi_rd hIm533 hc0 zb_28_21
                  have e542 : (m533 a0 21) = (mh a0 21) := (Eq.trans (zfr_ap hfm533 hc0 rfl) (Eq.trans (zs_ne hmm531 (Or.inr (by decide))) (Eq.trans (zs_ne hmm422 (Or.inr (by decide))) (Eq.trans (zs_ne hmm419 (Or.inr (by decide))) (Eq.trans (zs_ne hmm415 (Or.inl (zc_ne hc0 zq_211 (by decide)))) (zs_ne hmm409 (Or.inr (by decide))))))))
                  have r543 : 0 ≤ (m533 a0 48) ∧ (m533 a0 48) ≤ 64 := zi_rd hIm533 hc0 zb_28_48
                  have e544 : (m533 a0 48) = (zu_w32 ((mh a0 48) + 1)) := (Eq.trans (zfr_ap hfm533 hc0 rfl) (Eq.trans (zs_ne hmm531 (Or.inr (by decide))) (Eq.trans (zs_ne hmm422 (Or.inr (by decide))) (Eq.trans (zs_ne hmm419 (Or.inr (by decide))) (Eq.trans (zs_ne hmm415 (Or.inl (zc_ne hc0 zq_211 (by decide)))) (zs_eq hmm409))))))
                  have r545 : 0 ≤ (m533 a0 46) ∧ (m533 a0 46) ≤ 96 := zi_rd hIm533 hc0 zb_28_46
                  have e546 : (m533 a0 46) = (mh a0 46) := (Eq.trans (zfr_ap hfm533 hc0 rfl) (Eq.trans (zs_ne hmm531 (Or.inr (by decide))) (Eq.trans (zs_ne hmm422 (Or.inr (by decide))) (Eq.trans (zs_ne hmm419 (Or.inr (by decide))) (Eq.trans (zs_ne hmm415 (Or.inl (zc_ne hc0 zq_211 (by decide)))) (zs_ne hmm409 (Or.inr (by decide))))))))
                  have r547 : 0 ≤ (m533 a0 49) ∧ (m533 a0 49) ≤ 1 := zi_rd hIm533 hc0 zb_28_49
                  have e548 : (m533 a0 49) = 1 := (Eq.trans (zfr_ap hfm533 hc0 rfl) (Eq.trans (zs_ne hmm531 (Or.inr (by decide))) (zs_eq hmm422)))
                  have r549 : 0 ≤ (m533 a0 45) ∧ (m533 a0 45) ≤ 96 := zi_rd hIm533 hc0 zb_28_45
                  have e550 : (m533 a0 45) = (zu_w32 ((m415 a0 45) + 1)) := (Eq.trans (zfr_ap hfm533 hc0 rfl) (Eq.trans (zs_ne hmm531 (Or.inr (by decide))) (Eq.trans (zs_ne hmm422 (Or.inr (by decide))) (zs_eq hmm419))))
                  have r551 : 0 ≤ (m533 a0 47) ∧ (m533 a0 47) ≤ 8 := zi_rd hIm533 hc0 zb_28_47
                  have e552 : (m533 a0 47) = (mh a0 47) := (Eq.trans (zfr_ap hfm533 hc0 rfl) (Eq.trans (zs_ne hmm531 (Or.inr (by decide))) (Eq.trans (zs_ne hmm422 (Or.inr (by decide))) (Eq.trans (zs_ne hmm419 (Or.inr (by decide))) (Eq.trans (zs_ne hmm415 (Or.inl (zc_ne hc0 zq_211 (by decide)))) (zs_ne hmm409 (Or.inr (by decide))))))))
                  have r553 : (-2147483648) ≤ (m533 a0 4) ∧ (m533 a0 4) ≤ 2147483647 := zi_rd hIm533 hc0 zb_28_4
                  have e554 : (m533 a0 4) = (mh a0 4) := (Eq.trans (zfr_ap hfm533 hc0 rfl) (Eq.trans (zs_ne hmm531 (Or.inr (by decide))) (Eq.trans (zs_ne hmm422 (Or.inr (by decide))) (Eq.trans (zs_ne hmm419 (Or.inr (by decide))) (Eq.trans (zs_ne hmm415 (Or.inl (zc_ne hc0 zq_211 (by decide)))) (zs_ne hmm409 (Or.inr (by decide))))))))
                  exact zw_some ⟨hIm533, hFm533, hRKNm533, hRNSm533, hRTRm533, hRWDm533, ⟨by omega, by omega⟩, by omega, by omega, by omega, by omega, by omega, by omega, by omega, by omega⟩
                · exfalso; omega
            · refine zw_some ?_
              refine zw_ite (fun h555 => ?_) (fun h555 => ?_)
              · refine zw_b (by omega) ?_
                generalize hmm556 : zu_up m422 a0 50 0 = m556
                have hIm556 := zi_up hmm556 hIm422 hc0 zb_28_50 (by omega) (by omega)
                have hFm556 := zfr_up hmm556 hFm422 hc0 rfl
                have g557 := zwt_fr (zdis_fr (zfr_up hmm556 (zfr_rf [(28, 51)] _) hc0 rfl) rfl)
                have hRKNm556 := zR_KN_fr (zdis_fr (zfr_up hmm556 (zfr_rf [(28, 51)] _) hc0 rfl) rfl) hRKNm422
                have hRNSm556 := zR_NS_fr (zdis_fr (zfr_up hmm556 (zfr_rf [(28, 51)] _) hc0 rfl) rfl) hRNSm422
                have hRTRm556 := zR_TR_fr (zdis_fr (zfr_up hmm556 (zfr_rf [(28, 51)] _) hc0 rfl) rfl) hRTRm422
                have hRWDm556 := zR_WD_fr (zdis_fr (zfr_up hmm556 (zfr_rf [(28, 51)] _) hc0 rfl) rfl) hRWDm422
                refine zw_bd (zw_mono (zk_89 n hIm556 hc0 hRNSm556 hRWDm556) (fun v559 m558 hqm558 => ?_))
                obtain ⟨hIm558, hfm558, hvm558⟩ := hqm558
                have hFm558 := zfr_tr hFm556 hfm558 rfl
                obtain ⟨hRNSm558, hRTRm558, hRWDm558, hvm558⟩ := hvm558
                have g560 := zwt_fr (zdis_fr hfm558 rfl)
                have hRKNm558 := zR_KN_fr (zdis_fr hfm558 rfl) hRKNm556
                have g561 := zwt_bd hIm558 hc0
                have s562 := hRNSm558 a0 hc0
                have s563 := hRTRm558 a0 hc0
                refine zw_b (by omega) ?_
                have r564 : 0 ≤ (m558 a0 7) ∧ (m558 a0 7) ≤ 700 := zi_rd hIm558 hc0 zb_28_7
                have r565 : 0 ≤ (m558 a0 8) ∧ (m558 a0 8) ≤ 6 := zi_rd hIm558 hc0 zb_28_8
                have r566 : 0 ≤ (m558 a0 21) ∧ (m558 a0 21) ≤ 64 := zi_rd hIm558 hc0 zb_28_21
                have e567 : (m558 a0 21) = (mh a0 21) := (Eq.trans (zfr_ap hfm558 hc0 rfl) (Eq.trans (zs_ne hmm556 (Or.inr (by decide))) (Eq.trans (zs_ne hmm422 (Or.inr (by decide))) (Eq.trans (zs_ne hmm419 (Or.inr (by decide))) (Eq.trans (zs_ne hmm415 (Or.inl (zc_ne hc0 zq_211 (by decide)))) (zs_ne hmm409 (Or.inr (by decide))))))))
                have r568 : 0 ≤ (m558 a0 48) ∧ (m558 a0 48) ≤ 64 := zi_rd hIm558 hc0 zb_28_48
                have e569 : (m558 a0 48) = (zu_w32 ((mh a0 48) + 1)) := (Eq.trans (zfr_ap hfm558 hc0 rfl) (Eq.trans (zs_ne hmm556 (Or.inr (by decide))) (Eq.trans (zs_ne hmm422 (Or.inr (by decide))) (Eq.trans (zs_ne hmm419 (Or.inr (by decide))) (Eq.trans (zs_ne hmm415 (Or.inl (zc_ne hc0 zq_211 (by decide)))) (zs_eq hmm409))))))
                have r570 : 0 ≤ (m558 a0 46) ∧ (m558 a0 46) ≤ 96 := zi_rd hIm558 hc0 zb_28_46
                have e571 : (m558 a0 46) = (mh a0 46) := (Eq.trans (zfr_ap hfm558 hc0 rfl) (Eq.trans (zs_ne hmm556 (Or.inr (by decide))) (Eq.trans (zs_ne hmm422 (Or.inr (by decide))) (Eq.trans (zs_ne hmm419 (Or.inr (by decide))) (Eq.trans (zs_ne hmm415 (Or.inl (zc_ne hc0 zq_211 (by decide)))) (zs_ne hmm409 (Or.inr (by decide))))))))
                have r572 : 0 ≤ (m558 a0 49) ∧ (m558 a0 49) ≤ 1 := zi_rd hIm558 hc0 zb_28_49
                have e573 : (m558 a0 49) = 1 := (Eq.trans (zfr_ap hfm558 hc0 rfl) (Eq.trans (zs_ne hmm556 (Or.inr (by decide))) (zs_eq hmm422)))
                have r574 : 0 ≤ (m558 a0 45) ∧ (m558 a0 45) ≤ 96 := zi_rd hIm558 hc0 zb_28_45
                have e575 : (m558 a0 45) = (zu_w32 ((m415 a0 45) + 1)) := (Eq.trans (zfr_ap hfm558 hc0 rfl) (Eq.trans (zs_ne hmm556 (Or.inr (by decide))) (Eq.trans (zs_ne hmm422 (Or.inr (by decide))) (zs_eq hmm419))))
                have r576 : 0 ≤ (m558 a0 47) ∧ (m558 a0 47) ≤ 8 := zi_rd hIm558 hc0 zb_28_47
                have e577 : (m558 a0 47) = (mh a0 47) := (Eq.trans (zfr_ap hfm558 hc0 rfl) (Eq.trans (zs_ne hmm556 (Or.inr (by decide))) (Eq.trans (zs_ne hmm422 (Or.inr (by decide))) (Eq.trans (zs_ne hmm419 (Or.inr (by decide))) (Eq.trans (zs_ne hmm415 (Or.inl (zc_ne hc0 zq_211 (by decide)))) (zs_ne hmm409 (Or.inr (by decide))))))))
                have r578 : (-2147483648) ≤ (m558 a0 4) ∧ (m558 a0 4) ≤ 2147483647 := zi_rd hIm558 hc0 zb_28_4
                have e579 : (m558 a0 4) = (mh a0 4) := (Eq.trans (zfr_ap hfm558 hc0 rfl) (Eq.trans (zs_ne hmm556 (Or.inr (by decide))) (Eq.trans (zs_ne hmm422 (Or.inr (by decide))) (Eq.trans (zs_ne hmm419 (Or.inr (by decide))) (Eq.trans (zs_ne hmm415 (Or.inl (zc_ne hc0 zq_211 (by decide)))) (zs_ne hmm409 (Or.inr (by decide))))))))
                exact zw_some ⟨hIm558, hFm558, hRKNm558, hRNSm558, hRTRm558, hRWDm558, ⟨by omega, by omega⟩, by omega, by omega, by omega, by omega, by omega, by omega, by omega, by omega⟩
              · exfalso; omega
          · refine zw_some ?_
            refine zw_ite (fun h580 => ?_) (fun h580 => ?_)
            · refine zw_b (by omega) ?_
              generalize hmm581 : zu_up m422 a0 50 0 = m581
              have hIm581 := zi_up hmm581 hIm422 hc0 zb_28_50 (by omega) (by omega)
              have hFm581 := zfr_up hmm581 hFm422 hc0 rfl
              have g582 := zwt_fr (zdis_fr (zfr_up hmm581 (zfr_rf [(28, 51)] _) hc0 rfl) rfl)
              have hRKNm581 := zR_KN_fr (zdis_fr (zfr_up hmm581 (zfr_rf [(28, 51)] _) hc0 rfl) rfl) hRKNm422
              have hRNSm581 := zR_NS_fr (zdis_fr (zfr_up hmm581 (zfr_rf [(28, 51)] _) hc0 rfl) rfl) hRNSm422
              have hRTRm581 := zR_TR_fr (zdis_fr (zfr_up hmm581 (zfr_rf [(28, 51)] _) hc0 rfl) rfl) hRTRm422
              have hRWDm581 := zR_WD_fr (zdis_fr (zfr_up hmm581 (zfr_rf [(28, 51)] _) hc0 rfl) rfl) hRWDm422
              refine zw_bd (zw_mono (zk_89 n hIm581 hc0 hRNSm581 hRWDm581) (fun v584 m583 hqm583 => ?_))
              obtain ⟨hIm583, hfm583, hvm583⟩ := hqm583
              have hFm583 := zfr_tr hFm581 hfm583 rfl
              obtain ⟨hRNSm583, hRTRm583, hRWDm583, hvm583⟩ := hvm583
              have g585 := zwt_fr (zdis_fr hfm583 rfl)
              have hRKNm583 := zR_KN_fr (zdis_fr hfm583 rfl) hRKNm581
              have g586 := zwt_bd hIm583 hc0
              have s587 := hRNSm583 a0 hc0
              have s588 := hRTRm583 a0 hc0
              refine zw_b (by omega) ?_
              have r589 : 0 ≤ (m583 a0 7) ∧ (m583 a0 7) ≤ 700 := zi_rd hIm583 hc0 zb_28_7
              have r590 : 0 ≤ (m583 a0 8) ∧ (m583 a0 8) ≤ 6 := zi_rd hIm583 hc0 zb_28_8
              have r591 : 0 ≤ (m583 a0 21) ∧ (m583 a0 21) ≤ 64 := zi_rd hIm583 hc0 zb_28_21
              have e592 : (m583 a0 21) = (mh a0 21) := (Eq.trans (zfr_ap hfm583 hc0 rfl) (Eq.trans (zs_ne hmm581 (Or.inr (by decide))) (Eq.trans (zs_ne hmm422 (Or.inr (by decide))) (Eq.trans (zs_ne hmm419 (Or.inr (by decide))) (Eq.trans (zs_ne hmm415 (Or.inl (zc_ne hc0 zq_211 (by decide)))) (zs_ne hmm409 (Or.inr (by decide))))))))
              have r593 : 0 ≤ (m583 a0 48) ∧ (m583 a0 48) ≤ 64 := zi_rd hIm583 hc0 zb_28_48
              have e594 : (m583 a0 48) = (zu_w32 ((mh a0 48) + 1)) := (Eq.trans (zfr_ap hfm583 hc0 rfl) (Eq.trans (zs_ne hmm581 (Or.inr (by decide))) (Eq.trans (zs_ne hmm422 (Or.inr (by decide))) (Eq.trans (zs_ne hmm419 (Or.inr (by decide))) (Eq.trans (zs_ne hmm415 (Or.inl (zc_ne hc0 zq_211 (by decide)))) (zs_eq hmm409))))))
              have r595 : 0 ≤ (m583 a0 46) ∧ (m583 a0 46) ≤ 96 := zi_rd hIm583 hc0 zb_28_46
              have e596 : (m583 a0 46) = (mh a0 46) := (Eq.trans (zfr_ap hfm583 hc0 rfl) (Eq.trans (zs_ne hmm581 (Or.inr (by decide))) (Eq.trans (zs_ne hmm422 (Or.inr (by decide))) (Eq.trans (zs_ne hmm419 (Or.inr (by decide))) (Eq.trans (zs_ne hmm415 (Or.inl (zc_ne hc0 zq_211 (by decide)))) (zs_ne hmm409 (Or.inr (by decide))))))))
              have r597 : 0 ≤ (m583 a0 49) ∧ (m583 a0 49) ≤ 1 := zi_rd hIm583 hc0 zb_28_49
              have e598 : (m583 a0 49) = 1 := (Eq.trans (zfr_ap hfm583 hc0 rfl) (Eq.trans (zs_ne hmm581 (Or.inr (by decide))) (zs_eq hmm422)))
              have r599 : 0 ≤ (m583 a0 45) ∧ (m583 a0 45) ≤ 96 := zi_rd hIm583 hc0 zb_28_45
              have e600 : (m583 a0 45) = (zu_w32 ((m415 a0 45) + 1)) := (Eq.trans (zfr_ap hfm583 hc0 rfl) (Eq.trans (zs_ne hmm581 (Or.inr (by decide))) (Eq.trans (zs_ne hmm422 (Or.inr (by decide))) (zs_eq hmm419))))
              have r601 : 0 ≤ (m583 a0 47) ∧ (m583 a0 47) ≤ 8 := zi_rd hIm583 hc0 zb_28_47
              have e602 : (m583 a0 47) = (mh a0 47) := (Eq.trans (zfr_ap hfm583 hc0 rfl) (Eq.trans (zs_ne hmm581 (Or.inr (by decide))) (Eq.trans (zs_ne hmm422 (Or.inr (by decide))) (Eq.trans (zs_ne hmm419 (Or.inr (by decide))) (Eq.trans (zs_ne hmm415 (Or.inl (zc_ne hc0 zq_211 (by decide)))) (zs_ne hmm409 (Or.inr (by decide))))))))
              have r603 : (-2147483648) ≤ (m583 a0 4) ∧ (m583 a0 4) ≤ 2147483647 := zi_rd hIm583 hc0 zb_28_4
              have e604 : (m583 a0 4) = (mh a0 4) := (Eq.trans (zfr_ap hfm583 hc0 rfl) (Eq.trans (zs_ne hmm581 (Or.inr (by decide))) (Eq.trans (zs_ne hmm422 (Or.inr (by decide))) (Eq.trans (zs_ne hmm419 (Or.inr (by decide))) (Eq.trans (zs_ne hmm415 (Or.inl (zc_ne hc0 zq_211 (by decide)))) (zs_ne hmm409 (Or.inr (by decide))))))))
              exact zw_some ⟨hIm583, hFm583, hRKNm583, hRNSm583, hRTRm583, hRWDm583, ⟨by omega, by omega⟩, by omega, by omega, by omega, by omega, by omega, by omega, by omega, by omega⟩
            · exfalso; omega
        · exfalso; omega
      · refine zw_bd (zw_eq (zu_call_at (zt_T n) (zm_85 n) (zdp_85 n) _ _ _ _ _ rfl (zr_85_0 n _ _ a0 2 mh)) ?_)
        generalize hmm605 : zu_up mh a0 4 2 = m605
        have hIm605 := zi_up hmm605 hImh hc0 zb_28_4 (by omega) (by omega)
        have hFm605 := zfr_up hmm605 hFmh hc0 rfl
        have g606 := zwt_fr (zdis_fr (zfr_up hmm605 (zfr_rf [(28, 5)] _) hc0 rfl) rfl)
        have hRKNm605 := zR_KN_fr (zdis_fr (zfr_up hmm605 (zfr_rf [(28, 5)] _) hc0 rfl) rfl) hRKNmh
        have hRNSm605 := zR_NS_fr (zdis_fr (zfr_up hmm605 (zfr_rf [(28, 5)] _) hc0 rfl) rfl) hRNSmh
        have hRTRm605 := zR_TR_fr (zdis_fr (zfr_up hmm605 (zfr_rf [(28, 5)] _) hc0 rfl) rfl) hRTRmh
        have hRWDm605 := zR_WD_fr (zdis_fr (zfr_up hmm605 (zfr_rf [(28, 5)] _) hc0 rfl) rfl) hRWDmh
        have hRLRm605 := zLR_wr (zone_190 hc0) hmm605 (by decide)
        have r607 : 0 ≤ (m605 a0 10) ∧ (m605 a0 10) ≤ 700 := zi_rd hIm605 hc0 zb_28_10
        generalize hmm608 : zu_up m605 a0 5 (m605 a0 10) = m608
        have hIm608 := zi_up hmm608 hIm605 hc0 zb_28_5 (by omega) (by omega)
        have hFm608 := zfr_up hmm608 hFm605 hc0 rfl
        have g609 := zwt_fr (zdis_fr (zfr_up hmm608 (zfr_rf [(28, 6)] _) hc0 rfl) rfl)
        have hRKNm608 := zR_KN_fr (zdis_fr (zfr_up hmm608 (zfr_rf [(28, 6)] _) hc0 rfl) rfl) hRKNm605
        have hRLRm608 := zR_LR_fr (zdis_fr (zfr_up hmm608 (zfr_rf [(28, 6)] _) hc0 rfl) rfl) hRLRm605
        have hRNSm608 := zR_NS_fr (zdis_fr (zfr_up hmm608 (zfr_rf [(28, 6)] _) hc0 rfl) rfl) hRNSm605
        have hRTRm608 := zR_TR_fr (zdis_fr (zfr_up hmm608 (zfr_rf [(28, 6)] _) hc0 rfl) rfl) hRTRm605
        have hRWDm608 := zR_WD_fr (zdis_fr (zfr_up hmm608 (zfr_rf [(28, 6)] _) hc0 rfl) rfl) hRWDm605
        refine zw_b (by omega) ?_
        refine zw_some ?_
        refine zw_b (by omega) ?_
        refine zw_some ?_
        refine zw_ite (fun h610 => ?_) (fun h610 => ?_)
        · exfalso; omega
        · refine zw_b (by omega) ?_
          have r611 : 0 ≤ (m608 a0 7) ∧ (m608 a0 7) ≤ 700 := zi_rd hIm608 hc0 zb_28_7
          have e612 : (m608 a0 7) = (mh a0 7) := (Eq.trans (zs_ne hmm608 (Or.inr (by decide))) (zs_ne hmm605 (Or.inr (by decide))))
          have r613 : 0 ≤ (m608 a0 8) ∧ (m608 a0 8) ≤ 6 := zi_rd hIm608 hc0 zb_28_8
          have r614 : 0 ≤ (m608 a0 21) ∧ (m608 a0 21) ≤ 64 := zi_rd hIm608 hc0 zb_28_21
          have e615 : (m608 a0 21) = (mh a0 21) := (Eq.trans (zs_ne hmm608 (Or.inr (by decide))) (zs_ne hmm605 (Or.inr (by decide))))
          have r616 : 0 ≤ (m608 a0 48) ∧ (m608 a0 48) ≤ 64 := zi_rd hIm608 hc0 zb_28_48
          have e617 : (m608 a0 48) = (mh a0 48) := (Eq.trans (zs_ne hmm608 (Or.inr (by decide))) (zs_ne hmm605 (Or.inr (by decide))))
          have r618 : 0 ≤ (m608 a0 46) ∧ (m608 a0 46) ≤ 96 := zi_rd hIm608 hc0 zb_28_46
          have e619 : (m608 a0 46) = (mh a0 46) := (Eq.trans (zs_ne hmm608 (Or.inr (by decide))) (zs_ne hmm605 (Or.inr (by decide))))
          have r620 : 0 ≤ (m608 a0 49) ∧ (m608 a0 49) ≤ 1 := zi_rd hIm608 hc0 zb_28_49
          have e621 : (m608 a0 49) = (mh a0 49) := (Eq.trans (zs_ne hmm608 (Or.inr (by decide))) (zs_ne hmm605 (Or.inr (by decide))))
          have r622 : 0 ≤ (m608 a0 45) ∧ (m608 a0 45) ≤ 96 := zi_rd hIm608 hc0 zb_28_45
          have e623 : (m608 a0 45) = (mh a0 45) := (Eq.trans (zs_ne hmm608 (Or.inr (by decide))) (zs_ne hmm605 (Or.inr (by decide))))
          have r624 : 0 ≤ (m608 a0 47) ∧ (m608 a0 47) ≤ 8 := zi_rd hIm608 hc0 zb_28_47
          have e625 : (m608 a0 47) = (mh a0 47) := (Eq.trans (zs_ne hmm608 (Or.inr (by decide))) (zs_ne hmm605 (Or.inr (by decide))))
          have r626 : (-2147483648) ≤ (m608 a0 4) ∧ (m608 a0 4) ≤ 2147483647 := zi_rd hIm608 hc0 zb_28_4
          have e627 : (m608 a0 4) = 2 := (Eq.trans (zs_ne hmm608 (Or.inr (by decide))) (zs_eq hmm605))
          exact zw_some ⟨hIm608, hFm608, hRKNm608, hRNSm608, hRTRm608, hRWDm608, ⟨by omega, by omega⟩, by omega, by omega, by omega, by omega, by omega, by omega, by omega, by omega⟩
set_option maxHeartbeats 4000000 in
theorem zk_117 (n : Nat) {a0 : Int} {m0 : zu_m} (hIm0 : zi_I m0) (hc0 : zcls a0 = 28)   (he0 : 0 ≤ m0 a0 49 ∧ m0 a0 49 ≤ 0) (hxp0 : (m0 a0 21) + znz m0 = (m0 a0 48)) (hxp1 : (m0 a0 45) = znz m0 + (m0 a0 47)) (hxp2 : (m0 a0 46) = zbi m0 + 1) (hxp3 : (m0 a0 49) = 0) (hxp4 : 1 ≤ (m0 a0 21)) (hRKNm0 : zR_KN m0) (hRNSm0 : zR_NS m0) (hRTRm0 : zR_TR m0) (hRWDm0 : zR_WD m0) : zw (zu_call (zt_T n) 117 [(40, a0)] m0) (fun v m => zi_I m ∧ zfr [(28, 5), (28, 6), (28, 8), (28, 9), (28, 10), (28, 11), (28, 22), (28, 46), (28, 47), (28, 48), (28, 49), (28, 50), (28, 51), (117, 0), (118, 0), (119, 0), (120, 0), (121, 0)] m0 m ∧ zR_KN m ∧ zR_NS m ∧ zR_TR m ∧ zR_WD m ∧ (0 ≤ v ∧ v ≤ 1) ∧ ((m0 a0 7) ≤ (m a0 7)) ∧ (v = 1 → ((m0 a0 8) ≠ 0 ∧ ((m a0 8) = 0 ∨ (m0 a0 7) < (m a0 7)))) ∧ (v = 1 → (m a0 21) + znz m = (m a0 48)) ∧ (v = 1 → (m a0 46) + (m a0 49) = zbi m + 1) ∧ (v = 1 → (m a0 45) = znz m + (m a0 47)) ∧ (v = 1 → ((m a0 49) = 0 → 1 ≤ (m a0 21))) ∧ (v = 1 → (m a0 4) = (m0 a0 4)) ∧ (v = 0 → (m a0 4) ≠ 0)) := by
  have hFm0 : zfr [(28, 5), (28, 6), (28, 8), (28, 9), (28, 10), (28, 11), (28, 22), (28, 46), (28, 47), (28, 48), (28, 49), (28, 50), (28, 51), (117, 0), (118, 0), (119, 0), (120, 0), (121, 0)] m0 m0 := zfr_rf _ _
  have r628 : 0 ≤ (m0 a0 7) ∧ (m0 a0 7) ≤ 700 := zi_rd hIm0 hc0 zb_28_7
  have r629 : 0 ≤ (m0 a0 8) ∧ (m0 a0 8) ≤ 6 := zi_rd hIm0 hc0 zb_28_8
  have r630 : (-2147483648) ≤ (m0 a0 4) ∧ (m0 a0 4) ≤ 2147483647 := zi_rd hIm0 hc0 zb_28_4
  have r631 : 0 ≤ (m0 a0 21) ∧ (m0 a0 21) ≤ 64 := zi_rd hIm0 hc0 zb_28_21
  have r632 : 0 ≤ (m0 a0 48) ∧ (m0 a0 48) ≤ 64 := zi_rd hIm0 hc0 zb_28_48
  have r633 : 0 ≤ (m0 a0 45) ∧ (m0 a0 45) ≤ 96 := zi_rd hIm0 hc0 zb_28_45
  have r634 : 0 ≤ (m0 a0 47) ∧ (m0 a0 47) ≤ 8 := zi_rd hIm0 hc0 zb_28_47
  have r635 : 0 ≤ (m0 a0 46) ∧ (m0 a0 46) ≤ 96 := zi_rd hIm0 hc0 zb_28_46
  have g636 := zwt_bd hIm0 hc0
  have s637 := hRNSm0 a0 hc0
  have s638 := hRTRm0 a0 hc0
  refine zw_eq (zu_call_at (zt_T n) (zm_117 n) (zdp_117 n) _ _ _ _ _ rfl (zr_117_0 n _ _ a0 m0)) ?_
  refine zw_bd (zw_eq (zu_call_at (zt_T n) (zm_93 n) (zdp_93 n) _ _ _ _ _ rfl (zr_93_0 n _ _ a0 41 m0)) ?_)
  refine zw_ite (fun h639 => ?_) (fun h639 => ?_)
  · refine zw_b (by omega) ?_
    refine zw_some ?_
    refine zw_ite (fun h640 => ?_) (fun h640 => ?_)
    · have hM : 2 < ((3 : Nat) : Int) := by omega
      exact (zl_117 n (m0 := m0) hc0 hxp0 hxp1 hxp2 hxp3 hxp4 3).1  m0 hIm0 hFm0 ⟨by omega, by omega⟩ (by omega) (by omega) (by omega) (by omega) (by omega) (by omega) (by omega) hRKNm0 hRNSm0 hRTRm0 hRWDm0 hM
    · exfalso; omega
  · have r641 : (-2147483648) ≤ (m0 a0 9) ∧ (m0 a0 9) ≤ 2147483647 := zi_rd hIm0 hc0 zb_28_9
    refine zw_ite (fun h642 => ?_) (fun h642 => ?_)
    · refine zw_b (by omega) ?_
      refine zw_some ?_
      refine zw_ite (fun h643 => ?_) (fun h643 => ?_)
      · have hM : 2 < ((3 : Nat) : Int) := by omega
        exact (zl_117 n (m0 := m0) hc0 hxp0 hxp1 hxp2 hxp3 hxp4 3).1  m0 hIm0 hFm0 ⟨by omega, by omega⟩ (by omega) (by omega) (by omega) (by omega) (by omega) (by omega) (by omega) hRKNm0 hRNSm0 hRTRm0 hRWDm0 hM
      · exfalso; omega
    · refine zw_b (by omega) ?_
      refine zw_some ?_
      refine zw_ite (fun h644 => ?_) (fun h644 => ?_)
      · exfalso; omega
      · refine zw_ite (fun h645 => ?_) (fun h645 => ?_)
        · have hM : 2 < ((3 : Nat) : Int) := by omega
          exact (zl_117 n (m0 := m0) hc0 hxp0 hxp1 hxp2 hxp3 hxp4 3).1  m0 hIm0 hFm0 ⟨by omega, by omega⟩ (by omega) (by omega) (by omega) (by omega) (by omega) (by omega) (by omega) hRKNm0 hRNSm0 hRTRm0 hRWDm0 hM
        · refine zw_bd (zw_mono (zk_112 n hIm0 hc0 ⟨by omega, by omega⟩ (by omega) (by omega) (by omega) hRKNm0) (fun v647 m646 hqm646 => ?_))
          obtain ⟨hIm646, hfm646, hvm646⟩ := hqm646
          have hFm646 := zfr_tr hFm0 hfm646 rfl
          obtain ⟨hRKNm646, hvm646⟩ := hvm646
          have hRNSm646 := zR_NS_fr (zdis_fr hfm646 rfl) hRNSm0
          have hRTRm646 := zR_TR_fr (zdis_fr hfm646 rfl) hRTRm0
          have hRWDm646 := zR_WD_fr (zdis_fr hfm646 rfl) hRWDm0
          have g648 := zwt_bd hIm646 hc0
          have s649 := hRNSm646 a0 hc0
          have s650 := hRTRm646 a0 hc0
          have r651 : 0 ≤ (m646 a0 45) ∧ (m646 a0 45) ≤ 96 := zi_rd hIm646 hc0 zb_28_45
          have w652 := zu_w32_id (z := (m646 a0 45) - 1) (by omega) (by omega)
          generalize hmm653 : zu_up m646 a0 45 (zu_w32 ((m646 a0 45) - 1)) = m653
          have hIm653 := zi_up hmm653 hIm646 hc0 zb_28_45 (by omega) (by omega)
          have hFm653 := zfr_up hmm653 hFm646 hc0 rfl
          have hRKNm653 := zR_KN_fr (zdis_fr (zfr_up hmm653 (zfr_rf [(28, 46)] _) hc0 rfl) rfl) hRKNm646
          have hRNSm653 := zR_NS_fr (zdis_fr (zfr_up hmm653 (zfr_rf [(28, 46)] _) hc0 rfl) rfl) hRNSm646
          have hRTRm653 := zR_TR_fr (zdis_fr (zfr_up hmm653 (zfr_rf [(28, 46)] _) hc0 rfl) rfl) hRTRm646
          have hRWDm653 := zR_WD_fr (zdis_fr (zfr_up hmm653 (zfr_rf [(28, 46)] _) hc0 rfl) rfl) hRWDm646
          have g654 := zwt_pop hmm653 hc0 (by omega) (by omega)
          have g655 := zwt_bd hIm653 hc0
          have r656 : 0 ≤ (m653 a0 47) ∧ (m653 a0 47) ≤ 8 := zi_rd hIm653 hc0 zb_28_47
          have e657 : (m653 a0 47) = (m0 a0 47) := (Eq.trans (zs_ne hmm653 (Or.inr (by decide))) (zfr_ap hfm646 hc0 rfl))
          have w658 := zu_w32_id (z := (m653 a0 47) - 1) (by omega) (by omega)
          generalize hmm659 : zu_up m653 a0 47 (zu_w32 ((m653 a0 47) - 1)) = m659
          have hIm659 := zi_up hmm659 hIm653 hc0 zb_28_47 (by omega) (by omega)
          have hFm659 := zfr_up hmm659 hFm653 hc0 rfl
          have g660 := zwt_fr (zdis_fr (zfr_up hmm659 (zfr_rf [(28, 48)] _) hc0 rfl) rfl)
          have hRKNm659 := zR_KN_fr (zdis_fr (zfr_up hmm659 (zfr_rf [(28, 48)] _) hc0 rfl) rfl) hRKNm653
          have hRNSm659 := zR_NS_fr (zdis_fr (zfr_up hmm659 (zfr_rf [(28, 48)] _) hc0 rfl) rfl) hRNSm653
          have hRTRm659 := zR_TR_fr (zdis_fr (zfr_up hmm659 (zfr_rf [(28, 48)] _) hc0 rfl) rfl) hRTRm653
          have hRWDm659 := zR_WD_fr (zdis_fr (zfr_up hmm659 (zfr_rf [(28, 48)] _) hc0 rfl) rfl) hRWDm653
          refine zw_bd (zw_mono (zk_89 n hIm659 hc0 hRNSm659 hRWDm659) (fun v662 m661 hqm661 => ?_))
          obtain ⟨hIm661, hfm661, hvm661⟩ := hqm661
          have hFm661 := zfr_tr hFm659 hfm661 rfl
          obtain ⟨hRNSm661, hRTRm661, hRWDm661, hvm661⟩ := hvm661
          have g663 := zwt_fr (zdis_fr hfm661 rfl)
          have hRKNm661 := zR_KN_fr (zdis_fr hfm661 rfl) hRKNm659
          have g664 := zwt_bd hIm661 hc0
          have s665 := hRNSm661 a0 hc0
          have s666 := hRTRm661 a0 hc0
          refine zw_b (by omega) ?_
          have r667 : 0 ≤ (m661 a0 7) ∧ (m661 a0 7) ≤ 700 := zi_rd hIm661 hc0 zb_28_7
          have r668 : 0 ≤ (m661 a0 8) ∧ (m661 a0 8) ≤ 6 := zi_rd hIm661 hc0 zb_28_8
          have r669 : 0 ≤ (m661 a0 21) ∧ (m661 a0 21) ≤ 64 := zi_rd hIm661 hc0 zb_28_21
          have r670 : 0 ≤ (m661 a0 48) ∧ (m661 a0 48) ≤ 64 := zi_rd hIm661 hc0 zb_28_48
          have e671 : (m661 a0 48) = (m0 a0 48) := (Eq.trans (zfr_ap hfm661 hc0 rfl) (Eq.trans (zs_ne hmm659 (Or.inr (by decide))) (Eq.trans (zs_ne hmm653 (Or.inr (by decide))) (zfr_ap hfm646 hc0 rfl))))
          have r672 : 0 ≤ (m661 a0 46) ∧ (m661 a0 46) ≤ 96 := zi_rd hIm661 hc0 zb_28_46
          have r673 : 0 ≤ (m661 a0 49) ∧ (m661 a0 49) ≤ 1 := zi_rd hIm661 hc0 zb_28_49
          have e674 : (m661 a0 49) = (m0 a0 49) := (Eq.trans (zfr_ap hfm661 hc0 rfl) (Eq.trans (zs_ne hmm659 (Or.inr (by decide))) (Eq.trans (zs_ne hmm653 (Or.inr (by decide))) (zfr_ap hfm646 hc0 rfl))))
          have r675 : 0 ≤ (m661 a0 45) ∧ (m661 a0 45) ≤ 96 := zi_rd hIm661 hc0 zb_28_45
          have e676 : (m661 a0 45) = (zu_w32 ((m646 a0 45) - 1)) := (Eq.trans (zfr_ap hfm661 hc0 rfl) (Eq.trans (zs_ne hmm659 (Or.inr (by decide))) (zs_eq hmm653)))
          have r677 : 0 ≤ (m661 a0 47) ∧ (m661 a0 47) ≤ 8 := zi_rd hIm661 hc0 zb_28_47
          have e678 : (m661 a0 47) = (zu_w32 ((m653 a0 47) - 1)) := (Eq.trans (zfr_ap hfm661 hc0 rfl) (zs_eq hmm659))
          have r679 : (-2147483648) ≤ (m661 a0 4) ∧ (m661 a0 4) ≤ 2147483647 := zi_rd hIm661 hc0 zb_28_4
          have e680 : (m661 a0 4) = (m0 a0 4) := (Eq.trans (zfr_ap hfm661 hc0 rfl) (Eq.trans (zs_ne hmm659 (Or.inr (by decide))) (Eq.trans (zs_ne hmm653 (Or.inr (by decide))) (zfr_ap hfm646 hc0 rfl))))
          exact zw_some ⟨hIm661, hFm661, hRKNm661, hRNSm661, hRTRm661, hRWDm661, ⟨by omega, by omega⟩, by omega, by omega, by omega, by omega, by omega, by omega, by omega, by omega⟩

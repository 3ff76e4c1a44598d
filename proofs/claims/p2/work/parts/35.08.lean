set_option maxHeartbeats 4000000 in
theorem zl_117 (n : Nat) {a0 : Int} {m0 : zu_m} (hc0 : zcls a0 = 28)  (hxp0 : (m0 a0 21) + znz m0 = (m0 a0 48)) (hxp1 : (m0 a0 45) = znz m0 + (m0 a0 47)) (hxp2 : (m0 a0 46) = zbi m0 + 1) (hxp3 : (m0 a0 49) = 0) (hxp4 : 1 ≤ (m0 a0 21)) : ∀ k : Nat, (∀ (mh : zu_m), zi_I mh → zfr [(28, 5), (28, 6), (28, 8), (28, 9), (28, 10), (28, 11), (28, 22), (28, 46), (28, 47), (28, 48), (28, 49), (28, 50), (28, 51), (117, 0), (118, 0), (119, 0), (120, 0), (121, 0)] m0 mh → (0 ≤ mh a0 49 ∧ mh a0 49 ≤ 0) → ((mh a0 21) + znz mh = (mh a0 48)) → ((mh a0 45) = znz mh + (mh a0 47)) → ((mh a0 46) = zbi mh + 1) → (1 ≤ (mh a0 21)) → ((mh a0 7) = (m0 a0 7)) → ((mh a0 8) = (m0 a0 8)) → (zR_KN mh) → (zR_NS mh) → (zR_TR mh) → (zR_WD mh) → 2 < (k : Int) → zw (zu_ex (zt_T n) 117 47 [(40, a0), (2, 0)] [] mh) (fun v m => zi_I m ∧ zfr [(28, 5), (28, 6), (28, 8), (28, 9), (28, 10), (28, 11), (28, 22), (28, 46), (28, 47), (28, 48), (28, 49), (28, 50), (28, 51), (117, 0), (118, 0), (119, 0), (120, 0), (121, 0)] m0 m ∧ zR_KN m ∧ zR_NS m ∧ zR_TR m ∧ zR_WD m ∧ (0 ≤ v ∧ v ≤ 1) ∧ ((m0 a0 7) ≤ (m a0 7)) ∧ (v = 1 → ((m0 a0 8) ≠ 0 ∧ ((m a0 8) = 0 ∨ (m0 a0 7) < (m a0 7)))) ∧ (v = 1 → (m a0 21) + znz m = (m a0 48)) ∧ (v = 1 → (m a0 46) + (m a0 49) = zbi m + 1) ∧ (v = 1 → (m a0 45) = znz m + (m a0 47)) ∧ (v = 1 → ((m a0 49) = 0 → 1 ≤ (m a0 21))))) ∧ (∀ (y0 : Int) (mh : zu_m), zi_I mh → zfr [(28, 5), (28, 6), (28, 8), (28, 9), (28, 10), (28, 11), (28, 22), (28, 46), (28, 47), (28, 48), (28, 49), (28, 50), (28, 51), (117, 0), (118, 0), (119, 0), (120, 0), (121, 0)] m0 mh → (0 ≤ y0 ∧ y0 ≤ 14) → (0 ≤ mh a0 49 ∧ mh a0 49 ≤ 0) → ((mh a0 21) + znz mh = (mh a0 48)) → ((mh a0 45) = znz mh + (mh a0 47)) → ((mh a0 46) = zbi mh + 1) → (1 ≤ (mh a0 21)) → ((mh a0 7) = (m0 a0 7)) → (y0 ≠ 0 → (m0 a0 8) ≠ 0) → (y0 = 0 ∨ 3 ≤ y0) → (zR_KN mh) → (zR_NS mh) → (zR_TR mh) → (zR_WD mh) → 1 < (k : Int) → zw (zu_ex (zt_T n) 117 147 [(40, a0), (2, 0)] [(0, y0)] mh) (fun v m => zi_I m ∧ zfr [(28, 5), (28, 6), (28, 8), (28, 9), (28, 10), (28, 11), (28, 22), (28, 46), (28, 47), (28, 48), (28, 49), (28, 50), (28, 51), (117, 0), (118, 0), (119, 0), (120, 0), (121, 0)] m0 m ∧ zR_KN m ∧ zR_NS m ∧ zR_TR m ∧ zR_WD m ∧ (0 ≤ v ∧ v ≤ 1) ∧ ((m0 a0 7) ≤ (m a0 7)) ∧ (v = 1 → ((m0 a0 8) ≠ 0 ∧ ((m a0 8) = 0 ∨ (m0 a0 7) < (m a0 7)))) ∧ (v = 1 → (m a0 21) + znz m = (m a0 48)) ∧ (v = 1 → (m a0 46) + (m a0 49) = zbi m + 1) ∧ (v = 1 → (m a0 45) = znz m + (m a0 47)) ∧ (v = 1 → ((m a0 49) = 0 → 1 ≤ (m a0 21))))) ∧ (∀ (x1 : Int) (mh : zu_m), zi_I mh → zfr [(28, 5), (28, 6), (28, 8), (28, 9), (28, 10), (28, 11), (28, 22), (28, 46), (28, 47), (28, 48), (28, 49), (28, 50), (28, 51), (117, 0), (118, 0), (119, 0), (120, 0), (121, 0)] m0 mh → (1 ≤ x1 ∧ x1 ≤ 14) → (0 ≤ mh a0 49 ∧ mh a0 49 ≤ 0) → ((mh a0 21) + znz mh = (mh a0 48)) → ((mh a0 45) = znz mh + (mh a0 47)) → ((mh a0 46) = zbi mh + 1) → (1 ≤ (mh a0 21)) → ((mh a0 7) = (m0 a0 7)) → ((m0 a0 8) ≠ 0) → (3 ≤ x1) → (zR_KN mh) → (zR_NS mh) → (zR_TR mh) → (zR_WD mh) → 0 < (k : Int) → zw (zu_ex (zt_T n) 117 217 [(40, a0), (0, x1)] [] mh) (fun v m => zi_I m ∧ zfr [(28, 5), (28, 6), (28, 8), (28, 9), (28, 10), (28, 11), (28, 22), (28, 46), (28, 47), (28, 48), (28, 49), (28, 50), (28, 51), (117, 0), (118, 0), (119, 0), (120, 0), (121, 0)] m0 m ∧ zR_KN m ∧ zR_NS m ∧ zR_TR m ∧ zR_WD m ∧ (0 ≤ v ∧ v ≤ 1) ∧ ((m0 a0 7) ≤ (m a0 7)) ∧ (v = 1 → ((m0 a0 8) ≠ 0 ∧ ((m a0 8) = 0 ∨ (m0 a0 7) < (m a0 7)))) ∧ (v = 1 → (m a0 21) + znz m = (m a0 48)) ∧ (v = 1 → (m a0 46) + (m a0 49) = zbi m + 1) ∧ (v = 1 → (m a0 45) = znz m + (m a0 47)) ∧ (v = 1 → ((m a0 49) = 0 → 1 ≤ (m a0 21))))) := by
  intro k
  induction k with
  | zero => exact ⟨fun mh hImh hFmh hg0 hH0 hH1 hH2 hH3 hH4 hH5 hRKNmh hRNSmh hRTRmh hRWDmh hM => by exfalso; omega, fun y0 mh hImh hFmh hby0 hg1 hH0 hH1 hH2 hH3 hH4 hH5 hH6 hRKNmh hRNSmh hRTRmh hRWDmh hM => by exfalso; omega, fun x1 mh hImh hFmh hbx1 hg1 hH0 hH1 hH2 hH3 hH4 hH5 hH6 hRKNmh hRNSmh hRTRmh hRWDmh hM => by exfalso; omega⟩
  | succ k ih =>
    refine ⟨?_, ?_, ?_⟩
    · intro mh hImh hFmh hg0 hH0 hH1 hH2 hH3 hH4 hH5 hRKNmh hRNSmh hRTRmh hRWDmh hM
      refine zw_eq (zu_rega_at (zt_T n) (zm_117 n) (zdp_117 n) _ _ _ _ _ _ (zr_117_47 n _ _ a0 mh)) ?_
      have r1 : 0 ≤ (mh a0 21) ∧ (mh a0 21) ≤ 64 := zi_rd hImh hc0 zb_28_21
      have r2 : 0 ≤ (mh a0 48) ∧ (mh a0 48) ≤ 64 := zi_rd hImh hc0 zb_28_48
      have r3 : 0 ≤ (mh a0 45) ∧ (mh a0 45) ≤ 96 := zi_rd hImh hc0 zb_28_45
      have r4 : 0 ≤ (mh a0 47) ∧ (mh a0 47) ≤ 8 := zi_rd hImh hc0 zb_28_47
      have r5 : 0 ≤ (mh a0 46) ∧ (mh a0 46) ≤ 96 := zi_rd hImh hc0 zb_28_46
      have r6 : 0 ≤ (mh a0 7) ∧ (mh a0 7) ≤ 700 := zi_rd hImh hc0 zb_28_7
      have r7 : 0 ≤ (mh a0 8) ∧ (mh a0 8) ≤ 6 := zi_rd hImh hc0 zb_28_8
      have g8 := zwt_bd hImh hc0
      have s9 := hRNSmh a0 hc0
      have s10 := hRTRmh a0 hc0
      refine zw_bd (zw_eq (zu_call_at (zt_T n) (zm_92 n) (zdp_92 n) _ _ _ _ _ rfl (zr_92_0 n _ _ a0 23 mh)) ?_)
      refine zw_ite (fun h11 => ?_) (fun h11 => ?_)
      · refine zw_b (by omega) ?_
        refine zw_some ?_
        refine zw_ite (fun h12 => ?_) (fun h12 => ?_)
        · refine zw_bd (zw_eq (zu_call_at (zt_T n) (zm_92 n) (zdp_92 n) _ _ _ _ _ rfl (zr_92_0 n _ _ a0 24 mh)) ?_)
          refine zw_ite (fun h13 => ?_) (fun h13 => ?_)
          · refine zw_b (by omega) ?_
            refine zw_some ?_
            refine zw_ite (fun h14 => ?_) (fun h14 => ?_)
            · refine zw_ite (fun h15 => ?_) (fun h15 => ?_)
              · refine zw_bd (zw_eq (zu_call_at (zt_T n) (zm_93 n) (zdp_93 n) _ _ _ _ _ rfl (zr_93_0 n _ _ a0 43 mh)) ?_)
                refine zw_ite (fun h16 => ?_) (fun h16 => ?_)
                · refine zw_b (by omega) ?_
                  refine zw_some ?_
                  refine zw_ite (fun h17 => ?_) (fun h17 => ?_)
                  · refine zw_bd (zw_eq (zu_call_at (zt_T n) (zm_93 n) (zdp_93 n) _ _ _ _ _ rfl (zr_93_0 n _ _ a0 45 mh)) ?_)
                    refine zw_ite (fun h18 => ?_) (fun h18 => ?_)
                    · refine zw_b (by omega) ?_
                      refine zw_some ?_
                      refine zw_ite (fun h19 => ?_) (fun h19 => ?_)
                      · refine zw_bd (zw_eq (zu_call_at (zt_T n) (zm_93 n) (zdp_93 n) _ _ _ _ _ rfl (zr_93_0 n _ _ a0 42 mh)) ?_)
                        refine zw_ite (fun h20 => ?_) (fun h20 => ?_)
                        · refine zw_b (by omega) ?_
                          refine zw_some ?_
                          refine zw_ite (fun h21 => ?_) (fun h21 => ?_)
                          · refine zw_bd (zw_eq (zu_call_at (zt_T n) (zm_93 n) (zdp_93 n) _ _ _ _ _ rfl (zr_93_0 n _ _ a0 47 mh)) ?_)
                            refine zw_ite (fun h22 => ?_) (fun h22 => ?_)
                            · refine zw_b (by omega) ?_
                              refine zw_some ?_
                              refine zw_ite (fun h23 => ?_) (fun h23 => ?_)
                              · have hM : 1 < (k : Int) := by omega
                                exact ih.2.1 0 mh hImh hFmh ⟨by omega, by omega⟩ ⟨by omega, by omega⟩ (by omega) (by omega) (by omega) (by omega) (by omega) (by omega) (by omega) hRKNmh hRNSmh hRTRmh hRWDmh hM
                              · exfalso; omega
                            · exfalso; omega
                          · exfalso; omega
                        · exfalso; omega
                      · exfalso; omega
                    · exfalso; omega
                  · exfalso; omega
                · have r24 : (-2147483648) ≤ (mh a0 9) ∧ (mh a0 9) ≤ 2147483647 := zi_rd hImh hc0 zb_28_9
                  refine zw_ite (fun h25 => ?_) (fun h25 => ?_)
                  · refine zw_b (by omega) ?_
                    refine zw_some ?_
                    refine zw_ite (fun h26 => ?_) (fun h26 => ?_)
                    · refine zw_bd (zw_eq (zu_call_at (zt_T n) (zm_93 n) (zdp_93 n) _ _ _ _ _ rfl (zr_93_0 n _ _ a0 45 mh)) ?_)
                      refine zw_ite (fun h27 => ?_) (fun h27 => ?_)
                      · exfalso; omega
                      · refine zw_ite (fun h28 => ?_) (fun h28 => ?_)
                        · refine zw_b (by omega) ?_
                          refine zw_some ?_
                          refine zw_ite (fun h29 => ?_) (fun h29 => ?_)
                          · refine zw_bd (zw_eq (zu_call_at (zt_T n) (zm_93 n) (zdp_93 n) _ _ _ _ _ rfl (zr_93_0 n _ _ a0 42 mh)) ?_)
                            refine zw_ite (fun h30 => ?_) (fun h30 => ?_)
                            · exfalso; omega
                            · refine zw_ite (fun h31 => ?_) (fun h31 => ?_)
                              · refine zw_b (by omega) ?_
                                refine zw_some ?_
                                refine zw_ite (fun h32 => ?_) (fun h32 => ?_)
                                · refine zw_bd (zw_eq (zu_call_at (zt_T n) (zm_93 n) (zdp_93 n) _ _ _ _ _ rfl (zr_93_0 n _ _ a0 47 mh)) ?_)
                                  refine zw_ite (fun h33 => ?_) (fun h33 => ?_)
                                  · exfalso; omega
                                  · refine zw_ite (fun h34 => ?_) (fun h34 => ?_)
                                    · refine zw_b (by omega) ?_
                                      refine zw_some ?_
                                      refine zw_ite (fun h35 => ?_) (fun h35 => ?_)
                                      · have hM : 1 < (k : Int) := by omega
                                        exact ih.2.1 0 mh hImh hFmh ⟨by omega, by omega⟩ ⟨by omega, by omega⟩ (by omega) (by omega) (by omega) (by omega) (by omega) (by omega) (by omega) hRKNmh hRNSmh hRTRmh hRWDmh hM
                                      · exfalso; omega
                                    · refine zw_b (by omega) ?_
                                      refine zw_some ?_
                                      refine zw_ite (fun h36 => ?_) (fun h36 => ?_)
                                      · exfalso; omega
                                      · have hM : 1 < (k : Int) := by omega
                                        exact ih.2.1 14 mh hImh hFmh ⟨by omega, by omega⟩ ⟨by omega, by omega⟩ (by omega) (by omega) (by omega) (by omega) (by omega) (by omega) (by omega) hRKNmh hRNSmh hRTRmh hRWDmh hM
                                · exfalso; omega
                              · refine zw_b (by omega) ?_
                                refine zw_some ?_
                                refine zw_ite (fun h37 => ?_) (fun h37 => ?_)
                                · exfalso; omega
                                · have hM : 1 < (k : Int) := by omega
                                  exact ih.2.1 13 mh hImh hFmh ⟨by omega, by omega⟩ ⟨by omega, by omega⟩ (by omega) (by omega) (by omega) (by omega) (by omega) (by omega) (by omega) hRKNmh hRNSmh hRTRmh hRWDmh hM
                          · exfalso; omega
                        · refine zw_b (by omega) ?_
                          refine zw_some ?_
                          refine zw_ite (fun h38 => ?_) (fun h38 => ?_)
                          · exfalso; omega
                          · have hM : 1 < (k : Int) := by omega
                            exact ih.2.1 12 mh hImh hFmh ⟨by omega, by omega⟩ ⟨by omega, by omega⟩ (by omega) (by omega) (by omega) (by omega) (by omega) (by omega) (by omega) hRKNmh hRNSmh hRTRmh hRWDmh hM
                    · exfalso; omega
                  · refine zw_b (by omega) ?_
                    refine zw_some ?_
                    refine zw_ite (fun h39 => ?_) (fun h39 => ?_)
                    · exfalso; omega
                    · have hM : 1 < (k : Int) := by omega
                      exact ih.2.1 11 mh hImh hFmh ⟨by omega, by omega⟩ ⟨by omega, by omega⟩ (by omega) (by omega) (by omega) (by omega) (by omega) (by omega) (by omega) hRKNmh hRNSmh hRTRmh hRWDmh hM
              · have w40 := zu_w32_id (z := 5 + (mh a0 9)) (by omega) (by omega)
                have hM : 1 < (k : Int) := by omega
                exact ih.2.1 (zu_w32 (5 + (mh a0 9))) mh hImh hFmh ⟨by omega, by omega⟩ ⟨by omega, by omega⟩ (by omega) (by omega) (by omega) (by omega) (by omega) (by omega) (by omega) hRKNmh hRNSmh hRTRmh hRWDmh hM
            · exfalso; omega
          · exfalso; omega
        · exfalso; omega
      · refine zw_ite (fun h41 => ?_) (fun h41 => ?_)
        · refine zw_b (by omega) ?_
          refine zw_some ?_
          refine zw_ite (fun h42 => ?_) (fun h42 => ?_)
          · refine zw_bd (zw_eq (zu_call_at (zt_T n) (zm_92 n) (zdp_92 n) _ _ _ _ _ rfl (zr_92_0 n _ _ a0 24 mh)) ?_)
            refine zw_ite (fun h43 => ?_) (fun h43 => ?_)
            · exfalso; omega
            · refine zw_ite (fun h44 => ?_) (fun h44 => ?_)
              · refine zw_b (by omega) ?_
                refine zw_some ?_
                refine zw_ite (fun h45 => ?_) (fun h45 => ?_)
                · refine zw_ite (fun h46 => ?_) (fun h46 => ?_)
                  · refine zw_bd (zw_eq (zu_call_at (zt_T n) (zm_93 n) (zdp_93 n) _ _ _ _ _ rfl (zr_93_0 n _ _ a0 43 mh)) ?_)
                    refine zw_ite (fun h47 => ?_) (fun h47 => ?_)
                    · refine zw_b (by omega) ?_
                      refine zw_some ?_
                      refine zw_ite (fun h48 => ?_) (fun h48 => ?_)
                      · refine zw_bd (zw_eq (zu_call_at (zt_T n) (zm_93 n) (zdp_93 n) _ _ _ _ _ rfl (zr_93_0 n _ _ a0 45 mh)) ?_)
                        refine zw_ite (fun h49 => ?_) (fun h49 => ?_)
                        · refine zw_b (by omega) ?_
                          refine zw_some ?_
                          refine zw_ite (fun h50 => ?_) (fun h50 => ?_)
                          · refine zw_bd (zw_eq (zu_call_at (zt_T n) (zm_93 n) (zdp_93 n) _ _ _ _ _ rfl (zr_93_0 n _ _ a0 42 mh)) ?_)
                            refine zw_ite (fun h51 => ?_) (fun h51 => ?_)
                            · refine zw_b (by omega) ?_
                              refine zw_some ?_
                              refine zw_ite (fun h52 => ?_) (fun h52 => ?_)
                              · refine zw_bd (zw_eq (zu_call_at (zt_T n) (zm_93 n) (zdp_93 n) _ _ _ _ _ rfl (zr_93_0 n _ _ a0 47 mh)) ?_)
                                refine zw_ite (fun h53 => ?_) (fun h53 => ?_)
                                · refine zw_b (by omega) ?_
                                  refine zw_some ?_
                                  refine zw_ite (fun h54 => ?_) (fun h54 => ?_)
                                  · have hM : 1 < (k : Int) := by omega
                                    exact ih.2.1 0 mh hImh hFmh ⟨by omega, by omega⟩ ⟨by omega, by omega⟩ (by omega) (by omega) (by omega) (by omega) (by omega) (by omega) (by omega) hRKNmh hRNSmh hRTRmh hRWDmh hM
                                  · exfalso; omega
                                · exfalso; omega
                              · exfalso; omega
                            · exfalso; omega
                          · exfalso; omega
                        · exfalso; omega
                      · exfalso; omega
                    · exfalso; omega
                  · exfalso; omega
                · exfalso; omega
              · refine zw_b (by omega) ?_
                refine zw_some ?_
                refine zw_ite (fun h55 => ?_) (fun h55 => ?_)
                · exfalso; omega
                · have hM : 1 < (k : Int) := by omega
                  exact ih.2.1 4 mh hImh hFmh ⟨by omega, by omega⟩ ⟨by omega, by omega⟩ (by omega) (by omega) (by omega) (by omega) (by omega) (by omega) (by omega) hRKNmh hRNSmh hRTRmh hRWDmh hM
          · exfalso; omega
        · refine zw_b (by omega) ?_
          refine zw_some ?_
          refine zw_ite (fun h56 => ?_) (fun h56 => ?_)
          · exfalso; omega
          · have hM : 1 < (k : Int) := by omega
            exact ih.2.1 3 mh hImh hFmh ⟨by omega, by omega⟩ ⟨by omega, by omega⟩ (by omega) (by omega) (by omega) (by omega) (by omega) (by omega) (by omega) hRKNmh hRNSmh hRTRmh hRWDmh hM
    · intro y0 mh hImh hFmh hby0 hg1 hH0 hH1 hH2 hH3 hH4 hH5 hH6 hRKNmh hRNSmh hRTRmh hRWDmh hM
      refine zw_eq (zu_rega_at (zt_T n) (zm_117 n) (zdp_117 n) _ _ _ _ _ _ (zr_117_147 n _ _ a0 y0 mh)) ?_
      have r57 : 0 ≤ (mh a0 21) ∧ (mh a0 21) ≤ 64 := zi_rd hImh hc0 zb_28_21
      have r58 : 0 ≤ (mh a0 48) ∧ (mh a0 48) ≤ 64 := zi_rd hImh hc0 zb_28_48
      have r59 : 0 ≤ (mh a0 45) ∧ (mh a0 45) ≤ 96 := zi_rd hImh hc0 zb_28_45
      have r60 : 0 ≤ (mh a0 47) ∧ (mh a0 47) ≤ 8 := zi_rd hImh hc0 zb_28_47
      have r61 : 0 ≤ (mh a0 46) ∧ (mh a0 46) ≤ 96 := zi_rd hImh hc0 zb_28_46
      have r62 : 0 ≤ (mh a0 7) ∧ (mh a0 7) ≤ 700 := zi_rd hImh hc0 zb_28_7
      have g63 := zwt_bd hImh hc0
      have s64 := hRNSmh a0 hc0
      have s65 := hRTRmh a0 hc0
      refine zw_ite (fun h66 => ?_) (fun h66 => ?_)
      · refine zw_bd (zw_eq (zu_call_at (zt_T n) (zm_109 n) (zdp_109 n) _ _ _ _ _ rfl (zr_109_0 n _ _ y0 mh)) ?_)
        refine zw_ite (fun h67 => ?_) (fun h67 => ?_)
        · refine zw_ite (fun h68 => ?_) (fun h68 => ?_)
          · refine zw_ite (fun h69 => ?_) (fun h69 => ?_)
            · refine zw_ite (fun h70 => ?_) (fun h70 => ?_)
              · refine zw_ite (fun h71 => ?_) (fun h71 => ?_)
                · refine zw_ite (fun h72 => ?_) (fun h72 => ?_)
                  · refine zw_some ?_
                    refine zw_ite (fun h73 => ?_) (fun h73 => ?_)
                    · refine zw_bd (zw_eq (zu_call_at (zt_T n) (zm_109 n) (zdp_109 n) _ _ _ _ _ rfl (zr_109_0 n _ _ y0 mh)) ?_)
                      refine zw_ite (fun h74 => ?_) (fun h74 => ?_)
                      · refine zw_ite (fun h75 => ?_) (fun h75 => ?_)
                        · refine zw_ite (fun h76 => ?_) (fun h76 => ?_)
                          · refine zw_ite (fun h77 => ?_) (fun h77 => ?_)
                            · refine zw_ite (fun h78 => ?_) (fun h78 => ?_)
                              · refine zw_ite (fun h79 => ?_) (fun h79 => ?_)
                                · refine zw_some ?_
                                  refine zw_bd (zw_mono (zk_112 n hImh hc0 ⟨by omega, by omega⟩ (by omega) (by omega) (by omega) hRKNmh) (fun v81 m80 hqm80 => ?_))
                                  obtain ⟨hIm80, hfm80, hvm80⟩ := hqm80
                                  have hFm80 := zfr_tr hFmh hfm80 rfl
                                  obtain ⟨hRKNm80, hvm80⟩ := hvm80
                                  have hRNSm80 := zR_NS_fr (zdis_fr hfm80 rfl) hRNSmh
                                  have hRTRm80 := zR_TR_fr (zdis_fr hfm80 rfl) hRTRmh
                                  have hRWDm80 := zR_WD_fr (zdis_fr hfm80 rfl) hRWDmh
                                  have g82 := zwt_bd hIm80 hc0
                                  have s83 := hRNSm80 a0 hc0
                                  have s84 := hRTRm80 a0 hc0
                                  refine zw_bd (zw_eq (zu_call_at (zt_T n) (zm_109 n) (zdp_109 n) _ _ _ _ _ rfl (zr_109_0 n _ _ y0 m80)) ?_)
                                  refine zw_ite (fun h85 => ?_) (fun h85 => ?_)
                                  · refine zw_ite (fun h86 => ?_) (fun h86 => ?_)
                                    · refine zw_ite (fun h87 => ?_) (fun h87 => ?_)
                                      · refine zw_ite (fun h88 => ?_) (fun h88 => ?_)
                                        · refine zw_ite (fun h89 => ?_) (fun h89 => ?_)
                                          · refine zw_ite (fun h90 => ?_) (fun h90 => ?_)
                                            · refine zw_some ?_
                                              refine zw_ite (fun h91 => ?_) (fun h91 => ?_)
                                              · have r92 : 0 ≤ (m80 a0 49) ∧ (m80 a0 49) ≤ 1 := zi_rd hIm80 hc0 zb_28_49
                                                have e93 : (m80 a0 49) = (mh a0 49) := (zfr_ap hfm80 hc0 rfl)
                                                have r94 : 0 ≤ (m80 a0 21) ∧ (m80 a0 21) ≤ 64 := zi_rd hIm80 hc0 zb_28_21
                                                have r95 : 0 ≤ (m80 a0 48) ∧ (m80 a0 48) ≤ 64 := zi_rd hIm80 hc0 zb_28_48
                                                have e96 : (m80 a0 48) = (mh a0 48) := (zfr_ap hfm80 hc0 rfl)
                                                have r97 : 0 ≤ (m80 a0 45) ∧ (m80 a0 45) ≤ 96 := zi_rd hIm80 hc0 zb_28_45
                                                have r98 : 0 ≤ (m80 a0 47) ∧ (m80 a0 47) ≤ 8 := zi_rd hIm80 hc0 zb_28_47
                                                have e99 : (m80 a0 47) = (mh a0 47) := (zfr_ap hfm80 hc0 rfl)
                                                have r100 : 0 ≤ (m80 a0 46) ∧ (m80 a0 46) ≤ 96 := zi_rd hIm80 hc0 zb_28_46
                                                have r101 : 0 ≤ (m80 a0 7) ∧ (m80 a0 7) ≤ 700 := zi_rd hIm80 hc0 zb_28_7
                                                have e102 : (m80 a0 7) = (mh a0 7) := (zfr_ap hfm80 hc0 rfl)
                                                have hM : 0 < (k : Int) := by omega
                                                exact ih.2.2 y0 m80 hIm80 hFm80 ⟨by omega, by omega⟩ ⟨by omega, by omega⟩ (by omega) (by omega) (by omega) (by omega) (by omega) (by omega) (by omega) hRKNm80 hRNSm80 hRTRm80 hRWDm80 hM
                                              · exfalso; omega
                                            · exfalso; omega
                                          · exfalso; omega
                                        · exfalso; omega
                                      · exfalso; omega
                                    · exfalso; omega
                                  · exfalso; omega
                                · exfalso; omega
                              · exfalso; omega
                            · exfalso; omega
                          · exfalso; omega
                        · exfalso; omega
                      · exfalso; omega
                    · exfalso; omega
                  · refine zw_some ?_
                    refine zw_ite (fun h103 => ?_) (fun h103 => ?_)
                    · refine zw_bd (zw_eq (zu_call_at (zt_T n) (zm_109 n) (zdp_109 n) _ _ _ _ _ rfl (zr_109_0 n _ _ y0 mh)) ?_)
                      refine zw_ite (fun h104 => ?_) (fun h104 => ?_)
                      · refine zw_ite (fun h105 => ?_) (fun h105 => ?_)
                        · refine zw_ite (fun h106 => ?_) (fun h106 => ?_)
                          · refine zw_ite (fun h107 => ?_) (fun h107 => ?_)
                            · refine zw_ite (fun h108 => ?_) (fun h108 => ?_)
                              · refine zw_ite (fun h109 => ?_) (fun h109 => ?_)
                                · exfalso; omega
                                · refine zw_some ?_
                                  refine zw_bd (zw_mono (zk_112 n hImh hc0 ⟨by omega, by omega⟩ (by omega) (by omega) (by omega) hRKNmh) (fun v111 m110 hqm110 => ?_))
                                  obtain ⟨hIm110, hfm110, hvm110⟩ := hqm110
                                  have hFm110 := zfr_tr hFmh hfm110 rfl
                                  obtain ⟨hRKNm110, hvm110⟩ := hvm110
                                  have hRNSm110 := zR_NS_fr (zdis_fr hfm110 rfl) hRNSmh
                                  have hRTRm110 := zR_TR_fr (zdis_fr hfm110 rfl) hRTRmh
                                  have hRWDm110 := zR_WD_fr (zdis_fr hfm110 rfl) hRWDmh
                                  have g112 := zwt_bd hIm110 hc0
                                  have s113 := hRNSm110 a0 hc0
                                  have s114 := hRTRm110 a0 hc0
                                  refine zw_bd (zw_eq (zu_call_at (zt_T n) (zm_109 n) (zdp_109 n) _ _ _ _ _ rfl (zr_109_0 n _ _ y0 m110)) ?_)
                                  refine zw_ite (fun h115 => ?_) (fun h115 => ?_)
                                  · refine zw_ite (fun h116 => ?_) (fun h116 => ?_)
                                    · refine zw_ite (fun h117 => ?_) (fun h117 => ?_)
                                      · refine zw_ite (fun h118 => ?_) (fun h118 => ?_)
                                        · refine zw_ite (fun h119 => ?_) (fun h119 => ?_)
                                          · refine zw_ite (fun h120 => ?_) (fun h120 => ?_)
                                            · exfalso; omega
                                            · refine zw_some ?_
                                              refine zw_ite (fun h121 => ?_) (fun h121 => ?_)
                                              · have r122 : 0 ≤ (m110 a0 49) ∧ (m110 a0 49) ≤ 1 := zi_rd hIm110 hc0 zb_28_49
                                                have e123 : (m110 a0 49) = (mh a0 49) := (zfr_ap hfm110 hc0 rfl)
                                                have r124 : 0 ≤ (m110 a0 21) ∧ (m110 a0 21) ≤ 64 := zi_rd hIm110 hc0 zb_28_21
                                                have r125 : 0 ≤ (m110 a0 48) ∧ (m110 a0 48) ≤ 64 := zi_rd hIm110 hc0 zb_28_48
                                                have e126 : (m110 a0 48) = (mh a0 48) := (zfr_ap hfm110 hc0 rfl)
                                                have r127 : 0 ≤ (m110 a0 45) ∧ (m110 a0 45) ≤ 96 := zi_rd hIm110 hc0 zb_28_45
                                                have r128 : 0 ≤ (m110 a0 47) ∧ (m110 a0 47) ≤ 8 := zi_rd hIm110 hc0 zb_28_47
                                                have e129 : (m110 a0 47) = (mh a0 47) := (zfr_ap hfm110 hc0 rfl)
                                                have r130 : 0 ≤ (m110 a0 46) ∧ (m110 a0 46) ≤ 96 := zi_rd hIm110 hc0 zb_28_46
                                                have r131 : 0 ≤ (m110 a0 7) ∧ (m110 a0 7) ≤ 700 := zi_rd hIm110 hc0 zb_28_7
                                                have e132 : (m110 a0 7) = (mh a0 7) := (zfr_ap hfm110 hc0 rfl)
                                                have hM : 0 < (k : Int) := by omega
                                                exact ih.2.2 y0 m110 hIm110 hFm110 ⟨by omega, by omega⟩ ⟨by omega, by omega⟩ (by omega) (by omega) (by omega) (by omega) (by omega) (by omega) (by omega) hRKNm110 hRNSm110 hRTRm110 hRWDm110 hM
                                              · exfalso; omega
                                          · exfalso; omega
                                        · exfalso; omega
                                      · exfalso; omega
                                    · exfalso; omega
                                  · exfalso; omega
                              · exfalso; omega
                            · exfalso; omega
                          · exfalso; omega
                        · exfalso; omega
                      · exfalso; omega
                    · exfalso; omega
                · refine zw_some ?_
                  refine zw_ite (fun h133 => ?_) (fun h133 => ?_)
                  · refine zw_bd (zw_eq (zu_call_at (zt_T n) (zm_109 n) (zdp_109 n) _ _ _ _ _ rfl (zr_109_0 n _ _ y0 mh)) ?_)
                    refine zw_ite (fun h134 => ?_) (fun h134 => ?_)
                    · refine zw_ite (fun h135 => ?_) (fun h135 => ?_)
                      · refine zw_ite (fun h136 => ?_) (fun h136 => ?_)
                        · refine zw_ite (fun h137 => ?_) (fun h137 => ?_)
                          · refine zw_ite (fun h138 => ?_) (fun h138 => ?_)
                            · exfalso; omega
                            · refine zw_some ?_
                              refine zw_bd (zw_mono (zk_112 n hImh hc0 ⟨by omega, by omega⟩ (by omega) (by omega) (by omega) hRKNmh) (fun v140 m139 hqm139 => ?_))
                              obtain ⟨hIm139, hfm139, hvm139⟩ := hqm139
                              have hFm139 := zfr_tr hFmh hfm139 rfl
                              obtain ⟨hRKNm139, hvm139⟩ := hvm139
                              have hRNSm139 := zR_NS_fr (zdis_fr hfm139 rfl) hRNSmh
                              have hRTRm139 := zR_TR_fr (zdis_fr hfm139 rfl) hRTRmh
                              have hRWDm139 := zR_WD_fr (zdis_fr hfm139 rfl) hRWDmh
                              have g141 := zwt_bd hIm139 hc0
                              have s142 := hRNSm139 a0 hc0
                              have s143 := hRTRm139 a0 hc0
                              refine zw_bd (zw_eq (zu_call_at (zt_T n) (zm_109 n) (zdp_109 n) _ _ _ _ _ rfl (zr_109_0 n _ _ y0 m139)) ?_)
                              refine zw_ite (fun h144 => ?_) (fun h144 => ?_)
                              · refine zw_ite (fun h145 => ?_) (fun h145 => ?_)
                                · refine zw_ite (fun h146 => ?_) (fun h146 => ?_)
                                  · refine zw_ite (fun h147 => ?_) (fun h147 => ?_)
                                    · refine zw_ite (fun h148 => ?_) (fun h148 => ?_)
                                      · exfalso; omega
                                      · refine zw_some ?_
                                        refine zw_ite (fun h149 => ?_) (fun h149 => ?_)
                                        · have r150 : 0 ≤ (m139 a0 49) ∧ (m139 a0 49) ≤ 1 := zi_rd hIm139 hc0 zb_28_49
                                          have e151 : (m139 a0 49) = (mh a0 49) := (zfr_ap hfm139 hc0 rfl)
                                          have r152 : 0 ≤ (m139 a0 21) ∧ (m139 a0 21) ≤ 64 := zi_rd hIm139 hc0 zb_28_21
                                          have r153 : 0 ≤ (m139 a0 48) ∧ (m139 a0 48) ≤ 64 := zi_rd hIm139 hc0 zb_28_48
                                          have e154 : (m139 a0 48) = (mh a0 48) := (zfr_ap hfm139 hc0 rfl)
                                          have r155 : 0 ≤ (m139 a0 45) ∧ (m139 a0 45) ≤ 96 := zi_rd hIm139 hc0 zb_28_45
                                          have r156 : 0 ≤ (m139 a0 47) ∧ (m139 a0 47) ≤ 8 := zi_rd hIm139 hc0 zb_28_47
                                          have e157 : (m139 a0 47) = (mh a0 47) := (zfr_ap hfm139 hc0 rfl)
                                          have r158 : 0 ≤ (m139 a0 46) ∧ (m139 a0 46) ≤ 96 := zi_rd hIm139 hc0 zb_28_46
                                          have r159 : 0 ≤ (m139 a0 7) ∧ (m139 a0 7) ≤ 700 := zi_rd hIm139 hc0 zb_28_7
                                          have e160 : (m139 a0 7) = (mh a0 7) := (zfr_ap hfm139 hc0 rfl)
                                          have hM : 0 < (k : Int) := by omega
                                          exact ih.2.2 y0 m139 hIm139 hFm139 ⟨by omega, by omega⟩ ⟨by omega, by omega⟩ (by omega) (by omega) (by omega) (by omega) (by omega) (by omega) (by omega) hRKNm139 hRNSm139 hRTRm139 hRWDm139 hM
                                        · exfalso; omega
                                    · exfalso; omega
                                  · exfalso; omega
                                · exfalso; omega
                              · exfalso; omega
                          · exfalso; omega
                        · exfalso; omega
                      · exfalso; omega
                    · exfalso; omega
                  · exfalso; omega
              · refine zw_some ?_
                refine zw_ite (fun h161 => ?_) (fun h161 => ?_)
                · refine zw_bd (zw_eq (zu_call_at (zt_T n) (zm_109 n) (zdp_109 n) _ _ _ _ _ rfl (zr_109_0 n _ _ y0 mh)) ?_)
                  refine zw_ite (fun h162 => ?_) (fun h162 => ?_)
                  · refine zw_ite (fun h163 => ?_) (fun h163 => ?_)
                    · refine zw_ite (fun h164 => ?_) (fun h164 => ?_)
                      · refine zw_ite (fun h165 => ?_) (fun h165 => ?_)
                        · exfalso; omega
                        · refine zw_some ?_
                          refine zw_bd (zw_mono (zk_112 n hImh hc0 ⟨by omega, by omega⟩ (by omega) (by omega) (by omega) hRKNmh) (fun v167 m166 hqm166 => ?_))
                          obtain ⟨hIm166, hfm166, hvm166⟩ := hqm166
                          have hFm166 := zfr_tr hFmh hfm166 rfl
                          obtain ⟨hRKNm166, hvm166⟩ := hvm166
                          have hRNSm166 := zR_NS_fr (zdis_fr hfm166 rfl) hRNSmh
                          have hRTRm166 := zR_TR_fr (zdis_fr hfm166 rfl) hRTRmh
                          have hRWDm166 := zR_WD_fr (zdis_fr hfm166 rfl) hRWDmh
                          have g168 := zwt_bd hIm166 hc0
                          have s169 := hRNSm166 a0 hc0
                          have s170 := hRTRm166 a0 hc0
                          refine zw_bd (zw_eq (zu_call_at (zt_T n) (zm_109 n) (zdp_109 n) _ _ _ _ _ rfl (zr_109_0 n _ _ y0 m166)) ?_)
                          refine zw_ite (fun h171 => ?_) (fun h171 => ?_)
                          · refine zw_ite (fun h172 => ?_) (fun h172 => ?_)
                            · refine zw_ite (fun h173 => ?_) (fun h173 => ?_)
                              · refine zw_ite (fun h174 => ?_) (fun h174 => ?_)
                                · exfalso; omega
                                · refine zw_some ?_
                                  refine zw_ite (fun h175 => ?_) (fun h175 => ?_)
                                  · have r176 : 0 ≤ (m166 a0 49) ∧ (m166 a0 49) ≤ 1 := zi_rd hIm166 hc0 zb_28_49
                                    have e177 : (m166 a0 49) = (mh a0 49) := (zfr_ap hfm166 hc0 rfl)
                                    have r178 : 0 ≤ (m166 a0 21) ∧ (m166 a0 21) ≤ 64 := zi_rd hIm166 hc0 zb_28_21
                                    have r179 : 0 ≤ (m166 a0 48) ∧ (m166 a0 48) ≤ 64 := zi_rd hIm166 hc0 zb_28_48
                                    have e180 : (m166 a0 48) = (mh a0 48) := (zfr_ap hfm166 hc0 rfl)
                                    have r181 : 0 ≤ (m166 a0 45) ∧ (m166 a0 45) ≤ 96 := zi_rd hIm166 hc0 zb_28_45
                                    have r182 : 0 ≤ (m166 a0 47) ∧ (m166 a0 47) ≤ 8 := zi_rd hIm166 hc0 zb_28_47
                                    have e183 : (m166 a0 47) = (mh a0 47) := (zfr_ap hfm166 hc0 rfl)
                                    have r184 : 0 ≤ (m166 a0 46) ∧ (m166 a0 46) ≤ 96 := zi_rd hIm166 hc0 zb_28_46
                                    have r185 : 0 ≤ (m166 a0 7) ∧ (m166 a0 7) ≤ 700 := zi_rd hIm166 hc0 zb_28_7
                                    have e186 : (m166 a0 7) = (mh a0 7) := (zfr_ap hfm166 hc0 rfl)
                                    have hM : 0 < (k : Int) := by omega
                                    exact ih.2.2 y0 m166 hIm166 hFm166 ⟨by omega, by omega⟩ ⟨by omega, by omega⟩ (by omega) (by omega) (by omega) (by omega) (by omega) (by omega) (by omega) hRKNm166 hRNSm166 hRTRm166 hRWDm166 hM
                                  · exfalso; omega
                              · exfalso; omega
                            · exfalso; omega
                          · exfalso; omega
                      · exfalso; omega
                    · exfalso; omega
                  · exfalso; omega
                · exfalso; omega
            · refine zw_some ?_
              refine zw_ite (fun h187 => ?_) (fun h187 => ?_)
              · exfalso; omega
              · refine zw_bd (zw_mono (zk_112 n hImh hc0 ⟨by omega, by omega⟩ (by omega) (by omega) (by omega) hRKNmh) (fun v189 m188 hqm188 => ?_))
                obtain ⟨hIm188, hfm188, hvm188⟩ := hqm188
                have hFm188 := zfr_tr hFmh hfm188 rfl
                obtain ⟨hRKNm188, hvm188⟩ := hvm188
                have hRNSm188 := zR_NS_fr (zdis_fr hfm188 rfl) hRNSmh
                have hRTRm188 := zR_TR_fr (zdis_fr hfm188 rfl) hRTRmh
                have hRWDm188 := zR_WD_fr (zdis_fr hfm188 rfl) hRWDmh
                have g190 := zwt_bd hIm188 hc0
                have s191 := hRNSm188 a0 hc0
                have s192 := hRTRm188 a0 hc0
                refine zw_bd (zw_eq (zu_call_at (zt_T n) (zm_109 n) (zdp_109 n) _ _ _ _ _ rfl (zr_109_0 n _ _ y0 m188)) ?_)
                refine zw_ite (fun h193 => ?_) (fun h193 => ?_)
                · refine zw_ite (fun h194 => ?_) (fun h194 => ?_)
                  · refine zw_ite (fun h195 => ?_) (fun h195 => ?_)
                    · exfalso; omega
                    · refine zw_some ?_
                      refine zw_ite (fun h196 => ?_) (fun h196 => ?_)
                      · exfalso; omega
                      · have r197 : 0 ≤ (m188 a0 45) ∧ (m188 a0 45) ≤ 96 := zi_rd hIm188 hc0 zb_28_45
                        refine zw_ite (fun h198 => ?_) (fun h198 => ?_)
                        · have r199 : 0 ≤ (m188 a0 49) ∧ (m188 a0 49) ≤ 1 := zi_rd hIm188 hc0 zb_28_49
                          have e200 : (m188 a0 49) = (mh a0 49) := (zfr_ap hfm188 hc0 rfl)
                          have r201 : 0 ≤ (m188 a0 21) ∧ (m188 a0 21) ≤ 64 := zi_rd hIm188 hc0 zb_28_21
                          have r202 : 0 ≤ (m188 a0 48) ∧ (m188 a0 48) ≤ 64 := zi_rd hIm188 hc0 zb_28_48
                          have e203 : (m188 a0 48) = (mh a0 48) := (zfr_ap hfm188 hc0 rfl)
                          have r204 : 0 ≤ (m188 a0 47) ∧ (m188 a0 47) ≤ 8 := zi_rd hIm188 hc0 zb_28_47
                          have e205 : (m188 a0 47) = (mh a0 47) := (zfr_ap hfm188 hc0 rfl)
                          have r206 : 0 ≤ (m188 a0 46) ∧ (m188 a0 46) ≤ 96 := zi_rd hIm188 hc0 zb_28_46
                          have r207 : 0 ≤ (m188 a0 7) ∧ (m188 a0 7) ≤ 700 := zi_rd hIm188 hc0 zb_28_7
                          have e208 : (m188 a0 7) = (mh a0 7) := (zfr_ap hfm188 hc0 rfl)
                          have hM : 0 < (k : Int) := by omega
                          exact ih.2.2 y0 m188 hIm188 hFm188 ⟨by omega, by omega⟩ ⟨by omega, by omega⟩ (by omega) (by omega) (by omega) (by omega) (by omega) (by omega) (by omega) hRKNm188 hRNSm188 hRTRm188 hRWDm188 hM
                        · have w209 := zu_w32_id (z := (m188 a0 45) - 1) (by omega) (by omega)
                          have b210 : 0 ≤ (zu_w32 ((m188 a0 45) - 1)) ∧ (zu_w32 ((m188 a0 45) - 1)) < 96 := by omega
                          refine zw_if b210 ?_
                          have r211 : 0 ≤ (m188 211 (zu_w32 ((m188 a0 45) - 1))) ∧ (m188 211 (zu_w32 ((m188 a0 45) - 1))) ≤ 14 := zi_rd hIm188 zq_211 (zb_120 _)
                          refine zw_bd (zw_eq (zu_call_at (zt_T n) (zm_109 n) (zdp_109 n) _ _ _ _ _ rfl (zr_109_0 n _ _ (m188 211 (zu_w32 ((m188 a0 45) - 1))) m188)) ?_)
                          refine zw_ite (fun h212 => ?_) (fun h212 => ?_)
                          · refine zw_ite (fun h213 => ?_) (fun h213 => ?_)
                            · refine zw_ite (fun h214 => ?_) (fun h214 => ?_)
                              · refine zw_ite (fun h215 => ?_) (fun h215 => ?_)
                                · refine zw_ite (fun h216 => ?_) (fun h216 => ?_)
                                  · refine zw_ite (fun h217 => ?_) (fun h217 => ?_)
                                    · refine zw_some ?_
                                      refine zw_ite (fun h218 => ?_) (fun h218 => ?_)
                                      · have r219 : 0 ≤ (m188 a0 49) ∧ (m188 a0 49) ≤ 1 := zi_rd hIm188 hc0 zb_28_49
                                        have e220 : (m188 a0 49) = (mh a0 49) := (zfr_ap hfm188 hc0 rfl)
                                        have r221 : 0 ≤ (m188 a0 21) ∧ (m188 a0 21) ≤ 64 := zi_rd hIm188 hc0 zb_28_21
                                        have r222 : 0 ≤ (m188 a0 48) ∧ (m188 a0 48) ≤ 64 := zi_rd hIm188 hc0 zb_28_48
                                        have e223 : (m188 a0 48) = (mh a0 48) := (zfr_ap hfm188 hc0 rfl)
                                        have r224 : 0 ≤ (m188 a0 47) ∧ (m188 a0 47) ≤ 8 := zi_rd hIm188 hc0 zb_28_47
                                        have e225 : (m188 a0 47) = (mh a0 47) := (zfr_ap hfm188 hc0 rfl)
                                        have r226 : 0 ≤ (m188 a0 46) ∧ (m188 a0 46) ≤ 96 := zi_rd hIm188 hc0 zb_28_46
                                        have r227 : 0 ≤ (m188 a0 7) ∧ (m188 a0 7) ≤ 700 := zi_rd hIm188 hc0 zb_28_7
                                        have e228 : (m188 a0 7) = (mh a0 7) := (zfr_ap hfm188 hc0 rfl)
                                        have hM : 0 < (k : Int) := by omega
                                        exact ih.2.2 y0 m188 hIm188 hFm188 ⟨by omega, by omega⟩ ⟨by omega, by omega⟩ (by omega) (by omega) (by omega) (by omega) (by omega) (by omega) (by omega) hRKNm188 hRNSm188 hRTRm188 hRWDm188 hM
                                      · exfalso; omega
                                    · refine zw_some ?_
                                      refine zw_ite (fun h229 => ?_) (fun h229 => ?_)
                                      · have r230 : 0 ≤ (m188 a0 49) ∧ (m188 a0 49) ≤ 1 := zi_rd hIm188 hc0 zb_28_49
                                        have e231 : (m188 a0 49) = (mh a0 49) := (zfr_ap hfm188 hc0 rfl)
                                        have r232 : 0 ≤ (m188 a0 21) ∧ (m188 a0 21) ≤ 64 := zi_rd hIm188 hc0 zb_28_21
                                        have r233 : 0 ≤ (m188 a0 48) ∧ (m188 a0 48) ≤ 64 := zi_rd hIm188 hc0 zb_28_48
                                        have e234 : (m188 a0 48) = (mh a0 48) := (zfr_ap hfm188 hc0 rfl)
                                        have r235 : 0 ≤ (m188 a0 47) ∧ (m188 a0 47) ≤ 8 := zi_rd hIm188 hc0 zb_28_47
                                        have e236 : (m188 a0 47) = (mh a0 47) := (zfr_ap hfm188 hc0 rfl)
                                        have r237 : 0 ≤ (m188 a0 46) ∧ (m188 a0 46) ≤ 96 := zi_rd hIm188 hc0 zb_28_46
                                        have r238 : 0 ≤ (m188 a0 7) ∧ (m188 a0 7) ≤ 700 := zi_rd hIm188 hc0 zb_28_7
                                        have e239 : (m188 a0 7) = (mh a0 7) := (zfr_ap hfm188 hc0 rfl)
                                        have hM : 0 < (k : Int) := by omega
                                        exact ih.2.2 y0 m188 hIm188 hFm188 ⟨by omega, by omega⟩ ⟨by omega, by omega⟩ (by omega) (by omega) (by omega) (by omega) (by omega) (by omega) (by omega) hRKNm188 hRNSm188 hRTRm188 hRWDm188 hM
                                      · exfalso; omega
                                  · refine zw_some ?_
                                    refine zw_ite (fun h240 => ?_) (fun h240 => ?_)
                                    · have r241 : 0 ≤ (m188 a0 49) ∧ (m188 a0 49) ≤ 1 := zi_rd hIm188 hc0 zb_28_49
                                      have e242 : (m188 a0 49) = (mh a0 49) := (zfr_ap hfm188 hc0 rfl)
                                      have r243 : 0 ≤ (m188 a0 21) ∧ (m188 a0 21) ≤ 64 := zi_rd hIm188 hc0 zb_28_21
                                      have r244 : 0 ≤ (m188 a0 48) ∧ (m188 a0 48) ≤ 64 := zi_rd hIm188 hc0 zb_28_48
                                      have e245 : (m188 a0 48) = (mh a0 48) := (zfr_ap hfm188 hc0 rfl)
                                      have r246 : 0 ≤ (m188 a0 47) ∧ (m188 a0 47) ≤ 8 := zi_rd hIm188 hc0 zb_28_47
                                      have e247 : (m188 a0 47) = (mh a0 47) := (zfr_ap hfm188 hc0 rfl)
                                      have r248 : 0 ≤ (m188 a0 46) ∧ (m188 a0 46) ≤ 96 := zi_rd hIm188 hc0 zb_28_46
                                      have r249 : 0 ≤ (m188 a0 7) ∧ (m188 a0 7) ≤ 700 := zi_rd hIm188 hc0 zb_28_7
                                      have e250 : (m188 a0 7) = (mh a0 7) := (zfr_ap hfm188 hc0 rfl)
                                      have hM : 0 < (k : Int) := by omega
                                      exact ih.2.2 y0 m188 hIm188 hFm188 ⟨by omega, by omega⟩ ⟨by omega, by omega⟩ (by omega) (by omega) (by omega) (by omega) (by omega) (by omega) (by omega) hRKNm188 hRNSm188 hRTRm188 hRWDm188 hM
                                    · exfalso; omega
                                · refine zw_some ?_
                                  refine zw_ite (fun h251 => ?_) (fun h251 => ?_)
                                  · have r252 : 0 ≤ (m188 a0 49) ∧ (m188 a0 49) ≤ 1 := zi_rd hIm188 hc0 zb_28_49
                                    have e253 : (m188 a0 49) = (mh a0 49) := (zfr_ap hfm188 hc0 rfl)
                                    have r254 : 0 ≤ (m188 a0 21) ∧ (m188 a0 21) ≤ 64 := zi_rd hIm188 hc0 zb_28_21
                                    have r255 : 0 ≤ (m188 a0 48) ∧ (m188 a0 48) ≤ 64 := zi_rd hIm188 hc0 zb_28_48
                                    have e256 : (m188 a0 48) = (mh a0 48) := (zfr_ap hfm188 hc0 rfl)
                                    have r257 : 0 ≤ (m188 a0 47) ∧ (m188 a0 47) ≤ 8 := zi_rd hIm188 hc0 zb_28_47
                                    have e258 : (m188 a0 47) = (mh a0 47) := (zfr_ap hfm188 hc0 rfl)
                                    have r259 : 0 ≤ (m188 a0 46) ∧ (m188 a0 46) ≤ 96 := zi_rd hIm188 hc0 zb_28_46
                                    have r260 : 0 ≤ (m188 a0 7) ∧ (m188 a0 7) ≤ 700 := zi_rd hIm188 hc0 zb_28_7
                                    have e261 : (m188 a0 7) = (mh a0 7) := (zfr_ap hfm188 hc0 rfl)
                                    have hM : 0 < (k : Int) := by omega
                                    exact ih.2.2 y0 m188 hIm188 hFm188 ⟨by omega, by omega⟩ ⟨by omega, by omega⟩ (by omega) (by omega) (by omega) (by omega) (by omega) (by omega) (by omega) hRKNm188 hRNSm188 hRTRm188 hRWDm188 hM
                                  · exfalso; omega
                              · refine zw_some ?_
                                refine zw_ite (fun h262 => ?_) (fun h262 => ?_)
                                · exfalso; omega
                                · refine zw_bd (zw_eq (zu_call_at (zt_T n) (zm_85 n) (zdp_85 n) _ _ _ _ _ rfl (zr_85_0 n _ _ a0 1 m188)) ?_)
                                  generalize hmm263 : zu_up m188 a0 4 1 = m263
                                  have hIm263 := zi_up hmm263 hIm188 hc0 zb_28_4 (by omega) (by omega)
                                  have hFm263 := zfr_up hmm263 hFm188 hc0 rfl
                                  have g264 := zwt_fr (zdis_fr (zfr_up hmm263 (zfr_rf [(28, 5)] _) hc0 rfl) rfl)
                                  have hRKNm263 := zR_KN_fr (zdis_fr (zfr_up hmm263 (zfr_rf [(28, 5)] _) hc0 rfl) rfl) hRKNm188
                                  have hRNSm263 := zR_NS_fr (zdis_fr (zfr_up hmm263 (zfr_rf [(28, 5)] _) hc0 rfl) rfl) hRNSm188
                                  have hRTRm263 := zR_TR_fr (zdis_fr (zfr_up hmm263 (zfr_rf [(28, 5)] _) hc0 rfl) rfl) hRTRm188
                                  have hRWDm263 := zR_WD_fr (zdis_fr (zfr_up hmm263 (zfr_rf [(28, 5)] _) hc0 rfl) rfl) hRWDm188
                                  have r265 : 0 ≤ (m263 a0 10) ∧ (m263 a0 10) ≤ 700 := zi_rd hIm263 hc0 zb_28_10
                                  generalize hmm266 : zu_up m263 a0 5 (m263 a0 10) = m266
                                  have hIm266 := zi_up hmm266 hIm263 hc0 zb_28_5 (by omega) (by omega)
                                  have hFm266 := zfr_up hmm266 hFm263 hc0 rfl
                                  have g267 := zwt_fr (zdis_fr (zfr_up hmm266 (zfr_rf [(28, 6)] _) hc0 rfl) rfl)
                                  have hRKNm266 := zR_KN_fr (zdis_fr (zfr_up hmm266 (zfr_rf [(28, 6)] _) hc0 rfl) rfl) hRKNm263
                                  have hRNSm266 := zR_NS_fr (zdis_fr (zfr_up hmm266 (zfr_rf [(28, 6)] _) hc0 rfl) rfl) hRNSm263
                                  have hRTRm266 := zR_TR_fr (zdis_fr (zfr_up hmm266 (zfr_rf [(28, 6)] _) hc0 rfl) rfl) hRTRm263
                                  have hRWDm266 := zR_WD_fr (zdis_fr (zfr_up hmm266 (zfr_rf [(28, 6)] _) hc0 rfl) rfl) hRWDm263
                                  refine zw_b (by omega) ?_
                                  refine zw_some ?_
                                  refine zw_b (by omega) ?_
                                  have r268 : 0 ≤ (m266 a0 7) ∧ (m266 a0 7) ≤ 700 := zi_rd hIm266 hc0 zb_28_7
                                  have e269 : (m266 a0 7) = (mh a0 7) := (Eq.trans (zs_ne hmm266 (Or.inr (by decide))) (Eq.trans (zs_ne hmm263 (Or.inr (by decide))) (zfr_ap hfm188 hc0 rfl)))
                                  have r270 : 0 ≤ (m266 a0 8) ∧ (m266 a0 8) ≤ 6 := zi_rd hIm266 hc0 zb_28_8
                                  have r271 : 0 ≤ (m266 a0 21) ∧ (m266 a0 21) ≤ 64 := zi_rd hIm266 hc0 zb_28_21
                                  have r272 : 0 ≤ (m266 a0 48) ∧ (m266 a0 48) ≤ 64 := zi_rd hIm266 hc0 zb_28_48
                                  have e273 : (m266 a0 48) = (mh a0 48) := (Eq.trans (zs_ne hmm266 (Or.inr (by decide))) (Eq.trans (zs_ne hmm263 (Or.inr (by decide))) (zfr_ap hfm188 hc0 rfl)))
                                  have r274 : 0 ≤ (m266 a0 46) ∧ (m266 a0 46) ≤ 96 := zi_rd hIm266 hc0 zb_28_46
                                  have r275 : 0 ≤ (m266 a0 49) ∧ (m266 a0 49) ≤ 1 := zi_rd hIm266 hc0 zb_28_49
                                  have e276 : (m266 a0 49) = (mh a0 49) := (Eq.trans (zs_ne hmm266 (Or.inr (by decide))) (Eq.trans (zs_ne hmm263 (Or.inr (by decide))) (zfr_ap hfm188 hc0 rfl)))
                                  have r277 : 0 ≤ (m266 a0 45) ∧ (m266 a0 45) ≤ 96 := zi_rd hIm266 hc0 zb_28_45
                                  have e278 : (m266 a0 45) = (m188 a0 45) := (Eq.trans (zs_ne hmm266 (Or.inr (by decide))) (zs_ne hmm263 (Or.inr (by decide))))
                                  have r279 : 0 ≤ (m266 a0 47) ∧ (m266 a0 47) ≤ 8 := zi_rd hIm266 hc0 zb_28_47
                                  have e280 : (m266 a0 47) = (mh a0 47) := (Eq.trans (zs_ne hmm266 (Or.inr (by decide))) (Eq.trans (zs_ne hmm263 (Or.inr (by decide))) (zfr_ap hfm188 hc0 rfl)))
                                  exact zw_some ⟨hIm266, hFm266, hRKNm266, hRNSm266, hRTRm266, hRWDm266, ⟨by omega, by omega⟩, by omega, by omega, by omega, by omega, by omega, by omega⟩
                            · refine zw_some ?_
                              refine zw_ite (fun h281 => ?_) (fun h281 => ?_)
                              · have r282 : 0 ≤ (m188 a0 49) ∧ (m188 a0 49) ≤ 1 := zi_rd hIm188 hc0 zb_28_49
                                have e283 : (m188 a0 49) = (mh a0 49) := (zfr_ap hfm188 hc0 rfl)
                                have r284 : 0 ≤ (m188 a0 21) ∧ (m188 a0 21) ≤ 64 := zi_rd hIm188 hc0 zb_28_21
                                have r285 : 0 ≤ (m188 a0 48) ∧ (m188 a0 48) ≤ 64 := zi_rd hIm188 hc0 zb_28_48
                                have e286 : (m188 a0 48) = (mh a0 48) := (zfr_ap hfm188 hc0 rfl)
                                have r287 : 0 ≤ (m188 a0 47) ∧ (m188 a0 47) ≤ 8 := zi_rd hIm188 hc0 zb_28_47
                                have e288 : (m188 a0 47) = (mh a0 47) := (zfr_ap hfm188 hc0 rfl)
                                have r289 : 0 ≤ (m188 a0 46) ∧ (m188 a0 46) ≤ 96 := zi_rd hIm188 hc0 zb_28_46
                                have r290 : 0 ≤ (m188 a0 7) ∧ (m188 a0 7) ≤ 700 := zi_rd hIm188 hc0 zb_28_7
                                have e291 : (m188 a0 7) = (mh a0 7) := (zfr_ap hfm188 hc0 rfl)
                                have hM : 0 < (k : Int) := by omega
                                exact ih.2.2 y0 m188 hIm188 hFm188 ⟨by omega, by omega⟩ ⟨by omega, by omega⟩ (by omega) (by omega) (by omega) (by omega) (by omega) (by omega) (by omega) hRKNm188 hRNSm188 hRTRm188 hRWDm188 hM
                              · exfalso; omega
                          · refine zw_some ?_
                            refine zw_ite (fun h292 => ?_) (fun h292 => ?_)
                            · have r293 : 0 ≤ (m188 a0 49) ∧ (m188 a0 49) ≤ 1 := zi_rd hIm188 hc0 zb_28_49
                              have e294 : (m188 a0 49) = (mh a0 49) := (zfr_ap hfm188 hc0 rfl)
                              have r295 : 0 ≤ (m188 a0 21) ∧ (m188 a0 21) ≤ 64 := zi_rd hIm188 hc0 zb_28_21
                              have r296 : 0 ≤ (m188 a0 48) ∧ (m188 a0 48) ≤ 64 := zi_rd hIm188 hc0 zb_28_48
                              have e297 : (m188 a0 48) = (mh a0 48) := (zfr_ap hfm188 hc0 rfl)
                              have r298 : 0 ≤ (m188 a0 47) ∧ (m188 a0 47) ≤ 8 := zi_rd hIm188 hc0 zb_28_47
                              have e299 : (m188 a0 47) = (mh a0 47) := (zfr_ap hfm188 hc0 rfl)
                              have r300 : 0 ≤ (m188 a0 46) ∧ (m188 a0 46) ≤ 96 := zi_rd hIm188 hc0 zb_28_46
                              have r301 : 0 ≤ (m188 a0 7) ∧ (m188 a0 7) ≤ 700 := zi_rd hIm188 hc0 zb_28_7
                              have e302 : (m188 a0 7) = (mh a0 7) := (zfr_ap hfm188 hc0 rfl)
                              have hM : 0 < (k : Int) := by omega
                              exact ih.2.2 y0 m188 hIm188 hFm188 ⟨by omega, by omega⟩ ⟨by omega, by omega⟩ (by omega) (by omega) (by omega) (by omega) (by omega) (by omega) (by omega) hRKNm188 hRNSm188 hRTRm188 hRWDm188 hM
                            · exfalso; omega
                  · exfalso; omega
                · exfalso; omega
          · refine zw_some ?_
            refine zw_ite (fun h303 => ?_) (fun h303 => ?_)
            · refine zw_bd (zw_eq (zu_call_at (zt_T n) (zm_109 n) (zdp_109 n) _ _ _ _ _ rfl (zr_109_0 n _ _ y0 mh)) ?_)
              refine zw_ite (fun h304 => ?_) (fun h304 => ?_)
              · refine zw_ite (fun h305 => ?_) (fun h305 => ?_)
                · exfalso; omega
                · refine zw_some ?_
                  refine zw_bd (zw_mono (zk_112 n hImh hc0 ⟨by omega, by omega⟩ (by omega) (by omega) (by omega) hRKNmh) (fun v307 m306 hqm306 => ?_))
                  obtain ⟨hIm306, hfm306, hvm306⟩ := hqm306
                  have hFm306 := zfr_tr hFmh hfm306 rfl
                  obtain ⟨hRKNm306, hvm306⟩ := hvm306
                  have hRNSm306 := zR_NS_fr (zdis_fr hfm306 rfl) hRNSmh
                  have hRTRm306 := zR_TR_fr (zdis_fr hfm306 rfl) hRTRmh
                  have hRWDm306 := zR_WD_fr (zdis_fr hfm306 rfl) hRWDmh
                  have g308 := zwt_bd hIm306 hc0
                  have s309 := hRNSm306 a0 hc0
                  have s310 := hRTRm306 a0 hc0
                  refine zw_bd (zw_eq (zu_call_at (zt_T n) (zm_109 n) (zdp_109 n) _ _ _ _ _ rfl (zr_109_0 n _ _ y0 m306)) ?_)
                  refine zw_ite (fun h311 => ?_) (fun h311 => ?_)
                  · refine zw_ite (fun h312 => ?_) (fun h312 => ?_)
                    · exfalso; omega
                    · refine zw_some ?_
                      refine zw_ite (fun h313 => ?_) (fun h313 => ?_)
                      · have r314 : 0 ≤ (m306 a0 49) ∧ (m306 a0 49) ≤ 1 := zi_rd hIm306 hc0 zb_28_49
                        have e315 : (m306 a0 49) = (mh a0 49) := (zfr_ap hfm306 hc0 rfl)
                        have r316 : 0 ≤ (m306 a0 21) ∧ (m306 a0 21) ≤ 64 := zi_rd hIm306 hc0 zb_28_21
                        have r317 : 0 ≤ (m306 a0 48) ∧ (m306 a0 48) ≤ 64 := zi_rd hIm306 hc0 zb_28_48
                        have e318 : (m306 a0 48) = (mh a0 48) := (zfr_ap hfm306 hc0 rfl)
                        have r319 : 0 ≤ (m306 a0 45) ∧ (m306 a0 45) ≤ 96 := zi_rd hIm306 hc0 zb_28_45
                        have r320 : 0 ≤ (m306 a0 47) ∧ (m306 a0 47) ≤ 8 := zi_rd hIm306 hc0 zb_28_47
                        have e321 : (m306 a0 47) = (mh a0 47) := (zfr_ap hfm306 hc0 rfl)
                        have r322 : 0 ≤ (m306 a0 46) ∧ (m306 a0 46) ≤ 96 := zi_rd hIm306 hc0 zb_28_46
                        have r323 : 0 ≤ (m306 a0 7) ∧ (m306 a0 7) ≤ 700 := zi_rd hIm306 hc0 zb_28_7
                        have e324 : (m306 a0 7) = (mh a0 7) := (zfr_ap hfm306 hc0 rfl)
                        have hM : 0 < (k : Int) := by omega
                        exact ih.2.2 y0 m306 hIm306 hFm306 ⟨by omega, by omega⟩ ⟨by omega, by omega⟩ (by omega) (by omega) (by omega) (by omega) (by omega) (by omega) (by omega) hRKNm306 hRNSm306 hRTRm306 hRWDm306 hM
                      · exfalso; omega
                  · exfalso; omega
              · exfalso; omega
            · exfalso; omega
        · refine zw_some ?_
          refine zw_ite (fun h325 => ?_) (fun h325 => ?_)
          · refine zw_bd (zw_eq (zu_call_at (zt_T n) (zm_109 n) (zdp_109 n) _ _ _ _ _ rfl (zr_109_0 n _ _ y0 mh)) ?_)
            refine zw_ite (fun h326 => ?_) (fun h326 => ?_)
            · exfalso; omega
            · refine zw_some ?_
              refine zw_bd (zw_mono (zk_112 n hImh hc0 ⟨by omega, by omega⟩ (by omega) (by omega) (by omega) hRKNmh) (fun v328 m327 hqm327 => ?_))
              obtain ⟨hIm327, hfm327, hvm327⟩ := hqm327
              have hFm327 := zfr_tr hFmh hfm327 rfl
              obtain ⟨hRKNm327, hvm327⟩ := hvm327
              have hRNSm327 := zR_NS_fr (zdis_fr hfm327 rfl) hRNSmh
              have hRTRm327 := zR_TR_fr (zdis_fr hfm327 rfl) hRTRmh
              have hRWDm327 := zR_WD_fr (zdis_fr hfm327 rfl) hRWDmh
              have g329 := zwt_bd hIm327 hc0
              have s330 := hRNSm327 a0 hc0
              have s331 := hRTRm327 a0 hc0
              refine zw_bd (zw_eq (zu_call_at (zt_T n) (zm_109 n) (zdp_109 n) _ _ _ _ _ rfl (zr_109_0 n _ _ y0 m327)) ?_)
              refine zw_ite (fun h332 => ?_) (fun h332 => ?_)
              · exfalso; omega
              · refine zw_some ?_
                refine zw_ite (fun h333 => ?_) (fun h333 => ?_)
                · have r334 : 0 ≤ (m327 a0 49) ∧ (m327 a0 49) ≤ 1 := zi_rd hIm327 hc0 zb_28_49
                  have e335 : (m327 a0 49) = (mh a0 49) := (zfr_ap hfm327 hc0 rfl)
                  have r336 : 0 ≤ (m327 a0 21) ∧ (m327 a0 21) ≤ 64 := zi_rd hIm327 hc0 zb_28_21
                  have r337 : 0 ≤ (m327 a0 48) ∧ (m327 a0 48) ≤ 64 := zi_rd hIm327 hc0 zb_28_48
                  have e338 : (m327 a0 48) = (mh a0 48) := (zfr_ap hfm327 hc0 rfl)
                  have r339 : 0 ≤ (m327 a0 45) ∧ (m327 a0 45) ≤ 96 := zi_rd hIm327 hc0 zb_28_45
                  have r340 : 0 ≤ (m327 a0 47) ∧ (m327 a0 47) ≤ 8 := zi_rd hIm327 hc0 zb_28_47
                  have e341 : (m327 a0 47) = (mh a0 47) := (zfr_ap hfm327 hc0 rfl)
                  have r342 : 0 ≤ (m327 a0 46) ∧ (m327 a0 46) ≤ 96 := zi_rd hIm327 hc0 zb_28_46
                  have r343 : 0 ≤ (m327 a0 7) ∧ (m327 a0 7) ≤ 700 := zi_rd hIm327 hc0 zb_28_7
                  have e344 : (m327 a0 7) = (mh a0 7) := (zfr_ap hfm327 hc0 rfl)
                  have hM : 0 < (k : Int) := by omega
                  exact ih.2.2 y0 m327 hIm327 hFm327 ⟨by omega, by omega⟩ ⟨by omega, by omega⟩ (by omega) (by omega) (by omega) (by omega) (by omega) (by omega) (by omega) hRKNm327 hRNSm327 hRTRm327 hRWDm327 hM
                · exfalso; omega
          · exfalso; omega
      · refine zw_bd (zw_eq (zu_call_at (zt_T n) (zm_85 n) (zdp_85 n) _ _ _ _ _ rfl (zr_85_0 n _ _ a0 1 mh)) ?_)
        generalize hmm345 : zu_up mh a0 4 1 = m345
        have hIm345 := zi_up hmm345 hImh hc0 zb_28_4 (by omega) (by omega)
        have hFm345 := zfr_up hmm345 hFmh hc0 rfl
        have g346 := zwt_fr (zdis_fr (zfr_up hmm345 (zfr_rf [(28, 5)] _) hc0 rfl) rfl)
        have hRKNm345 := zR_KN_fr (zdis_fr (zfr_up hmm345 (zfr_rf [(28, 5)] _) hc0 rfl) rfl) hRKNmh
        have hRNSm345 := zR_NS_fr (zdis_fr (zfr_up hmm345 (zfr_rf [(28, 5)] _) hc0 rfl) rfl) hRNSmh
        have hRTRm345 := zR_TR_fr (zdis_fr (zfr_up hmm345 (zfr_rf [(28, 5)] _) hc0 rfl) rfl) hRTRmh
        have hRWDm345 := zR_WD_fr (zdis_fr (zfr_up hmm345 (zfr_rf [(28, 5)] _) hc0 rfl) rfl) hRWDmh
        have r347 : 0 ≤ (m345 a0 10) ∧ (m345 a0 10) ≤ 700 := zi_rd hIm345 hc0 zb_28_10
        generalize hmm348 : zu_up m345 a0 5 (m345 a0 10) = m348
        have hIm348 := zi_up hmm348 hIm345 hc0 zb_28_5 (by omega) (by omega)
        have hFm348 := zfr_up hmm348 hFm345 hc0 rfl
        have g349 := zwt_fr (zdis_fr (zfr_up hmm348 (zfr_rf [(28, 6)] _) hc0 rfl) rfl)
        have hRKNm348 := zR_KN_fr (zdis_fr (zfr_up hmm348 (zfr_rf [(28, 6)] _) hc0 rfl) rfl) hRKNm345
        have hRNSm348 := zR_NS_fr (zdis_fr (zfr_up hmm348 (zfr_rf [(28, 6)] _) hc0 rfl) rfl) hRNSm345
        have hRTRm348 := zR_TR_fr (zdis_fr (zfr_up hmm348 (zfr_rf [(28, 6)] _) hc0 rfl) rfl) hRTRm345
        have hRWDm348 := zR_WD_fr (zdis_fr (zfr_up hmm348 (zfr_rf [(28, 6)] _) hc0 rfl) rfl) hRWDm345
        refine zw_b (by omega) ?_
        refine zw_some ?_
        refine zw_b (by omega) ?_
        have r350 : 0 ≤ (m348 a0 7) ∧ (m348 a0 7) ≤ 700 := zi_rd hIm348 hc0 zb_28_7
        have e351 : (m348 a0 7) = (mh a0 7) := (Eq.trans (zs_ne hmm348 (Or.inr (by decide))) (zs_ne hmm345 (Or.inr (by decide))))
        have r352 : 0 ≤ (m348 a0 8) ∧ (m348 a0 8) ≤ 6 := zi_rd hIm348 hc0 zb_28_8
        have r353 : 0 ≤ (m348 a0 21) ∧ (m348 a0 21) ≤ 64 := zi_rd hIm348 hc0 zb_28_21
        have e354 : (m348 a0 21) = (mh a0 21) := (Eq.trans (zs_ne hmm348 (Or.inr (by decide))) (zs_ne hmm345 (Or.inr (by decide))))
        have r355 : 0 ≤ (m348 a0 48) ∧ (m348 a0 48) ≤ 64 := zi_rd hIm348 hc0 zb_28_48
        have e356 : (m348 a0 48) = (mh a0 48) := (Eq.trans (zs_ne hmm348 (Or.inr (by decide))) (zs_ne hmm345 (Or.inr (by decide))))
        have r357 : 0 ≤ (m348 a0 46) ∧ (m348 a0 46) ≤ 96 := zi_rd hIm348 hc0 zb_28_46
        have e358 : (m348 a0 46) = (mh a0 46) := (Eq.trans (zs_ne hmm348 (Or.inr (by decide))) (zs_ne hmm345 (Or.inr (by decide))))
        have r359 : 0 ≤ (m348 a0 49) ∧ (m348 a0 49) ≤ 1 := zi_rd hIm348 hc0 zb_28_49
        have e360 : (m348 a0 49) = (mh a0 49) := (Eq.trans (zs_ne hmm348 (Or.inr (by decide))) (zs_ne hmm345 (Or.inr (by decide))))
        have r361 : 0 ≤ (m348 a0 45) ∧ (m348 a0 45) ≤ 96 := zi_rd hIm348 hc0 zb_28_45
        have e362 : (m348 a0 45) = (mh a0 45) := (Eq.trans (zs_ne hmm348 (Or.inr (by decide))) (zs_ne hmm345 (Or.inr (by decide))))
        have r363 : 0 ≤ (m348 a0 47) ∧ (m348 a0 47) ≤ 8 := zi_rd hIm348 hc0 zb_28_47
        have e364 : (m348 a0 47) = (mh a0 47) := (Eq.trans (zs_ne hmm348 (Or.inr (by decide))) (zs_ne hmm345 (Or.inr (by decide))))
        exact zw_some ⟨hIm348, hFm348, hRKNm348, hRNSm348, hRTRm348, hRWDm348, ⟨by omega, by omega⟩, by omega, by omega, by omega, by omega, by omega, by omega⟩
    · intro x1 mh hImh hFmh hbx1 hg1 hH0 hH1 hH2 hH3 hH4 hH5 hH6 hRKNmh hRNSmh hRTRmh hRWDmh hM
      refine zw_eq (zu_rega_at (zt_T n) (zm_117 n) (zdp_117 n) _ _ _ _ _ _ (zr_117_217 n _ _ a0 x1 mh)) ?_
      have r365 : 0 ≤ (mh a0 21) ∧ (mh a0 21) ≤ 64 := zi_rd hImh hc0 zb_28_21
      have r366 : 0 ≤ (mh a0 48) ∧ (mh a0 48) ≤ 64 := zi_rd hImh hc0 zb_28_48
      have r367 : 0 ≤ (mh a0 45) ∧ (mh a0 45) ≤ 96 := zi_rd hImh hc0 zb_28_45
      have r368 : 0 ≤ (mh a0 47) ∧ (mh a0 47) ≤ 8 := zi_rd hImh hc0 zb_28_47
      have r369 : 0 ≤ (mh a0 46) ∧ (mh a0 46) ≤ 96 := zi_rd hImh hc0 zb_28_46
      have r370 : 0 ≤ (mh a0 7) ∧ (mh a0 7) ≤ 700 := zi_rd hImh hc0 zb_28_7
      have g371 := zwt_bd hImh hc0
      have s372 := hRNSmh a0 hc0
      have s373 := hRTRmh a0 hc0
      refine zw_bd (zw_eq (zu_call_at (zt_T n) (zm_113 n) (zdp_113 n) _ _ _ _ _ rfl (zr_113_0 n _ _ a0 mh)) ?_)
      refine zw_ite (fun h374 => ?_) (fun h374 => ?_)
      · have w375 := zu_w32_id (z := (mh a0 48) + 1) (by omega) (by omega)
        generalize hmm376 : zu_up mh a0 48 (zu_w32 ((mh a0 48) + 1)) = m376
        have hIm376 := zi_up hmm376 hImh hc0 zb_28_48 (by omega) (by omega)
        have hFm376 := zfr_up hmm376 hFmh hc0 rfl
        have g377 := zwt_fr (zdis_fr (zfr_up hmm376 (zfr_rf [(28, 49)] _) hc0 rfl) rfl)
        have hRKNm376 := zR_KN_fr (zdis_fr (zfr_up hmm376 (zfr_rf [(28, 49)] _) hc0 rfl) rfl) hRKNmh
        have hRNSm376 := zR_NS_fr (zdis_fr (zfr_up hmm376 (zfr_rf [(28, 49)] _) hc0 rfl) rfl) hRNSmh
        have hRTRm376 := zR_TR_fr (zdis_fr (zfr_up hmm376 (zfr_rf [(28, 49)] _) hc0 rfl) rfl) hRTRmh
        have hRWDm376 := zR_WD_fr (zdis_fr (zfr_up hmm376 (zfr_rf [(28, 49)] _) hc0 rfl) rfl) hRWDmh
        refine zw_b (by omega) ?_
        refine zw_some ?_
        refine zw_ite (fun h378 => ?_) (fun h378 => ?_)
        · refine zw_bd (zw_eq (zu_call_at (zt_T n) (zm_114 n) (zdp_114 n) _ _ _ _ _ rfl (zr_114_0 n _ _ a0 x1 m376)) ?_)
          have r379 : 0 ≤ (m376 a0 45) ∧ (m376 a0 45) ≤ 96 := zi_rd hIm376 hc0 zb_28_45
          have e380 : (m376 a0 45) = (mh a0 45) := (zs_ne hmm376 (Or.inr (by decide)))
          have b381 : 0 ≤ (m376 a0 45) ∧ (m376 a0 45) < 96 := by omega
          refine zw_if b381 ?_
          generalize hmm382 : zu_up m376 211 (m376 a0 45) x1 = m382
          have hIm382 := zi_up hmm382 hIm376 zq_211 (zb_120 _) (by omega) (by omega)
          have hFm382 := zfr_up hmm382 hFm376 zq_211 rfl
          have hRKNm382 := zR_KN_fr (zdis_fr (zfr_up hmm382 (zfr_rf [(120, 0)] _) zq_211 rfl) rfl) hRKNm376
          have hRNSm382 := zR_NS_fr (zdis_fr (zfr_up hmm382 (zfr_rf [(120, 0)] _) zq_211 rfl) rfl) hRNSm376
          have hRTRm382 := zR_TR_fr (zdis_fr (zfr_up hmm382 (zfr_rf [(120, 0)] _) zq_211 rfl) rfl) hRTRm376
          have hRWDm382 := zR_WD_fr (zdis_fr (zfr_up hmm382 (zfr_rf [(120, 0)] _) zq_211 rfl) rfl) hRWDm376
          have r383 : 0 ≤ (m382 a0 45) ∧ (m382 a0 45) ≤ 96 := zi_rd hIm382 hc0 zb_28_45
          have e384 : (m382 a0 45) = (m376 a0 45) := (zs_ne hmm382 (Or.inl (zc_ne hc0 zq_211 (by decide))))
          have w385 := zu_w32_id (z := (m382 a0 45) + 1) (by omega) (by omega)
          generalize hmm386 : zu_up m382 a0 45 (zu_w32 ((m382 a0 45) + 1)) = m386
          have hIm386 := zi_up hmm386 hIm382 hc0 zb_28_45 (by omega) (by omega)
          have hFm386 := zfr_up hmm386 hFm382 hc0 rfl
          have hRKNm386 := zR_KN_fr (zdis_fr (zfr_up hmm386 (zfr_rf [(28, 46)] _) hc0 rfl) rfl) hRKNm382
          have hRNSm386 := zR_NS_fr (zdis_fr (zfr_up hmm386 (zfr_rf [(28, 46)] _) hc0 rfl) rfl) hRNSm382
          have hRTRm386 := zR_TR_fr (zdis_fr (zfr_up hmm386 (zfr_rf [(28, 46)] _) hc0 rfl) rfl) hRTRm382
          have hRWDm386 := zR_WD_fr (zdis_fr (zfr_up hmm386 (zfr_rf [(28, 46)] _) hc0 rfl) rfl) hRWDm382
          have g387 := zwt_push hmm382 hmm386 hc0 (by omega) (by omega) (by omega)
          have g388 := zwt_bd hIm386 hc0
          refine zw_some ?_
          refine zw_b (by omega) ?_
          generalize hmm389 : zu_up m386 a0 49 1 = m389
          have hIm389 := zi_up hmm389 hIm386 hc0 zb_28_49 (by omega) (by omega)
          have hFm389 := zfr_up hmm389 hFm386 hc0 rfl
          have g390 := zwt_fr (zdis_fr (zfr_up hmm389 (zfr_rf [(28, 50)] _) hc0 rfl) rfl)
          have hRKNm389 := zR_KN_fr (zdis_fr (zfr_up hmm389 (zfr_rf [(28, 50)] _) hc0 rfl) rfl) hRKNm386
          have hRNSm389 := zR_NS_fr (zdis_fr (zfr_up hmm389 (zfr_rf [(28, 50)] _) hc0 rfl) rfl) hRNSm386
          have hRTRm389 := zR_TR_fr (zdis_fr (zfr_up hmm389 (zfr_rf [(28, 50)] _) hc0 rfl) rfl) hRTRm386
          have hRWDm389 := zR_WD_fr (zdis_fr (zfr_up hmm389 (zfr_rf [(28, 50)] _) hc0 rfl) rfl) hRWDm386
          refine zw_bd (zw_eq (zu_call_at (zt_T n) (zm_109 n) (zdp_109 n) _ _ _ _ _ rfl (zr_109_0 n _ _ x1 m389)) ?_)
          refine zw_ite (fun h391 => ?_) (fun h391 => ?_)
          · refine zw_ite (fun h392 => ?_) (fun h392 => ?_)
            · refine zw_ite (fun h393 => ?_) (fun h393 => ?_)
              · refine zw_ite (fun h394 => ?_) (fun h394 => ?_)
                · refine zw_ite (fun h395 => ?_) (fun h395 => ?_)
                  · refine zw_ite (fun h396 => ?_) (fun h396 => ?_)
                    · refine zw_some ?_
                      refine zw_ite (fun h397 => ?_) (fun h397 => ?_)
                      · exfalso; omega
                      · refine zw_b (by omega) ?_
                        generalize hmm398 : zu_up m389 a0 50 1 = m398
                        have hIm398 := zi_up hmm398 hIm389 hc0 zb_28_50 (by omega) (by omega)
                        have hFm398 := zfr_up hmm398 hFm389 hc0 rfl
                        have g399 := zwt_fr (zdis_fr (zfr_up hmm398 (zfr_rf [(28, 51)] _) hc0 rfl) rfl)
                        have hRKNm398 := zR_KN_fr (zdis_fr (zfr_up hmm398 (zfr_rf [(28, 51)] _) hc0 rfl) rfl) hRKNm389
                        have hRNSm398 := zR_NS_fr (zdis_fr (zfr_up hmm398 (zfr_rf [(28, 51)] _) hc0 rfl) rfl) hRNSm389
                        have hRTRm398 := zR_TR_fr (zdis_fr (zfr_up hmm398 (zfr_rf [(28, 51)] _) hc0 rfl) rfl) hRTRm389
                        have hRWDm398 := zR_WD_fr (zdis_fr (zfr_up hmm398 (zfr_rf [(28, 51)] _) hc0 rfl) rfl) hRWDm389
                        refine zw_bd (zw_mono (zk_89 n hIm398 hc0 hRNSm398 hRWDm398) (fun v401 m400 hqm400 => ?_))
                        obtain ⟨hIm400, hfm400, hvm400⟩ := hqm400
                        have hFm400 := zfr_tr hFm398 hfm400 rfl
                        obtain ⟨hRNSm400, hRTRm400, hRWDm400, hvm400⟩ := hvm400
                        have g402 := zwt_fr (zdis_fr hfm400 rfl)
                        have hRKNm400 := zR_KN_fr (zdis_fr hfm400 rfl) hRKNm398
                        have g403 := zwt_bd hIm400 hc0
                        have s404 := hRNSm400 a0 hc0
                        have s405 := hRTRm400 a0 hc0
                        refine zw_b (by omega) ?_
                        have r406 : 0 ≤ (m400 a0 7) ∧ (m400 a0 7) ≤ 700 := zi_rd hIm400 hc0 zb_28_7
                        have r407 : 0 ≤ (m400 a0 8) ∧ (m400 a0 8) ≤ 6 := zi_rd hIm400 hc0 zb_28_8
                        have r408 : 0 ≤ (m400 a0 21) ∧ (m400 a0 21) ≤ 64 := zi_rd hIm400 hc0 zb_28_21
                        have e409 : (m400 a0 21) = (mh a0 21) := (Eq.trans (zfr_ap hfm400 hc0 rfl) (Eq.trans (zs_ne hmm398 (Or.inr (by decide))) (Eq.trans (zs_ne hmm389 (Or.inr (by decide))) (Eq.trans (zs_ne hmm386 (Or.inr (by decide))) (Eq.trans (zs_ne hmm382 (Or.inl (zc_ne hc0 zq_211 (by decide)))) (zs_ne hmm376 (Or.inr (by decide))))))))
                        have r410 : 0 ≤ (m400 a0 48) ∧ (m400 a0 48) ≤ 64 := zi_rd hIm400 hc0 zb_28_48
                        have e411 : (m400 a0 48) = (zu_w32 ((mh a0 48) + 1)) := (Eq.trans (zfr_ap hfm400 hc0 rfl) (Eq.trans (zs_ne hmm398 (Or.inr (by decide))) (Eq.trans (zs_ne hmm389 (Or.inr (by decide))) (Eq.trans (zs_ne hmm386 (Or.inr (by decide))) (Eq.trans (zs_ne hmm382 (Or.inl (zc_ne hc0 zq_211 (by decide)))) (zs_eq hmm376))))))
                        have r412 : 0 ≤ (m400 a0 46) ∧ (m400 a0 46) ≤ 96 := zi_rd hIm400 hc0 zb_28_46
                        have e413 : (m400 a0 46) = (mh a0 46) := (Eq.trans (zfr_ap hfm400 hc0 rfl) (Eq.trans (zs_ne hmm398 (Or.inr (by decide))) (Eq.trans (zs_ne hmm389 (Or.inr (by decide))) (Eq.trans (zs_ne hmm386 (Or.inr (by decide))) (Eq.trans (zs_ne hmm382 (Or.inl (zc_ne hc0 zq_211 (by decide)))) (zs_ne hmm376 (Or.inr (by decide))))))))
                        have r414 : 0 ≤ (m400 a0 49) ∧ (m400 a0 49) ≤ 1 := zi_rd hIm400 hc0 zb_28_49
                        have e415 : (m400 a0 49) = 1 := (Eq.trans (zfr_ap hfm400 hc0 rfl) (Eq.trans (zs_ne hmm398 (Or.inr (by decide))) (zs_eq hmm389)))
                        have r416 : 0 ≤ (m400 a0 45) ∧ (m400 a0 45) ≤ 96 := zi_rd hIm400 hc0 zb_28_45
                        have e417 : (m400 a0 45) = (zu_w32 ((m382 a0 45) + 1)) := (Eq.trans (zfr_ap hfm400 hc0 rfl) (Eq.trans (zs_ne hmm398 (Or.inr (by decide))) (Eq.trans (zs_ne hmm389 (Or.inr (by decide))) (zs_eq hmm386))))
                        have r418 : 0 ≤ (m400 a0 47) ∧ (m400 a0 47) ≤ 8 := zi_rd hIm400 hc0 zb_28_47
                        have e419 : (m400 a0 47) = (mh a0 47) := (Eq.trans (zfr_ap hfm400 hc0 rfl) (Eq.trans (zs_ne hmm398 (Or.inr (by decide))) (Eq.trans (zs_ne hmm389 (Or.inr (by decide))) (Eq.trans (zs_ne hmm386 (Or.inr (by decide))) (Eq.trans (zs_ne hmm382 (Or.inl (zc_ne hc0 zq_211 (by decide)))) (zs_ne hmm376 (Or.inr (by decide))))))))
                        exact zw_some ⟨hIm400, hFm400, hRKNm400, hRNSm400, hRTRm400, hRWDm400, ⟨by omega, by omega⟩, by omega, by omega, by omega, by omega, by omega, by omega⟩
                    · refine zw_some ?_
                      refine zw_ite (fun h420 => ?_) (fun h420 => ?_)
                      · exfalso; omega
                      · refine zw_b (by omega) ?_
                        generalize hmm421 : zu_up m389 a0 50 1 = m421
                        have hIm421 := zi_up hmm421 hIm389 hc0 zb_28_50 (by omega) (by omega)
                        have hFm421 := zfr_up hmm421 hFm389 hc0 rfl
                        have g422 := zwt_fr (zdis_fr (zfr_up hmm421 (zfr_rf [(28, 51)] _) hc0 rfl) rfl)
                        have hRKNm421 := zR_KN_fr (zdis_fr (zfr_up hmm421 (zfr_rf [(28, 51)] _) hc0 rfl) rfl) hRKNm389
                        have hRNSm421 := zR_NS_fr (zdis_fr (zfr_up hmm421 (zfr_rf [(28, 51)] _) hc0 rfl) rfl) hRNSm389
                        have hRTRm421 := zR_TR_fr (zdis_fr (zfr_up hmm421 (zfr_rf [(28, 51)] _) hc0 rfl) rfl) hRTRm389
                        have hRWDm421 := zR_WD_fr (zdis_fr (zfr_up hmm421 (zfr_rf [(28, 51)] _) hc0 rfl) rfl) hRWDm389
                        refine zw_bd (zw_mono (zk_89 n hIm421 hc0 hRNSm421 hRWDm421) (fun v424 m423 hqm423 => ?_))
                        obtain ⟨hIm423, hfm423, hvm423⟩ := hqm423
                        have hFm423 := zfr_tr hFm421 hfm423 rfl
                        obtain ⟨hRNSm423, hRTRm423, hRWDm423, hvm423⟩ := hvm423
                        have g425 := zwt_fr (zdis_fr hfm423 rfl)
                        have hRKNm423 := zR_KN_fr (zdis_fr hfm423 rfl) hRKNm421
                        have g426 := zwt_bd hIm423 hc0
                        have s427 := hRNSm423 a0 hc0
                        have s428 := hRTRm423 a0 hc0
                        refine zw_b (by omega) ?_
                        have r429 : 0 ≤ (m423 a0 7) ∧ (m423 a0 7) ≤ 700 := zi_rd hIm423 hc0 zb_28_7
                        have r430 : 0 ≤ (m423 a0 8) ∧ (m423 a0 8) ≤ 6 := zi_rd hIm423 hc0 zb_28_8
                        have r431 : 0 ≤ (m423 a0 21) ∧ (m423 a0 21) ≤ 64 := zi_rd hIm423 hc0 zb_28_21
                        have e432 : (m423 a0 21) = (mh a0 21) := (Eq.trans (zfr_ap hfm423 hc0 rfl) (Eq.trans (zs_ne hmm421 (Or.inr (by decide))) (Eq.trans (zs_ne hmm389 (Or.inr (by decide))) (Eq.trans (zs_ne hmm386 (Or.inr (by decide))) (Eq.trans (zs_ne hmm382 (Or.inl (zc_ne hc0 zq_211 (by decide)))) (zs_ne hmm376 (Or.inr (by decide))))))))
                        have r433 : 0 ≤ (m423 a0 48) ∧ (m423 a0 48) ≤ 64 := zi_rd hIm423 hc0 zb_28_48
                        have e434 : (m423 a0 48) = (zu_w32 ((mh a0 48) + 1)) := (Eq.trans (zfr_ap hfm423 hc0 rfl) (Eq.trans (zs_ne hmm421 (Or.inr (by decide))) (Eq.trans (zs_ne hmm389 (Or.inr (by decide))) (Eq.trans (zs_ne hmm386 (Or.inr (by decide))) (Eq.trans (zs_ne hmm382 (Or.inl (zc_ne hc0 zq_211 (by decide)))) (zs_eq hmm376))))))
                        have r435 : 0 ≤ (m423 a0 46) ∧ (m423 a0 46) ≤ 96 := zi_rd hIm423 hc0 zb_28_46
                        have e436 : (m423 a0 46) = (mh a0 46) := (Eq.trans (zfr_ap hfm423 hc0 rfl) (Eq.trans (zs_ne hmm421 (Or.inr (by decide))) (Eq.trans (zs_ne hmm389 (Or.inr (by decide))) (Eq.trans (zs_ne hmm386 (Or.inr (by decide))) (Eq.trans (zs_ne hmm382 (Or.inl (zc_ne hc0 zq_211 (by decide)))) (zs_ne hmm376 (Or.inr (by decide))))))))
                        have r437 : 0 ≤ (m423 a0 49) ∧ (m423 a0 49) ≤ 1 := zi_rd hIm423 hc0 zb_28_49
                        have e438 : (m423 a0 49) = 1 := (Eq.trans (zfr_ap hfm423 hc0 rfl) (Eq.trans (zs_ne hmm421 (Or.inr (by decide))) (zs_eq hmm389)))
                        have r439 : 0 ≤ (m423 a0 45) ∧ (m423 a0 45) ≤ 96 := zi_rd hIm423 hc0 zb_28_45
                        have e440 : (m423 a0 45) = (zu_w32 ((m382 a0 45) + 1)) := (Eq.trans (zfr_ap hfm423 hc0 rfl) (Eq.trans (zs_ne hmm421 (Or.inr (by decide))) (Eq.trans (zs_ne hmm389 (Or.inr (by decide))) (zs_eq hmm386))))
                        have r441 : 0 ≤ (m423 a0 47) ∧ (m423 a0 47) ≤ 8 := zi_rd hIm423 hc0 zb_28_47
                        have e442 : (m423 a0 47) = (mh a0 47) := (Eq.trans (zfr_ap hfm423 hc0 rfl) (Eq.trans (zs_ne hmm421 (Or.inr (by decide))) (Eq.trans (zs_ne hmm389 (Or.inr (by decide))) (Eq.trans (zs_ne hmm386 (Or.inr (by decide))) (Eq.trans (zs_ne hmm382 (Or.inl (zc_ne hc0 zq_211 (by decide)))) (zs_ne hmm376 (Or.inr (by decide))))))))
                        exact zw_some ⟨hIm423, hFm423, hRKNm423, hRNSm423, hRTRm423, hRWDm423, ⟨by omega, by omega⟩, by omega, by omega, by omega, by omega, by omega, by omega⟩
                  · refine zw_some ?_
                    refine zw_ite (fun h443 => ?_) (fun h443 => ?_)
                    · exfalso; omega
                    · refine zw_b (by omega) ?_
                      generalize hmm444 : zu_up m389 a0 50 1 = m444
                      have hIm444 := zi_up hmm444 hIm389 hc0 zb_28_50 (by omega) (by omega)
                      have hFm444 := zfr_up hmm444 hFm389 hc0 rfl
                      have g445 := zwt_fr (zdis_fr (zfr_up hmm444 (zfr_rf [(28, 51)] _) hc0 rfl) rfl)
                      have hRKNm444 := zR_KN_fr (zdis_fr (zfr_up hmm444 (zfr_rf [(28, 51)] _) hc0 rfl) rfl) hRKNm389
                      have hRNSm444 := zR_NS_fr (zdis_fr (zfr_up hmm444 (zfr_rf [(28, 51)] _) hc0 rfl) rfl) hRNSm389
                      have hRTRm444 := zR_TR_fr (zdis_fr (zfr_up hmm444 (zfr_rf [(28, 51)] _) hc0 rfl) rfl) hRTRm389
                      have hRWDm444 := zR_WD_fr (zdis_fr (zfr_up hmm444 (zfr_rf [(28, 51)] _) hc0 rfl) rfl) hRWDm389
                      refine zw_bd (zw_mono (zk_89 n hIm444 hc0 hRNSm444 hRWDm444) (fun v447 m446 hqm446 => ?_))
                      obtain ⟨hIm446, hfm446, hvm446⟩ := hqm446
                      have hFm446 := zfr_tr hFm444 hfm446 rfl
                      obtain ⟨hRNSm446, hRTRm446, hRWDm446, hvm446⟩ := hvm446
                      have g448 := zwt_fr (zdis_fr hfm446 rfl)
                      have hRKNm446 := zR_KN_fr (zdis_fr hfm446 rfl) hRKNm444
                      have g449 := zwt_bd hIm446 hc0
                      have s450 := hRNSm446 a0 hc0
                      have s451 := hRTRm446 a0 hc0
                      refine zw_b (by omega) ?_
                      have r452 : 0 ≤ (m446 a0 7) ∧ (m446 a0 7) ≤ 700 := zi_rd hIm446 hc0 zb_28_7
                      have r453 : 0 ≤ (m446 a0 8) ∧ (m446 a0 8) ≤ 6 := zi_rd hIm446 hc0 zb_28_8
                      have r454 : 0 ≤ (m446 a0 21) ∧ (m446 a0 21) ≤ 64 := zi_rd hIm446 hc0 zb_28_21
                      have e455 : (m446 a0 21) = (mh a0 21) := (Eq.trans (zfr_ap hfm446 hc0 rfl) (Eq.trans (zs_ne hmm444 (Or.inr (by decide))) (Eq.trans (zs_ne hmm389 (Or.inr (by decide))) (Eq.trans (zs_ne hmm386 (Or.inr (by decide))) (Eq.trans (zs_ne hmm382 (Or.inl (zc_ne hc0 zq_211 (by decide)))) (zs_ne hmm376 (Or.inr (by decide))))))))
                      have r456 : 0 ≤ (m446 a0 48) ∧ (m446 a0 48) ≤ 64 := zi_rd hIm446 hc0 zb_28_48
                      have e457 : (m446 a0 48) = (zu_w32 ((mh a0 48) + 1)) := (Eq.trans (zfr_ap hfm446 hc0 rfl) (Eq.trans (zs_ne hmm444 (Or.inr (by decide))) (Eq.trans (zs_ne hmm389 (Or.inr (by decide))) (Eq.trans (zs_ne hmm386 (Or.inr (by decide))) (Eq.trans (zs_ne hmm382 (Or.inl (zc_ne hc0 zq_211 (by decide)))) (zs_eq hmm376))))))
                      have r458 : 0 ≤ (m446 a0 46) ∧ (m446 a0 46) ≤ 96 := zi_rd hIm446 hc0 zb_28_46
                      have e459 : (m446 a0 46) = (mh a0 46) := (Eq.trans (zfr_ap hfm446 hc0 rfl) (Eq.trans (zs_ne hmm444 (Or.inr (by decide))) (Eq.trans (zs_ne hmm389 (Or.inr (by decide))) (Eq.trans (zs_ne hmm386 (Or.inr (by decide))) (Eq.trans (zs_ne hmm382 (Or.inl (zc_ne hc0 zq_211 (by decide)))) (zs_ne hmm376 (Or.inr (by decide))))))))
                      have r460 : 0 ≤ (m446 a0 49) ∧ (m446 a0 49) ≤ 1 := zi_rd hIm446 hc0 zb_28_49
                      have e461 : (m446 a0 49) = 1 := (Eq.trans (zfr_ap hfm446 hc0 rfl) (Eq.trans (zs_ne hmm444 (Or.inr (by decide))) (zs_eq hmm389)))
                      have r462 : 0 ≤ (m446 a0 45) ∧ (m446 a0 45) ≤ 96 := zi_rd hIm446 hc0 zb_28_45
                      have e463 : (m446 a0 45) = (zu_w32 ((m382 a0 45) + 1)) := (Eq.trans (zfr_ap hfm446 hc0 rfl) (Eq.trans (zs_ne hmm444 (Or.inr (by decide))) (Eq.trans (zs_ne hmm389 (Or.inr (by decide))) (zs_eq hmm386))))
                      have r464 : 0 ≤ (m446 a0 47) ∧ (m446 a0 47) ≤ 8 := zi_rd hIm446 hc0 zb_28_47
                      have e465 : (m446 a0 47) = (mh a0 47) := (Eq.trans (zfr_ap hfm446 hc0 rfl) (Eq.trans (zs_ne hmm444 (Or.inr (by decide))) (Eq.trans (zs_ne hmm389 (Or.inr (by decide))) (Eq.trans (zs_ne hmm386 (Or.inr (by decide))) (Eq.trans (zs_ne hmm382 (Or.inl (zc_ne hc0 zq_211 (by decide)))) (zs_ne hmm376 (Or.inr (by decide))))))))
                      exact zw_some ⟨hIm446, hFm446, hRKNm446, hRNSm446, hRTRm446, hRWDm446, ⟨by omega, by omega⟩, by omega, by omega, by omega, by omega, by omega, by omega⟩
                · refine zw_some ?_
                  refine zw_ite (fun h466 => ?_) (fun h466 => ?_)
                  · refine zw_b (by omega) ?_
                    generalize hmm467 : zu_up m389 a0 50 0 = m467
                    have hIm467 := zi_up hmm467 hIm389 hc0 zb_28_50 (by omega) (by omega)
                    have hFm467 := zfr_up hmm467 hFm389 hc0 rfl
                    have g468 := zwt_fr (zdis_fr (zfr_up hmm467 (zfr_rf [(28, 51)] _) hc0 rfl) rfl)
                    have hRKNm467 := zR_KN_fr (zdis_fr (zfr_up hmm467 (zfr_rf [(28, 51)] _) hc0 rfl) rfl) hRKNm389
                    have hRNSm467 := zR_NS_fr (zdis_fr (zfr_up hmm467 (zfr_rf [(28, 51)] _) hc0 rfl) rfl) hRNSm389
                    have hRTRm467 := zR_TR_fr (zdis_fr (zfr_up hmm467 (zfr_rf [(28, 51)] _) hc0 rfl) rfl) hRTRm389
                    have hRWDm467 := zR_WD_fr (zdis_fr (zfr_up hmm467 (zfr_rf [(28, 51)] _) hc0 rfl) rfl) hRWDm389
                    refine zw_bd (zw_mono (zk_89 n hIm467 hc0 hRNSm467 hRWDm467) (fun v470 m469 hqm469 => ?_))
                    obtain ⟨hIm469, hfm469, hvm469⟩ := hqm469
                    have hFm469 := zfr_tr hFm467 hfm469 rfl
                    obtain ⟨hRNSm469, hRTRm469, hRWDm469, hvm469⟩ := hvm469
                    have g471 := zwt_fr (zdis_fr hfm469 rfl)
                    have hRKNm469 := zR_KN_fr (zdis_fr hfm469 rfl) hRKNm467
                    have g472 := zwt_bd hIm469 hc0
                    have s473 := hRNSm469 a0 hc0
                    have s474 := hRTRm469 a0 hc0
                    refine zw_b (by omega) ?_
                    have r475 : 0 ≤ (m469 a0 7) ∧ (m469 a0 7) ≤ 700 := zi_rd hIm469 hc0 zb_28_7
                    have r476 : 0 ≤ (m469 a0 8) ∧ (m469 a0 8) ≤ 6 := zi_rd hIm469 hc0 zb_28_8
                    have r477 : 0 ≤ (m469 a0 21) ∧ (m469 a0 21) ≤ 64 := zi_rd hIm469 hc0 zb_28_21
                    have e478 : (m469 a0 21) = (mh a0 21) := (Eq.trans (zfr_ap hfm469 hc0 rfl) (Eq.trans (zs_ne hmm467 (Or.inr (by decide))) (Eq.trans (zs_ne hmm389 (Or.inr (by decide))) (Eq.trans (zs_ne hmm386 (Or.inr (by decide))) (Eq.trans (zs_ne hmm382 (Or.inl (zc_ne hc0 zq_211 (by decide)))) (zs_ne hmm376 (Or.inr (by decide))))))))
                    have r479 : 0 ≤ (m469 a0 48) ∧ (m469 a0 48) ≤ 64 := zi_rd hIm469 hc0 zb_28_48
                    have e480 : (m469 a0 48) = (zu_w32 ((mh a0 48) + 1)) := (Eq.trans (zfr_ap hfm469 hc0 rfl) (Eq.trans (zs_ne hmm467 (Or.inr (by decide))) (Eq.trans (zs_ne hmm389 (Or.inr (by decide))) (Eq.trans (zs_ne hmm386 (Or.inr (by decide))) (Eq.trans (zs_ne hmm382 (Or.inl (zc_ne hc0 zq_211 (by decide)))) (zs_eq hmm376))))))
                    have r481 : 0 ≤ (m469 a0 46) ∧ (m469 a0 46) ≤ 96 := zi_rd hIm469 hc0 zb_28_46
                    have e482 : (m469 a0 46) = (mh a0 46) := (Eq.trans (zfr_ap hfm469 hc0 rfl) (Eq.trans (zs_ne hmm467 (Or.inr (by decide))) (Eq.trans (zs_ne hmm389 (Or.inr (by decide))) (Eq.trans (zs_ne hmm386 (Or.inr (by decide))) (Eq.trans (zs_ne hmm382 (Or.inl (zc_ne hc0 zq_211 (by decide)))) (zs_ne hmm376 (Or.inr (by decide))))))))
                    have r483 : 0 ≤ (m469 a0 49) ∧ (m469 a0 49) ≤ 1 := zi_rd hIm469 hc0 zb_28_49
                    have e484 : (m469 a0 49) = 1 := (Eq.trans (zfr_ap hfm469 hc0 rfl) (Eq.trans (zs_ne hmm467 (Or.inr (by decide))) (zs_eq hmm389)))
                    have r485 : 0 ≤ (m469 a0 45) ∧ (m469 a0 45) ≤ 96 := zi_rd hIm469 hc0 zb_28_45
                    have e486 : (m469 a0 45) = (zu_w32 ((m382 a0 45) + 1)) := (Eq.trans (zfr_ap hfm469 hc0 rfl) (Eq.trans (zs_ne hmm467 (Or.inr (by decide))) (Eq.trans (zs_ne hmm389 (Or.inr (by decide))) (zs_eq hmm386))))
                    have r487 : 0 ≤ (m469 a0 47) ∧ (m469 a0 47) ≤ 8 := zi_rd hIm469 hc0 zb_28_47
                    have e488 : (m469 a0 47) = (mh a0 47) := (Eq.trans (zfr_ap hfm469 hc0 rfl) (Eq.trans (zs_ne hmm467 (Or.inr (by decide))) (Eq.trans (zs_ne hmm389 (Or.inr (by decide))) (Eq.trans (zs_ne hmm386 (Or.inr (by decide))) (Eq.trans (zs_ne hmm382 (Or.inl (zc_ne hc0 zq_211 (by decide)))) (zs_ne hmm376 (Or.inr (by decide))))))))
                    exact zw_some ⟨hIm469, hFm469, hRKNm469, hRNSm469, hRTRm469, hRWDm469, ⟨by omega, by omega⟩, by omega, by omega, by omega, by omega, by omega, by omega⟩
                  · exfalso; omega
              · refine zw_some ?_
                refine zw_ite (fun h489 => ?_) (fun h489 => ?_)
                · refine zw_b (by omega) ?_
                  generalize hmm490 : zu_up m389 a0 50 0 = m490
                  have hIm490 := zi_up hmm490 hIm389 hc0 zb_28_50 (by omega) (by omega)
                  have hFm490 := zfr_up hmm490 hFm389 hc0 rfl
                  have g491 := zwt_fr (zdis_fr (zfr_up hmm490 (zfr_rf [(28, 51)] _) hc0 rfl) rfl)
                  have hRKNm490 := zR_KN_fr (zdis_fr (zfr_up hmm490 (zfr_rf [(28, 51)] _) hc0 rfl) rfl) hRKNm389
                  have hRNSm490 := zR_NS_fr (zdis_fr (zfr_up hmm490 (zfr_rf [(28, 51)] _) hc0 rfl) rfl) hRNSm389
                  have hRTRm490 := zR_TR_fr (zdis_fr (zfr_up hmm490 (zfr_rf [(28, 51)] _) hc0 rfl) rfl) hRTRm389
                  have hRWDm490 := zR_WD_fr (zdis_fr (zfr_up hmm490 (zfr_rf [(28, 51)] _) hc0 rfl) rfl) hRWDm389
                  refine zw_bd (zw_mono (zk_89 n hIm490 hc0 hRNSm490 hRWDm490) (fun v493 m492 hqm492 => ?_))
                  obtain ⟨hIm492, hfm492, hvm492⟩ := hqm492
                  have hFm492 := zfr_tr hFm490 hfm492 rfl
                  obtain ⟨hRNSm492, hRTRm492, hRWDm492, hvm492⟩ := hvm492
                  have g494 := zwt_fr (zdis_fr hfm492 rfl)
                  have hRKNm492 := zR_KN_fr (zdis_fr hfm492 rfl) hRKNm490
                  have g495 := zwt_bd hIm492 hc0
                  have s496 := hRNSm492 a0 hc0
                  have s497 := hRTRm492 a0 hc0
                  refine zw_b (by omega) ?_
                  have r498 : 0 ≤ (m492 a0 7) ∧ (m492 a0 7) ≤ 700 := zi_rd hIm492 hc0 zb_28_7
                  have r499 : 0 ≤ (m492 a0 8) ∧ (m492 a0 8) ≤ 6 := zi_rd hIm492 hc0 zb_28_8
                  have r500 : 0 ≤ (m492 a0 21) ∧ (m492 a0 21) ≤ 64 := zi_rd hIm492 hc0 zb_28_21
                  have e501 : (m492 a0 21) = (mh a0 21) := (Eq.trans (zfr_ap hfm492 hc0 rfl) (Eq.trans (zs_ne hmm490 (Or.inr (by decide))) (Eq.trans (zs_ne hmm389 (Or.inr (by decide))) (Eq.trans (zs_ne hmm386 (Or.inr (by decide))) (Eq.trans (zs_ne hmm382 (Or.inl (zc_ne hc0 zq_211 (by decide)))) (zs_ne hmm376 (Or.inr (by decide))))))))
                  have r502 : 0 ≤ (m492 a0 48) ∧ (m492 a0 48) ≤ 64 := zi_rd hIm492 hc0 zb_28_48
                  have e503 : (m492 a0 48) = (zu_w32 ((mh a0 48) + 1)) := (Eq.trans (zfr_ap hfm492 hc0 rfl) (Eq.trans (zs_ne hmm490 (Or.inr (by decide))) (Eq.trans (zs_ne hmm389 (Or.inr (by decide))) (Eq.trans (zs_ne hmm386 (Or.inr (by decide))) (Eq.trans (zs_ne hmm382 (Or.inl (zc_ne hc0 zq_211 (by decide)))) (zs_eq hmm376))))))
                  have r504 : 0 ≤ (m492 a0 46) ∧ (m492 a0 46) ≤ 96 := zi_rd hIm492 hc0 zb_28_46
                  have e505 : (m492 a0 46) = (mh a0 46) := (Eq.trans (zfr_ap hfm492 hc0 rfl) (Eq.trans (zs_ne hmm490 (Or.inr (by decide))) (Eq.trans (zs_ne hmm389 (Or.inr (by decide))) (Eq.trans (zs_ne hmm386 (Or.inr (by decide))) (Eq.trans (zs_ne hmm382 (Or.inl (zc_ne hc0 zq_211 (by decide)))) (zs_ne hmm376 (Or.inr (by decide))))))))
                  have r506 : 0 ≤ (m492 a0 49) ∧ (m492 a0 49) ≤ 1 := zi_rd hIm492 hc0 zb_28_49
                  have e507 : (m492 a0 49) = 1 := (Eq.trans (zfr_ap hfm492 hc0 rfl) (Eq.trans (zs_ne hmm490 (Or.inr (by decide))) (zs_eq hmm389)))
                  have r508 : 0 ≤ (m492 a0 45) ∧ (m492 a0 45) ≤ 96 := zi_rd hIm492 hc0 zb_28_45
                  have e509 : (m492 a0 45) = (zu_w32 ((m382 a0 45) + 1)) := (Eq.trans (zfr_ap hfm492 hc0 rfl) (Eq.trans (zs_ne hmm490 (Or.inr (by decide))) (Eq.trans (zs_ne hmm389 (Or.inr (by decide))) (zs_eq hmm386))))
                  have r510 : 0 ≤ (m492 a0 47) ∧ (m492 a0 47) ≤ 8 := zi_rd hIm492 hc0 zb_28_47
                  have e511 : (m492 a0 47) = (mh a0 47) := (Eq.trans (zfr_ap hfm492 hc0 rfl) (Eq.trans (zs_ne hmm490 (Or.inr (by decide))) (Eq.trans (zs_ne hmm389 (Or.inr (by decide))) (Eq.trans (zs_ne hmm386 (Or.inr (by decide))) (Eq.trans (zs_ne hmm382 (Or.inl (zc_ne hc0 zq_211 (by decide)))) (zs_ne hmm376 (Or.inr (by decide))))))))
                  exact zw_some ⟨hIm492, hFm492, hRKNm492, hRNSm492, hRTRm492, hRWDm492, ⟨by omega, by omega⟩, by omega, by omega, by omega, by omega, by omega, by omega⟩
                · exfalso; omega
            · refine zw_some ?_
              refine zw_ite (fun h512 => ?_) (fun h512 => ?_)
              · refine zw_b (by omega) ?_
                generalize hmm513 : zu_up m389 a0 50 0 = m513
                have hIm513 := zi_up hmm513 hIm389 hc0 zb_28_50 (by omega) (by omega)
                have hFm513 := zfr_up hmm513 hFm389 hc0 rfl
                have g514 := zwt_fr (zdis_fr (zfr_up hmm513 (zfr_rf [(28, 51)] _) hc0 rfl) rfl)
                have hRKNm513 := zR_KN_fr (zdis_fr (zfr_up hmm513 (zfr_rf [(28, 51)] _) hc0 rfl) rfl) hRKNm389
                have hRNSm513 := zR_NS_fr (zdis_fr (zfr_up hmm513 (zfr_rf [(28, 51)] _) hc0 rfl) rfl) hRNSm389
                have hRTRm513 := zR_TR_fr (zdis_fr (zfr_up hmm513 (zfr_rf [(28, 51)] _) hc0 rfl) rfl) hRTRm389
                have hRWDm513 := zR_WD_fr (zdis_fr (zfr_up hmm513 (zfr_rf [(28, 51)] _) hc0 rfl) rfl) hRWDm389
                refine zw_bd (zw_mono (zk_89 n hIm513 hc0 hRNSm513 hRWDm513) (fun v516 m515 hqm515 => ?_))
                obtain ⟨hIm515, hfm515, hvm515⟩ := hqm515
                have hFm515 := zfr_tr hFm513 hfm515 rfl
                obtain ⟨hRNSm515, hRTRm515, hRWDm515, hvm515⟩ := hvm515
                have g517 := zwt_fr (zdis_fr hfm515 rfl)
                have hRKNm515 := zR_KN_fr (zdis_fr hfm515 rfl) hRKNm513
                have g518 := zwt_bd hIm515 hc0
                have s519 := hRNSm515 a0 hc0
                have s520 := hRTRm515 a0 hc0
                refine zw_b (by omega) ?_
                have r521 : 0 ≤ (m515 a0 7) ∧ (m515 a0 7) ≤ 700 := zi_rd hIm515 hc0 zb_28_7
                have r522 : 0 ≤ (m515 a0 8) ∧ (m515 a0 8) ≤ 6 := zi_rd hIm515 hc0 zb_28_8
                have r523 : 0 ≤ (m515 a0 21) ∧ (m515 a0 21) ≤ 64 := zi_rd hIm515 hc0 zb_28_21
                have e524 : (m515 a0 21) = (mh a0 21) := (Eq.trans (zfr_ap hfm515 hc0 rfl) (Eq.trans (zs_ne hmm513 (Or.inr (by decide))) (Eq.trans (zs_ne hmm389 (Or.inr (by decide))) (Eq.trans (zs_ne hmm386 (Or.inr (by decide))) (Eq.trans (zs_ne hmm382 (Or.inl (zc_ne hc0 zq_211 (by decide)))) (zs_ne hmm376 (Or.inr (by decide))))))))
                have r525 : 0 ≤ (m515 a0 48) ∧ (m515 a0 48) ≤ 64 := zi_rd hIm515 hc0 zb_28_48
                have e526 : (m515 a0 48) = (zu_w32 ((mh a0 48) + 1)) := (Eq.trans (zfr_ap hfm515 hc0 rfl) (Eq.trans (zs_ne hmm513 (Or.inr (by decide))) (Eq.trans (zs_ne hmm389 (Or.inr (by decide))) (Eq.trans (zs_ne hmm386 (Or.inr (by decide))) (Eq.trans (zs_ne hmm382 (Or.inl (zc_ne hc0 zq_211 (by decide)))) (zs_eq hmm376))))))
                have r527 : 0 ≤ (m515 a0 46) ∧ (m515 a0 46) ≤ 96 := zi_rd hIm515 hc0 zb_28_46
                have e528 : (m515 a0 46) = (mh a0 46) := (Eq.trans (zfr_ap hfm515 hc0 rfl) (Eq.trans (zs_ne hmm513 (Or.inr (by decide))) (Eq.trans (zs_ne hmm389 (Or.inr (by decide))) (Eq.trans (zs_ne hmm386 (Or.inr (by decide))) (Eq.trans (zs_ne hmm382 (Or.inl (zc_ne hc0 zq_211 (by decide)))) (zs_ne hmm376 (Or.inr (by decide))))))))
                have r529 : 0 ≤ (m515 a0 49) ∧ (m515 a0 49) ≤ 1 := zi_rd hIm515 hc0 zb_28_49
                have e530 : (m515 a0 49) = 1 := (Eq.trans (zfr_ap hfm515 hc0 rfl) (Eq.trans (zs_ne hmm513 (Or.inr (by decide))) (zs_eq hmm389)))
                have r531 : 0 ≤ (m515 a0 45) ∧ (m515 a0 45) ≤ 96 := zi_rd hIm515 hc0 zb_28_45
                have e532 : (m515 a0 45) = (zu_w32 ((m382 a0 45) + 1)) := (Eq.trans (zfr_ap hfm515 hc0 rfl) (Eq.trans (zs_ne hmm513 (Or.inr (by decide))) (Eq.trans (zs_ne hmm389 (Or.inr (by decide))) (zs_eq hmm386))))
                have r533 : 0 ≤ (m515 a0 47) ∧ (m515 a0 47) ≤ 8 := zi_rd hIm515 hc0 zb_28_47
                have e534 : (m515 a0 47) = (mh a0 47) := (Eq.trans (zfr_ap hfm515 hc0 rfl) (Eq.trans (zs_ne hmm513 (Or.inr (by decide))) (Eq.trans (zs_ne hmm389 (Or.inr (by decide))) (Eq.trans (zs_ne hmm386 (Or.inr (by decide))) (Eq.trans (zs_ne hmm382 (Or.inl (zc_ne hc0 zq_211 (by decide)))) (zs_ne hmm376 (Or.inr (by decide))))))))
                exact zw_some ⟨hIm515, hFm515, hRKNm515, hRNSm515, hRTRm515, hRWDm515, ⟨by omega, by omega⟩, by omega, by omega, by omega, by omega, by omega, by omega⟩
              · exfalso; omega
          · refine zw_some ?_
            refine zw_ite (fun h535 => ?_) (fun h535 => ?_)
            · refine zw_b (by omega) ?_
              generalize hmm536 : zu_up m389 a0 50 0 = m536
              have hIm536 := zi_up hmm536 hIm389 hc0 zb_28_50 (by omega) (by omega)
              have hFm536 := zfr_up hmm536 hFm389 hc0 rfl
              have g537 := zwt_fr (zdis_fr (zfr_up hmm536 (zfr_rf [(28, 51)] _) hc0 rfl) rfl)
              have hRKNm536 := zR_KN_fr (zdis_fr (zfr_up hmm536 (zfr_rf [(28, 51)] _) hc0 rfl) rfl) hRKNm389
              have hRNSm536 := zR_NS_fr (zdis_fr (zfr_up hmm536 (zfr_rf [(28, 51)] _) hc0 rfl) rfl) hRNSm389
              have hRTRm536 := zR_TR_fr (zdis_fr (zfr_up hmm536 (zfr_rf [(28, 51)] _) hc0 rfl) rfl) hRTRm389
              have hRWDm536 := zR_WD_fr (zdis_fr (zfr_up hmm536 (zfr_rf [(28, 51)] _) hc0 rfl) rfl) hRWDm389
              refine zw_bd (zw_mono (zk_89 n hIm536 hc0 hRNSm536 hRWDm536) (fun v539 m538 hqm538 => ?_))
              obtain ⟨hIm538, hfm538, hvm538⟩ := hqm538
              have hFm538 := zfr_tr hFm536 hfm538 rfl
              obtain ⟨hRNSm538, hRTRm538, hRWDm538, hvm538⟩ := hvm538
              have g540 := zwt_fr (zdis_fr hfm538 rfl)
              have hRKNm538 := zR_KN_fr (zdis_fr hfm538 rfl) hRKNm536
              have g541 := zwt_bd hIm538 hc0
              have s542 := hRNSm538 a0 hc0
              have s543 := hRTRm538 a0 hc0
              refine zw_b (by omega) ?_
              have r544 : 0 ≤ (m538 a0 7) ∧ (m538 a0 7) ≤ 700 := zi_rd hIm538 hc0 zb_28_7
              have r545 : 0 ≤ (m538 a0 8) ∧ (m538 a0 8) ≤ 6 := zi_rd hIm538 hc0 zb_28_8
              have r546 : 0 ≤ (m538 a0 21) ∧ (m538 a0 21) ≤ 64 := zi_rd hIm538 hc0 zb_28_21
              have e547 : (m538 a0 21) = (mh a0 21) := (Eq.trans (zfr_ap hfm538 hc0 rfl) (Eq.trans (zs_ne hmm536 (Or.inr (by decide))) (Eq.trans (zs_ne hmm389 (Or.inr (by decide))) (Eq.trans (zs_ne hmm386 (Or.inr (by decide))) (Eq.trans (zs_ne hmm382 (Or.inl (zc_ne hc0 zq_211 (by decide)))) (zs_ne hmm376 (Or.inr (by decide))))))))
              have r548 : 0 ≤ (m538 a0 48) ∧ (m538 a0 48) ≤ 64 := zi_rd hIm538 hc0 zb_28_48
              have e549 : (m538 a0 48) = (zu_w32 ((mh a0 48) + 1)) := (Eq.trans (zfr_ap hfm538 hc0 rfl) (Eq.trans (zs_ne hmm536 (Or.inr (by decide))) (Eq.trans (zs_ne hmm389 (Or.inr (by decide))) (Eq.trans (zs_ne hmm386 (Or.inr (by decide))) (Eq.trans (zs_ne hmm382 (Or.inl (zc_ne hc0 zq_211 (by decide)))) (zs_eq hmm376))))))
              have r550 : 0 ≤ (m538 a0 46) ∧ (m538 a0 46) ≤ 96 := zi_rd hIm538 hc0 zb_28_46
              have e551 : (m538 a0 46) = (mh a0 46) := (Eq.trans (zfr_ap hfm538 hc0 rfl) (Eq.trans (zs_ne hmm536 (Or.inr (by decide))) (Eq.trans (zs_ne hmm389 (Or.inr (by decide))) (Eq.trans (zs_ne hmm386 (Or.inr (by decide))) (Eq.trans (zs_ne hmm382 (Or.inl (zc_ne hc0 zq_211 (by decide)))) (zs_ne hmm376 (Or.inr (by decide))))))))
              have r552 : 0 ≤ (m538 a0 49) ∧ (m538 a0 49) ≤ 1 := zi_rd hIm538 hc0 zb_28_49
              have e553 : (m538 a0 49) = 1 := (Eq.trans (zfr_ap hfm538 hc0 rfl) (Eq.trans (zs_ne hmm536 (Or.inr (by decide))) (zs_eq hmm389)))
              have r554 : 0 ≤ (m538 a0 45) ∧ (m538 a0 45) ≤ 96 := zi_rd hIm538 hc0 zb_28_45
              have e555 : (m538 a0 45) = (zu_w32 ((m382 a0 45) + 1)) := (Eq.trans (zfr_ap hfm538 hc0 rfl) (Eq.trans (zs_ne hmm536 (Or.inr (by decide))) (Eq.trans (zs_ne hmm389 (Or.inr (by decide))) (zs_eq hmm386))))
              have r556 : 0 ≤ (m538 a0 47) ∧ (m538 a0 47) ≤ 8 := zi_rd hIm538 hc0 zb_28_47
              have e557 : (m538 a0 47) = (mh a0 47) := (Eq.trans (zfr_ap hfm538 hc0 rfl) (Eq.trans (zs_ne hmm536 (Or.inr (by decide))) (Eq.trans (zs_ne hmm389 (Or.inr (by decide))) (Eq.trans (zs_ne hmm386 (Or.inr (by decide))) (Eq.trans (zs_ne hmm382 (Or.inl (zc_ne hc0 zq_211 (by decide)))) (zs_ne hmm376 (Or.inr (by decide))))))))
              exact zw_some ⟨hIm538, hFm538, hRKNm538, hRNSm538, hRTRm538, hRWDm538, ⟨by omega, by omega⟩, by omega, by omega, by omega, by omega, by omega, by omega⟩
            · exfalso; omega
        · exfalso; omega
      · refine zw_bd (zw_eq (zu_call_at (zt_T n) (zm_85 n) (zdp_85 n) _ _ _ _ _ rfl (zr_85_0 n _ _ a0 2 mh)) ?_)
        generalize hmm558 : zu_up mh a0 4 2 = m558
        have hIm558 := zi_up hmm558 hImh hc0 zb_28_4 (by omega) (by omega)
        have hFm558 := zfr_up hmm558 hFmh hc0 rfl
        have g559 := zwt_fr (zdis_fr (zfr_up hmm558 (zfr_rf [(28, 5)] _) hc0 rfl) rfl)
        have hRKNm558 := zR_KN_fr (zdis_fr (zfr_up hmm558 (zfr_rf [(28, 5)] _) hc0 rfl) rfl) hRKNmh
        have hRNSm558 := zR_NS_fr (zdis_fr (zfr_up hmm558 (zfr_rf [(28, 5)] _) hc0 rfl) rfl) hRNSmh
        have hRTRm558 := zR_TR_fr (zdis_fr (zfr_up hmm558 (zfr_rf [(28, 5)] _) hc0 rfl) rfl) hRTRmh
        have hRWDm558 := zR_WD_fr (zdis_fr (zfr_up hmm558 (zfr_rf [(28, 5)] _) hc0 rfl) rfl) hRWDmh
        have r560 : 0 ≤ (m558 a0 10) ∧ (m558 a0 10) ≤ 700 := zi_rd hIm558 hc0 zb_28_10
        generalize hmm561 : zu_up m558 a0 5 (m558 a0 10) = m561
        have hIm561 := zi_up hmm561 hIm558 hc0 zb_28_5 (by omega) (by omega)
        have hFm561 := zfr_up hmm561 hFm558 hc0 rfl
        have g562 := zwt_fr (zdis_fr (zfr_up hmm561 (zfr_rf [(28, 6)] _) hc0 rfl) rfl)
        have hRKNm561 := zR_KN_fr (zdis_fr (zfr_up hmm561 (zfr_rf [(28, 6)] _) hc0 rfl) rfl) hRKNm558
        have hRNSm561 := zR_NS_fr (zdis_fr (zfr_up hmm561 (zfr_rf [(28, 6)] _) hc0 rfl) rfl) hRNSm558
        have hRTRm561 := zR_TR_fr (zdis_fr (zfr_up hmm561 (zfr_rf [(28, 6)] _) hc0 rfl) rfl) hRTRm558
        have hRWDm561 := zR_WD_fr (zdis_fr (zfr_up hmm561 (zfr_rf [(28, 6)] _) hc0 rfl) rfl) hRWDm558
        refine zw_b (by omega) ?_
        refine zw_some ?_
        refine zw_b (by omega) ?_
        refine zw_some ?_
        refine zw_ite (fun h563 => ?_) (fun h563 => ?_)
        · exfalso; omega
        · refine zw_b (by omega) ?_
          have r564 : 0 ≤ (m561 a0 7) ∧ (m561 a0 7) ≤ 700 := zi_rd hIm561 hc0 zb_28_7
          have e565 : (m561 a0 7) = (mh a0 7) := (Eq.trans (zs_ne hmm561 (Or.inr (by decide))) (zs_ne hmm558 (Or.inr (by decide))))
          have r566 : 0 ≤ (m561 a0 8) ∧ (m561 a0 8) ≤ 6 := zi_rd hIm561 hc0 zb_28_8
          have r567 : 0 ≤ (m561 a0 21) ∧ (m561 a0 21) ≤ 64 := zi_rd hIm561 hc0 zb_28_21
          have e568 : (m561 a0 21) = (mh a0 21) := (Eq.trans (zs_ne hmm561 (Or.inr (by decide))) (zs_ne hmm558 (Or.inr (by decide))))
          have r569 : 0 ≤ (m561 a0 48) ∧ (m561 a0 48) ≤ 64 := zi_rd hIm561 hc0 zb_28_48
          have e570 : (m561 a0 48) = (mh a0 48) := (Eq.trans (zs_ne hmm561 (Or.inr (by decide))) (zs_ne hmm558 (Or.inr (by decide))))
          have r571 : 0 ≤ (m561 a0 46) ∧ (m561 a0 46) ≤ 96 := zi_rd hIm561 hc0 zb_28_46
          have e572 : (m561 a0 46) = (mh a0 46) := (Eq.trans (zs_ne hmm561 (Or.inr (by decide))) (zs_ne hmm558 (Or.inr (by decide))))
          have r573 : 0 ≤ (m561 a0 49) ∧ (m561 a0 49) ≤ 1 := zi_rd hIm561 hc0 zb_28_49
          have e574 : (m561 a0 49) = (mh a0 49) := (Eq.trans (zs_ne hmm561 (Or.inr (by decide))) (zs_ne hmm558 (Or.inr (by decide))))
          have r575 : 0 ≤ (m561 a0 45) ∧ (m561 a0 45) ≤ 96 := zi_rd hIm561 hc0 zb_28_45
          have e576 : (m561 a0 45) = (mh a0 45) := (Eq.trans (zs_ne hmm561 (Or.inr (by decide))) (zs_ne hmm558 (Or.inr (by decide))))
          have r577 : 0 ≤ (m561 a0 47) ∧ (m561 a0 47) ≤ 8 := zi_rd hIm561 hc0 zb_28_47
          have e578 : (m561 a0 47) = (mh a0 47) := (Eq.trans (zs_ne hmm561 (Or.inr (by decide))) (zs_ne hmm558 (Or.inr (by decide))))
          exact zw_some ⟨hIm561, hFm561, hRKNm561, hRNSm561, hRTRm561, hRWDm561, ⟨by omega, by omega⟩, by omega, by omega, by omega, by omega, by omega, by omega⟩
set_option maxHeartbeats 4000000 in
theorem zk_117 (n : Nat) {a0 : Int} {m0 : zu_m} (hIm0 : zi_I m0) (hc0 : zcls a0 = 28)   (he0 : 0 ≤ m0 a0 49 ∧ m0 a0 49 ≤ 0) (hxp0 : (m0 a0 21) + znz m0 = (m0 a0 48)) (hxp1 : (m0 a0 45) = znz m0 + (m0 a0 47)) (hxp2 : (m0 a0 46) = zbi m0 + 1) (hxp3 : (m0 a0 49) = 0) (hxp4 : 1 ≤ (m0 a0 21)) (hRKNm0 : zR_KN m0) (hRNSm0 : zR_NS m0) (hRTRm0 : zR_TR m0) (hRWDm0 : zR_WD m0) : zw (zu_call (zt_T n) 117 [(40, a0)] m0) (fun v m => zi_I m ∧ zfr [(28, 5), (28, 6), (28, 8), (28, 9), (28, 10), (28, 11), (28, 22), (28, 46), (28, 47), (28, 48), (28, 49), (28, 50), (28, 51), (117, 0), (118, 0), (119, 0), (120, 0), (121, 0)] m0 m ∧ zR_KN m ∧ zR_NS m ∧ zR_TR m ∧ zR_WD m ∧ (0 ≤ v ∧ v ≤ 1) ∧ ((m0 a0 7) ≤ (m a0 7)) ∧ (v = 1 → ((m0 a0 8) ≠ 0 ∧ ((m a0 8) = 0 ∨ (m0 a0 7) < (m a0 7)))) ∧ (v = 1 → (m a0 21) + znz m = (m a0 48)) ∧ (v = 1 → (m a0 46) + (m a0 49) = zbi m + 1) ∧ (v = 1 → (m a0 45) = znz m + (m a0 47)) ∧ (v = 1 → ((m a0 49) = 0 → 1 ≤ (m a0 21)))) := by
  have hFm0 : zfr [(28, 5), (28, 6), (28, 8), (28, 9), (28, 10), (28, 11), (28, 22), (28, 46), (28, 47), (28, 48), (28, 49), (28, 50), (28, 51), (117, 0), (118, 0), (119, 0), (120, 0), (121, 0)] m0 m0 := zfr_rf _ _
  have r579 : 0 ≤ (m0 a0 21) ∧ (m0 a0 21) ≤ 64 := zi_rd hIm0 hc0 zb_28_21
  have r580 : 0 ≤ (m0 a0 48) ∧ (m0 a0 48) ≤ 64 := zi_rd hIm0 hc0 zb_28_48
  have r581 : 0 ≤ (m0 a0 45) ∧ (m0 a0 45) ≤ 96 := zi_rd hIm0 hc0 zb_28_45
  have r582 : 0 ≤ (m0 a0 47) ∧ (m0 a0 47) ≤ 8 := zi_rd hIm0 hc0 zb_28_47
  have r583 : 0 ≤ (m0 a0 46) ∧ (m0 a0 46) ≤ 96 := zi_rd hIm0 hc0 zb_28_46
  have g584 := zwt_bd hIm0 hc0
  have s585 := hRNSm0 a0 hc0
  have s586 := hRTRm0 a0 hc0
  refine zw_eq (zu_call_at (zt_T n) (zm_117 n) (zdp_117 n) _ _ _ _ _ rfl (zr_117_0 n _ _ a0 m0)) ?_
  refine zw_bd (zw_eq (zu_call_at (zt_T n) (zm_93 n) (zdp_93 n) _ _ _ _ _ rfl (zr_93_0 n _ _ a0 41 m0)) ?_)
  have r587 : 0 ≤ (m0 a0 8) ∧ (m0 a0 8) ≤ 6 := zi_rd hIm0 hc0 zb_28_8
  refine zw_ite (fun h588 => ?_) (fun h588 => ?_)
  · refine zw_b (by omega) ?_
    refine zw_some ?_
    refine zw_ite (fun h589 => ?_) (fun h589 => ?_)
    · have r590 : 0 ≤ (m0 a0 7) ∧ (m0 a0 7) ≤ 700 := zi_rd hIm0 hc0 zb_28_7
      have hM : 2 < ((3 : Nat) : Int) := by omega
      exact (zl_117 n (m0 := m0) hc0 hxp0 hxp1 hxp2 hxp3 hxp4 3).1  m0 hIm0 hFm0 ⟨by omega, by omega⟩ (by omega) (by omega) (by omega) (by omega) (by omega) (by omega) hRKNm0 hRNSm0 hRTRm0 hRWDm0 hM
    · exfalso; omega
  · have r591 : (-2147483648) ≤ (m0 a0 9) ∧ (m0 a0 9) ≤ 2147483647 := zi_rd hIm0 hc0 zb_28_9
    refine zw_ite (fun h592 => ?_) (fun h592 => ?_)
    · refine zw_b (by omega) ?_
      refine zw_some ?_
      refine zw_ite (fun h593 => ?_) (fun h593 => ?_)
      · have r594 : 0 ≤ (m0 a0 7) ∧ (m0 a0 7) ≤ 700 := zi_rd hIm0 hc0 zb_28_7
        have hM : 2 < ((3 : Nat) : Int) := by omega
        exact (zl_117 n (m0 := m0) hc0 hxp0 hxp1 hxp2 hxp3 hxp4 3).1  m0 hIm0 hFm0 ⟨by omega, by omega⟩ (by omega) (by omega) (by omega) (by omega) (by omega) (by omega) hRKNm0 hRNSm0 hRTRm0 hRWDm0 hM
      · exfalso; omega
    · refine zw_b (by omega) ?_
      refine zw_some ?_
      refine zw_ite (fun h595 => ?_) (fun h595 => ?_)
      · exfalso; omega
      · refine zw_ite (fun h596 => ?_) (fun h596 => ?_)
        · have r597 : 0 ≤ (m0 a0 7) ∧ (m0 a0 7) ≤ 700 := zi_rd hIm0 hc0 zb_28_7
          have hM : 2 < ((3 : Nat) : Int) := by omega
          exact (zl_117 n (m0 := m0) hc0 hxp0 hxp1 hxp2 hxp3 hxp4 3).1  m0 hIm0 hFm0 ⟨by omega, by omega⟩ (by omega) (by omega) (by omega) (by omega) (by omega) (by omega) hRKNm0 hRNSm0 hRTRm0 hRWDm0 hM
        · refine zw_bd (zw_mono (zk_112 n hIm0 hc0 ⟨by omega, by omega⟩ (by omega) (by omega) (by omega) hRKNm0) (fun v599 m598 hqm598 => ?_))
          obtain ⟨hIm598, hfm598, hvm598⟩ := hqm598
          have hFm598 := zfr_tr hFm0 hfm598 rfl
          obtain ⟨hRKNm598, hvm598⟩ := hvm598
          have hRNSm598 := zR_NS_fr (zdis_fr hfm598 rfl) hRNSm0
          have hRTRm598 := zR_TR_fr (zdis_fr hfm598 rfl) hRTRm0
          have hRWDm598 := zR_WD_fr (zdis_fr hfm598 rfl) hRWDm0
          have g600 := zwt_bd hIm598 hc0
          have s601 := hRNSm598 a0 hc0
          have s602 := hRTRm598 a0 hc0
          have r603 : 0 ≤ (m598 a0 45) ∧ (m598 a0 45) ≤ 96 := zi_rd hIm598 hc0 zb_28_45
          have w604 := zu_w32_id (z := (m598 a0 45) - 1) (by omega) (by omega)
          generalize hmm605 : zu_up m598 a0 45 (zu_w32 ((m598 a0 45) - 1)) = m605
          have hIm605 := zi_up hmm605 hIm598 hc0 zb_28_45 (by omega) (by omega)
          have hFm605 := zfr_up hmm605 hFm598 hc0 rfl
          have hRKNm605 := zR_KN_fr (zdis_fr (zfr_up hmm605 (zfr_rf [(28, 46)] _) hc0 rfl) rfl) hRKNm598
          have hRNSm605 := zR_NS_fr (zdis_fr (zfr_up hmm605 (zfr_rf [(28, 46)] _) hc0 rfl) rfl) hRNSm598
          have hRTRm605 := zR_TR_fr (zdis_fr (zfr_up hmm605 (zfr_rf [(28, 46)] _) hc0 rfl) rfl) hRTRm598
          have hRWDm605 := zR_WD_fr (zdis_fr (zfr_up hmm605 (zfr_rf [(28, 46)] _) hc0 rfl) rfl) hRWDm598
          have g606 := zwt_pop hmm605 hc0 (by omega) (by omega)
          have g607 := zwt_bd hIm605 hc0
          have r608 : 0 ≤ (m605 a0 47) ∧ (m605 a0 47) ≤ 8 := zi_rd hIm605 hc0 zb_28_47
          have e609 : (m605 a0 47) = (m0 a0 47) := (Eq.trans (zs_ne hmm605 (Or.inr (by decide))) (zfr_ap hfm598 hc0 rfl))
          have w610 := zu_w32_id (z := (m605 a0 47) - 1) (by omega) (by omega)
          generalize hmm611 : zu_up m605 a0 47 (zu_w32 ((m605 a0 47) - 1)) = m611
          have hIm611 := zi_up hmm611 hIm605 hc0 zb_28_47 (by omega) (by omega)
          have hFm611 := zfr_up hmm611 hFm605 hc0 rfl
          have g612 := zwt_fr (zdis_fr (zfr_up hmm611 (zfr_rf [(28, 48)] _) hc0 rfl) rfl)
          have hRKNm611 := zR_KN_fr (zdis_fr (zfr_up hmm611 (zfr_rf [(28, 48)] _) hc0 rfl) rfl) hRKNm605
          have hRNSm611 := zR_NS_fr (zdis_fr (zfr_up hmm611 (zfr_rf [(28, 48)] _) hc0 rfl) rfl) hRNSm605
          have hRTRm611 := zR_TR_fr (zdis_fr (zfr_up hmm611 (zfr_rf [(28, 48)] _) hc0 rfl) rfl) hRTRm605
          have hRWDm611 := zR_WD_fr (zdis_fr (zfr_up hmm611 (zfr_rf [(28, 48)] _) hc0 rfl) rfl) hRWDm605
          refine zw_bd (zw_mono (zk_89 n hIm611 hc0 hRNSm611 hRWDm611) (fun v614 m613 hqm613 => ?_))
          obtain ⟨hIm613, hfm613, hvm613⟩ := hqm613
          have hFm613 := zfr_tr hFm611 hfm613 rfl
          obtain ⟨hRNSm613, hRTRm613, hRWDm613, hvm613⟩ := hvm613
          have g615 := zwt_fr (zdis_fr hfm613 rfl)
          have hRKNm613 := zR_KN_fr (zdis_fr hfm613 rfl) hRKNm611
          have g616 := zwt_bd hIm613 hc0
          have s617 := hRNSm613 a0 hc0
          have s618 := hRTRm613 a0 hc0
          refine zw_b (by omega) ?_
          have r619 : 0 ≤ (m613 a0 7) ∧ (m613 a0 7) ≤ 700 := zi_rd hIm613 hc0 zb_28_7
          have r620 : 0 ≤ (m613 a0 8) ∧ (m613 a0 8) ≤ 6 := zi_rd hIm613 hc0 zb_28_8
          have r621 : 0 ≤ (m613 a0 21) ∧ (m613 a0 21) ≤ 64 := zi_rd hIm613 hc0 zb_28_21
          have r622 : 0 ≤ (m613 a0 48) ∧ (m613 a0 48) ≤ 64 := zi_rd hIm613 hc0 zb_28_48
          have e623 : (m613 a0 48) = (m0 a0 48) := (Eq.trans (zfr_ap hfm613 hc0 rfl) (Eq.trans (zs_ne hmm611 (Or.inr (by decide))) (Eq.trans (zs_ne hmm605 (Or.inr (by decide))) (zfr_ap hfm598 hc0 rfl))))
          have r624 : 0 ≤ (m613 a0 46) ∧ (m613 a0 46) ≤ 96 := zi_rd hIm613 hc0 zb_28_46
          have r625 : 0 ≤ (m613 a0 49) ∧ (m613 a0 49) ≤ 1 := zi_rd hIm613 hc0 zb_28_49
          have e626 : (m613 a0 49) = (m0 a0 49) := (Eq.trans (zfr_ap hfm613 hc0 rfl) (Eq.trans (zs_ne hmm611 (Or.inr (by decide))) (Eq.trans (zs_ne hmm605 (Or.inr (by decide))) (zfr_ap hfm598 hc0 rfl))))
          have r627 : 0 ≤ (m613 a0 45) ∧ (m613 a0 45) ≤ 96 := zi_rd hIm613 hc0 zb_28_45
          have e628 : (m613 a0 45) = (zu_w32 ((m598 a0 45) - 1)) := (Eq.trans (zfr_ap hfm613 hc0 rfl) (Eq.trans (zs_ne hmm611 (Or.inr (by decide))) (zs_eq hmm605)))
          have r629 : 0 ≤ (m613 a0 47) ∧ (m613 a0 47) ≤ 8 := zi_rd hIm613 hc0 zb_28_47
          have e630 : (m613 a0 47) = (zu_w32 ((m605 a0 47) - 1)) := (Eq.trans (zfr_ap hfm613 hc0 rfl) (zs_eq hmm611))
          exact zw_some ⟨hIm613, hFm613, hRKNm613, hRNSm613, hRTRm613, hRWDm613, ⟨by omega, by omega⟩, by omega, by omega, by omega, by omega, by omega, by omega⟩
set_option maxHeartbeats 4000000 in
theorem zk_127 (n : Nat) {a0 a1 : Int} {m0 : zu_m} (hIm0 : zi_I m0) (hc0 : zcls a0 = 28) (ha1 : 0 ≤ a1 ∧ a1 ≤ 3)    (hRKNm0 : zR_KN m0) : zw (zu_call (zt_T n) 127 [(40, a0), (0, a1)] m0) (fun v m => zi_I m ∧ zfr [(28, 54), (123, 0)] m0 m ∧ zR_KN m ∧ ((-9223372036854775808) ≤ v ∧ v ≤ 9223372036854775807)) := by
  sorry
set_option maxHeartbeats 4000000 in
theorem zk_139 (n : Nat) {a0 a1 a2 : Int} {m0 : zu_m} (hIm0 : zi_I m0) (hc0 : zcls a0 = 28) (ha1 : 0 ≤ a1 ∧ a1 ≤ 1) (ha2 : 0 ≤ a2 ∧ a2 ≤ 3)     : zw (zu_call (zt_T n) 139 [(40, a0), (0, a1), (0, a2)] m0) (fun v m => zi_I m ∧ zfr [(126, 0)] m0 m ∧ True) := by
  sorry
set_option maxHeartbeats 4000000 in
theorem zl_143 (n : Nat) {a0 a1 a2 : Int} {m0 : zu_m} (hc0 : zcls a0 = 28)   : ∀ k : Nat, (∀ (x3 x4 : Int) (mh : zu_m), zi_I mh → zfr [(28, 3)] m0 mh → (0 ≤ a1 ∧ a1 ≤ 47) → (1 ≤ a2 ∧ a2 ≤ 1) → ((-2147483648) ≤ x3 ∧ x3 ≤ 2147483647) → (0 ≤ x4 ∧ x4 ≤ 16) → (0 ≤ mh a0 2 ∧ mh a0 2 ≤ 0) → (16 - x4) * 1 + 5 < (k : Int) → zw (zu_ex (zt_T n) 143 62 [(40, a0), (0, a1), (0, a2), (0, x3), (0, x4)] [] mh) (fun v m => zi_I m ∧ zfr [(28, 3)] m0 m ∧ ((-2147483648) ≤ v ∧ v ≤ 2147483647) ∧ (0 ≤ m a0 2 ∧ m a0 2 ≤ 2))) ∧ (∀ (x3 x4 : Int) (mh : zu_m), zi_I mh → zfr [(28, 3)] m0 mh → (0 ≤ a1 ∧ a1 ≤ 47) → (3 ≤ a2 ∧ a2 ≤ 3) → ((-2147483648) ≤ x3 ∧ x3 ≤ 2147483647) → (0 ≤ x4 ∧ x4 ≤ 4) → (0 ≤ mh a0 2 ∧ mh a0 2 ≤ 0) → (4 - x4) * 1 + 0 < (k : Int) → zw (zu_ex (zt_T n) 143 133 [(40, a0), (0, a1), (0, a2), (0, x3), (0, x4)] [] mh) (fun v m => zi_I m ∧ zfr [(28, 3)] m0 m ∧ ((-2147483648) ≤ v ∧ v ≤ 2147483647) ∧ (0 ≤ m a0 2 ∧ m a0 2 ≤ 2))) := by
  intro k
  induction k with
  | zero => exact ⟨fun x3 x4 mh hImh hFmh hba1 hba2 hbx3 hbx4 hg4 hM => by exfalso; omega, fun x3 x4 mh hImh hFmh hba1 hba2 hbx3 hbx4 hg4 hM => by exfalso; omega⟩
  | succ k ih =>
    refine ⟨?_, ?_⟩
    · intro x3 x4 mh hImh hFmh hba1 hba2 hbx3 hbx4 hg4 hM
      refine zw_eq (zu_rega_at (zt_T n) (zm_143 n) (zdp_143 n) _ _ _ _ _ _ (zr_143_62 n _ _ a0 a1 a2 x3 x4 mh)) ?_
      have b1 : 0 ≤ (0 : Int) ∧ (0 : Int) < 2 := by omega
      refine zw_if b1 ?_
      have r2 : 0 ≤ (mh 216 0) ∧ (mh 216 0) ≤ 16 := zi_rdr (m := 2) (r0 := 0) (r1 := 0) hImh zq_216 (by omega) (by decide +kernel)
      refine zw_ite (fun h3 => ?_) (fun h3 => ?_)
      · exact zw_some ⟨hImh, hFmh, ⟨by omega, by omega⟩, ⟨by omega, by omega⟩⟩
      · have b4 : 0 ≤ x4 ∧ x4 < 36 := by omega
        refine zw_if b4 ?_
        have r5 : (-3) ≤ (mh 215 x4) ∧ (mh 215 x4) ≤ 3 := zi_rd hImh zq_215 (zb_124 _)
        refine zw_ite (fun h6 => ?_) (fun h6 => ?_)
        · have w7 := zu_w32_id (z := x3 + 0) (by omega) (by omega)
          have w8 := zu_w32_id (z := x4 + 1) (by omega) (by omega)
          have hM : (16 - (zu_w32 (x4 + 1))) * 1 + 5 < (k : Int) := by omega
          exact ih.1 (zu_w32 (x3 + 0)) (zu_w32 (x4 + 1)) mh hImh hFmh ⟨by omega, by omega⟩ ⟨by omega, by omega⟩ ⟨by omega, by omega⟩ ⟨by omega, by omega⟩ ⟨by omega, by omega⟩ hM
        · have b9 : 0 ≤ x4 ∧ x4 < 36 := by omega
          refine zw_if b9 ?_
          have r10 : 0 ≤ (mh 197 x4) ∧ (mh 197 x4) ≤ 47 := zi_rd hImh zq_197 (zb_106 _)
          refine zw_ite (fun h11 => ?_) (fun h11 => ?_)
          · have w12 := zu_w32_id (z := x3 + 0) (by omega) (by omega)
            have w13 := zu_w32_id (z := x4 + 1) (by omega) (by omega)
            have hM : (16 - (zu_w32 (x4 + 1))) * 1 + 5 < (k : Int) := by omega
            exact ih.1 (zu_w32 (x3 + 0)) (zu_w32 (x4 + 1)) mh hImh hFmh ⟨by omega, by omega⟩ ⟨by omega, by omega⟩ ⟨by omega, by omega⟩ ⟨by omega, by omega⟩ ⟨by omega, by omega⟩ hM
          · have w14 := zu_w32_rg (x3 + 1)
            have w15 := zu_w32_id (z := x4 + 1) (by omega) (by omega)
            have hM : (16 - (zu_w32 (x4 + 1))) * 1 + 5 < (k : Int) := by omega
            exact ih.1 (zu_w32 (x3 + 1)) (zu_w32 (x4 + 1)) mh hImh hFmh ⟨by omega, by omega⟩ ⟨by omega, by omega⟩ ⟨by omega, by omega⟩ ⟨by omega, by omega⟩ ⟨by omega, by omega⟩ hM
    · intro x3 x4 mh hImh hFmh hba1 hba2 hbx3 hbx4 hg4 hM
      refine zw_eq (zu_rega_at (zt_T n) (zm_143 n) (zdp_143 n) _ _ _ _ _ _ (zr_143_133 n _ _ a0 a1 a2 x3 x4 mh)) ?_
      have r16 : 0 ≤ (mh a0 15) ∧ (mh a0 15) ≤ 4 := zi_rd hImh hc0 zb_28_15
      refine zw_ite (fun h17 => ?_) (fun h17 => ?_)
      · exact zw_some ⟨hImh, hFmh, ⟨by omega, by omega⟩, ⟨by omega, by omega⟩⟩
      · have b18 : 0 ≤ x4 ∧ x4 < 8 := by omega
        refine zw_if b18 ?_
        have r19 : 0 ≤ (mh 217 x4) ∧ (mh 217 x4) ≤ 47 := zi_rd hImh zq_217 (zb_126 _)
        refine zw_ite (fun h20 => ?_) (fun h20 => ?_)
        · have w21 := zu_w32_id (z := x3 + 0) (by omega) (by omega)
          have w22 := zu_w32_id (z := x4 + 1) (by omega) (by omega)
          have hM : (4 - (zu_w32 (x4 + 1))) * 1 + 0 < (k : Int) := by omega
          exact ih.2 (zu_w32 (x3 + 0)) (zu_w32 (x4 + 1)) mh hImh hFmh ⟨by omega, by omega⟩ ⟨by omega, by omega⟩ ⟨by omega, by omega⟩ ⟨by omega, by omega⟩ ⟨by omega, by omega⟩ hM
        · have w23 := zu_w32_rg (x3 + 1)
          have w24 := zu_w32_id (z := x4 + 1) (by omega) (by omega)
          have hM : (4 - (zu_w32 (x4 + 1))) * 1 + 0 < (k : Int) := by omega
          exact ih.2 (zu_w32 (x3 + 1)) (zu_w32 (x4 + 1)) mh hImh hFmh ⟨by omega, by omega⟩ ⟨by omega, by omega⟩ ⟨by omega, by omega⟩ ⟨by omega, by omega⟩ ⟨by omega, by omega⟩ hM
set_option maxHeartbeats 4000000 in
theorem zk_143 (n : Nat) {a0 a1 a2 : Int} {m0 : zu_m} (hIm0 : zi_I m0) (hc0 : zcls a0 = 28) (ha1 : (-2147483648) ≤ a1 ∧ a1 ≤ 2147483647) (ha2 : (-2147483648) ≤ a2 ∧ a2 ≤ 2147483647)     : zw (zu_call (zt_T n) 143 [(40, a0), (0, a1), (0, a2)] m0) (fun v m => zi_I m ∧ zfr [(28, 3)] m0 m ∧ ((-2147483648) ≤ v ∧ v ≤ 2147483647) ∧ (0 ≤ m a0 2 ∧ m a0 2 ≤ 2)) := by
  have hFm0 : zfr [(28, 3)] m0 m0 := zfr_rf _ _
  refine zw_eq (zu_call_at (zt_T n) (zm_143 n) (zdp_143 n) _ _ _ _ _ rfl (zr_143_0 n _ _ a0 a1 a2 m0)) ?_
  generalize hmm25 : zu_up m0 a0 2 0 = m25
  have hIm25 := zi_up hmm25 hIm0 hc0 zb_28_2 (by omega) (by omega)
  have hFm25 := zfr_up hmm25 hFm0 hc0 rfl
  refine zw_bd (zw_eq (zu_call_at (zt_T n) (zm_123 n) (zdp_123 n) _ _ _ _ _ rfl (zr_123_0 n _ _ a0 a1 m25)) ?_)
  refine zw_ite (fun h26 => ?_) (fun h26 => ?_)
  · refine zw_b (by omega) ?_
    refine zw_some ?_
    refine zw_ite (fun h27 => ?_) (fun h27 => ?_)
    · exfalso; omega
    · refine zw_bd (zw_eq (zu_call_at (zt_T n) (zm_142 n) (zdp_142 n) _ _ _ _ _ rfl (zr_142_0 n _ _ a0 1 m25)) ?_)
      generalize hmm28 : zu_up m25 a0 2 1 = m28
      have hIm28 := zi_up hmm28 hIm25 hc0 zb_28_2 (by omega) (by omega)
      have hFm28 := zfr_up hmm28 hFm25 hc0 rfl
      refine zw_some ?_
      have r29 : (-2147483648) ≤ (m28 a0 2) ∧ (m28 a0 2) ≤ 2147483647 := zi_rd hIm28 hc0 zb_28_2
      have e30 : (m28 a0 2) = 1 := (zs_eq hmm28)
      exact zw_some ⟨hIm28, hFm28, ⟨by omega, by omega⟩, ⟨by omega, by omega⟩⟩
  · refine zw_bd (zw_eq (zu_call_at (zt_T n) (zm_36 n) (zdp_36 n) _ _ _ _ _ rfl (zr_36_0 n _ _ a0 m25)) ?_)
    have r31 : 1 ≤ (m25 a0 12) ∧ (m25 a0 12) ≤ 8 := zi_rd hIm25 hc0 zb_28_12
    have r32 : 1 ≤ (m25 a0 13) ∧ (m25 a0 13) ≤ 6 := zi_rd hIm25 hc0 zb_28_13
    have p33 := zmul_bd (x := (m25 a0 12)) (y := (m25 a0 13)) (a := 1) (b := 1) (A := 8) (B := 6) (by omega) (by omega) (by omega) (by omega) (by omega) (by omega)
    have w34 := zu_w32_id (z := (m25 a0 12) * (m25 a0 13)) (by omega) (by omega)
    refine zw_some ?_
    refine zw_ite (fun h35 => ?_) (fun h35 => ?_)
    · refine zw_b (by omega) ?_
      refine zw_some ?_
      refine zw_ite (fun h36 => ?_) (fun h36 => ?_)
      · exfalso; omega
      · refine zw_bd (zw_eq (zu_call_at (zt_T n) (zm_142 n) (zdp_142 n) _ _ _ _ _ rfl (zr_142_0 n _ _ a0 1 m25)) ?_)
        generalize hmm37 : zu_up m25 a0 2 1 = m37
        have hIm37 := zi_up hmm37 hIm25 hc0 zb_28_2 (by omega) (by omega)
        have hFm37 := zfr_up hmm37 hFm25 hc0 rfl
        refine zw_some ?_
        have r38 : (-2147483648) ≤ (m37 a0 2) ∧ (m37 a0 2) ≤ 2147483647 := zi_rd hIm37 hc0 zb_28_2
        have e39 : (m37 a0 2) = 1 := (zs_eq hmm37)
        exact zw_some ⟨hIm37, hFm37, ⟨by omega, by omega⟩, ⟨by omega, by omega⟩⟩
    · refine zw_b (by omega) ?_
      refine zw_some ?_
      refine zw_ite (fun h40 => ?_) (fun h40 => ?_)
      · refine zw_ite (fun h41 => ?_) (fun h41 => ?_)
        · have b42 : 0 ≤ a1 ∧ a1 < 96 := by omega
          refine zw_if b42 ?_
          have r43 : (-2147483648) ≤ (m25 195 a1) ∧ (m25 195 a1) ≤ 2147483647 := zi_rd hIm25 zq_195 (zb_104 _)
          have r44 : (-2147483648) ≤ (m25 a0 2) ∧ (m25 a0 2) ≤ 2147483647 := zi_rd hIm25 hc0 zb_28_2
          have e45 : (m25 a0 2) = 0 := (zs_eq hmm25)
          exact zw_some ⟨hIm25, hFm25, ⟨by omega, by omega⟩, ⟨by omega, by omega⟩⟩
        · refine zw_ite (fun h46 => ?_) (fun h46 => ?_)
          · have r47 : (-2147483648) ≤ (m25 a0 2) ∧ (m25 a0 2) ≤ 2147483647 := zi_rd hIm25 hc0 zb_28_2
            have e48 : (m25 a0 2) = 0 := (zs_eq hmm25)
            have hM : (16 - 0) * 1 + 5 < ((22 : Nat) : Int) := by omega
            exact (zl_143 n (m0 := m0) hc0 22).1 0 0 m25 hIm25 hFm25 ⟨by omega, by omega⟩ ⟨by omega, by omega⟩ ⟨by omega, by omega⟩ ⟨by omega, by omega⟩ ⟨by omega, by omega⟩ hM
          · refine zw_ite (fun h49 => ?_) (fun h49 => ?_)
            · have b50 : 0 ≤ (0 : Int) ∧ (0 : Int) < 2 := by omega
              refine zw_if b50 ?_
              have r51 : (-9223372036854775808) ≤ (m25 220 0) ∧ (m25 220 0) ≤ 9223372036854775807 := zi_rd hIm25 zq_220 (zb_129 _)
              refine zw_bd (zw_eq (zu_call_at (zt_T n) (zm_84 n) (zdp_84 n) _ _ _ _ _ rfl (zr_84_0 n _ _ (m25 220 0) a1 m25)) ?_)
              have b52 := zu_shr_rg (m25 220 0) a1
              have b53 := zu_i64_rg 3 (zu_shr (m25 220 0) a1) 1
              have c54 := zu_lcmp_sp (zu_i64 3 (zu_shr (m25 220 0) a1) 1) 1
              refine zw_ite (fun h55 => ?_) (fun h55 => ?_)
              · refine zw_b (by omega) ?_
                refine zw_some ?_
                refine zw_ite (fun h56 => ?_) (fun h56 => ?_)
                · have r57 : (-2147483648) ≤ (m25 a0 2) ∧ (m25 a0 2) ≤ 2147483647 := zi_rd hIm25 hc0 zb_28_2
                  have e58 : (m25 a0 2) = 0 := (zs_eq hmm25)
                  exact zw_some ⟨hIm25, hFm25, ⟨by omega, by omega⟩, ⟨by omega, by omega⟩⟩
                · exfalso; omega
              · refine zw_b (by omega) ?_
                refine zw_some ?_
                refine zw_ite (fun h59 => ?_) (fun h59 => ?_)
                · exfalso; omega
                · have r60 : (-2147483648) ≤ (m25 a0 2) ∧ (m25 a0 2) ≤ 2147483647 := zi_rd hIm25 hc0 zb_28_2
                  have e61 : (m25 a0 2) = 0 := (zs_eq hmm25)
                  exact zw_some ⟨hIm25, hFm25, ⟨by omega, by omega⟩, ⟨by omega, by omega⟩⟩
            · refine zw_ite (fun h62 => ?_) (fun h62 => ?_)
              · have r63 : (-2147483648) ≤ (m25 a0 2) ∧ (m25 a0 2) ≤ 2147483647 := zi_rd hIm25 hc0 zb_28_2
                have e64 : (m25 a0 2) = 0 := (zs_eq hmm25)
                have hM : (4 - 0) * 1 + 0 < ((22 : Nat) : Int) := by omega
                exact (zl_143 n (m0 := m0) hc0 22).2 0 0 m25 hIm25 hFm25 ⟨by omega, by omega⟩ ⟨by omega, by omega⟩ ⟨by omega, by omega⟩ ⟨by omega, by omega⟩ ⟨by omega, by omega⟩ hM
              · refine zw_bd (zw_eq (zu_call_at (zt_T n) (zm_142 n) (zdp_142 n) _ _ _ _ _ rfl (zr_142_0 n _ _ a0 2 m25)) ?_)
                generalize hmm65 : zu_up m25 a0 2 2 = m65
                have hIm65 := zi_up hmm65 hIm25 hc0 zb_28_2 (by omega) (by omega)
                have hFm65 := zfr_up hmm65 hFm25 hc0 rfl
                refine zw_some ?_
                have r66 : (-2147483648) ≤ (m65 a0 2) ∧ (m65 a0 2) ≤ 2147483647 := zi_rd hIm65 hc0 zb_28_2
                have e67 : (m65 a0 2) = 2 := (zs_eq hmm65)
                exact zw_some ⟨hIm65, hFm65, ⟨by omega, by omega⟩, ⟨by omega, by omega⟩⟩
      · exfalso; omega

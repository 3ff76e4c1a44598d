set_option maxHeartbeats 4000000 in
theorem zk_61 (n : Nat) {a0 a1 a2 a3 a4 a5 : Int} {m0 : zu_m} (hIm0 : zi_I m0) (hc0 : zcls a0 = 2) (ha1 : (-2147483648) ≤ a1 ∧ a1 ≤ 2147483647) (ha2 : (-2147483648) ≤ a2 ∧ a2 ≤ 2147483647) (ha3 : (-2147483648) ≤ a3 ∧ a3 ≤ 2147483647) (ha4 : (-2147483648) ≤ a4 ∧ a4 ≤ 2147483647) (ha5 : (-2147483648) ≤ a5 ∧ a5 ≤ 2147483647)    (hRE164m0 : zE m0 164 50) (hRE89m0 : zE m0 89 50) (hRG5m0 : zgeo m0 50) (hRK54m0 : zR_K54 m0) : zw (zu_call (zt_T n) 61 [(5, a0), (0, a1), (0, a2), (0, a3), (0, a4), (0, a5)] m0) (fun v m => zi_I m ∧ zfr [(24, 7), (24, 14), (24, 15), (24, 16), (25, 3), (25, 5), (25, 9), (25, 10), (25, 11), (25, 12), (26, 1), (26, 2), (26, 3), (26, 4), (27, 1), (27, 2), (27, 3), (27, 4), (27, 5), (27, 6), (27, 7), (27, 8), (56, 0), (59, 1), (59, 2), (59, 3), (59, 4), (59, 5), (59, 6), (59, 7), (85, 0), (86, 0), (87, 0), (88, 0), (89, 0), (90, 0), (91, 0), (92, 0), (97, 0), (98, 0)] m0 m ∧ zE m 164 50 ∧ zE m 89 50 ∧ zgeo m 50 ∧ zR_K54 m ∧ ((-2147483648) ≤ v ∧ v ≤ 2147483647)) := by
  have hFm0 : zfr [(24, 7), (24, 14), (24, 15), (24, 16), (25, 3), (25, 5), (25, 9), (25, 10), (25, 11), (25, 12), (26, 1), (26, 2), (26, 3), (26, 4), (27, 1), (27, 2), (27, 3), (27, 4), (27, 5), (27, 6), (27, 7), (27, 8), (56, 0), (59, 1), (59, 2), (59, 3), (59, 4), (59, 5), (59, 6), (59, 7), (85, 0), (86, 0), (87, 0), (88, 0), (89, 0), (90, 0), (91, 0), (92, 0), (97, 0), (98, 0)] m0 m0 := zfr_rf _ _
  refine zw_eq (zu_call_at (zt_T n) (zm_61 n) (zdp_61 n) _ _ _ _ _ rfl (zr_61_0 n _ _ a0 a1 a2 a3 a4 a5 m0)) ?_
  refine zw_ite (fun h1 => ?_) (fun h1 => ?_)
  · exact zw_some ⟨hIm0, hFm0, hRE164m0, hRE89m0, hRG5m0, hRK54m0, ⟨by omega, by omega⟩⟩
  · refine zw_ite (fun h2 => ?_) (fun h2 => ?_)
    · exact zw_some ⟨hIm0, hFm0, hRE164m0, hRE89m0, hRG5m0, hRK54m0, ⟨by omega, by omega⟩⟩
    · refine zw_bd (zw_eq (zu_call_at (zt_T n) (zm_51 n) (zdp_51 n) _ _ _ _ _ rfl (zr_51_0 n _ _ a2 m0)) ?_)
      refine zw_ite (fun h3 => ?_) (fun h3 => ?_)
      · refine zw_b (by omega) ?_
        refine zw_some ?_
        refine zw_ite (fun h4 => ?_) (fun h4 => ?_)
        · exact zw_some ⟨hIm0, hFm0, hRE164m0, hRE89m0, hRG5m0, hRK54m0, ⟨by omega, by omega⟩⟩
        · exfalso; omega
      · refine zw_ite (fun h5 => ?_) (fun h5 => ?_)
        · refine zw_b (by omega) ?_
          refine zw_some ?_
          refine zw_ite (fun h6 => ?_) (fun h6 => ?_)
          · exact zw_some ⟨hIm0, hFm0, hRE164m0, hRE89m0, hRG5m0, hRK54m0, ⟨by omega, by omega⟩⟩
          · exfalso; omega
        · refine zw_b (by omega) ?_
          refine zw_some ?_
          refine zw_ite (fun h7 => ?_) (fun h7 => ?_)
          · exfalso; omega
          · refine zw_bd (zw_eq (zu_call_at (zt_T n) (zm_52 n) (zdp_52 n) _ _ _ _ _ rfl (zr_52_0 n _ _ a3 m0)) ?_)
            refine zw_ite (fun h8 => ?_) (fun h8 => ?_)
            · refine zw_b (by omega) ?_
              refine zw_some ?_
              refine zw_ite (fun h9 => ?_) (fun h9 => ?_)
              · exact zw_some ⟨hIm0, hFm0, hRE164m0, hRE89m0, hRG5m0, hRK54m0, ⟨by omega, by omega⟩⟩
              · exfalso; omega
            · refine zw_ite (fun h10 => ?_) (fun h10 => ?_)
              · refine zw_b (by omega) ?_
                refine zw_some ?_
                refine zw_ite (fun h11 => ?_) (fun h11 => ?_)
                · exact zw_some ⟨hIm0, hFm0, hRE164m0, hRE89m0, hRG5m0, hRK54m0, ⟨by omega, by omega⟩⟩
                · exfalso; omega
              · refine zw_b (by omega) ?_
                refine zw_some ?_
                refine zw_ite (fun h12 => ?_) (fun h12 => ?_)
                · exfalso; omega
                · refine zw_ite (fun h13 => ?_) (fun h13 => ?_)
                  · exact zw_some ⟨hIm0, hFm0, hRE164m0, hRE89m0, hRG5m0, hRK54m0, ⟨by omega, by omega⟩⟩
                  · refine zw_ite (fun h14 => ?_) (fun h14 => ?_)
                    · exact zw_some ⟨hIm0, hFm0, hRE164m0, hRE89m0, hRG5m0, hRK54m0, ⟨by omega, by omega⟩⟩
                    · refine zw_ite (fun h15 => ?_) (fun h15 => ?_)
                      · exact zw_some ⟨hIm0, hFm0, hRE164m0, hRE89m0, hRG5m0, hRK54m0, ⟨by omega, by omega⟩⟩
                      · refine zw_ite (fun h16 => ?_) (fun h16 => ?_)
                        · exact zw_some ⟨hIm0, hFm0, hRE164m0, hRE89m0, hRG5m0, hRK54m0, ⟨by omega, by omega⟩⟩
                        · have r17 : 0 ≤ (m0 89 4) ∧ (m0 89 4) ≤ 4 := zi_rd hIm0 zq_89 zb_16_4
                          refine zw_ite (fun h18 => ?_) (fun h18 => ?_)
                          · have r19 : 1 ≤ (m0 50 2) ∧ (m0 50 2) ≤ 48 := zi_rd hIm0 zq_50 zb_11_2
                            refine zw_ite (fun h20 => ?_) (fun h20 => ?_)
                            · refine zw_ite (fun h21 => ?_) (fun h21 => ?_)
                              · refine zw_bd (zw_mono (zk_285 n hIm0 zq_153 ⟨by omega, by omega⟩ ⟨by omega, by omega⟩ ⟨by omega, by omega⟩ ⟨by omega, by omega⟩ hRE164m0 hRE89m0 hRG5m0 hRK54m0) (fun v23 m22 hqm22 => ?_))
                                obtain ⟨hIm22, hfm22, hvm22⟩ := hqm22
                                have hFm22 := zfr_tr hFm0 hfm22 rfl
                                obtain ⟨hRE164m22, hRE89m22, hRG5m22, hRK54m22, hvm22⟩ := hvm22
                                refine zw_ite (fun h24 => ?_) (fun h24 => ?_)
                                · have w25 := zu_w32_id (z := a5 - 1) (by omega) (by omega)
                                  have b26 : 0 ≤ (zu_w32 (a5 - 1)) ∧ (zu_w32 (a5 - 1)) < 2 := by omega
                                  refine zw_if b26 ?_
                                  have r27 : 0 ≤ (m22 161 (zu_w32 (a5 - 1))) ∧ (m22 161 (zu_w32 (a5 - 1))) ≤ 47 := zi_rd hIm22 zq_161 (zb_92 _)
                                  exact zw_some ⟨hIm22, hFm22, hRE164m22, hRE89m22, hRG5m22, hRK54m22, ⟨by omega, by omega⟩⟩
                                · have r28 : (-2147483648) ≤ (m22 153 15) ∧ (m22 153 15) ≤ 2147483647 := zi_rd hIm22 zq_153 zb_24_15
                                  exact zw_some ⟨hIm22, hFm22, hRE164m22, hRE89m22, hRG5m22, hRK54m22, ⟨by omega, by omega⟩⟩
                              · exact zw_some ⟨hIm0, hFm0, hRE164m0, hRE89m0, hRG5m0, hRK54m0, ⟨by omega, by omega⟩⟩
                            · exact zw_some ⟨hIm0, hFm0, hRE164m0, hRE89m0, hRG5m0, hRK54m0, ⟨by omega, by omega⟩⟩
                          · exact zw_some ⟨hIm0, hFm0, hRE164m0, hRE89m0, hRG5m0, hRK54m0, ⟨by omega, by omega⟩⟩
set_option maxHeartbeats 4000000 in
theorem zk_64 (n : Nat) {a0 a1 : Int} {m0 : zu_m} (hIm0 : zi_I m0) (hc0 : zcls a0 = 2) (ha1 : (-2147483648) ≤ a1 ∧ a1 ≤ 2147483647)    (hRE89m0 : zE m0 89 50) (hRG5m0 : zgeo m0 50) (hRK54m0 : zR_K54 m0) : zw (zu_call (zt_T n) 64 [(5, a0), (0, a1)] m0) (fun v m => zi_I m ∧ zfr [(25, 3), (25, 5), (25, 9), (25, 10), (25, 11), (25, 12), (26, 1), (26, 2), (26, 3), (26, 4), (27, 1), (27, 2), (27, 3), (27, 4), (27, 5), (27, 6), (27, 7), (27, 8), (56, 0), (59, 1), (59, 2), (59, 3), (59, 4), (59, 5), (59, 6), (59, 7), (97, 0), (98, 0)] m0 m ∧ zE m 89 50 ∧ zgeo m 50 ∧ zR_K54 m ∧ ((-1) ≤ v ∧ v ≤ 2)) := by
  have hFm0 : zfr [(25, 3), (25, 5), (25, 9), (25, 10), (25, 11), (25, 12), (26, 1), (26, 2), (26, 3), (26, 4), (27, 1), (27, 2), (27, 3), (27, 4), (27, 5), (27, 6), (27, 7), (27, 8), (56, 0), (59, 1), (59, 2), (59, 3), (59, 4), (59, 5), (59, 6), (59, 7), (97, 0), (98, 0)] m0 m0 := zfr_rf _ _
  refine zw_eq (zu_call_at (zt_T n) (zm_64 n) (zdp_64 n) _ _ _ _ _ rfl (zr_64_0 n _ _ a0 a1 m0)) ?_
  refine zw_bd (zw_eq (zu_call_at (zt_T n) (zm_53 n) (zdp_53 n) _ _ _ _ _ rfl (zr_53_0 n _ _ a1 m0)) ?_)
  refine zw_ite (fun h1 => ?_) (fun h1 => ?_)
  · refine zw_b (by omega) ?_
    refine zw_some ?_
    refine zw_ite (fun h2 => ?_) (fun h2 => ?_)
    · exact zw_some ⟨hIm0, hFm0, hRE89m0, hRG5m0, hRK54m0, ⟨by omega, by omega⟩⟩
    · exfalso; omega
  · refine zw_ite (fun h3 => ?_) (fun h3 => ?_)
    · refine zw_b (by omega) ?_
      refine zw_some ?_
      refine zw_ite (fun h4 => ?_) (fun h4 => ?_)
      · exact zw_some ⟨hIm0, hFm0, hRE89m0, hRG5m0, hRK54m0, ⟨by omega, by omega⟩⟩
      · exfalso; omega
    · refine zw_b (by omega) ?_
      refine zw_some ?_
      refine zw_ite (fun h5 => ?_) (fun h5 => ?_)
      · exfalso; omega
      · refine zw_bd (zw_mono (zk_300 n hIm0 zq_153 ⟨by omega, by omega⟩ hRE89m0 hRG5m0 hRK54m0) (fun v7 m6 hqm6 => ?_))
        obtain ⟨hIm6, hfm6, hvm6⟩ := hqm6
        have hFm6 := zfr_tr hFm0 hfm6 rfl
        obtain ⟨hRE89m6, hRG5m6, hRK54m6, hvm6⟩ := hvm6
        exact zw_some ⟨hIm6, hFm6, hRE89m6, hRG5m6, hRK54m6, ⟨by omega, by omega⟩⟩
set_option maxHeartbeats 4000000 in
theorem zk_75 (n : Nat) {a0 a1 : Int} {m0 : zu_m} (hIm0 : zi_I m0) (hc0 : zcls a0 = 2) (ha1 : (-2147483648) ≤ a1 ∧ a1 ≤ 2147483647)    (hRE164m0 : zE m0 164 50) (hRE63m0 : zE m0 63 50) (hRG5m0 : zgeo m0 50) (hRK54m0 : zR_K54 m0) : zw (zu_call (zt_T n) 75 [(5, a0), (0, a1)] m0) (fun v m => zi_I m ∧ zfr [(25, 3), (25, 5), (25, 9), (25, 10), (25, 11), (25, 12), (26, 1), (26, 2), (26, 3), (26, 4), (27, 1), (27, 2), (27, 3), (27, 4), (27, 5), (27, 6), (27, 7), (27, 8), (56, 0), (59, 1), (59, 2), (59, 3), (59, 4), (59, 5), (59, 6), (59, 7), (80, 0), (97, 0), (98, 0)] m0 m ∧ zE m 164 50 ∧ zE m 63 50 ∧ zgeo m 50 ∧ zR_K54 m ∧ ((-2147483648) ≤ v ∧ v ≤ 2147483647)) := by
  have hFm0 : zfr [(25, 3), (25, 5), (25, 9), (25, 10), (25, 11), (25, 12), (26, 1), (26, 2), (26, 3), (26, 4), (27, 1), (27, 2), (27, 3), (27, 4), (27, 5), (27, 6), (27, 7), (27, 8), (56, 0), (59, 1), (59, 2), (59, 3), (59, 4), (59, 5), (59, 6), (59, 7), (80, 0), (97, 0), (98, 0)] m0 m0 := zfr_rf _ _
  refine zw_eq (zu_call_at (zt_T n) (zm_75 n) (zdp_75 n) _ _ _ _ _ rfl (zr_75_0 n _ _ a0 a1 m0)) ?_
  refine zw_bd (zw_eq (zu_call_at (zt_T n) (zm_211 n) (zdp_211 n) _ _ _ _ _ rfl (zr_211_0 n _ _ 89 a1 m0)) ?_)
  refine zw_ite (fun h1 => ?_) (fun h1 => ?_)
  · refine zw_b (by omega) ?_
    refine zw_some ?_
    refine zw_ite (fun h2 => ?_) (fun h2 => ?_)
    · exact zw_some ⟨hIm0, hFm0, hRE164m0, hRE63m0, hRG5m0, hRK54m0, ⟨by omega, by omega⟩⟩
    · exfalso; omega
  · have r3 : 0 ≤ (m0 89 4) ∧ (m0 89 4) ≤ 4 := zi_rd hIm0 zq_89 zb_16_4
    refine zw_ite (fun h4 => ?_) (fun h4 => ?_)
    · refine zw_b (by omega) ?_
      refine zw_some ?_
      refine zw_ite (fun h5 => ?_) (fun h5 => ?_)
      · exact zw_some ⟨hIm0, hFm0, hRE164m0, hRE63m0, hRG5m0, hRK54m0, ⟨by omega, by omega⟩⟩
      · exfalso; omega
    · refine zw_b (by omega) ?_
      refine zw_some ?_
      refine zw_ite (fun h6 => ?_) (fun h6 => ?_)
      · exfalso; omega
      · refine zw_bd (zw_mono (zk_301 n hIm0 zq_153 ⟨by omega, by omega⟩ hRE164m0 hRE63m0 hRG5m0 hRK54m0) (fun v8 m7 hqm7 => ?_))
        obtain ⟨hIm7, hfm7, hvm7⟩ := hqm7
        have hFm7 := zfr_tr hFm0 hfm7 rfl
        obtain ⟨hRE164m7, hRE63m7, hRG5m7, hRK54m7, hvm7⟩ := hvm7
        exact zw_some ⟨hIm7, hFm7, hRE164m7, hRE63m7, hRG5m7, hRK54m7, ⟨by omega, by omega⟩⟩
set_option maxHeartbeats 4000000 in
theorem zl_106 (n : Nat) {a0 a1 : Int} {m0 : zu_m} (hc0 : zcls a0 = 28)   : ∀ k : Nat, (∀ (x2 : Int) (mh : zu_m), zi_I mh → zfr [(28, 2), (28, 3), (28, 5), (28, 6), (28, 7), (28, 8), (28, 9), (28, 10), (28, 11), (28, 12), (28, 13), (28, 14), (28, 15), (28, 16), (28, 17), (28, 18), (28, 19), (28, 20), (28, 21), (28, 22), (28, 23), (28, 24), (28, 43), (28, 46), (28, 47), (28, 48), (28, 49), (28, 50), (28, 51), (28, 54), (28, 63), (28, 64), (28, 65), (28, 66), (28, 67), (28, 68), (28, 69), (28, 70), (28, 78), (28, 79), (28, 82), (28, 84), (102, 0), (103, 0), (104, 0), (105, 0), (106, 0), (107, 0), (108, 0), (109, 0), (110, 0), (111, 0), (112, 0), (113, 0), (114, 0), (115, 0), (116, 0), (117, 0), (118, 0), (119, 0), (120, 0), (121, 0), (122, 0), (123, 0), (124, 0), (125, 0), (126, 0), (127, 0), (128, 0), (129, 0), (130, 0), (131, 0)] m0 mh → (0 ≤ a1 ∧ a1 ≤ 700) → ((-2147483648) ≤ x2 ∧ x2 ≤ 2147483647) → (0 ≤ mh a0 1 ∧ mh a0 1 ≤ 0) → (0 ≤ mh a0 2 ∧ mh a0 2 ≤ 0) → ((mh a0 21) = (mh a0 48)) → ((mh a0 4) = 0) → (zR_CR mh) → (zR_KN mh) → (zR_LR mh) → (zR_LT mh) → (zR_NS mh) → (zR_TR mh) → (zR_WD mh) → (700 - (mh a0 7)) * 1 + 0 < (k : Int) → zw (zu_ex (zt_T n) 106 55 [(40, a0), (0, a1), (0, x2)] [] mh) (fun v m => zi_I m ∧ zfr [(28, 2), (28, 3), (28, 5), (28, 6), (28, 7), (28, 8), (28, 9), (28, 10), (28, 11), (28, 12), (28, 13), (28, 14), (28, 15), (28, 16), (28, 17), (28, 18), (28, 19), (28, 20), (28, 21), (28, 22), (28, 23), (28, 24), (28, 43), (28, 46), (28, 47), (28, 48), (28, 49), (28, 50), (28, 51), (28, 54), (28, 63), (28, 64), (28, 65), (28, 66), (28, 67), (28, 68), (28, 69), (28, 70), (28, 78), (28, 79), (28, 82), (28, 84), (102, 0), (103, 0), (104, 0), (105, 0), (106, 0), (107, 0), (108, 0), (109, 0), (110, 0), (111, 0), (112, 0), (113, 0), (114, 0), (115, 0), (116, 0), (117, 0), (118, 0), (119, 0), (120, 0), (121, 0), (122, 0), (123, 0), (124, 0), (125, 0), (126, 0), (127, 0), (128, 0), (129, 0), (130, 0), (131, 0)] m0 m ∧ zR_CR m ∧ zR_KN m ∧ zR_LT m ∧ zR_NS m ∧ zR_TR m ∧ zR_WD m ∧ ((-2147483648) ≤ v ∧ v ≤ 2147483647) ∧ (0 ≤ m a0 2 ∧ m a0 2 ≤ 0))) := by
  intro k
  induction k with
  | zero => exact fun x2 mh hImh hFmh hba1 hbx2 hg2 hg3 hH0 hH1 hRCRmh hRKNmh hRLRmh hRLTmh hRNSmh hRTRmh hRWDmh hM => by exfalso; omega
  | succ k ih =>
    intro x2 mh hImh hFmh hba1 hbx2 hg2 hg3 hH0 hH1 hRCRmh hRKNmh hRLRmh hRLTmh hRNSmh hRTRmh hRWDmh hM
    refine zw_eq (zu_rega_at (zt_T n) (zm_106 n) (zdp_106 n) _ _ _ _ _ _ (zr_106_55 n _ _ a0 a1 x2 mh)) ?_
    have r1 : 0 ≤ (mh a0 21) ∧ (mh a0 21) ≤ 64 := zi_rd hImh hc0 zb_28_21
    have r2 : 0 ≤ (mh a0 48) ∧ (mh a0 48) ≤ 64 := zi_rd hImh hc0 zb_28_48
    have r3 : (-2147483648) ≤ (mh a0 4) ∧ (mh a0 4) ≤ 2147483647 := zi_rd hImh hc0 zb_28_4
    have r4 : 0 ≤ (mh a0 7) ∧ (mh a0 7) ≤ 700 := zi_rd hImh hc0 zb_28_7
    have s5 := hRNSmh a0 hc0
    have s6 := hRTRmh a0 hc0
    have r7 : 0 ≤ (mh a0 8) ∧ (mh a0 8) ≤ 6 := zi_rd hImh hc0 zb_28_8
    refine zw_ite (fun h8 => ?_) (fun h8 => ?_)
    · refine zw_bd (zw_mono (zk_31 n hImh hc0 (by omega) hRCRmh hRKNmh hRLRmh) (fun v10 m9 hqm9 => ?_))
      obtain ⟨hIm9, hfm9, hvm9⟩ := hqm9
      have hFm9 := zfr_tr hFmh hfm9 rfl
      obtain ⟨hRC0m9, hRCRm9, hRKNm9, hRLTm9, hRRIm9, hRRUm9, hRSEm9, hRTEm9, hvm9⟩ := hvm9
      have hRNSm9 := zR_NS_fr (zdis_fr hfm9 rfl) hRNSmh
      have hRTRm9 := zR_TR_fr (zdis_fr hfm9 rfl) hRTRmh
      have hRWDm9 := zR_WD_fr (zdis_fr hfm9 rfl) hRWDmh
      have s11 := hRNSm9 a0 hc0
      have s12 := hRTRm9 a0 hc0
      have r13 : (-2147483648) ≤ (m9 a0 2) ∧ (m9 a0 2) ≤ 2147483647 := zi_rd hIm9 hc0 zb_28_2
      have e14 : (m9 a0 2) = (mh a0 2) := (zfr_ap hfm9 hc0 rfl)
      exact zw_some ⟨hIm9, hFm9, hRCRm9, hRKNm9, hRLTm9, hRNSm9, hRTRm9, hRWDm9, ⟨by omega, by omega⟩, ⟨by omega, by omega⟩⟩
    · refine zw_bd (zw_mono (zk_105 n hImh hc0 ⟨by omega, by omega⟩ (by omega) (by omega) hRCRmh hRKNmh hRLRmh hRLTmh hRNSmh hRTRmh hRWDmh) (fun v16 m15 hqm15 => ?_))
      obtain ⟨hIm15, hfm15, hvm15⟩ := hqm15
      have hFm15 := zfr_tr hFmh hfm15 rfl
      obtain ⟨hRCRm15, hRKNm15, hRLRm15, hRLTm15, hRNSm15, hRTRm15, hRWDm15, hvm15⟩ := hvm15
      have s17 := hRNSm15 a0 hc0
      have s18 := hRTRm15 a0 hc0
      refine zw_ite (fun h19 => ?_) (fun h19 => ?_)
      · have w20 := zu_w32_rg (x2 + 1)
        have r21 : (-2147483648) ≤ (m15 a0 2) ∧ (m15 a0 2) ≤ 2147483647 := zi_rd hIm15 hc0 zb_28_2
        have e22 : (m15 a0 2) = (mh a0 2) := (zfr_ap hfm15 hc0 rfl)
        have r23 : 0 ≤ (m15 a0 1) ∧ (m15 a0 1) ≤ 700 := zi_rd hIm15 hc0 zb_28_1
        have e24 : (m15 a0 1) = (mh a0 1) := (zfr_ap hfm15 hc0 rfl)
        have r25 : 0 ≤ (m15 a0 21) ∧ (m15 a0 21) ≤ 64 := zi_rd hIm15 hc0 zb_28_21
        have r26 : 0 ≤ (m15 a0 48) ∧ (m15 a0 48) ≤ 64 := zi_rd hIm15 hc0 zb_28_48
        have r27 : (-2147483648) ≤ (m15 a0 4) ∧ (m15 a0 4) ≤ 2147483647 := zi_rd hIm15 hc0 zb_28_4
        have r28 : 0 ≤ (m15 a0 7) ∧ (m15 a0 7) ≤ 700 := zi_rd hIm15 hc0 zb_28_7
        have hM : (700 - (m15 a0 7)) * 1 + 0 < (k : Int) := by omega
        exact ih (zu_w32 (x2 + 1)) m15 hIm15 hFm15 ⟨by omega, by omega⟩ ⟨by omega, by omega⟩ ⟨by omega, by omega⟩ ⟨by omega, by omega⟩ (by omega) (by omega) hRCRm15 hRKNm15 hRLRm15 hRLTm15 hRNSm15 hRTRm15 hRWDm15 hM
      · have r29 : (-2147483648) ≤ (m15 a0 2) ∧ (m15 a0 2) ≤ 2147483647 := zi_rd hIm15 hc0 zb_28_2
        have e30 : (m15 a0 2) = (mh a0 2) := (zfr_ap hfm15 hc0 rfl)
        exact zw_some ⟨hIm15, hFm15, hRCRm15, hRKNm15, hRLTm15, hRNSm15, hRTRm15, hRWDm15, ⟨by omega, by omega⟩, ⟨by omega, by omega⟩⟩
set_option maxHeartbeats 4000000 in
theorem zk_106 (n : Nat) {a0 a1 : Int} {m0 : zu_m} (hIm0 : zi_I m0) (hc0 : zcls a0 = 28) (ha1 : (-2147483648) ≤ a1 ∧ a1 ≤ 2147483647)    (hRCRm0 : zR_CR m0) (hRKNm0 : zR_KN m0) (hRLTm0 : zR_LT m0) (hRNSm0 : zR_NS m0) (hRTRm0 : zR_TR m0) (hRWDm0 : zR_WD m0) : zw (zu_call (zt_T n) 106 [(40, a0), (0, a1)] m0) (fun v m => zi_I m ∧ zfr [(28, 2), (28, 3), (28, 5), (28, 6), (28, 7), (28, 8), (28, 9), (28, 10), (28, 11), (28, 12), (28, 13), (28, 14), (28, 15), (28, 16), (28, 17), (28, 18), (28, 19), (28, 20), (28, 21), (28, 22), (28, 23), (28, 24), (28, 43), (28, 46), (28, 47), (28, 48), (28, 49), (28, 50), (28, 51), (28, 54), (28, 63), (28, 64), (28, 65), (28, 66), (28, 67), (28, 68), (28, 69), (28, 70), (28, 78), (28, 79), (28, 82), (28, 84), (102, 0), (103, 0), (104, 0), (105, 0), (106, 0), (107, 0), (108, 0), (109, 0), (110, 0), (111, 0), (112, 0), (113, 0), (114, 0), (115, 0), (116, 0), (117, 0), (118, 0), (119, 0), (120, 0), (121, 0), (122, 0), (123, 0), (124, 0), (125, 0), (126, 0), (127, 0), (128, 0), (129, 0), (130, 0), (131, 0)] m0 m ∧ zR_CR m ∧ zR_KN m ∧ zR_LT m ∧ zR_NS m ∧ zR_TR m ∧ zR_WD m ∧ ((-2147483648) ≤ v ∧ v ≤ 2147483647) ∧ (0 ≤ m a0 2 ∧ m a0 2 ≤ 0)) := by
  have hFm0 : zfr [(28, 2), (28, 3), (28, 5), (28, 6), (28, 7), (28, 8), (28, 9), (28, 10), (28, 11), (28, 12), (28, 13), (28, 14), (28, 15), (28, 16), (28, 17), (28, 18), (28, 19), (28, 20), (28, 21), (28, 22), (28, 23), (28, 24), (28, 43), (28, 46), (28, 47), (28, 48), (28, 49), (28, 50), (28, 51), (28, 54), (28, 63), (28, 64), (28, 65), (28, 66), (28, 67), (28, 68), (28, 69), (28, 70), (28, 78), (28, 79), (28, 82), (28, 84), (102, 0), (103, 0), (104, 0), (105, 0), (106, 0), (107, 0), (108, 0), (109, 0), (110, 0), (111, 0), (112, 0), (113, 0), (114, 0), (115, 0), (116, 0), (117, 0), (118, 0), (119, 0), (120, 0), (121, 0), (122, 0), (123, 0), (124, 0), (125, 0), (126, 0), (127, 0), (128, 0), (129, 0), (130, 0), (131, 0)] m0 m0 := zfr_rf _ _
  have s31 := hRNSm0 a0 hc0
  have s32 := hRTRm0 a0 hc0
  refine zw_eq (zu_call_at (zt_T n) (zm_106 n) (zdp_106 n) _ _ _ _ _ rfl (zr_106_0 n _ _ a0 a1 m0)) ?_
  generalize hmm33 : zu_up m0 a0 2 0 = m33
  have hIm33 := zi_up hmm33 hIm0 hc0 zb_28_2 (by omega) (by omega)
  have hFm33 := zfr_up hmm33 hFm0 hc0 rfl
  have hRCRm33 := zR_CR_fr (zdis_fr (zfr_up hmm33 (zfr_rf [(28, 3)] _) hc0 rfl) rfl) hRCRm0
  have hRKNm33 := zR_KN_fr (zdis_fr (zfr_up hmm33 (zfr_rf [(28, 3)] _) hc0 rfl) rfl) hRKNm0
  have hRLTm33 := zR_LT_fr (zdis_fr (zfr_up hmm33 (zfr_rf [(28, 3)] _) hc0 rfl) rfl) hRLTm0
  have hRNSm33 := zR_NS_fr (zdis_fr (zfr_up hmm33 (zfr_rf [(28, 3)] _) hc0 rfl) rfl) hRNSm0
  have hRTRm33 := zR_TR_fr (zdis_fr (zfr_up hmm33 (zfr_rf [(28, 3)] _) hc0 rfl) rfl) hRTRm0
  have hRWDm33 := zR_WD_fr (zdis_fr (zfr_up hmm33 (zfr_rf [(28, 3)] _) hc0 rfl) rfl) hRWDm0
  refine zw_ite (fun h34 => ?_) (fun h34 => ?_)
  · have r35 : (-2147483648) ≤ (m33 a0 2) ∧ (m33 a0 2) ≤ 2147483647 := zi_rd hIm33 hc0 zb_28_2
    have e36 : (m33 a0 2) = 0 := (zs_eq hmm33)
    exact zw_some ⟨hIm33, hFm33, hRCRm33, hRKNm33, hRLTm33, hRNSm33, hRTRm33, hRWDm33, ⟨by omega, by omega⟩, ⟨by omega, by omega⟩⟩
  · have r37 : 0 ≤ (m33 a0 1) ∧ (m33 a0 1) ≤ 700 := zi_rd hIm33 hc0 zb_28_1
    refine zw_ite (fun h38 => ?_) (fun h38 => ?_)
    · generalize hmm39 : zu_up m33 a0 6 a1 = m39
      have hIm39 := zi_up hmm39 hIm33 hc0 zb_28_6 (by omega) (by omega)
      have hFm39 := zfr_up hmm39 hFm33 hc0 rfl
      have hRCRm39 := zR_CR_fr (zdis_fr (zfr_up hmm39 (zfr_rf [(28, 7)] _) hc0 rfl) rfl) hRCRm33
      have hRKNm39 := zR_KN_fr (zdis_fr (zfr_up hmm39 (zfr_rf [(28, 7)] _) hc0 rfl) rfl) hRKNm33
      have hRLTm39 := zR_LT_fr (zdis_fr (zfr_up hmm39 (zfr_rf [(28, 7)] _) hc0 rfl) rfl) hRLTm33
      have hRTRm39 := zR_TR_fr (zdis_fr (zfr_up hmm39 (zfr_rf [(28, 7)] _) hc0 rfl) rfl) hRTRm33
      have hRWDm39 := zR_WD_fr (zdis_fr (zfr_up hmm39 (zfr_rf [(28, 7)] _) hc0 rfl) rfl) hRWDm33
      generalize hmm40 : zu_up m39 a0 1 0 = m40
      have hIm40 := zi_up hmm40 hIm39 hc0 zb_28_1 (by omega) (by omega)
      have hFm40 := zfr_up hmm40 hFm39 hc0 rfl
      have hRCRm40 := zR_CR_fr (zdis_fr (zfr_up hmm40 (zfr_rf [(28, 2)] _) hc0 rfl) rfl) hRCRm39
      have hRKNm40 := zR_KN_fr (zdis_fr (zfr_up hmm40 (zfr_rf [(28, 2)] _) hc0 rfl) rfl) hRKNm39
      have hRLTm40 := zR_LT_fr (zdis_fr (zfr_up hmm40 (zfr_rf [(28, 2)] _) hc0 rfl) rfl) hRLTm39
      have hRTRm40 := zR_TR_fr (zdis_fr (zfr_up hmm40 (zfr_rf [(28, 2)] _) hc0 rfl) rfl) hRTRm39
      have hRWDm40 := zR_WD_fr (zdis_fr (zfr_up hmm40 (zfr_rf [(28, 2)] _) hc0 rfl) rfl) hRWDm39
      generalize hmm41 : zu_up m40 a0 4 0 = m41
      have hIm41 := zi_up hmm41 hIm40 hc0 zb_28_4 (by omega) (by omega)
      have hFm41 := zfr_up hmm41 hFm40 hc0 rfl
      have hRCRm41 := zR_CR_fr (zdis_fr (zfr_up hmm41 (zfr_rf [(28, 5)] _) hc0 rfl) rfl) hRCRm40
      have hRKNm41 := zR_KN_fr (zdis_fr (zfr_up hmm41 (zfr_rf [(28, 5)] _) hc0 rfl) rfl) hRKNm40
      have hRLTm41 := zR_LT_fr (zdis_fr (zfr_up hmm41 (zfr_rf [(28, 5)] _) hc0 rfl) rfl) hRLTm40
      have hRTRm41 := zR_TR_fr (zdis_fr (zfr_up hmm41 (zfr_rf [(28, 5)] _) hc0 rfl) rfl) hRTRm40
      have hRWDm41 := zR_WD_fr (zdis_fr (zfr_up hmm41 (zfr_rf [(28, 5)] _) hc0 rfl) rfl) hRWDm40
      generalize hmm42 : zu_up m41 a0 5 (-1) = m42
      have hIm42 := zi_up hmm42 hIm41 hc0 zb_28_5 (by omega) (by omega)
      have hFm42 := zfr_up hmm42 hFm41 hc0 rfl
      have hRCRm42 := zR_CR_fr (zdis_fr (zfr_up hmm42 (zfr_rf [(28, 6)] _) hc0 rfl) rfl) hRCRm41
      have hRKNm42 := zR_KN_fr (zdis_fr (zfr_up hmm42 (zfr_rf [(28, 6)] _) hc0 rfl) rfl) hRKNm41
      have hRLTm42 := zR_LT_fr (zdis_fr (zfr_up hmm42 (zfr_rf [(28, 6)] _) hc0 rfl) rfl) hRLTm41
      have hRTRm42 := zR_TR_fr (zdis_fr (zfr_up hmm42 (zfr_rf [(28, 6)] _) hc0 rfl) rfl) hRTRm41
      have hRWDm42 := zR_WD_fr (zdis_fr (zfr_up hmm42 (zfr_rf [(28, 6)] _) hc0 rfl) rfl) hRWDm41
      generalize hmm43 : zu_up m42 a0 7 0 = m43
      have hIm43 := zi_up hmm43 hIm42 hc0 zb_28_7 (by omega) (by omega)
      have hFm43 := zfr_up hmm43 hFm42 hc0 rfl
      have hRCRm43 := zR_CR_fr (zdis_fr (zfr_up hmm43 (zfr_rf [(28, 8)] _) hc0 rfl) rfl) hRCRm42
      have hRKNm43 := zR_KN_fr (zdis_fr (zfr_up hmm43 (zfr_rf [(28, 8)] _) hc0 rfl) rfl) hRKNm42
      have hRLTm43 := zR_LT_fr (zdis_fr (zfr_up hmm43 (zfr_rf [(28, 8)] _) hc0 rfl) rfl) hRLTm42
      have hRTRm43 := zR_TR_fr (zdis_fr (zfr_up hmm43 (zfr_rf [(28, 8)] _) hc0 rfl) rfl) hRTRm42
      have hRWDm43 := zR_WD_fr (zdis_fr (zfr_up hmm43 (zfr_rf [(28, 8)] _) hc0 rfl) rfl) hRWDm42
      have r44 : 0 ≤ (m43 a0 7) ∧ (m43 a0 7) ≤ 700 := zi_rd hIm43 hc0 zb_28_7
      have e45 : (m43 a0 7) = 0 := (zs_eq hmm43)
      have r46 : 0 ≤ (m43 a0 6) ∧ (m43 a0 6) ≤ 700 := zi_rd hIm43 hc0 zb_28_6
      have e47 : (m43 a0 6) = a1 := (Eq.trans (zs_ne hmm43 (Or.inr (by decide))) (Eq.trans (zs_ne hmm42 (Or.inr (by decide))) (Eq.trans (zs_ne hmm41 (Or.inr (by decide))) (Eq.trans (zs_ne hmm40 (Or.inr (by decide))) (zs_eq hmm39)))))
      have hRNSm43 := zR_NS_of hc0 (show m43 a0 7 ≤ m43 a0 6 by omega)
      refine zw_bd (zw_mono (zk_30 n hIm43 hc0 hRLTm43) (fun v49 m48 hqm48 => ?_))
      obtain ⟨hIm48, hfm48, hvm48⟩ := hqm48
      have hFm48 := zfr_tr hFm43 hfm48 rfl
      obtain ⟨hRCRm48, hRLRm48, hRLTm48, hvm48⟩ := hvm48
      have hRKNm48 := zR_KN_fr (zdis_fr hfm48 rfl) hRKNm43
      have hRNSm48 := zR_NS_fr (zdis_fr hfm48 rfl) hRNSm43
      have hRTRm48 := zR_TR_fr (zdis_fr hfm48 rfl) hRTRm43
      have hRWDm48 := zR_WD_fr (zdis_fr hfm48 rfl) hRWDm43
      have s50 := hRNSm48 a0 hc0
      have s51 := hRTRm48 a0 hc0
      refine zw_bd (zw_mono (zk_89 n hIm48 hc0 hRNSm48 hRWDm48) (fun v53 m52 hqm52 => ?_))
      obtain ⟨hIm52, hfm52, hvm52⟩ := hqm52
      have hFm52 := zfr_tr hFm48 hfm52 rfl
      obtain ⟨hRNSm52, hRTRm52, hRWDm52, hvm52⟩ := hvm52
      have hRCRm52 := zR_CR_fr (zdis_fr hfm52 rfl) hRCRm48
      have hRKNm52 := zR_KN_fr (zdis_fr hfm52 rfl) hRKNm48
      have hRLRm52 := zR_LR_fr (zdis_fr hfm52 rfl) hRLRm48
      have hRLTm52 := zR_LT_fr (zdis_fr hfm52 rfl) hRLTm48
      have s54 := hRNSm52 a0 hc0
      have s55 := hRTRm52 a0 hc0
      have r56 : (-2147483648) ≤ (m52 a0 2) ∧ (m52 a0 2) ≤ 2147483647 := zi_rd hIm52 hc0 zb_28_2
      have e57 : (m52 a0 2) = 0 := (Eq.trans (zfr_ap hfm52 hc0 rfl) (Eq.trans (zfr_ap hfm48 hc0 rfl) (Eq.trans (zs_ne hmm43 (Or.inr (by decide))) (Eq.trans (zs_ne hmm42 (Or.inr (by decide))) (Eq.trans (zs_ne hmm41 (Or.inr (by decide))) (Eq.trans (zs_ne hmm40 (Or.inr (by decide))) (Eq.trans (zs_ne hmm39 (Or.inr (by decide))) (zs_eq hmm33))))))))
      have r58 : 0 ≤ (m52 a0 1) ∧ (m52 a0 1) ≤ 700 := zi_rd hIm52 hc0 zb_28_1
      have e59 : (m52 a0 1) = 0 := (Eq.trans (zfr_ap hfm52 hc0 rfl) (Eq.trans (zfr_ap hfm48 hc0 rfl) (Eq.trans (zs_ne hmm43 (Or.inr (by decide))) (Eq.trans (zs_ne hmm42 (Or.inr (by decide))) (Eq.trans (zs_ne hmm41 (Or.inr (by decide))) (zs_eq hmm40))))))
      have r60 : 0 ≤ (m52 a0 21) ∧ (m52 a0 21) ≤ 64 := zi_rd hIm52 hc0 zb_28_21
      have e61 : (m52 a0 21) = (m48 a0 21) := (zfr_ap hfm52 hc0 rfl)
      have r62 : 0 ≤ (m52 a0 48) ∧ (m52 a0 48) ≤ 64 := zi_rd hIm52 hc0 zb_28_48
      have e63 : (m52 a0 48) = (m48 a0 48) := (zfr_ap hfm52 hc0 rfl)
      have r64 : (-2147483648) ≤ (m52 a0 4) ∧ (m52 a0 4) ≤ 2147483647 := zi_rd hIm52 hc0 zb_28_4
      have e65 : (m52 a0 4) = 0 := (Eq.trans (zfr_ap hfm52 hc0 rfl) (Eq.trans (zfr_ap hfm48 hc0 rfl) (Eq.trans (zs_ne hmm43 (Or.inr (by decide))) (Eq.trans (zs_ne hmm42 (Or.inr (by decide))) (zs_eq hmm41)))))
      have r66 : 0 ≤ (m52 a0 7) ∧ (m52 a0 7) ≤ 700 := zi_rd hIm52 hc0 zb_28_7
      have hM : (700 - (m52 a0 7)) * 1 + 0 < ((701 : Nat) : Int) := by omega
      exact (zl_106 n (m0 := m0) hc0 701) 0 m52 hIm52 hFm52 ⟨by omega, by omega⟩ ⟨by omega, by omega⟩ ⟨by omega, by omega⟩ ⟨by omega, by omega⟩ (by omega) (by omega) hRCRm52 hRKNm52 hRLRm52 hRLTm52 hRNSm52 hRTRm52 hRWDm52 hM
    · have r67 : (-2147483648) ≤ (m33 a0 2) ∧ (m33 a0 2) ≤ 2147483647 := zi_rd hIm33 hc0 zb_28_2
      have e68 : (m33 a0 2) = 0 := (zs_eq hmm33)
      exact zw_some ⟨hIm33, hFm33, hRCRm33, hRKNm33, hRLTm33, hRNSm33, hRTRm33, hRWDm33, ⟨by omega, by omega⟩, ⟨by omega, by omega⟩⟩
set_option maxHeartbeats 4000000 in
theorem zl_140 (n : Nat) {a0 a1 : Int} {m0 : zu_m} (hc0 : zcls a0 = 28)   : ∀ k : Nat, (∀ (x2 x3 : Int) (mh : zu_m), zi_I mh → zfr [(28, 54), (28, 64), (122, 0), (123, 0), (124, 0), (126, 0), (128, 0), (129, 0), (130, 0), (131, 0)] m0 mh → (0 ≤ a1 ∧ a1 ≤ 1) → ((-2147483648) ≤ x2 ∧ x2 ≤ 2147483647) → (0 ≤ x3 ∧ x3 ≤ 4) → (zE1 mh a1) → (zR_KN mh) → (zR_LT mh) → (zE1 mh 0) → (4 - x3) * 1 + 43 < (k : Int) → zw (zu_ex (zt_T n) 140 9 [(40, a0), (0, a1), (0, x2), (0, x3), (2, 0)] [] mh) (fun v m => zi_I m ∧ zfr [(28, 54), (28, 64), (122, 0), (123, 0), (124, 0), (126, 0), (128, 0), (129, 0), (130, 0), (131, 0)] m0 m ∧ zE1 m a1 ∧ zR_KN m ∧ zR_LT m ∧ zE1 m 0 ∧ True)) ∧ (∀ (x2 x3 : Int) (mh : zu_m), zi_I mh → zfr [(28, 54), (28, 64), (122, 0), (123, 0), (124, 0), (126, 0), (128, 0), (129, 0), (130, 0), (131, 0)] m0 mh → (0 ≤ a1 ∧ a1 ≤ 1) → ((-2147483648) ≤ x2 ∧ x2 ≤ 2147483647) → (0 ≤ x3 ∧ x3 ≤ 4) → (zE1 mh a1) → (zR_KN mh) → (zR_LT mh) → (zE1 mh 0) → (4 - x3) * 1 + 38 < (k : Int) → zw (zu_ex (zt_T n) 140 53 [(40, a0), (0, a1), (0, x2), (0, x3), (2, 0)] [] mh) (fun v m => zi_I m ∧ zfr [(28, 54), (28, 64), (122, 0), (123, 0), (124, 0), (126, 0), (128, 0), (129, 0), (130, 0), (131, 0)] m0 m ∧ zE1 m a1 ∧ zR_KN m ∧ zR_LT m ∧ zE1 m 0 ∧ True)) ∧ (∀ (x2 x3 x4 : Int) (mh : zu_m), zi_I mh → zfr [(28, 54), (28, 64), (122, 0), (123, 0), (124, 0), (126, 0), (128, 0), (129, 0), (130, 0), (131, 0)] m0 mh → (0 ≤ a1 ∧ a1 ≤ 1) → (1 ≤ x2 ∧ x2 ≤ 2147483647) → ((-99) ≤ x3 ∧ x3 ≤ 99) → (0 ≤ x4 ∧ x4 ≤ 18) → (0 ≤ mh a0 65 ∧ mh a0 65 ≤ 0) → (zE1 mh a1) → (zR_KN mh) → (zR_LT mh) → (zE1 mh 0) → (18 - x4) * 1 + 19 < (k : Int) → zw (zu_ex (zt_T n) 140 138 [(40, a0), (0, a1), (0, x2), (0, x3), (0, x4)] [] mh) (fun v m => zi_I m ∧ zfr [(28, 54), (28, 64), (122, 0), (123, 0), (124, 0), (126, 0), (128, 0), (129, 0), (130, 0), (131, 0)] m0 m ∧ zE1 m a1 ∧ zR_KN m ∧ zR_LT m ∧ zE1 m 0 ∧ True)) ∧ (∀ (x2 x3 : Int) (mh : zu_m), zi_I mh → zfr [(28, 54), (28, 64), (122, 0), (123, 0), (124, 0), (126, 0), (128, 0), (129, 0), (130, 0), (131, 0)] m0 mh → (0 ≤ a1 ∧ a1 ≤ 1) → ((-1) ≤ x2 ∧ x2 ≤ 99999) → (0 ≤ x3 ∧ x3 ≤ 18) → (0 ≤ mh a0 66 ∧ mh a0 66 ≤ 0) → (zE1 mh a1) → (zR_KN mh) → (zR_LT mh) → (zE1 mh 0) → (18 - x3) * 1 + 0 < (k : Int) → zw (zu_ex (zt_T n) 140 226 [(40, a0), (0, a1), (0, x2), (0, x3), (2, 0)] [] mh) (fun v m => zi_I m ∧ zfr [(28, 54), (28, 64), (122, 0), (123, 0), (124, 0), (126, 0), (128, 0), (129, 0), (130, 0), (131, 0)] m0 m ∧ zE1 m a1 ∧ zR_KN m ∧ zR_LT m ∧ zE1 m 0 ∧ True)) := by
  intro k
  induction k with
  | zero => exact ⟨fun x2 x3 mh hImh hFmh hba1 hbx2 hbx3 hREBmh hRKNmh hRLTmh hRSEmh hM => by exfalso; omega, fun x2 x3 mh hImh hFmh hba1 hbx2 hbx3 hREBmh hRKNmh hRLTmh hRSEmh hM => by exfalso; omega, fun x2 x3 x4 mh hImh hFmh hba1 hbx2 hbx3 hbx4 hg4 hREBmh hRKNmh hRLTmh hRSEmh hM => by exfalso; omega, fun x2 x3 mh hImh hFmh hba1 hbx2 hbx3 hg3 hREBmh hRKNmh hRLTmh hRSEmh hM => by exfalso; omega⟩
  | succ k ih =>
    refine ⟨?_, ?_, ?_, ?_⟩
    · intro x2 x3 mh hImh hFmh hba1 hbx2 hbx3 hREBmh hRKNmh hRLTmh hRSEmh hM
      refine zw_eq (zu_rega_at (zt_T n) (zm_140 n) (zdp_140 n) _ _ _ _ _ _ (zr_140_9 n _ _ a0 a1 x2 x3 mh)) ?_
      have r1 : 0 ≤ (mh a0 15) ∧ (mh a0 15) ≤ 4 := zi_rd hImh hc0 zb_28_15
      refine zw_ite (fun h2 => ?_) (fun h2 => ?_)
      · have hM : (4 - 0) * 1 + 38 < (k : Int) := by omega
        exact ih.2.1 x2 0 mh hImh hFmh ⟨by omega, by omega⟩ ⟨by omega, by omega⟩ ⟨by omega, by omega⟩ hREBmh hRKNmh hRLTmh hRSEmh hM
      · have w3 := zu_w32_id (z := 4 * a1) (by omega) (by omega)
        have w4 := zu_w32_id (z := (zu_w32 (4 * a1)) + x3) (by omega) (by omega)
        have b5 : 0 ≤ (zu_w32 ((zu_w32 (4 * a1)) + x3)) ∧ (zu_w32 ((zu_w32 (4 * a1)) + x3)) < 8 := by omega
        refine zw_if b5 ?_
        have r6 : (-2147483648) ≤ (mh 218 (zu_w32 ((zu_w32 (4 * a1)) + x3))) ∧ (mh 218 (zu_w32 ((zu_w32 (4 * a1)) + x3))) ≤ 2147483647 := zi_rd hImh zq_218 (zb_127 _)
        refine zw_ite (fun h7 => ?_) (fun h7 => ?_)
        · have w8 := zu_w32_id (z := x3 + 1) (by omega) (by omega)
          have hM : (4 - (zu_w32 (x3 + 1))) * 1 + 43 < (k : Int) := by omega
          exact ih.1 x2 (zu_w32 (x3 + 1)) mh hImh hFmh ⟨by omega, by omega⟩ ⟨by omega, by omega⟩ ⟨by omega, by omega⟩ hREBmh hRKNmh hRLTmh hRSEmh hM
        · have r9 : (-2147483648) ≤ (mh a0 69) ∧ (mh a0 69) ≤ 2147483647 := zi_rd hImh hc0 zb_28_69
          refine zw_ite (fun h10 => ?_) (fun h10 => ?_)
          · have w11 := zu_w32_id (z := x3 + 1) (by omega) (by omega)
            have hM : (4 - (zu_w32 (x3 + 1))) * 1 + 43 < (k : Int) := by omega
            exact ih.1 x2 (zu_w32 (x3 + 1)) mh hImh hFmh ⟨by omega, by omega⟩ ⟨by omega, by omega⟩ ⟨by omega, by omega⟩ hREBmh hRKNmh hRLTmh hRSEmh hM
          · refine zw_bd (zw_mono (zk_137 n hImh hc0 ⟨by omega, by omega⟩ ⟨by omega, by omega⟩ hRKNmh hRLTmh) (fun v13 m12 hqm12 => ?_))
            obtain ⟨hIm12, hfm12, hvm12⟩ := hqm12
            have hFm12 := zfr_tr hFmh hfm12 rfl
            obtain ⟨hRKNm12, hRLTm12, hvm12⟩ := hvm12
            have hREBm12 := zR_EB_fr (zdis_fr hfm12 rfl) hREBmh
            have hRSEm12 := zR_SE_fr (zdis_fr hfm12 rfl) hRSEmh
            have w14 := zu_w32_id (z := x3 + 1) (by omega) (by omega)
            have hM : (4 - (zu_w32 (x3 + 1))) * 1 + 43 < (k : Int) := by omega
            exact ih.1 x2 (zu_w32 (x3 + 1)) m12 hIm12 hFm12 ⟨by omega, by omega⟩ ⟨by omega, by omega⟩ ⟨by omega, by omega⟩ hREBm12 hRKNm12 hRLTm12 hRSEm12 hM
    · intro x2 x3 mh hImh hFmh hba1 hbx2 hbx3 hREBmh hRKNmh hRLTmh hRSEmh hM
      refine zw_eq (zu_rega_at (zt_T n) (zm_140 n) (zdp_140 n) _ _ _ _ _ _ (zr_140_53 n _ _ a0 a1 x2 x3 mh)) ?_
      have r15 : 0 ≤ (mh a0 15) ∧ (mh a0 15) ≤ 4 := zi_rd hImh hc0 zb_28_15
      refine zw_ite (fun h16 => ?_) (fun h16 => ?_)
      · have r17 : 0 ≤ (mh a0 65) ∧ (mh a0 65) ≤ 1 := zi_rd hImh hc0 zb_28_65
        refine zw_ite (fun h18 => ?_) (fun h18 => ?_)
        · have b19 : 0 ≤ (3 : Int) ∧ (3 : Int) < 10 := by omega
          refine zw_if b19 ?_
          have r20 : (-1) ≤ (mh 194 3) ∧ (mh 194 3) ≤ 99999 := zi_rd hImh zq_194 (zb_103 _)
          refine zw_ite (fun h21 => ?_) (fun h21 => ?_)
          · have b22 : 0 ≤ a1 ∧ a1 < 2 := by omega
            refine zw_if b22 ?_
            have r23 : (-2147483648) ≤ (mh 221 a1) ∧ (mh 221 a1) ≤ 2147483647 := zi_rd hImh zq_221 (zb_130 _)
            have w24 := zu_w32_rg ((mh 221 a1) + 1)
            have b25 : 0 ≤ a1 ∧ a1 < 2 := by omega
            refine zw_if b25 ?_
            generalize hmm26 : zu_up mh 221 a1 (zu_w32 ((mh 221 a1) + 1)) = m26
            have hIm26 := zi_up hmm26 hImh zq_221 (zb_130 _) (by omega) (by omega)
            have hFm26 := zfr_up hmm26 hFmh zq_221 rfl
            have hREBm26 := zR_EB_fr (zdis_fr (zfr_up hmm26 (zfr_rf [(130, 0)] _) zq_221 rfl) rfl) hREBmh
            have hRKNm26 := zR_KN_fr (zdis_fr (zfr_up hmm26 (zfr_rf [(130, 0)] _) zq_221 rfl) rfl) hRKNmh
            have hRLTm26 := zR_LT_fr (zdis_fr (zfr_up hmm26 (zfr_rf [(130, 0)] _) zq_221 rfl) rfl) hRLTmh
            have hRSEm26 := zR_SE_fr (zdis_fr (zfr_up hmm26 (zfr_rf [(130, 0)] _) zq_221 rfl) rfl) hRSEmh
            exact zw_some ⟨hIm26, hFm26, hREBm26, hRKNm26, hRLTm26, hRSEm26, trivial⟩
          · have r27 : 0 ≤ (mh a0 66) ∧ (mh a0 66) ≤ 1 := zi_rd hImh hc0 zb_28_66
            refine zw_ite (fun h28 => ?_) (fun h28 => ?_)
            · have b29 : 0 ≤ a1 ∧ a1 < 2 := by omega
              refine zw_if b29 ?_
              have r30 : (-2147483648) ≤ (mh 221 a1) ∧ (mh 221 a1) ≤ 2147483647 := zi_rd hImh zq_221 (zb_130 _)
              have w31 := zu_w32_rg ((mh 221 a1) + 1)
              have b32 : 0 ≤ a1 ∧ a1 < 2 := by omega
              refine zw_if b32 ?_
              generalize hmm33 : zu_up mh 221 a1 (zu_w32 ((mh 221 a1) + 1)) = m33
              have hIm33 := zi_up hmm33 hImh zq_221 (zb_130 _) (by omega) (by omega)
              have hFm33 := zfr_up hmm33 hFmh zq_221 rfl
              have hREBm33 := zR_EB_fr (zdis_fr (zfr_up hmm33 (zfr_rf [(130, 0)] _) zq_221 rfl) rfl) hREBmh
              have hRKNm33 := zR_KN_fr (zdis_fr (zfr_up hmm33 (zfr_rf [(130, 0)] _) zq_221 rfl) rfl) hRKNmh
              have hRLTm33 := zR_LT_fr (zdis_fr (zfr_up hmm33 (zfr_rf [(130, 0)] _) zq_221 rfl) rfl) hRLTmh
              have hRSEm33 := zR_SE_fr (zdis_fr (zfr_up hmm33 (zfr_rf [(130, 0)] _) zq_221 rfl) rfl) hRSEmh
              exact zw_some ⟨hIm33, hFm33, hREBm33, hRKNm33, hRLTm33, hRSEm33, trivial⟩
            · have hM : (18 - 0) * 1 + 0 < (k : Int) := by omega
              exact ih.2.2.2 x2 0 mh hImh hFmh ⟨by omega, by omega⟩ ⟨by omega, by omega⟩ ⟨by omega, by omega⟩ ⟨by omega, by omega⟩ hREBmh hRKNmh hRLTmh hRSEmh hM
        · have b34 : 0 ≤ (2 : Int) ∧ (2 : Int) < 10 := by omega
          refine zw_if b34 ?_
          have r35 : (-1) ≤ (mh 194 2) ∧ (mh 194 2) ≤ 99999 := zi_rd hImh zq_194 (zb_103 _)
          refine zw_ite (fun h36 => ?_) (fun h36 => ?_)
          · have b37 : 0 ≤ (3 : Int) ∧ (3 : Int) < 10 := by omega
            refine zw_if b37 ?_
            have r38 : (-1) ≤ (mh 194 3) ∧ (mh 194 3) ≤ 99999 := zi_rd hImh zq_194 (zb_103 _)
            refine zw_ite (fun h39 => ?_) (fun h39 => ?_)
            · have b40 : 0 ≤ a1 ∧ a1 < 2 := by omega
              refine zw_if b40 ?_
              have r41 : (-2147483648) ≤ (mh 221 a1) ∧ (mh 221 a1) ≤ 2147483647 := zi_rd hImh zq_221 (zb_130 _)
              have w42 := zu_w32_rg ((mh 221 a1) + 1)
              have b43 : 0 ≤ a1 ∧ a1 < 2 := by omega
              refine zw_if b43 ?_
              generalize hmm44 : zu_up mh 221 a1 (zu_w32 ((mh 221 a1) + 1)) = m44
              have hIm44 := zi_up hmm44 hImh zq_221 (zb_130 _) (by omega) (by omega)
              have hFm44 := zfr_up hmm44 hFmh zq_221 rfl
              have hREBm44 := zR_EB_fr (zdis_fr (zfr_up hmm44 (zfr_rf [(130, 0)] _) zq_221 rfl) rfl) hREBmh
              have hRKNm44 := zR_KN_fr (zdis_fr (zfr_up hmm44 (zfr_rf [(130, 0)] _) zq_221 rfl) rfl) hRKNmh
              have hRLTm44 := zR_LT_fr (zdis_fr (zfr_up hmm44 (zfr_rf [(130, 0)] _) zq_221 rfl) rfl) hRLTmh
              have hRSEm44 := zR_SE_fr (zdis_fr (zfr_up hmm44 (zfr_rf [(130, 0)] _) zq_221 rfl) rfl) hRSEmh
              exact zw_some ⟨hIm44, hFm44, hREBm44, hRKNm44, hRLTm44, hRSEm44, trivial⟩
            · have r45 : 0 ≤ (mh a0 66) ∧ (mh a0 66) ≤ 1 := zi_rd hImh hc0 zb_28_66
              refine zw_ite (fun h46 => ?_) (fun h46 => ?_)
              · have b47 : 0 ≤ a1 ∧ a1 < 2 := by omega
                refine zw_if b47 ?_
                have r48 : (-2147483648) ≤ (mh 221 a1) ∧ (mh 221 a1) ≤ 2147483647 := zi_rd hImh zq_221 (zb_130 _)
                have w49 := zu_w32_rg ((mh 221 a1) + 1)
                have b50 : 0 ≤ a1 ∧ a1 < 2 := by omega
                refine zw_if b50 ?_
                generalize hmm51 : zu_up mh 221 a1 (zu_w32 ((mh 221 a1) + 1)) = m51
                have hIm51 := zi_up hmm51 hImh zq_221 (zb_130 _) (by omega) (by omega)
                have hFm51 := zfr_up hmm51 hFmh zq_221 rfl
                have hREBm51 := zR_EB_fr (zdis_fr (zfr_up hmm51 (zfr_rf [(130, 0)] _) zq_221 rfl) rfl) hREBmh
                have hRKNm51 := zR_KN_fr (zdis_fr (zfr_up hmm51 (zfr_rf [(130, 0)] _) zq_221 rfl) rfl) hRKNmh
                have hRLTm51 := zR_LT_fr (zdis_fr (zfr_up hmm51 (zfr_rf [(130, 0)] _) zq_221 rfl) rfl) hRLTmh
                have hRSEm51 := zR_SE_fr (zdis_fr (zfr_up hmm51 (zfr_rf [(130, 0)] _) zq_221 rfl) rfl) hRSEmh
                exact zw_some ⟨hIm51, hFm51, hREBm51, hRKNm51, hRLTm51, hRSEm51, trivial⟩
              · have hM : (18 - 0) * 1 + 0 < (k : Int) := by omega
                exact ih.2.2.2 x2 0 mh hImh hFmh ⟨by omega, by omega⟩ ⟨by omega, by omega⟩ ⟨by omega, by omega⟩ ⟨by omega, by omega⟩ hREBmh hRKNmh hRLTmh hRSEmh hM
          · refine zw_ite (fun h52 => ?_) (fun h52 => ?_)
            · have b53 : 0 ≤ (3 : Int) ∧ (3 : Int) < 10 := by omega
              refine zw_if b53 ?_
              have r54 : (-1) ≤ (mh 194 3) ∧ (mh 194 3) ≤ 99999 := zi_rd hImh zq_194 (zb_103 _)
              refine zw_ite (fun h55 => ?_) (fun h55 => ?_)
              · have b56 : 0 ≤ a1 ∧ a1 < 2 := by omega
                refine zw_if b56 ?_
                have r57 : (-2147483648) ≤ (mh 221 a1) ∧ (mh 221 a1) ≤ 2147483647 := zi_rd hImh zq_221 (zb_130 _)
                have w58 := zu_w32_rg ((mh 221 a1) + 1)
                have b59 : 0 ≤ a1 ∧ a1 < 2 := by omega
                refine zw_if b59 ?_
                generalize hmm60 : zu_up mh 221 a1 (zu_w32 ((mh 221 a1) + 1)) = m60
                have hIm60 := zi_up hmm60 hImh zq_221 (zb_130 _) (by omega) (by omega)
                have hFm60 := zfr_up hmm60 hFmh zq_221 rfl
                have hREBm60 := zR_EB_fr (zdis_fr (zfr_up hmm60 (zfr_rf [(130, 0)] _) zq_221 rfl) rfl) hREBmh
                have hRKNm60 := zR_KN_fr (zdis_fr (zfr_up hmm60 (zfr_rf [(130, 0)] _) zq_221 rfl) rfl) hRKNmh
                have hRLTm60 := zR_LT_fr (zdis_fr (zfr_up hmm60 (zfr_rf [(130, 0)] _) zq_221 rfl) rfl) hRLTmh
                have hRSEm60 := zR_SE_fr (zdis_fr (zfr_up hmm60 (zfr_rf [(130, 0)] _) zq_221 rfl) rfl) hRSEmh
                exact zw_some ⟨hIm60, hFm60, hREBm60, hRKNm60, hRLTm60, hRSEm60, trivial⟩
              · have r61 : 0 ≤ (mh a0 66) ∧ (mh a0 66) ≤ 1 := zi_rd hImh hc0 zb_28_66
                refine zw_ite (fun h62 => ?_) (fun h62 => ?_)
                · have b63 : 0 ≤ a1 ∧ a1 < 2 := by omega
                  refine zw_if b63 ?_
                  have r64 : (-2147483648) ≤ (mh 221 a1) ∧ (mh 221 a1) ≤ 2147483647 := zi_rd hImh zq_221 (zb_130 _)
                  have w65 := zu_w32_rg ((mh 221 a1) + 1)
                  have b66 : 0 ≤ a1 ∧ a1 < 2 := by omega
                  refine zw_if b66 ?_
                  generalize hmm67 : zu_up mh 221 a1 (zu_w32 ((mh 221 a1) + 1)) = m67
                  have hIm67 := zi_up hmm67 hImh zq_221 (zb_130 _) (by omega) (by omega)
                  have hFm67 := zfr_up hmm67 hFmh zq_221 rfl
                  have hREBm67 := zR_EB_fr (zdis_fr (zfr_up hmm67 (zfr_rf [(130, 0)] _) zq_221 rfl) rfl) hREBmh
                  have hRKNm67 := zR_KN_fr (zdis_fr (zfr_up hmm67 (zfr_rf [(130, 0)] _) zq_221 rfl) rfl) hRKNmh
                  have hRLTm67 := zR_LT_fr (zdis_fr (zfr_up hmm67 (zfr_rf [(130, 0)] _) zq_221 rfl) rfl) hRLTmh
                  have hRSEm67 := zR_SE_fr (zdis_fr (zfr_up hmm67 (zfr_rf [(130, 0)] _) zq_221 rfl) rfl) hRSEmh
                  exact zw_some ⟨hIm67, hFm67, hREBm67, hRKNm67, hRLTm67, hRSEm67, trivial⟩
                · have hM : (18 - 0) * 1 + 0 < (k : Int) := by omega
                  exact ih.2.2.2 x2 0 mh hImh hFmh ⟨by omega, by omega⟩ ⟨by omega, by omega⟩ ⟨by omega, by omega⟩ ⟨by omega, by omega⟩ hREBmh hRKNmh hRLTmh hRSEmh hM
            · have b68 : 0 ≤ (2 : Int) ∧ (2 : Int) < 10 := by omega
              refine zw_if b68 ?_
              refine zw_nif (by omega) ?_
              have d69 := ztmod_bd (x := x2) (y := (mh 194 2)) (by omega) (by omega)
              refine zw_ite (fun h70 => ?_) (fun h70 => ?_)
              · have b71 : 0 ≤ (3 : Int) ∧ (3 : Int) < 10 := by omega
                refine zw_if b71 ?_
                have r72 : (-1) ≤ (mh 194 3) ∧ (mh 194 3) ≤ 99999 := zi_rd hImh zq_194 (zb_103 _)
                refine zw_ite (fun h73 => ?_) (fun h73 => ?_)
                · have b74 : 0 ≤ a1 ∧ a1 < 2 := by omega
                  refine zw_if b74 ?_
                  have r75 : (-2147483648) ≤ (mh 221 a1) ∧ (mh 221 a1) ≤ 2147483647 := zi_rd hImh zq_221 (zb_130 _)
                  have w76 := zu_w32_rg ((mh 221 a1) + 1)
                  have b77 : 0 ≤ a1 ∧ a1 < 2 := by omega
                  refine zw_if b77 ?_
                  generalize hmm78 : zu_up mh 221 a1 (zu_w32 ((mh 221 a1) + 1)) = m78
                  have hIm78 := zi_up hmm78 hImh zq_221 (zb_130 _) (by omega) (by omega)
                  have hFm78 := zfr_up hmm78 hFmh zq_221 rfl
                  have hREBm78 := zR_EB_fr (zdis_fr (zfr_up hmm78 (zfr_rf [(130, 0)] _) zq_221 rfl) rfl) hREBmh
                  have hRKNm78 := zR_KN_fr (zdis_fr (zfr_up hmm78 (zfr_rf [(130, 0)] _) zq_221 rfl) rfl) hRKNmh
                  have hRLTm78 := zR_LT_fr (zdis_fr (zfr_up hmm78 (zfr_rf [(130, 0)] _) zq_221 rfl) rfl) hRLTmh
                  have hRSEm78 := zR_SE_fr (zdis_fr (zfr_up hmm78 (zfr_rf [(130, 0)] _) zq_221 rfl) rfl) hRSEmh
                  exact zw_some ⟨hIm78, hFm78, hREBm78, hRKNm78, hRLTm78, hRSEm78, trivial⟩
                · have r79 : 0 ≤ (mh a0 66) ∧ (mh a0 66) ≤ 1 := zi_rd hImh hc0 zb_28_66
                  refine zw_ite (fun h80 => ?_) (fun h80 => ?_)
                  · have b81 : 0 ≤ a1 ∧ a1 < 2 := by omega
                    refine zw_if b81 ?_
                    have r82 : (-2147483648) ≤ (mh 221 a1) ∧ (mh 221 a1) ≤ 2147483647 := zi_rd hImh zq_221 (zb_130 _)
                    have w83 := zu_w32_rg ((mh 221 a1) + 1)
                    have b84 : 0 ≤ a1 ∧ a1 < 2 := by omega
                    refine zw_if b84 ?_
                    generalize hmm85 : zu_up mh 221 a1 (zu_w32 ((mh 221 a1) + 1)) = m85
                    have hIm85 := zi_up hmm85 hImh zq_221 (zb_130 _) (by omega) (by omega)
                    have hFm85 := zfr_up hmm85 hFmh zq_221 rfl
                    have hREBm85 := zR_EB_fr (zdis_fr (zfr_up hmm85 (zfr_rf [(130, 0)] _) zq_221 rfl) rfl) hREBmh
                    have hRKNm85 := zR_KN_fr (zdis_fr (zfr_up hmm85 (zfr_rf [(130, 0)] _) zq_221 rfl) rfl) hRKNmh
                    have hRLTm85 := zR_LT_fr (zdis_fr (zfr_up hmm85 (zfr_rf [(130, 0)] _) zq_221 rfl) rfl) hRLTmh
                    have hRSEm85 := zR_SE_fr (zdis_fr (zfr_up hmm85 (zfr_rf [(130, 0)] _) zq_221 rfl) rfl) hRSEmh
                    exact zw_some ⟨hIm85, hFm85, hREBm85, hRKNm85, hRLTm85, hRSEm85, trivial⟩
                  · have hM : (18 - 0) * 1 + 0 < (k : Int) := by omega
                    exact ih.2.2.2 x2 0 mh hImh hFmh ⟨by omega, by omega⟩ ⟨by omega, by omega⟩ ⟨by omega, by omega⟩ ⟨by omega, by omega⟩ hREBmh hRKNmh hRLTmh hRSEmh hM
              · refine zw_bd (zw_eq (zu_call_at (zt_T n) (zm_36 n) (zdp_36 n) _ _ _ _ _ rfl (zr_36_0 n _ _ a0 mh)) ?_)
                have r86 : 1 ≤ (mh a0 12) ∧ (mh a0 12) ≤ 8 := zi_rd hImh hc0 zb_28_12
                have r87 : 1 ≤ (mh a0 13) ∧ (mh a0 13) ≤ 6 := zi_rd hImh hc0 zb_28_13
                have p88 := zmul_bd (x := (mh a0 12)) (y := (mh a0 13)) (a := 1) (b := 1) (A := 8) (B := 6) (by omega) (by omega) (by omega) (by omega) (by omega) (by omega)
                have w89 := zu_w32_id (z := (mh a0 12) * (mh a0 13)) (by omega) (by omega)
                refine zw_some ?_
                refine zw_bd (zw_mono (zk_136 n hImh hc0 ⟨by omega, by omega⟩) (fun v91 m90 hqm90 => ?_))
                obtain ⟨hIm90, hfm90, hvm90⟩ := hqm90
                have hFm90 := zfr_tr hFmh hfm90 rfl
                have hREBm90 := zR_EB_fr (zdis_fr hfm90 rfl) hREBmh
                have hRKNm90 := zR_KN_fr (zdis_fr hfm90 rfl) hRKNmh
                have hRLTm90 := zR_LT_fr (zdis_fr hfm90 rfl) hRLTmh
                have hRSEm90 := zR_SE_fr (zdis_fr hfm90 rfl) hRSEmh
                have r92 : 0 ≤ (m90 a0 65) ∧ (m90 a0 65) ≤ 1 := zi_rd hIm90 hc0 zb_28_65
                have e93 : (m90 a0 65) = (mh a0 65) := (zfr_ap hfm90 hc0 rfl)
                have hM : (18 - 0) * 1 + 19 < (k : Int) := by omega
                exact ih.2.2.1 x2 v91 0 m90 hIm90 hFm90 ⟨by omega, by omega⟩ ⟨by omega, by omega⟩ ⟨by omega, by omega⟩ ⟨by omega, by omega⟩ ⟨by omega, by omega⟩ hREBm90 hRKNm90 hRLTm90 hRSEm90 hM
      · have w94 := zu_w32_id (z := 4 * a1) (by omega) (by omega)
        have w95 := zu_w32_id (z := (zu_w32 (4 * a1)) + x3) (by omega) (by omega)
        have b96 : 0 ≤ (zu_w32 ((zu_w32 (4 * a1)) + x3)) ∧ (zu_w32 ((zu_w32 (4 * a1)) + x3)) < 8 := by omega
        refine zw_if b96 ?_
        have r97 : (-2147483648) ≤ (mh 218 (zu_w32 ((zu_w32 (4 * a1)) + x3))) ∧ (mh 218 (zu_w32 ((zu_w32 (4 * a1)) + x3))) ≤ 2147483647 := zi_rd hImh zq_218 (zb_127 _)
        refine zw_ite (fun h98 => ?_) (fun h98 => ?_)
        · have w99 := zu_w32_id (z := x3 + 1) (by omega) (by omega)
          have hM : (4 - (zu_w32 (x3 + 1))) * 1 + 38 < (k : Int) := by omega
          exact ih.2.1 x2 (zu_w32 (x3 + 1)) mh hImh hFmh ⟨by omega, by omega⟩ ⟨by omega, by omega⟩ ⟨by omega, by omega⟩ hREBmh hRKNmh hRLTmh hRSEmh hM
        · have r100 : (-2147483648) ≤ (mh a0 69) ∧ (mh a0 69) ≤ 2147483647 := zi_rd hImh hc0 zb_28_69
          refine zw_ite (fun h101 => ?_) (fun h101 => ?_)
          · have w102 := zu_w32_id (z := x3 + 1) (by omega) (by omega)
            have hM : (4 - (zu_w32 (x3 + 1))) * 1 + 38 < (k : Int) := by omega
            exact ih.2.1 x2 (zu_w32 (x3 + 1)) mh hImh hFmh ⟨by omega, by omega⟩ ⟨by omega, by omega⟩ ⟨by omega, by omega⟩ hREBmh hRKNmh hRLTmh hRSEmh hM
          · refine zw_bd (zw_mono (zk_139 n hImh hc0 ⟨by omega, by omega⟩ ⟨by omega, by omega⟩ ⟨by omega, by omega⟩ (by omega) hREBmh hRSEmh) (fun v104 m103 hqm103 => ?_))
            obtain ⟨hIm103, hfm103, hvm103⟩ := hqm103
            have hFm103 := zfr_tr hFmh hfm103 rfl
            obtain ⟨hREBm103, hRSEm103, hvm103⟩ := hvm103
            have hRKNm103 := zR_KN_fr (zdis_fr hfm103 rfl) hRKNmh
            have hRLTm103 := zR_LT_fr (zdis_fr hfm103 rfl) hRLTmh
            have w105 := zu_w32_id (z := x3 + 1) (by omega) (by omega)
            have hM : (4 - (zu_w32 (x3 + 1))) * 1 + 38 < (k : Int) := by omega
            exact ih.2.1 x2 (zu_w32 (x3 + 1)) m103 hIm103 hFm103 ⟨by omega, by omega⟩ ⟨by omega, by omega⟩ ⟨by omega, by omega⟩ hREBm103 hRKNm103 hRLTm103 hRSEm103 hM
    · intro x2 x3 x4 mh hImh hFmh hba1 hbx2 hbx3 hbx4 hg4 hREBmh hRKNmh hRLTmh hRSEmh hM
      refine zw_eq (zu_rega_at (zt_T n) (zm_140 n) (zdp_140 n) _ _ _ _ _ _ (zr_140_138 n _ _ a0 a1 x2 x3 x4 mh)) ?_
      have b106 : 0 ≤ a1 ∧ a1 < 2 := by omega
      refine zw_if b106 ?_
      have r107 : 0 ≤ (mh 216 a1) ∧ (mh 216 a1) ≤ 18 := zi_rdr (m := 2) (r0 := 0) (r1 := 1) hImh zq_216 (by omega) (by decide +kernel)
      refine zw_ite (fun h108 => ?_) (fun h108 => ?_)
      · have b109 : 0 ≤ a1 ∧ a1 < 2 := by omega
        refine zw_if b109 ?_
        refine zw_ite (fun h110 => ?_) (fun h110 => ?_)
        · have b111 : 0 ≤ (3 : Int) ∧ (3 : Int) < 10 := by omega
          refine zw_if b111 ?_
          have r112 : (-1) ≤ (mh 194 3) ∧ (mh 194 3) ≤ 99999 := zi_rd hImh zq_194 (zb_103 _)
          refine zw_ite (fun h113 => ?_) (fun h113 => ?_)
          · have b114 : 0 ≤ a1 ∧ a1 < 2 := by omega
            refine zw_if b114 ?_
            have r115 : (-2147483648) ≤ (mh 221 a1) ∧ (mh 221 a1) ≤ 2147483647 := zi_rd hImh zq_221 (zb_130 _)
            have w116 := zu_w32_rg ((mh 221 a1) + 1)
            have b117 : 0 ≤ a1 ∧ a1 < 2 := by omega
            refine zw_if b117 ?_
            generalize hmm118 : zu_up mh 221 a1 (zu_w32 ((mh 221 a1) + 1)) = m118
            have hIm118 := zi_up hmm118 hImh zq_221 (zb_130 _) (by omega) (by omega)
            have hFm118 := zfr_up hmm118 hFmh zq_221 rfl
            have hREBm118 := zR_EB_fr (zdis_fr (zfr_up hmm118 (zfr_rf [(130, 0)] _) zq_221 rfl) rfl) hREBmh
            have hRKNm118 := zR_KN_fr (zdis_fr (zfr_up hmm118 (zfr_rf [(130, 0)] _) zq_221 rfl) rfl) hRKNmh
            have hRLTm118 := zR_LT_fr (zdis_fr (zfr_up hmm118 (zfr_rf [(130, 0)] _) zq_221 rfl) rfl) hRLTmh
            have hRSEm118 := zR_SE_fr (zdis_fr (zfr_up hmm118 (zfr_rf [(130, 0)] _) zq_221 rfl) rfl) hRSEmh
            exact zw_some ⟨hIm118, hFm118, hREBm118, hRKNm118, hRLTm118, hRSEm118, trivial⟩
          · have r119 : 0 ≤ (mh a0 66) ∧ (mh a0 66) ≤ 1 := zi_rd hImh hc0 zb_28_66
            refine zw_ite (fun h120 => ?_) (fun h120 => ?_)
            · have b121 : 0 ≤ a1 ∧ a1 < 2 := by omega
              refine zw_if b121 ?_
              have r122 : (-2147483648) ≤ (mh 221 a1) ∧ (mh 221 a1) ≤ 2147483647 := zi_rd hImh zq_221 (zb_130 _)
              have w123 := zu_w32_rg ((mh 221 a1) + 1)
              have b124 : 0 ≤ a1 ∧ a1 < 2 := by omega
              refine zw_if b124 ?_
              generalize hmm125 : zu_up mh 221 a1 (zu_w32 ((mh 221 a1) + 1)) = m125
              have hIm125 := zi_up hmm125 hImh zq_221 (zb_130 _) (by omega) (by omega)
              have hFm125 := zfr_up hmm125 hFmh zq_221 rfl
              have hREBm125 := zR_EB_fr (zdis_fr (zfr_up hmm125 (zfr_rf [(130, 0)] _) zq_221 rfl) rfl) hREBmh
              have hRKNm125 := zR_KN_fr (zdis_fr (zfr_up hmm125 (zfr_rf [(130, 0)] _) zq_221 rfl) rfl) hRKNmh
              have hRLTm125 := zR_LT_fr (zdis_fr (zfr_up hmm125 (zfr_rf [(130, 0)] _) zq_221 rfl) rfl) hRLTmh
              have hRSEm125 := zR_SE_fr (zdis_fr (zfr_up hmm125 (zfr_rf [(130, 0)] _) zq_221 rfl) rfl) hRSEmh
              exact zw_some ⟨hIm125, hFm125, hREBm125, hRKNm125, hRLTm125, hRSEm125, trivial⟩
            · have hM : (18 - 0) * 1 + 0 < (k : Int) := by omega
              exact zw_le (zu_forget (zu_lr_same (zu_lr_same (zu_lr_same (zu_lr_same (zu_lr_drop zu_lr_nil)))))) (ih.2.2.2 x2 0 mh hImh hFmh ⟨by omega, by omega⟩ ⟨by omega, by omega⟩ ⟨by omega, by omega⟩ ⟨by omega, by omega⟩ hREBmh hRKNmh hRLTmh hRSEmh hM)
        · exfalso; omega
      · have w126 := zu_w32_id (z := 18 * a1) (by omega) (by omega)
        have w127 := zu_w32_id (z := (zu_w32 (18 * a1)) + x4) (by omega) (by omega)
        have b128 : 0 ≤ (zu_w32 ((zu_w32 (18 * a1)) + x4)) ∧ (zu_w32 ((zu_w32 (18 * a1)) + x4)) < 36 := by omega
        refine zw_if b128 ?_
        have r129 : (-3) ≤ (mh 215 (zu_w32 ((zu_w32 (18 * a1)) + x4))) ∧ (mh 215 (zu_w32 ((zu_w32 (18 * a1)) + x4))) ≤ 3 := zi_rd hImh zq_215 (zb_124 _)
        refine zw_ite (fun h130 => ?_) (fun h130 => ?_)
        · have w131 := zu_w32_id (z := x4 + 1) (by omega) (by omega)
          have hM : (18 - (zu_w32 (x4 + 1))) * 1 + 19 < (k : Int) := by omega
          exact ih.2.2.1 x2 x3 (zu_w32 (x4 + 1)) mh hImh hFmh ⟨by omega, by omega⟩ ⟨by omega, by omega⟩ ⟨by omega, by omega⟩ ⟨by omega, by omega⟩ ⟨by omega, by omega⟩ hREBmh hRKNmh hRLTmh hRSEmh hM
        · have b132 : 0 ≤ x4 ∧ x4 < 36 := by omega
          refine zw_if b132 ?_
          have r133 : 0 ≤ (mh 197 x4) ∧ (mh 197 x4) ≤ 47 := zi_rd hImh zq_197 (zb_106 _)
          refine zw_ite (fun h134 => ?_) (fun h134 => ?_)
          · have b135 : 0 ≤ a1 ∧ a1 < 2 := by omega
            refine zw_if b135 ?_
            refine zw_ite (fun h136 => ?_) (fun h136 => ?_)
            · have b137 : 0 ≤ (3 : Int) ∧ (3 : Int) < 10 := by omega
              refine zw_if b137 ?_
              have r138 : (-1) ≤ (mh 194 3) ∧ (mh 194 3) ≤ 99999 := zi_rd hImh zq_194 (zb_103 _)
              refine zw_ite (fun h139 => ?_) (fun h139 => ?_)
              · have b140 : 0 ≤ a1 ∧ a1 < 2 := by omega
                refine zw_if b140 ?_
                have r141 : (-2147483648) ≤ (mh 221 a1) ∧ (mh 221 a1) ≤ 2147483647 := zi_rd hImh zq_221 (zb_130 _)
                have w142 := zu_w32_rg ((mh 221 a1) + 1)
                have b143 : 0 ≤ a1 ∧ a1 < 2 := by omega
                refine zw_if b143 ?_
                generalize hmm144 : zu_up mh 221 a1 (zu_w32 ((mh 221 a1) + 1)) = m144
                have hIm144 := zi_up hmm144 hImh zq_221 (zb_130 _) (by omega) (by omega)
                have hFm144 := zfr_up hmm144 hFmh zq_221 rfl
                have hREBm144 := zR_EB_fr (zdis_fr (zfr_up hmm144 (zfr_rf [(130, 0)] _) zq_221 rfl) rfl) hREBmh
                have hRKNm144 := zR_KN_fr (zdis_fr (zfr_up hmm144 (zfr_rf [(130, 0)] _) zq_221 rfl) rfl) hRKNmh
                have hRLTm144 := zR_LT_fr (zdis_fr (zfr_up hmm144 (zfr_rf [(130, 0)] _) zq_221 rfl) rfl) hRLTmh
                have hRSEm144 := zR_SE_fr (zdis_fr (zfr_up hmm144 (zfr_rf [(130, 0)] _) zq_221 rfl) rfl) hRSEmh
                exact zw_some ⟨hIm144, hFm144, hREBm144, hRKNm144, hRLTm144, hRSEm144, trivial⟩
              · have r145 : 0 ≤ (mh a0 66) ∧ (mh a0 66) ≤ 1 := zi_rd hImh hc0 zb_28_66
                refine zw_ite (fun h146 => ?_) (fun h146 => ?_)
                · have b147 : 0 ≤ a1 ∧ a1 < 2 := by omega
                  refine zw_if b147 ?_
                  have r148 : (-2147483648) ≤ (mh 221 a1) ∧ (mh 221 a1) ≤ 2147483647 := zi_rd hImh zq_221 (zb_130 _)
                  have w149 := zu_w32_rg ((mh 221 a1) + 1)
                  have b150 : 0 ≤ a1 ∧ a1 < 2 := by omega
                  refine zw_if b150 ?_
                  generalize hmm151 : zu_up mh 221 a1 (zu_w32 ((mh 221 a1) + 1)) = m151
                  have hIm151 := zi_up hmm151 hImh zq_221 (zb_130 _) (by omega) (by omega)
                  have hFm151 := zfr_up hmm151 hFmh zq_221 rfl
                  have hREBm151 := zR_EB_fr (zdis_fr (zfr_up hmm151 (zfr_rf [(130, 0)] _) zq_221 rfl) rfl) hREBmh
                  have hRKNm151 := zR_KN_fr (zdis_fr (zfr_up hmm151 (zfr_rf [(130, 0)] _) zq_221 rfl) rfl) hRKNmh
                  have hRLTm151 := zR_LT_fr (zdis_fr (zfr_up hmm151 (zfr_rf [(130, 0)] _) zq_221 rfl) rfl) hRLTmh
                  have hRSEm151 := zR_SE_fr (zdis_fr (zfr_up hmm151 (zfr_rf [(130, 0)] _) zq_221 rfl) rfl) hRSEmh
                  exact zw_some ⟨hIm151, hFm151, hREBm151, hRKNm151, hRLTm151, hRSEm151, trivial⟩
                · have hM : (18 - 0) * 1 + 0 < (k : Int) := by omega
                  exact zw_le (zu_forget (zu_lr_same (zu_lr_same (zu_lr_same (zu_lr_same (zu_lr_drop zu_lr_nil)))))) (ih.2.2.2 x2 0 mh hImh hFmh ⟨by omega, by omega⟩ ⟨by omega, by omega⟩ ⟨by omega, by omega⟩ ⟨by omega, by omega⟩ hREBmh hRKNmh hRLTmh hRSEmh hM)
            · have b152 : 0 ≤ (zu_w32 ((zu_w32 (18 * a1)) + x4)) ∧ (zu_w32 ((zu_w32 (18 * a1)) + x4)) < 36 := by omega
              refine zw_if b152 ?_
              generalize hmm153 : zu_up mh 215 (zu_w32 ((zu_w32 (18 * a1)) + x4)) (-2) = m153
              have hIm153 := zi_up hmm153 hImh zq_215 (zb_124 _) (by omega) (by omega)
              have hFm153 := zfr_up hmm153 hFmh zq_215 rfl
              have hREBm153 := zR_EB_fr (zdis_fr (zfr_up hmm153 (zfr_rf [(124, 0)] _) zq_215 rfl) rfl) hREBmh
              have hRKNm153 := zR_KN_fr (zdis_fr (zfr_up hmm153 (zfr_rf [(124, 0)] _) zq_215 rfl) rfl) hRKNmh
              have hRLTm153 := zR_LT_fr (zdis_fr (zfr_up hmm153 (zfr_rf [(124, 0)] _) zq_215 rfl) rfl) hRLTmh
              have hRSEm153 := zR_SE_fr (zdis_fr (zfr_up hmm153 (zfr_rf [(124, 0)] _) zq_215 rfl) rfl) hRSEmh
              have b154 : 0 ≤ (3 : Int) ∧ (3 : Int) < 10 := by omega
              refine zw_if b154 ?_
              have r155 : (-1) ≤ (m153 194 3) ∧ (m153 194 3) ≤ 99999 := zi_rd hIm153 zq_194 (zb_103 _)
              refine zw_ite (fun h156 => ?_) (fun h156 => ?_)
              · have b157 : 0 ≤ a1 ∧ a1 < 2 := by omega
                refine zw_if b157 ?_
                have r158 : (-2147483648) ≤ (m153 221 a1) ∧ (m153 221 a1) ≤ 2147483647 := zi_rd hIm153 zq_221 (zb_130 _)
                have w159 := zu_w32_rg ((m153 221 a1) + 1)
                have b160 : 0 ≤ a1 ∧ a1 < 2 := by omega
                refine zw_if b160 ?_
                generalize hmm161 : zu_up m153 221 a1 (zu_w32 ((m153 221 a1) + 1)) = m161
                have hIm161 := zi_up hmm161 hIm153 zq_221 (zb_130 _) (by omega) (by omega)
                have hFm161 := zfr_up hmm161 hFm153 zq_221 rfl
                have hREBm161 := zR_EB_fr (zdis_fr (zfr_up hmm161 (zfr_rf [(130, 0)] _) zq_221 rfl) rfl) hREBm153
                have hRKNm161 := zR_KN_fr (zdis_fr (zfr_up hmm161 (zfr_rf [(130, 0)] _) zq_221 rfl) rfl) hRKNm153
                have hRLTm161 := zR_LT_fr (zdis_fr (zfr_up hmm161 (zfr_rf [(130, 0)] _) zq_221 rfl) rfl) hRLTm153
                have hRSEm161 := zR_SE_fr (zdis_fr (zfr_up hmm161 (zfr_rf [(130, 0)] _) zq_221 rfl) rfl) hRSEm153
                exact zw_some ⟨hIm161, hFm161, hREBm161, hRKNm161, hRLTm161, hRSEm161, trivial⟩
              · have r162 : 0 ≤ (m153 a0 66) ∧ (m153 a0 66) ≤ 1 := zi_rd hIm153 hc0 zb_28_66
                refine zw_ite (fun h163 => ?_) (fun h163 => ?_)
                · have b164 : 0 ≤ a1 ∧ a1 < 2 := by omega
                  refine zw_if b164 ?_
                  have r165 : (-2147483648) ≤ (m153 221 a1) ∧ (m153 221 a1) ≤ 2147483647 := zi_rd hIm153 zq_221 (zb_130 _)
                  have w166 := zu_w32_rg ((m153 221 a1) + 1)
                  have b167 : 0 ≤ a1 ∧ a1 < 2 := by omega
                  refine zw_if b167 ?_
                  generalize hmm168 : zu_up m153 221 a1 (zu_w32 ((m153 221 a1) + 1)) = m168
                  have hIm168 := zi_up hmm168 hIm153 zq_221 (zb_130 _) (by omega) (by omega)
                  have hFm168 := zfr_up hmm168 hFm153 zq_221 rfl
                  have hREBm168 := zR_EB_fr (zdis_fr (zfr_up hmm168 (zfr_rf [(130, 0)] _) zq_221 rfl) rfl) hREBm153
                  have hRKNm168 := zR_KN_fr (zdis_fr (zfr_up hmm168 (zfr_rf [(130, 0)] _) zq_221 rfl) rfl) hRKNm153
                  have hRLTm168 := zR_LT_fr (zdis_fr (zfr_up hmm168 (zfr_rf [(130, 0)] _) zq_221 rfl) rfl) hRLTm153
                  have hRSEm168 := zR_SE_fr (zdis_fr (zfr_up hmm168 (zfr_rf [(130, 0)] _) zq_221 rfl) rfl) hRSEm153
                  exact zw_some ⟨hIm168, hFm168, hREBm168, hRKNm168, hRLTm168, hRSEm168, trivial⟩
                · have hM : (18 - 0) * 1 + 0 < (k : Int) := by omega
                  exact zw_le (zu_forget (zu_lr_same (zu_lr_same (zu_lr_same (zu_lr_same (zu_lr_drop zu_lr_nil)))))) (ih.2.2.2 x2 0 m153 hIm153 hFm153 ⟨by omega, by omega⟩ ⟨by omega, by omega⟩ ⟨by omega, by omega⟩ ⟨by omega, by omega⟩ hREBm153 hRKNm153 hRLTm153 hRSEm153 hM)
          · have w169 := zu_w32_id (z := x4 + 1) (by omega) (by omega)
            have hM : (18 - (zu_w32 (x4 + 1))) * 1 + 19 < (k : Int) := by omega
            exact ih.2.2.1 x2 x3 (zu_w32 (x4 + 1)) mh hImh hFmh ⟨by omega, by omega⟩ ⟨by omega, by omega⟩ ⟨by omega, by omega⟩ ⟨by omega, by omega⟩ ⟨by omega, by omega⟩ hREBmh hRKNmh hRLTmh hRSEmh hM
    · intro x2 x3 mh hImh hFmh hba1 hbx2 hbx3 hg3 hREBmh hRKNmh hRLTmh hRSEmh hM
      refine zw_eq (zu_rega_at (zt_T n) (zm_140 n) (zdp_140 n) _ _ _ _ _ _ (zr_140_226 n _ _ a0 a1 x2 x3 mh)) ?_
      have b170 : 0 ≤ a1 ∧ a1 < 2 := by omega
      refine zw_if b170 ?_
      have r171 : 0 ≤ (mh 216 a1) ∧ (mh 216 a1) ≤ 18 := zi_rdr (m := 2) (r0 := 0) (r1 := 1) hImh zq_216 (by omega) (by decide +kernel)
      refine zw_ite (fun h172 => ?_) (fun h172 => ?_)
      · have b173 : 0 ≤ a1 ∧ a1 < 2 := by omega
        refine zw_if b173 ?_
        have r174 : (-2147483648) ≤ (mh 221 a1) ∧ (mh 221 a1) ≤ 2147483647 := zi_rd hImh zq_221 (zb_130 _)
        have w175 := zu_w32_rg ((mh 221 a1) + 1)
        have b176 : 0 ≤ a1 ∧ a1 < 2 := by omega
        refine zw_if b176 ?_
        generalize hmm177 : zu_up mh 221 a1 (zu_w32 ((mh 221 a1) + 1)) = m177
        have hIm177 := zi_up hmm177 hImh zq_221 (zb_130 _) (by omega) (by omega)
        have hFm177 := zfr_up hmm177 hFmh zq_221 rfl
        have hREBm177 := zR_EB_fr (zdis_fr (zfr_up hmm177 (zfr_rf [(130, 0)] _) zq_221 rfl) rfl) hREBmh
        have hRKNm177 := zR_KN_fr (zdis_fr (zfr_up hmm177 (zfr_rf [(130, 0)] _) zq_221 rfl) rfl) hRKNmh
        have hRLTm177 := zR_LT_fr (zdis_fr (zfr_up hmm177 (zfr_rf [(130, 0)] _) zq_221 rfl) rfl) hRLTmh
        have hRSEm177 := zR_SE_fr (zdis_fr (zfr_up hmm177 (zfr_rf [(130, 0)] _) zq_221 rfl) rfl) hRSEmh
        exact zw_some ⟨hIm177, hFm177, hREBm177, hRKNm177, hRLTm177, hRSEm177, trivial⟩
      · have w178 := zu_w32_id (z := 18 * a1) (by omega) (by omega)
        have w179 := zu_w32_id (z := (zu_w32 (18 * a1)) + x3) (by omega) (by omega)
        have b180 : 0 ≤ (zu_w32 ((zu_w32 (18 * a1)) + x3)) ∧ (zu_w32 ((zu_w32 (18 * a1)) + x3)) < 36 := by omega
        refine zw_if b180 ?_
        have r181 : (-3) ≤ (mh 215 (zu_w32 ((zu_w32 (18 * a1)) + x3))) ∧ (mh 215 (zu_w32 ((zu_w32 (18 * a1)) + x3))) ≤ 3 := zi_rd hImh zq_215 (zb_124 _)
        refine zw_ite (fun h182 => ?_) (fun h182 => ?_)
        · have w183 := zu_w32_id (z := x3 + 1) (by omega) (by omega)
          have hM : (18 - (zu_w32 (x3 + 1))) * 1 + 0 < (k : Int) := by omega
          exact ih.2.2.2 x2 (zu_w32 (x3 + 1)) mh hImh hFmh ⟨by omega, by omega⟩ ⟨by omega, by omega⟩ ⟨by omega, by omega⟩ ⟨by omega, by omega⟩ hREBmh hRKNmh hRLTmh hRSEmh hM
        · have b184 : 0 ≤ x3 ∧ x3 < 36 := by omega
          refine zw_if b184 ?_
          have r185 : 0 ≤ (mh 197 x3) ∧ (mh 197 x3) ≤ 47 := zi_rd hImh zq_197 (zb_106 _)
          have b186 : 0 ≤ (mh 197 x3) ∧ (mh 197 x3) < 96 := by omega
          refine zw_if b186 ?_
          have r187 : (-2147483648) ≤ (mh 195 (mh 197 x3)) ∧ (mh 195 (mh 197 x3)) ≤ 2147483647 := zi_rd hImh zq_195 (zb_104 _)
          refine zw_ite (fun h188 => ?_) (fun h188 => ?_)
          · have w189 := zu_w32_id (z := x3 + 1) (by omega) (by omega)
            have hM : (18 - (zu_w32 (x3 + 1))) * 1 + 0 < (k : Int) := by omega
            exact ih.2.2.2 x2 (zu_w32 (x3 + 1)) mh hImh hFmh ⟨by omega, by omega⟩ ⟨by omega, by omega⟩ ⟨by omega, by omega⟩ ⟨by omega, by omega⟩ hREBmh hRKNmh hRLTmh hRSEmh hM
          · have b190 : 0 ≤ (zu_w32 ((zu_w32 (18 * a1)) + x3)) ∧ (zu_w32 ((zu_w32 (18 * a1)) + x3)) < 36 := by omega
            refine zw_if b190 ?_
            generalize hmm191 : zu_up mh 215 (zu_w32 ((zu_w32 (18 * a1)) + x3)) (-3) = m191
            have hIm191 := zi_up hmm191 hImh zq_215 (zb_124 _) (by omega) (by omega)
            have hFm191 := zfr_up hmm191 hFmh zq_215 rfl
            have hREBm191 := zR_EB_fr (zdis_fr (zfr_up hmm191 (zfr_rf [(124, 0)] _) zq_215 rfl) rfl) hREBmh
            have hRKNm191 := zR_KN_fr (zdis_fr (zfr_up hmm191 (zfr_rf [(124, 0)] _) zq_215 rfl) rfl) hRKNmh
            have hRLTm191 := zR_LT_fr (zdis_fr (zfr_up hmm191 (zfr_rf [(124, 0)] _) zq_215 rfl) rfl) hRLTmh
            have hRSEm191 := zR_SE_fr (zdis_fr (zfr_up hmm191 (zfr_rf [(124, 0)] _) zq_215 rfl) rfl) hRSEmh
            have w192 := zu_w32_id (z := x3 + 1) (by omega) (by omega)
            have r193 : 0 ≤ (m191 a0 66) ∧ (m191 a0 66) ≤ 1 := zi_rd hIm191 hc0 zb_28_66
            have e194 : (m191 a0 66) = (mh a0 66) := (zs_ne hmm191 (Or.inl (zc_ne hc0 zq_215 (by decide))))
            have hM : (18 - (zu_w32 (x3 + 1))) * 1 + 0 < (k : Int) := by omega
            exact ih.2.2.2 x2 (zu_w32 (x3 + 1)) m191 hIm191 hFm191 ⟨by omega, by omega⟩ ⟨by omega, by omega⟩ ⟨by omega, by omega⟩ ⟨by omega, by omega⟩ hREBm191 hRKNm191 hRLTm191 hRSEm191 hM
set_option maxHeartbeats 4000000 in
theorem zk_140 (n : Nat) {a0 a1 : Int} {m0 : zu_m} (hIm0 : zi_I m0) (hc0 : zcls a0 = 28) (ha1 : 0 ≤ a1 ∧ a1 ≤ 1)    (hREBm0 : zE1 m0 a1) (hRKNm0 : zR_KN m0) (hRLTm0 : zR_LT m0) (hRSEm0 : zE1 m0 0) : zw (zu_call (zt_T n) 140 [(40, a0), (0, a1)] m0) (fun v m => zi_I m ∧ zfr [(28, 54), (28, 64), (122, 0), (123, 0), (124, 0), (126, 0), (128, 0), (129, 0), (130, 0), (131, 0)] m0 m ∧ zE1 m a1 ∧ zR_KN m ∧ zR_LT m ∧ zE1 m 0 ∧ True) := by
  have hFm0 : zfr [(28, 54), (28, 64), (122, 0), (123, 0), (124, 0), (126, 0), (128, 0), (129, 0), (130, 0), (131, 0)] m0 m0 := zfr_rf _ _
  refine zw_eq (zu_call_at (zt_T n) (zm_140 n) (zdp_140 n) _ _ _ _ _ rfl (zr_140_0 n _ _ a0 a1 m0)) ?_
  have b195 : 0 ≤ a1 ∧ a1 < 2 := by omega
  refine zw_if b195 ?_
  have r196 : (-2147483648) ≤ (m0 221 a1) ∧ (m0 221 a1) ≤ 2147483647 := zi_rd hIm0 zq_221 (zb_130 _)
  have hM : (4 - 0) * 1 + 43 < ((48 : Nat) : Int) := by omega
  exact (zl_140 n (m0 := m0) hc0 48).1 (m0 221 a1) 0 m0 hIm0 hFm0 ⟨by omega, by omega⟩ ⟨by omega, by omega⟩ ⟨by omega, by omega⟩ hREBm0 hRKNm0 hRLTm0 hRSEm0 hM
set_option maxHeartbeats 4000000 in
theorem zl_153 (n : Nat) {a0 a1 : Int} {m0 : zu_m} (hc0 : zcls a0 = 28)   : ∀ k : Nat, (∀ (x2 : Int) (mh : zu_m), zi_I mh → zfr [(28, 3), (28, 54), (28, 64), (28, 65), (28, 66), (28, 67), (28, 68), (28, 69), (28, 70), (28, 82), (122, 0), (123, 0), (124, 0), (126, 0), (128, 0), (129, 0), (130, 0), (131, 0)] m0 mh → (0 ≤ a1 ∧ a1 ≤ 200) → (0 ≤ x2 ∧ x2 ≤ 200) → (0 ≤ mh a0 2 ∧ mh a0 2 ≤ 0) → (0 ≤ mh a0 65 ∧ mh a0 65 ≤ 0) → (0 ≤ mh a0 66 ∧ mh a0 66 ≤ 0) → (0 ≤ mh a0 67 ∧ mh a0 67 ≤ 0) → (0 ≤ mh a0 68 ∧ mh a0 68 ≤ 0) → ((-1) ≤ mh a0 69 ∧ mh a0 69 ≤ (-1)) → (zR_KN mh) → (zR_LT mh) → (zR_RU mh) → (zE1 mh 0) → (200 - x2) * 1 + 0 < (k : Int) → zw (zu_ex (zt_T n) 153 38 [(40, a0), (0, a1), (0, x2)] [] mh) (fun v m => zi_I m ∧ zfr [(28, 3), (28, 54), (28, 64), (28, 65), (28, 66), (28, 67), (28, 68), (28, 69), (28, 70), (28, 82), (122, 0), (123, 0), (124, 0), (126, 0), (128, 0), (129, 0), (130, 0), (131, 0)] m0 m ∧ zR_KN m ∧ zR_LT m ∧ zR_RU m ∧ zE1 m 0 ∧ ((-2147483648) ≤ v ∧ v ≤ 2147483647) ∧ (0 ≤ m a0 2 ∧ m a0 2 ≤ 0))) := by
  intro k
  induction k with
  | zero => exact fun x2 mh hImh hFmh hba1 hbx2 hg2 hg3 hg4 hg5 hg6 hg7 hRKNmh hRLTmh hRRUmh hRSEmh hM => by exfalso; omega
  | succ k ih =>
    intro x2 mh hImh hFmh hba1 hbx2 hg2 hg3 hg4 hg5 hg6 hg7 hRKNmh hRLTmh hRRUmh hRSEmh hM
    refine zw_eq (zu_rega_at (zt_T n) (zm_153 n) (zdp_153 n) _ _ _ _ _ _ (zr_153_38 n _ _ a0 a1 x2 mh)) ?_
    refine zw_ite (fun h1 => ?_) (fun h1 => ?_)
    · refine zw_ite (fun h2 => ?_) (fun h2 => ?_)
      · have r3 : 0 ≤ (mh a0 81) ∧ (mh a0 81) ≤ 20 := zi_rd hImh hc0 zb_28_81
        generalize hmm4 : zu_up mh a0 81 (mh a0 81) = m4
        have hIm4 := zi_up hmm4 hImh hc0 zb_28_81 (by omega) (by omega)
        have hFm4 := zfr_up hmm4 hFmh hc0 rfl
        have hRKNm4 := zR_KN_fr (zdis_fr (zfr_up hmm4 (zfr_rf [(28, 82)] _) hc0 rfl) rfl) hRKNmh
        have hRLTm4 := zR_LT_fr (zdis_fr (zfr_up hmm4 (zfr_rf [(28, 82)] _) hc0 rfl) rfl) hRLTmh
        have hRSEm4 := zR_SE_fr (zdis_fr (zfr_up hmm4 (zfr_rf [(28, 82)] _) hc0 rfl) rfl) hRSEmh
        have hRRUm4 := zRU_dn (zone_190 hc0) hmm4 (by omega) hRRUmh
        have b5 : 0 ≤ (0 : Int) ∧ (0 : Int) < 2 := by omega
        refine zw_if b5 ?_
        have r6 : (-2147483648) ≤ (m4 221 0) ∧ (m4 221 0) ≤ 2147483647 := zi_rd hIm4 zq_221 (zb_130 _)
        have r7 : (-2147483648) ≤ (m4 a0 2) ∧ (m4 a0 2) ≤ 2147483647 := zi_rd hIm4 hc0 zb_28_2
        have e8 : (m4 a0 2) = (mh a0 2) := (zs_ne hmm4 (Or.inr (by decide)))
        exact zw_some ⟨hIm4, hFm4, hRKNm4, hRLTm4, hRRUm4, hRSEm4, ⟨by omega, by omega⟩, ⟨by omega, by omega⟩⟩
      · generalize hmm9 : zu_up mh a0 81 0 = m9
        have hIm9 := zi_up hmm9 hImh hc0 zb_28_81 (by omega) (by omega)
        have hFm9 := zfr_up hmm9 hFmh hc0 rfl
        have hRKNm9 := zR_KN_fr (zdis_fr (zfr_up hmm9 (zfr_rf [(28, 82)] _) hc0 rfl) rfl) hRKNmh
        have hRLTm9 := zR_LT_fr (zdis_fr (zfr_up hmm9 (zfr_rf [(28, 82)] _) hc0 rfl) rfl) hRLTmh
        have hRSEm9 := zR_SE_fr (zdis_fr (zfr_up hmm9 (zfr_rf [(28, 82)] _) hc0 rfl) rfl) hRSEmh
        have r10 : 0 ≤ (mh a0 81) ∧ (mh a0 81) ≤ 20 := zi_rd hImh hc0 zb_28_81
        have hRRUm9 := zRU_dn (zone_190 hc0) hmm9 (by omega) hRRUmh
        have b11 : 0 ≤ (0 : Int) ∧ (0 : Int) < 2 := by omega
        refine zw_if b11 ?_
        have r12 : (-2147483648) ≤ (m9 221 0) ∧ (m9 221 0) ≤ 2147483647 := zi_rd hIm9 zq_221 (zb_130 _)
        have r13 : (-2147483648) ≤ (m9 a0 2) ∧ (m9 a0 2) ≤ 2147483647 := zi_rd hIm9 hc0 zb_28_2
        have e14 : (m9 a0 2) = (mh a0 2) := (zs_ne hmm9 (Or.inr (by decide)))
        exact zw_some ⟨hIm9, hFm9, hRKNm9, hRLTm9, hRRUm9, hRSEm9, ⟨by omega, by omega⟩, ⟨by omega, by omega⟩⟩
    · refine zw_bd (zw_mono (zk_140 n hImh hc0 ⟨by omega, by omega⟩ hRSEmh hRKNmh hRLTmh hRSEmh) (fun v16 m15 hqm15 => ?_))
      obtain ⟨hIm15, hfm15, hvm15⟩ := hqm15
      have hFm15 := zfr_tr hFmh hfm15 rfl
      obtain ⟨hRSEm15, hRKNm15, hRLTm15, hRSEm15, hvm15⟩ := hvm15
      have hRRUm15 := zR_RU_fr (zdis_fr hfm15 rfl) hRRUmh
      have w17 := zu_w32_id (z := x2 + 1) (by omega) (by omega)
      have r18 : (-2147483648) ≤ (m15 a0 2) ∧ (m15 a0 2) ≤ 2147483647 := zi_rd hIm15 hc0 zb_28_2
      have e19 : (m15 a0 2) = (mh a0 2) := (zfr_ap hfm15 hc0 rfl)
      have r20 : (-2147483648) ≤ (m15 a0 69) ∧ (m15 a0 69) ≤ 2147483647 := zi_rd hIm15 hc0 zb_28_69
      have e21 : (m15 a0 69) = (mh a0 69) := (zfr_ap hfm15 hc0 rfl)
      have r22 : 0 ≤ (m15 a0 65) ∧ (m15 a0 65) ≤ 1 := zi_rd hIm15 hc0 zb_28_65
      have e23 : (m15 a0 65) = (mh a0 65) := (zfr_ap hfm15 hc0 rfl)
      have r24 : 0 ≤ (m15 a0 66) ∧ (m15 a0 66) ≤ 1 := zi_rd hIm15 hc0 zb_28_66
      have e25 : (m15 a0 66) = (mh a0 66) := (zfr_ap hfm15 hc0 rfl)
      have r26 : 0 ≤ (m15 a0 67) ∧ (m15 a0 67) ≤ 1 := zi_rd hIm15 hc0 zb_28_67
      have e27 : (m15 a0 67) = (mh a0 67) := (zfr_ap hfm15 hc0 rfl)
      have r28 : 0 ≤ (m15 a0 68) ∧ (m15 a0 68) ≤ 1 := zi_rd hIm15 hc0 zb_28_68
      have e29 : (m15 a0 68) = (mh a0 68) := (zfr_ap hfm15 hc0 rfl)
      have hM : (200 - (zu_w32 (x2 + 1))) * 1 + 0 < (k : Int) := by omega
      exact ih (zu_w32 (x2 + 1)) m15 hIm15 hFm15 ⟨by omega, by omega⟩ ⟨by omega, by omega⟩ ⟨by omega, by omega⟩ ⟨by omega, by omega⟩ ⟨by omega, by omega⟩ ⟨by omega, by omega⟩ ⟨by omega, by omega⟩ ⟨by omega, by omega⟩ hRKNm15 hRLTm15 hRRUm15 hRSEm15 hM
set_option maxHeartbeats 4000000 in
theorem zk_153 (n : Nat) {a0 a1 : Int} {m0 : zu_m} (hIm0 : zi_I m0) (hc0 : zcls a0 = 28) (ha1 : (-2147483648) ≤ a1 ∧ a1 ≤ 2147483647)    (hRKNm0 : zR_KN m0) (hRLTm0 : zR_LT m0) (hRRUm0 : zR_RU m0) (hRSEm0 : zE1 m0 0) : zw (zu_call (zt_T n) 153 [(40, a0), (0, a1)] m0) (fun v m => zi_I m ∧ zfr [(28, 3), (28, 54), (28, 64), (28, 65), (28, 66), (28, 67), (28, 68), (28, 69), (28, 70), (28, 82), (122, 0), (123, 0), (124, 0), (126, 0), (128, 0), (129, 0), (130, 0), (131, 0)] m0 m ∧ zR_KN m ∧ zR_LT m ∧ zR_RU m ∧ zE1 m 0 ∧ ((-2147483648) ≤ v ∧ v ≤ 2147483647) ∧ (0 ≤ m a0 2 ∧ m a0 2 ≤ 0)) := by
  have hFm0 : zfr [(28, 3), (28, 54), (28, 64), (28, 65), (28, 66), (28, 67), (28, 68), (28, 69), (28, 70), (28, 82), (122, 0), (123, 0), (124, 0), (126, 0), (128, 0), (129, 0), (130, 0), (131, 0)] m0 m0 := zfr_rf _ _
  refine zw_eq (zu_call_at (zt_T n) (zm_153 n) (zdp_153 n) _ _ _ _ _ rfl (zr_153_0 n _ _ a0 a1 m0)) ?_
  generalize hmm30 : zu_up m0 a0 2 0 = m30
  have hIm30 := zi_up hmm30 hIm0 hc0 zb_28_2 (by omega) (by omega)
  have hFm30 := zfr_up hmm30 hFm0 hc0 rfl
  have hRKNm30 := zR_KN_fr (zdis_fr (zfr_up hmm30 (zfr_rf [(28, 3)] _) hc0 rfl) rfl) hRKNm0
  have hRLTm30 := zR_LT_fr (zdis_fr (zfr_up hmm30 (zfr_rf [(28, 3)] _) hc0 rfl) rfl) hRLTm0
  have hRRUm30 := zR_RU_fr (zdis_fr (zfr_up hmm30 (zfr_rf [(28, 3)] _) hc0 rfl) rfl) hRRUm0
  have hRSEm30 := zR_SE_fr (zdis_fr (zfr_up hmm30 (zfr_rf [(28, 3)] _) hc0 rfl) rfl) hRSEm0
  refine zw_bd (zw_eq (zu_call_at (zt_T n) (zm_83 n) (zdp_83 n) _ _ _ _ _ rfl (zr_83_0 n _ _ a1 0 200 m30)) ?_)
  refine zw_ite (fun h31 => ?_) (fun h31 => ?_)
  · refine zw_b (by omega) ?_
    refine zw_some ?_
    refine zw_ite (fun h32 => ?_) (fun h32 => ?_)
    · have r33 : (-2147483648) ≤ (m30 a0 2) ∧ (m30 a0 2) ≤ 2147483647 := zi_rd hIm30 hc0 zb_28_2
      have e34 : (m30 a0 2) = 0 := (zs_eq hmm30)
      exact zw_some ⟨hIm30, hFm30, hRKNm30, hRLTm30, hRRUm30, hRSEm30, ⟨by omega, by omega⟩, ⟨by omega, by omega⟩⟩
    · exfalso; omega
  · refine zw_ite (fun h35 => ?_) (fun h35 => ?_)
    · refine zw_b (by omega) ?_
      refine zw_some ?_
      refine zw_ite (fun h36 => ?_) (fun h36 => ?_)
      · have r37 : (-2147483648) ≤ (m30 a0 2) ∧ (m30 a0 2) ≤ 2147483647 := zi_rd hIm30 hc0 zb_28_2
        have e38 : (m30 a0 2) = 0 := (zs_eq hmm30)
        exact zw_some ⟨hIm30, hFm30, hRKNm30, hRLTm30, hRRUm30, hRSEm30, ⟨by omega, by omega⟩, ⟨by omega, by omega⟩⟩
      · exfalso; omega
    · refine zw_b (by omega) ?_
      refine zw_some ?_
      refine zw_ite (fun h39 => ?_) (fun h39 => ?_)
      · exfalso; omega
      · have b40 : 0 ≤ (0 : Int) ∧ (0 : Int) < 2 := by omega
        refine zw_if b40 ?_
        have r41 : (-2147483648) ≤ (m30 221 0) ∧ (m30 221 0) ≤ 2147483647 := zi_rd hIm30 zq_221 (zb_130 _)
        have w42 := zu_w32_rg ((m30 221 0) + a1)
        refine zw_ite (fun h43 => ?_) (fun h43 => ?_)
        · refine zw_bd (zw_mono (zk_35 n hIm30 hc0) (fun v45 m44 hqm44 => ?_))
          obtain ⟨hIm44, hfm44, hvm44⟩ := hqm44
          have hFm44 := zfr_tr hFm30 hfm44 rfl
          have hRKNm44 := zR_KN_fr (zdis_fr hfm44 rfl) hRKNm30
          have hRLTm44 := zR_LT_fr (zdis_fr hfm44 rfl) hRLTm30
          have hRRUm44 := zR_RU_fr (zdis_fr hfm44 rfl) hRRUm30
          have hRSEm44 := zR_SE_fr (zdis_fr hfm44 rfl) hRSEm30
          have r46 : (-2147483648) ≤ (m44 a0 2) ∧ (m44 a0 2) ≤ 2147483647 := zi_rd hIm44 hc0 zb_28_2
          have e47 : (m44 a0 2) = 0 := (Eq.trans (zfr_ap hfm44 hc0 rfl) (zs_eq hmm30))
          have hM : (200 - 0) * 1 + 0 < ((201 : Nat) : Int) := by omega
          exact (zl_153 n (m0 := m0) hc0 201) 0 m44 hIm44 hFm44 ⟨by omega, by omega⟩ ⟨by omega, by omega⟩ ⟨by omega, by omega⟩ ⟨by omega, by omega⟩ ⟨by omega, by omega⟩ ⟨by omega, by omega⟩ ⟨by omega, by omega⟩ ⟨by omega, by omega⟩ hRKNm44 hRLTm44 hRRUm44 hRSEm44 hM
        · have r48 : (-2147483648) ≤ (m30 a0 2) ∧ (m30 a0 2) ≤ 2147483647 := zi_rd hIm30 hc0 zb_28_2
          have e49 : (m30 a0 2) = 0 := (zs_eq hmm30)
          exact zw_some ⟨hIm30, hFm30, hRKNm30, hRLTm30, hRRUm30, hRSEm30, ⟨by omega, by omega⟩, ⟨by omega, by omega⟩⟩
set_option maxHeartbeats 4000000 in
theorem zl_159 (n : Nat) {a0 a1 : Int} {m0 : zu_m} (hc0 : zcls a0 = 28)   : ∀ k : Nat, (∀ (x2 : Int) (mh : zu_m), zi_I mh → zfr [(28, 54), (28, 64), (28, 65), (28, 66), (28, 67), (28, 68), (28, 69), (28, 70), (122, 0), (123, 0), (124, 0), (126, 0), (128, 0), (129, 0), (130, 0), (131, 0)] m0 mh → (0 ≤ a1 ∧ a1 ≤ 200) → (0 ≤ x2 ∧ x2 ≤ 200) → (1 ≤ mh a0 65 ∧ mh a0 65 ≤ 1) → (zR_KN mh) → (zR_LT mh) → (zE1 mh 1) → (zE1 mh 0) → (200 - x2) * 1 + 0 < (k : Int) → zw (zu_ex (zt_T n) 159 7 [(40, a0), (0, a1), (0, x2)] [] mh) (fun v m => zi_I m ∧ zfr [(28, 54), (28, 64), (28, 65), (28, 66), (28, 67), (28, 68), (28, 69), (28, 70), (122, 0), (123, 0), (124, 0), (126, 0), (128, 0), (129, 0), (130, 0), (131, 0)] m0 m ∧ zR_KN m ∧ zR_LT m ∧ zE1 m 1 ∧ zE1 m 0 ∧ True ∧ (0 ≤ m a0 65 ∧ m a0 65 ≤ 0))) := by
  intro k
  induction k with
  | zero => exact fun x2 mh hImh hFmh hba1 hbx2 hg2 hRKNmh hRLTmh hRS1mh hRSEmh hM => by exfalso; omega
  | succ k ih =>
    intro x2 mh hImh hFmh hba1 hbx2 hg2 hRKNmh hRLTmh hRS1mh hRSEmh hM
    refine zw_eq (zu_rega_at (zt_T n) (zm_159 n) (zdp_159 n) _ _ _ _ _ _ (zr_159_7 n _ _ a0 a1 x2 mh)) ?_
    refine zw_ite (fun h1 => ?_) (fun h1 => ?_)
    · refine zw_bd (zw_mono (zk_35 n hImh hc0) (fun v3 m2 hqm2 => ?_))
      obtain ⟨hIm2, hfm2, hvm2⟩ := hqm2
      have hFm2 := zfr_tr hFmh hfm2 rfl
      have hRKNm2 := zR_KN_fr (zdis_fr hfm2 rfl) hRKNmh
      have hRLTm2 := zR_LT_fr (zdis_fr hfm2 rfl) hRLTmh
      have hRS1m2 := zR_S1_fr (zdis_fr hfm2 rfl) hRS1mh
      have hRSEm2 := zR_SE_fr (zdis_fr hfm2 rfl) hRSEmh
      exact zw_some ⟨hIm2, hFm2, hRKNm2, hRLTm2, hRS1m2, hRSEm2, trivial, ⟨by omega, by omega⟩⟩
    · refine zw_bd (zw_mono (zk_140 n hImh hc0 ⟨by omega, by omega⟩ hRS1mh hRKNmh hRLTmh hRSEmh) (fun v5 m4 hqm4 => ?_))
      obtain ⟨hIm4, hfm4, hvm4⟩ := hqm4
      have hFm4 := zfr_tr hFmh hfm4 rfl
      obtain ⟨hRS1m4, hRKNm4, hRLTm4, hRSEm4, hvm4⟩ := hvm4
      have w6 := zu_w32_id (z := x2 + 1) (by omega) (by omega)
      have r7 : 0 ≤ (m4 a0 65) ∧ (m4 a0 65) ≤ 1 := zi_rd hIm4 hc0 zb_28_65
      have e8 : (m4 a0 65) = (mh a0 65) := (zfr_ap hfm4 hc0 rfl)
      have hM : (200 - (zu_w32 (x2 + 1))) * 1 + 0 < (k : Int) := by omega
      exact ih (zu_w32 (x2 + 1)) m4 hIm4 hFm4 ⟨by omega, by omega⟩ ⟨by omega, by omega⟩ ⟨by omega, by omega⟩ hRKNm4 hRLTm4 hRS1m4 hRSEm4 hM
set_option maxHeartbeats 4000000 in
theorem zk_159 (n : Nat) {a0 a1 : Int} {m0 : zu_m} (hIm0 : zi_I m0) (hc0 : zcls a0 = 28) (ha1 : 0 ≤ a1 ∧ a1 ≤ 200)    (hRKNm0 : zR_KN m0) (hRLTm0 : zR_LT m0) (hRS1m0 : zE1 m0 1) (hRSEm0 : zE1 m0 0) : zw (zu_call (zt_T n) 159 [(40, a0), (0, a1)] m0) (fun v m => zi_I m ∧ zfr [(28, 54), (28, 64), (28, 65), (28, 66), (28, 67), (28, 68), (28, 69), (28, 70), (122, 0), (123, 0), (124, 0), (126, 0), (128, 0), (129, 0), (130, 0), (131, 0)] m0 m ∧ zR_KN m ∧ zR_LT m ∧ zE1 m 1 ∧ zE1 m 0 ∧ True ∧ (0 ≤ m a0 65 ∧ m a0 65 ≤ 0)) := by
  have hFm0 : zfr [(28, 54), (28, 64), (28, 65), (28, 66), (28, 67), (28, 68), (28, 69), (28, 70), (122, 0), (123, 0), (124, 0), (126, 0), (128, 0), (129, 0), (130, 0), (131, 0)] m0 m0 := zfr_rf _ _
  refine zw_eq (zu_call_at (zt_T n) (zm_159 n) (zdp_159 n) _ _ _ _ _ rfl (zr_159_0 n _ _ a0 a1 m0)) ?_
  refine zw_b (by omega) ?_
  generalize hmm9 : zu_up m0 a0 65 1 = m9
  have hIm9 := zi_up hmm9 hIm0 hc0 zb_28_65 (by omega) (by omega)
  have hFm9 := zfr_up hmm9 hFm0 hc0 rfl
  have hRKNm9 := zR_KN_fr (zdis_fr (zfr_up hmm9 (zfr_rf [(28, 66)] _) hc0 rfl) rfl) hRKNm0
  have hRLTm9 := zR_LT_fr (zdis_fr (zfr_up hmm9 (zfr_rf [(28, 66)] _) hc0 rfl) rfl) hRLTm0
  have hRS1m9 := zR_S1_fr (zdis_fr (zfr_up hmm9 (zfr_rf [(28, 66)] _) hc0 rfl) rfl) hRS1m0
  have hRSEm9 := zR_SE_fr (zdis_fr (zfr_up hmm9 (zfr_rf [(28, 66)] _) hc0 rfl) rfl) hRSEm0
  have r10 : 0 ≤ (m9 a0 65) ∧ (m9 a0 65) ≤ 1 := zi_rd hIm9 hc0 zb_28_65
  have e11 : (m9 a0 65) = 1 := (zs_eq hmm9)
  have hM : (200 - 0) * 1 + 0 < ((201 : Nat) : Int) := by omega
  exact (zl_159 n (m0 := m0) hc0 201) 0 m9 hIm9 hFm9 ⟨by omega, by omega⟩ ⟨by omega, by omega⟩ ⟨by omega, by omega⟩ hRKNm9 hRLTm9 hRS1m9 hRSEm9 hM
set_option maxHeartbeats 4000000 in
theorem zl_184 (n : Nat) {a0 a1 : Int} {m0 : zu_m} (hc0 : zcls a0 = 28)   : ∀ k : Nat, (∀ (x2 x3 : Int) (mh : zu_m), zi_I mh → zfr [(28, 3), (28, 54), (28, 64), (28, 65), (28, 66), (28, 67), (28, 68), (28, 69), (28, 70), (122, 0), (123, 0), (124, 0), (125, 0), (126, 0), (127, 0), (128, 0), (129, 0), (130, 0), (131, 0), (136, 0)] m0 mh → (0 ≤ a1 ∧ a1 ≤ 3) → (0 ≤ x2 ∧ x2 ≤ 0) → (0 ≤ x3 ∧ x3 ≤ 24) → (1 ≤ mh a0 15 ∧ mh a0 15 ≤ 4) → (0 ≤ mh a0 2 ∧ mh a0 2 ≤ 0) → (zR_C0 mh) → (zR_KN mh) → (zR_LT mh) → (zE1 mh 0) → (zR_TE mh) → (24 - x3) * 1 + 6514 < (k : Int) → zw (zu_ex (zt_T n) 184 19 [(40, a0), (0, a1), (0, x2), (0, x3), (2, 0), (2, 0), (2, 0)] [] mh) (fun v m => zi_I m ∧ zfr [(28, 3), (28, 54), (28, 64), (28, 65), (28, 66), (28, 67), (28, 68), (28, 69), (28, 70), (122, 0), (123, 0), (124, 0), (125, 0), (126, 0), (127, 0), (128, 0), (129, 0), (130, 0), (131, 0), (136, 0)] m0 m ∧ zR_C0 m ∧ zR_KN m ∧ zR_LT m ∧ zE1 m 0 ∧ zR_TE m ∧ ((-2147483648) ≤ v ∧ v ≤ 2147483647) ∧ (0 ≤ m a0 2 ∧ m a0 2 ≤ 0))) ∧ (∀ (x2 x3 : Int) (mh : zu_m), zi_I mh → zfr [(28, 3), (28, 54), (28, 64), (28, 65), (28, 66), (28, 67), (28, 68), (28, 69), (28, 70), (122, 0), (123, 0), (124, 0), (125, 0), (126, 0), (127, 0), (128, 0), (129, 0), (130, 0), (131, 0), (136, 0)] m0 mh → (0 ≤ a1 ∧ a1 ≤ 3) → (0 ≤ x2 ∧ x2 ≤ 0) → ((-1) ≤ x3 ∧ x3 ≤ 23) → (1 ≤ mh a0 15 ∧ mh a0 15 ≤ 4) → (0 ≤ mh a0 2 ∧ mh a0 2 ≤ 0) → (zR_C0 mh) → (zR_KN mh) → (zR_LT mh) → (zE1 mh 0) → (zR_TE mh) → (x3 - (-1)) * 1 + 6489 < (k : Int) → zw (zu_ex (zt_T n) 184 47 [(40, a0), (0, a1), (0, x2), (0, x3), (2, 0), (2, 0), (2, 0)] [] mh) (fun v m => zi_I m ∧ zfr [(28, 3), (28, 54), (28, 64), (28, 65), (28, 66), (28, 67), (28, 68), (28, 69), (28, 70), (122, 0), (123, 0), (124, 0), (125, 0), (126, 0), (127, 0), (128, 0), (129, 0), (130, 0), (131, 0), (136, 0)] m0 m ∧ zR_C0 m ∧ zR_KN m ∧ zR_LT m ∧ zE1 m 0 ∧ zR_TE m ∧ ((-2147483648) ≤ v ∧ v ≤ 2147483647) ∧ (0 ≤ m a0 2 ∧ m a0 2 ≤ 0))) ∧ (∀ (x2 x3 : Int) (mh : zu_m), zi_I mh → zfr [(28, 3), (28, 54), (28, 64), (28, 65), (28, 66), (28, 67), (28, 68), (28, 69), (28, 70), (122, 0), (123, 0), (124, 0), (125, 0), (126, 0), (127, 0), (128, 0), (129, 0), (130, 0), (131, 0), (136, 0)] m0 mh → (0 ≤ a1 ∧ a1 ≤ 3) → (0 ≤ x2 ∧ x2 ≤ 200) → (0 ≤ x3 ∧ x3 ≤ 24) → (1 ≤ mh a0 15 ∧ mh a0 15 ≤ 4) → (0 ≤ mh a0 2 ∧ mh a0 2 ≤ 0) → (zR_C0 mh) → (zR_KN mh) → (zR_LT mh) → (zE1 mh 0) → (zR_TE mh) → (24 - x3) * 1 + 6464 < (k : Int) → zw (zu_ex (zt_T n) 184 95 [(40, a0), (0, a1), (0, x2), (0, x3), (2, 0), (2, 0), (2, 0)] [] mh) (fun v m => zi_I m ∧ zfr [(28, 3), (28, 54), (28, 64), (28, 65), (28, 66), (28, 67), (28, 68), (28, 69), (28, 70), (122, 0), (123, 0), (124, 0), (125, 0), (126, 0), (127, 0), (128, 0), (129, 0), (130, 0), (131, 0), (136, 0)] m0 m ∧ zR_C0 m ∧ zR_KN m ∧ zR_LT m ∧ zE1 m 0 ∧ zR_TE m ∧ ((-2147483648) ≤ v ∧ v ≤ 2147483647) ∧ (0 ≤ m a0 2 ∧ m a0 2 ≤ 0))) ∧ (∀ (x2 x3 x4 : Int) (mh : zu_m), zi_I mh → zfr [(28, 3), (28, 54), (28, 64), (28, 65), (28, 66), (28, 67), (28, 68), (28, 69), (28, 70), (122, 0), (123, 0), (124, 0), (125, 0), (126, 0), (127, 0), (128, 0), (129, 0), (130, 0), (131, 0), (136, 0)] m0 mh → (0 ≤ a1 ∧ a1 ≤ 3) → (0 ≤ x2 ∧ x2 ≤ 200) → ((-2147483648) ≤ x3 ∧ x3 ≤ 2147483647) → (0 ≤ x4 ∧ x4 ≤ 31) → (1 ≤ mh a0 15 ∧ mh a0 15 ≤ 4) → (0 ≤ mh a0 2 ∧ mh a0 2 ≤ 0) → (zR_C0 mh) → (zR_KN mh) → (zR_LT mh) → (zE1 mh 0) → (zR_TE mh) → (31 - x4) * 202 + 201 < (k : Int) → zw (zu_ex (zt_T n) 184 148 [(40, a0), (0, a1), (0, x2), (0, x3), (0, x4), (2, 0), (2, 0)] [] mh) (fun v m => zi_I m ∧ zfr [(28, 3), (28, 54), (28, 64), (28, 65), (28, 66), (28, 67), (28, 68), (28, 69), (28, 70), (122, 0), (123, 0), (124, 0), (125, 0), (126, 0), (127, 0), (128, 0), (129, 0), (130, 0), (131, 0), (136, 0)] m0 m ∧ zR_C0 m ∧ zR_KN m ∧ zR_LT m ∧ zE1 m 0 ∧ zR_TE m ∧ ((-2147483648) ≤ v ∧ v ≤ 2147483647) ∧ (0 ≤ m a0 2 ∧ m a0 2 ≤ 0))) ∧ (∀ (x2 x3 x4 x5 x6 : Int) (mh : zu_m), zi_I mh → zfr [(28, 3), (28, 54), (28, 64), (28, 65), (28, 66), (28, 67), (28, 68), (28, 69), (28, 70), (122, 0), (123, 0), (124, 0), (125, 0), (126, 0), (127, 0), (128, 0), (129, 0), (130, 0), (131, 0), (136, 0)] m0 mh → (0 ≤ a1 ∧ a1 ≤ 3) → (0 ≤ x2 ∧ x2 ≤ 200) → ((-2147483648) ≤ x3 ∧ x3 ≤ 2147483647) → (0 ≤ x4 ∧ x4 ≤ 30) → (0 ≤ x5 ∧ x5 ≤ 1) → (1 ≤ x6 ∧ x6 ≤ 201) → (1 ≤ mh a0 15 ∧ mh a0 15 ≤ 4) → (0 ≤ mh a0 2 ∧ mh a0 2 ≤ 0) → ((-1) ≤ mh a0 64 ∧ mh a0 64 ≤ 99999) → (1 ≤ mh a0 65 ∧ mh a0 65 ≤ 1) → (0 ≤ mh a0 66 ∧ mh a0 66 ≤ 0) → (0 ≤ mh a0 67 ∧ mh a0 67 ≤ 0) → (0 ≤ mh a0 68 ∧ mh a0 68 ≤ 0) → ((-1) ≤ mh a0 69 ∧ mh a0 69 ≤ (-1)) → (zR_C0 mh) → (zR_KN mh) → (zR_LT mh) → (zE1 mh 1) → (zE1 mh 0) → (zR_TE mh) → (201 - x6) * 1 + (31 - x4) * 202 + 0 < (k : Int) → zw (zu_ex (zt_T n) 184 195 [(40, a0), (0, a1), (0, x2), (0, x3), (0, x4), (0, x5), (0, x6)] [] mh) (fun v m => zi_I m ∧ zfr [(28, 3), (28, 54), (28, 64), (28, 65), (28, 66), (28, 67), (28, 68), (28, 69), (28, 70), (122, 0), (123, 0), (124, 0), (125, 0), (126, 0), (127, 0), (128, 0), (129, 0), (130, 0), (131, 0), (136, 0)] m0 m ∧ zR_C0 m ∧ zR_KN m ∧ zR_LT m ∧ zE1 m 0 ∧ zR_TE m ∧ ((-2147483648) ≤ v ∧ v ≤ 2147483647) ∧ (0 ≤ m a0 2 ∧ m a0 2 ≤ 0))) := by
  intro k
  induction k with
  | zero => exact ⟨fun x2 x3 mh hImh hFmh hba1 hbx2 hbx3 hg3 hg4 hRC0mh hRKNmh hRLTmh hRSEmh hRTEmh hM => by exfalso; omega, fun x2 x3 mh hImh hFmh hba1 hbx2 hbx3 hg3 hg4 hRC0mh hRKNmh hRLTmh hRSEmh hRTEmh hM => by exfalso; omega, fun x2 x3 mh hImh hFmh hba1 hbx2 hbx3 hg3 hg4 hRC0mh hRKNmh hRLTmh hRSEmh hRTEmh hM => by exfalso; omega, fun x2 x3 x4 mh hImh hFmh hba1 hbx2 hbx3 hbx4 hg4 hg5 hRC0mh hRKNmh hRLTmh hRSEmh hRTEmh hM => by exfalso; omega, fun x2 x3 x4 x5 x6 mh hImh hFmh hba1 hbx2 hbx3 hbx4 hbx5 hbx6 hg6 hg7 hg8 hg9 hg10 hg11 hg12 hg13 hRC0mh hRKNmh hRLTmh hRS1mh hRSEmh hRTEmh hM => by exfalso; omega⟩
  | succ k ih =>
    refine ⟨?_, ?_, ?_, ?_, ?_⟩
    · intro x2 x3 mh hImh hFmh hba1 hbx2 hbx3 hg3 hg4 hRC0mh hRKNmh hRLTmh hRSEmh hRTEmh hM
      refine zw_eq (zu_rega_at (zt_T n) (zm_184 n) (zdp_184 n) _ _ _ _ _ _ (zr_184_19 n _ _ a0 a1 x2 x3 mh)) ?_
      refine zw_bd (zw_eq (zu_call_at (zt_T n) (zm_182 n) (zdp_182 n) _ _ _ _ _ rfl (zr_182_0 n _ _ a0 mh)) ?_)
      have r1 : (-1) ≤ (mh a0 78) ∧ (mh a0 78) ≤ 24 := zi_rd hImh hc0 zb_28_78
      refine zw_ite (fun h2 => ?_) (fun h2 => ?_)
      · refine zw_some ?_
        refine zw_ite (fun h3 => ?_) (fun h3 => ?_)
        · refine zw_bd (zw_eq (zu_call_at (zt_T n) (zm_182 n) (zdp_182 n) _ _ _ _ _ rfl (zr_182_0 n _ _ a0 mh)) ?_)
          refine zw_ite (fun h4 => ?_) (fun h4 => ?_)
          · refine zw_some ?_
            have w5 := zu_w32_id (z := (mh a0 78) - 1) (by omega) (by omega)
            have hM : ((zu_w32 ((mh a0 78) - 1)) - (-1)) * 1 + 6489 < (k : Int) := by omega
            exact ih.2.1 x2 (zu_w32 ((mh a0 78) - 1)) mh hImh hFmh ⟨by omega, by omega⟩ ⟨by omega, by omega⟩ ⟨by omega, by omega⟩ ⟨by omega, by omega⟩ ⟨by omega, by omega⟩ hRC0mh hRKNmh hRLTmh hRSEmh hRTEmh hM
          · exfalso; omega
        · refine zw_b (by omega) ?_
          have b6 : 0 ≤ x3 ∧ x3 < 24 := by omega
          refine zw_if b6 ?_
          generalize hmm7 : zu_up mh 227 x3 1 = m7
          have hIm7 := zi_up hmm7 hImh zq_227 (zb_136 _) (by omega) (by omega)
          have hFm7 := zfr_up hmm7 hFmh zq_227 rfl
          have hRC0m7 := zR_C0_fr (zdis_fr (zfr_up hmm7 (zfr_rf [(136, 0)] _) zq_227 rfl) rfl) hRC0mh
          have hRKNm7 := zR_KN_fr (zdis_fr (zfr_up hmm7 (zfr_rf [(136, 0)] _) zq_227 rfl) rfl) hRKNmh
          have hRLTm7 := zR_LT_fr (zdis_fr (zfr_up hmm7 (zfr_rf [(136, 0)] _) zq_227 rfl) rfl) hRLTmh
          have hRSEm7 := zR_SE_fr (zdis_fr (zfr_up hmm7 (zfr_rf [(136, 0)] _) zq_227 rfl) rfl) hRSEmh
          have hRTEm7 := zR_TE_fr (zdis_fr (zfr_up hmm7 (zfr_rf [(136, 0)] _) zq_227 rfl) rfl) hRTEmh
          have w8 := zu_w32_id (z := x3 + 1) (by omega) (by omega)
          have r9 : (-2147483648) ≤ (m7 a0 2) ∧ (m7 a0 2) ≤ 2147483647 := zi_rd hIm7 hc0 zb_28_2
          have e10 : (m7 a0 2) = (mh a0 2) := (zs_ne hmm7 (Or.inl (zc_ne hc0 zq_227 (by decide))))
          have r11 : 0 ≤ (m7 a0 15) ∧ (m7 a0 15) ≤ 4 := zi_rd hIm7 hc0 zb_28_15
          have e12 : (m7 a0 15) = (mh a0 15) := (zs_ne hmm7 (Or.inl (zc_ne hc0 zq_227 (by decide))))
          have hM : (24 - (zu_w32 (x3 + 1))) * 1 + 6514 < (k : Int) := by omega
          exact ih.1 x2 (zu_w32 (x3 + 1)) m7 hIm7 hFm7 ⟨by omega, by omega⟩ ⟨by omega, by omega⟩ ⟨by omega, by omega⟩ ⟨by omega, by omega⟩ ⟨by omega, by omega⟩ hRC0m7 hRKNm7 hRLTm7 hRSEm7 hRTEm7 hM
      · have r13 : 0 ≤ (mh a0 77) ∧ (mh a0 77) ≤ 24 := zi_rd hImh hc0 zb_28_77
        refine zw_some ?_
        refine zw_ite (fun h14 => ?_) (fun h14 => ?_)
        · refine zw_bd (zw_eq (zu_call_at (zt_T n) (zm_182 n) (zdp_182 n) _ _ _ _ _ rfl (zr_182_0 n _ _ a0 mh)) ?_)
          refine zw_ite (fun h15 => ?_) (fun h15 => ?_)
          · exfalso; omega
          · refine zw_some ?_
            have w16 := zu_w32_id (z := (mh a0 77) - 1) (by omega) (by omega)
            have hM : ((zu_w32 ((mh a0 77) - 1)) - (-1)) * 1 + 6489 < (k : Int) := by omega
            exact ih.2.1 x2 (zu_w32 ((mh a0 77) - 1)) mh hImh hFmh ⟨by omega, by omega⟩ ⟨by omega, by omega⟩ ⟨by omega, by omega⟩ ⟨by omega, by omega⟩ ⟨by omega, by omega⟩ hRC0mh hRKNmh hRLTmh hRSEmh hRTEmh hM
        · refine zw_b (by omega) ?_
          have b17 : 0 ≤ x3 ∧ x3 < 24 := by omega
          refine zw_if b17 ?_
          generalize hmm18 : zu_up mh 227 x3 1 = m18
          have hIm18 := zi_up hmm18 hImh zq_227 (zb_136 _) (by omega) (by omega)
          have hFm18 := zfr_up hmm18 hFmh zq_227 rfl
          have hRC0m18 := zR_C0_fr (zdis_fr (zfr_up hmm18 (zfr_rf [(136, 0)] _) zq_227 rfl) rfl) hRC0mh
          have hRKNm18 := zR_KN_fr (zdis_fr (zfr_up hmm18 (zfr_rf [(136, 0)] _) zq_227 rfl) rfl) hRKNmh
          have hRLTm18 := zR_LT_fr (zdis_fr (zfr_up hmm18 (zfr_rf [(136, 0)] _) zq_227 rfl) rfl) hRLTmh
          have hRSEm18 := zR_SE_fr (zdis_fr (zfr_up hmm18 (zfr_rf [(136, 0)] _) zq_227 rfl) rfl) hRSEmh
          have hRTEm18 := zR_TE_fr (zdis_fr (zfr_up hmm18 (zfr_rf [(136, 0)] _) zq_227 rfl) rfl) hRTEmh
          have w19 := zu_w32_id (z := x3 + 1) (by omega) (by omega)
          have r20 : (-2147483648) ≤ (m18 a0 2) ∧ (m18 a0 2) ≤ 2147483647 := zi_rd hIm18 hc0 zb_28_2
          have e21 : (m18 a0 2) = (mh a0 2) := (zs_ne hmm18 (Or.inl (zc_ne hc0 zq_227 (by decide))))
          have r22 : 0 ≤ (m18 a0 15) ∧ (m18 a0 15) ≤ 4 := zi_rd hIm18 hc0 zb_28_15
          have e23 : (m18 a0 15) = (mh a0 15) := (zs_ne hmm18 (Or.inl (zc_ne hc0 zq_227 (by decide))))
          have hM : (24 - (zu_w32 (x3 + 1))) * 1 + 6514 < (k : Int) := by omega
          exact ih.1 x2 (zu_w32 (x3 + 1)) m18 hIm18 hFm18 ⟨by omega, by omega⟩ ⟨by omega, by omega⟩ ⟨by omega, by omega⟩ ⟨by omega, by omega⟩ ⟨by omega, by omega⟩ hRC0m18 hRKNm18 hRLTm18 hRSEm18 hRTEm18 hM
    · intro x2 x3 mh hImh hFmh hba1 hbx2 hbx3 hg3 hg4 hRC0mh hRKNmh hRLTmh hRSEmh hRTEmh hM
      refine zw_eq (zu_rega_at (zt_T n) (zm_184 n) (zdp_184 n) _ _ _ _ _ _ (zr_184_47 n _ _ a0 a1 x2 x3 mh)) ?_
      refine zw_ite (fun h24 => ?_) (fun h24 => ?_)
      · have hM : (24 - 0) * 1 + 6464 < (k : Int) := by omega
        exact ih.2.2.1 x2 0 mh hImh hFmh ⟨by omega, by omega⟩ ⟨by omega, by omega⟩ ⟨by omega, by omega⟩ ⟨by omega, by omega⟩ ⟨by omega, by omega⟩ hRC0mh hRKNmh hRLTmh hRSEmh hRTEmh hM
      · have b25 : 0 ≤ x3 ∧ x3 < 24 := by omega
        refine zw_if b25 ?_
        have r26 : 0 ≤ (mh 227 x3) ∧ (mh 227 x3) ≤ 1 := zi_rd hImh zq_227 (zb_136 _)
        refine zw_ite (fun h27 => ?_) (fun h27 => ?_)
        · have w28 := zu_w32_id (z := x3 + (-1)) (by omega) (by omega)
          have hM : ((zu_w32 (x3 + (-1))) - (-1)) * 1 + 6489 < (k : Int) := by omega
          exact ih.2.1 x2 (zu_w32 (x3 + (-1))) mh hImh hFmh ⟨by omega, by omega⟩ ⟨by omega, by omega⟩ ⟨by omega, by omega⟩ ⟨by omega, by omega⟩ ⟨by omega, by omega⟩ hRC0mh hRKNmh hRLTmh hRSEmh hRTEmh hM
        · have w29 := zu_w32_id (z := 4 * x3) (by omega) (by omega)
          have b30 : 0 ≤ (zu_w32 (4 * x3)) ∧ (zu_w32 (4 * x3)) < 96 := by omega
          refine zw_if b30 ?_
          have r31 : (-1) ≤ (mh 226 (zu_w32 (4 * x3))) ∧ (mh 226 (zu_w32 (4 * x3))) ≤ 200 := zi_rdr (m := 4) (r0 := 0) (r1 := 0) hImh zq_226 (by omega) (by decide +kernel)
          refine zw_ite (fun h32 => ?_) (fun h32 => ?_)
          · have w33 := zu_w32_id (z := x3 + (-1)) (by omega) (by omega)
            have hM : ((zu_w32 (x3 + (-1))) - (-1)) * 1 + 6489 < (k : Int) := by omega
            exact ih.2.1 x2 (zu_w32 (x3 + (-1))) mh hImh hFmh ⟨by omega, by omega⟩ ⟨by omega, by omega⟩ ⟨by omega, by omega⟩ ⟨by omega, by omega⟩ ⟨by omega, by omega⟩ hRC0mh hRKNmh hRLTmh hRSEmh hRTEmh hM
          · have w34 := zu_w32_id (z := (zu_w32 (4 * x3)) + 1) (by omega) (by omega)
            have b35 : 0 ≤ (zu_w32 ((zu_w32 (4 * x3)) + 1)) ∧ (zu_w32 ((zu_w32 (4 * x3)) + 1)) < 96 := by omega
            refine zw_if b35 ?_
            have r36 : 0 ≤ (mh 226 (zu_w32 ((zu_w32 (4 * x3)) + 1))) ∧ (mh 226 (zu_w32 ((zu_w32 (4 * x3)) + 1))) ≤ 23 := zi_rdr (m := 4) (r0 := 1) (r1 := 1) hImh zq_226 (by omega) (by decide +kernel)
            refine zw_b (by omega) ?_
            have b37 : 0 ≤ (mh 226 (zu_w32 ((zu_w32 (4 * x3)) + 1))) ∧ (mh 226 (zu_w32 ((zu_w32 (4 * x3)) + 1))) < 24 := by omega
            refine zw_if b37 ?_
            generalize hmm38 : zu_up mh 227 (mh 226 (zu_w32 ((zu_w32 (4 * x3)) + 1))) 0 = m38
            have hIm38 := zi_up hmm38 hImh zq_227 (zb_136 _) (by omega) (by omega)
            have hFm38 := zfr_up hmm38 hFmh zq_227 rfl
            have hRC0m38 := zR_C0_fr (zdis_fr (zfr_up hmm38 (zfr_rf [(136, 0)] _) zq_227 rfl) rfl) hRC0mh
            have hRKNm38 := zR_KN_fr (zdis_fr (zfr_up hmm38 (zfr_rf [(136, 0)] _) zq_227 rfl) rfl) hRKNmh
            have hRLTm38 := zR_LT_fr (zdis_fr (zfr_up hmm38 (zfr_rf [(136, 0)] _) zq_227 rfl) rfl) hRLTmh
            have hRSEm38 := zR_SE_fr (zdis_fr (zfr_up hmm38 (zfr_rf [(136, 0)] _) zq_227 rfl) rfl) hRSEmh
            have hRTEm38 := zR_TE_fr (zdis_fr (zfr_up hmm38 (zfr_rf [(136, 0)] _) zq_227 rfl) rfl) hRTEmh
            have w39 := zu_w32_id (z := x3 + (-1)) (by omega) (by omega)
            have r40 : (-2147483648) ≤ (m38 a0 2) ∧ (m38 a0 2) ≤ 2147483647 := zi_rd hIm38 hc0 zb_28_2
            have e41 : (m38 a0 2) = (mh a0 2) := (zs_ne hmm38 (Or.inl (zc_ne hc0 zq_227 (by decide))))
            have r42 : 0 ≤ (m38 a0 15) ∧ (m38 a0 15) ≤ 4 := zi_rd hIm38 hc0 zb_28_15
            have e43 : (m38 a0 15) = (mh a0 15) := (zs_ne hmm38 (Or.inl (zc_ne hc0 zq_227 (by decide))))
            have hM : ((zu_w32 (x3 + (-1))) - (-1)) * 1 + 6489 < (k : Int) := by omega
            exact ih.2.1 x2 (zu_w32 (x3 + (-1))) m38 hIm38 hFm38 ⟨by omega, by omega⟩ ⟨by omega, by omega⟩ ⟨by omega, by omega⟩ ⟨by omega, by omega⟩ ⟨by omega, by omega⟩ hRC0m38 hRKNm38 hRLTm38 hRSEm38 hRTEm38 hM
    · intro x2 x3 mh hImh hFmh hba1 hbx2 hbx3 hg3 hg4 hRC0mh hRKNmh hRLTmh hRSEmh hRTEmh hM
      refine zw_eq (zu_rega_at (zt_T n) (zm_184 n) (zdp_184 n) _ _ _ _ _ _ (zr_184_95 n _ _ a0 a1 x2 x3 mh)) ?_
      refine zw_bd (zw_eq (zu_call_at (zt_T n) (zm_182 n) (zdp_182 n) _ _ _ _ _ rfl (zr_182_0 n _ _ a0 mh)) ?_)
      have r44 : (-1) ≤ (mh a0 78) ∧ (mh a0 78) ≤ 24 := zi_rd hImh hc0 zb_28_78
      refine zw_ite (fun h45 => ?_) (fun h45 => ?_)
      · refine zw_some ?_
        refine zw_ite (fun h46 => ?_) (fun h46 => ?_)
        · have hM : (31 - 0) * 202 + 201 < (k : Int) := by omega
          exact ih.2.2.2.1 x2 0 0 mh hImh hFmh ⟨by omega, by omega⟩ ⟨by omega, by omega⟩ ⟨by omega, by omega⟩ ⟨by omega, by omega⟩ ⟨by omega, by omega⟩ ⟨by omega, by omega⟩ hRC0mh hRKNmh hRLTmh hRSEmh hRTEmh hM
        · have b47 : 0 ≤ x3 ∧ x3 < 24 := by omega
          refine zw_if b47 ?_
          have r48 : 0 ≤ (mh 227 x3) ∧ (mh 227 x3) ≤ 1 := zi_rd hImh zq_227 (zb_136 _)
          refine zw_ite (fun h49 => ?_) (fun h49 => ?_)
          · have w50 := zu_w32_id (z := x3 + 1) (by omega) (by omega)
            have hM : (24 - (zu_w32 (x3 + 1))) * 1 + 6464 < (k : Int) := by omega
            exact ih.2.2.1 x2 (zu_w32 (x3 + 1)) mh hImh hFmh ⟨by omega, by omega⟩ ⟨by omega, by omega⟩ ⟨by omega, by omega⟩ ⟨by omega, by omega⟩ ⟨by omega, by omega⟩ hRC0mh hRKNmh hRLTmh hRSEmh hRTEmh hM
          · have w51 := zu_w32_id (z := 4 * x3) (by omega) (by omega)
            have b52 : 0 ≤ (zu_w32 (4 * x3)) ∧ (zu_w32 (4 * x3)) < 96 := by omega
            refine zw_if b52 ?_
            have r53 : (-1) ≤ (mh 226 (zu_w32 (4 * x3))) ∧ (mh 226 (zu_w32 (4 * x3))) ≤ 200 := zi_rdr (m := 4) (r0 := 0) (r1 := 0) hImh zq_226 (by omega) (by decide +kernel)
            refine zw_ite (fun h54 => ?_) (fun h54 => ?_)
            · have w55 := zu_w32_id (z := x3 + 1) (by omega) (by omega)
              have hM : (24 - (zu_w32 (x3 + 1))) * 1 + 6464 < (k : Int) := by omega
              exact ih.2.2.1 x2 (zu_w32 (x3 + 1)) mh hImh hFmh ⟨by omega, by omega⟩ ⟨by omega, by omega⟩ ⟨by omega, by omega⟩ ⟨by omega, by omega⟩ ⟨by omega, by omega⟩ hRC0mh hRKNmh hRLTmh hRSEmh hRTEmh hM
            · have b56 : 0 ≤ (zu_w32 (4 * x3)) ∧ (zu_w32 (4 * x3)) < 96 := by omega
              refine zw_if b56 ?_
              have w57 := zu_w32_id (z := x3 + 1) (by omega) (by omega)
              have hM : (24 - (zu_w32 (x3 + 1))) * 1 + 6464 < (k : Int) := by omega
              exact ih.2.2.1 (mh 226 (zu_w32 (4 * x3))) (zu_w32 (x3 + 1)) mh hImh hFmh ⟨by omega, by omega⟩ ⟨by omega, by omega⟩ ⟨by omega, by omega⟩ ⟨by omega, by omega⟩ ⟨by omega, by omega⟩ hRC0mh hRKNmh hRLTmh hRSEmh hRTEmh hM
      · have r58 : 0 ≤ (mh a0 77) ∧ (mh a0 77) ≤ 24 := zi_rd hImh hc0 zb_28_77
        refine zw_some ?_
        refine zw_ite (fun h59 => ?_) (fun h59 => ?_)
        · have hM : (31 - 0) * 202 + 201 < (k : Int) := by omega
          exact ih.2.2.2.1 x2 0 0 mh hImh hFmh ⟨by omega, by omega⟩ ⟨by omega, by omega⟩ ⟨by omega, by omega⟩ ⟨by omega, by omega⟩ ⟨by omega, by omega⟩ ⟨by omega, by omega⟩ hRC0mh hRKNmh hRLTmh hRSEmh hRTEmh hM
        · have b60 : 0 ≤ x3 ∧ x3 < 24 := by omega
          refine zw_if b60 ?_
          have r61 : 0 ≤ (mh 227 x3) ∧ (mh 227 x3) ≤ 1 := zi_rd hImh zq_227 (zb_136 _)
          refine zw_ite (fun h62 => ?_) (fun h62 => ?_)
          · have w63 := zu_w32_id (z := x3 + 1) (by omega) (by omega)
            have hM : (24 - (zu_w32 (x3 + 1))) * 1 + 6464 < (k : Int) := by omega
            exact ih.2.2.1 x2 (zu_w32 (x3 + 1)) mh hImh hFmh ⟨by omega, by omega⟩ ⟨by omega, by omega⟩ ⟨by omega, by omega⟩ ⟨by omega, by omega⟩ ⟨by omega, by omega⟩ hRC0mh hRKNmh hRLTmh hRSEmh hRTEmh hM
          · have w64 := zu_w32_id (z := 4 * x3) (by omega) (by omega)
            have b65 : 0 ≤ (zu_w32 (4 * x3)) ∧ (zu_w32 (4 * x3)) < 96 := by omega
            refine zw_if b65 ?_
            have r66 : (-1) ≤ (mh 226 (zu_w32 (4 * x3))) ∧ (mh 226 (zu_w32 (4 * x3))) ≤ 200 := zi_rdr (m := 4) (r0 := 0) (r1 := 0) hImh zq_226 (by omega) (by decide +kernel)
            refine zw_ite (fun h67 => ?_) (fun h67 => ?_)
            · have w68 := zu_w32_id (z := x3 + 1) (by omega) (by omega)
              have hM : (24 - (zu_w32 (x3 + 1))) * 1 + 6464 < (k : Int) := by omega
              exact ih.2.2.1 x2 (zu_w32 (x3 + 1)) mh hImh hFmh ⟨by omega, by omega⟩ ⟨by omega, by omega⟩ ⟨by omega, by omega⟩ ⟨by omega, by omega⟩ ⟨by omega, by omega⟩ hRC0mh hRKNmh hRLTmh hRSEmh hRTEmh hM
            · have b69 : 0 ≤ (zu_w32 (4 * x3)) ∧ (zu_w32 (4 * x3)) < 96 := by omega
              refine zw_if b69 ?_
              have w70 := zu_w32_id (z := x3 + 1) (by omega) (by omega)
              have hM : (24 - (zu_w32 (x3 + 1))) * 1 + 6464 < (k : Int) := by omega
              exact ih.2.2.1 (mh 226 (zu_w32 (4 * x3))) (zu_w32 (x3 + 1)) mh hImh hFmh ⟨by omega, by omega⟩ ⟨by omega, by omega⟩ ⟨by omega, by omega⟩ ⟨by omega, by omega⟩ ⟨by omega, by omega⟩ hRC0mh hRKNmh hRLTmh hRSEmh hRTEmh hM
    · intro x2 x3 x4 mh hImh hFmh hba1 hbx2 hbx3 hbx4 hg4 hg5 hRC0mh hRKNmh hRLTmh hRSEmh hRTEmh hM
      refine zw_eq (zu_rega_at (zt_T n) (zm_184 n) (zdp_184 n) _ _ _ _ _ _ (zr_184_148 n _ _ a0 a1 x2 x3 x4 mh)) ?_
      refine zw_ite (fun h71 => ?_) (fun h71 => ?_)
      · refine zw_bd (zw_mono (zk_35 n hImh hc0) (fun v73 m72 hqm72 => ?_))
        obtain ⟨hIm72, hfm72, hvm72⟩ := hqm72
        have hFm72 := zfr_tr hFmh hfm72 rfl
        have hRC0m72 := zR_C0_fr (zdis_fr hfm72 rfl) hRC0mh
        have hRKNm72 := zR_KN_fr (zdis_fr hfm72 rfl) hRKNmh
        have hRLTm72 := zR_LT_fr (zdis_fr hfm72 rfl) hRLTmh
        have hRSEm72 := zR_SE_fr (zdis_fr hfm72 rfl) hRSEmh
        have hRTEm72 := zR_TE_fr (zdis_fr hfm72 rfl) hRTEmh
        have r74 : (-2147483648) ≤ (m72 a0 2) ∧ (m72 a0 2) ≤ 2147483647 := zi_rd hIm72 hc0 zb_28_2
        have e75 : (m72 a0 2) = (mh a0 2) := (zfr_ap hfm72 hc0 rfl)
        exact zw_some ⟨hIm72, hFm72, hRC0m72, hRKNm72, hRLTm72, hRSEm72, hRTEm72, ⟨by omega, by omega⟩, ⟨by omega, by omega⟩⟩
      · refine zw_bd (zw_mono (zk_35 n hImh hc0) (fun v77 m76 hqm76 => ?_))
        obtain ⟨hIm76, hfm76, hvm76⟩ := hqm76
        have hFm76 := zfr_tr hFmh hfm76 rfl
        have hRC0m76 := zR_C0_fr (zdis_fr hfm76 rfl) hRC0mh
        have hRKNm76 := zR_KN_fr (zdis_fr hfm76 rfl) hRKNmh
        have hRLTm76 := zR_LT_fr (zdis_fr hfm76 rfl) hRLTmh
        have hRSEm76 := zR_SE_fr (zdis_fr hfm76 rfl) hRSEmh
        have hRTEm76 := zR_TE_fr (zdis_fr hfm76 rfl) hRTEmh
        refine zw_bd (zw_mono (zk_34 n hIm76 hc0 ⟨by omega, by omega⟩ hRC0m76) (fun v79 m78 hqm78 => ?_))
        obtain ⟨hIm78, hfm78, hvm78⟩ := hqm78
        have hFm78 := zfr_tr hFm76 hfm78 rfl
        obtain ⟨hRC0m78, hRS1m78, hvm78⟩ := hvm78
        have hRKNm78 := zR_KN_fr (zdis_fr hfm78 rfl) hRKNm76
        have hRLTm78 := zR_LT_fr (zdis_fr hfm78 rfl) hRLTm76
        have hRSEm78 := (hvm78.2.1) hRSEm76
        have hRTEm78 := zTE_of (zone_190 hc0) ((hvm78.2.2) (Or.inl (zTE_rd hRTEm76 (zone_190 hc0))))
        have w80 := zu_w32_id (z := 4 + a1) (by omega) (by omega)
        have b81 : 0 ≤ (zu_w32 (4 + a1)) ∧ (zu_w32 (4 + a1)) < 8 := by omega
        refine zw_if b81 ?_
        generalize hmm82 : zu_up m78 218 (zu_w32 (4 + a1)) x4 = m82
        have hIm82 := zi_up hmm82 hIm78 zq_218 (zb_127 _) (by omega) (by omega)
        have hFm82 := zfr_up hmm82 hFm78 zq_218 rfl
        have hRC0m82 := zR_C0_fr (zdis_fr (zfr_up hmm82 (zfr_rf [(127, 0)] _) zq_218 rfl) rfl) hRC0m78
        have hRKNm82 := zR_KN_fr (zdis_fr (zfr_up hmm82 (zfr_rf [(127, 0)] _) zq_218 rfl) rfl) hRKNm78
        have hRLTm82 := zR_LT_fr (zdis_fr (zfr_up hmm82 (zfr_rf [(127, 0)] _) zq_218 rfl) rfl) hRLTm78
        have hRS1m82 := zR_S1_fr (zdis_fr (zfr_up hmm82 (zfr_rf [(127, 0)] _) zq_218 rfl) rfl) hRS1m78
        have hRSEm82 := zR_SE_fr (zdis_fr (zfr_up hmm82 (zfr_rf [(127, 0)] _) zq_218 rfl) rfl) hRSEm78
        have hRTEm82 := zR_TE_fr (zdis_fr (zfr_up hmm82 (zfr_rf [(127, 0)] _) zq_218 rfl) rfl) hRTEm78
        have b83 : 0 ≤ (0 : Int) ∧ (0 : Int) < 10 := by omega
        refine zw_if b83 ?_
        have r84 : (-1) ≤ (m82 194 0) ∧ (m82 194 0) ≤ 99999 := zi_rd hIm82 zq_194 (zb_103 _)
        generalize hmm85 : zu_up m82 a0 64 (m82 194 0) = m85
        have hIm85 := zi_up hmm85 hIm82 hc0 zb_28_64 (by omega) (by omega)
        have hFm85 := zfr_up hmm85 hFm82 hc0 rfl
        have hRC0m85 := zR_C0_fr (zdis_fr (zfr_up hmm85 (zfr_rf [(28, 65)] _) hc0 rfl) rfl) hRC0m82
        have hRKNm85 := zR_KN_fr (zdis_fr (zfr_up hmm85 (zfr_rf [(28, 65)] _) hc0 rfl) rfl) hRKNm82
        have hRLTm85 := zR_LT_fr (zdis_fr (zfr_up hmm85 (zfr_rf [(28, 65)] _) hc0 rfl) rfl) hRLTm82
        have hRS1m85 := zR_S1_fr (zdis_fr (zfr_up hmm85 (zfr_rf [(28, 65)] _) hc0 rfl) rfl) hRS1m82
        have hRSEm85 := zR_SE_fr (zdis_fr (zfr_up hmm85 (zfr_rf [(28, 65)] _) hc0 rfl) rfl) hRSEm82
        have hRTEm85 := zR_TE_fr (zdis_fr (zfr_up hmm85 (zfr_rf [(28, 65)] _) hc0 rfl) rfl) hRTEm82
        refine zw_b (by omega) ?_
        generalize hmm86 : zu_up m85 a0 65 1 = m86
        have hIm86 := zi_up hmm86 hIm85 hc0 zb_28_65 (by omega) (by omega)
        have hFm86 := zfr_up hmm86 hFm85 hc0 rfl
        have hRC0m86 := zR_C0_fr (zdis_fr (zfr_up hmm86 (zfr_rf [(28, 66)] _) hc0 rfl) rfl) hRC0m85
        have hRKNm86 := zR_KN_fr (zdis_fr (zfr_up hmm86 (zfr_rf [(28, 66)] _) hc0 rfl) rfl) hRKNm85
        have hRLTm86 := zR_LT_fr (zdis_fr (zfr_up hmm86 (zfr_rf [(28, 66)] _) hc0 rfl) rfl) hRLTm85
        have hRS1m86 := zR_S1_fr (zdis_fr (zfr_up hmm86 (zfr_rf [(28, 66)] _) hc0 rfl) rfl) hRS1m85
        have hRSEm86 := zR_SE_fr (zdis_fr (zfr_up hmm86 (zfr_rf [(28, 66)] _) hc0 rfl) rfl) hRSEm85
        have hRTEm86 := zR_TE_fr (zdis_fr (zfr_up hmm86 (zfr_rf [(28, 66)] _) hc0 rfl) rfl) hRTEm85
        have r87 : (-2147483648) ≤ (m86 a0 2) ∧ (m86 a0 2) ≤ 2147483647 := zi_rd hIm86 hc0 zb_28_2
        have e88 : (m86 a0 2) = (mh a0 2) := (Eq.trans (zs_ne hmm86 (Or.inr (by decide))) (Eq.trans (zs_ne hmm85 (Or.inr (by decide))) (Eq.trans (zs_ne hmm82 (Or.inl (zc_ne hc0 zq_218 (by decide)))) (Eq.trans (zfr_ap hfm78 hc0 rfl) (zfr_ap hfm76 hc0 rfl)))))
        have r89 : 0 ≤ (m86 a0 15) ∧ (m86 a0 15) ≤ 4 := zi_rd hIm86 hc0 zb_28_15
        have e90 : (m86 a0 15) = (mh a0 15) := (Eq.trans (zs_ne hmm86 (Or.inr (by decide))) (Eq.trans (zs_ne hmm85 (Or.inr (by decide))) (Eq.trans (zs_ne hmm82 (Or.inl (zc_ne hc0 zq_218 (by decide)))) (Eq.trans (zfr_ap hfm78 hc0 rfl) (zfr_ap hfm76 hc0 rfl)))))
        have r91 : (-2147483648) ≤ (m86 a0 64) ∧ (m86 a0 64) ≤ 2147483647 := zi_rd hIm86 hc0 zb_28_64
        have e92 : (m86 a0 64) = (m82 194 0) := (Eq.trans (zs_ne hmm86 (Or.inr (by decide))) (zs_eq hmm85))
        have r93 : 0 ≤ (m86 a0 65) ∧ (m86 a0 65) ≤ 1 := zi_rd hIm86 hc0 zb_28_65
        have e94 : (m86 a0 65) = 1 := (zs_eq hmm86)
        have r95 : (-2147483648) ≤ (m86 a0 69) ∧ (m86 a0 69) ≤ 2147483647 := zi_rd hIm86 hc0 zb_28_69
        have e96 : (m86 a0 69) = (m76 a0 69) := (Eq.trans (zs_ne hmm86 (Or.inr (by decide))) (Eq.trans (zs_ne hmm85 (Or.inr (by decide))) (Eq.trans (zs_ne hmm82 (Or.inl (zc_ne hc0 zq_218 (by decide)))) (zfr_ap hfm78 hc0 rfl))))
        have r97 : 0 ≤ (m86 a0 66) ∧ (m86 a0 66) ≤ 1 := zi_rd hIm86 hc0 zb_28_66
        have e98 : (m86 a0 66) = (m76 a0 66) := (Eq.trans (zs_ne hmm86 (Or.inr (by decide))) (Eq.trans (zs_ne hmm85 (Or.inr (by decide))) (Eq.trans (zs_ne hmm82 (Or.inl (zc_ne hc0 zq_218 (by decide)))) (zfr_ap hfm78 hc0 rfl))))
        have r99 : 0 ≤ (m86 a0 67) ∧ (m86 a0 67) ≤ 1 := zi_rd hIm86 hc0 zb_28_67
        have e100 : (m86 a0 67) = (m76 a0 67) := (Eq.trans (zs_ne hmm86 (Or.inr (by decide))) (Eq.trans (zs_ne hmm85 (Or.inr (by decide))) (Eq.trans (zs_ne hmm82 (Or.inl (zc_ne hc0 zq_218 (by decide)))) (zfr_ap hfm78 hc0 rfl))))
        have r101 : 0 ≤ (m86 a0 68) ∧ (m86 a0 68) ≤ 1 := zi_rd hIm86 hc0 zb_28_68
        have e102 : (m86 a0 68) = (m76 a0 68) := (Eq.trans (zs_ne hmm86 (Or.inr (by decide))) (Eq.trans (zs_ne hmm85 (Or.inr (by decide))) (Eq.trans (zs_ne hmm82 (Or.inl (zc_ne hc0 zq_218 (by decide)))) (zfr_ap hfm78 hc0 rfl))))
        have hM : (201 - 1) * 1 + (31 - x4) * 202 + 0 < (k : Int) := by omega
        exact ih.2.2.2.2 x2 x3 x4 1 1 m86 hIm86 hFm86 ⟨by omega, by omega⟩ ⟨by omega, by omega⟩ ⟨by omega, by omega⟩ ⟨by omega, by omega⟩ ⟨by omega, by omega⟩ ⟨by omega, by omega⟩ ⟨by omega, by omega⟩ ⟨by omega, by omega⟩ ⟨by omega, by omega⟩ ⟨by omega, by omega⟩ ⟨by omega, by omega⟩ ⟨by omega, by omega⟩ ⟨by omega, by omega⟩ ⟨by omega, by omega⟩ hRC0m86 hRKNm86 hRLTm86 hRS1m86 hRSEm86 hRTEm86 hM
    · intro x2 x3 x4 x5 x6 mh hImh hFmh hba1 hbx2 hbx3 hbx4 hbx5 hbx6 hg6 hg7 hg8 hg9 hg10 hg11 hg12 hg13 hRC0mh hRKNmh hRLTmh hRS1mh hRSEmh hRTEmh hM
      refine zw_eq (zu_rega_at (zt_T n) (zm_184 n) (zdp_184 n) _ _ _ _ _ _ (zr_184_195 n _ _ a0 a1 x2 x3 x4 x5 x6 mh)) ?_
      refine zw_ite (fun h103 => ?_) (fun h103 => ?_)
      · refine zw_ite (fun h104 => ?_) (fun h104 => ?_)
        · have b105 := zu_i32_rg 4 x3 0
          have w106 := zu_w32_id (z := x4 + 1) (by omega) (by omega)
          have hM : (31 - (zu_w32 (x4 + 1))) * 202 + 201 < (k : Int) := by omega
          exact zw_le (zu_forget (zu_lr_same (zu_lr_same (zu_lr_same (zu_lr_same (zu_lr_same (zu_lr_drop (zu_lr_drop zu_lr_nil)))))))) (ih.2.2.2.1 x2 (zu_i32 4 x3 0) (zu_w32 (x4 + 1)) mh hImh hFmh ⟨by omega, by omega⟩ ⟨by omega, by omega⟩ ⟨by omega, by omega⟩ ⟨by omega, by omega⟩ ⟨by omega, by omega⟩ ⟨by omega, by omega⟩ hRC0mh hRKNmh hRLTmh hRSEmh hRTEmh hM)
        · have b107 := zu_i32_rg 5 1 x4
          have b108 := zu_i32_rg 4 x3 (zu_i32 5 1 x4)
          have w109 := zu_w32_id (z := x4 + 1) (by omega) (by omega)
          have hM : (31 - (zu_w32 (x4 + 1))) * 202 + 201 < (k : Int) := by omega
          exact zw_le (zu_forget (zu_lr_same (zu_lr_same (zu_lr_same (zu_lr_same (zu_lr_same (zu_lr_drop (zu_lr_drop zu_lr_nil)))))))) (ih.2.2.2.1 x2 (zu_i32 4 x3 (zu_i32 5 1 x4)) (zu_w32 (x4 + 1)) mh hImh hFmh ⟨by omega, by omega⟩ ⟨by omega, by omega⟩ ⟨by omega, by omega⟩ ⟨by omega, by omega⟩ ⟨by omega, by omega⟩ ⟨by omega, by omega⟩ hRC0mh hRKNmh hRLTmh hRSEmh hRTEmh hM)
      · refine zw_ite (fun h110 => ?_) (fun h110 => ?_)
        · refine zw_ite (fun h111 => ?_) (fun h111 => ?_)
          · have b112 := zu_i32_rg 4 x3 0
            have w113 := zu_w32_id (z := x4 + 1) (by omega) (by omega)
            have hM : (31 - (zu_w32 (x4 + 1))) * 202 + 201 < (k : Int) := by omega
            exact zw_le (zu_forget (zu_lr_same (zu_lr_same (zu_lr_same (zu_lr_same (zu_lr_same (zu_lr_drop (zu_lr_drop zu_lr_nil)))))))) (ih.2.2.2.1 x2 (zu_i32 4 x3 0) (zu_w32 (x4 + 1)) mh hImh hFmh ⟨by omega, by omega⟩ ⟨by omega, by omega⟩ ⟨by omega, by omega⟩ ⟨by omega, by omega⟩ ⟨by omega, by omega⟩ ⟨by omega, by omega⟩ hRC0mh hRKNmh hRLTmh hRSEmh hRTEmh hM)
          · exfalso; omega
        · refine zw_bd (zw_mono (zk_140 n hImh hc0 ⟨by omega, by omega⟩ hRS1mh hRKNmh hRLTmh hRSEmh) (fun v115 m114 hqm114 => ?_))
          obtain ⟨hIm114, hfm114, hvm114⟩ := hqm114
          have hFm114 := zfr_tr hFmh hfm114 rfl
          obtain ⟨hRS1m114, hRKNm114, hRLTm114, hRSEm114, hvm114⟩ := hvm114
          have hRC0m114 := zR_C0_fr (zdis_fr hfm114 rfl) hRC0mh
          have hRTEm114 := zR_TE_fr (zdis_fr hfm114 rfl) hRTEmh
          refine zw_bd (zw_mono (zk_183 n hIm114 hc0 ⟨by omega, by omega⟩) (fun v117 m116 hqm116 => ?_))
          obtain ⟨hIm116, hfm116, hvm116⟩ := hqm116
          have hFm116 := zfr_tr hFm114 hfm116 rfl
          have hRC0m116 := zR_C0_fr (zdis_fr hfm116 rfl) hRC0m114
          have hRKNm116 := zR_KN_fr (zdis_fr hfm116 rfl) hRKNm114
          have hRLTm116 := zR_LT_fr (zdis_fr hfm116 rfl) hRLTm114
          have hRS1m116 := zR_S1_fr (zdis_fr hfm116 rfl) hRS1m114
          have hRSEm116 := zR_SE_fr (zdis_fr hfm116 rfl) hRSEm114
          have hRTEm116 := zR_TE_fr (zdis_fr hfm116 rfl) hRTEm114
          have w118 := zu_w32_id (z := x6 + 1) (by omega) (by omega)
          have r119 : (-2147483648) ≤ (m116 a0 2) ∧ (m116 a0 2) ≤ 2147483647 := zi_rd hIm116 hc0 zb_28_2
          have e120 : (m116 a0 2) = (mh a0 2) := (Eq.trans (zfr_ap hfm116 hc0 rfl) (zfr_ap hfm114 hc0 rfl))
          have r121 : 0 ≤ (m116 a0 15) ∧ (m116 a0 15) ≤ 4 := zi_rd hIm116 hc0 zb_28_15
          have e122 : (m116 a0 15) = (mh a0 15) := (Eq.trans (zfr_ap hfm116 hc0 rfl) (zfr_ap hfm114 hc0 rfl))
          have r123 : (-2147483648) ≤ (m116 a0 64) ∧ (m116 a0 64) ≤ 2147483647 := zi_rd hIm116 hc0 zb_28_64
          have e124 : (m116 a0 64) = (mh a0 64) := (Eq.trans (zfr_ap hfm116 hc0 rfl) (zfr_ap hfm114 hc0 rfl))
          have r125 : 0 ≤ (m116 a0 65) ∧ (m116 a0 65) ≤ 1 := zi_rd hIm116 hc0 zb_28_65
          have e126 : (m116 a0 65) = (mh a0 65) := (Eq.trans (zfr_ap hfm116 hc0 rfl) (zfr_ap hfm114 hc0 rfl))
          have r127 : (-2147483648) ≤ (m116 a0 69) ∧ (m116 a0 69) ≤ 2147483647 := zi_rd hIm116 hc0 zb_28_69
          have e128 : (m116 a0 69) = (mh a0 69) := (Eq.trans (zfr_ap hfm116 hc0 rfl) (zfr_ap hfm114 hc0 rfl))
          have r129 : 0 ≤ (m116 a0 66) ∧ (m116 a0 66) ≤ 1 := zi_rd hIm116 hc0 zb_28_66
          have e130 : (m116 a0 66) = (mh a0 66) := (Eq.trans (zfr_ap hfm116 hc0 rfl) (zfr_ap hfm114 hc0 rfl))
          have r131 : 0 ≤ (m116 a0 67) ∧ (m116 a0 67) ≤ 1 := zi_rd hIm116 hc0 zb_28_67
          have e132 : (m116 a0 67) = (mh a0 67) := (Eq.trans (zfr_ap hfm116 hc0 rfl) (zfr_ap hfm114 hc0 rfl))
          have r133 : 0 ≤ (m116 a0 68) ∧ (m116 a0 68) ≤ 1 := zi_rd hIm116 hc0 zb_28_68
          have e134 : (m116 a0 68) = (mh a0 68) := (Eq.trans (zfr_ap hfm116 hc0 rfl) (zfr_ap hfm114 hc0 rfl))
          have hM : (201 - (zu_w32 (x6 + 1))) * 1 + (31 - x4) * 202 + 0 < (k : Int) := by omega
          exact ih.2.2.2.2 x2 x3 x4 v117 (zu_w32 (x6 + 1)) m116 hIm116 hFm116 ⟨by omega, by omega⟩ ⟨by omega, by omega⟩ ⟨by omega, by omega⟩ ⟨by omega, by omega⟩ ⟨by omega, by omega⟩ ⟨by omega, by omega⟩ ⟨by omega, by omega⟩ ⟨by omega, by omega⟩ ⟨by omega, by omega⟩ ⟨by omega, by omega⟩ ⟨by omega, by omega⟩ ⟨by omega, by omega⟩ ⟨by omega, by omega⟩ ⟨by omega, by omega⟩ hRC0m116 hRKNm116 hRLTm116 hRS1m116 hRSEm116 hRTEm116 hM
set_option maxHeartbeats 4000000 in
theorem zk_184 (n : Nat) {a0 a1 : Int} {m0 : zu_m} (hIm0 : zi_I m0) (hc0 : zcls a0 = 28) (ha1 : (-2147483648) ≤ a1 ∧ a1 ≤ 2147483647)    (hRC0m0 : zR_C0 m0) (hRKNm0 : zR_KN m0) (hRLTm0 : zR_LT m0) (hRSEm0 : zE1 m0 0) (hRTEm0 : zR_TE m0) : zw (zu_call (zt_T n) 184 [(40, a0), (0, a1)] m0) (fun v m => zi_I m ∧ zfr [(28, 3), (28, 54), (28, 64), (28, 65), (28, 66), (28, 67), (28, 68), (28, 69), (28, 70), (122, 0), (123, 0), (124, 0), (125, 0), (126, 0), (127, 0), (128, 0), (129, 0), (130, 0), (131, 0), (136, 0)] m0 m ∧ zR_C0 m ∧ zR_KN m ∧ zR_LT m ∧ zE1 m 0 ∧ zR_TE m ∧ ((-2147483648) ≤ v ∧ v ≤ 2147483647) ∧ (0 ≤ m a0 2 ∧ m a0 2 ≤ 0)) := by
  have hFm0 : zfr [(28, 3), (28, 54), (28, 64), (28, 65), (28, 66), (28, 67), (28, 68), (28, 69), (28, 70), (122, 0), (123, 0), (124, 0), (125, 0), (126, 0), (127, 0), (128, 0), (129, 0), (130, 0), (131, 0), (136, 0)] m0 m0 := zfr_rf _ _
  refine zw_eq (zu_call_at (zt_T n) (zm_184 n) (zdp_184 n) _ _ _ _ _ rfl (zr_184_0 n _ _ a0 a1 m0)) ?_
  generalize hmm135 : zu_up m0 a0 2 0 = m135
  have hIm135 := zi_up hmm135 hIm0 hc0 zb_28_2 (by omega) (by omega)
  have hFm135 := zfr_up hmm135 hFm0 hc0 rfl
  have hRC0m135 := zR_C0_fr (zdis_fr (zfr_up hmm135 (zfr_rf [(28, 3)] _) hc0 rfl) rfl) hRC0m0
  have hRKNm135 := zR_KN_fr (zdis_fr (zfr_up hmm135 (zfr_rf [(28, 3)] _) hc0 rfl) rfl) hRKNm0
  have hRLTm135 := zR_LT_fr (zdis_fr (zfr_up hmm135 (zfr_rf [(28, 3)] _) hc0 rfl) rfl) hRLTm0
  have hRSEm135 := zR_SE_fr (zdis_fr (zfr_up hmm135 (zfr_rf [(28, 3)] _) hc0 rfl) rfl) hRSEm0
  have hRTEm135 := zR_TE_fr (zdis_fr (zfr_up hmm135 (zfr_rf [(28, 3)] _) hc0 rfl) rfl) hRTEm0
  refine zw_bd (zw_eq (zu_call_at (zt_T n) (zm_125 n) (zdp_125 n) _ _ _ _ _ rfl (zr_125_0 n _ _ a0 a1 m135)) ?_)
  refine zw_ite (fun h136 => ?_) (fun h136 => ?_)
  · refine zw_b (by omega) ?_
    refine zw_some ?_
    refine zw_ite (fun h137 => ?_) (fun h137 => ?_)
    · exfalso; omega
    · have r138 : (-2147483648) ≤ (m135 a0 2) ∧ (m135 a0 2) ≤ 2147483647 := zi_rd hIm135 hc0 zb_28_2
      have e139 : (m135 a0 2) = 0 := (zs_eq hmm135)
      exact zw_some ⟨hIm135, hFm135, hRC0m135, hRKNm135, hRLTm135, hRSEm135, hRTEm135, ⟨by omega, by omega⟩, ⟨by omega, by omega⟩⟩
  · have r140 : 0 ≤ (m135 a0 15) ∧ (m135 a0 15) ≤ 4 := zi_rd hIm135 hc0 zb_28_15
    refine zw_ite (fun h141 => ?_) (fun h141 => ?_)
    · refine zw_b (by omega) ?_
      refine zw_some ?_
      refine zw_ite (fun h142 => ?_) (fun h142 => ?_)
      · exfalso; omega
      · have r143 : (-2147483648) ≤ (m135 a0 2) ∧ (m135 a0 2) ≤ 2147483647 := zi_rd hIm135 hc0 zb_28_2
        have e144 : (m135 a0 2) = 0 := (zs_eq hmm135)
        exact zw_some ⟨hIm135, hFm135, hRC0m135, hRKNm135, hRLTm135, hRSEm135, hRTEm135, ⟨by omega, by omega⟩, ⟨by omega, by omega⟩⟩
    · refine zw_b (by omega) ?_
      refine zw_some ?_
      refine zw_ite (fun h145 => ?_) (fun h145 => ?_)
      · have r146 : (-2147483648) ≤ (m135 a0 2) ∧ (m135 a0 2) ≤ 2147483647 := zi_rd hIm135 hc0 zb_28_2
        have e147 : (m135 a0 2) = 0 := (zs_eq hmm135)
        have hM : (24 - 0) * 1 + 6514 < ((6539 : Nat) : Int) := by omega
        exact (zl_184 n (m0 := m0) hc0 6539).1 0 0 m135 hIm135 hFm135 ⟨by omega, by omega⟩ ⟨by omega, by omega⟩ ⟨by omega, by omega⟩ ⟨by omega, by omega⟩ ⟨by omega, by omega⟩ hRC0m135 hRKNm135 hRLTm135 hRSEm135 hRTEm135 hM
      · exfalso; omega

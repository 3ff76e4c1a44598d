set_option maxHeartbeats 4000000 in
theorem zk_61 (n : Nat) {a0 a1 a2 a3 a4 a5 : Int} {m0 : zu_m} (hIm0 : zi_I m0) (hc0 : zcls a0 = 2) (ha1 : (-2147483648) ≤ a1 ∧ a1 ≤ 2147483647) (ha2 : (-2147483648) ≤ a2 ∧ a2 ≤ 2147483647) (ha3 : (-2147483648) ≤ a3 ∧ a3 ≤ 2147483647) (ha4 : (-2147483648) ≤ a4 ∧ a4 ≤ 2147483647) (ha5 : (-2147483648) ≤ a5 ∧ a5 ≤ 2147483647)    (hRE89m0 : zE m0 89 50) (hRG5m0 : zgeo m0 50) (hRK54m0 : zR_K54 m0) : zw (zu_call (zt_T n) 61 [(5, a0), (0, a1), (0, a2), (0, a3), (0, a4), (0, a5)] m0) (fun v m => zi_I m ∧ zfr [(24, 7), (24, 14), (24, 15), (24, 16), (25, 3), (25, 5), (25, 9), (25, 10), (25, 11), (25, 12), (26, 1), (26, 2), (26, 3), (26, 4), (27, 1), (27, 2), (27, 3), (27, 4), (27, 5), (27, 6), (27, 7), (27, 8), (56, 0), (59, 1), (59, 2), (59, 3), (59, 4), (59, 5), (59, 6), (59, 7), (85, 0), (86, 0), (87, 0), (88, 0), (89, 0), (90, 0), (91, 0), (92, 0), (97, 0), (98, 0)] m0 m ∧ zE m 89 50 ∧ zgeo m 50 ∧ zR_K54 m ∧ ((-2147483648) ≤ v ∧ v ≤ 2147483647)) := by
  have hFm0 : zfr [(24, 7), (24, 14), (24, 15), (24, 16), (25, 3), (25, 5), (25, 9), (25, 10), (25, 11), (25, 12), (26, 1), (26, 2), (26, 3), (26, 4), (27, 1), (27, 2), (27, 3), (27, 4), (27, 5), (27, 6), (27, 7), (27, 8), (56, 0), (59, 1), (59, 2), (59, 3), (59, 4), (59, 5), (59, 6), (59, 7), (85, 0), (86, 0), (87, 0), (88, 0), (89, 0), (90, 0), (91, 0), (92, 0), (97, 0), (98, 0)] m0 m0 := zfr_rf _ _
  refine zw_eq (zu_call_at (zt_T n) (zm_61 n) (zdp_61 n) _ _ _ _ _ rfl (zr_61_0 n _ _ a0 a1 a2 a3 a4 a5 m0)) ?_
  refine zw_ite (fun h1 => ?_) (fun h1 => ?_)
  · exact zw_some ⟨hIm0, hFm0, hRE89m0, hRG5m0, hRK54m0, ⟨by decide, by decide⟩⟩
  · refine zw_ite (fun h2 => ?_) (fun h2 => ?_)
    · exact zw_some ⟨hIm0, hFm0, hRE89m0, hRG5m0, hRK54m0, ⟨by decide, by decide⟩⟩
    · refine zw_bd (zw_eq (zu_call_at (zt_T n) (zm_51 n) (zdp_51 n) _ _ _ _ _ rfl (zr_51_0 n _ _ a2 m0)) ?_)
      refine zw_ite (fun h3 => ?_) (fun h3 => ?_)
      · refine zw_b (by omega) ?_
        refine zw_some ?_
        refine zw_ite (fun h4 => ?_) (fun h4 => ?_)
        · exact zw_some ⟨hIm0, hFm0, hRE89m0, hRG5m0, hRK54m0, ⟨by decide, by decide⟩⟩
        · exfalso; omega
      · refine zw_ite (fun h5 => ?_) (fun h5 => ?_)
        · refine zw_b (by omega) ?_
          refine zw_some ?_
          refine zw_ite (fun h6 => ?_) (fun h6 => ?_)
          · exact zw_some ⟨hIm0, hFm0, hRE89m0, hRG5m0, hRK54m0, ⟨by decide, by decide⟩⟩
          · exfalso; omega
        · refine zw_b (by omega) ?_
          refine zw_some ?_
          refine zw_ite (fun h7 => ?_) (fun h7 => ?_)
          · exfalso; omega
          · refine zw_bd (zw_eq (zu_call_at (zt_T n) (zm_52 n) (zdp_52 n) _ _ _ _ _ rfl (zr_52_0 n _ _ a3 m0)) ?_)
            refine zw_ite (fun h8 => ?_) (fun h8 => ?_)
            · refine zw_b (by omega) ?_
              refine zw_some ?_
              refine zw_ite (fun h9 => ?_) (fun h9 => ?_)
              · exact zw_some ⟨hIm0, hFm0, hRE89m0, hRG5m0, hRK54m0, ⟨by decide, by decide⟩⟩
              · exfalso; omega
            · refine zw_ite (fun h10 => ?_) (fun h10 => ?_)
              · refine zw_b (by omega) ?_
                refine zw_some ?_
                refine zw_ite (fun h11 => ?_) (fun h11 => ?_)
                · exact zw_some ⟨hIm0, hFm0, hRE89m0, hRG5m0, hRK54m0, ⟨by decide, by decide⟩⟩
                · exfalso; omega
              · refine zw_b (by omega) ?_
                refine zw_some ?_
                refine zw_ite (fun h12 => ?_) (fun h12 => ?_)
                · exfalso; omega
                · refine zw_ite (fun h13 => ?_) (fun h13 => ?_)
                  · exact zw_some ⟨hIm0, hFm0, hRE89m0, hRG5m0, hRK54m0, ⟨by decide, by decide⟩⟩
                  · refine zw_ite (fun h14 => ?_) (fun h14 => ?_)
                    · exact zw_some ⟨hIm0, hFm0, hRE89m0, hRG5m0, hRK54m0, ⟨by decide, by decide⟩⟩
                    · refine zw_ite (fun h15 => ?_) (fun h15 => ?_)
                      · exact zw_some ⟨hIm0, hFm0, hRE89m0, hRG5m0, hRK54m0, ⟨by decide, by decide⟩⟩
                      · refine zw_ite (fun h16 => ?_) (fun h16 => ?_)
                        · exact zw_some ⟨hIm0, hFm0, hRE89m0, hRG5m0, hRK54m0, ⟨by decide, by decide⟩⟩
                        · have r17 : 0 ≤ (m0 89 4) ∧ (m0 89 4) ≤ 4 := zi_rd hIm0 zq_89 zb_16_4
                          refine zw_ite (fun h18 => ?_) (fun h18 => ?_)
                          · have r19 : 1 ≤ (m0 50 2) ∧ (m0 50 2) ≤ 48 := zi_rd hIm0 zq_50 zb_11_2
                            refine zw_ite (fun h20 => ?_) (fun h20 => ?_)
                            · refine zw_ite (fun h21 => ?_) (fun h21 => ?_)
                              · refine zw_bd (zw_mono (zk_285 n hIm0 zq_153 ⟨by omega, by omega⟩ ⟨by omega, by omega⟩ ⟨by omega, by omega⟩ ⟨by omega, by omega⟩ hRE89m0 hRG5m0 hRK54m0) (fun v23 m22 hqm22 => ?_))
                                obtain ⟨hIm22, hfm22, hvm22⟩ := hqm22
                                have hFm22 := zfr_tr hFm0 hfm22 rfl
                                obtain ⟨hRE164m22, hRE89m22, hRG5m22, hRK54m22, hvm22⟩ := hvm22
                                refine zw_ite (fun h24 => ?_) (fun h24 => ?_)
                                · have w25 := zu_w32_id (z := a5 - 1) (by omega) (by omega)
                                  have b26 : 0 ≤ (zu_w32 (a5 - 1)) ∧ (zu_w32 (a5 - 1)) < 2 := by omega
                                  refine zw_if b26 ?_
                                  have r27 : 0 ≤ (m22 161 (zu_w32 (a5 - 1))) ∧ (m22 161 (zu_w32 (a5 - 1))) ≤ 47 := zi_rd hIm22 zq_161 (zb_92 _)
                                  exact zw_some ⟨hIm22, hFm22, hRE89m22, hRG5m22, hRK54m22, ⟨by omega, by omega⟩⟩
                                · have r28 : (-2147483648) ≤ (m22 153 15) ∧ (m22 153 15) ≤ 2147483647 := zi_rd hIm22 zq_153 zb_24_15
                                  exact zw_some ⟨hIm22, hFm22, hRE89m22, hRG5m22, hRK54m22, ⟨by omega, by omega⟩⟩
                              · exact zw_some ⟨hIm0, hFm0, hRE89m0, hRG5m0, hRK54m0, ⟨by decide, by decide⟩⟩
                            · exact zw_some ⟨hIm0, hFm0, hRE89m0, hRG5m0, hRK54m0, ⟨by decide, by decide⟩⟩
                          · exact zw_some ⟨hIm0, hFm0, hRE89m0, hRG5m0, hRK54m0, ⟨by decide, by decide⟩⟩
set_option maxHeartbeats 4000000 in
theorem zk_64 (n : Nat) {a0 a1 : Int} {m0 : zu_m} (hIm0 : zi_I m0) (hc0 : zcls a0 = 2) (ha1 : (-2147483648) ≤ a1 ∧ a1 ≤ 2147483647)    (hRE89m0 : zE m0 89 50) (hRG5m0 : zgeo m0 50) (hRK54m0 : zR_K54 m0) : zw (zu_call (zt_T n) 64 [(5, a0), (0, a1)] m0) (fun v m => zi_I m ∧ zfr [(25, 3), (25, 5), (25, 9), (25, 10), (25, 11), (25, 12), (26, 1), (26, 2), (26, 3), (26, 4), (27, 1), (27, 2), (27, 3), (27, 4), (27, 5), (27, 6), (27, 7), (27, 8), (56, 0), (59, 1), (59, 2), (59, 3), (59, 4), (59, 5), (59, 6), (59, 7), (97, 0), (98, 0)] m0 m ∧ zE m 89 50 ∧ zgeo m 50 ∧ zR_K54 m ∧ ((-1) ≤ v ∧ v ≤ 2)) := by
  have hFm0 : zfr [(25, 3), (25, 5), (25, 9), (25, 10), (25, 11), (25, 12), (26, 1), (26, 2), (26, 3), (26, 4), (27, 1), (27, 2), (27, 3), (27, 4), (27, 5), (27, 6), (27, 7), (27, 8), (56, 0), (59, 1), (59, 2), (59, 3), (59, 4), (59, 5), (59, 6), (59, 7), (97, 0), (98, 0)] m0 m0 := zfr_rf _ _
  refine zw_eq (zu_call_at (zt_T n) (zm_64 n) (zdp_64 n) _ _ _ _ _ rfl (zr_64_0 n _ _ a0 a1 m0)) ?_
  refine zw_bd (zw_eq (zu_call_at (zt_T n) (zm_53 n) (zdp_53 n) _ _ _ _ _ rfl (zr_53_0 n _ _ a1 m0)) ?_)
  refine zw_ite (fun h1 => ?_) (fun h1 => ?_)
  · refine zw_b (by omega) ?_
    refine zw_some ?_
    refine zw_ite (fun h2 => ?_) (fun h2 => ?_)
    · exact zw_some ⟨hIm0, hFm0, hRE89m0, hRG5m0, hRK54m0, ⟨by decide, by decide⟩⟩
    · exfalso; omega
  · refine zw_ite (fun h3 => ?_) (fun h3 => ?_)
    · refine zw_b (by omega) ?_
      refine zw_some ?_
      refine zw_ite (fun h4 => ?_) (fun h4 => ?_)
      · exact zw_some ⟨hIm0, hFm0, hRE89m0, hRG5m0, hRK54m0, ⟨by decide, by decide⟩⟩
      · exfalso; omega
    · refine zw_b (by omega) ?_
      refine zw_some ?_
      refine zw_ite (fun h5 => ?_) (fun h5 => ?_)
      · exfalso; omega
      · refine zw_bd (zw_mono (zk_300 n hIm0 zq_153 ⟨by omega, by omega⟩ hRE89m0 hRG5m0 hRK54m0) (fun v7 m6 hqm6 => ?_))
        obtain ⟨hIm6, hfm6, hvm6⟩ := hqm6
        have hFm6 := zfr_tr hFm0 hfm6 rfl
        obtain ⟨hRE89m6, hRG5m6, hRK54m6, hvm6⟩ := hvm6
        exact zw_some ⟨hIm6, hFm6, hRE89m6, hRG5m6, hRK54m6, ⟨by omega, by omega⟩⟩
set_option maxHeartbeats 4000000 in
theorem zk_75 (n : Nat) {a0 a1 : Int} {m0 : zu_m} (hIm0 : zi_I m0) (hc0 : zcls a0 = 2) (ha1 : (-2147483648) ≤ a1 ∧ a1 ≤ 2147483647)    (hRE63m0 : zE m0 63 50) (hRG5m0 : zgeo m0 50) (hRK54m0 : zR_K54 m0) : zw (zu_call (zt_T n) 75 [(5, a0), (0, a1)] m0) (fun v m => zi_I m ∧ zfr [(25, 3), (25, 5), (25, 9), (25, 10), (25, 11), (25, 12), (26, 1), (26, 2), (26, 3), (26, 4), (27, 1), (27, 2), (27, 3), (27, 4), (27, 5), (27, 6), (27, 7), (27, 8), (56, 0), (59, 1), (59, 2), (59, 3), (59, 4), (59, 5), (59, 6), (59, 7), (80, 0), (97, 0), (98, 0)] m0 m ∧ zE m 63 50 ∧ zgeo m 50 ∧ zR_K54 m ∧ ((-2147483648) ≤ v ∧ v ≤ 2147483647)) := by
  have hFm0 : zfr [(25, 3), (25, 5), (25, 9), (25, 10), (25, 11), (25, 12), (26, 1), (26, 2), (26, 3), (26, 4), (27, 1), (27, 2), (27, 3), (27, 4), (27, 5), (27, 6), (27, 7), (27, 8), (56, 0), (59, 1), (59, 2), (59, 3), (59, 4), (59, 5), (59, 6), (59, 7), (80, 0), (97, 0), (98, 0)] m0 m0 := zfr_rf _ _
  refine zw_eq (zu_call_at (zt_T n) (zm_75 n) (zdp_75 n) _ _ _ _ _ rfl (zr_75_0 n _ _ a0 a1 m0)) ?_
  refine zw_bd (zw_eq (zu_call_at (zt_T n) (zm_211 n) (zdp_211 n) _ _ _ _ _ rfl (zr_211_0 n _ _ 89 a1 m0)) ?_)
  refine zw_ite (fun h1 => ?_) (fun h1 => ?_)
  · refine zw_b (by omega) ?_
    refine zw_some ?_
    refine zw_ite (fun h2 => ?_) (fun h2 => ?_)
    · exact zw_some ⟨hIm0, hFm0, hRE63m0, hRG5m0, hRK54m0, ⟨by decide, by decide⟩⟩
    · exfalso; omega
  · have r3 : 0 ≤ (m0 89 4) ∧ (m0 89 4) ≤ 4 := zi_rd hIm0 zq_89 zb_16_4
    refine zw_ite (fun h4 => ?_) (fun h4 => ?_)
    · refine zw_b (by omega) ?_
      refine zw_some ?_
      refine zw_ite (fun h5 => ?_) (fun h5 => ?_)
      · exact zw_some ⟨hIm0, hFm0, hRE63m0, hRG5m0, hRK54m0, ⟨by decide, by decide⟩⟩
      · exfalso; omega
    · refine zw_b (by omega) ?_
      refine zw_some ?_
      refine zw_ite (fun h6 => ?_) (fun h6 => ?_)
      · exfalso; omega
      · refine zw_bd (zw_mono (zk_301 n hIm0 zq_153 ⟨by omega, by omega⟩ hRE63m0 hRG5m0 hRK54m0) (fun v8 m7 hqm7 => ?_))
        obtain ⟨hIm7, hfm7, hvm7⟩ := hqm7
        have hFm7 := zfr_tr hFm0 hfm7 rfl
        obtain ⟨hRE63m7, hRG5m7, hRK54m7, hvm7⟩ := hvm7
        exact zw_some ⟨hIm7, hFm7, hRE63m7, hRG5m7, hRK54m7, ⟨by omega, by omega⟩⟩
set_option maxHeartbeats 4000000 in
theorem zl_106 (n : Nat) {a0 a1 : Int} {m0 : zu_m} (hc0 : zcls a0 = 28)   : ∀ k : Nat, (∀ (x2 : Int) (mh : zu_m), zi_I mh → zfr [(28, 2), (28, 3), (28, 5), (28, 6), (28, 7), (28, 8), (28, 9), (28, 10), (28, 11), (28, 12), (28, 13), (28, 14), (28, 15), (28, 16), (28, 17), (28, 18), (28, 19), (28, 20), (28, 21), (28, 22), (28, 23), (28, 24), (28, 43), (28, 46), (28, 47), (28, 48), (28, 49), (28, 50), (28, 51), (28, 54), (28, 63), (28, 64), (28, 65), (28, 66), (28, 67), (28, 68), (28, 69), (28, 70), (28, 78), (28, 79), (28, 82), (28, 84), (102, 0), (103, 0), (104, 0), (105, 0), (106, 0), (107, 0), (108, 0), (109, 0), (110, 0), (111, 0), (112, 0), (113, 0), (114, 0), (115, 0), (116, 0), (117, 0), (118, 0), (119, 0), (120, 0), (121, 0), (122, 0), (123, 0), (124, 0), (125, 0), (126, 0), (127, 0), (128, 0), (129, 0), (130, 0), (131, 0)] m0 mh → (0 ≤ a1 ∧ a1 ≤ 700) → ((-2147483648) ≤ x2 ∧ x2 ≤ 2147483647) → (0 ≤ mh a0 1 ∧ mh a0 1 ≤ 0) → (0 ≤ mh a0 2 ∧ mh a0 2 ≤ 0) → ((mh a0 21) = (mh a0 48)) → ((mh a0 4) = 0) → ((mh a0 1) = 0) → (0 ≤ a1 ∧ a1 ≤ (m0 a0 1)) → (zR_C0 mh) → (zR_CR mh) → (zR_KN mh) → (zR_LR mh) → (zR_LT mh) → (zR_NS mh) → (zR_RI mh) → (zR_RU mh) → (zE1 mh 0) → (zR_TE mh) → (zR_TR mh) → (zR_WD mh) → (700 - (mh a0 7)) * 1 + 0 < (k : Int) → zw (zu_ex (zt_T n) 106 55 [(40, a0), (0, a1), (0, x2)] [] mh) (fun v m => zi_I m ∧ zfr [(28, 2), (28, 3), (28, 5), (28, 6), (28, 7), (28, 8), (28, 9), (28, 10), (28, 11), (28, 12), (28, 13), (28, 14), (28, 15), (28, 16), (28, 17), (28, 18), (28, 19), (28, 20), (28, 21), (28, 22), (28, 23), (28, 24), (28, 43), (28, 46), (28, 47), (28, 48), (28, 49), (28, 50), (28, 51), (28, 54), (28, 63), (28, 64), (28, 65), (28, 66), (28, 67), (28, 68), (28, 69), (28, 70), (28, 78), (28, 79), (28, 82), (28, 84), (102, 0), (103, 0), (104, 0), (105, 0), (106, 0), (107, 0), (108, 0), (109, 0), (110, 0), (111, 0), (112, 0), (113, 0), (114, 0), (115, 0), (116, 0), (117, 0), (118, 0), (119, 0), (120, 0), (121, 0), (122, 0), (123, 0), (124, 0), (125, 0), (126, 0), (127, 0), (128, 0), (129, 0), (130, 0), (131, 0)] m0 m ∧ zR_C0 m ∧ zR_KN m ∧ zR_LT m ∧ zR_NS m ∧ zR_RI m ∧ zR_RU m ∧ zE1 m 0 ∧ zR_TE m ∧ zR_WD m ∧ ((-2147483648) ≤ v ∧ v ≤ 2147483647) ∧ (0 ≤ m a0 2 ∧ m a0 2 ≤ 0) ∧ ((0 ≤ a1 ∧ a1 ≤ (m0 a0 1) ∧ (m a0 1) = 0) ∨ ((a1 < 0 ∨ (m0 a0 1) < a1) ∧ (m a0 1) = (m0 a0 1))))) := by
  intro k
  induction k with
  | zero => exact fun x2 mh hImh hFmh hba1 hbx2 hg2 hg3 hH0 hH1 hH2 hH3 hRC0mh hRCRmh hRKNmh hRLRmh hRLTmh hRNSmh hRRImh hRRUmh hRSEmh hRTEmh hRTRmh hRWDmh hM => by have zq0 := zi_rd hImh hc0 zb_28_7; exfalso; omega
  | succ k ih =>
    intro x2 mh hImh hFmh hba1 hbx2 hg2 hg3 hH0 hH1 hH2 hH3 hRC0mh hRCRmh hRKNmh hRLRmh hRLTmh hRNSmh hRRImh hRRUmh hRSEmh hRTEmh hRTRmh hRWDmh hM
    refine zw_eq (zu_rega_at (zt_T n) (zm_106 n) (zdp_106 n) _ _ _ _ _ _ (zr_106_55 n _ _ a0 a1 x2 mh)) ?_
    have r1 : 0 ≤ (mh a0 21) ∧ (mh a0 21) ≤ 64 := zi_rd hImh hc0 zb_28_21
    have r2 : 0 ≤ (mh a0 48) ∧ (mh a0 48) ≤ 64 := zi_rd hImh hc0 zb_28_48
    have r3 : (-2147483648) ≤ (mh a0 4) ∧ (mh a0 4) ≤ 2147483647 := zi_rd hImh hc0 zb_28_4
    have r4 : 0 ≤ (mh a0 7) ∧ (mh a0 7) ≤ 700 := zi_rd hImh hc0 zb_28_7
    have s5 := hRNSmh a0 hc0
    have r6 : 0 ≤ (mh a0 8) ∧ (mh a0 8) ≤ 6 := zi_rd hImh hc0 zb_28_8
    refine zw_ite (fun h7 => ?_) (fun h7 => ?_)
    · refine zw_bd (zw_mono (zk_31 n hImh hc0 (by omega) hRCRmh hRKNmh hRLRmh) (fun v9 m8 hqm8 => ?_))
      obtain ⟨hIm8, hfm8, hvm8⟩ := hqm8
      have hFm8 := zfr_tr hFmh hfm8 rfl
      obtain ⟨hRC0m8, hRCRm8, hRKNm8, hRLTm8, hRRIm8, hRRUm8, hRSEm8, hRTEm8, hvm8⟩ := hvm8
      have hRNSm8 := zR_NS_fr (zdis_fr hfm8 rfl) hRNSmh
      have hRTRm8 := zR_TR_fr (zdis_fr hfm8 rfl) hRTRmh
      have hRWDm8 := zR_WD_fr (zdis_fr hfm8 rfl) hRWDmh
      have s10 := hRNSm8 a0 hc0
      have r11 : (-2147483648) ≤ (m8 a0 2) ∧ (m8 a0 2) ≤ 2147483647 := zi_rd hIm8 hc0 zb_28_2
      have e12 : (m8 a0 2) = (mh a0 2) := (zfr_ap hfm8 hc0 rfl)
      have r13 : 0 ≤ (m8 a0 1) ∧ (m8 a0 1) ≤ 700 := zi_rd hIm8 hc0 zb_28_1
      have e14 : (m8 a0 1) = (mh a0 1) := (zfr_ap hfm8 hc0 rfl)
      exact zw_some ⟨hIm8, hFm8, hRC0m8, hRKNm8, hRLTm8, hRNSm8, hRRIm8, hRRUm8, hRSEm8, hRTEm8, hRWDm8, ⟨by omega, by omega⟩, ⟨by omega, by omega⟩, by omega⟩
    · refine zw_bd (zw_mono (zk_105 n hImh hc0 ⟨by omega, by omega⟩ (by omega) (by omega) hRC0mh hRCRmh hRKNmh hRLRmh hRLTmh hRNSmh hRTRmh hRWDmh) (fun v16 m15 hqm15 => ?_))
      obtain ⟨hIm15, hfm15, hvm15⟩ := hqm15
      have hFm15 := zfr_tr hFmh hfm15 rfl
      obtain ⟨hRC0m15, hRCRm15, hRKNm15, hRLRm15, hRLTm15, hRNSm15, hRTRm15, hRWDm15, hvm15⟩ := hvm15
      have hRRIm15 := zR_RI_fr (zdis_fr hfm15 rfl) hRRImh
      have hRRUm15 := zR_RU_fr (zdis_fr hfm15 rfl) hRRUmh
      have hRSEm15 := zR_SE_fr (zdis_fr hfm15 rfl) hRSEmh
      have hRTEm15 := zR_TE_fr (zdis_fr hfm15 rfl) hRTEmh
      have s17 := hRNSm15 a0 hc0
      have r18 : 0 ≤ (m15 a0 7) ∧ (m15 a0 7) ≤ 700 := zi_rd hIm15 hc0 zb_28_7
      have r19 : 0 ≤ (m15 a0 21) ∧ (m15 a0 21) ≤ 64 := zi_rd hIm15 hc0 zb_28_21
      have r20 : 0 ≤ (m15 a0 48) ∧ (m15 a0 48) ≤ 64 := zi_rd hIm15 hc0 zb_28_48
      have r21 : (-2147483648) ≤ (m15 a0 4) ∧ (m15 a0 4) ≤ 2147483647 := zi_rd hIm15 hc0 zb_28_4
      have y22 := (hvm15.1)
      have y23 := zhid_mk (hvm15.2.1)
      have y24 := zhid_mk (hvm15.2.2.1)
      have y25 := zhid_mk (hvm15.2.2.2)
      clear hvm15
      refine zw_ite (fun h26 => ?_) (fun h26 => ?_)
      · have s27 := (zhid_of y23) (by omega)
        have s28 := (zhid_of y24) (by omega)
        have s29 := (zhid_of y25) (by omega)
        have w30 := zu_w32_rg (x2 + 1)
        have r31 : 0 ≤ (m15 a0 1) ∧ (m15 a0 1) ≤ 700 := zi_rd hIm15 hc0 zb_28_1
        have e32 : (m15 a0 1) = (mh a0 1) := (zfr_ap hfm15 hc0 rfl)
        have r33 : (-2147483648) ≤ (m15 a0 2) ∧ (m15 a0 2) ≤ 2147483647 := zi_rd hIm15 hc0 zb_28_2
        have e34 : (m15 a0 2) = (mh a0 2) := (zfr_ap hfm15 hc0 rfl)
        have hM : (700 - (m15 a0 7)) * 1 + 0 < (k : Int) := by omega
        exact ih (zu_w32 (x2 + 1)) m15 hIm15 hFm15 ⟨by omega, by omega⟩ ⟨by omega, by omega⟩ ⟨by omega, by omega⟩ ⟨by omega, by omega⟩ (by omega) (by omega) (by omega) (by omega) hRC0m15 hRCRm15 hRKNm15 hRLRm15 hRLTm15 hRNSm15 hRRIm15 hRRUm15 hRSEm15 hRTEm15 hRTRm15 hRWDm15 hM
      · have r35 : (-2147483648) ≤ (m15 a0 2) ∧ (m15 a0 2) ≤ 2147483647 := zi_rd hIm15 hc0 zb_28_2
        have e36 : (m15 a0 2) = (mh a0 2) := (zfr_ap hfm15 hc0 rfl)
        have r37 : 0 ≤ (m15 a0 1) ∧ (m15 a0 1) ≤ 700 := zi_rd hIm15 hc0 zb_28_1
        have e38 : (m15 a0 1) = (mh a0 1) := (zfr_ap hfm15 hc0 rfl)
        exact zw_some ⟨hIm15, hFm15, hRC0m15, hRKNm15, hRLTm15, hRNSm15, hRRIm15, hRRUm15, hRSEm15, hRTEm15, hRWDm15, ⟨by decide, by decide⟩, ⟨by omega, by omega⟩, by omega⟩
set_option maxHeartbeats 4000000 in
theorem zk_106 (n : Nat) {a0 a1 : Int} {m0 : zu_m} (hIm0 : zi_I m0) (hc0 : zcls a0 = 28) (ha1 : (-2147483648) ≤ a1 ∧ a1 ≤ 2147483647)    (hRC0m0 : zR_C0 m0) (hRKNm0 : zR_KN m0) (hRLTm0 : zR_LT m0) (hRNSm0 : zR_NS m0) (hRRIm0 : zR_RI m0) (hRRUm0 : zR_RU m0) (hRSEm0 : zE1 m0 0) (hRTEm0 : zR_TE m0) (hRWDm0 : zR_WD m0) : zw (zu_call (zt_T n) 106 [(40, a0), (0, a1)] m0) (fun v m => zi_I m ∧ zfr [(28, 2), (28, 3), (28, 5), (28, 6), (28, 7), (28, 8), (28, 9), (28, 10), (28, 11), (28, 12), (28, 13), (28, 14), (28, 15), (28, 16), (28, 17), (28, 18), (28, 19), (28, 20), (28, 21), (28, 22), (28, 23), (28, 24), (28, 43), (28, 46), (28, 47), (28, 48), (28, 49), (28, 50), (28, 51), (28, 54), (28, 63), (28, 64), (28, 65), (28, 66), (28, 67), (28, 68), (28, 69), (28, 70), (28, 78), (28, 79), (28, 82), (28, 84), (102, 0), (103, 0), (104, 0), (105, 0), (106, 0), (107, 0), (108, 0), (109, 0), (110, 0), (111, 0), (112, 0), (113, 0), (114, 0), (115, 0), (116, 0), (117, 0), (118, 0), (119, 0), (120, 0), (121, 0), (122, 0), (123, 0), (124, 0), (125, 0), (126, 0), (127, 0), (128, 0), (129, 0), (130, 0), (131, 0)] m0 m ∧ zR_C0 m ∧ zR_KN m ∧ zR_LT m ∧ zR_NS m ∧ zR_RI m ∧ zR_RU m ∧ zE1 m 0 ∧ zR_TE m ∧ zR_WD m ∧ ((-2147483648) ≤ v ∧ v ≤ 2147483647) ∧ (0 ≤ m a0 2 ∧ m a0 2 ≤ 0) ∧ ((0 ≤ a1 ∧ a1 ≤ (m0 a0 1) ∧ (m a0 1) = 0) ∨ ((a1 < 0 ∨ (m0 a0 1) < a1) ∧ (m a0 1) = (m0 a0 1)))) := by
  have hFm0 : zfr [(28, 2), (28, 3), (28, 5), (28, 6), (28, 7), (28, 8), (28, 9), (28, 10), (28, 11), (28, 12), (28, 13), (28, 14), (28, 15), (28, 16), (28, 17), (28, 18), (28, 19), (28, 20), (28, 21), (28, 22), (28, 23), (28, 24), (28, 43), (28, 46), (28, 47), (28, 48), (28, 49), (28, 50), (28, 51), (28, 54), (28, 63), (28, 64), (28, 65), (28, 66), (28, 67), (28, 68), (28, 69), (28, 70), (28, 78), (28, 79), (28, 82), (28, 84), (102, 0), (103, 0), (104, 0), (105, 0), (106, 0), (107, 0), (108, 0), (109, 0), (110, 0), (111, 0), (112, 0), (113, 0), (114, 0), (115, 0), (116, 0), (117, 0), (118, 0), (119, 0), (120, 0), (121, 0), (122, 0), (123, 0), (124, 0), (125, 0), (126, 0), (127, 0), (128, 0), (129, 0), (130, 0), (131, 0)] m0 m0 := zfr_rf _ _
  have r39 : 0 ≤ (m0 a0 1) ∧ (m0 a0 1) ≤ 700 := zi_rd hIm0 hc0 zb_28_1
  have s40 := hRNSm0 a0 hc0
  refine zw_eq (zu_call_at (zt_T n) (zm_106 n) (zdp_106 n) _ _ _ _ _ rfl (zr_106_0 n _ _ a0 a1 m0)) ?_
  generalize hmm41 : zu_up m0 a0 2 0 = m41
  have hIm41 := zi_up hmm41 hIm0 hc0 zb_28_2 (by omega) (by omega)
  have hFm41 := zfr_up hmm41 hFm0 hc0 rfl
  have hRC0m41 := zR_C0_fr (zdis_fr (zfr_up hmm41 (zfr_rf [(28, 3)] _) hc0 rfl) rfl) hRC0m0
  have hRKNm41 := zR_KN_fr (zdis_fr (zfr_up hmm41 (zfr_rf [(28, 3)] _) hc0 rfl) rfl) hRKNm0
  have hRLTm41 := zR_LT_fr (zdis_fr (zfr_up hmm41 (zfr_rf [(28, 3)] _) hc0 rfl) rfl) hRLTm0
  have hRNSm41 := zR_NS_fr (zdis_fr (zfr_up hmm41 (zfr_rf [(28, 3)] _) hc0 rfl) rfl) hRNSm0
  have hRRIm41 := zR_RI_fr (zdis_fr (zfr_up hmm41 (zfr_rf [(28, 3)] _) hc0 rfl) rfl) hRRIm0
  have hRRUm41 := zR_RU_fr (zdis_fr (zfr_up hmm41 (zfr_rf [(28, 3)] _) hc0 rfl) rfl) hRRUm0
  have hRSEm41 := zR_SE_fr (zdis_fr (zfr_up hmm41 (zfr_rf [(28, 3)] _) hc0 rfl) rfl) hRSEm0
  have hRTEm41 := zR_TE_fr (zdis_fr (zfr_up hmm41 (zfr_rf [(28, 3)] _) hc0 rfl) rfl) hRTEm0
  have hRWDm41 := zR_WD_fr (zdis_fr (zfr_up hmm41 (zfr_rf [(28, 3)] _) hc0 rfl) rfl) hRWDm0
  refine zw_ite (fun h42 => ?_) (fun h42 => ?_)
  · have r43 : (-2147483648) ≤ (m41 a0 2) ∧ (m41 a0 2) ≤ 2147483647 := zi_rd hIm41 hc0 zb_28_2
    have e44 : (m41 a0 2) = 0 := (zs_eq hmm41)
    have r45 : 0 ≤ (m41 a0 1) ∧ (m41 a0 1) ≤ 700 := zi_rd hIm41 hc0 zb_28_1
    have e46 : (m41 a0 1) = (m0 a0 1) := (zs_ne hmm41 (Or.inr (by decide)))
    exact zw_some ⟨hIm41, hFm41, hRC0m41, hRKNm41, hRLTm41, hRNSm41, hRRIm41, hRRUm41, hRSEm41, hRTEm41, hRWDm41, ⟨by decide, by decide⟩, ⟨by omega, by omega⟩, by omega⟩
  · have r47 : 0 ≤ (m41 a0 1) ∧ (m41 a0 1) ≤ 700 := zi_rd hIm41 hc0 zb_28_1
    have e48 : (m41 a0 1) = (m0 a0 1) := (zs_ne hmm41 (Or.inr (by decide)))
    refine zw_ite (fun h49 => ?_) (fun h49 => ?_)
    · generalize hmm50 : zu_up m41 a0 6 a1 = m50
      have hIm50 := zi_up hmm50 hIm41 hc0 zb_28_6 (by omega) (by omega)
      have hFm50 := zfr_up hmm50 hFm41 hc0 rfl
      have hRC0m50 := zR_C0_fr (zdis_fr (zfr_up hmm50 (zfr_rf [(28, 7)] _) hc0 rfl) rfl) hRC0m41
      have hRKNm50 := zR_KN_fr (zdis_fr (zfr_up hmm50 (zfr_rf [(28, 7)] _) hc0 rfl) rfl) hRKNm41
      have hRLTm50 := zR_LT_fr (zdis_fr (zfr_up hmm50 (zfr_rf [(28, 7)] _) hc0 rfl) rfl) hRLTm41
      have hRRIm50 := zR_RI_fr (zdis_fr (zfr_up hmm50 (zfr_rf [(28, 7)] _) hc0 rfl) rfl) hRRIm41
      have hRRUm50 := zR_RU_fr (zdis_fr (zfr_up hmm50 (zfr_rf [(28, 7)] _) hc0 rfl) rfl) hRRUm41
      have hRSEm50 := zR_SE_fr (zdis_fr (zfr_up hmm50 (zfr_rf [(28, 7)] _) hc0 rfl) rfl) hRSEm41
      have hRTEm50 := zR_TE_fr (zdis_fr (zfr_up hmm50 (zfr_rf [(28, 7)] _) hc0 rfl) rfl) hRTEm41
      have hRWDm50 := zR_WD_fr (zdis_fr (zfr_up hmm50 (zfr_rf [(28, 7)] _) hc0 rfl) rfl) hRWDm41
      generalize hmm51 : zu_up m50 a0 1 0 = m51
      have hIm51 := zi_up hmm51 hIm50 hc0 zb_28_1 (by omega) (by omega)
      have hFm51 := zfr_up hmm51 hFm50 hc0 rfl
      have hRC0m51 := zR_C0_fr (zdis_fr (zfr_up hmm51 (zfr_rf [(28, 2)] _) hc0 rfl) rfl) hRC0m50
      have hRKNm51 := zR_KN_fr (zdis_fr (zfr_up hmm51 (zfr_rf [(28, 2)] _) hc0 rfl) rfl) hRKNm50
      have hRLTm51 := zR_LT_fr (zdis_fr (zfr_up hmm51 (zfr_rf [(28, 2)] _) hc0 rfl) rfl) hRLTm50
      have hRRIm51 := zR_RI_fr (zdis_fr (zfr_up hmm51 (zfr_rf [(28, 2)] _) hc0 rfl) rfl) hRRIm50
      have hRRUm51 := zR_RU_fr (zdis_fr (zfr_up hmm51 (zfr_rf [(28, 2)] _) hc0 rfl) rfl) hRRUm50
      have hRSEm51 := zR_SE_fr (zdis_fr (zfr_up hmm51 (zfr_rf [(28, 2)] _) hc0 rfl) rfl) hRSEm50
      have hRTEm51 := zR_TE_fr (zdis_fr (zfr_up hmm51 (zfr_rf [(28, 2)] _) hc0 rfl) rfl) hRTEm50
      have hRWDm51 := zR_WD_fr (zdis_fr (zfr_up hmm51 (zfr_rf [(28, 2)] _) hc0 rfl) rfl) hRWDm50
      generalize hmm52 : zu_up m51 a0 4 0 = m52
      have hIm52 := zi_up hmm52 hIm51 hc0 zb_28_4 (by omega) (by omega)
      have hFm52 := zfr_up hmm52 hFm51 hc0 rfl
      have hRC0m52 := zR_C0_fr (zdis_fr (zfr_up hmm52 (zfr_rf [(28, 5)] _) hc0 rfl) rfl) hRC0m51
      have hRKNm52 := zR_KN_fr (zdis_fr (zfr_up hmm52 (zfr_rf [(28, 5)] _) hc0 rfl) rfl) hRKNm51
      have hRLTm52 := zR_LT_fr (zdis_fr (zfr_up hmm52 (zfr_rf [(28, 5)] _) hc0 rfl) rfl) hRLTm51
      have hRRIm52 := zR_RI_fr (zdis_fr (zfr_up hmm52 (zfr_rf [(28, 5)] _) hc0 rfl) rfl) hRRIm51
      have hRRUm52 := zR_RU_fr (zdis_fr (zfr_up hmm52 (zfr_rf [(28, 5)] _) hc0 rfl) rfl) hRRUm51
      have hRSEm52 := zR_SE_fr (zdis_fr (zfr_up hmm52 (zfr_rf [(28, 5)] _) hc0 rfl) rfl) hRSEm51
      have hRTEm52 := zR_TE_fr (zdis_fr (zfr_up hmm52 (zfr_rf [(28, 5)] _) hc0 rfl) rfl) hRTEm51
      have hRWDm52 := zR_WD_fr (zdis_fr (zfr_up hmm52 (zfr_rf [(28, 5)] _) hc0 rfl) rfl) hRWDm51
      generalize hmm53 : zu_up m52 a0 5 (-1) = m53
      have hIm53 := zi_up hmm53 hIm52 hc0 zb_28_5 (by omega) (by omega)
      have hFm53 := zfr_up hmm53 hFm52 hc0 rfl
      have hRC0m53 := zR_C0_fr (zdis_fr (zfr_up hmm53 (zfr_rf [(28, 6)] _) hc0 rfl) rfl) hRC0m52
      have hRKNm53 := zR_KN_fr (zdis_fr (zfr_up hmm53 (zfr_rf [(28, 6)] _) hc0 rfl) rfl) hRKNm52
      have hRLTm53 := zR_LT_fr (zdis_fr (zfr_up hmm53 (zfr_rf [(28, 6)] _) hc0 rfl) rfl) hRLTm52
      have hRRIm53 := zR_RI_fr (zdis_fr (zfr_up hmm53 (zfr_rf [(28, 6)] _) hc0 rfl) rfl) hRRIm52
      have hRRUm53 := zR_RU_fr (zdis_fr (zfr_up hmm53 (zfr_rf [(28, 6)] _) hc0 rfl) rfl) hRRUm52
      have hRSEm53 := zR_SE_fr (zdis_fr (zfr_up hmm53 (zfr_rf [(28, 6)] _) hc0 rfl) rfl) hRSEm52
      have hRTEm53 := zR_TE_fr (zdis_fr (zfr_up hmm53 (zfr_rf [(28, 6)] _) hc0 rfl) rfl) hRTEm52
      have hRWDm53 := zR_WD_fr (zdis_fr (zfr_up hmm53 (zfr_rf [(28, 6)] _) hc0 rfl) rfl) hRWDm52
      generalize hmm54 : zu_up m53 a0 7 0 = m54
      have hIm54 := zi_up hmm54 hIm53 hc0 zb_28_7 (by omega) (by omega)
      have hFm54 := zfr_up hmm54 hFm53 hc0 rfl
      have hRC0m54 := zR_C0_fr (zdis_fr (zfr_up hmm54 (zfr_rf [(28, 8)] _) hc0 rfl) rfl) hRC0m53
      have hRKNm54 := zR_KN_fr (zdis_fr (zfr_up hmm54 (zfr_rf [(28, 8)] _) hc0 rfl) rfl) hRKNm53
      have hRLTm54 := zR_LT_fr (zdis_fr (zfr_up hmm54 (zfr_rf [(28, 8)] _) hc0 rfl) rfl) hRLTm53
      have hRRIm54 := zR_RI_fr (zdis_fr (zfr_up hmm54 (zfr_rf [(28, 8)] _) hc0 rfl) rfl) hRRIm53
      have hRRUm54 := zR_RU_fr (zdis_fr (zfr_up hmm54 (zfr_rf [(28, 8)] _) hc0 rfl) rfl) hRRUm53
      have hRSEm54 := zR_SE_fr (zdis_fr (zfr_up hmm54 (zfr_rf [(28, 8)] _) hc0 rfl) rfl) hRSEm53
      have hRTEm54 := zR_TE_fr (zdis_fr (zfr_up hmm54 (zfr_rf [(28, 8)] _) hc0 rfl) rfl) hRTEm53
      have hRWDm54 := zR_WD_fr (zdis_fr (zfr_up hmm54 (zfr_rf [(28, 8)] _) hc0 rfl) rfl) hRWDm53
      have r55 : 0 ≤ (m54 a0 7) ∧ (m54 a0 7) ≤ 700 := zi_rd hIm54 hc0 zb_28_7
      have e56 : (m54 a0 7) = 0 := (zs_eq hmm54)
      have r57 : 0 ≤ (m54 a0 6) ∧ (m54 a0 6) ≤ 700 := zi_rd hIm54 hc0 zb_28_6
      have e58 : (m54 a0 6) = a1 := (Eq.trans (zs_ne hmm54 (Or.inr (by decide))) (Eq.trans (zs_ne hmm53 (Or.inr (by decide))) (Eq.trans (zs_ne hmm52 (Or.inr (by decide))) (Eq.trans (zs_ne hmm51 (Or.inr (by decide))) (zs_eq hmm50)))))
      have hRNSm54 := zR_NS_of hc0 (show m54 a0 7 ≤ m54 a0 6 by omega)
      refine zw_bd (zw_mono (zk_30 n hIm54 hc0 hRLTm54) (fun v60 m59 hqm59 => ?_))
      obtain ⟨hIm59, hfm59, hvm59⟩ := hqm59
      have hFm59 := zfr_tr hFm54 hfm59 rfl
      obtain ⟨hRCRm59, hRLRm59, hRLTm59, hvm59⟩ := hvm59
      have hRC0m59 := zR_C0_fr (zdis_fr hfm59 rfl) hRC0m54
      have hRKNm59 := zR_KN_fr (zdis_fr hfm59 rfl) hRKNm54
      have hRNSm59 := zR_NS_fr (zdis_fr hfm59 rfl) hRNSm54
      have hRRIm59 := zR_RI_fr (zdis_fr hfm59 rfl) hRRIm54
      have hRRUm59 := zR_RU_fr (zdis_fr hfm59 rfl) hRRUm54
      have hRSEm59 := zR_SE_fr (zdis_fr hfm59 rfl) hRSEm54
      have hRTEm59 := zR_TE_fr (zdis_fr hfm59 rfl) hRTEm54
      have hRWDm59 := zR_WD_fr (zdis_fr hfm59 rfl) hRWDm54
      have s61 := hRNSm59 a0 hc0
      have r64 : 0 ≤ (m59 a0 7) ∧ (m59 a0 7) ≤ 700 := zi_rd hIm59 hc0 zb_28_7
      have e65 : (m59 a0 7) = (m54 a0 7) := (zfr_ap hfm59 hc0 rfl)
      refine zw_bd (zw_mono (zk_89 n hIm59 hc0 hRNSm59 hRWDm59) (fun v63 m62 hqm62 => ?_))
      obtain ⟨hIm62, hfm62, hvm62⟩ := hqm62
      have hFm62 := zfr_tr hFm59 hfm62 rfl
      obtain ⟨hRNSm62, hRTRm62, hRWDm62, hvm62⟩ := hvm62
      have hRC0m62 := zR_C0_fr (zdis_fr hfm62 rfl) hRC0m59
      have hRCRm62 := zR_CR_fr (zdis_fr hfm62 rfl) hRCRm59
      have hRKNm62 := zR_KN_fr (zdis_fr hfm62 rfl) hRKNm59
      have hRLRm62 := zR_LR_fr (zdis_fr hfm62 rfl) hRLRm59
      have hRLTm62 := zR_LT_fr (zdis_fr hfm62 rfl) hRLTm59
      have hRRIm62 := zR_RI_fr (zdis_fr hfm62 rfl) hRRIm59
      have hRRUm62 := zR_RU_fr (zdis_fr hfm62 rfl) hRRUm59
      have hRSEm62 := zR_SE_fr (zdis_fr hfm62 rfl) hRSEm59
      have hRTEm62 := zR_TE_fr (zdis_fr hfm62 rfl) hRTEm59
      have s66 := hRNSm62 a0 hc0
      have r67 : 0 ≤ (m62 a0 7) ∧ (m62 a0 7) ≤ 700 := zi_rd hIm62 hc0 zb_28_7
      have r68 : 0 ≤ (m62 a0 8) ∧ (m62 a0 8) ≤ 6 := zi_rd hIm62 hc0 zb_28_8
      have r69 : 0 ≤ (m62 a0 1) ∧ (m62 a0 1) ≤ 700 := zi_rd hIm62 hc0 zb_28_1
      have e70 : (m62 a0 1) = 0 := (Eq.trans (zfr_ap hfm62 hc0 rfl) (Eq.trans (zfr_ap hfm59 hc0 rfl) (Eq.trans (zs_ne hmm54 (Or.inr (by decide))) (Eq.trans (zs_ne hmm53 (Or.inr (by decide))) (Eq.trans (zs_ne hmm52 (Or.inr (by decide))) (zs_eq hmm51))))))
      have r71 : (-2147483648) ≤ (m62 a0 2) ∧ (m62 a0 2) ≤ 2147483647 := zi_rd hIm62 hc0 zb_28_2
      have e72 : (m62 a0 2) = 0 := (Eq.trans (zfr_ap hfm62 hc0 rfl) (Eq.trans (zfr_ap hfm59 hc0 rfl) (Eq.trans (zs_ne hmm54 (Or.inr (by decide))) (Eq.trans (zs_ne hmm53 (Or.inr (by decide))) (Eq.trans (zs_ne hmm52 (Or.inr (by decide))) (Eq.trans (zs_ne hmm51 (Or.inr (by decide))) (Eq.trans (zs_ne hmm50 (Or.inr (by decide))) (zs_eq hmm41))))))))
      have r73 : 0 ≤ (m62 a0 21) ∧ (m62 a0 21) ≤ 64 := zi_rd hIm62 hc0 zb_28_21
      have e74 : (m62 a0 21) = (m59 a0 21) := (zfr_ap hfm62 hc0 rfl)
      have r75 : 0 ≤ (m62 a0 48) ∧ (m62 a0 48) ≤ 64 := zi_rd hIm62 hc0 zb_28_48
      have e76 : (m62 a0 48) = (m59 a0 48) := (zfr_ap hfm62 hc0 rfl)
      have r77 : (-2147483648) ≤ (m62 a0 4) ∧ (m62 a0 4) ≤ 2147483647 := zi_rd hIm62 hc0 zb_28_4
      have e78 : (m62 a0 4) = 0 := (Eq.trans (zfr_ap hfm62 hc0 rfl) (Eq.trans (zfr_ap hfm59 hc0 rfl) (Eq.trans (zs_ne hmm54 (Or.inr (by decide))) (Eq.trans (zs_ne hmm53 (Or.inr (by decide))) (zs_eq hmm52)))))
      have hM : (700 - (m62 a0 7)) * 1 + 0 < ((701 : Nat) : Int) := by omega
      exact (zl_106 n (m0 := m0) hc0 701) 0 m62 hIm62 hFm62 ⟨by omega, by omega⟩ ⟨by omega, by omega⟩ ⟨by omega, by omega⟩ ⟨by omega, by omega⟩ (by omega) (by omega) (by omega) (by omega) hRC0m62 hRCRm62 hRKNm62 hRLRm62 hRLTm62 hRNSm62 hRRIm62 hRRUm62 hRSEm62 hRTEm62 hRTRm62 hRWDm62 hM
    · have r79 : (-2147483648) ≤ (m41 a0 2) ∧ (m41 a0 2) ≤ 2147483647 := zi_rd hIm41 hc0 zb_28_2
      have e80 : (m41 a0 2) = 0 := (zs_eq hmm41)
      exact zw_some ⟨hIm41, hFm41, hRC0m41, hRKNm41, hRLTm41, hRNSm41, hRRIm41, hRRUm41, hRSEm41, hRTEm41, hRWDm41, ⟨by decide, by decide⟩, ⟨by omega, by omega⟩, by omega⟩
set_option maxHeartbeats 4000000 in
theorem zl_140H0 (n : Nat) {a0 a1 : Int} {m0 : zu_m} (hc0 : zcls a0 = 28)   (k : Nat) (ih : (∀ (x2 x3 : Int) (mh : zu_m), zi_I mh → zfr [(28, 54), (28, 64), (122, 0), (123, 0), (124, 0), (126, 0), (128, 0), (129, 0), (130, 0), (131, 0)] m0 mh → (0 ≤ a1 ∧ a1 ≤ 1) → ((-2147483648) ≤ x2 ∧ x2 ≤ 2147483647) → (0 ≤ x3 ∧ x3 ≤ 4) → (zE1 mh a1) → (zR_KN mh) → (zR_LT mh) → (zE1 mh 0) → (4 - x3) * 1 + 43 < (k : Int) → zw (zu_ex (zt_T n) 140 9 [(40, a0), (0, a1), (0, x2), (0, x3), (2, 0)] [] mh) (fun v m => zi_I m ∧ zfr [(28, 54), (28, 64), (122, 0), (123, 0), (124, 0), (126, 0), (128, 0), (129, 0), (130, 0), (131, 0)] m0 m ∧ zE1 m a1 ∧ zR_KN m ∧ zR_LT m ∧ zE1 m 0 ∧ True)) ∧ (∀ (x2 x3 : Int) (mh : zu_m), zi_I mh → zfr [(28, 54), (28, 64), (122, 0), (123, 0), (124, 0), (126, 0), (128, 0), (129, 0), (130, 0), (131, 0)] m0 mh → (0 ≤ a1 ∧ a1 ≤ 1) → ((-2147483648) ≤ x2 ∧ x2 ≤ 2147483647) → (0 ≤ x3 ∧ x3 ≤ 4) → (zE1 mh a1) → (zR_KN mh) → (zR_LT mh) → (zE1 mh 0) → (4 - x3) * 1 + 38 < (k : Int) → zw (zu_ex (zt_T n) 140 53 [(40, a0), (0, a1), (0, x2), (0, x3), (2, 0)] [] mh) (fun v m => zi_I m ∧ zfr [(28, 54), (28, 64), (122, 0), (123, 0), (124, 0), (126, 0), (128, 0), (129, 0), (130, 0), (131, 0)] m0 m ∧ zE1 m a1 ∧ zR_KN m ∧ zR_LT m ∧ zE1 m 0 ∧ True)) ∧ (∀ (x2 x3 x4 : Int) (mh : zu_m), zi_I mh → zfr [(28, 54), (28, 64), (122, 0), (123, 0), (124, 0), (126, 0), (128, 0), (129, 0), (130, 0), (131, 0)] m0 mh → (0 ≤ a1 ∧ a1 ≤ 1) → (1 ≤ x2 ∧ x2 ≤ 2147483647) → ((-99) ≤ x3 ∧ x3 ≤ 99) → (0 ≤ x4 ∧ x4 ≤ 18) → (0 ≤ mh a0 65 ∧ mh a0 65 ≤ 0) → (zE1 mh a1) → (zR_KN mh) → (zR_LT mh) → (zE1 mh 0) → (18 - x4) * 1 + 19 < (k : Int) → zw (zu_ex (zt_T n) 140 138 [(40, a0), (0, a1), (0, x2), (0, x3), (0, x4)] [] mh) (fun v m => zi_I m ∧ zfr [(28, 54), (28, 64), (122, 0), (123, 0), (124, 0), (126, 0), (128, 0), (129, 0), (130, 0), (131, 0)] m0 m ∧ zE1 m a1 ∧ zR_KN m ∧ zR_LT m ∧ zE1 m 0 ∧ True)) ∧ (∀ (x2 x3 : Int) (mh : zu_m), zi_I mh → zfr [(28, 54), (28, 64), (122, 0), (123, 0), (124, 0), (126, 0), (128, 0), (129, 0), (130, 0), (131, 0)] m0 mh → (0 ≤ a1 ∧ a1 ≤ 1) → ((-1) ≤ x2 ∧ x2 ≤ 99999) → (0 ≤ x3 ∧ x3 ≤ 18) → (0 ≤ mh a0 66 ∧ mh a0 66 ≤ 0) → (zE1 mh a1) → (zR_KN mh) → (zR_LT mh) → (zE1 mh 0) → (18 - x3) * 1 + 0 < (k : Int) → zw (zu_ex (zt_T n) 140 226 [(40, a0), (0, a1), (0, x2), (0, x3), (2, 0)] [] mh) (fun v m => zi_I m ∧ zfr [(28, 54), (28, 64), (122, 0), (123, 0), (124, 0), (126, 0), (128, 0), (129, 0), (130, 0), (131, 0)] m0 m ∧ zE1 m a1 ∧ zR_KN m ∧ zR_LT m ∧ zE1 m 0 ∧ True))) : (∀ (x2 x3 : Int) (mh : zu_m), zi_I mh → zfr [(28, 54), (28, 64), (122, 0), (123, 0), (124, 0), (126, 0), (128, 0), (129, 0), (130, 0), (131, 0)] m0 mh → (0 ≤ a1 ∧ a1 ≤ 1) → ((-2147483648) ≤ x2 ∧ x2 ≤ 2147483647) → (0 ≤ x3 ∧ x3 ≤ 4) → (zE1 mh a1) → (zR_KN mh) → (zR_LT mh) → (zE1 mh 0) → (4 - x3) * 1 + 43 < ((k + 1 : Nat) : Int) → zw (zu_ex (zt_T n) 140 9 [(40, a0), (0, a1), (0, x2), (0, x3), (2, 0)] [] mh) (fun v m => zi_I m ∧ zfr [(28, 54), (28, 64), (122, 0), (123, 0), (124, 0), (126, 0), (128, 0), (129, 0), (130, 0), (131, 0)] m0 m ∧ zE1 m a1 ∧ zR_KN m ∧ zR_LT m ∧ zE1 m 0 ∧ True)) := by
      intro x2 x3 mh hImh hFmh hba1 hbx2 hbx3 hREBmh hRKNmh hRLTmh hRSEmh hM
      refine zw_eq (zu_rega_at (zt_T n) (zm_140 n) (zdp_140 n) _ _ _ _ _ _ (zr_140_9 n _ _ a0 a1 x2 x3 mh)) ?_
      have r1 : 0 ≤ (mh a0 15) ∧ (mh a0 15) ≤ 4 := zi_rd hImh hc0 zb_28_15
      refine zw_ite (fun h2 => ?_) (fun h2 => ?_)
      · have hM : (4 - 0) * 1 + 38 < (k : Int) := by omega
        exact ih.2.1 x2 0 mh hImh hFmh ⟨by omega, by omega⟩ ⟨by omega, by omega⟩ ⟨by omega, by omega⟩ hREBmh hRKNmh hRLTmh hRSEmh hM
      · have w3 := zu_w32_id (z := 4 * a1) (by omega) (by omega)
        have w4 := zu_w32_id (z := (zu_w32 (4 * a1)) + x3) (by omega) (by omega)
        have b5 : 0 ≤ (zu_w32 ((zu_w32 (4 * a1)) + x3)) ∧ (zu_w32 ((zu_w32 (4 * a1)) + x3)) < 8 := by omega
        refine zw_if b5 ?_
        have r6 : (-2147483648) ≤ (mh 218 (zu_w32 ((zu_w32 (4 * a1)) + x3))) ∧ (mh 218 (zu_w32 ((zu_w32 (4 * a1)) + x3))) ≤ 2147483647 := zi_rd hImh zq_218 (zb_127 _)
        refine zw_ite (fun h7 => ?_) (fun h7 => ?_)
        · have w8 := zu_w32_id (z := x3 + 1) (by omega) (by omega)
          have hM : (4 - (zu_w32 (x3 + 1))) * 1 + 43 < (k : Int) := by omega
          exact ih.1 x2 (zu_w32 (x3 + 1)) mh hImh hFmh ⟨by omega, by omega⟩ ⟨by omega, by omega⟩ ⟨by omega, by omega⟩ hREBmh hRKNmh hRLTmh hRSEmh hM
        · have r9 : (-2147483648) ≤ (mh a0 69) ∧ (mh a0 69) ≤ 2147483647 := zi_rd hImh hc0 zb_28_69
          refine zw_ite (fun h10 => ?_) (fun h10 => ?_)
          · have w11 := zu_w32_id (z := x3 + 1) (by omega) (by omega)
            have hM : (4 - (zu_w32 (x3 + 1))) * 1 + 43 < (k : Int) := by omega
            exact ih.1 x2 (zu_w32 (x3 + 1)) mh hImh hFmh ⟨by omega, by omega⟩ ⟨by omega, by omega⟩ ⟨by omega, by omega⟩ hREBmh hRKNmh hRLTmh hRSEmh hM
          · refine zw_bd (zw_mono (zk_137 n hImh hc0 ⟨by omega, by omega⟩ ⟨by omega, by omega⟩ hRKNmh hRLTmh) (fun v13 m12 hqm12 => ?_))
            obtain ⟨hIm12, hfm12, hvm12⟩ := hqm12
            have hFm12 := zfr_tr hFmh hfm12 rfl
            obtain ⟨hRKNm12, hRLTm12, hvm12⟩ := hvm12
            have hREBm12 := zR_EB_fr (zdis_fr hfm12 rfl) hREBmh
            have hRSEm12 := zR_SE_fr (zdis_fr hfm12 rfl) hRSEmh
            have w14 := zu_w32_id (z := x3 + 1) (by omega) (by omega)
            have hM : (4 - (zu_w32 (x3 + 1))) * 1 + 43 < (k : Int) := by omega
            exact ih.1 x2 (zu_w32 (x3 + 1)) m12 hIm12 hFm12 ⟨by omega, by omega⟩ ⟨by omega, by omega⟩ ⟨by omega, by omega⟩ hREBm12 hRKNm12 hRLTm12 hRSEm12 hM
set_option maxHeartbeats 4000000 in
theorem zl_140H1 (n : Nat) {a0 a1 : Int} {m0 : zu_m} (hc0 : zcls a0 = 28)   (k : Nat) (ih : (∀ (x2 x3 : Int) (mh : zu_m), zi_I mh → zfr [(28, 54), (28, 64), (122, 0), (123, 0), (124, 0), (126, 0), (128, 0), (129, 0), (130, 0), (131, 0)] m0 mh → (0 ≤ a1 ∧ a1 ≤ 1) → ((-2147483648) ≤ x2 ∧ x2 ≤ 2147483647) → (0 ≤ x3 ∧ x3 ≤ 4) → (zE1 mh a1) → (zR_KN mh) → (zR_LT mh) → (zE1 mh 0) → (4 - x3) * 1 + 43 < (k : Int) → zw (zu_ex (zt_T n) 140 9 [(40, a0), (0, a1), (0, x2), (0, x3), (2, 0)] [] mh) (fun v m => zi_I m ∧ zfr [(28, 54), (28, 64), (122, 0), (123, 0), (124, 0), (126, 0), (128, 0), (129, 0), (130, 0), (131, 0)] m0 m ∧ zE1 m a1 ∧ zR_KN m ∧ zR_LT m ∧ zE1 m 0 ∧ True)) ∧ (∀ (x2 x3 : Int) (mh : zu_m), zi_I mh → zfr [(28, 54), (28, 64), (122, 0), (123, 0), (124, 0), (126, 0), (128, 0), (129, 0), (130, 0), (131, 0)] m0 mh → (0 ≤ a1 ∧ a1 ≤ 1) → ((-2147483648) ≤ x2 ∧ x2 ≤ 2147483647) → (0 ≤ x3 ∧ x3 ≤ 4) → (zE1 mh a1) → (zR_KN mh) → (zR_LT mh) → (zE1 mh 0) → (4 - x3) * 1 + 38 < (k : Int) → zw (zu_ex (zt_T n) 140 53 [(40, a0), (0, a1), (0, x2), (0, x3), (2, 0)] [] mh) (fun v m => zi_I m ∧ zfr [(28, 54), (28, 64), (122, 0), (123, 0), (124, 0), (126, 0), (128, 0), (129, 0), (130, 0), (131, 0)] m0 m ∧ zE1 m a1 ∧ zR_KN m ∧ zR_LT m ∧ zE1 m 0 ∧ True)) ∧ (∀ (x2 x3 x4 : Int) (mh : zu_m), zi_I mh → zfr [(28, 54), (28, 64), (122, 0), (123, 0), (124, 0), (126, 0), (128, 0), (129, 0), (130, 0), (131, 0)] m0 mh → (0 ≤ a1 ∧ a1 ≤ 1) → (1 ≤ x2 ∧ x2 ≤ 2147483647) → ((-99) ≤ x3 ∧ x3 ≤ 99) → (0 ≤ x4 ∧ x4 ≤ 18) → (0 ≤ mh a0 65 ∧ mh a0 65 ≤ 0) → (zE1 mh a1) → (zR_KN mh) → (zR_LT mh) → (zE1 mh 0) → (18 - x4) * 1 + 19 < (k : Int) → zw (zu_ex (zt_T n) 140 138 [(40, a0), (0, a1), (0, x2), (0, x3), (0, x4)] [] mh) (fun v m => zi_I m ∧ zfr [(28, 54), (28, 64), (122, 0), (123, 0), (124, 0), (126, 0), (128, 0), (129, 0), (130, 0), (131, 0)] m0 m ∧ zE1 m a1 ∧ zR_KN m ∧ zR_LT m ∧ zE1 m 0 ∧ True)) ∧ (∀ (x2 x3 : Int) (mh : zu_m), zi_I mh → zfr [(28, 54), (28, 64), (122, 0), (123, 0), (124, 0), (126, 0), (128, 0), (129, 0), (130, 0), (131, 0)] m0 mh → (0 ≤ a1 ∧ a1 ≤ 1) → ((-1) ≤ x2 ∧ x2 ≤ 99999) → (0 ≤ x3 ∧ x3 ≤ 18) → (0 ≤ mh a0 66 ∧ mh a0 66 ≤ 0) → (zE1 mh a1) → (zR_KN mh) → (zR_LT mh) → (zE1 mh 0) → (18 - x3) * 1 + 0 < (k : Int) → zw (zu_ex (zt_T n) 140 226 [(40, a0), (0, a1), (0, x2), (0, x3), (2, 0)] [] mh) (fun v m => zi_I m ∧ zfr [(28, 54), (28, 64), (122, 0), (123, 0), (124, 0), (126, 0), (128, 0), (129, 0), (130, 0), (131, 0)] m0 m ∧ zE1 m a1 ∧ zR_KN m ∧ zR_LT m ∧ zE1 m 0 ∧ True))) : (∀ (x2 x3 : Int) (mh : zu_m), zi_I mh → zfr [(28, 54), (28, 64), (122, 0), (123, 0), (124, 0), (126, 0), (128, 0), (129, 0), (130, 0), (131, 0)] m0 mh → (0 ≤ a1 ∧ a1 ≤ 1) → ((-2147483648) ≤ x2 ∧ x2 ≤ 2147483647) → (0 ≤ x3 ∧ x3 ≤ 4) → (zE1 mh a1) → (zR_KN mh) → (zR_LT mh) → (zE1 mh 0) → (4 - x3) * 1 + 38 < ((k + 1 : Nat) : Int) → zw (zu_ex (zt_T n) 140 53 [(40, a0), (0, a1), (0, x2), (0, x3), (2, 0)] [] mh) (fun v m => zi_I m ∧ zfr [(28, 54), (28, 64), (122, 0), (123, 0), (124, 0), (126, 0), (128, 0), (129, 0), (130, 0), (131, 0)] m0 m ∧ zE1 m a1 ∧ zR_KN m ∧ zR_LT m ∧ zE1 m 0 ∧ True)) := by
      intro x2 x3 mh hImh hFmh hba1 hbx2 hbx3 hREBmh hRKNmh hRLTmh hRSEmh hM
      refine zw_eq (zu_rega_at (zt_T n) (zm_140 n) (zdp_140 n) _ _ _ _ _ _ (zr_140_53 n _ _ a0 a1 x2 x3 mh)) ?_
      have r15 : 0 ≤ (mh a0 15) ∧ (mh a0 15) ≤ 4 := zi_rd hImh hc0 zb_28_15
      refine zw_ite (fun h16 => ?_) (fun h16 => ?_)
      · have r17 : 0 ≤ (mh a0 65) ∧ (mh a0 65) ≤ 1 := zi_rd hImh hc0 zb_28_65
        refine zw_ite (fun h18 => ?_) (fun h18 => ?_)
        · have b19 : 0 ≤ (3 : Int) ∧ (3 : Int) < 10 := by omega
          refine zw_if b19 ?_
          have r20 : (-1) ≤ (mh 194 3) ∧ (mh 194 3) ≤ 99999 := zi_rd hImh zq_194 (zb_103 _)
          refine zw_ite (fun h21 => ?_) (fun h21 => ?_)
          · have b22 : 0 ≤ a1 ∧ a1 < 2 := by omega
            refine zw_if b22 ?_
            have r23 : (-2147483648) ≤ (mh 221 a1) ∧ (mh 221 a1) ≤ 2147483647 := zi_rd hImh zq_221 (zb_130 _)
            have w24 := zu_w32_rg ((mh 221 a1) + 1)
            have b25 : 0 ≤ a1 ∧ a1 < 2 := by omega
            refine zw_if b25 ?_
            generalize hmm26 : zu_up mh 221 a1 (zu_w32 ((mh 221 a1) + 1)) = m26
            have hIm26 := zi_up hmm26 hImh zq_221 (zb_130 _) (by omega) (by omega)
            have hFm26 := zfr_up hmm26 hFmh zq_221 rfl
            have hREBm26 := zR_EB_fr (zdis_fr (zfr_up hmm26 (zfr_rf [(130, 0)] _) zq_221 rfl) rfl) hREBmh
            have hRKNm26 := zR_KN_fr (zdis_fr (zfr_up hmm26 (zfr_rf [(130, 0)] _) zq_221 rfl) rfl) hRKNmh
            have hRLTm26 := zR_LT_fr (zdis_fr (zfr_up hmm26 (zfr_rf [(130, 0)] _) zq_221 rfl) rfl) hRLTmh
            have hRSEm26 := zR_SE_fr (zdis_fr (zfr_up hmm26 (zfr_rf [(130, 0)] _) zq_221 rfl) rfl) hRSEmh
            exact zw_some ⟨hIm26, hFm26, hREBm26, hRKNm26, hRLTm26, hRSEm26, trivial⟩
          · have r27 : 0 ≤ (mh a0 66) ∧ (mh a0 66) ≤ 1 := zi_rd hImh hc0 zb_28_66
            refine zw_ite (fun h28 => ?_) (fun h28 => ?_)
            · have b29 : 0 ≤ a1 ∧ a1 < 2 := by omega
              refine zw_if b29 ?_
              have r30 : (-2147483648) ≤ (mh 221 a1) ∧ (mh 221 a1) ≤ 2147483647 := zi_rd hImh zq_221 (zb_130 _)
              have w31 := zu_w32_rg ((mh 221 a1) + 1)
              have b32 : 0 ≤ a1 ∧ a1 < 2 := by omega
              refine zw_if b32 ?_
              generalize hmm33 : zu_up mh 221 a1 (zu_w32 ((mh 221 a1) + 1)) = m33
              have hIm33 := zi_up hmm33 hImh zq_221 (zb_130 _) (by omega) (by omega)
              have hFm33 := zfr_up hmm33 hFmh zq_221 rfl
              have hREBm33 := zR_EB_fr (zdis_fr (zfr_up hmm33 (zfr_rf [(130, 0)] _) zq_221 rfl) rfl) hREBmh
              have hRKNm33 := zR_KN_fr (zdis_fr (zfr_up hmm33 (zfr_rf [(130, 0)] _) zq_221 rfl) rfl) hRKNmh
              have hRLTm33 := zR_LT_fr (zdis_fr (zfr_up hmm33 (zfr_rf [(130, 0)] _) zq_221 rfl) rfl) hRLTmh
              have hRSEm33 := zR_SE_fr (zdis_fr (zfr_up hmm33 (zfr_rf [(130, 0)] _) zq_221 rfl) rfl) hRSEmh
              exact zw_some ⟨hIm33, hFm33, hREBm33, hRKNm33, hRLTm33, hRSEm33, trivial⟩
            · have hM : (18 - 0) * 1 + 0 < (k : Int) := by omega
              exact ih.2.2.2 x2 0 mh hImh hFmh ⟨by omega, by omega⟩ ⟨by omega, by omega⟩ ⟨by omega, by omega⟩ ⟨by omega, by omega⟩ hREBmh hRKNmh hRLTmh hRSEmh hM
        · have b34 : 0 ≤ (2 : Int) ∧ (2 : Int) < 10 := by omega
          refine zw_if b34 ?_
          have r35 : (-1) ≤ (mh 194 2) ∧ (mh 194 2) ≤ 99999 := zi_rd hImh zq_194 (zb_103 _)
          refine zw_ite (fun h36 => ?_) (fun h36 => ?_)
          · have b37 : 0 ≤ (3 : Int) ∧ (3 : Int) < 10 := by omega
            refine zw_if b37 ?_
            have r38 : (-1) ≤ (mh 194 3) ∧ (mh 194 3) ≤ 99999 := zi_rd hImh zq_194 (zb_103 _)
            refine zw_ite (fun h39 => ?_) (fun h39 => ?_)
            · have b40 : 0 ≤ a1 ∧ a1 < 2 := by omega
              refine zw_if b40 ?_
              have r41 : (-2147483648) ≤ (mh 221 a1) ∧ (mh 221 a1) ≤ 2147483647 := zi_rd hImh zq_221 (zb_130 _)
              have w42 := zu_w32_rg ((mh 221 a1) + 1)
              have b43 : 0 ≤ a1 ∧ a1 < 2 := by omega
              refine zw_if b43 ?_
              generalize hmm44 : zu_up mh 221 a1 (zu_w32 ((mh 221 a1) + 1)) = m44
              have hIm44 := zi_up hmm44 hImh zq_221 (zb_130 _) (by omega) (by omega)
              have hFm44 := zfr_up hmm44 hFmh zq_221 rfl
              have hREBm44 := zR_EB_fr (zdis_fr (zfr_up hmm44 (zfr_rf [(130, 0)] _) zq_221 rfl) rfl) hREBmh
              have hRKNm44 := zR_KN_fr (zdis_fr (zfr_up hmm44 (zfr_rf [(130, 0)] _) zq_221 rfl) rfl) hRKNmh
              have hRLTm44 := zR_LT_fr (zdis_fr (zfr_up hmm44 (zfr_rf [(130, 0)] _) zq_221 rfl) rfl) hRLTmh
              have hRSEm44 := zR_SE_fr (zdis_fr (zfr_up hmm44 (zfr_rf [(130, 0)] _) zq_221 rfl) rfl) hRSEmh
              exact zw_some ⟨hIm44, hFm44, hREBm44, hRKNm44, hRLTm44, hRSEm44, trivial⟩
            · have r45 : 0 ≤ (mh a0 66) ∧ (mh a0 66) ≤ 1 := zi_rd hImh hc0 zb_28_66
              refine zw_ite (fun h46 => ?_) (fun h46 => ?_)
              · have b47 : 0 ≤ a1 ∧ a1 < 2 := by omega
                refine zw_if b47 ?_
                have r48 : (-2147483648) ≤ (mh 221 a1) ∧ (mh 221 a1) ≤ 2147483647 := zi_rd hImh zq_221 (zb_130 _)
                have w49 := zu_w32_rg ((mh 221 a1) + 1)
                have b50 : 0 ≤ a1 ∧ a1 < 2 := by omega
                refine zw_if b50 ?_
                generalize hmm51 : zu_up mh 221 a1 (zu_w32 ((mh 221 a1) + 1)) = m51
                have hIm51 := zi_up hmm51 hImh zq_221 (zb_130 _) (by omega) (by omega)
                have hFm51 := zfr_up hmm51 hFmh zq_221 rfl
                have hREBm51 := zR_EB_fr (zdis_fr (zfr_up hmm51 (zfr_rf [(130, 0)] _) zq_221 rfl) rfl) hREBmh
                have hRKNm51 := zR_KN_fr (zdis_fr (zfr_up hmm51 (zfr_rf [(130, 0)] _) zq_221 rfl) rfl) hRKNmh
                have hRLTm51 := zR_LT_fr (zdis_fr (zfr_up hmm51 (zfr_rf [(130, 0)] _) zq_221 rfl) rfl) hRLTmh
                have hRSEm51 := zR_SE_fr (zdis_fr (zfr_up hmm51 (zfr_rf [(130, 0)] _) zq_221 rfl) rfl) hRSEmh
                exact zw_some ⟨hIm51, hFm51, hREBm51, hRKNm51, hRLTm51, hRSEm51, trivial⟩
              · have hM : (18 - 0) * 1 + 0 < (k : Int) := by omega
                exact ih.2.2.2 x2 0 mh hImh hFmh ⟨by omega, by omega⟩ ⟨by omega, by omega⟩ ⟨by omega, by omega⟩ ⟨by omega, by omega⟩ hREBmh hRKNmh hRLTmh hRSEmh hM
          · refine zw_ite (fun h52 => ?_) (fun h52 => ?_)
            · have b53 : 0 ≤ (3 : Int) ∧ (3 : Int) < 10 := by omega
              refine zw_if b53 ?_
              have r54 : (-1) ≤ (mh 194 3) ∧ (mh 194 3) ≤ 99999 := zi_rd hImh zq_194 (zb_103 _)
              refine zw_ite (fun h55 => ?_) (fun h55 => ?_)
              · have b56 : 0 ≤ a1 ∧ a1 < 2 := by omega
                refine zw_if b56 ?_
                have r57 : (-2147483648) ≤ (mh 221 a1) ∧ (mh 221 a1) ≤ 2147483647 := zi_rd hImh zq_221 (zb_130 _)
                have w58 := zu_w32_rg ((mh 221 a1) + 1)
                have b59 : 0 ≤ a1 ∧ a1 < 2 := by omega
                refine zw_if b59 ?_
                generalize hmm60 : zu_up mh 221 a1 (zu_w32 ((mh 221 a1) + 1)) = m60
                have hIm60 := zi_up hmm60 hImh zq_221 (zb_130 _) (by omega) (by omega)
                have hFm60 := zfr_up hmm60 hFmh zq_221 rfl
                have hREBm60 := zR_EB_fr (zdis_fr (zfr_up hmm60 (zfr_rf [(130, 0)] _) zq_221 rfl) rfl) hREBmh
                have hRKNm60 := zR_KN_fr (zdis_fr (zfr_up hmm60 (zfr_rf [(130, 0)] _) zq_221 rfl) rfl) hRKNmh
                have hRLTm60 := zR_LT_fr (zdis_fr (zfr_up hmm60 (zfr_rf [(130, 0)] _) zq_221 rfl) rfl) hRLTmh
                have hRSEm60 := zR_SE_fr (zdis_fr (zfr_up hmm60 (zfr_rf [(130, 0)] _) zq_221 rfl) rfl) hRSEmh
                exact zw_some ⟨hIm60, hFm60, hREBm60, hRKNm60, hRLTm60, hRSEm60, trivial⟩
              · have r61 : 0 ≤ (mh a0 66) ∧ (mh a0 66) ≤ 1 := zi_rd hImh hc0 zb_28_66
                refine zw_ite (fun h62 => ?_) (fun h62 => ?_)
                · have b63 : 0 ≤ a1 ∧ a1 < 2 := by omega
                  refine zw_if b63 ?_
                  have r64 : (-2147483648) ≤ (mh 221 a1) ∧ (mh 221 a1) ≤ 2147483647 := zi_rd hImh zq_221 (zb_130 _)
                  have w65 := zu_w32_rg ((mh 221 a1) + 1)
                  have b66 : 0 ≤ a1 ∧ a1 < 2 := by omega
                  refine zw_if b66 ?_
                  generalize hmm67 : zu_up mh 221 a1 (zu_w32 ((mh 221 a1) + 1)) = m67
                  have hIm67 := zi_up hmm67 hImh zq_221 (zb_130 _) (by omega) (by omega)
                  have hFm67 := zfr_up hmm67 hFmh zq_221 rfl
                  have hREBm67 := zR_EB_fr (zdis_fr (zfr_up hmm67 (zfr_rf [(130, 0)] _) zq_221 rfl) rfl) hREBmh
                  have hRKNm67 := zR_KN_fr (zdis_fr (zfr_up hmm67 (zfr_rf [(130, 0)] _) zq_221 rfl) rfl) hRKNmh
                  have hRLTm67 := zR_LT_fr (zdis_fr (zfr_up hmm67 (zfr_rf [(130, 0)] _) zq_221 rfl) rfl) hRLTmh
                  have hRSEm67 := zR_SE_fr (zdis_fr (zfr_up hmm67 (zfr_rf [(130, 0)] _) zq_221 rfl) rfl) hRSEmh
                  exact zw_some ⟨hIm67, hFm67, hREBm67, hRKNm67, hRLTm67, hRSEm67, trivial⟩
                · have hM : (18 - 0) * 1 + 0 < (k : Int) := by omega
                  exact ih.2.2.2 x2 0 mh hImh hFmh ⟨by omega, by omega⟩ ⟨by omega, by omega⟩ ⟨by omega, by omega⟩ ⟨by omega, by omega⟩ hREBmh hRKNmh hRLTmh hRSEmh hM
            · have b68 : 0 ≤ (2 : Int) ∧ (2 : Int) < 10 := by omega
              refine zw_if b68 ?_
              refine zw_nif (by omega) ?_
              have d69 := ztmod_bd (x := x2) (y := (mh 194 2)) (by omega) (by omega)
              refine zw_ite (fun h70 => ?_) (fun h70 => ?_)
              · have b71 : 0 ≤ (3 : Int) ∧ (3 : Int) < 10 := by omega
                refine zw_if b71 ?_
                have r72 : (-1) ≤ (mh 194 3) ∧ (mh 194 3) ≤ 99999 := zi_rd hImh zq_194 (zb_103 _)
                refine zw_ite (fun h73 => ?_) (fun h73 => ?_)
                · have b74 : 0 ≤ a1 ∧ a1 < 2 := by omega
                  refine zw_if b74 ?_
                  have r75 : (-2147483648) ≤ (mh 221 a1) ∧ (mh 221 a1) ≤ 2147483647 := zi_rd hImh zq_221 (zb_130 _)
                  have w76 := zu_w32_rg ((mh 221 a1) + 1)
                  have b77 : 0 ≤ a1 ∧ a1 < 2 := by omega
                  refine zw_if b77 ?_
                  generalize hmm78 : zu_up mh 221 a1 (zu_w32 ((mh 221 a1) + 1)) = m78
                  have hIm78 := zi_up hmm78 hImh zq_221 (zb_130 _) (by omega) (by omega)
                  have hFm78 := zfr_up hmm78 hFmh zq_221 rfl
                  have hREBm78 := zR_EB_fr (zdis_fr (zfr_up hmm78 (zfr_rf [(130, 0)] _) zq_221 rfl) rfl) hREBmh
                  have hRKNm78 := zR_KN_fr (zdis_fr (zfr_up hmm78 (zfr_rf [(130, 0)] _) zq_221 rfl) rfl) hRKNmh
                  have hRLTm78 := zR_LT_fr (zdis_fr (zfr_up hmm78 (zfr_rf [(130, 0)] _) zq_221 rfl) rfl) hRLTmh
                  have hRSEm78 := zR_SE_fr (zdis_fr (zfr_up hmm78 (zfr_rf [(130, 0)] _) zq_221 rfl) rfl) hRSEmh
                  exact zw_some ⟨hIm78, hFm78, hREBm78, hRKNm78, hRLTm78, hRSEm78, trivial⟩
                · have r79 : 0 ≤ (mh a0 66) ∧ (mh a0 66) ≤ 1 := zi_rd hImh hc0 zb_28_66
                  refine zw_ite (fun h80 => ?_) (fun h80 => ?_)
                  · have b81 : 0 ≤ a1 ∧ a1 < 2 := by omega
                    refine zw_if b81 ?_
                    have r82 : (-2147483648) ≤ (mh 221 a1) ∧ (mh 221 a1) ≤ 2147483647 := zi_rd hImh zq_221 (zb_130 _)
                    have w83 := zu_w32_rg ((mh 221 a1) + 1)
                    have b84 : 0 ≤ a1 ∧ a1 < 2 := by omega
                    refine zw_if b84 ?_
                    generalize hmm85 : zu_up mh 221 a1 (zu_w32 ((mh 221 a1) + 1)) = m85
                    have hIm85 := zi_up hmm85 hImh zq_221 (zb_130 _) (by omega) (by omega)
                    have hFm85 := zfr_up hmm85 hFmh zq_221 rfl
                    have hREBm85 := zR_EB_fr (zdis_fr (zfr_up hmm85 (zfr_rf [(130, 0)] _) zq_221 rfl) rfl) hREBmh
                    have hRKNm85 := zR_KN_fr (zdis_fr (zfr_up hmm85 (zfr_rf [(130, 0)] _) zq_221 rfl) rfl) hRKNmh
                    have hRLTm85 := zR_LT_fr (zdis_fr (zfr_up hmm85 (zfr_rf [(130, 0)] _) zq_221 rfl) rfl) hRLTmh
                    have hRSEm85 := zR_SE_fr (zdis_fr (zfr_up hmm85 (zfr_rf [(130, 0)] _) zq_221 rfl) rfl) hRSEmh
                    exact zw_some ⟨hIm85, hFm85, hREBm85, hRKNm85, hRLTm85, hRSEm85, trivial⟩
                  · have hM : (18 - 0) * 1 + 0 < (k : Int) := by omega
                    exact ih.2.2.2 x2 0 mh hImh hFmh ⟨by omega, by omega⟩ ⟨by omega, by omega⟩ ⟨by omega, by omega⟩ ⟨by omega, by omega⟩ hREBmh hRKNmh hRLTmh hRSEmh hM
              · refine zw_bd (zw_eq (zu_call_at (zt_T n) (zm_36 n) (zdp_36 n) _ _ _ _ _ rfl (zr_36_0 n _ _ a0 mh)) ?_)
                have r86 : 1 ≤ (mh a0 12) ∧ (mh a0 12) ≤ 8 := zi_rd hImh hc0 zb_28_12
                have r87 : 1 ≤ (mh a0 13) ∧ (mh a0 13) ≤ 6 := zi_rd hImh hc0 zb_28_13
                have p88 := zmul_bd (x := (mh a0 12)) (y := (mh a0 13)) (a := 1) (b := 1) (A := 8) (B := 6) (by omega) (by omega) (by omega) (by omega) (by omega) (by omega)
                have w89 := zu_w32_id (z := (mh a0 12) * (mh a0 13)) (by omega) (by omega)
                refine zw_some ?_
                refine zw_bd (zw_mono (zk_136 n hImh hc0 ⟨by omega, by omega⟩) (fun v91 m90 hqm90 => ?_))
                obtain ⟨hIm90, hfm90, hvm90⟩ := hqm90
                have hFm90 := zfr_tr hFmh hfm90 rfl
                have hREBm90 := zR_EB_fr (zdis_fr hfm90 rfl) hREBmh
                have hRKNm90 := zR_KN_fr (zdis_fr hfm90 rfl) hRKNmh
                have hRLTm90 := zR_LT_fr (zdis_fr hfm90 rfl) hRLTmh
                have hRSEm90 := zR_SE_fr (zdis_fr hfm90 rfl) hRSEmh
                have r92 : 0 ≤ (m90 a0 65) ∧ (m90 a0 65) ≤ 1 := zi_rd hIm90 hc0 zb_28_65
                have e93 : (m90 a0 65) = (mh a0 65) := (zfr_ap hfm90 hc0 rfl)
                have hM : (18 - 0) * 1 + 19 < (k : Int) := by omega
                exact ih.2.2.1 x2 v91 0 m90 hIm90 hFm90 ⟨by omega, by omega⟩ ⟨by omega, by omega⟩ ⟨by omega, by omega⟩ ⟨by omega, by omega⟩ ⟨by omega, by omega⟩ hREBm90 hRKNm90 hRLTm90 hRSEm90 hM
      · have w94 := zu_w32_id (z := 4 * a1) (by omega) (by omega)
        have w95 := zu_w32_id (z := (zu_w32 (4 * a1)) + x3) (by omega) (by omega)
        have b96 : 0 ≤ (zu_w32 ((zu_w32 (4 * a1)) + x3)) ∧ (zu_w32 ((zu_w32 (4 * a1)) + x3)) < 8 := by omega
        refine zw_if b96 ?_
        have r97 : (-2147483648) ≤ (mh 218 (zu_w32 ((zu_w32 (4 * a1)) + x3))) ∧ (mh 218 (zu_w32 ((zu_w32 (4 * a1)) + x3))) ≤ 2147483647 := zi_rd hImh zq_218 (zb_127 _)
        refine zw_ite (fun h98 => ?_) (fun h98 => ?_)
        · have w99 := zu_w32_id (z := x3 + 1) (by omega) (by omega)
          have hM : (4 - (zu_w32 (x3 + 1))) * 1 + 38 < (k : Int) := by omega
          exact ih.2.1 x2 (zu_w32 (x3 + 1)) mh hImh hFmh ⟨by omega, by omega⟩ ⟨by omega, by omega⟩ ⟨by omega, by omega⟩ hREBmh hRKNmh hRLTmh hRSEmh hM
        · have r100 : (-2147483648) ≤ (mh a0 69) ∧ (mh a0 69) ≤ 2147483647 := zi_rd hImh hc0 zb_28_69
          refine zw_ite (fun h101 => ?_) (fun h101 => ?_)
          · have w102 := zu_w32_id (z := x3 + 1) (by omega) (by omega)
            have hM : (4 - (zu_w32 (x3 + 1))) * 1 + 38 < (k : Int) := by omega
            exact ih.2.1 x2 (zu_w32 (x3 + 1)) mh hImh hFmh ⟨by omega, by omega⟩ ⟨by omega, by omega⟩ ⟨by omega, by omega⟩ hREBmh hRKNmh hRLTmh hRSEmh hM
          · refine zw_bd (zw_mono (zk_139 n hImh hc0 ⟨by omega, by omega⟩ ⟨by omega, by omega⟩ ⟨by omega, by omega⟩ (by omega) hREBmh hRSEmh) (fun v104 m103 hqm103 => ?_))
            obtain ⟨hIm103, hfm103, hvm103⟩ := hqm103
            have hFm103 := zfr_tr hFmh hfm103 rfl
            obtain ⟨hREBm103, hRSEm103, hvm103⟩ := hvm103
            have hRKNm103 := zR_KN_fr (zdis_fr hfm103 rfl) hRKNmh
            have hRLTm103 := zR_LT_fr (zdis_fr hfm103 rfl) hRLTmh
            have w105 := zu_w32_id (z := x3 + 1) (by omega) (by omega)
            have hM : (4 - (zu_w32 (x3 + 1))) * 1 + 38 < (k : Int) := by omega
            exact ih.2.1 x2 (zu_w32 (x3 + 1)) m103 hIm103 hFm103 ⟨by omega, by omega⟩ ⟨by omega, by omega⟩ ⟨by omega, by omega⟩ hREBm103 hRKNm103 hRLTm103 hRSEm103 hM
set_option maxHeartbeats 4000000 in
theorem zl_140H2 (n : Nat) {a0 a1 : Int} {m0 : zu_m} (hc0 : zcls a0 = 28)   (k : Nat) (ih : (∀ (x2 x3 : Int) (mh : zu_m), zi_I mh → zfr [(28, 54), (28, 64), (122, 0), (123, 0), (124, 0), (126, 0), (128, 0), (129, 0), (130, 0), (131, 0)] m0 mh → (0 ≤ a1 ∧ a1 ≤ 1) → ((-2147483648) ≤ x2 ∧ x2 ≤ 2147483647) → (0 ≤ x3 ∧ x3 ≤ 4) → (zE1 mh a1) → (zR_KN mh) → (zR_LT mh) → (zE1 mh 0) → (4 - x3) * 1 + 43 < (k : Int) → zw (zu_ex (zt_T n) 140 9 [(40, a0), (0, a1), (0, x2), (0, x3), (2, 0)] [] mh) (fun v m => zi_I m ∧ zfr [(28, 54), (28, 64), (122, 0), (123, 0), (124, 0), (126, 0), (128, 0), (129, 0), (130, 0), (131, 0)] m0 m ∧ zE1 m a1 ∧ zR_KN m ∧ zR_LT m ∧ zE1 m 0 ∧ True)) ∧ (∀ (x2 x3 : Int) (mh : zu_m), zi_I mh → zfr [(28, 54), (28, 64), (122, 0), (123, 0), (124, 0), (126, 0), (128, 0), (129, 0), (130, 0), (131, 0)] m0 mh → (0 ≤ a1 ∧ a1 ≤ 1) → ((-2147483648) ≤ x2 ∧ x2 ≤ 2147483647) → (0 ≤ x3 ∧ x3 ≤ 4) → (zE1 mh a1) → (zR_KN mh) → (zR_LT mh) → (zE1 mh 0) → (4 - x3) * 1 + 38 < (k : Int) → zw (zu_ex (zt_T n) 140 53 [(40, a0), (0, a1), (0, x2), (0, x3), (2, 0)] [] mh) (fun v m => zi_I m ∧ zfr [(28, 54), (28, 64), (122, 0), (123, 0), (124, 0), (126, 0), (128, 0), (129, 0), (130, 0), (131, 0)] m0 m ∧ zE1 m a1 ∧ zR_KN m ∧ zR_LT m ∧ zE1 m 0 ∧ True)) ∧ (∀ (x2 x3 x4 : Int) (mh : zu_m), zi_I mh → zfr [(28, 54), (28, 64), (122, 0), (123, 0), (124, 0), (126, 0), (128, 0), (129, 0), (130, 0), (131, 0)] m0 mh → (0 ≤ a1 ∧ a1 ≤ 1) → (1 ≤ x2 ∧ x2 ≤ 2147483647) → ((-99) ≤ x3 ∧ x3 ≤ 99) → (0 ≤ x4 ∧ x4 ≤ 18) → (0 ≤ mh a0 65 ∧ mh a0 65 ≤ 0) → (zE1 mh a1) → (zR_KN mh) → (zR_LT mh) → (zE1 mh 0) → (18 - x4) * 1 + 19 < (k : Int) → zw (zu_ex (zt_T n) 140 138 [(40, a0), (0, a1), (0, x2), (0, x3), (0, x4)] [] mh) (fun v m => zi_I m ∧ zfr [(28, 54), (28, 64), (122, 0), (123, 0), (124, 0), (126, 0), (128, 0), (129, 0), (130, 0), (131, 0)] m0 m ∧ zE1 m a1 ∧ zR_KN m ∧ zR_LT m ∧ zE1 m 0 ∧ True)) ∧ (∀ (x2 x3 : Int) (mh : zu_m), zi_I mh → zfr [(28, 54), (28, 64), (122, 0), (123, 0), (124, 0), (126, 0), (128, 0), (129, 0), (130, 0), (131, 0)] m0 mh → (0 ≤ a1 ∧ a1 ≤ 1) → ((-1) ≤ x2 ∧ x2 ≤ 99999) → (0 ≤ x3 ∧ x3 ≤ 18) → (0 ≤ mh a0 66 ∧ mh a0 66 ≤ 0) → (zE1 mh a1) → (zR_KN mh) → (zR_LT mh) → (zE1 mh 0) → (18 - x3) * 1 + 0 < (k : Int) → zw (zu_ex (zt_T n) 140 226 [(40, a0), (0, a1), (0, x2), (0, x3), (2, 0)] [] mh) (fun v m => zi_I m ∧ zfr [(28, 54), (28, 64), (122, 0), (123, 0), (124, 0), (126, 0), (128, 0), (129, 0), (130, 0), (131, 0)] m0 m ∧ zE1 m a1 ∧ zR_KN m ∧ zR_LT m ∧ zE1 m 0 ∧ True))) : (∀ (x2 x3 x4 : Int) (mh : zu_m), zi_I mh → zfr [(28, 54), (28, 64), (122, 0), (123, 0), (124, 0), (126, 0), (128, 0), (129, 0), (130, 0), (131, 0)] m0 mh → (0 ≤ a1 ∧ a1 ≤ 1) → (1 ≤ x2 ∧ x2 ≤ 2147483647) → ((-99) ≤ x3 ∧ x3 ≤ 99) → (0 ≤ x4 ∧ x4 ≤ 18) → (0 ≤ mh a0 65 ∧ mh a0 65 ≤ 0) → (zE1 mh a1) → (zR_KN mh) → (zR_LT mh) → (zE1 mh 0) → (18 - x4) * 1 + 19 < ((k + 1 : Nat) : Int) → zw (zu_ex (zt_T n) 140 138 [(40, a0), (0, a1), (0, x2), (0, x3), (0, x4)] [] mh) (fun v m => zi_I m ∧ zfr [(28, 54), (28, 64), (122, 0), (123, 0), (124, 0), (126, 0), (128, 0), (129, 0), (130, 0), (131, 0)] m0 m ∧ zE1 m a1 ∧ zR_KN m ∧ zR_LT m ∧ zE1 m 0 ∧ True)) := by
      intro x2 x3 x4 mh hImh hFmh hba1 hbx2 hbx3 hbx4 hg4 hREBmh hRKNmh hRLTmh hRSEmh hM
      refine zw_eq (zu_rega_at (zt_T n) (zm_140 n) (zdp_140 n) _ _ _ _ _ _ (zr_140_138 n _ _ a0 a1 x2 x3 x4 mh)) ?_
      have b106 : 0 ≤ a1 ∧ a1 < 2 := by omega
      refine zw_if b106 ?_
      have r107 : 0 ≤ (mh 216 a1) ∧ (mh 216 a1) ≤ 18 := zi_rdr (m := 2) (r0 := 0) (r1 := 1) hImh zq_216 (by omega) (by decide +kernel)
      refine zw_ite (fun h108 => ?_) (fun h108 => ?_)
      · have b109 : 0 ≤ a1 ∧ a1 < 2 := by omega
        refine zw_if b109 ?_
        refine zw_ite (fun h110 => ?_) (fun h110 => ?_)
        · have b111 : 0 ≤ (3 : Int) ∧ (3 : Int) < 10 := by omega
          refine zw_if b111 ?_
          have r112 : (-1) ≤ (mh 194 3) ∧ (mh 194 3) ≤ 99999 := zi_rd hImh zq_194 (zb_103 _)
          refine zw_ite (fun h113 => ?_) (fun h113 => ?_)
          · have b114 : 0 ≤ a1 ∧ a1 < 2 := by omega
            refine zw_if b114 ?_
            have r115 : (-2147483648) ≤ (mh 221 a1) ∧ (mh 221 a1) ≤ 2147483647 := zi_rd hImh zq_221 (zb_130 _)
            have w116 := zu_w32_rg ((mh 221 a1) + 1)
            have b117 : 0 ≤ a1 ∧ a1 < 2 := by omega
            refine zw_if b117 ?_
            generalize hmm118 : zu_up mh 221 a1 (zu_w32 ((mh 221 a1) + 1)) = m118
            have hIm118 := zi_up hmm118 hImh zq_221 (zb_130 _) (by omega) (by omega)
            have hFm118 := zfr_up hmm118 hFmh zq_221 rfl
            have hREBm118 := zR_EB_fr (zdis_fr (zfr_up hmm118 (zfr_rf [(130, 0)] _) zq_221 rfl) rfl) hREBmh
            have hRKNm118 := zR_KN_fr (zdis_fr (zfr_up hmm118 (zfr_rf [(130, 0)] _) zq_221 rfl) rfl) hRKNmh
            have hRLTm118 := zR_LT_fr (zdis_fr (zfr_up hmm118 (zfr_rf [(130, 0)] _) zq_221 rfl) rfl) hRLTmh
            have hRSEm118 := zR_SE_fr (zdis_fr (zfr_up hmm118 (zfr_rf [(130, 0)] _) zq_221 rfl) rfl) hRSEmh
            exact zw_some ⟨hIm118, hFm118, hREBm118, hRKNm118, hRLTm118, hRSEm118, trivial⟩
          · have r119 : 0 ≤ (mh a0 66) ∧ (mh a0 66) ≤ 1 := zi_rd hImh hc0 zb_28_66
            refine zw_ite (fun h120 => ?_) (fun h120 => ?_)
            · have b121 : 0 ≤ a1 ∧ a1 < 2 := by omega
              refine zw_if b121 ?_
              have r122 : (-2147483648) ≤ (mh 221 a1) ∧ (mh 221 a1) ≤ 2147483647 := zi_rd hImh zq_221 (zb_130 _)
              have w123 := zu_w32_rg ((mh 221 a1) + 1)
              have b124 : 0 ≤ a1 ∧ a1 < 2 := by omega
              refine zw_if b124 ?_
              generalize hmm125 : zu_up mh 221 a1 (zu_w32 ((mh 221 a1) + 1)) = m125
              have hIm125 := zi_up hmm125 hImh zq_221 (zb_130 _) (by omega) (by omega)
              have hFm125 := zfr_up hmm125 hFmh zq_221 rfl
              have hREBm125 := zR_EB_fr (zdis_fr (zfr_up hmm125 (zfr_rf [(130, 0)] _) zq_221 rfl) rfl) hREBmh
              have hRKNm125 := zR_KN_fr (zdis_fr (zfr_up hmm125 (zfr_rf [(130, 0)] _) zq_221 rfl) rfl) hRKNmh
              have hRLTm125 := zR_LT_fr (zdis_fr (zfr_up hmm125 (zfr_rf [(130, 0)] _) zq_221 rfl) rfl) hRLTmh
              have hRSEm125 := zR_SE_fr (zdis_fr (zfr_up hmm125 (zfr_rf [(130, 0)] _) zq_221 rfl) rfl) hRSEmh
              exact zw_some ⟨hIm125, hFm125, hREBm125, hRKNm125, hRLTm125, hRSEm125, trivial⟩
            · have hM : (18 - 0) * 1 + 0 < (k : Int) := by omega
              exact zw_le (zu_forget (zu_lr_same (zu_lr_same (zu_lr_same (zu_lr_same (zu_lr_drop zu_lr_nil)))))) (ih.2.2.2 x2 0 mh hImh hFmh ⟨by omega, by omega⟩ ⟨by omega, by omega⟩ ⟨by omega, by omega⟩ ⟨by omega, by omega⟩ hREBmh hRKNmh hRLTmh hRSEmh hM)
        · exfalso; omega
      · have w126 := zu_w32_id (z := 18 * a1) (by omega) (by omega)
        have w127 := zu_w32_id (z := (zu_w32 (18 * a1)) + x4) (by omega) (by omega)
        have b128 : 0 ≤ (zu_w32 ((zu_w32 (18 * a1)) + x4)) ∧ (zu_w32 ((zu_w32 (18 * a1)) + x4)) < 36 := by omega
        refine zw_if b128 ?_
        have r129 : (-3) ≤ (mh 215 (zu_w32 ((zu_w32 (18 * a1)) + x4))) ∧ (mh 215 (zu_w32 ((zu_w32 (18 * a1)) + x4))) ≤ 3 := zi_rd hImh zq_215 (zb_124 _)
        refine zw_ite (fun h130 => ?_) (fun h130 => ?_)
        · have w131 := zu_w32_id (z := x4 + 1) (by omega) (by omega)
          have hM : (18 - (zu_w32 (x4 + 1))) * 1 + 19 < (k : Int) := by omega
          exact ih.2.2.1 x2 x3 (zu_w32 (x4 + 1)) mh hImh hFmh ⟨by omega, by omega⟩ ⟨by omega, by omega⟩ ⟨by omega, by omega⟩ ⟨by omega, by omega⟩ ⟨by omega, by omega⟩ hREBmh hRKNmh hRLTmh hRSEmh hM
        · have b132 : 0 ≤ x4 ∧ x4 < 36 := by omega
          refine zw_if b132 ?_
          have r133 : 0 ≤ (mh 197 x4) ∧ (mh 197 x4) ≤ 47 := zi_rd hImh zq_197 (zb_106 _)
          refine zw_ite (fun h134 => ?_) (fun h134 => ?_)
          · have b135 : 0 ≤ a1 ∧ a1 < 2 := by omega
            refine zw_if b135 ?_
            refine zw_ite (fun h136 => ?_) (fun h136 => ?_)
            · have b137 : 0 ≤ (3 : Int) ∧ (3 : Int) < 10 := by omega
              refine zw_if b137 ?_
              have r138 : (-1) ≤ (mh 194 3) ∧ (mh 194 3) ≤ 99999 := zi_rd hImh zq_194 (zb_103 _)
              refine zw_ite (fun h139 => ?_) (fun h139 => ?_)
              · have b140 : 0 ≤ a1 ∧ a1 < 2 := by omega
                refine zw_if b140 ?_
                have r141 : (-2147483648) ≤ (mh 221 a1) ∧ (mh 221 a1) ≤ 2147483647 := zi_rd hImh zq_221 (zb_130 _)
                have w142 := zu_w32_rg ((mh 221 a1) + 1)
                have b143 : 0 ≤ a1 ∧ a1 < 2 := by omega
                refine zw_if b143 ?_
                generalize hmm144 : zu_up mh 221 a1 (zu_w32 ((mh 221 a1) + 1)) = m144
                have hIm144 := zi_up hmm144 hImh zq_221 (zb_130 _) (by omega) (by omega)
                have hFm144 := zfr_up hmm144 hFmh zq_221 rfl
                have hREBm144 := zR_EB_fr (zdis_fr (zfr_up hmm144 (zfr_rf [(130, 0)] _) zq_221 rfl) rfl) hREBmh
                have hRKNm144 := zR_KN_fr (zdis_fr (zfr_up hmm144 (zfr_rf [(130, 0)] _) zq_221 rfl) rfl) hRKNmh
                have hRLTm144 := zR_LT_fr (zdis_fr (zfr_up hmm144 (zfr_rf [(130, 0)] _) zq_221 rfl) rfl) hRLTmh
                have hRSEm144 := zR_SE_fr (zdis_fr (zfr_up hmm144 (zfr_rf [(130, 0)] _) zq_221 rfl) rfl) hRSEmh
                exact zw_some ⟨hIm144, hFm144, hREBm144, hRKNm144, hRLTm144, hRSEm144, trivial⟩
              · have r145 : 0 ≤ (mh a0 66) ∧ (mh a0 66) ≤ 1 := zi_rd hImh hc0 zb_28_66
                refine zw_ite (fun h146 => ?_) (fun h146 => ?_)
                · have b147 : 0 ≤ a1 ∧ a1 < 2 := by omega
                  refine zw_if b147 ?_
                  have r148 : (-2147483648) ≤ (mh 221 a1) ∧ (mh 221 a1) ≤ 2147483647 := zi_rd hImh zq_221 (zb_130 _)
                  have w149 := zu_w32_rg ((mh 221 a1) + 1)
                  have b150 : 0 ≤ a1 ∧ a1 < 2 := by omega
                  refine zw_if b150 ?_
                  generalize hmm151 : zu_up mh 221 a1 (zu_w32 ((mh 221 a1) + 1)) = m151
                  have hIm151 := zi_up hmm151 hImh zq_221 (zb_130 _) (by omega) (by omega)
                  have hFm151 := zfr_up hmm151 hFmh zq_221 rfl
                  have hREBm151 := zR_EB_fr (zdis_fr (zfr_up hmm151 (zfr_rf [(130, 0)] _) zq_221 rfl) rfl) hREBmh
                  have hRKNm151 := zR_KN_fr (zdis_fr (zfr_up hmm151 (zfr_rf [(130, 0)] _) zq_221 rfl) rfl) hRKNmh
                  have hRLTm151 := zR_LT_fr (zdis_fr (zfr_up hmm151 (zfr_rf [(130, 0)] _) zq_221 rfl) rfl) hRLTmh
                  have hRSEm151 := zR_SE_fr (zdis_fr (zfr_up hmm151 (zfr_rf [(130, 0)] _) zq_221 rfl) rfl) hRSEmh
                  exact zw_some ⟨hIm151, hFm151, hREBm151, hRKNm151, hRLTm151, hRSEm151, trivial⟩
                · have hM : (18 - 0) * 1 + 0 < (k : Int) := by omega
                  exact zw_le (zu_forget (zu_lr_same (zu_lr_same (zu_lr_same (zu_lr_same (zu_lr_drop zu_lr_nil)))))) (ih.2.2.2 x2 0 mh hImh hFmh ⟨by omega, by omega⟩ ⟨by omega, by omega⟩ ⟨by omega, by omega⟩ ⟨by omega, by omega⟩ hREBmh hRKNmh hRLTmh hRSEmh hM)
            · have b152 : 0 ≤ (zu_w32 ((zu_w32 (18 * a1)) + x4)) ∧ (zu_w32 ((zu_w32 (18 * a1)) + x4)) < 36 := by omega
              refine zw_if b152 ?_
              generalize hmm153 : zu_up mh 215 (zu_w32 ((zu_w32 (18 * a1)) + x4)) (-2) = m153
              have hIm153 := zi_up hmm153 hImh zq_215 (zb_124 _) (by omega) (by omega)
              have hFm153 := zfr_up hmm153 hFmh zq_215 rfl
              have hREBm153 := zR_EB_fr (zdis_fr (zfr_up hmm153 (zfr_rf [(124, 0)] _) zq_215 rfl) rfl) hREBmh
              have hRKNm153 := zR_KN_fr (zdis_fr (zfr_up hmm153 (zfr_rf [(124, 0)] _) zq_215 rfl) rfl) hRKNmh
              have hRLTm153 := zR_LT_fr (zdis_fr (zfr_up hmm153 (zfr_rf [(124, 0)] _) zq_215 rfl) rfl) hRLTmh
              have hRSEm153 := zR_SE_fr (zdis_fr (zfr_up hmm153 (zfr_rf [(124, 0)] _) zq_215 rfl) rfl) hRSEmh
              have b154 : 0 ≤ (3 : Int) ∧ (3 : Int) < 10 := by omega
              refine zw_if b154 ?_
              have r155 : (-1) ≤ (m153 194 3) ∧ (m153 194 3) ≤ 99999 := zi_rd hIm153 zq_194 (zb_103 _)
              refine zw_ite (fun h156 => ?_) (fun h156 => ?_)
              · have b157 : 0 ≤ a1 ∧ a1 < 2 := by omega
                refine zw_if b157 ?_
                have r158 : (-2147483648) ≤ (m153 221 a1) ∧ (m153 221 a1) ≤ 2147483647 := zi_rd hIm153 zq_221 (zb_130 _)
                have w159 := zu_w32_rg ((m153 221 a1) + 1)
                have b160 : 0 ≤ a1 ∧ a1 < 2 := by omega
                refine zw_if b160 ?_
                generalize hmm161 : zu_up m153 221 a1 (zu_w32 ((m153 221 a1) + 1)) = m161
                have hIm161 := zi_up hmm161 hIm153 zq_221 (zb_130 _) (by omega) (by omega)
                have hFm161 := zfr_up hmm161 hFm153 zq_221 rfl
                have hREBm161 := zR_EB_fr (zdis_fr (zfr_up hmm161 (zfr_rf [(130, 0)] _) zq_221 rfl) rfl) hREBm153
                have hRKNm161 := zR_KN_fr (zdis_fr (zfr_up hmm161 (zfr_rf [(130, 0)] _) zq_221 rfl) rfl) hRKNm153
                have hRLTm161 := zR_LT_fr (zdis_fr (zfr_up hmm161 (zfr_rf [(130, 0)] _) zq_221 rfl) rfl) hRLTm153
                have hRSEm161 := zR_SE_fr (zdis_fr (zfr_up hmm161 (zfr_rf [(130, 0)] _) zq_221 rfl) rfl) hRSEm153
                exact zw_some ⟨hIm161, hFm161, hREBm161, hRKNm161, hRLTm161, hRSEm161, trivial⟩
              · have r162 : 0 ≤ (m153 a0 66) ∧ (m153 a0 66) ≤ 1 := zi_rd hIm153 hc0 zb_28_66
                refine zw_ite (fun h163 => ?_) (fun h163 => ?_)
                · have b164 : 0 ≤ a1 ∧ a1 < 2 := by omega
                  refine zw_if b164 ?_
                  have r165 : (-2147483648) ≤ (m153 221 a1) ∧ (m153 221 a1) ≤ 2147483647 := zi_rd hIm153 zq_221 (zb_130 _)
                  have w166 := zu_w32_rg ((m153 221 a1) + 1)
                  have b167 : 0 ≤ a1 ∧ a1 < 2 := by omega
                  refine zw_if b167 ?_
                  generalize hmm168 : zu_up m153 221 a1 (zu_w32 ((m153 221 a1) + 1)) = m168
                  have hIm168 := zi_up hmm168 hIm153 zq_221 (zb_130 _) (by omega) (by omega)
                  have hFm168 := zfr_up hmm168 hFm153 zq_221 rfl
                  have hREBm168 := zR_EB_fr (zdis_fr (zfr_up hmm168 (zfr_rf [(130, 0)] _) zq_221 rfl) rfl) hREBm153
                  have hRKNm168 := zR_KN_fr (zdis_fr (zfr_up hmm168 (zfr_rf [(130, 0)] _) zq_221 rfl) rfl) hRKNm153
                  have hRLTm168 := zR_LT_fr (zdis_fr (zfr_up hmm168 (zfr_rf [(130, 0)] _) zq_221 rfl) rfl) hRLTm153
                  have hRSEm168 := zR_SE_fr (zdis_fr (zfr_up hmm168 (zfr_rf [(130, 0)] _) zq_221 rfl) rfl) hRSEm153
                  exact zw_some ⟨hIm168, hFm168, hREBm168, hRKNm168, hRLTm168, hRSEm168, trivial⟩
                · have hM : (18 - 0) * 1 + 0 < (k : Int) := by omega
                  exact zw_le (zu_forget (zu_lr_same (zu_lr_same (zu_lr_same (zu_lr_same (zu_lr_drop zu_lr_nil)))))) (ih.2.2.2 x2 0 m153 hIm153 hFm153 ⟨by omega, by omega⟩ ⟨by omega, by omega⟩ ⟨by omega, by omega⟩ ⟨by omega, by omega⟩ hREBm153 hRKNm153 hRLTm153 hRSEm153 hM)
          · have w169 := zu_w32_id (z := x4 + 1) (by omega) (by omega)
            have hM : (18 - (zu_w32 (x4 + 1))) * 1 + 19 < (k : Int) := by omega
            exact ih.2.2.1 x2 x3 (zu_w32 (x4 + 1)) mh hImh hFmh ⟨by omega, by omega⟩ ⟨by omega, by omega⟩ ⟨by omega, by omega⟩ ⟨by omega, by omega⟩ ⟨by omega, by omega⟩ hREBmh hRKNmh hRLTmh hRSEmh hM
set_option maxHeartbeats 4000000 in
theorem zl_140H3 (n : Nat) {a0 a1 : Int} {m0 : zu_m} (hc0 : zcls a0 = 28)   (k : Nat) (ih : (∀ (x2 x3 : Int) (mh : zu_m), zi_I mh → zfr [(28, 54), (28, 64), (122, 0), (123, 0), (124, 0), (126, 0), (128, 0), (129, 0), (130, 0), (131, 0)] m0 mh → (0 ≤ a1 ∧ a1 ≤ 1) → ((-2147483648) ≤ x2 ∧ x2 ≤ 2147483647) → (0 ≤ x3 ∧ x3 ≤ 4) → (zE1 mh a1) → (zR_KN mh) → (zR_LT mh) → (zE1 mh 0) → (4 - x3) * 1 + 43 < (k : Int) → zw (zu_ex (zt_T n) 140 9 [(40, a0), (0, a1), (0, x2), (0, x3), (2, 0)] [] mh) (fun v m => zi_I m ∧ zfr [(28, 54), (28, 64), (122, 0), (123, 0), (124, 0), (126, 0), (128, 0), (129, 0), (130, 0), (131, 0)] m0 m ∧ zE1 m a1 ∧ zR_KN m ∧ zR_LT m ∧ zE1 m 0 ∧ True)) ∧ (∀ (x2 x3 : Int) (mh : zu_m), zi_I mh → zfr [(28, 54), (28, 64), (122, 0), (123, 0), (124, 0), (126, 0), (128, 0), (129, 0), (130, 0), (131, 0)] m0 mh → (0 ≤ a1 ∧ a1 ≤ 1) → ((-2147483648) ≤ x2 ∧ x2 ≤ 2147483647) → (0 ≤ x3 ∧ x3 ≤ 4) → (zE1 mh a1) → (zR_KN mh) → (zR_LT mh) → (zE1 mh 0) → (4 - x3) * 1 + 38 < (k : Int) → zw (zu_ex (zt_T n) 140 53 [(40, a0), (0, a1), (0, x2), (0, x3), (2, 0)] [] mh) (fun v m => zi_I m ∧ zfr [(28, 54), (28, 64), (122, 0), (123, 0), (124, 0), (126, 0), (128, 0), (129, 0), (130, 0), (131, 0)] m0 m ∧ zE1 m a1 ∧ zR_KN m ∧ zR_LT m ∧ zE1 m 0 ∧ True)) ∧ (∀ (x2 x3 x4 : Int) (mh : zu_m), zi_I mh → zfr [(28, 54), (28, 64), (122, 0), (123, 0), (124, 0), (126, 0), (128, 0), (129, 0), (130, 0), (131, 0)] m0 mh → (0 ≤ a1 ∧ a1 ≤ 1) → (1 ≤ x2 ∧ x2 ≤ 2147483647) → ((-99) ≤ x3 ∧ x3 ≤ 99) → (0 ≤ x4 ∧ x4 ≤ 18) → (0 ≤ mh a0 65 ∧ mh a0 65 ≤ 0) → (zE1 mh a1) → (zR_KN mh) → (zR_LT mh) → (zE1 mh 0) → (18 - x4) * 1 + 19 < (k : Int) → zw (zu_ex (zt_T n) 140 138 [(40, a0), (0, a1), (0, x2), (0, x3), (0, x4)] [] mh) (fun v m => zi_I m ∧ zfr [(28, 54), (28, 64), (122, 0), (123, 0), (124, 0), (126, 0), (128, 0), (129, 0), (130, 0), (131, 0)] m0 m ∧ zE1 m a1 ∧ zR_KN m ∧ zR_LT m ∧ zE1 m 0 ∧ True)) ∧ (∀ (x2 x3 : Int) (mh : zu_m), zi_I mh → zfr [(28, 54), (28, 64), (122, 0), (123, 0), (124, 0), (126, 0), (128, 0), (129, 0), (130, 0), (131, 0)] m0 mh → (0 ≤ a1 ∧ a1 ≤ 1) → ((-1) ≤ x2 ∧ x2 ≤ 99999) → (0 ≤ x3 ∧ x3 ≤ 18) → (0 ≤ mh a0 66 ∧ mh a0 66 ≤ 0) → (zE1 mh a1) → (zR_KN mh) → (zR_LT mh) → (zE1 mh 0) → (18 - x3) * 1 + 0 < (k : Int) → zw (zu_ex (zt_T n) 140 226 [(40, a0), (0, a1), (0, x2), (0, x3), (2, 0)] [] mh) (fun v m => zi_I m ∧ zfr [(28, 54), (28, 64), (122, 0), (123, 0), (124, 0), (126, 0), (128, 0), (129, 0), (130, 0), (131, 0)] m0 m ∧ zE1 m a1 ∧ zR_KN m ∧ zR_LT m ∧ zE1 m 0 ∧ True))) : (∀ (x2 x3 : Int) (mh : zu_m), zi_I mh → zfr [(28, 54), (28, 64), (122, 0), (123, 0), (124, 0), (126, 0), (128, 0), (129, 0), (130, 0), (131, 0)] m0 mh → (0 ≤ a1 ∧ a1 ≤ 1) → ((-1) ≤ x2 ∧ x2 ≤ 99999) → (0 ≤ x3 ∧ x3 ≤ 18) → (0 ≤ mh a0 66 ∧ mh a0 66 ≤ 0) → (zE1 mh a1) → (zR_KN mh) → (zR_LT mh) → (zE1 mh 0) → (18 - x3) * 1 + 0 < ((k + 1 : Nat) : Int) → zw (zu_ex (zt_T n) 140 226 [(40, a0), (0, a1), (0, x2), (0, x3), (2, 0)] [] mh) (fun v m => zi_I m ∧ zfr [(28, 54), (28, 64), (122, 0), (123, 0), (124, 0), (126, 0), (128, 0), (129, 0), (130, 0), (131, 0)] m0 m ∧ zE1 m a1 ∧ zR_KN m ∧ zR_LT m ∧ zE1 m 0 ∧ True)) := by
      intro x2 x3 mh hImh hFmh hba1 hbx2 hbx3 hg3 hREBmh hRKNmh hRLTmh hRSEmh hM
      refine zw_eq (zu_rega_at (zt_T n) (zm_140 n) (zdp_140 n) _ _ _ _ _ _ (zr_140_226 n _ _ a0 a1 x2 x3 mh)) ?_
      have b170 : 0 ≤ a1 ∧ a1 < 2 := by omega
      refine zw_if b170 ?_
      have r171 : 0 ≤ (mh 216 a1) ∧ (mh 216 a1) ≤ 18 := zi_rdr (m := 2) (r0 := 0) (r1 := 1) hImh zq_216 (by omega) (by decide +kernel)
      refine zw_ite (fun h172 => ?_) (fun h172 => ?_)
      · have b173 : 0 ≤ a1 ∧ a1 < 2 := by omega
        refine zw_if b173 ?_
        have r174 : (-2147483648) ≤ (mh 221 a1) ∧ (mh 221 a1) ≤ 2147483647 := zi_rd hImh zq_221 (zb_130 _)
        have w175 := zu_w32_rg ((mh 221 a1) + 1)
        have b176 : 0 ≤ a1 ∧ a1 < 2 := by omega
        refine zw_if b176 ?_
        generalize hmm177 : zu_up mh 221 a1 (zu_w32 ((mh 221 a1) + 1)) = m177
        have hIm177 := zi_up hmm177 hImh zq_221 (zb_130 _) (by omega) (by omega)
        have hFm177 := zfr_up hmm177 hFmh zq_221 rfl
        have hREBm177 := zR_EB_fr (zdis_fr (zfr_up hmm177 (zfr_rf [(130, 0)] _) zq_221 rfl) rfl) hREBmh
        have hRKNm177 := zR_KN_fr (zdis_fr (zfr_up hmm177 (zfr_rf [(130, 0)] _) zq_221 rfl) rfl) hRKNmh
        have hRLTm177 := zR_LT_fr (zdis_fr (zfr_up hmm177 (zfr_rf [(130, 0)] _) zq_221 rfl) rfl) hRLTmh
        have hRSEm177 := zR_SE_fr (zdis_fr (zfr_up hmm177 (zfr_rf [(130, 0)] _) zq_221 rfl) rfl) hRSEmh
        exact zw_some ⟨hIm177, hFm177, hREBm177, hRKNm177, hRLTm177, hRSEm177, trivial⟩
      · have w178 := zu_w32_id (z := 18 * a1) (by omega) (by omega)
        have w179 := zu_w32_id (z := (zu_w32 (18 * a1)) + x3) (by omega) (by omega)
        have b180 : 0 ≤ (zu_w32 ((zu_w32 (18 * a1)) + x3)) ∧ (zu_w32 ((zu_w32 (18 * a1)) + x3)) < 36 := by omega
        refine zw_if b180 ?_
        have r181 : (-3) ≤ (mh 215 (zu_w32 ((zu_w32 (18 * a1)) + x3))) ∧ (mh 215 (zu_w32 ((zu_w32 (18 * a1)) + x3))) ≤ 3 := zi_rd hImh zq_215 (zb_124 _)
        refine zw_ite (fun h182 => ?_) (fun h182 => ?_)
        · have w183 := zu_w32_id (z := x3 + 1) (by omega) (by omega)
          have hM : (18 - (zu_w32 (x3 + 1))) * 1 + 0 < (k : Int) := by omega
          exact ih.2.2.2 x2 (zu_w32 (x3 + 1)) mh hImh hFmh ⟨by omega, by omega⟩ ⟨by omega, by omega⟩ ⟨by omega, by omega⟩ ⟨by omega, by omega⟩ hREBmh hRKNmh hRLTmh hRSEmh hM
        · have b184 : 0 ≤ x3 ∧ x3 < 36 := by omega
          refine zw_if b184 ?_
          have r185 : 0 ≤ (mh 197 x3) ∧ (mh 197 x3) ≤ 47 := zi_rd hImh zq_197 (zb_106 _)
          have b186 : 0 ≤ (mh 197 x3) ∧ (mh 197 x3) < 96 := by omega
          refine zw_if b186 ?_
          have r187 : 0 ≤ (mh 195 (mh 197 x3)) ∧ (mh 195 (mh 197 x3)) ≤ 3 := zi_rd hImh zq_195 (zb_104 _)
          refine zw_ite (fun h188 => ?_) (fun h188 => ?_)
          · have w189 := zu_w32_id (z := x3 + 1) (by omega) (by omega)
            have hM : (18 - (zu_w32 (x3 + 1))) * 1 + 0 < (k : Int) := by omega
            exact ih.2.2.2 x2 (zu_w32 (x3 + 1)) mh hImh hFmh ⟨by omega, by omega⟩ ⟨by omega, by omega⟩ ⟨by omega, by omega⟩ ⟨by omega, by omega⟩ hREBmh hRKNmh hRLTmh hRSEmh hM
          · have b190 : 0 ≤ (zu_w32 ((zu_w32 (18 * a1)) + x3)) ∧ (zu_w32 ((zu_w32 (18 * a1)) + x3)) < 36 := by omega
            refine zw_if b190 ?_
            generalize hmm191 : zu_up mh 215 (zu_w32 ((zu_w32 (18 * a1)) + x3)) (-3) = m191
            have hIm191 := zi_up hmm191 hImh zq_215 (zb_124 _) (by omega) (by omega)
            have hFm191 := zfr_up hmm191 hFmh zq_215 rfl
            have hREBm191 := zR_EB_fr (zdis_fr (zfr_up hmm191 (zfr_rf [(124, 0)] _) zq_215 rfl) rfl) hREBmh
            have hRKNm191 := zR_KN_fr (zdis_fr (zfr_up hmm191 (zfr_rf [(124, 0)] _) zq_215 rfl) rfl) hRKNmh
            have hRLTm191 := zR_LT_fr (zdis_fr (zfr_up hmm191 (zfr_rf [(124, 0)] _) zq_215 rfl) rfl) hRLTmh
            have hRSEm191 := zR_SE_fr (zdis_fr (zfr_up hmm191 (zfr_rf [(124, 0)] _) zq_215 rfl) rfl) hRSEmh
            have w192 := zu_w32_id (z := x3 + 1) (by omega) (by omega)
            have r193 : 0 ≤ (m191 a0 66) ∧ (m191 a0 66) ≤ 1 := zi_rd hIm191 hc0 zb_28_66
            have e194 : (m191 a0 66) = (mh a0 66) := (zs_ne hmm191 (Or.inl (zc_ne hc0 zq_215 (by decide))))
            have hM : (18 - (zu_w32 (x3 + 1))) * 1 + 0 < (k : Int) := by omega
            exact ih.2.2.2 x2 (zu_w32 (x3 + 1)) m191 hIm191 hFm191 ⟨by omega, by omega⟩ ⟨by omega, by omega⟩ ⟨by omega, by omega⟩ ⟨by omega, by omega⟩ hREBm191 hRKNm191 hRLTm191 hRSEm191 hM
set_option maxHeartbeats 4000000 in
theorem zl_140 (n : Nat) {a0 a1 : Int} {m0 : zu_m} (hc0 : zcls a0 = 28)   : ∀ k : Nat, (∀ (x2 x3 : Int) (mh : zu_m), zi_I mh → zfr [(28, 54), (28, 64), (122, 0), (123, 0), (124, 0), (126, 0), (128, 0), (129, 0), (130, 0), (131, 0)] m0 mh → (0 ≤ a1 ∧ a1 ≤ 1) → ((-2147483648) ≤ x2 ∧ x2 ≤ 2147483647) → (0 ≤ x3 ∧ x3 ≤ 4) → (zE1 mh a1) → (zR_KN mh) → (zR_LT mh) → (zE1 mh 0) → (4 - x3) * 1 + 43 < (k : Int) → zw (zu_ex (zt_T n) 140 9 [(40, a0), (0, a1), (0, x2), (0, x3), (2, 0)] [] mh) (fun v m => zi_I m ∧ zfr [(28, 54), (28, 64), (122, 0), (123, 0), (124, 0), (126, 0), (128, 0), (129, 0), (130, 0), (131, 0)] m0 m ∧ zE1 m a1 ∧ zR_KN m ∧ zR_LT m ∧ zE1 m 0 ∧ True)) ∧ (∀ (x2 x3 : Int) (mh : zu_m), zi_I mh → zfr [(28, 54), (28, 64), (122, 0), (123, 0), (124, 0), (126, 0), (128, 0), (129, 0), (130, 0), (131, 0)] m0 mh → (0 ≤ a1 ∧ a1 ≤ 1) → ((-2147483648) ≤ x2 ∧ x2 ≤ 2147483647) → (0 ≤ x3 ∧ x3 ≤ 4) → (zE1 mh a1) → (zR_KN mh) → (zR_LT mh) → (zE1 mh 0) → (4 - x3) * 1 + 38 < (k : Int) → zw (zu_ex (zt_T n) 140 53 [(40, a0), (0, a1), (0, x2), (0, x3), (2, 0)] [] mh) (fun v m => zi_I m ∧ zfr [(28, 54), (28, 64), (122, 0), (123, 0), (124, 0), (126, 0), (128, 0), (129, 0), (130, 0), (131, 0)] m0 m ∧ zE1 m a1 ∧ zR_KN m ∧ zR_LT m ∧ zE1 m 0 ∧ True)) ∧ (∀ (x2 x3 x4 : Int) (mh : zu_m), zi_I mh → zfr [(28, 54), (28, 64), (122, 0), (123, 0), (124, 0), (126, 0), (128, 0), (129, 0), (130, 0), (131, 0)] m0 mh → (0 ≤ a1 ∧ a1 ≤ 1) → (1 ≤ x2 ∧ x2 ≤ 2147483647) → ((-99) ≤ x3 ∧ x3 ≤ 99) → (0 ≤ x4 ∧ x4 ≤ 18) → (0 ≤ mh a0 65 ∧ mh a0 65 ≤ 0) → (zE1 mh a1) → (zR_KN mh) → (zR_LT mh) → (zE1 mh 0) → (18 - x4) * 1 + 19 < (k : Int) → zw (zu_ex (zt_T n) 140 138 [(40, a0), (0, a1), (0, x2), (0, x3), (0, x4)] [] mh) (fun v m => zi_I m ∧ zfr [(28, 54), (28, 64), (122, 0), (123, 0), (124, 0), (126, 0), (128, 0), (129, 0), (130, 0), (131, 0)] m0 m ∧ zE1 m a1 ∧ zR_KN m ∧ zR_LT m ∧ zE1 m 0 ∧ True)) ∧ (∀ (x2 x3 : Int) (mh : zu_m), zi_I mh → zfr [(28, 54), (28, 64), (122, 0), (123, 0), (124, 0), (126, 0), (128, 0), (129, 0), (130, 0), (131, 0)] m0 mh → (0 ≤ a1 ∧ a1 ≤ 1) → ((-1) ≤ x2 ∧ x2 ≤ 99999) → (0 ≤ x3 ∧ x3 ≤ 18) → (0 ≤ mh a0 66 ∧ mh a0 66 ≤ 0) → (zE1 mh a1) → (zR_KN mh) → (zR_LT mh) → (zE1 mh 0) → (18 - x3) * 1 + 0 < (k : Int) → zw (zu_ex (zt_T n) 140 226 [(40, a0), (0, a1), (0, x2), (0, x3), (2, 0)] [] mh) (fun v m => zi_I m ∧ zfr [(28, 54), (28, 64), (122, 0), (123, 0), (124, 0), (126, 0), (128, 0), (129, 0), (130, 0), (131, 0)] m0 m ∧ zE1 m a1 ∧ zR_KN m ∧ zR_LT m ∧ zE1 m 0 ∧ True)) := by
  intro k
  induction k with
  | zero => exact ⟨fun x2 x3 mh hImh hFmh hba1 hbx2 hbx3 hREBmh hRKNmh hRLTmh hRSEmh hM => by exfalso; omega, fun x2 x3 mh hImh hFmh hba1 hbx2 hbx3 hREBmh hRKNmh hRLTmh hRSEmh hM => by exfalso; omega, fun x2 x3 x4 mh hImh hFmh hba1 hbx2 hbx3 hbx4 hg4 hREBmh hRKNmh hRLTmh hRSEmh hM => by exfalso; omega, fun x2 x3 mh hImh hFmh hba1 hbx2 hbx3 hg3 hREBmh hRKNmh hRLTmh hRSEmh hM => by exfalso; omega⟩
  | succ k ih => exact ⟨zl_140H0 n (m0 := m0) hc0 k ih, zl_140H1 n (m0 := m0) hc0 k ih, zl_140H2 n (m0 := m0) hc0 k ih, zl_140H3 n (m0 := m0) hc0 k ih⟩
set_option maxHeartbeats 4000000 in
theorem zk_140 (n : Nat) {a0 a1 : Int} {m0 : zu_m} (hIm0 : zi_I m0) (hc0 : zcls a0 = 28) (ha1 : 0 ≤ a1 ∧ a1 ≤ 1)    (hREBm0 : zE1 m0 a1) (hRKNm0 : zR_KN m0) (hRLTm0 : zR_LT m0) (hRSEm0 : zE1 m0 0) : zw (zu_call (zt_T n) 140 [(40, a0), (0, a1)] m0) (fun v m => zi_I m ∧ zfr [(28, 54), (28, 64), (122, 0), (123, 0), (124, 0), (126, 0), (128, 0), (129, 0), (130, 0), (131, 0)] m0 m ∧ zE1 m a1 ∧ zR_KN m ∧ zR_LT m ∧ zE1 m 0 ∧ True) := by
  have hFm0 : zfr [(28, 54), (28, 64), (122, 0), (123, 0), (124, 0), (126, 0), (128, 0), (129, 0), (130, 0), (131, 0)] m0 m0 := zfr_rf _ _
  refine zw_eq (zu_call_at (zt_T n) (zm_140 n) (zdp_140 n) _ _ _ _ _ rfl (zr_140_0 n _ _ a0 a1 m0)) ?_
  have b195 : 0 ≤ a1 ∧ a1 < 2 := by omega
  refine zw_if b195 ?_
  have r196 : (-2147483648) ≤ (m0 221 a1) ∧ (m0 221 a1) ≤ 2147483647 := zi_rd hIm0 zq_221 (zb_130 _)
  have hM : (4 - 0) * 1 + 43 < ((48 : Nat) : Int) := by omega
  exact (zl_140 n (m0 := m0) hc0 48).1 (m0 221 a1) 0 m0 hIm0 hFm0 ⟨by omega, by omega⟩ ⟨by omega, by omega⟩ ⟨by omega, by omega⟩ hREBm0 hRKNm0 hRLTm0 hRSEm0 hM
set_option maxHeartbeats 4000000 in
theorem zl_153 (n : Nat) {a0 a1 : Int} {m0 : zu_m} (hc0 : zcls a0 = 28)   : ∀ k : Nat, (∀ (x2 : Int) (mh : zu_m), zi_I mh → zfr [(28, 3), (28, 54), (28, 64), (28, 65), (28, 66), (28, 67), (28, 68), (28, 69), (28, 70), (28, 82), (122, 0), (123, 0), (124, 0), (126, 0), (128, 0), (129, 0), (130, 0), (131, 0)] m0 mh → (0 ≤ a1 ∧ a1 ≤ 200) → (0 ≤ x2 ∧ x2 ≤ 200) → (0 ≤ mh a0 2 ∧ mh a0 2 ≤ 0) → (0 ≤ mh a0 65 ∧ mh a0 65 ≤ 0) → (0 ≤ mh a0 66 ∧ mh a0 66 ≤ 0) → (0 ≤ mh a0 67 ∧ mh a0 67 ≤ 0) → (0 ≤ mh a0 68 ∧ mh a0 68 ≤ 0) → ((-1) ≤ mh a0 69 ∧ mh a0 69 ≤ (-1)) → (zR_KN mh) → (zR_LT mh) → (zR_RU mh) → (zE1 mh 0) → (200 - x2) * 1 + 0 < (k : Int) → zw (zu_ex (zt_T n) 153 38 [(40, a0), (0, a1), (0, x2)] [] mh) (fun v m => zi_I m ∧ zfr [(28, 3), (28, 54), (28, 64), (28, 65), (28, 66), (28, 67), (28, 68), (28, 69), (28, 70), (28, 82), (122, 0), (123, 0), (124, 0), (126, 0), (128, 0), (129, 0), (130, 0), (131, 0)] m0 m ∧ zR_KN m ∧ zR_LT m ∧ zR_RU m ∧ zE1 m 0 ∧ ((-2147483648) ≤ v ∧ v ≤ 2147483647) ∧ (0 ≤ m a0 2 ∧ m a0 2 ≤ 0))) := by
  intro k
  induction k with
  | zero => exact fun x2 mh hImh hFmh hba1 hbx2 hg2 hg3 hg4 hg5 hg6 hg7 hRKNmh hRLTmh hRRUmh hRSEmh hM => by exfalso; omega
  | succ k ih =>
    intro x2 mh hImh hFmh hba1 hbx2 hg2 hg3 hg4 hg5 hg6 hg7 hRKNmh hRLTmh hRRUmh hRSEmh hM
    refine zw_eq (zu_rega_at (zt_T n) (zm_153 n) (zdp_153 n) _ _ _ _ _ _ (zr_153_38 n _ _ a0 a1 x2 mh)) ?_
    refine zw_ite (fun h1 => ?_) (fun h1 => ?_)
    · refine zw_ite (fun h2 => ?_) (fun h2 => ?_)
      · have r3 : 0 ≤ (mh a0 81) ∧ (mh a0 81) ≤ 20 := zi_rd hImh hc0 zb_28_81
        generalize hmm4 : zu_up mh a0 81 (mh a0 81) = m4
        have hIm4 := zi_up hmm4 hImh hc0 zb_28_81 (by omega) (by omega)
        have hFm4 := zfr_up hmm4 hFmh hc0 rfl
        have hRKNm4 := zR_KN_fr (zdis_fr (zfr_up hmm4 (zfr_rf [(28, 82)] _) hc0 rfl) rfl) hRKNmh
        have hRLTm4 := zR_LT_fr (zdis_fr (zfr_up hmm4 (zfr_rf [(28, 82)] _) hc0 rfl) rfl) hRLTmh
        have hRSEm4 := zR_SE_fr (zdis_fr (zfr_up hmm4 (zfr_rf [(28, 82)] _) hc0 rfl) rfl) hRSEmh
        have hRRUm4 := zRU_dn (zone_190 hc0) hmm4 (by omega) hRRUmh
        have b5 : 0 ≤ (0 : Int) ∧ (0 : Int) < 2 := by omega
        refine zw_if b5 ?_
        have r6 : (-2147483648) ≤ (m4 221 0) ∧ (m4 221 0) ≤ 2147483647 := zi_rd hIm4 zq_221 (zb_130 _)
        have r7 : (-2147483648) ≤ (m4 a0 2) ∧ (m4 a0 2) ≤ 2147483647 := zi_rd hIm4 hc0 zb_28_2
        have e8 : (m4 a0 2) = (mh a0 2) := (zs_ne hmm4 (Or.inr (by decide)))
        exact zw_some ⟨hIm4, hFm4, hRKNm4, hRLTm4, hRRUm4, hRSEm4, ⟨by omega, by omega⟩, ⟨by omega, by omega⟩⟩
      · generalize hmm9 : zu_up mh a0 81 0 = m9
        have hIm9 := zi_up hmm9 hImh hc0 zb_28_81 (by omega) (by omega)
        have hFm9 := zfr_up hmm9 hFmh hc0 rfl
        have hRKNm9 := zR_KN_fr (zdis_fr (zfr_up hmm9 (zfr_rf [(28, 82)] _) hc0 rfl) rfl) hRKNmh
        have hRLTm9 := zR_LT_fr (zdis_fr (zfr_up hmm9 (zfr_rf [(28, 82)] _) hc0 rfl) rfl) hRLTmh
        have hRSEm9 := zR_SE_fr (zdis_fr (zfr_up hmm9 (zfr_rf [(28, 82)] _) hc0 rfl) rfl) hRSEmh
        have r10 : 0 ≤ (mh a0 81) ∧ (mh a0 81) ≤ 20 := zi_rd hImh hc0 zb_28_81
        have hRRUm9 := zRU_dn (zone_190 hc0) hmm9 (by omega) hRRUmh
        have b11 : 0 ≤ (0 : Int) ∧ (0 : Int) < 2 := by omega
        refine zw_if b11 ?_
        have r12 : (-2147483648) ≤ (m9 221 0) ∧ (m9 221 0) ≤ 2147483647 := zi_rd hIm9 zq_221 (zb_130 _)
        have r13 : (-2147483648) ≤ (m9 a0 2) ∧ (m9 a0 2) ≤ 2147483647 := zi_rd hIm9 hc0 zb_28_2
        have e14 : (m9 a0 2) = (mh a0 2) := (zs_ne hmm9 (Or.inr (by decide)))
        exact zw_some ⟨hIm9, hFm9, hRKNm9, hRLTm9, hRRUm9, hRSEm9, ⟨by omega, by omega⟩, ⟨by omega, by omega⟩⟩
    · refine zw_bd (zw_mono (zk_140 n hImh hc0 ⟨by decide, by decide⟩ hRSEmh hRKNmh hRLTmh hRSEmh) (fun v16 m15 hqm15 => ?_))
      obtain ⟨hIm15, hfm15, hvm15⟩ := hqm15
      have hFm15 := zfr_tr hFmh hfm15 rfl
      obtain ⟨hRSEm15, hRKNm15, hRLTm15, hRSEm15, hvm15⟩ := hvm15
      have hRRUm15 := zR_RU_fr (zdis_fr hfm15 rfl) hRRUmh
      have w17 := zu_w32_id (z := x2 + 1) (by omega) (by omega)
      have r18 : (-2147483648) ≤ (m15 a0 2) ∧ (m15 a0 2) ≤ 2147483647 := zi_rd hIm15 hc0 zb_28_2
      have e19 : (m15 a0 2) = (mh a0 2) := (zfr_ap hfm15 hc0 rfl)
      have r20 : (-2147483648) ≤ (m15 a0 69) ∧ (m15 a0 69) ≤ 2147483647 := zi_rd hIm15 hc0 zb_28_69
      have e21 : (m15 a0 69) = (mh a0 69) := (zfr_ap hfm15 hc0 rfl)
      have r22 : 0 ≤ (m15 a0 65) ∧ (m15 a0 65) ≤ 1 := zi_rd hIm15 hc0 zb_28_65
      have e23 : (m15 a0 65) = (mh a0 65) := (zfr_ap hfm15 hc0 rfl)
      have r24 : 0 ≤ (m15 a0 66) ∧ (m15 a0 66) ≤ 1 := zi_rd hIm15 hc0 zb_28_66
      have e25 : (m15 a0 66) = (mh a0 66) := (zfr_ap hfm15 hc0 rfl)
      have r26 : 0 ≤ (m15 a0 67) ∧ (m15 a0 67) ≤ 1 := zi_rd hIm15 hc0 zb_28_67
      have e27 : (m15 a0 67) = (mh a0 67) := (zfr_ap hfm15 hc0 rfl)
      have r28 : 0 ≤ (m15 a0 68) ∧ (m15 a0 68) ≤ 1 := zi_rd hIm15 hc0 zb_28_68
      have e29 : (m15 a0 68) = (mh a0 68) := (zfr_ap hfm15 hc0 rfl)
      have hM : (200 - (zu_w32 (x2 + 1))) * 1 + 0 < (k : Int) := by omega
      exact ih (zu_w32 (x2 + 1)) m15 hIm15 hFm15 ⟨by omega, by omega⟩ ⟨by omega, by omega⟩ ⟨by omega, by omega⟩ ⟨by omega, by omega⟩ ⟨by omega, by omega⟩ ⟨by omega, by omega⟩ ⟨by omega, by omega⟩ ⟨by omega, by omega⟩ hRKNm15 hRLTm15 hRRUm15 hRSEm15 hM
set_option maxHeartbeats 4000000 in
theorem zk_153 (n : Nat) {a0 a1 : Int} {m0 : zu_m} (hIm0 : zi_I m0) (hc0 : zcls a0 = 28) (ha1 : (-2147483648) ≤ a1 ∧ a1 ≤ 2147483647)    (hRKNm0 : zR_KN m0) (hRLTm0 : zR_LT m0) (hRRUm0 : zR_RU m0) (hRSEm0 : zE1 m0 0) : zw (zu_call (zt_T n) 153 [(40, a0), (0, a1)] m0) (fun v m => zi_I m ∧ zfr [(28, 3), (28, 54), (28, 64), (28, 65), (28, 66), (28, 67), (28, 68), (28, 69), (28, 70), (28, 82), (122, 0), (123, 0), (124, 0), (126, 0), (128, 0), (129, 0), (130, 0), (131, 0)] m0 m ∧ zR_KN m ∧ zR_LT m ∧ zR_RU m ∧ zE1 m 0 ∧ ((-2147483648) ≤ v ∧ v ≤ 2147483647) ∧ (0 ≤ m a0 2 ∧ m a0 2 ≤ 0)) := by
  have hFm0 : zfr [(28, 3), (28, 54), (28, 64), (28, 65), (28, 66), (28, 67), (28, 68), (28, 69), (28, 70), (28, 82), (122, 0), (123, 0), (124, 0), (126, 0), (128, 0), (129, 0), (130, 0), (131, 0)] m0 m0 := zfr_rf _ _
  refine zw_eq (zu_call_at (zt_T n) (zm_153 n) (zdp_153 n) _ _ _ _ _ rfl (zr_153_0 n _ _ a0 a1 m0)) ?_
  generalize hmm30 : zu_up m0 a0 2 0 = m30
  have hIm30 := zi_up hmm30 hIm0 hc0 zb_28_2 (by omega) (by omega)
  have hFm30 := zfr_up hmm30 hFm0 hc0 rfl
  have hRKNm30 := zR_KN_fr (zdis_fr (zfr_up hmm30 (zfr_rf [(28, 3)] _) hc0 rfl) rfl) hRKNm0
  have hRLTm30 := zR_LT_fr (zdis_fr (zfr_up hmm30 (zfr_rf [(28, 3)] _) hc0 rfl) rfl) hRLTm0
  have hRRUm30 := zR_RU_fr (zdis_fr (zfr_up hmm30 (zfr_rf [(28, 3)] _) hc0 rfl) rfl) hRRUm0
  have hRSEm30 := zR_SE_fr (zdis_fr (zfr_up hmm30 (zfr_rf [(28, 3)] _) hc0 rfl) rfl) hRSEm0
  refine zw_bd (zw_eq (zu_call_at (zt_T n) (zm_83 n) (zdp_83 n) _ _ _ _ _ rfl (zr_83_0 n _ _ a1 0 200 m30)) ?_)
  refine zw_ite (fun h31 => ?_) (fun h31 => ?_)
  · refine zw_b (by omega) ?_
    refine zw_some ?_
    refine zw_ite (fun h32 => ?_) (fun h32 => ?_)
    · have r33 : (-2147483648) ≤ (m30 a0 2) ∧ (m30 a0 2) ≤ 2147483647 := zi_rd hIm30 hc0 zb_28_2
      have e34 : (m30 a0 2) = 0 := (zs_eq hmm30)
      exact zw_some ⟨hIm30, hFm30, hRKNm30, hRLTm30, hRRUm30, hRSEm30, ⟨by decide, by decide⟩, ⟨by omega, by omega⟩⟩
    · exfalso; omega
  · refine zw_ite (fun h35 => ?_) (fun h35 => ?_)
    · refine zw_b (by omega) ?_
      refine zw_some ?_
      refine zw_ite (fun h36 => ?_) (fun h36 => ?_)
      · have r37 : (-2147483648) ≤ (m30 a0 2) ∧ (m30 a0 2) ≤ 2147483647 := zi_rd hIm30 hc0 zb_28_2
        have e38 : (m30 a0 2) = 0 := (zs_eq hmm30)
        exact zw_some ⟨hIm30, hFm30, hRKNm30, hRLTm30, hRRUm30, hRSEm30, ⟨by decide, by decide⟩, ⟨by omega, by omega⟩⟩
      · exfalso; omega
    · refine zw_b (by omega) ?_
      refine zw_some ?_
      refine zw_ite (fun h39 => ?_) (fun h39 => ?_)
      · exfalso; omega
      · have b40 : 0 ≤ (0 : Int) ∧ (0 : Int) < 2 := by omega
        refine zw_if b40 ?_
        have r41 : (-2147483648) ≤ (m30 221 0) ∧ (m30 221 0) ≤ 2147483647 := zi_rd hIm30 zq_221 (zb_130 _)
        have w42 := zu_w32_rg ((m30 221 0) + a1)
        refine zw_ite (fun h43 => ?_) (fun h43 => ?_)
        · refine zw_bd (zw_mono (zk_35 n hIm30 hc0) (fun v45 m44 hqm44 => ?_))
          obtain ⟨hIm44, hfm44, hvm44⟩ := hqm44
          have hFm44 := zfr_tr hFm30 hfm44 rfl
          have hRKNm44 := zR_KN_fr (zdis_fr hfm44 rfl) hRKNm30
          have hRLTm44 := zR_LT_fr (zdis_fr hfm44 rfl) hRLTm30
          have hRRUm44 := zR_RU_fr (zdis_fr hfm44 rfl) hRRUm30
          have hRSEm44 := zR_SE_fr (zdis_fr hfm44 rfl) hRSEm30
          have r46 : (-2147483648) ≤ (m44 a0 2) ∧ (m44 a0 2) ≤ 2147483647 := zi_rd hIm44 hc0 zb_28_2
          have e47 : (m44 a0 2) = 0 := (Eq.trans (zfr_ap hfm44 hc0 rfl) (zs_eq hmm30))
          have hM : (200 - 0) * 1 + 0 < ((201 : Nat) : Int) := by omega
          exact (zl_153 n (m0 := m0) hc0 201) 0 m44 hIm44 hFm44 ⟨by omega, by omega⟩ ⟨by omega, by omega⟩ ⟨by omega, by omega⟩ ⟨by omega, by omega⟩ ⟨by omega, by omega⟩ ⟨by omega, by omega⟩ ⟨by omega, by omega⟩ ⟨by omega, by omega⟩ hRKNm44 hRLTm44 hRRUm44 hRSEm44 hM
        · have r48 : (-2147483648) ≤ (m30 a0 2) ∧ (m30 a0 2) ≤ 2147483647 := zi_rd hIm30 hc0 zb_28_2
          have e49 : (m30 a0 2) = 0 := (zs_eq hmm30)
          exact zw_some ⟨hIm30, hFm30, hRKNm30, hRLTm30, hRRUm30, hRSEm30, ⟨by decide, by decide⟩, ⟨by omega, by omega⟩⟩
set_option maxHeartbeats 4000000 in
theorem zl_159 (n : Nat) {a0 a1 : Int} {m0 : zu_m} (hc0 : zcls a0 = 28)   : ∀ k : Nat, (∀ (x2 : Int) (mh : zu_m), zi_I mh → zfr [(28, 54), (28, 64), (28, 65), (28, 66), (28, 67), (28, 68), (28, 69), (28, 70), (122, 0), (123, 0), (124, 0), (126, 0), (128, 0), (129, 0), (130, 0), (131, 0)] m0 mh → (0 ≤ a1 ∧ a1 ≤ 200) → (0 ≤ x2 ∧ x2 ≤ 200) → (1 ≤ mh a0 65 ∧ mh a0 65 ≤ 1) → (zR_KN mh) → (zR_LT mh) → (zE1 mh 1) → (zE1 mh 0) → (200 - x2) * 1 + 0 < (k : Int) → zw (zu_ex (zt_T n) 159 7 [(40, a0), (0, a1), (0, x2)] [] mh) (fun v m => zi_I m ∧ zfr [(28, 54), (28, 64), (28, 65), (28, 66), (28, 67), (28, 68), (28, 69), (28, 70), (122, 0), (123, 0), (124, 0), (126, 0), (128, 0), (129, 0), (130, 0), (131, 0)] m0 m ∧ zR_KN m ∧ zR_LT m ∧ zE1 m 1 ∧ zE1 m 0 ∧ True ∧ (0 ≤ m a0 65 ∧ m a0 65 ≤ 0))) := by
  intro k
  induction k with
  | zero => exact fun x2 mh hImh hFmh hba1 hbx2 hg2 hRKNmh hRLTmh hRS1mh hRSEmh hM => by exfalso; omega
  | succ k ih =>
    intro x2 mh hImh hFmh hba1 hbx2 hg2 hRKNmh hRLTmh hRS1mh hRSEmh hM
    refine zw_eq (zu_rega_at (zt_T n) (zm_159 n) (zdp_159 n) _ _ _ _ _ _ (zr_159_7 n _ _ a0 a1 x2 mh)) ?_
    refine zw_ite (fun h1 => ?_) (fun h1 => ?_)
    · refine zw_bd (zw_mono (zk_35 n hImh hc0) (fun v3 m2 hqm2 => ?_))
      obtain ⟨hIm2, hfm2, hvm2⟩ := hqm2
      have hFm2 := zfr_tr hFmh hfm2 rfl
      have hRKNm2 := zR_KN_fr (zdis_fr hfm2 rfl) hRKNmh
      have hRLTm2 := zR_LT_fr (zdis_fr hfm2 rfl) hRLTmh
      have hRS1m2 := zR_S1_fr (zdis_fr hfm2 rfl) hRS1mh
      have hRSEm2 := zR_SE_fr (zdis_fr hfm2 rfl) hRSEmh
      exact zw_some ⟨hIm2, hFm2, hRKNm2, hRLTm2, hRS1m2, hRSEm2, trivial, ⟨by omega, by omega⟩⟩
    · refine zw_bd (zw_mono (zk_140 n hImh hc0 ⟨by decide, by decide⟩ hRS1mh hRKNmh hRLTmh hRSEmh) (fun v5 m4 hqm4 => ?_))
      obtain ⟨hIm4, hfm4, hvm4⟩ := hqm4
      have hFm4 := zfr_tr hFmh hfm4 rfl
      obtain ⟨hRS1m4, hRKNm4, hRLTm4, hRSEm4, hvm4⟩ := hvm4
      have w6 := zu_w32_id (z := x2 + 1) (by omega) (by omega)
      have r7 : 0 ≤ (m4 a0 65) ∧ (m4 a0 65) ≤ 1 := zi_rd hIm4 hc0 zb_28_65
      have e8 : (m4 a0 65) = (mh a0 65) := (zfr_ap hfm4 hc0 rfl)
      have hM : (200 - (zu_w32 (x2 + 1))) * 1 + 0 < (k : Int) := by omega
      exact ih (zu_w32 (x2 + 1)) m4 hIm4 hFm4 ⟨by omega, by omega⟩ ⟨by omega, by omega⟩ ⟨by omega, by omega⟩ hRKNm4 hRLTm4 hRS1m4 hRSEm4 hM
set_option maxHeartbeats 4000000 in
theorem zk_159 (n : Nat) {a0 a1 : Int} {m0 : zu_m} (hIm0 : zi_I m0) (hc0 : zcls a0 = 28) (ha1 : 0 ≤ a1 ∧ a1 ≤ 200)    (hRKNm0 : zR_KN m0) (hRLTm0 : zR_LT m0) (hRS1m0 : zE1 m0 1) (hRSEm0 : zE1 m0 0) : zw (zu_call (zt_T n) 159 [(40, a0), (0, a1)] m0) (fun v m => zi_I m ∧ zfr [(28, 54), (28, 64), (28, 65), (28, 66), (28, 67), (28, 68), (28, 69), (28, 70), (122, 0), (123, 0), (124, 0), (126, 0), (128, 0), (129, 0), (130, 0), (131, 0)] m0 m ∧ zR_KN m ∧ zR_LT m ∧ zE1 m 1 ∧ zE1 m 0 ∧ True ∧ (0 ≤ m a0 65 ∧ m a0 65 ≤ 0)) := by
  have hFm0 : zfr [(28, 54), (28, 64), (28, 65), (28, 66), (28, 67), (28, 68), (28, 69), (28, 70), (122, 0), (123, 0), (124, 0), (126, 0), (128, 0), (129, 0), (130, 0), (131, 0)] m0 m0 := zfr_rf _ _
  refine zw_eq (zu_call_at (zt_T n) (zm_159 n) (zdp_159 n) _ _ _ _ _ rfl (zr_159_0 n _ _ a0 a1 m0)) ?_
  refine zw_b (by omega) ?_
  generalize hmm9 : zu_up m0 a0 65 1 = m9
  have hIm9 := zi_up hmm9 hIm0 hc0 zb_28_65 (by omega) (by omega)
  have hFm9 := zfr_up hmm9 hFm0 hc0 rfl
  have hRKNm9 := zR_KN_fr (zdis_fr (zfr_up hmm9 (zfr_rf [(28, 66)] _) hc0 rfl) rfl) hRKNm0
  have hRLTm9 := zR_LT_fr (zdis_fr (zfr_up hmm9 (zfr_rf [(28, 66)] _) hc0 rfl) rfl) hRLTm0
  have hRS1m9 := zR_S1_fr (zdis_fr (zfr_up hmm9 (zfr_rf [(28, 66)] _) hc0 rfl) rfl) hRS1m0
  have hRSEm9 := zR_SE_fr (zdis_fr (zfr_up hmm9 (zfr_rf [(28, 66)] _) hc0 rfl) rfl) hRSEm0
  have r10 : 0 ≤ (m9 a0 65) ∧ (m9 a0 65) ≤ 1 := zi_rd hIm9 hc0 zb_28_65
  have e11 : (m9 a0 65) = 1 := (zs_eq hmm9)
  have hM : (200 - 0) * 1 + 0 < ((201 : Nat) : Int) := by omega
  exact (zl_159 n (m0 := m0) hc0 201) 0 m9 hIm9 hFm9 ⟨by omega, by omega⟩ ⟨by omega, by omega⟩ ⟨by omega, by omega⟩ hRKNm9 hRLTm9 hRS1m9 hRSEm9 hM

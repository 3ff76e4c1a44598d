set_option maxHeartbeats 4000000 in
theorem zk_161 (n : Nat) {a0 a1 a2 a3 a4 a5 : Int} {m0 : zu_m} (hIm0 : zi_I m0) (hc0 : zcls a0 = 28) (ha1 : (-2147483648) ≤ a1 ∧ a1 ≤ 2147483647) (ha2 : (-2147483648) ≤ a2 ∧ a2 ≤ 2147483647) (ha3 : (-2147483648) ≤ a3 ∧ a3 ≤ 2147483647) (ha4 : (-2147483648) ≤ a4 ∧ a4 ≤ 2147483647) (ha5 : (-2147483648) ≤ a5 ∧ a5 ≤ 2147483647)    (hRKNm0 : zR_KN m0) (hRLTm0 : zR_LT m0) (hRSEm0 : zE1 m0 0) : zw (zu_call (zt_T n) 161 [(40, a0), (0, a1), (0, a2), (0, a3), (0, a4), (0, a5)] m0) (fun v m => zi_I m ∧ zfr [(28, 3), (28, 54), (28, 64), (28, 65), (28, 66), (28, 67), (28, 68), (28, 69), (28, 70), (28, 72), (28, 73), (28, 74), (106, 0), (107, 0), (108, 0), (122, 0), (123, 0), (124, 0), (125, 2), (126, 0), (127, 0), (128, 0), (129, 0), (130, 0), (131, 0)] m0 m ∧ zR_KN m ∧ zR_LT m ∧ zE1 m 0 ∧ ((-2147483648) ≤ v ∧ v ≤ 2147483647) ∧ (0 ≤ m a0 2 ∧ m a0 2 ≤ 0)) := by
  have hFm0 : zfr [(28, 3), (28, 54), (28, 64), (28, 65), (28, 66), (28, 67), (28, 68), (28, 69), (28, 70), (28, 72), (28, 73), (28, 74), (106, 0), (107, 0), (108, 0), (122, 0), (123, 0), (124, 0), (125, 2), (126, 0), (127, 0), (128, 0), (129, 0), (130, 0), (131, 0)] m0 m0 := zfr_rf _ _
  refine zw_eq (zu_call_at (zt_T n) (zm_161 n) (zdp_161 n) _ _ _ _ _ rfl (zr_161_0 n _ _ a0 a1 a2 a3 a4 a5 m0)) ?_
  generalize hmm1 : zu_up m0 a0 2 0 = m1
  have hIm1 := zi_up hmm1 hIm0 hc0 zb_28_2 (by omega) (by omega)
  have hFm1 := zfr_up hmm1 hFm0 hc0 rfl
  have hRKNm1 := zR_KN_fr (zdis_fr (zfr_up hmm1 (zfr_rf [(28, 3)] _) hc0 rfl) rfl) hRKNm0
  have hRLTm1 := zR_LT_fr (zdis_fr (zfr_up hmm1 (zfr_rf [(28, 3)] _) hc0 rfl) rfl) hRLTm0
  have hRSEm1 := zR_SE_fr (zdis_fr (zfr_up hmm1 (zfr_rf [(28, 3)] _) hc0 rfl) rfl) hRSEm0
  refine zw_bd (zw_eq (zu_call_at (zt_T n) (zm_83 n) (zdp_83 n) _ _ _ _ _ rfl (zr_83_0 n _ _ a1 1 2 m1)) ?_)
  refine zw_ite (fun h2 => ?_) (fun h2 => ?_)
  · refine zw_b (by omega) ?_
    refine zw_some ?_
    refine zw_ite (fun h3 => ?_) (fun h3 => ?_)
    · have r4 : (-2147483648) ≤ (m1 a0 2) ∧ (m1 a0 2) ≤ 2147483647 := zi_rd hIm1 hc0 zb_28_2
      have e5 : (m1 a0 2) = 0 := (zs_eq hmm1)
      exact zw_some ⟨hIm1, hFm1, hRKNm1, hRLTm1, hRSEm1, ⟨by omega, by omega⟩, ⟨by omega, by omega⟩⟩
    · exfalso; omega
  · refine zw_ite (fun h6 => ?_) (fun h6 => ?_)
    · refine zw_b (by omega) ?_
      refine zw_some ?_
      refine zw_ite (fun h7 => ?_) (fun h7 => ?_)
      · have r8 : (-2147483648) ≤ (m1 a0 2) ∧ (m1 a0 2) ≤ 2147483647 := zi_rd hIm1 hc0 zb_28_2
        have e9 : (m1 a0 2) = 0 := (zs_eq hmm1)
        exact zw_some ⟨hIm1, hFm1, hRKNm1, hRLTm1, hRSEm1, ⟨by omega, by omega⟩, ⟨by omega, by omega⟩⟩
      · exfalso; omega
    · refine zw_b (by omega) ?_
      refine zw_some ?_
      refine zw_ite (fun h10 => ?_) (fun h10 => ?_)
      · exfalso; omega
      · refine zw_bd (zw_eq (zu_call_at (zt_T n) (zm_83 n) (zdp_83 n) _ _ _ _ _ rfl (zr_83_0 n _ _ a2 0 3 m1)) ?_)
        refine zw_ite (fun h11 => ?_) (fun h11 => ?_)
        · refine zw_b (by omega) ?_
          refine zw_some ?_
          refine zw_ite (fun h12 => ?_) (fun h12 => ?_)
          · have r13 : (-2147483648) ≤ (m1 a0 2) ∧ (m1 a0 2) ≤ 2147483647 := zi_rd hIm1 hc0 zb_28_2
            have e14 : (m1 a0 2) = 0 := (zs_eq hmm1)
            exact zw_some ⟨hIm1, hFm1, hRKNm1, hRLTm1, hRSEm1, ⟨by omega, by omega⟩, ⟨by omega, by omega⟩⟩
          · exfalso; omega
        · refine zw_ite (fun h15 => ?_) (fun h15 => ?_)
          · refine zw_b (by omega) ?_
            refine zw_some ?_
            refine zw_ite (fun h16 => ?_) (fun h16 => ?_)
            · have r17 : (-2147483648) ≤ (m1 a0 2) ∧ (m1 a0 2) ≤ 2147483647 := zi_rd hIm1 hc0 zb_28_2
              have e18 : (m1 a0 2) = 0 := (zs_eq hmm1)
              exact zw_some ⟨hIm1, hFm1, hRKNm1, hRLTm1, hRSEm1, ⟨by omega, by omega⟩, ⟨by omega, by omega⟩⟩
            · exfalso; omega
          · refine zw_b (by omega) ?_
            refine zw_some ?_
            refine zw_ite (fun h19 => ?_) (fun h19 => ?_)
            · exfalso; omega
            · refine zw_bd (zw_eq (zu_call_at (zt_T n) (zm_83 n) (zdp_83 n) _ _ _ _ _ rfl (zr_83_0 n _ _ a3 0 9 m1)) ?_)
              refine zw_ite (fun h20 => ?_) (fun h20 => ?_)
              · refine zw_b (by omega) ?_
                refine zw_some ?_
                refine zw_ite (fun h21 => ?_) (fun h21 => ?_)
                · have r22 : (-2147483648) ≤ (m1 a0 2) ∧ (m1 a0 2) ≤ 2147483647 := zi_rd hIm1 hc0 zb_28_2
                  have e23 : (m1 a0 2) = 0 := (zs_eq hmm1)
                  exact zw_some ⟨hIm1, hFm1, hRKNm1, hRLTm1, hRSEm1, ⟨by omega, by omega⟩, ⟨by omega, by omega⟩⟩
                · exfalso; omega
              · refine zw_ite (fun h24 => ?_) (fun h24 => ?_)
                · refine zw_b (by omega) ?_
                  refine zw_some ?_
                  refine zw_ite (fun h25 => ?_) (fun h25 => ?_)
                  · have r26 : (-2147483648) ≤ (m1 a0 2) ∧ (m1 a0 2) ≤ 2147483647 := zi_rd hIm1 hc0 zb_28_2
                    have e27 : (m1 a0 2) = 0 := (zs_eq hmm1)
                    exact zw_some ⟨hIm1, hFm1, hRKNm1, hRLTm1, hRSEm1, ⟨by omega, by omega⟩, ⟨by omega, by omega⟩⟩
                  · exfalso; omega
                · refine zw_b (by omega) ?_
                  refine zw_some ?_
                  refine zw_ite (fun h28 => ?_) (fun h28 => ?_)
                  · exfalso; omega
                  · refine zw_bd (zw_eq (zu_call_at (zt_T n) (zm_83 n) (zdp_83 n) _ _ _ _ _ rfl (zr_83_0 n _ _ a4 1 40 m1)) ?_)
                    refine zw_ite (fun h29 => ?_) (fun h29 => ?_)
                    · refine zw_b (by omega) ?_
                      refine zw_some ?_
                      refine zw_ite (fun h30 => ?_) (fun h30 => ?_)
                      · have r31 : (-2147483648) ≤ (m1 a0 2) ∧ (m1 a0 2) ≤ 2147483647 := zi_rd hIm1 hc0 zb_28_2
                        have e32 : (m1 a0 2) = 0 := (zs_eq hmm1)
                        exact zw_some ⟨hIm1, hFm1, hRKNm1, hRLTm1, hRSEm1, ⟨by omega, by omega⟩, ⟨by omega, by omega⟩⟩
                      · exfalso; omega
                    · refine zw_ite (fun h33 => ?_) (fun h33 => ?_)
                      · refine zw_b (by omega) ?_
                        refine zw_some ?_
                        refine zw_ite (fun h34 => ?_) (fun h34 => ?_)
                        · have r35 : (-2147483648) ≤ (m1 a0 2) ∧ (m1 a0 2) ≤ 2147483647 := zi_rd hIm1 hc0 zb_28_2
                          have e36 : (m1 a0 2) = 0 := (zs_eq hmm1)
                          exact zw_some ⟨hIm1, hFm1, hRKNm1, hRLTm1, hRSEm1, ⟨by omega, by omega⟩, ⟨by omega, by omega⟩⟩
                        · exfalso; omega
                      · refine zw_b (by omega) ?_
                        refine zw_some ?_
                        refine zw_ite (fun h37 => ?_) (fun h37 => ?_)
                        · exfalso; omega
                        · refine zw_bd (zw_eq (zu_call_at (zt_T n) (zm_83 n) (zdp_83 n) _ _ _ _ _ rfl (zr_83_0 n _ _ a5 0 2 m1)) ?_)
                          refine zw_ite (fun h38 => ?_) (fun h38 => ?_)
                          · refine zw_b (by omega) ?_
                            refine zw_some ?_
                            refine zw_ite (fun h39 => ?_) (fun h39 => ?_)
                            · have r40 : (-2147483648) ≤ (m1 a0 2) ∧ (m1 a0 2) ≤ 2147483647 := zi_rd hIm1 hc0 zb_28_2
                              have e41 : (m1 a0 2) = 0 := (zs_eq hmm1)
                              exact zw_some ⟨hIm1, hFm1, hRKNm1, hRLTm1, hRSEm1, ⟨by omega, by omega⟩, ⟨by omega, by omega⟩⟩
                            · exfalso; omega
                          · refine zw_ite (fun h42 => ?_) (fun h42 => ?_)
                            · refine zw_b (by omega) ?_
                              refine zw_some ?_
                              refine zw_ite (fun h43 => ?_) (fun h43 => ?_)
                              · have r44 : (-2147483648) ≤ (m1 a0 2) ∧ (m1 a0 2) ≤ 2147483647 := zi_rd hIm1 hc0 zb_28_2
                                have e45 : (m1 a0 2) = 0 := (zs_eq hmm1)
                                exact zw_some ⟨hIm1, hFm1, hRKNm1, hRLTm1, hRSEm1, ⟨by omega, by omega⟩, ⟨by omega, by omega⟩⟩
                              · exfalso; omega
                            · refine zw_b (by omega) ?_
                              refine zw_some ?_
                              refine zw_ite (fun h46 => ?_) (fun h46 => ?_)
                              · exfalso; omega
                              · have r47 : 0 ≤ (m1 a0 15) ∧ (m1 a0 15) ≤ 4 := zi_rd hIm1 hc0 zb_28_15
                                refine zw_ite (fun h48 => ?_) (fun h48 => ?_)
                                · refine zw_bd (zw_eq (zu_call_at (zt_T n) (zm_36 n) (zdp_36 n) _ _ _ _ _ rfl (zr_36_0 n _ _ a0 m1)) ?_)
                                  have r49 : 1 ≤ (m1 a0 12) ∧ (m1 a0 12) ≤ 8 := zi_rd hIm1 hc0 zb_28_12
                                  have r50 : 1 ≤ (m1 a0 13) ∧ (m1 a0 13) ≤ 6 := zi_rd hIm1 hc0 zb_28_13
                                  have p51 := zmul_bd (x := (m1 a0 12)) (y := (m1 a0 13)) (a := 1) (b := 1) (A := 8) (B := 6) (by omega) (by omega) (by omega) (by omega) (by omega) (by omega)
                                  have w52 := zu_w32_id (z := (m1 a0 12) * (m1 a0 13)) (by omega) (by omega)
                                  refine zw_some ?_
                                  refine zw_ite (fun h53 => ?_) (fun h53 => ?_)
                                  · refine zw_ite (fun h54 => ?_) (fun h54 => ?_)
                                    · refine zw_bd (zw_mono (zk_160 n hIm1 hc0 ⟨by omega, by omega⟩ ⟨by omega, by omega⟩ ⟨by omega, by omega⟩ ⟨by omega, by omega⟩ hRKNm1 hRLTm1 hRSEm1) (fun v56 m55 hqm55 => ?_))
                                      obtain ⟨hIm55, hfm55, hvm55⟩ := hqm55
                                      have hFm55 := zfr_tr hFm1 hfm55 rfl
                                      obtain ⟨hRKNm55, hRLTm55, hRSEm55, hvm55⟩ := hvm55
                                      refine zw_ite (fun h57 => ?_) (fun h57 => ?_)
                                      · refine zw_ite (fun h58 => ?_) (fun h58 => ?_)
                                        · have r59 : (-2147483648) ≤ (m55 a0 73) ∧ (m55 a0 73) ≤ 2147483647 := zi_rd hIm55 hc0 zb_28_73
                                          have r60 : (-2147483648) ≤ (m55 a0 2) ∧ (m55 a0 2) ≤ 2147483647 := zi_rd hIm55 hc0 zb_28_2
                                          have e61 : (m55 a0 2) = 0 := (Eq.trans (zfr_ap hfm55 hc0 rfl) (zs_eq hmm1))
                                          exact zw_some ⟨hIm55, hFm55, hRKNm55, hRLTm55, hRSEm55, ⟨by omega, by omega⟩, ⟨by omega, by omega⟩⟩
                                        · have r62 : (-2147483648) ≤ (m55 a0 72) ∧ (m55 a0 72) ≤ 2147483647 := zi_rd hIm55 hc0 zb_28_72
                                          have r63 : (-2147483648) ≤ (m55 a0 2) ∧ (m55 a0 2) ≤ 2147483647 := zi_rd hIm55 hc0 zb_28_2
                                          have e64 : (m55 a0 2) = 0 := (Eq.trans (zfr_ap hfm55 hc0 rfl) (zs_eq hmm1))
                                          exact zw_some ⟨hIm55, hFm55, hRKNm55, hRLTm55, hRSEm55, ⟨by omega, by omega⟩, ⟨by omega, by omega⟩⟩
                                      · have r65 : (-2147483648) ≤ (m55 a0 71) ∧ (m55 a0 71) ≤ 2147483647 := zi_rd hIm55 hc0 zb_28_71
                                        have r66 : (-2147483648) ≤ (m55 a0 2) ∧ (m55 a0 2) ≤ 2147483647 := zi_rd hIm55 hc0 zb_28_2
                                        have e67 : (m55 a0 2) = 0 := (Eq.trans (zfr_ap hfm55 hc0 rfl) (zs_eq hmm1))
                                        exact zw_some ⟨hIm55, hFm55, hRKNm55, hRLTm55, hRSEm55, ⟨by omega, by omega⟩, ⟨by omega, by omega⟩⟩
                                    · have r68 : (-2147483648) ≤ (m1 a0 2) ∧ (m1 a0 2) ≤ 2147483647 := zi_rd hIm1 hc0 zb_28_2
                                      have e69 : (m1 a0 2) = 0 := (zs_eq hmm1)
                                      exact zw_some ⟨hIm1, hFm1, hRKNm1, hRLTm1, hRSEm1, ⟨by omega, by omega⟩, ⟨by omega, by omega⟩⟩
                                  · have r70 : (-2147483648) ≤ (m1 a0 2) ∧ (m1 a0 2) ≤ 2147483647 := zi_rd hIm1 hc0 zb_28_2
                                    have e71 : (m1 a0 2) = 0 := (zs_eq hmm1)
                                    exact zw_some ⟨hIm1, hFm1, hRKNm1, hRLTm1, hRSEm1, ⟨by omega, by omega⟩, ⟨by omega, by omega⟩⟩
                                · have r72 : (-2147483648) ≤ (m1 a0 2) ∧ (m1 a0 2) ≤ 2147483647 := zi_rd hIm1 hc0 zb_28_2
                                  have e73 : (m1 a0 2) = 0 := (zs_eq hmm1)
                                  exact zw_some ⟨hIm1, hFm1, hRKNm1, hRLTm1, hRSEm1, ⟨by omega, by omega⟩, ⟨by omega, by omega⟩⟩
set_option maxHeartbeats 4000000 in
theorem zk_164 (n : Nat) {a0 a1 a2 : Int} {m0 : zu_m} (hIm0 : zi_I m0) (hc0 : zcls a0 = 28) (ha1 : (-2147483648) ≤ a1 ∧ a1 ≤ 2147483647) (ha2 : (-2147483648) ≤ a2 ∧ a2 ≤ 2147483647)    (hRKNm0 : zR_KN m0) (hRLTm0 : zR_LT m0) (hRSEm0 : zE1 m0 0) : zw (zu_call (zt_T n) 164 [(40, a0), (0, a1), (0, a2)] m0) (fun v m => zi_I m ∧ zfr [(28, 3), (28, 54), (28, 64), (28, 65), (28, 66), (28, 67), (28, 68), (28, 69), (28, 70), (122, 0), (123, 0), (124, 0), (125, 2), (126, 0), (127, 0), (128, 0), (129, 0), (130, 0), (131, 0)] m0 m ∧ zR_KN m ∧ zR_LT m ∧ zE1 m 0 ∧ ((-2147483648) ≤ v ∧ v ≤ 2147483647) ∧ (0 ≤ m a0 2 ∧ m a0 2 ≤ 0)) := by
  have hFm0 : zfr [(28, 3), (28, 54), (28, 64), (28, 65), (28, 66), (28, 67), (28, 68), (28, 69), (28, 70), (122, 0), (123, 0), (124, 0), (125, 2), (126, 0), (127, 0), (128, 0), (129, 0), (130, 0), (131, 0)] m0 m0 := zfr_rf _ _
  refine zw_eq (zu_call_at (zt_T n) (zm_164 n) (zdp_164 n) _ _ _ _ _ rfl (zr_164_0 n _ _ a0 a1 a2 m0)) ?_
  generalize hmm1 : zu_up m0 a0 2 0 = m1
  have hIm1 := zi_up hmm1 hIm0 hc0 zb_28_2 (by omega) (by omega)
  have hFm1 := zfr_up hmm1 hFm0 hc0 rfl
  have hRKNm1 := zR_KN_fr (zdis_fr (zfr_up hmm1 (zfr_rf [(28, 3)] _) hc0 rfl) rfl) hRKNm0
  have hRLTm1 := zR_LT_fr (zdis_fr (zfr_up hmm1 (zfr_rf [(28, 3)] _) hc0 rfl) rfl) hRLTm0
  have hRSEm1 := zR_SE_fr (zdis_fr (zfr_up hmm1 (zfr_rf [(28, 3)] _) hc0 rfl) rfl) hRSEm0
  refine zw_bd (zw_eq (zu_call_at (zt_T n) (zm_83 n) (zdp_83 n) _ _ _ _ _ rfl (zr_83_0 n _ _ a1 0 2 m1)) ?_)
  refine zw_ite (fun h2 => ?_) (fun h2 => ?_)
  · refine zw_b (by omega) ?_
    refine zw_some ?_
    refine zw_ite (fun h3 => ?_) (fun h3 => ?_)
    · have r4 : (-2147483648) ≤ (m1 a0 2) ∧ (m1 a0 2) ≤ 2147483647 := zi_rd hIm1 hc0 zb_28_2
      have e5 : (m1 a0 2) = 0 := (zs_eq hmm1)
      exact zw_some ⟨hIm1, hFm1, hRKNm1, hRLTm1, hRSEm1, ⟨by omega, by omega⟩, ⟨by omega, by omega⟩⟩
    · exfalso; omega
  · refine zw_ite (fun h6 => ?_) (fun h6 => ?_)
    · refine zw_b (by omega) ?_
      refine zw_some ?_
      refine zw_ite (fun h7 => ?_) (fun h7 => ?_)
      · have r8 : (-2147483648) ≤ (m1 a0 2) ∧ (m1 a0 2) ≤ 2147483647 := zi_rd hIm1 hc0 zb_28_2
        have e9 : (m1 a0 2) = 0 := (zs_eq hmm1)
        exact zw_some ⟨hIm1, hFm1, hRKNm1, hRLTm1, hRSEm1, ⟨by omega, by omega⟩, ⟨by omega, by omega⟩⟩
      · exfalso; omega
    · refine zw_b (by omega) ?_
      refine zw_some ?_
      refine zw_ite (fun h10 => ?_) (fun h10 => ?_)
      · exfalso; omega
      · refine zw_bd (zw_eq (zu_call_at (zt_T n) (zm_83 n) (zdp_83 n) _ _ _ _ _ rfl (zr_83_0 n _ _ a2 1 200 m1)) ?_)
        refine zw_ite (fun h11 => ?_) (fun h11 => ?_)
        · refine zw_b (by omega) ?_
          refine zw_some ?_
          refine zw_ite (fun h12 => ?_) (fun h12 => ?_)
          · have r13 : (-2147483648) ≤ (m1 a0 2) ∧ (m1 a0 2) ≤ 2147483647 := zi_rd hIm1 hc0 zb_28_2
            have e14 : (m1 a0 2) = 0 := (zs_eq hmm1)
            exact zw_some ⟨hIm1, hFm1, hRKNm1, hRLTm1, hRSEm1, ⟨by omega, by omega⟩, ⟨by omega, by omega⟩⟩
          · exfalso; omega
        · refine zw_ite (fun h15 => ?_) (fun h15 => ?_)
          · refine zw_b (by omega) ?_
            refine zw_some ?_
            refine zw_ite (fun h16 => ?_) (fun h16 => ?_)
            · have r17 : (-2147483648) ≤ (m1 a0 2) ∧ (m1 a0 2) ≤ 2147483647 := zi_rd hIm1 hc0 zb_28_2
              have e18 : (m1 a0 2) = 0 := (zs_eq hmm1)
              exact zw_some ⟨hIm1, hFm1, hRKNm1, hRLTm1, hRSEm1, ⟨by omega, by omega⟩, ⟨by omega, by omega⟩⟩
            · exfalso; omega
          · refine zw_b (by omega) ?_
            refine zw_some ?_
            refine zw_ite (fun h19 => ?_) (fun h19 => ?_)
            · exfalso; omega
            · refine zw_bd (zw_mono (zk_163 n hIm1 hc0 ⟨by omega, by omega⟩ ⟨by omega, by omega⟩ hRKNm1 hRLTm1 hRSEm1) (fun v21 m20 hqm20 => ?_))
              obtain ⟨hIm20, hfm20, hvm20⟩ := hqm20
              have hFm20 := zfr_tr hFm1 hfm20 rfl
              obtain ⟨hRKNm20, hRLTm20, hRS1m20, hRSEm20, hvm20⟩ := hvm20
              have r22 : (-2147483648) ≤ (m20 a0 2) ∧ (m20 a0 2) ≤ 2147483647 := zi_rd hIm20 hc0 zb_28_2
              have e23 : (m20 a0 2) = 0 := (Eq.trans (zfr_ap hfm20 hc0 rfl) (zs_eq hmm1))
              exact zw_some ⟨hIm20, hFm20, hRKNm20, hRLTm20, hRSEm20, ⟨by omega, by omega⟩, ⟨by omega, by omega⟩⟩
set_option maxHeartbeats 4000000 in
theorem zl_165 (n : Nat) {a0 a1 : Int} {m0 : zu_m} (hc0 : zcls a0 = 28)   : ∀ k : Nat, (∀ (x2 x3 : Int) (mh : zu_m), zi_I mh → zfr [(28, 3), (28, 54), (28, 64), (28, 65), (28, 66), (28, 67), (28, 68), (28, 69), (28, 70), (122, 0), (123, 0), (124, 0), (125, 2), (126, 0), (127, 0), (128, 0), (129, 0), (130, 0), (131, 0)] m0 mh → (1 ≤ a1 ∧ a1 ≤ 200) → (0 ≤ x2 ∧ x2 ≤ 2) → (1 ≤ x3 ∧ x3 ≤ 3) → (0 ≤ mh a0 2 ∧ mh a0 2 ≤ 0) → (zR_KN mh) → (zR_LT mh) → (zE1 mh 0) → (3 - x3) * 1 + 0 < (k : Int) → zw (zu_ex (zt_T n) 165 22 [(40, a0), (0, a1), (0, x2), (0, x3)] [] mh) (fun v m => zi_I m ∧ zfr [(28, 3), (28, 54), (28, 64), (28, 65), (28, 66), (28, 67), (28, 68), (28, 69), (28, 70), (122, 0), (123, 0), (124, 0), (125, 2), (126, 0), (127, 0), (128, 0), (129, 0), (130, 0), (131, 0)] m0 m ∧ zR_KN m ∧ zR_LT m ∧ zE1 m 0 ∧ ((-1) ≤ v ∧ v ≤ 2) ∧ (0 ≤ m a0 2 ∧ m a0 2 ≤ 0))) := by
  intro k
  induction k with
  | zero => exact fun x2 x3 mh hImh hFmh hba1 hbx2 hbx3 hg3 hRKNmh hRLTmh hRSEmh hM => by exfalso; omega
  | succ k ih =>
    intro x2 x3 mh hImh hFmh hba1 hbx2 hbx3 hg3 hRKNmh hRLTmh hRSEmh hM
    refine zw_eq (zu_rega_at (zt_T n) (zm_165 n) (zdp_165 n) _ _ _ _ _ _ (zr_165_22 n _ _ a0 a1 x2 x3 mh)) ?_
    refine zw_ite (fun h1 => ?_) (fun h1 => ?_)
    · exact zw_some ⟨hImh, hFmh, hRKNmh, hRLTmh, hRSEmh, ⟨by omega, by omega⟩, ⟨by omega, by omega⟩⟩
    · refine zw_bd (zw_mono (zk_163 n hImh hc0 ⟨by omega, by omega⟩ ⟨by omega, by omega⟩ hRKNmh hRLTmh hRSEmh) (fun v3 m2 hqm2 => ?_))
      obtain ⟨hIm2, hfm2, hvm2⟩ := hqm2
      have hFm2 := zfr_tr hFmh hfm2 rfl
      obtain ⟨hRKNm2, hRLTm2, hRS1m2, hRSEm2, hvm2⟩ := hvm2
      refine zw_bd (zw_mono (zk_163 n hIm2 hc0 ⟨by omega, by omega⟩ ⟨by omega, by omega⟩ hRKNm2 hRLTm2 hRSEm2) (fun v5 m4 hqm4 => ?_))
      obtain ⟨hIm4, hfm4, hvm4⟩ := hqm4
      have hFm4 := zfr_tr hFm2 hfm4 rfl
      obtain ⟨hRKNm4, hRLTm4, hRS1m4, hRSEm4, hvm4⟩ := hvm4
      refine zw_ite (fun h6 => ?_) (fun h6 => ?_)
      · have w7 := zu_w32_id (z := x3 + 1) (by omega) (by omega)
        have r8 : (-2147483648) ≤ (m4 a0 2) ∧ (m4 a0 2) ≤ 2147483647 := zi_rd hIm4 hc0 zb_28_2
        have e9 : (m4 a0 2) = (mh a0 2) := (Eq.trans (zfr_ap hfm4 hc0 rfl) (zfr_ap hfm2 hc0 rfl))
        have hM : (3 - (zu_w32 (x3 + 1))) * 1 + 0 < (k : Int) := by omega
        exact ih x2 (zu_w32 (x3 + 1)) m4 hIm4 hFm4 ⟨by omega, by omega⟩ ⟨by omega, by omega⟩ ⟨by omega, by omega⟩ ⟨by omega, by omega⟩ hRKNm4 hRLTm4 hRSEm4 hM
      · have w10 := zu_w32_id (z := x3 + 1) (by omega) (by omega)
        have r11 : (-2147483648) ≤ (m4 a0 2) ∧ (m4 a0 2) ≤ 2147483647 := zi_rd hIm4 hc0 zb_28_2
        have e12 : (m4 a0 2) = (mh a0 2) := (Eq.trans (zfr_ap hfm4 hc0 rfl) (zfr_ap hfm2 hc0 rfl))
        have hM : (3 - (zu_w32 (x3 + 1))) * 1 + 0 < (k : Int) := by omega
        exact ih x3 (zu_w32 (x3 + 1)) m4 hIm4 hFm4 ⟨by omega, by omega⟩ ⟨by omega, by omega⟩ ⟨by omega, by omega⟩ ⟨by omega, by omega⟩ hRKNm4 hRLTm4 hRSEm4 hM
set_option maxHeartbeats 4000000 in
theorem zk_165 (n : Nat) {a0 a1 : Int} {m0 : zu_m} (hIm0 : zi_I m0) (hc0 : zcls a0 = 28) (ha1 : (-2147483648) ≤ a1 ∧ a1 ≤ 2147483647)    (hRKNm0 : zR_KN m0) (hRLTm0 : zR_LT m0) (hRSEm0 : zE1 m0 0) : zw (zu_call (zt_T n) 165 [(40, a0), (0, a1)] m0) (fun v m => zi_I m ∧ zfr [(28, 3), (28, 54), (28, 64), (28, 65), (28, 66), (28, 67), (28, 68), (28, 69), (28, 70), (122, 0), (123, 0), (124, 0), (125, 2), (126, 0), (127, 0), (128, 0), (129, 0), (130, 0), (131, 0)] m0 m ∧ zR_KN m ∧ zR_LT m ∧ zE1 m 0 ∧ ((-1) ≤ v ∧ v ≤ 2) ∧ (0 ≤ m a0 2 ∧ m a0 2 ≤ 0)) := by
  have hFm0 : zfr [(28, 3), (28, 54), (28, 64), (28, 65), (28, 66), (28, 67), (28, 68), (28, 69), (28, 70), (122, 0), (123, 0), (124, 0), (125, 2), (126, 0), (127, 0), (128, 0), (129, 0), (130, 0), (131, 0)] m0 m0 := zfr_rf _ _
  refine zw_eq (zu_call_at (zt_T n) (zm_165 n) (zdp_165 n) _ _ _ _ _ rfl (zr_165_0 n _ _ a0 a1 m0)) ?_
  generalize hmm13 : zu_up m0 a0 2 0 = m13
  have hIm13 := zi_up hmm13 hIm0 hc0 zb_28_2 (by omega) (by omega)
  have hFm13 := zfr_up hmm13 hFm0 hc0 rfl
  have hRKNm13 := zR_KN_fr (zdis_fr (zfr_up hmm13 (zfr_rf [(28, 3)] _) hc0 rfl) rfl) hRKNm0
  have hRLTm13 := zR_LT_fr (zdis_fr (zfr_up hmm13 (zfr_rf [(28, 3)] _) hc0 rfl) rfl) hRLTm0
  have hRSEm13 := zR_SE_fr (zdis_fr (zfr_up hmm13 (zfr_rf [(28, 3)] _) hc0 rfl) rfl) hRSEm0
  refine zw_bd (zw_eq (zu_call_at (zt_T n) (zm_83 n) (zdp_83 n) _ _ _ _ _ rfl (zr_83_0 n _ _ a1 1 200 m13)) ?_)
  refine zw_ite (fun h14 => ?_) (fun h14 => ?_)
  · refine zw_b (by omega) ?_
    refine zw_some ?_
    refine zw_ite (fun h15 => ?_) (fun h15 => ?_)
    · exfalso; omega
    · have r16 : (-2147483648) ≤ (m13 a0 2) ∧ (m13 a0 2) ≤ 2147483647 := zi_rd hIm13 hc0 zb_28_2
      have e17 : (m13 a0 2) = 0 := (zs_eq hmm13)
      exact zw_some ⟨hIm13, hFm13, hRKNm13, hRLTm13, hRSEm13, ⟨by omega, by omega⟩, ⟨by omega, by omega⟩⟩
  · refine zw_ite (fun h18 => ?_) (fun h18 => ?_)
    · refine zw_b (by omega) ?_
      refine zw_some ?_
      refine zw_ite (fun h19 => ?_) (fun h19 => ?_)
      · exfalso; omega
      · have r20 : (-2147483648) ≤ (m13 a0 2) ∧ (m13 a0 2) ≤ 2147483647 := zi_rd hIm13 hc0 zb_28_2
        have e21 : (m13 a0 2) = 0 := (zs_eq hmm13)
        exact zw_some ⟨hIm13, hFm13, hRKNm13, hRLTm13, hRSEm13, ⟨by omega, by omega⟩, ⟨by omega, by omega⟩⟩
    · refine zw_b (by omega) ?_
      refine zw_some ?_
      refine zw_ite (fun h22 => ?_) (fun h22 => ?_)
      · have r23 : (-2147483648) ≤ (m13 a0 2) ∧ (m13 a0 2) ≤ 2147483647 := zi_rd hIm13 hc0 zb_28_2
        have e24 : (m13 a0 2) = 0 := (zs_eq hmm13)
        have hM : (3 - 1) * 1 + 0 < ((3 : Nat) : Int) := by omega
        exact (zl_165 n (m0 := m0) hc0 3) 0 1 m13 hIm13 hFm13 ⟨by omega, by omega⟩ ⟨by omega, by omega⟩ ⟨by omega, by omega⟩ ⟨by omega, by omega⟩ hRKNm13 hRLTm13 hRSEm13 hM
      · exfalso; omega

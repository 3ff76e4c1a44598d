set_option maxHeartbeats 4000000 in
theorem zk_266 (n : Nat) {a0 : Int} {m0 : zu_m} (hIm0 : zi_I m0) (hc0 : zcls a0 = 3)   (he0 : 1 ≤ m0 45 4 ∧ m0 45 4 ≤ 1) (he1 : 4 ≤ m0 45 5 ∧ m0 45 5 ≤ 4)  (hRCTm0 : (m0 5 6 = 0 → m0 19 4 = 0)) : zw (zu_call (zt_T n) 266 [(7, a0)] m0) (fun v m => zi_I m ∧ zfr [(3, 7), (3, 8), (3, 9), (3, 10), (3, 11), (6, 3), (7, 1), (7, 2), (7, 3), (7, 4), (9, 4), (9, 5), (9, 6), (9, 7)] m0 m ∧ (m 5 6 = 0 → m 19 4 = 0) ∧ (0 ≤ v ∧ v ≤ 1)) := by
  have hFm0 : zfr [(3, 7), (3, 8), (3, 9), (3, 10), (3, 11), (6, 3), (7, 1), (7, 2), (7, 3), (7, 4), (9, 4), (9, 5), (9, 6), (9, 7)] m0 m0 := zfr_rf _ _
  refine zw_eq (zu_call_at (zt_T n) (zm_266 n) (zdp_266 n) _ _ _ _ _ rfl (zr_266_0 n _ _ a0 m0)) ?_
  have r1 : 0 ≤ (m0 19 2) ∧ (m0 19 2) ≤ 16 := zi_rd hIm0 zq_19 zb_6_2
  refine zw_ite (fun h2 => ?_) (fun h2 => ?_)
  · refine zw_bd (zw_eq (zu_call_at (zt_T n) (zm_261 n) (zdp_261 n) _ _ _ _ _ rfl (zr_261_0 n _ _ a0 12 4 m0)) ?_)
    refine zw_bd (zw_mono (zk_18 n hIm0 zq_45) (fun v4 m3 hqm3 => ?_))
    obtain ⟨hIm3, hfm3, hvm3⟩ := hqm3
    have hFm3 := zfr_tr hFm0 hfm3 rfl
    obtain ⟨hRTVm3, hvm3⟩ := hvm3
    have hRCTm3 := zR_CT_fr (zdis_fr hfm3 rfl) hRCTm0
    have s5 := hRTVm3 45 zq_45
    refine zw_bd (zw_eq (zu_call_at (zt_T n) (zm_279 n) (zdp_279 n) _ _ _ _ _ rfl (zr_279_0 n _ _ 45 12 4 m3)) ?_)
    have r6 : 0 ≤ (m3 45 4) ∧ (m3 45 4) ≤ 5 := zi_rd hIm3 zq_45 zb_9_4
    refine zw_ite (fun h7 => ?_) (fun h7 => ?_)
    · refine zw_b (by omega) ?_
      refine zw_some ?_
      refine zw_ite (fun h8 => ?_) (fun h8 => ?_)
      · exfalso; omega
      · refine zw_bd (zw_eq (zu_call_at (zt_T n) (zm_257 n) (zdp_257 n) _ _ _ _ _ rfl (zr_257_0 n _ _ a0 1 m3)) ?_)
        generalize hmm9 : zu_up m3 a0 9 1 = m9
        have hIm9 := zi_up hmm9 hIm3 hc0 zb_3_9 (by omega) (by omega)
        have hFm9 := zfr_up hmm9 hFm3 hc0 rfl
        have hRCTm9 := zR_CT_fr (zdis_fr (zfr_up hmm9 (zfr_rf [(3, 10)] _) hc0 rfl) rfl) hRCTm3
        have hRTVm9 := zR_TV_fr (zdis_fr (zfr_up hmm9 (zfr_rf [(3, 10)] _) hc0 rfl) rfl) hRTVm3
        have r10 : 0 ≤ (m9 45 6) ∧ (m9 45 6) ≤ 700 := zi_rd hIm9 zq_45 zb_9_6
        generalize hmm11 : zu_up m9 a0 10 (m9 45 6) = m11
        have hIm11 := zi_up hmm11 hIm9 hc0 zb_3_10 (by omega) (by omega)
        have hFm11 := zfr_up hmm11 hFm9 hc0 rfl
        have hRCTm11 := zR_CT_fr (zdis_fr (zfr_up hmm11 (zfr_rf [(3, 11)] _) hc0 rfl) rfl) hRCTm9
        have hRTVm11 := zR_TV_fr (zdis_fr (zfr_up hmm11 (zfr_rf [(3, 11)] _) hc0 rfl) rfl) hRTVm9
        refine zw_b (by omega) ?_
        refine zw_some ?_
        refine zw_b (by omega) ?_
        refine zw_some ?_
        refine zw_ite (fun h12 => ?_) (fun h12 => ?_)
        · exfalso; omega
        · refine zw_b (by omega) ?_
          exact zw_some ⟨hIm11, hFm11, hRCTm11, ⟨by decide, by decide⟩⟩
    · have r13 : (-2147483648) ≤ (m3 45 5) ∧ (m3 45 5) ≤ 2147483647 := zi_rd hIm3 zq_45 zb_9_5
      refine zw_ite (fun h14 => ?_) (fun h14 => ?_)
      · refine zw_b (by omega) ?_
        refine zw_some ?_
        refine zw_ite (fun h15 => ?_) (fun h15 => ?_)
        · exfalso; omega
        · refine zw_bd (zw_eq (zu_call_at (zt_T n) (zm_257 n) (zdp_257 n) _ _ _ _ _ rfl (zr_257_0 n _ _ a0 1 m3)) ?_)
          generalize hmm16 : zu_up m3 a0 9 1 = m16
          have hIm16 := zi_up hmm16 hIm3 hc0 zb_3_9 (by omega) (by omega)
          have hFm16 := zfr_up hmm16 hFm3 hc0 rfl
          have hRCTm16 := zR_CT_fr (zdis_fr (zfr_up hmm16 (zfr_rf [(3, 10)] _) hc0 rfl) rfl) hRCTm3
          have hRTVm16 := zR_TV_fr (zdis_fr (zfr_up hmm16 (zfr_rf [(3, 10)] _) hc0 rfl) rfl) hRTVm3
          have r17 : 0 ≤ (m16 45 6) ∧ (m16 45 6) ≤ 700 := zi_rd hIm16 zq_45 zb_9_6
          generalize hmm18 : zu_up m16 a0 10 (m16 45 6) = m18
          have hIm18 := zi_up hmm18 hIm16 hc0 zb_3_10 (by omega) (by omega)
          have hFm18 := zfr_up hmm18 hFm16 hc0 rfl
          have hRCTm18 := zR_CT_fr (zdis_fr (zfr_up hmm18 (zfr_rf [(3, 11)] _) hc0 rfl) rfl) hRCTm16
          have hRTVm18 := zR_TV_fr (zdis_fr (zfr_up hmm18 (zfr_rf [(3, 11)] _) hc0 rfl) rfl) hRTVm16
          refine zw_b (by omega) ?_
          refine zw_some ?_
          refine zw_b (by omega) ?_
          refine zw_some ?_
          refine zw_ite (fun h19 => ?_) (fun h19 => ?_)
          · exfalso; omega
          · refine zw_b (by omega) ?_
            exact zw_some ⟨hIm18, hFm18, hRCTm18, ⟨by decide, by decide⟩⟩
      · have w20 := zu_w32_id (z := 12 + 4) (by omega) (by omega)
        refine zw_ite (fun h21 => ?_) (fun h21 => ?_)
        · refine zw_b (by omega) ?_
          refine zw_some ?_
          refine zw_ite (fun h22 => ?_) (fun h22 => ?_)
          · exfalso; omega
          · refine zw_bd (zw_eq (zu_call_at (zt_T n) (zm_257 n) (zdp_257 n) _ _ _ _ _ rfl (zr_257_0 n _ _ a0 1 m3)) ?_)
            generalize hmm23 : zu_up m3 a0 9 1 = m23
            have hIm23 := zi_up hmm23 hIm3 hc0 zb_3_9 (by omega) (by omega)
            have hFm23 := zfr_up hmm23 hFm3 hc0 rfl
            have hRCTm23 := zR_CT_fr (zdis_fr (zfr_up hmm23 (zfr_rf [(3, 10)] _) hc0 rfl) rfl) hRCTm3
            have hRTVm23 := zR_TV_fr (zdis_fr (zfr_up hmm23 (zfr_rf [(3, 10)] _) hc0 rfl) rfl) hRTVm3
            have r24 : 0 ≤ (m23 45 6) ∧ (m23 45 6) ≤ 700 := zi_rd hIm23 zq_45 zb_9_6
            generalize hmm25 : zu_up m23 a0 10 (m23 45 6) = m25
            have hIm25 := zi_up hmm25 hIm23 hc0 zb_3_10 (by omega) (by omega)
            have hFm25 := zfr_up hmm25 hFm23 hc0 rfl
            have hRCTm25 := zR_CT_fr (zdis_fr (zfr_up hmm25 (zfr_rf [(3, 11)] _) hc0 rfl) rfl) hRCTm23
            have hRTVm25 := zR_TV_fr (zdis_fr (zfr_up hmm25 (zfr_rf [(3, 11)] _) hc0 rfl) rfl) hRTVm23
            refine zw_b (by omega) ?_
            refine zw_some ?_
            refine zw_b (by omega) ?_
            refine zw_some ?_
            refine zw_ite (fun h26 => ?_) (fun h26 => ?_)
            · exfalso; omega
            · refine zw_b (by omega) ?_
              exact zw_some ⟨hIm25, hFm25, hRCTm25, ⟨by decide, by decide⟩⟩
        · refine zw_b (by omega) ?_
          refine zw_some ?_
          refine zw_ite (fun h27 => ?_) (fun h27 => ?_)
          · have w28 := zu_w32_id (z := (m3 45 5) - 12) (by omega) (by omega)
            generalize hmm29 : zu_up m3 a0 7 (zu_w32 ((m3 45 5) - 12)) = m29
            have hIm29 := zi_up hmm29 hIm3 hc0 zb_3_7 (by omega) (by omega)
            have hFm29 := zfr_up hmm29 hFm3 hc0 rfl
            have hRCTm29 := zR_CT_fr (zdis_fr (zfr_up hmm29 (zfr_rf [(3, 8)] _) hc0 rfl) rfl) hRCTm3
            have hRTVm29 := zR_TV_fr (zdis_fr (zfr_up hmm29 (zfr_rf [(3, 8)] _) hc0 rfl) rfl) hRTVm3
            refine zw_b (by omega) ?_
            refine zw_some ?_
            refine zw_ite (fun h30 => ?_) (fun h30 => ?_)
            · have r31 : (-2147483648) ≤ (m29 a0 7) ∧ (m29 a0 7) ≤ 2147483647 := zi_rd hIm29 hc0 zb_3_7
              have e32 : (m29 a0 7) = (zu_w32 ((m3 45 5) - 12)) := (zs_eq hmm29)
              refine zw_bd (zw_eq (zu_call_at (zt_T n) (zm_262 n) (zdp_262 n) _ _ _ _ _ rfl (zr_262_0 n _ _ a0 m29)) ?_)
              refine zw_b (by omega) ?_
              generalize hmm33 : zu_up m29 a0 6 1 = m33
              have hIm33 := zi_up hmm33 hIm29 hc0 zb_3_6 (by omega) (by omega)
              have hFm33 := zfr_up hmm33 hFm29 hc0 rfl
              have hRTVm33 := zR_TV_fr (zdis_fr (zfr_up hmm33 (zfr_rf [(3, 7)] _) hc0 rfl) rfl) hRTVm29
              have hRCTm33 := zCT_t (zone_5 hc0) hmm33 rfl
              have r34 : 1 ≤ (m33 6 0) ∧ (m33 6 0) ≤ 8 := zi_rd hIm33 zq_6 zb_4_0
              have w35 := zu_w32_id (z := (m33 6 0) - 1) (by omega) (by omega)
              refine zw_bd (zw_eq (zu_call_at (zt_T n) (zm_260 n) (zdp_260 n) _ _ _ _ _ rfl (zr_260_0 n _ _ a0 0 (zu_w32 ((m33 6 0) - 1)) m33)) ?_)
              refine zw_bd (zw_mono (zk_18 n hIm33 zq_45) (fun v37 m36 hqm36 => ?_))
              obtain ⟨hIm36, hfm36, hvm36⟩ := hqm36
              have hFm36 := zfr_tr hFm33 hfm36 rfl
              obtain ⟨hRTVm36, hvm36⟩ := hvm36
              have hRCTm36 := zR_CT_fr (zdis_fr hfm36 rfl) hRCTm33
              have s38 := hRTVm36 45 zq_45
              have r39 : 0 ≤ (m36 45 4) ∧ (m36 45 4) ≤ 5 := zi_rd hIm36 zq_45 zb_9_4
              refine zw_ite (fun h40 => ?_) (fun h40 => ?_)
              · have r41 : (-2147483648) ≤ (m36 45 5) ∧ (m36 45 5) ≤ 2147483647 := zi_rd hIm36 zq_45 zb_9_5
                generalize hmm42 : zu_up m36 a0 7 (m36 45 5) = m42
                have hIm42 := zi_up hmm42 hIm36 hc0 zb_3_7 (by omega) (by omega)
                have hFm42 := zfr_up hmm42 hFm36 hc0 rfl
                have hRCTm42 := zR_CT_fr (zdis_fr (zfr_up hmm42 (zfr_rf [(3, 8)] _) hc0 rfl) rfl) hRCTm36
                have hRTVm42 := zR_TV_fr (zdis_fr (zfr_up hmm42 (zfr_rf [(3, 8)] _) hc0 rfl) rfl) hRTVm36
                have r43 : (-2147483648) ≤ (m42 a0 7) ∧ (m42 a0 7) ≤ 2147483647 := zi_rd hIm42 hc0 zb_3_7
                have e44 : (m42 a0 7) = (m36 45 5) := (zs_eq hmm42)
                refine zw_ite (fun h45 => ?_) (fun h45 => ?_)
                · refine zw_bd (zw_eq (zu_call_at (zt_T n) (zm_257 n) (zdp_257 n) _ _ _ _ _ rfl (zr_257_0 n _ _ a0 2 m42)) ?_)
                  generalize hmm46 : zu_up m42 a0 9 2 = m46
                  have hIm46 := zi_up hmm46 hIm42 hc0 zb_3_9 (by omega) (by omega)
                  have hFm46 := zfr_up hmm46 hFm42 hc0 rfl
                  have hRCTm46 := zR_CT_fr (zdis_fr (zfr_up hmm46 (zfr_rf [(3, 10)] _) hc0 rfl) rfl) hRCTm42
                  have hRTVm46 := zR_TV_fr (zdis_fr (zfr_up hmm46 (zfr_rf [(3, 10)] _) hc0 rfl) rfl) hRTVm42
                  have r47 : 0 ≤ (m46 45 6) ∧ (m46 45 6) ≤ 700 := zi_rd hIm46 zq_45 zb_9_6
                  generalize hmm48 : zu_up m46 a0 10 (m46 45 6) = m48
                  have hIm48 := zi_up hmm48 hIm46 hc0 zb_3_10 (by omega) (by omega)
                  have hFm48 := zfr_up hmm48 hFm46 hc0 rfl
                  have hRCTm48 := zR_CT_fr (zdis_fr (zfr_up hmm48 (zfr_rf [(3, 11)] _) hc0 rfl) rfl) hRCTm46
                  have hRTVm48 := zR_TV_fr (zdis_fr (zfr_up hmm48 (zfr_rf [(3, 11)] _) hc0 rfl) rfl) hRTVm46
                  refine zw_b (by omega) ?_
                  refine zw_some ?_
                  refine zw_ite (fun h49 => ?_) (fun h49 => ?_)
                  · refine zw_b (by omega) ?_
                    refine zw_some ?_
                    refine zw_ite (fun h50 => ?_) (fun h50 => ?_)
                    · exfalso; omega
                    · refine zw_b (by omega) ?_
                      refine zw_some ?_
                      refine zw_ite (fun h51 => ?_) (fun h51 => ?_)
                      · refine zw_b (by omega) ?_
                        exact zw_some ⟨hIm48, hFm48, hRCTm48, ⟨by decide, by decide⟩⟩
                      · exfalso; omega
                  · exfalso; omega
                · refine zw_ite (fun h52 => ?_) (fun h52 => ?_)
                  · refine zw_b (by omega) ?_
                    refine zw_some ?_
                    refine zw_ite (fun h53 => ?_) (fun h53 => ?_)
                    · have r54 : 1 ≤ (m42 6 1) ∧ (m42 6 1) ≤ 6 := zi_rd hIm42 zq_6 zb_4_1
                      have w55 := zu_w32_id (z := (m42 6 1) - 1) (by omega) (by omega)
                      refine zw_bd (zw_eq (zu_call_at (zt_T n) (zm_260 n) (zdp_260 n) _ _ _ _ _ rfl (zr_260_0 n _ _ a0 0 (zu_w32 ((m42 6 1) - 1)) m42)) ?_)
                      refine zw_bd (zw_mono (zk_18 n hIm42 zq_45) (fun v57 m56 hqm56 => ?_))
                      obtain ⟨hIm56, hfm56, hvm56⟩ := hqm56
                      have hFm56 := zfr_tr hFm42 hfm56 rfl
                      obtain ⟨hRTVm56, hvm56⟩ := hvm56
                      have hRCTm56 := zR_CT_fr (zdis_fr hfm56 rfl) hRCTm42
                      have s58 := hRTVm56 45 zq_45
                      have r59 : 0 ≤ (m56 45 4) ∧ (m56 45 4) ≤ 5 := zi_rd hIm56 zq_45 zb_9_4
                      refine zw_ite (fun h60 => ?_) (fun h60 => ?_)
                      · have r61 : (-2147483648) ≤ (m56 45 5) ∧ (m56 45 5) ≤ 2147483647 := zi_rd hIm56 zq_45 zb_9_5
                        generalize hmm62 : zu_up m56 a0 7 (m56 45 5) = m62
                        have hIm62 := zi_up hmm62 hIm56 hc0 zb_3_7 (by omega) (by omega)
                        have hFm62 := zfr_up hmm62 hFm56 hc0 rfl
                        have hRCTm62 := zR_CT_fr (zdis_fr (zfr_up hmm62 (zfr_rf [(3, 8)] _) hc0 rfl) rfl) hRCTm56
                        have hRTVm62 := zR_TV_fr (zdis_fr (zfr_up hmm62 (zfr_rf [(3, 8)] _) hc0 rfl) rfl) hRTVm56
                        have r63 : (-2147483648) ≤ (m62 a0 7) ∧ (m62 a0 7) ≤ 2147483647 := zi_rd hIm62 hc0 zb_3_7
                        have e64 : (m62 a0 7) = (m56 45 5) := (zs_eq hmm62)
                        refine zw_ite (fun h65 => ?_) (fun h65 => ?_)
                        · refine zw_bd (zw_eq (zu_call_at (zt_T n) (zm_257 n) (zdp_257 n) _ _ _ _ _ rfl (zr_257_0 n _ _ a0 2 m62)) ?_)
                          generalize hmm66 : zu_up m62 a0 9 2 = m66
                          have hIm66 := zi_up hmm66 hIm62 hc0 zb_3_9 (by omega) (by omega)
                          have hFm66 := zfr_up hmm66 hFm62 hc0 rfl
                          have hRCTm66 := zR_CT_fr (zdis_fr (zfr_up hmm66 (zfr_rf [(3, 10)] _) hc0 rfl) rfl) hRCTm62
                          have hRTVm66 := zR_TV_fr (zdis_fr (zfr_up hmm66 (zfr_rf [(3, 10)] _) hc0 rfl) rfl) hRTVm62
                          have r67 : 0 ≤ (m66 45 6) ∧ (m66 45 6) ≤ 700 := zi_rd hIm66 zq_45 zb_9_6
                          generalize hmm68 : zu_up m66 a0 10 (m66 45 6) = m68
                          have hIm68 := zi_up hmm68 hIm66 hc0 zb_3_10 (by omega) (by omega)
                          have hFm68 := zfr_up hmm68 hFm66 hc0 rfl
                          have hRCTm68 := zR_CT_fr (zdis_fr (zfr_up hmm68 (zfr_rf [(3, 11)] _) hc0 rfl) rfl) hRCTm66
                          have hRTVm68 := zR_TV_fr (zdis_fr (zfr_up hmm68 (zfr_rf [(3, 11)] _) hc0 rfl) rfl) hRTVm66
                          refine zw_b (by omega) ?_
                          refine zw_some ?_
                          refine zw_ite (fun h69 => ?_) (fun h69 => ?_)
                          · refine zw_b (by omega) ?_
                            refine zw_some ?_
                            refine zw_ite (fun h70 => ?_) (fun h70 => ?_)
                            · exfalso; omega
                            · refine zw_b (by omega) ?_
                              refine zw_some ?_
                              refine zw_ite (fun h71 => ?_) (fun h71 => ?_)
                              · refine zw_b (by omega) ?_
                                exact zw_some ⟨hIm68, hFm68, hRCTm68, ⟨by decide, by decide⟩⟩
                              · exfalso; omega
                          · exfalso; omega
                        · refine zw_ite (fun h72 => ?_) (fun h72 => ?_)
                          · refine zw_b (by omega) ?_
                            refine zw_some ?_
                            refine zw_ite (fun h73 => ?_) (fun h73 => ?_)
                            · have r74 : 1 ≤ (m62 6 0) ∧ (m62 6 0) ≤ 8 := zi_rd hIm62 zq_6 zb_4_0
                              have e75 : (m62 6 0) = (m33 6 0) := (Eq.trans (zs_ne hmm62 (Or.inl (zc_ne zq_6 hc0 (by decide)))) (Eq.trans (zfr_ap hfm56 zq_6 rfl) (Eq.trans (zs_ne hmm42 (Or.inl (zc_ne zq_6 hc0 (by decide)))) (zfr_ap hfm36 zq_6 rfl))))
                              have p76 := zmul_bd (x := (m62 a0 7)) (y := (m62 6 0)) (a := 0) (b := 1) (A := 5) (B := 8) (by omega) (by omega) (by omega) (by omega) (by omega) (by omega)
                              have w77 := zu_w32_id (z := (m62 a0 7) * (m62 6 0)) (by omega) (by omega)
                              have w78 := zu_w32_id (z := (zu_w32 ((m62 a0 7) * (m62 6 0))) + (m42 a0 7)) (by omega) (by omega)
                              generalize hmm79 : zu_up m62 a0 8 (zu_w32 ((zu_w32 ((m62 a0 7) * (m62 6 0))) + (m42 a0 7))) = m79
                              have hIm79 := zi_up hmm79 hIm62 hc0 zb_3_8 (by omega) (by omega)
                              have hFm79 := zfr_up hmm79 hFm62 hc0 rfl
                              have hRCTm79 := zR_CT_fr (zdis_fr (zfr_up hmm79 (zfr_rf [(3, 9)] _) hc0 rfl) rfl) hRCTm62
                              have hRTVm79 := zR_TV_fr (zdis_fr (zfr_up hmm79 (zfr_rf [(3, 9)] _) hc0 rfl) rfl) hRTVm62
                              refine zw_b (by omega) ?_
                              refine zw_some ?_
                              refine zw_ite (fun h80 => ?_) (fun h80 => ?_)
                              · exfalso; omega
                              · refine zw_bd (zw_eq (zu_call_at (zt_T n) (zm_260 n) (zdp_260 n) _ _ _ _ _ rfl (zr_260_0 n _ _ a0 0 9 m79)) ?_)
                                refine zw_bd (zw_mono (zk_18 n hIm79 zq_45) (fun v82 m81 hqm81 => ?_))
                                obtain ⟨hIm81, hfm81, hvm81⟩ := hqm81
                                have hFm81 := zfr_tr hFm79 hfm81 rfl
                                obtain ⟨hRTVm81, hvm81⟩ := hvm81
                                have hRCTm81 := zR_CT_fr (zdis_fr hfm81 rfl) hRCTm79
                                have s83 := hRTVm81 45 zq_45
                                have r84 : 0 ≤ (m81 45 4) ∧ (m81 45 4) ≤ 5 := zi_rd hIm81 zq_45 zb_9_4
                                refine zw_ite (fun h85 => ?_) (fun h85 => ?_)
                                · have r86 : (-2147483648) ≤ (m81 45 5) ∧ (m81 45 5) ≤ 2147483647 := zi_rd hIm81 zq_45 zb_9_5
                                  generalize hmm87 : zu_up m81 a0 7 (m81 45 5) = m87
                                  have hIm87 := zi_up hmm87 hIm81 hc0 zb_3_7 (by omega) (by omega)
                                  have hFm87 := zfr_up hmm87 hFm81 hc0 rfl
                                  have hRCTm87 := zR_CT_fr (zdis_fr (zfr_up hmm87 (zfr_rf [(3, 8)] _) hc0 rfl) rfl) hRCTm81
                                  have hRTVm87 := zR_TV_fr (zdis_fr (zfr_up hmm87 (zfr_rf [(3, 8)] _) hc0 rfl) rfl) hRTVm81
                                  have r88 : (-2147483648) ≤ (m87 a0 7) ∧ (m87 a0 7) ≤ 2147483647 := zi_rd hIm87 hc0 zb_3_7
                                  have e89 : (m87 a0 7) = (m81 45 5) := (zs_eq hmm87)
                                  refine zw_ite (fun h90 => ?_) (fun h90 => ?_)
                                  · refine zw_bd (zw_eq (zu_call_at (zt_T n) (zm_257 n) (zdp_257 n) _ _ _ _ _ rfl (zr_257_0 n _ _ a0 2 m87)) ?_)
                                    generalize hmm91 : zu_up m87 a0 9 2 = m91
                                    have hIm91 := zi_up hmm91 hIm87 hc0 zb_3_9 (by omega) (by omega)
                                    have hFm91 := zfr_up hmm91 hFm87 hc0 rfl
                                    have hRCTm91 := zR_CT_fr (zdis_fr (zfr_up hmm91 (zfr_rf [(3, 10)] _) hc0 rfl) rfl) hRCTm87
                                    have hRTVm91 := zR_TV_fr (zdis_fr (zfr_up hmm91 (zfr_rf [(3, 10)] _) hc0 rfl) rfl) hRTVm87
                                    have r92 : 0 ≤ (m91 45 6) ∧ (m91 45 6) ≤ 700 := zi_rd hIm91 zq_45 zb_9_6
                                    generalize hmm93 : zu_up m91 a0 10 (m91 45 6) = m93
                                    have hIm93 := zi_up hmm93 hIm91 hc0 zb_3_10 (by omega) (by omega)
                                    have hFm93 := zfr_up hmm93 hFm91 hc0 rfl
                                    have hRCTm93 := zR_CT_fr (zdis_fr (zfr_up hmm93 (zfr_rf [(3, 11)] _) hc0 rfl) rfl) hRCTm91
                                    have hRTVm93 := zR_TV_fr (zdis_fr (zfr_up hmm93 (zfr_rf [(3, 11)] _) hc0 rfl) rfl) hRTVm91
                                    refine zw_b (by omega) ?_
                                    refine zw_some ?_
                                    refine zw_ite (fun h94 => ?_) (fun h94 => ?_)
                                    · refine zw_b (by omega) ?_
                                      refine zw_some ?_
                                      refine zw_ite (fun h95 => ?_) (fun h95 => ?_)
                                      · exfalso; omega
                                      · refine zw_b (by omega) ?_
                                        exact zw_some ⟨hIm93, hFm93, hRCTm93, ⟨by decide, by decide⟩⟩
                                    · exfalso; omega
                                  · refine zw_ite (fun h96 => ?_) (fun h96 => ?_)
                                    · refine zw_b (by omega) ?_
                                      refine zw_some ?_
                                      refine zw_ite (fun h97 => ?_) (fun h97 => ?_)
                                      · have r98 : 0 ≤ (m87 a0 8) ∧ (m87 a0 8) ≤ 47 := zi_rd hIm87 hc0 zb_3_8
                                        have e99 : (m87 a0 8) = (zu_w32 ((zu_w32 ((m62 a0 7) * (m62 6 0))) + (m42 a0 7))) := (Eq.trans (zs_ne hmm87 (Or.inr (by decide))) (Eq.trans (zfr_ap hfm81 hc0 rfl) (zs_eq hmm79)))
                                        refine zw_bd (zw_eq (zu_call_at (zt_T n) (zm_213 n) (zdp_213 n) _ _ _ _ _ rfl (zr_213b_0 n _ _ 19 (m87 a0 8) (m29 a0 7) (m87 a0 7) m87)) ?_)
                                        have r100 : 0 ≤ (m87 19 2) ∧ (m87 19 2) ≤ 16 := zi_rd hIm87 zq_19 zb_6_2
                                        have e101 : (m87 19 2) = (m0 19 2) := (Eq.trans (zs_ne hmm87 (Or.inl (zc_ne zq_19 hc0 (by decide)))) (Eq.trans (zfr_ap hfm81 zq_19 rfl) (Eq.trans (zs_ne hmm79 (Or.inl (zc_ne zq_19 hc0 (by decide)))) (Eq.trans (zs_ne hmm62 (Or.inl (zc_ne zq_19 hc0 (by decide)))) (Eq.trans (zfr_ap hfm56 zq_19 rfl) (Eq.trans (zs_ne hmm42 (Or.inl (zc_ne zq_19 hc0 (by decide)))) (Eq.trans (zfr_ap hfm36 zq_19 rfl) (Eq.trans (zs_ne hmm33 (Or.inl (zc_ne zq_19 hc0 (by decide)))) (Eq.trans (zs_ne hmm29 (Or.inl (zc_ne zq_19 hc0 (by decide)))) (zfr_ap hfm3 zq_19 rfl))))))))))
                                        refine zw_ite (fun h102 => ?_) (fun h102 => ?_)
                                        · exfalso; omega
                                        · have b103 : 0 ≤ (m87 19 2) ∧ (m87 19 2) < 16 := by omega
                                          refine zw_if b103 ?_
                                          generalize hmm104 : zu_up m87 (20 + 5 + (m87 19 2)) 0 (m87 a0 8) = m104
                                          have hIm104 := zi_up hmm104 hIm87 (zc_41_e zq_20 b103) zb_7_0 (by omega) (by omega)
                                          have hFm104 := zfr_up hmm104 hFm87 (zc_41_e zq_20 b103) rfl
                                          have hRCTm104 := zR_CT_fr (zdis_fr (zfr_up hmm104 (zfr_rf [(7, 1)] _) (zc_41_e zq_20 b103) rfl) rfl) hRCTm87
                                          have hRTVm104 := zR_TV_fr (zdis_fr (zfr_up hmm104 (zfr_rf [(7, 1)] _) (zc_41_e zq_20 b103) rfl) rfl) hRTVm87
                                          generalize hmm105 : zu_up m104 (20 + 5 + (m87 19 2)) 1 (m29 a0 7) = m105
                                          have hIm105 := zi_up hmm105 hIm104 (zc_41_e zq_20 b103) zb_7_1 (by omega) (by omega)
                                          have hFm105 := zfr_up hmm105 hFm104 (zc_41_e zq_20 b103) rfl
                                          have hRCTm105 := zR_CT_fr (zdis_fr (zfr_up hmm105 (zfr_rf [(7, 2)] _) (zc_41_e zq_20 b103) rfl) rfl) hRCTm104
                                          have hRTVm105 := zR_TV_fr (zdis_fr (zfr_up hmm105 (zfr_rf [(7, 2)] _) (zc_41_e zq_20 b103) rfl) rfl) hRTVm104
                                          generalize hmm106 : zu_up m105 (20 + 5 + (m87 19 2)) 2 (m87 a0 7) = m106
                                          have hIm106 := zi_up hmm106 hIm105 (zc_41_e zq_20 b103) zb_7_2 (by omega) (by omega)
                                          have hFm106 := zfr_up hmm106 hFm105 (zc_41_e zq_20 b103) rfl
                                          have hRCTm106 := zR_CT_fr (zdis_fr (zfr_up hmm106 (zfr_rf [(7, 3)] _) (zc_41_e zq_20 b103) rfl) rfl) hRCTm105
                                          have hRTVm106 := zR_TV_fr (zdis_fr (zfr_up hmm106 (zfr_rf [(7, 3)] _) (zc_41_e zq_20 b103) rfl) rfl) hRTVm105
                                          generalize hmm107 : zu_up m106 (20 + 5 + (m87 19 2)) 3 (-1) = m107
                                          have hIm107 := zi_up hmm107 hIm106 (zc_41_e zq_20 b103) zb_7_3 (by omega) (by omega)
                                          have hFm107 := zfr_up hmm107 hFm106 (zc_41_e zq_20 b103) rfl
                                          have hRCTm107 := zR_CT_fr (zdis_fr (zfr_up hmm107 (zfr_rf [(7, 4)] _) (zc_41_e zq_20 b103) rfl) rfl) hRCTm106
                                          have hRTVm107 := zR_TV_fr (zdis_fr (zfr_up hmm107 (zfr_rf [(7, 4)] _) (zc_41_e zq_20 b103) rfl) rfl) hRTVm106
                                          have r108 : 0 ≤ (m107 19 2) ∧ (m107 19 2) ≤ 16 := zi_rd hIm107 zq_19 zb_6_2
                                          have e109 : (m107 19 2) = (m87 19 2) := (Eq.trans (zs_ne hmm107 (Or.inl (zc_ne zq_19 (zc_41_e zq_20 b103) (by decide)))) (Eq.trans (zs_ne hmm106 (Or.inl (zc_ne zq_19 (zc_41_e zq_20 b103) (by decide)))) (Eq.trans (zs_ne hmm105 (Or.inl (zc_ne zq_19 (zc_41_e zq_20 b103) (by decide)))) (zs_ne hmm104 (Or.inl (zc_ne zq_19 (zc_41_e zq_20 b103) (by decide)))))))
                                          have w110 := zu_w32_id (z := (m107 19 2) + 1) (by omega) (by omega)
                                          generalize hmm111 : zu_up m107 19 2 (zu_w32 ((m107 19 2) + 1)) = m111
                                          have hIm111 := zi_up hmm111 hIm107 zq_19 zb_6_2 (by omega) (by omega)
                                          have hFm111 := zfr_up hmm111 hFm107 zq_19 rfl
                                          have hRCTm111 := zR_CT_fr (zdis_fr (zfr_up hmm111 (zfr_rf [(6, 3)] _) zq_19 rfl) rfl) hRCTm107
                                          have hRTVm111 := zR_TV_fr (zdis_fr (zfr_up hmm111 (zfr_rf [(6, 3)] _) zq_19 rfl) rfl) hRTVm107
                                          refine zw_some ?_
                                          refine zw_b (by omega) ?_
                                          exact zw_some ⟨hIm111, hFm111, hRCTm111, ⟨by decide, by decide⟩⟩
                                      · exfalso; omega
                                    · refine zw_bd (zw_eq (zu_call_at (zt_T n) (zm_257 n) (zdp_257 n) _ _ _ _ _ rfl (zr_257_0 n _ _ a0 2 m87)) ?_)
                                      generalize hmm112 : zu_up m87 a0 9 2 = m112
                                      have hIm112 := zi_up hmm112 hIm87 hc0 zb_3_9 (by omega) (by omega)
                                      have hFm112 := zfr_up hmm112 hFm87 hc0 rfl
                                      have hRCTm112 := zR_CT_fr (zdis_fr (zfr_up hmm112 (zfr_rf [(3, 10)] _) hc0 rfl) rfl) hRCTm87
                                      have hRTVm112 := zR_TV_fr (zdis_fr (zfr_up hmm112 (zfr_rf [(3, 10)] _) hc0 rfl) rfl) hRTVm87
                                      have r113 : 0 ≤ (m112 45 6) ∧ (m112 45 6) ≤ 700 := zi_rd hIm112 zq_45 zb_9_6
                                      generalize hmm114 : zu_up m112 a0 10 (m112 45 6) = m114
                                      have hIm114 := zi_up hmm114 hIm112 hc0 zb_3_10 (by omega) (by omega)
                                      have hFm114 := zfr_up hmm114 hFm112 hc0 rfl
                                      have hRCTm114 := zR_CT_fr (zdis_fr (zfr_up hmm114 (zfr_rf [(3, 11)] _) hc0 rfl) rfl) hRCTm112
                                      have hRTVm114 := zR_TV_fr (zdis_fr (zfr_up hmm114 (zfr_rf [(3, 11)] _) hc0 rfl) rfl) hRTVm112
                                      refine zw_b (by omega) ?_
                                      refine zw_some ?_
                                      refine zw_ite (fun h115 => ?_) (fun h115 => ?_)
                                      · refine zw_b (by omega) ?_
                                        refine zw_some ?_
                                        refine zw_ite (fun h116 => ?_) (fun h116 => ?_)
                                        · exfalso; omega
                                        · refine zw_b (by omega) ?_
                                          exact zw_some ⟨hIm114, hFm114, hRCTm114, ⟨by decide, by decide⟩⟩
                                      · exfalso; omega
                                · refine zw_bd (zw_eq (zu_call_at (zt_T n) (zm_257 n) (zdp_257 n) _ _ _ _ _ rfl (zr_257_0 n _ _ a0 1 m81)) ?_)
                                  generalize hmm117 : zu_up m81 a0 9 1 = m117
                                  have hIm117 := zi_up hmm117 hIm81 hc0 zb_3_9 (by omega) (by omega)
                                  have hFm117 := zfr_up hmm117 hFm81 hc0 rfl
                                  have hRCTm117 := zR_CT_fr (zdis_fr (zfr_up hmm117 (zfr_rf [(3, 10)] _) hc0 rfl) rfl) hRCTm81
                                  have hRTVm117 := zR_TV_fr (zdis_fr (zfr_up hmm117 (zfr_rf [(3, 10)] _) hc0 rfl) rfl) hRTVm81
                                  have r118 : 0 ≤ (m117 45 6) ∧ (m117 45 6) ≤ 700 := zi_rd hIm117 zq_45 zb_9_6
                                  generalize hmm119 : zu_up m117 a0 10 (m117 45 6) = m119
                                  have hIm119 := zi_up hmm119 hIm117 hc0 zb_3_10 (by omega) (by omega)
                                  have hFm119 := zfr_up hmm119 hFm117 hc0 rfl
                                  have hRCTm119 := zR_CT_fr (zdis_fr (zfr_up hmm119 (zfr_rf [(3, 11)] _) hc0 rfl) rfl) hRCTm117
                                  have hRTVm119 := zR_TV_fr (zdis_fr (zfr_up hmm119 (zfr_rf [(3, 11)] _) hc0 rfl) rfl) hRTVm117
                                  refine zw_b (by omega) ?_
                                  refine zw_some ?_
                                  refine zw_b (by omega) ?_
                                  refine zw_some ?_
                                  refine zw_ite (fun h120 => ?_) (fun h120 => ?_)
                                  · exfalso; omega
                                  · refine zw_b (by omega) ?_
                                    exact zw_some ⟨hIm119, hFm119, hRCTm119, ⟨by decide, by decide⟩⟩
                            · exfalso; omega
                          · refine zw_bd (zw_eq (zu_call_at (zt_T n) (zm_257 n) (zdp_257 n) _ _ _ _ _ rfl (zr_257_0 n _ _ a0 2 m62)) ?_)
                            generalize hmm121 : zu_up m62 a0 9 2 = m121
                            have hIm121 := zi_up hmm121 hIm62 hc0 zb_3_9 (by omega) (by omega)
                            have hFm121 := zfr_up hmm121 hFm62 hc0 rfl
                            have hRCTm121 := zR_CT_fr (zdis_fr (zfr_up hmm121 (zfr_rf [(3, 10)] _) hc0 rfl) rfl) hRCTm62
                            have hRTVm121 := zR_TV_fr (zdis_fr (zfr_up hmm121 (zfr_rf [(3, 10)] _) hc0 rfl) rfl) hRTVm62
                            have r122 : 0 ≤ (m121 45 6) ∧ (m121 45 6) ≤ 700 := zi_rd hIm121 zq_45 zb_9_6
                            generalize hmm123 : zu_up m121 a0 10 (m121 45 6) = m123
                            have hIm123 := zi_up hmm123 hIm121 hc0 zb_3_10 (by omega) (by omega)
                            have hFm123 := zfr_up hmm123 hFm121 hc0 rfl
                            have hRCTm123 := zR_CT_fr (zdis_fr (zfr_up hmm123 (zfr_rf [(3, 11)] _) hc0 rfl) rfl) hRCTm121
                            have hRTVm123 := zR_TV_fr (zdis_fr (zfr_up hmm123 (zfr_rf [(3, 11)] _) hc0 rfl) rfl) hRTVm121
                            refine zw_b (by omega) ?_
                            refine zw_some ?_
                            refine zw_ite (fun h124 => ?_) (fun h124 => ?_)
                            · refine zw_b (by omega) ?_
                              refine zw_some ?_
                              refine zw_ite (fun h125 => ?_) (fun h125 => ?_)
                              · exfalso; omega
                              · refine zw_b (by omega) ?_
                                refine zw_some ?_
                                refine zw_ite (fun h126 => ?_) (fun h126 => ?_)
                                · refine zw_b (by omega) ?_
                                  exact zw_some ⟨hIm123, hFm123, hRCTm123, ⟨by decide, by decide⟩⟩
                                · exfalso; omega
                            · exfalso; omega
                      · refine zw_bd (zw_eq (zu_call_at (zt_T n) (zm_257 n) (zdp_257 n) _ _ _ _ _ rfl (zr_257_0 n _ _ a0 1 m56)) ?_)
                        generalize hmm127 : zu_up m56 a0 9 1 = m127
                        have hIm127 := zi_up hmm127 hIm56 hc0 zb_3_9 (by omega) (by omega)
                        have hFm127 := zfr_up hmm127 hFm56 hc0 rfl
                        have hRCTm127 := zR_CT_fr (zdis_fr (zfr_up hmm127 (zfr_rf [(3, 10)] _) hc0 rfl) rfl) hRCTm56
                        have hRTVm127 := zR_TV_fr (zdis_fr (zfr_up hmm127 (zfr_rf [(3, 10)] _) hc0 rfl) rfl) hRTVm56
                        have r128 : 0 ≤ (m127 45 6) ∧ (m127 45 6) ≤ 700 := zi_rd hIm127 zq_45 zb_9_6
                        generalize hmm129 : zu_up m127 a0 10 (m127 45 6) = m129
                        have hIm129 := zi_up hmm129 hIm127 hc0 zb_3_10 (by omega) (by omega)
                        have hFm129 := zfr_up hmm129 hFm127 hc0 rfl
                        have hRCTm129 := zR_CT_fr (zdis_fr (zfr_up hmm129 (zfr_rf [(3, 11)] _) hc0 rfl) rfl) hRCTm127
                        have hRTVm129 := zR_TV_fr (zdis_fr (zfr_up hmm129 (zfr_rf [(3, 11)] _) hc0 rfl) rfl) hRTVm127
                        refine zw_b (by omega) ?_
                        refine zw_some ?_
                        refine zw_b (by omega) ?_
                        refine zw_some ?_
                        refine zw_ite (fun h130 => ?_) (fun h130 => ?_)
                        · exfalso; omega
                        · refine zw_b (by omega) ?_
                          refine zw_some ?_
                          refine zw_ite (fun h131 => ?_) (fun h131 => ?_)
                          · refine zw_b (by omega) ?_
                            exact zw_some ⟨hIm129, hFm129, hRCTm129, ⟨by decide, by decide⟩⟩
                          · exfalso; omega
                    · exfalso; omega
                  · refine zw_bd (zw_eq (zu_call_at (zt_T n) (zm_257 n) (zdp_257 n) _ _ _ _ _ rfl (zr_257_0 n _ _ a0 2 m42)) ?_)
                    generalize hmm132 : zu_up m42 a0 9 2 = m132
                    have hIm132 := zi_up hmm132 hIm42 hc0 zb_3_9 (by omega) (by omega)
                    have hFm132 := zfr_up hmm132 hFm42 hc0 rfl
                    have hRCTm132 := zR_CT_fr (zdis_fr (zfr_up hmm132 (zfr_rf [(3, 10)] _) hc0 rfl) rfl) hRCTm42
                    have hRTVm132 := zR_TV_fr (zdis_fr (zfr_up hmm132 (zfr_rf [(3, 10)] _) hc0 rfl) rfl) hRTVm42
                    have r133 : 0 ≤ (m132 45 6) ∧ (m132 45 6) ≤ 700 := zi_rd hIm132 zq_45 zb_9_6
                    generalize hmm134 : zu_up m132 a0 10 (m132 45 6) = m134
                    have hIm134 := zi_up hmm134 hIm132 hc0 zb_3_10 (by omega) (by omega)
                    have hFm134 := zfr_up hmm134 hFm132 hc0 rfl
                    have hRCTm134 := zR_CT_fr (zdis_fr (zfr_up hmm134 (zfr_rf [(3, 11)] _) hc0 rfl) rfl) hRCTm132
                    have hRTVm134 := zR_TV_fr (zdis_fr (zfr_up hmm134 (zfr_rf [(3, 11)] _) hc0 rfl) rfl) hRTVm132
                    refine zw_b (by omega) ?_
                    refine zw_some ?_
                    refine zw_ite (fun h135 => ?_) (fun h135 => ?_)
                    · refine zw_b (by omega) ?_
                      refine zw_some ?_
                      refine zw_ite (fun h136 => ?_) (fun h136 => ?_)
                      · exfalso; omega
                      · refine zw_b (by omega) ?_
                        refine zw_some ?_
                        refine zw_ite (fun h137 => ?_) (fun h137 => ?_)
                        · refine zw_b (by omega) ?_
                          exact zw_some ⟨hIm134, hFm134, hRCTm134, ⟨by decide, by decide⟩⟩
                        · exfalso; omega
                    · exfalso; omega
              · refine zw_bd (zw_eq (zu_call_at (zt_T n) (zm_257 n) (zdp_257 n) _ _ _ _ _ rfl (zr_257_0 n _ _ a0 1 m36)) ?_)
                generalize hmm138 : zu_up m36 a0 9 1 = m138
                have hIm138 := zi_up hmm138 hIm36 hc0 zb_3_9 (by omega) (by omega)
                have hFm138 := zfr_up hmm138 hFm36 hc0 rfl
                have hRCTm138 := zR_CT_fr (zdis_fr (zfr_up hmm138 (zfr_rf [(3, 10)] _) hc0 rfl) rfl) hRCTm36
                have hRTVm138 := zR_TV_fr (zdis_fr (zfr_up hmm138 (zfr_rf [(3, 10)] _) hc0 rfl) rfl) hRTVm36
                have r139 : 0 ≤ (m138 45 6) ∧ (m138 45 6) ≤ 700 := zi_rd hIm138 zq_45 zb_9_6
                generalize hmm140 : zu_up m138 a0 10 (m138 45 6) = m140
                have hIm140 := zi_up hmm140 hIm138 hc0 zb_3_10 (by omega) (by omega)
                have hFm140 := zfr_up hmm140 hFm138 hc0 rfl
                have hRCTm140 := zR_CT_fr (zdis_fr (zfr_up hmm140 (zfr_rf [(3, 11)] _) hc0 rfl) rfl) hRCTm138
                have hRTVm140 := zR_TV_fr (zdis_fr (zfr_up hmm140 (zfr_rf [(3, 11)] _) hc0 rfl) rfl) hRTVm138
                refine zw_b (by omega) ?_
                refine zw_some ?_
                refine zw_b (by omega) ?_
                refine zw_some ?_
                refine zw_ite (fun h141 => ?_) (fun h141 => ?_)
                · exfalso; omega
                · refine zw_b (by omega) ?_
                  refine zw_some ?_
                  refine zw_ite (fun h142 => ?_) (fun h142 => ?_)
                  · refine zw_b (by omega) ?_
                    exact zw_some ⟨hIm140, hFm140, hRCTm140, ⟨by decide, by decide⟩⟩
                  · exfalso; omega
            · exfalso; omega
          · exfalso; omega
  · refine zw_bd (zw_eq (zu_call_at (zt_T n) (zm_257 n) (zdp_257 n) _ _ _ _ _ rfl (zr_257_0 n _ _ a0 2 m0)) ?_)
    generalize hmm143 : zu_up m0 a0 9 2 = m143
    have hIm143 := zi_up hmm143 hIm0 hc0 zb_3_9 (by omega) (by omega)
    have hFm143 := zfr_up hmm143 hFm0 hc0 rfl
    have hRCTm143 := zR_CT_fr (zdis_fr (zfr_up hmm143 (zfr_rf [(3, 10)] _) hc0 rfl) rfl) hRCTm0
    have r144 : 0 ≤ (m143 45 6) ∧ (m143 45 6) ≤ 700 := zi_rd hIm143 zq_45 zb_9_6
    generalize hmm145 : zu_up m143 a0 10 (m143 45 6) = m145
    have hIm145 := zi_up hmm145 hIm143 hc0 zb_3_10 (by omega) (by omega)
    have hFm145 := zfr_up hmm145 hFm143 hc0 rfl
    have hRCTm145 := zR_CT_fr (zdis_fr (zfr_up hmm145 (zfr_rf [(3, 11)] _) hc0 rfl) rfl) hRCTm143
    refine zw_b (by omega) ?_
    refine zw_some ?_
    refine zw_b (by omega) ?_
    exact zw_some ⟨hIm145, hFm145, hRCTm145, ⟨by decide, by decide⟩⟩
set_option maxHeartbeats 4000000 in
theorem zk_267 (n : Nat) {a0 : Int} {m0 : zu_m} (hIm0 : zi_I m0) (hc0 : zcls a0 = 3)   (he0 : 1 ≤ m0 45 4 ∧ m0 45 4 ≤ 1) (he1 : 5 ≤ m0 45 5 ∧ m0 45 5 ≤ 5)  (hRCTm0 : (m0 5 6 = 0 → m0 19 4 = 0)) (hRE19m0 : zE m0 19 6) (hRG6m0 : (m0 6 2 = m0 6 0 * m0 6 1)) : zw (zu_call (zt_T n) 267 [(7, a0)] m0) (fun v m => zi_I m ∧ zfr [(3, 7), (3, 8), (3, 9), (3, 10), (3, 11), (6, 5), (8, 1), (8, 2), (8, 3), (8, 4), (8, 5), (8, 6), (8, 7), (9, 4), (9, 5), (9, 6), (9, 7)] m0 m ∧ (m 5 6 = 0 → m 19 4 = 0) ∧ zE m 19 6 ∧ (m 6 2 = m 6 0 * m 6 1) ∧ (0 ≤ v ∧ v ≤ 1)) := by
  have hFm0 : zfr [(3, 7), (3, 8), (3, 9), (3, 10), (3, 11), (6, 5), (8, 1), (8, 2), (8, 3), (8, 4), (8, 5), (8, 6), (8, 7), (9, 4), (9, 5), (9, 6), (9, 7)] m0 m0 := zfr_rf _ _
  refine zw_eq (zu_call_at (zt_T n) (zm_267 n) (zdp_267 n) _ _ _ _ _ rfl (zr_267_0 n _ _ a0 m0)) ?_
  have r1 : 0 ≤ (m0 19 4) ∧ (m0 19 4) ≤ 4 := zi_rd hIm0 zq_19 zb_6_4
  refine zw_ite (fun h2 => ?_) (fun h2 => ?_)
  · refine zw_bd (zw_mono (zk_18 n hIm0 zq_45) (fun v4 m3 hqm3 => ?_))
    obtain ⟨hIm3, hfm3, hvm3⟩ := hqm3
    have hFm3 := zfr_tr hFm0 hfm3 rfl
    obtain ⟨hRTVm3, hvm3⟩ := hvm3
    have hRCTm3 := zR_CT_fr (zdis_fr hfm3 rfl) hRCTm0
    have hRE19m3 := zR_E19_fr (zdis_fr hfm3 rfl) hRE19m0
    have hRG6m3 := zR_G6_fr (zdis_fr hfm3 rfl) hRG6m0
    have s5 := hRTVm3 45 zq_45
    have r6 : 0 ≤ (m3 45 4) ∧ (m3 45 4) ≤ 5 := zi_rd hIm3 zq_45 zb_9_4
    refine zw_ite (fun h7 => ?_) (fun h7 => ?_)
    · have r8 : (-2147483648) ≤ (m3 45 5) ∧ (m3 45 5) ≤ 2147483647 := zi_rd hIm3 zq_45 zb_9_5
      have r9 : 0 ≤ (m3 19 4) ∧ (m3 19 4) ≤ 4 := zi_rd hIm3 zq_19 zb_6_4
      have e10 : (m3 19 4) = (m0 19 4) := (zfr_ap hfm3 zq_19 rfl)
      refine zw_bd (zw_mono (zk_212_6 n hIm3 zq_19 ⟨by omega, by omega⟩ ⟨by omega, by omega⟩) (fun v12 m11 hqm11 => ?_))
      obtain ⟨hIm11, hfm11, hvm11⟩ := hqm11
      have hFm11 := zfr_tr hFm3 hfm11 rfl
      have hRCTm11 := zR_CT_fr (zdis_fr hfm11 rfl) hRCTm3
      have hRE19m11 := zR_E19_fr (zdis_fr hfm11 rfl) hRE19m3
      have hRG6m11 := zR_G6_fr (zdis_fr hfm11 rfl) hRG6m3
      have hRTVm11 := zR_TV_fr (zdis_fr hfm11 rfl) hRTVm3
      have s13 := hRTVm11 45 zq_45
      refine zw_ite (fun h14 => ?_) (fun h14 => ?_)
      · have r15 : 0 ≤ (m11 19 4) ∧ (m11 19 4) ≤ 4 := zi_rd hIm11 zq_19 zb_6_4
        have e16 : (m11 19 4) = (m3 19 4) := (zfr_ap hfm11 zq_19 rfl)
        have b17 : 0 ≤ (m11 19 4) ∧ (m11 19 4) < 4 := by omega
        refine zw_if b17 ?_
        have r18 : (-2147483648) ≤ (m11 45 5) ∧ (m11 45 5) ≤ 2147483647 := zi_rd hIm11 zq_45 zb_9_5
        have e19 : (m11 45 5) = (m3 45 5) := (zfr_ap hfm11 zq_45 rfl)
        generalize hmm20 : zu_up m11 (21 + 20 + (m11 19 4)) 0 (m11 45 5) = m20
        have hIm20 := zi_up hmm20 hIm11 (zc_42_e zq_21 b17) zb_8_0 (by omega) (by omega)
        have hFm20 := zfr_up hmm20 hFm11 (zc_42_e zq_21 b17) rfl
        have hRCTm20 := zR_CT_fr (zdis_fr (zfr_up hmm20 (zfr_rf [(8, 1)] _) (zc_42_e zq_21 b17) rfl) rfl) hRCTm11
        have hRE19m20 := zR_E19_fr (zdis_fr (zfr_up hmm20 (zfr_rf [(8, 1)] _) (zc_42_e zq_21 b17) rfl) rfl) hRE19m11
        have hRG6m20 := zR_G6_fr (zdis_fr (zfr_up hmm20 (zfr_rf [(8, 1)] _) (zc_42_e zq_21 b17) rfl) rfl) hRG6m11
        have hRTVm20 := zR_TV_fr (zdis_fr (zfr_up hmm20 (zfr_rf [(8, 1)] _) (zc_42_e zq_21 b17) rfl) rfl) hRTVm11
        generalize hmm21 : zu_up m20 (21 + 20 + (m11 19 4)) 5 0 = m21
        have hIm21 := zi_up hmm21 hIm20 (zc_42_e zq_21 b17) zb_8_5 (by omega) (by omega)
        have hFm21 := zfr_up hmm21 hFm20 (zc_42_e zq_21 b17) rfl
        have hRCTm21 := zR_CT_fr (zdis_fr (zfr_up hmm21 (zfr_rf [(8, 6)] _) (zc_42_e zq_21 b17) rfl) rfl) hRCTm20
        have hRE19m21 := zR_E19_fr (zdis_fr (zfr_up hmm21 (zfr_rf [(8, 6)] _) (zc_42_e zq_21 b17) rfl) rfl) hRE19m20
        have hRG6m21 := zR_G6_fr (zdis_fr (zfr_up hmm21 (zfr_rf [(8, 6)] _) (zc_42_e zq_21 b17) rfl) rfl) hRG6m20
        have hRTVm21 := zR_TV_fr (zdis_fr (zfr_up hmm21 (zfr_rf [(8, 6)] _) (zc_42_e zq_21 b17) rfl) rfl) hRTVm20
        generalize hmm22 : zu_up m21 (21 + 20 + (m11 19 4)) 6 0 = m22
        have hIm22 := zi_up hmm22 hIm21 (zc_42_e zq_21 b17) zb_8_6 (by omega) (by omega)
        have hFm22 := zfr_up hmm22 hFm21 (zc_42_e zq_21 b17) rfl
        have hRCTm22 := zR_CT_fr (zdis_fr (zfr_up hmm22 (zfr_rf [(8, 7)] _) (zc_42_e zq_21 b17) rfl) rfl) hRCTm21
        have hRE19m22 := zR_E19_fr (zdis_fr (zfr_up hmm22 (zfr_rf [(8, 7)] _) (zc_42_e zq_21 b17) rfl) rfl) hRE19m21
        have hRG6m22 := zR_G6_fr (zdis_fr (zfr_up hmm22 (zfr_rf [(8, 7)] _) (zc_42_e zq_21 b17) rfl) rfl) hRG6m21
        have hRTVm22 := zR_TV_fr (zdis_fr (zfr_up hmm22 (zfr_rf [(8, 7)] _) (zc_42_e zq_21 b17) rfl) rfl) hRTVm21
        refine zw_bd (zw_eq (zu_call_at (zt_T n) (zm_262 n) (zdp_262 n) _ _ _ _ _ rfl (zr_262_0 n _ _ a0 m22)) ?_)
        refine zw_b (by omega) ?_
        generalize hmm23 : zu_up m22 a0 6 1 = m23
        have hIm23 := zi_up hmm23 hIm22 hc0 zb_3_6 (by omega) (by omega)
        have hFm23 := zfr_up hmm23 hFm22 hc0 rfl
        have hRE19m23 := zR_E19_fr (zdis_fr (zfr_up hmm23 (zfr_rf [(3, 7)] _) hc0 rfl) rfl) hRE19m22
        have hRG6m23 := zR_G6_fr (zdis_fr (zfr_up hmm23 (zfr_rf [(3, 7)] _) hc0 rfl) rfl) hRG6m22
        have hRTVm23 := zR_TV_fr (zdis_fr (zfr_up hmm23 (zfr_rf [(3, 7)] _) hc0 rfl) rfl) hRTVm22
        have hRCTm23 := zCT_t (zone_5 hc0) hmm23 rfl
        have r24 : 1 ≤ (m23 6 0) ∧ (m23 6 0) ≤ 8 := zi_rd hIm23 zq_6 zb_4_0
        have w25 := zu_w32_id (z := (m23 6 0) - 1) (by omega) (by omega)
        refine zw_bd (zw_eq (zu_call_at (zt_T n) (zm_260 n) (zdp_260 n) _ _ _ _ _ rfl (zr_260_0 n _ _ a0 0 (zu_w32 ((m23 6 0) - 1)) m23)) ?_)
        refine zw_bd (zw_mono (zk_18 n hIm23 zq_45) (fun v27 m26 hqm26 => ?_))
        obtain ⟨hIm26, hfm26, hvm26⟩ := hqm26
        have hFm26 := zfr_tr hFm23 hfm26 rfl
        obtain ⟨hRTVm26, hvm26⟩ := hvm26
        have hRCTm26 := zR_CT_fr (zdis_fr hfm26 rfl) hRCTm23
        have hRE19m26 := zR_E19_fr (zdis_fr hfm26 rfl) hRE19m23
        have hRG6m26 := zR_G6_fr (zdis_fr hfm26 rfl) hRG6m23
        have s28 := hRTVm26 45 zq_45
        have r29 : 0 ≤ (m26 45 4) ∧ (m26 45 4) ≤ 5 := zi_rd hIm26 zq_45 zb_9_4
        refine zw_ite (fun h30 => ?_) (fun h30 => ?_)
        · have r31 : (-2147483648) ≤ (m26 45 5) ∧ (m26 45 5) ≤ 2147483647 := zi_rd hIm26 zq_45 zb_9_5
          generalize hmm32 : zu_up m26 a0 7 (m26 45 5) = m32
          have hIm32 := zi_up hmm32 hIm26 hc0 zb_3_7 (by omega) (by omega)
          have hFm32 := zfr_up hmm32 hFm26 hc0 rfl
          have hRCTm32 := zR_CT_fr (zdis_fr (zfr_up hmm32 (zfr_rf [(3, 8)] _) hc0 rfl) rfl) hRCTm26
          have hRE19m32 := zR_E19_fr (zdis_fr (zfr_up hmm32 (zfr_rf [(3, 8)] _) hc0 rfl) rfl) hRE19m26
          have hRG6m32 := zR_G6_fr (zdis_fr (zfr_up hmm32 (zfr_rf [(3, 8)] _) hc0 rfl) rfl) hRG6m26
          have hRTVm32 := zR_TV_fr (zdis_fr (zfr_up hmm32 (zfr_rf [(3, 8)] _) hc0 rfl) rfl) hRTVm26
          have r33 : (-2147483648) ≤ (m32 a0 7) ∧ (m32 a0 7) ≤ 2147483647 := zi_rd hIm32 hc0 zb_3_7
          have e34 : (m32 a0 7) = (m26 45 5) := (zs_eq hmm32)
          refine zw_ite (fun h35 => ?_) (fun h35 => ?_)
          · refine zw_bd (zw_eq (zu_call_at (zt_T n) (zm_257 n) (zdp_257 n) _ _ _ _ _ rfl (zr_257_0 n _ _ a0 2 m32)) ?_)
            generalize hmm36 : zu_up m32 a0 9 2 = m36
            have hIm36 := zi_up hmm36 hIm32 hc0 zb_3_9 (by omega) (by omega)
            have hFm36 := zfr_up hmm36 hFm32 hc0 rfl
            have hRCTm36 := zR_CT_fr (zdis_fr (zfr_up hmm36 (zfr_rf [(3, 10)] _) hc0 rfl) rfl) hRCTm32
            have hRE19m36 := zR_E19_fr (zdis_fr (zfr_up hmm36 (zfr_rf [(3, 10)] _) hc0 rfl) rfl) hRE19m32
            have hRG6m36 := zR_G6_fr (zdis_fr (zfr_up hmm36 (zfr_rf [(3, 10)] _) hc0 rfl) rfl) hRG6m32
            have hRTVm36 := zR_TV_fr (zdis_fr (zfr_up hmm36 (zfr_rf [(3, 10)] _) hc0 rfl) rfl) hRTVm32
            have r37 : 0 ≤ (m36 45 6) ∧ (m36 45 6) ≤ 700 := zi_rd hIm36 zq_45 zb_9_6
            generalize hmm38 : zu_up m36 a0 10 (m36 45 6) = m38
            have hIm38 := zi_up hmm38 hIm36 hc0 zb_3_10 (by omega) (by omega)
            have hFm38 := zfr_up hmm38 hFm36 hc0 rfl
            have hRCTm38 := zR_CT_fr (zdis_fr (zfr_up hmm38 (zfr_rf [(3, 11)] _) hc0 rfl) rfl) hRCTm36
            have hRE19m38 := zR_E19_fr (zdis_fr (zfr_up hmm38 (zfr_rf [(3, 11)] _) hc0 rfl) rfl) hRE19m36
            have hRG6m38 := zR_G6_fr (zdis_fr (zfr_up hmm38 (zfr_rf [(3, 11)] _) hc0 rfl) rfl) hRG6m36
            have hRTVm38 := zR_TV_fr (zdis_fr (zfr_up hmm38 (zfr_rf [(3, 11)] _) hc0 rfl) rfl) hRTVm36
            refine zw_b (by omega) ?_
            refine zw_some ?_
            refine zw_ite (fun h39 => ?_) (fun h39 => ?_)
            · refine zw_b (by omega) ?_
              refine zw_some ?_
              refine zw_ite (fun h40 => ?_) (fun h40 => ?_)
              · exfalso; omega
              · refine zw_b (by omega) ?_
                refine zw_some ?_
                refine zw_ite (fun h41 => ?_) (fun h41 => ?_)
                · refine zw_b (by omega) ?_
                  exact zw_some ⟨hIm38, hFm38, hRCTm38, hRE19m38, hRG6m38, ⟨by decide, by decide⟩⟩
                · exfalso; omega
            · exfalso; omega
          · refine zw_ite (fun h42 => ?_) (fun h42 => ?_)
            · refine zw_b (by omega) ?_
              refine zw_some ?_
              refine zw_ite (fun h43 => ?_) (fun h43 => ?_)
              · have r44 : 1 ≤ (m32 6 1) ∧ (m32 6 1) ≤ 6 := zi_rd hIm32 zq_6 zb_4_1
                have w45 := zu_w32_id (z := (m32 6 1) - 1) (by omega) (by omega)
                refine zw_bd (zw_eq (zu_call_at (zt_T n) (zm_260 n) (zdp_260 n) _ _ _ _ _ rfl (zr_260_0 n _ _ a0 0 (zu_w32 ((m32 6 1) - 1)) m32)) ?_)
                refine zw_bd (zw_mono (zk_18 n hIm32 zq_45) (fun v47 m46 hqm46 => ?_))
                obtain ⟨hIm46, hfm46, hvm46⟩ := hqm46
                have hFm46 := zfr_tr hFm32 hfm46 rfl
                obtain ⟨hRTVm46, hvm46⟩ := hvm46
                have hRCTm46 := zR_CT_fr (zdis_fr hfm46 rfl) hRCTm32
                have hRE19m46 := zR_E19_fr (zdis_fr hfm46 rfl) hRE19m32
                have hRG6m46 := zR_G6_fr (zdis_fr hfm46 rfl) hRG6m32
                have s48 := hRTVm46 45 zq_45
                have r49 : 0 ≤ (m46 45 4) ∧ (m46 45 4) ≤ 5 := zi_rd hIm46 zq_45 zb_9_4
                refine zw_ite (fun h50 => ?_) (fun h50 => ?_)
                · have r51 : (-2147483648) ≤ (m46 45 5) ∧ (m46 45 5) ≤ 2147483647 := zi_rd hIm46 zq_45 zb_9_5
                  generalize hmm52 : zu_up m46 a0 7 (m46 45 5) = m52
                  have hIm52 := zi_up hmm52 hIm46 hc0 zb_3_7 (by omega) (by omega)
                  have hFm52 := zfr_up hmm52 hFm46 hc0 rfl
                  have hRCTm52 := zR_CT_fr (zdis_fr (zfr_up hmm52 (zfr_rf [(3, 8)] _) hc0 rfl) rfl) hRCTm46
                  have hRE19m52 := zR_E19_fr (zdis_fr (zfr_up hmm52 (zfr_rf [(3, 8)] _) hc0 rfl) rfl) hRE19m46
                  have hRG6m52 := zR_G6_fr (zdis_fr (zfr_up hmm52 (zfr_rf [(3, 8)] _) hc0 rfl) rfl) hRG6m46
                  have hRTVm52 := zR_TV_fr (zdis_fr (zfr_up hmm52 (zfr_rf [(3, 8)] _) hc0 rfl) rfl) hRTVm46
                  have r53 : (-2147483648) ≤ (m52 a0 7) ∧ (m52 a0 7) ≤ 2147483647 := zi_rd hIm52 hc0 zb_3_7
                  have e54 : (m52 a0 7) = (m46 45 5) := (zs_eq hmm52)
                  refine zw_ite (fun h55 => ?_) (fun h55 => ?_)
                  · refine zw_bd (zw_eq (zu_call_at (zt_T n) (zm_257 n) (zdp_257 n) _ _ _ _ _ rfl (zr_257_0 n _ _ a0 2 m52)) ?_)
                    generalize hmm56 : zu_up m52 a0 9 2 = m56
                    have hIm56 := zi_up hmm56 hIm52 hc0 zb_3_9 (by omega) (by omega)
                    have hFm56 := zfr_up hmm56 hFm52 hc0 rfl
                    have hRCTm56 := zR_CT_fr (zdis_fr (zfr_up hmm56 (zfr_rf [(3, 10)] _) hc0 rfl) rfl) hRCTm52
                    have hRE19m56 := zR_E19_fr (zdis_fr (zfr_up hmm56 (zfr_rf [(3, 10)] _) hc0 rfl) rfl) hRE19m52
                    have hRG6m56 := zR_G6_fr (zdis_fr (zfr_up hmm56 (zfr_rf [(3, 10)] _) hc0 rfl) rfl) hRG6m52
                    have hRTVm56 := zR_TV_fr (zdis_fr (zfr_up hmm56 (zfr_rf [(3, 10)] _) hc0 rfl) rfl) hRTVm52
                    have r57 : 0 ≤ (m56 45 6) ∧ (m56 45 6) ≤ 700 := zi_rd hIm56 zq_45 zb_9_6
                    generalize hmm58 : zu_up m56 a0 10 (m56 45 6) = m58
                    have hIm58 := zi_up hmm58 hIm56 hc0 zb_3_10 (by omega) (by omega)
                    have hFm58 := zfr_up hmm58 hFm56 hc0 rfl
                    have hRCTm58 := zR_CT_fr (zdis_fr (zfr_up hmm58 (zfr_rf [(3, 11)] _) hc0 rfl) rfl) hRCTm56
                    have hRE19m58 := zR_E19_fr (zdis_fr (zfr_up hmm58 (zfr_rf [(3, 11)] _) hc0 rfl) rfl) hRE19m56
                    have hRG6m58 := zR_G6_fr (zdis_fr (zfr_up hmm58 (zfr_rf [(3, 11)] _) hc0 rfl) rfl) hRG6m56
                    have hRTVm58 := zR_TV_fr (zdis_fr (zfr_up hmm58 (zfr_rf [(3, 11)] _) hc0 rfl) rfl) hRTVm56
                    refine zw_b (by omega) ?_
                    refine zw_some ?_
                    refine zw_ite (fun h59 => ?_) (fun h59 => ?_)
                    · refine zw_b (by omega) ?_
                      refine zw_some ?_
                      refine zw_ite (fun h60 => ?_) (fun h60 => ?_)
                      · exfalso; omega
                      · refine zw_b (by omega) ?_
                        refine zw_some ?_
                        refine zw_ite (fun h61 => ?_) (fun h61 => ?_)
                        · refine zw_b (by omega) ?_
                          exact zw_some ⟨hIm58, hFm58, hRCTm58, hRE19m58, hRG6m58, ⟨by decide, by decide⟩⟩
                        · exfalso; omega
                    · exfalso; omega
                  · refine zw_ite (fun h62 => ?_) (fun h62 => ?_)
                    · refine zw_b (by omega) ?_
                      refine zw_some ?_
                      refine zw_ite (fun h63 => ?_) (fun h63 => ?_)
                      · have r64 : 1 ≤ (m52 6 0) ∧ (m52 6 0) ≤ 8 := zi_rd hIm52 zq_6 zb_4_0
                        have e65 : (m52 6 0) = (m23 6 0) := (Eq.trans (zs_ne hmm52 (Or.inl (zc_ne zq_6 hc0 (by decide)))) (Eq.trans (zfr_ap hfm46 zq_6 rfl) (Eq.trans (zs_ne hmm32 (Or.inl (zc_ne zq_6 hc0 (by decide)))) (zfr_ap hfm26 zq_6 rfl))))
                        have p66 := zmul_bd (x := (m52 a0 7)) (y := (m52 6 0)) (a := 0) (b := 1) (A := 5) (B := 8) (by omega) (by omega) (by omega) (by omega) (by omega) (by omega)
                        have w67 := zu_w32_id (z := (m52 a0 7) * (m52 6 0)) (by omega) (by omega)
                        have w68 := zu_w32_id (z := (zu_w32 ((m52 a0 7) * (m52 6 0))) + (m32 a0 7)) (by omega) (by omega)
                        have r69 : 1 ≤ (m52 6 1) ∧ (m52 6 1) ≤ 6 := zi_rd hIm52 zq_6 zb_4_1
                        have e70 : (m52 6 1) = (m32 6 1) := (Eq.trans (zs_ne hmm52 (Or.inl (zc_ne zq_6 hc0 (by decide)))) (zfr_ap hfm46 zq_6 rfl))
                        have r71 : 1 ≤ (m52 6 2) ∧ (m52 6 2) ≤ 48 := zi_rd hIm52 zq_6 zb_4_2
                        have s72 : (zu_w32 ((zu_w32 ((m52 a0 7) * (m52 6 0))) + (m32 a0 7))) < (m52 6 2) := zcell_lt (n := (m52 a0 7)) (x := (m32 a0 7)) (W := (m52 6 0)) (H := (m52 6 1)) hRG6m52 (by omega) (by omega) (by omega) (by omega) (by omega)
                        generalize hmm73 : zu_up m52 a0 8 (zu_w32 ((zu_w32 ((m52 a0 7) * (m52 6 0))) + (m32 a0 7))) = m73
                        have hIm73 := zi_up hmm73 hIm52 hc0 zb_3_8 (by omega) (by omega)
                        have hFm73 := zfr_up hmm73 hFm52 hc0 rfl
                        have hRCTm73 := zR_CT_fr (zdis_fr (zfr_up hmm73 (zfr_rf [(3, 9)] _) hc0 rfl) rfl) hRCTm52
                        have hRE19m73 := zR_E19_fr (zdis_fr (zfr_up hmm73 (zfr_rf [(3, 9)] _) hc0 rfl) rfl) hRE19m52
                        have hRG6m73 := zR_G6_fr (zdis_fr (zfr_up hmm73 (zfr_rf [(3, 9)] _) hc0 rfl) rfl) hRG6m52
                        have hRTVm73 := zR_TV_fr (zdis_fr (zfr_up hmm73 (zfr_rf [(3, 9)] _) hc0 rfl) rfl) hRTVm52
                        refine zw_b (by omega) ?_
                        refine zw_some ?_
                        refine zw_ite (fun h74 => ?_) (fun h74 => ?_)
                        · exfalso; omega
                        · refine zw_bd (zw_eq (zu_call_at (zt_T n) (zm_260 n) (zdp_260 n) _ _ _ _ _ rfl (zr_260_0 n _ _ a0 1 15 m73)) ?_)
                          refine zw_bd (zw_mono (zk_18 n hIm73 zq_45) (fun v76 m75 hqm75 => ?_))
                          obtain ⟨hIm75, hfm75, hvm75⟩ := hqm75
                          have hFm75 := zfr_tr hFm73 hfm75 rfl
                          obtain ⟨hRTVm75, hvm75⟩ := hvm75
                          have hRCTm75 := zR_CT_fr (zdis_fr hfm75 rfl) hRCTm73
                          have hRE19m75 := zR_E19_fr (zdis_fr hfm75 rfl) hRE19m73
                          have hRG6m75 := zR_G6_fr (zdis_fr hfm75 rfl) hRG6m73
                          have s77 := hRTVm75 45 zq_45
                          have r78 : 0 ≤ (m75 45 4) ∧ (m75 45 4) ≤ 5 := zi_rd hIm75 zq_45 zb_9_4
                          refine zw_ite (fun h79 => ?_) (fun h79 => ?_)
                          · have r80 : (-2147483648) ≤ (m75 45 5) ∧ (m75 45 5) ≤ 2147483647 := zi_rd hIm75 zq_45 zb_9_5
                            generalize hmm81 : zu_up m75 a0 7 (m75 45 5) = m81
                            have hIm81 := zi_up hmm81 hIm75 hc0 zb_3_7 (by omega) (by omega)
                            have hFm81 := zfr_up hmm81 hFm75 hc0 rfl
                            have hRCTm81 := zR_CT_fr (zdis_fr (zfr_up hmm81 (zfr_rf [(3, 8)] _) hc0 rfl) rfl) hRCTm75
                            have hRE19m81 := zR_E19_fr (zdis_fr (zfr_up hmm81 (zfr_rf [(3, 8)] _) hc0 rfl) rfl) hRE19m75
                            have hRG6m81 := zR_G6_fr (zdis_fr (zfr_up hmm81 (zfr_rf [(3, 8)] _) hc0 rfl) rfl) hRG6m75
                            have hRTVm81 := zR_TV_fr (zdis_fr (zfr_up hmm81 (zfr_rf [(3, 8)] _) hc0 rfl) rfl) hRTVm75
                            have r82 : (-2147483648) ≤ (m81 a0 7) ∧ (m81 a0 7) ≤ 2147483647 := zi_rd hIm81 hc0 zb_3_7
                            have e83 : (m81 a0 7) = (m75 45 5) := (zs_eq hmm81)
                            refine zw_ite (fun h84 => ?_) (fun h84 => ?_)
                            · refine zw_bd (zw_eq (zu_call_at (zt_T n) (zm_257 n) (zdp_257 n) _ _ _ _ _ rfl (zr_257_0 n _ _ a0 2 m81)) ?_)
                              generalize hmm85 : zu_up m81 a0 9 2 = m85
                              have hIm85 := zi_up hmm85 hIm81 hc0 zb_3_9 (by omega) (by omega)
                              have hFm85 := zfr_up hmm85 hFm81 hc0 rfl
                              have hRCTm85 := zR_CT_fr (zdis_fr (zfr_up hmm85 (zfr_rf [(3, 10)] _) hc0 rfl) rfl) hRCTm81
                              have hRE19m85 := zR_E19_fr (zdis_fr (zfr_up hmm85 (zfr_rf [(3, 10)] _) hc0 rfl) rfl) hRE19m81
                              have hRG6m85 := zR_G6_fr (zdis_fr (zfr_up hmm85 (zfr_rf [(3, 10)] _) hc0 rfl) rfl) hRG6m81
                              have hRTVm85 := zR_TV_fr (zdis_fr (zfr_up hmm85 (zfr_rf [(3, 10)] _) hc0 rfl) rfl) hRTVm81
                              have r86 : 0 ≤ (m85 45 6) ∧ (m85 45 6) ≤ 700 := zi_rd hIm85 zq_45 zb_9_6
                              generalize hmm87 : zu_up m85 a0 10 (m85 45 6) = m87
                              have hIm87 := zi_up hmm87 hIm85 hc0 zb_3_10 (by omega) (by omega)
                              have hFm87 := zfr_up hmm87 hFm85 hc0 rfl
                              have hRCTm87 := zR_CT_fr (zdis_fr (zfr_up hmm87 (zfr_rf [(3, 11)] _) hc0 rfl) rfl) hRCTm85
                              have hRE19m87 := zR_E19_fr (zdis_fr (zfr_up hmm87 (zfr_rf [(3, 11)] _) hc0 rfl) rfl) hRE19m85
                              have hRG6m87 := zR_G6_fr (zdis_fr (zfr_up hmm87 (zfr_rf [(3, 11)] _) hc0 rfl) rfl) hRG6m85
                              have hRTVm87 := zR_TV_fr (zdis_fr (zfr_up hmm87 (zfr_rf [(3, 11)] _) hc0 rfl) rfl) hRTVm85
                              refine zw_b (by omega) ?_
                              refine zw_some ?_
                              refine zw_ite (fun h88 => ?_) (fun h88 => ?_)
                              · refine zw_b (by omega) ?_
                                refine zw_some ?_
                                refine zw_ite (fun h89 => ?_) (fun h89 => ?_)
                                · exfalso; omega
                                · refine zw_b (by omega) ?_
                                  exact zw_some ⟨hIm87, hFm87, hRCTm87, hRE19m87, hRG6m87, ⟨by decide, by decide⟩⟩
                              · exfalso; omega
                            · refine zw_ite (fun h90 => ?_) (fun h90 => ?_)
                              · refine zw_b (by omega) ?_
                                refine zw_some ?_
                                refine zw_ite (fun h91 => ?_) (fun h91 => ?_)
                                · have r92 : 0 ≤ (m81 a0 8) ∧ (m81 a0 8) ≤ 47 := zi_rd hIm81 hc0 zb_3_8
                                  have e93 : (m81 a0 8) = (zu_w32 ((zu_w32 ((m52 a0 7) * (m52 6 0))) + (m32 a0 7))) := (Eq.trans (zs_ne hmm81 (Or.inr (by decide))) (Eq.trans (zfr_ap hfm75 hc0 rfl) (zs_eq hmm73)))
                                  generalize hmm94 : zu_up m81 (21 + 20 + (m11 19 4)) 1 (m81 a0 8) = m94
                                  have hIm94 := zi_up hmm94 hIm81 (zc_42_e zq_21 b17) zb_8_1 (by omega) (by omega)
                                  have hFm94 := zfr_up hmm94 hFm81 (zc_42_e zq_21 b17) rfl
                                  have hRCTm94 := zR_CT_fr (zdis_fr (zfr_up hmm94 (zfr_rf [(8, 2)] _) (zc_42_e zq_21 b17) rfl) rfl) hRCTm81
                                  have hRG6m94 := zR_G6_fr (zdis_fr (zfr_up hmm94 (zfr_rf [(8, 2)] _) (zc_42_e zq_21 b17) rfl) rfl) hRG6m81
                                  have hRTVm94 := zR_TV_fr (zdis_fr (zfr_up hmm94 (zfr_rf [(8, 2)] _) (zc_42_e zq_21 b17) rfl) rfl) hRTVm81
                                  have r95 : 1 ≤ (m81 6 2) ∧ (m81 6 2) ≤ 48 := zi_rd hIm81 zq_6 zb_4_2
                                  have e96 : (m81 6 2) = (m52 6 2) := (Eq.trans (zs_ne hmm81 (Or.inl (zc_ne zq_6 hc0 (by decide)))) (Eq.trans (zfr_ap hfm75 zq_6 rfl) (zs_ne hmm73 (Or.inl (zc_ne zq_6 hc0 (by decide))))))
                                  have hRE19m94 : zE m94 19 6 := zE_up hmm94 (by omega) hRE19m81
                                  have r97 : (-2147483648) ≤ (m94 a0 7) ∧ (m94 a0 7) ≤ 2147483647 := zi_rd hIm94 hc0 zb_3_7
                                  have e98 : (m94 a0 7) = (m81 a0 7) := (zs_ne hmm94 (Or.inl (zc_ne hc0 (zc_42_e zq_21 b17) (by decide))))
                                  generalize hmm99 : zu_up m94 (21 + 20 + (m11 19 4)) 2 (m94 a0 7) = m99
                                  have hIm99 := zi_up hmm99 hIm94 (zc_42_e zq_21 b17) zb_8_2 (by omega) (by omega)
                                  have hFm99 := zfr_up hmm99 hFm94 (zc_42_e zq_21 b17) rfl
                                  have hRCTm99 := zR_CT_fr (zdis_fr (zfr_up hmm99 (zfr_rf [(8, 3)] _) (zc_42_e zq_21 b17) rfl) rfl) hRCTm94
                                  have hRE19m99 := zR_E19_fr (zdis_fr (zfr_up hmm99 (zfr_rf [(8, 3)] _) (zc_42_e zq_21 b17) rfl) rfl) hRE19m94
                                  have hRG6m99 := zR_G6_fr (zdis_fr (zfr_up hmm99 (zfr_rf [(8, 3)] _) (zc_42_e zq_21 b17) rfl) rfl) hRG6m94
                                  have hRTVm99 := zR_TV_fr (zdis_fr (zfr_up hmm99 (zfr_rf [(8, 3)] _) (zc_42_e zq_21 b17) rfl) rfl) hRTVm94
                                  refine zw_bd (zw_eq (zu_call_at (zt_T n) (zm_260 n) (zdp_260 n) _ _ _ _ _ rfl (zr_260_0 n _ _ a0 0 3 m99)) ?_)
                                  refine zw_bd (zw_mono (zk_18 n hIm99 zq_45) (fun v101 m100 hqm100 => ?_))
                                  obtain ⟨hIm100, hfm100, hvm100⟩ := hqm100
                                  have hFm100 := zfr_tr hFm99 hfm100 rfl
                                  obtain ⟨hRTVm100, hvm100⟩ := hvm100
                                  have hRCTm100 := zR_CT_fr (zdis_fr hfm100 rfl) hRCTm99
                                  have hRE19m100 := zR_E19_fr (zdis_fr hfm100 rfl) hRE19m99
                                  have hRG6m100 := zR_G6_fr (zdis_fr hfm100 rfl) hRG6m99
                                  have s102 := hRTVm100 45 zq_45
                                  have r103 : 0 ≤ (m100 45 4) ∧ (m100 45 4) ≤ 5 := zi_rd hIm100 zq_45 zb_9_4
                                  refine zw_ite (fun h104 => ?_) (fun h104 => ?_)
                                  · have r105 : (-2147483648) ≤ (m100 45 5) ∧ (m100 45 5) ≤ 2147483647 := zi_rd hIm100 zq_45 zb_9_5
                                    generalize hmm106 : zu_up m100 a0 7 (m100 45 5) = m106
                                    have hIm106 := zi_up hmm106 hIm100 hc0 zb_3_7 (by omega) (by omega)
                                    have hFm106 := zfr_up hmm106 hFm100 hc0 rfl
                                    have hRCTm106 := zR_CT_fr (zdis_fr (zfr_up hmm106 (zfr_rf [(3, 8)] _) hc0 rfl) rfl) hRCTm100
                                    have hRE19m106 := zR_E19_fr (zdis_fr (zfr_up hmm106 (zfr_rf [(3, 8)] _) hc0 rfl) rfl) hRE19m100
                                    have hRG6m106 := zR_G6_fr (zdis_fr (zfr_up hmm106 (zfr_rf [(3, 8)] _) hc0 rfl) rfl) hRG6m100
                                    have hRTVm106 := zR_TV_fr (zdis_fr (zfr_up hmm106 (zfr_rf [(3, 8)] _) hc0 rfl) rfl) hRTVm100
                                    have r107 : (-2147483648) ≤ (m106 a0 7) ∧ (m106 a0 7) ≤ 2147483647 := zi_rd hIm106 hc0 zb_3_7
                                    have e108 : (m106 a0 7) = (m100 45 5) := (zs_eq hmm106)
                                    refine zw_ite (fun h109 => ?_) (fun h109 => ?_)
                                    · refine zw_bd (zw_eq (zu_call_at (zt_T n) (zm_257 n) (zdp_257 n) _ _ _ _ _ rfl (zr_257_0 n _ _ a0 2 m106)) ?_)
                                      generalize hmm110 : zu_up m106 a0 9 2 = m110
                                      have hIm110 := zi_up hmm110 hIm106 hc0 zb_3_9 (by omega) (by omega)
                                      have hFm110 := zfr_up hmm110 hFm106 hc0 rfl
                                      have hRCTm110 := zR_CT_fr (zdis_fr (zfr_up hmm110 (zfr_rf [(3, 10)] _) hc0 rfl) rfl) hRCTm106
                                      have hRE19m110 := zR_E19_fr (zdis_fr (zfr_up hmm110 (zfr_rf [(3, 10)] _) hc0 rfl) rfl) hRE19m106
                                      have hRG6m110 := zR_G6_fr (zdis_fr (zfr_up hmm110 (zfr_rf [(3, 10)] _) hc0 rfl) rfl) hRG6m106
                                      have hRTVm110 := zR_TV_fr (zdis_fr (zfr_up hmm110 (zfr_rf [(3, 10)] _) hc0 rfl) rfl) hRTVm106
                                      have r111 : 0 ≤ (m110 45 6) ∧ (m110 45 6) ≤ 700 := zi_rd hIm110 zq_45 zb_9_6
                                      generalize hmm112 : zu_up m110 a0 10 (m110 45 6) = m112
                                      have hIm112 := zi_up hmm112 hIm110 hc0 zb_3_10 (by omega) (by omega)
                                      have hFm112 := zfr_up hmm112 hFm110 hc0 rfl
                                      have hRCTm112 := zR_CT_fr (zdis_fr (zfr_up hmm112 (zfr_rf [(3, 11)] _) hc0 rfl) rfl) hRCTm110
                                      have hRE19m112 := zR_E19_fr (zdis_fr (zfr_up hmm112 (zfr_rf [(3, 11)] _) hc0 rfl) rfl) hRE19m110
                                      have hRG6m112 := zR_G6_fr (zdis_fr (zfr_up hmm112 (zfr_rf [(3, 11)] _) hc0 rfl) rfl) hRG6m110
                                      have hRTVm112 := zR_TV_fr (zdis_fr (zfr_up hmm112 (zfr_rf [(3, 11)] _) hc0 rfl) rfl) hRTVm110
                                      refine zw_b (by omega) ?_
                                      refine zw_some ?_
                                      refine zw_ite (fun h113 => ?_) (fun h113 => ?_)
                                      · refine zw_b (by omega) ?_
                                        refine zw_some ?_
                                        refine zw_ite (fun h114 => ?_) (fun h114 => ?_)
                                        · exfalso; omega
                                        · refine zw_b (by omega) ?_
                                          exact zw_some ⟨hIm112, hFm112, hRCTm112, hRE19m112, hRG6m112, ⟨by decide, by decide⟩⟩
                                      · exfalso; omega
                                    · refine zw_ite (fun h115 => ?_) (fun h115 => ?_)
                                      · refine zw_b (by omega) ?_
                                        refine zw_some ?_
                                        refine zw_ite (fun h116 => ?_) (fun h116 => ?_)
                                        · generalize hmm117 : zu_up m106 (21 + 20 + (m11 19 4)) 3 (m106 a0 7) = m117
                                          have hIm117 := zi_up hmm117 hIm106 (zc_42_e zq_21 b17) zb_8_3 (by omega) (by omega)
                                          have hFm117 := zfr_up hmm117 hFm106 (zc_42_e zq_21 b17) rfl
                                          have hRCTm117 := zR_CT_fr (zdis_fr (zfr_up hmm117 (zfr_rf [(8, 4)] _) (zc_42_e zq_21 b17) rfl) rfl) hRCTm106
                                          have hRE19m117 := zR_E19_fr (zdis_fr (zfr_up hmm117 (zfr_rf [(8, 4)] _) (zc_42_e zq_21 b17) rfl) rfl) hRE19m106
                                          have hRG6m117 := zR_G6_fr (zdis_fr (zfr_up hmm117 (zfr_rf [(8, 4)] _) (zc_42_e zq_21 b17) rfl) rfl) hRG6m106
                                          have hRTVm117 := zR_TV_fr (zdis_fr (zfr_up hmm117 (zfr_rf [(8, 4)] _) (zc_42_e zq_21 b17) rfl) rfl) hRTVm106
                                          refine zw_bd (zw_eq (zu_call_at (zt_T n) (zm_260 n) (zdp_260 n) _ _ _ _ _ rfl (zr_260_0 n _ _ a0 0 99 m117)) ?_)
                                          refine zw_bd (zw_mono (zk_18 n hIm117 zq_45) (fun v119 m118 hqm118 => ?_))
                                          obtain ⟨hIm118, hfm118, hvm118⟩ := hqm118
                                          have hFm118 := zfr_tr hFm117 hfm118 rfl
                                          obtain ⟨hRTVm118, hvm118⟩ := hvm118
                                          have hRCTm118 := zR_CT_fr (zdis_fr hfm118 rfl) hRCTm117
                                          have hRE19m118 := zR_E19_fr (zdis_fr hfm118 rfl) hRE19m117
                                          have hRG6m118 := zR_G6_fr (zdis_fr hfm118 rfl) hRG6m117
                                          have s120 := hRTVm118 45 zq_45
                                          have r121 : 0 ≤ (m118 45 4) ∧ (m118 45 4) ≤ 5 := zi_rd hIm118 zq_45 zb_9_4
                                          refine zw_ite (fun h122 => ?_) (fun h122 => ?_)
                                          · have r123 : (-2147483648) ≤ (m118 45 5) ∧ (m118 45 5) ≤ 2147483647 := zi_rd hIm118 zq_45 zb_9_5
                                            generalize hmm124 : zu_up m118 a0 7 (m118 45 5) = m124
                                            have hIm124 := zi_up hmm124 hIm118 hc0 zb_3_7 (by omega) (by omega)
                                            have hFm124 := zfr_up hmm124 hFm118 hc0 rfl
                                            have hRCTm124 := zR_CT_fr (zdis_fr (zfr_up hmm124 (zfr_rf [(3, 8)] _) hc0 rfl) rfl) hRCTm118
                                            have hRE19m124 := zR_E19_fr (zdis_fr (zfr_up hmm124 (zfr_rf [(3, 8)] _) hc0 rfl) rfl) hRE19m118
                                            have hRG6m124 := zR_G6_fr (zdis_fr (zfr_up hmm124 (zfr_rf [(3, 8)] _) hc0 rfl) rfl) hRG6m118
                                            have hRTVm124 := zR_TV_fr (zdis_fr (zfr_up hmm124 (zfr_rf [(3, 8)] _) hc0 rfl) rfl) hRTVm118
                                            have r125 : (-2147483648) ≤ (m124 a0 7) ∧ (m124 a0 7) ≤ 2147483647 := zi_rd hIm124 hc0 zb_3_7
                                            have e126 : (m124 a0 7) = (m118 45 5) := (zs_eq hmm124)
                                            refine zw_ite (fun h127 => ?_) (fun h127 => ?_)
                                            · refine zw_bd (zw_eq (zu_call_at (zt_T n) (zm_257 n) (zdp_257 n) _ _ _ _ _ rfl (zr_257_0 n _ _ a0 2 m124)) ?_)
                                              generalize hmm128 : zu_up m124 a0 9 2 = m128
                                              have hIm128 := zi_up hmm128 hIm124 hc0 zb_3_9 (by omega) (by omega)
                                              have hFm128 := zfr_up hmm128 hFm124 hc0 rfl
                                              have hRCTm128 := zR_CT_fr (zdis_fr (zfr_up hmm128 (zfr_rf [(3, 10)] _) hc0 rfl) rfl) hRCTm124
                                              have hRE19m128 := zR_E19_fr (zdis_fr (zfr_up hmm128 (zfr_rf [(3, 10)] _) hc0 rfl) rfl) hRE19m124
                                              have hRG6m128 := zR_G6_fr (zdis_fr (zfr_up hmm128 (zfr_rf [(3, 10)] _) hc0 rfl) rfl) hRG6m124
                                              have hRTVm128 := zR_TV_fr (zdis_fr (zfr_up hmm128 (zfr_rf [(3, 10)] _) hc0 rfl) rfl) hRTVm124
                                              have r129 : 0 ≤ (m128 45 6) ∧ (m128 45 6) ≤ 700 := zi_rd hIm128 zq_45 zb_9_6
                                              generalize hmm130 : zu_up m128 a0 10 (m128 45 6) = m130
                                              have hIm130 := zi_up hmm130 hIm128 hc0 zb_3_10 (by omega) (by omega)
                                              have hFm130 := zfr_up hmm130 hFm128 hc0 rfl
                                              have hRCTm130 := zR_CT_fr (zdis_fr (zfr_up hmm130 (zfr_rf [(3, 11)] _) hc0 rfl) rfl) hRCTm128
                                              have hRE19m130 := zR_E19_fr (zdis_fr (zfr_up hmm130 (zfr_rf [(3, 11)] _) hc0 rfl) rfl) hRE19m128
                                              have hRG6m130 := zR_G6_fr (zdis_fr (zfr_up hmm130 (zfr_rf [(3, 11)] _) hc0 rfl) rfl) hRG6m128
                                              have hRTVm130 := zR_TV_fr (zdis_fr (zfr_up hmm130 (zfr_rf [(3, 11)] _) hc0 rfl) rfl) hRTVm128
                                              refine zw_b (by omega) ?_
                                              refine zw_some ?_
                                              refine zw_ite (fun h131 => ?_) (fun h131 => ?_)
                                              · refine zw_b (by omega) ?_
                                                refine zw_some ?_
                                                refine zw_ite (fun h132 => ?_) (fun h132 => ?_)
                                                · exfalso; omega
                                                · refine zw_b (by omega) ?_
                                                  exact zw_some ⟨hIm130, hFm130, hRCTm130, hRE19m130, hRG6m130, ⟨by decide, by decide⟩⟩
                                              · exfalso; omega
                                            · refine zw_ite (fun h133 => ?_) (fun h133 => ?_)
                                              · refine zw_b (by omega) ?_
                                                refine zw_some ?_
                                                refine zw_ite (fun h134 => ?_) (fun h134 => ?_)
                                                · generalize hmm135 : zu_up m124 (21 + 20 + (m11 19 4)) 4 (m124 a0 7) = m135
                                                  have hIm135 := zi_up hmm135 hIm124 (zc_42_e zq_21 b17) zb_8_4 (by omega) (by omega)
                                                  have hFm135 := zfr_up hmm135 hFm124 (zc_42_e zq_21 b17) rfl
                                                  have hRCTm135 := zR_CT_fr (zdis_fr (zfr_up hmm135 (zfr_rf [(8, 5)] _) (zc_42_e zq_21 b17) rfl) rfl) hRCTm124
                                                  have hRE19m135 := zR_E19_fr (zdis_fr (zfr_up hmm135 (zfr_rf [(8, 5)] _) (zc_42_e zq_21 b17) rfl) rfl) hRE19m124
                                                  have hRG6m135 := zR_G6_fr (zdis_fr (zfr_up hmm135 (zfr_rf [(8, 5)] _) (zc_42_e zq_21 b17) rfl) rfl) hRG6m124
                                                  have hRTVm135 := zR_TV_fr (zdis_fr (zfr_up hmm135 (zfr_rf [(8, 5)] _) (zc_42_e zq_21 b17) rfl) rfl) hRTVm124
                                                  have r136 : 0 ≤ (m135 19 4) ∧ (m135 19 4) ≤ 4 := zi_rd hIm135 zq_19 zb_6_4
                                                  have e137 : (m135 19 4) = (m11 19 4) := (Eq.trans (zs_ne hmm135 (Or.inl (zc_ne zq_19 (zc_42_e zq_21 b17) (by decide)))) (Eq.trans (zs_ne hmm124 (Or.inl (zc_ne zq_19 hc0 (by decide)))) (Eq.trans (zfr_ap hfm118 zq_19 rfl) (Eq.trans (zs_ne hmm117 (Or.inl (zc_ne zq_19 (zc_42_e zq_21 b17) (by decide)))) (Eq.trans (zs_ne hmm106 (Or.inl (zc_ne zq_19 hc0 (by decide)))) (Eq.trans (zfr_ap hfm100 zq_19 rfl) (Eq.trans (zs_ne hmm99 (Or.inl (zc_ne zq_19 (zc_42_e zq_21 b17) (by decide)))) (Eq.trans (zs_ne hmm94 (Or.inl (zc_ne zq_19 (zc_42_e zq_21 b17) (by decide)))) (Eq.trans (zs_ne hmm81 (Or.inl (zc_ne zq_19 hc0 (by decide)))) (Eq.trans (zfr_ap hfm75 zq_19 rfl) (Eq.trans (zs_ne hmm73 (Or.inl (zc_ne zq_19 hc0 (by decide)))) (Eq.trans (zs_ne hmm52 (Or.inl (zc_ne zq_19 hc0 (by decide)))) (Eq.trans (zfr_ap hfm46 zq_19 rfl) (Eq.trans (zs_ne hmm32 (Or.inl (zc_ne zq_19 hc0 (by decide)))) (Eq.trans (zfr_ap hfm26 zq_19 rfl) (Eq.trans (zs_ne hmm23 (Or.inl (zc_ne zq_19 hc0 (by decide)))) (Eq.trans (zs_ne hmm22 (Or.inl (zc_ne zq_19 (zc_42_e zq_21 b17) (by decide)))) (Eq.trans (zs_ne hmm21 (Or.inl (zc_ne zq_19 (zc_42_e zq_21 b17) (by decide)))) (zs_ne hmm20 (Or.inl (zc_ne zq_19 (zc_42_e zq_21 b17) (by decide))))))))))))))))))))))
                                                  have w138 := zu_w32_id (z := (m135 19 4) + 1) (by omega) (by omega)
                                                  generalize hmm139 : zu_up m135 19 4 (zu_w32 ((m135 19 4) + 1)) = m139
                                                  have hIm139 := zi_up hmm139 hIm135 zq_19 zb_6_4 (by omega) (by omega)
                                                  have hFm139 := zfr_up hmm139 hFm135 zq_19 rfl
                                                  have hRG6m139 := zR_G6_fr (zdis_fr (zfr_up hmm139 (zfr_rf [(6, 5)] _) zq_19 rfl) rfl) hRG6m135
                                                  have hRTVm139 := zR_TV_fr (zdis_fr (zfr_up hmm139 (zfr_rf [(6, 5)] _) zq_19 rfl) rfl) hRTVm135
                                                  have r140 : 0 ≤ (m135 (21 + 20 + (m11 19 4)) 1) ∧ (m135 (21 + 20 + (m11 19 4)) 1) ≤ 47 := zi_rd hIm135 (zc_42_e zq_21 b17) zb_8_1
                                                  have e141 : (m135 (21 + 20 + (m11 19 4)) 1) = (m81 a0 8) := (Eq.trans (zs_ne hmm135 (Or.inr (by decide))) (Eq.trans (zs_ne hmm124 (Or.inl (zc_ne (zc_42_e zq_21 b17) hc0 (by decide)))) (Eq.trans (zfr_ap hfm118 (zc_42_e zq_21 b17) rfl) (Eq.trans (zs_ne hmm117 (Or.inr (by decide))) (Eq.trans (zs_ne hmm106 (Or.inl (zc_ne (zc_42_e zq_21 b17) hc0 (by decide)))) (Eq.trans (zfr_ap hfm100 (zc_42_e zq_21 b17) rfl) (Eq.trans (zs_ne hmm99 (Or.inr (by decide))) (zs_eq hmm94))))))))
                                                  have r142 : 1 ≤ (m135 6 2) ∧ (m135 6 2) ≤ 48 := zi_rd hIm135 zq_6 zb_4_2
                                                  have e143 : (m135 6 2) = (m81 6 2) := (Eq.trans (zs_ne hmm135 (Or.inl (zc_ne zq_6 (zc_42_e zq_21 b17) (by decide)))) (Eq.trans (zs_ne hmm124 (Or.inl (zc_ne zq_6 hc0 (by decide)))) (Eq.trans (zfr_ap hfm118 zq_6 rfl) (Eq.trans (zs_ne hmm117 (Or.inl (zc_ne zq_6 (zc_42_e zq_21 b17) (by decide)))) (Eq.trans (zs_ne hmm106 (Or.inl (zc_ne zq_6 hc0 (by decide)))) (Eq.trans (zfr_ap hfm100 zq_6 rfl) (Eq.trans (zs_ne hmm99 (Or.inl (zc_ne zq_6 (zc_42_e zq_21 b17) (by decide)))) (zs_ne hmm94 (Or.inl (zc_ne zq_6 (zc_42_e zq_21 b17) (by decide)))))))))))
                                                  have r144 : 0 ≤ (m139 a0 6) ∧ (m139 a0 6) ≤ 1 := zi_rd hIm139 hc0 zb_3_6
                                                  have e145 : (m139 a0 6) = 1 := (Eq.trans (zs_ne hmm139 (Or.inl (zc_ne hc0 zq_19 (by decide)))) (Eq.trans (zs_ne hmm135 (Or.inl (zc_ne hc0 (zc_42_e zq_21 b17) (by decide)))) (Eq.trans (zs_ne hmm124 (Or.inr (by decide))) (Eq.trans (zfr_ap hfm118 hc0 rfl) (Eq.trans (zs_ne hmm117 (Or.inl (zc_ne hc0 (zc_42_e zq_21 b17) (by decide)))) (Eq.trans (zs_ne hmm106 (Or.inr (by decide))) (Eq.trans (zfr_ap hfm100 hc0 rfl) (Eq.trans (zs_ne hmm99 (Or.inl (zc_ne hc0 (zc_42_e zq_21 b17) (by decide)))) (Eq.trans (zs_ne hmm94 (Or.inl (zc_ne hc0 (zc_42_e zq_21 b17) (by decide)))) (Eq.trans (zs_ne hmm81 (Or.inr (by decide))) (Eq.trans (zfr_ap hfm75 hc0 rfl) (Eq.trans (zs_ne hmm73 (Or.inr (by decide))) (Eq.trans (zs_ne hmm52 (Or.inr (by decide))) (Eq.trans (zfr_ap hfm46 hc0 rfl) (Eq.trans (zs_ne hmm32 (Or.inr (by decide))) (Eq.trans (zfr_ap hfm26 hc0 rfl) (zs_eq hmm23)))))))))))))))))
                                                  have hRE19m139 : zE m139 19 6 := zE_inc rfl hmm139 hRE19m135 (by omega) (A := (21 + 20 + (m11 19 4))) (by omega) (by omega) (by decide)
                                                  have hRCTm139 := zCT_n (m := m139) (zone_5 hc0) (by omega)
                                                  refine zw_b (by omega) ?_
                                                  exact zw_some ⟨hIm139, hFm139, hRCTm139, hRE19m139, hRG6m139, ⟨by decide, by decide⟩⟩
                                                · exfalso; omega
                                              · refine zw_bd (zw_eq (zu_call_at (zt_T n) (zm_257 n) (zdp_257 n) _ _ _ _ _ rfl (zr_257_0 n _ _ a0 2 m124)) ?_)
                                                generalize hmm146 : zu_up m124 a0 9 2 = m146
                                                have hIm146 := zi_up hmm146 hIm124 hc0 zb_3_9 (by omega) (by omega)
                                                have hFm146 := zfr_up hmm146 hFm124 hc0 rfl
                                                have hRCTm146 := zR_CT_fr (zdis_fr (zfr_up hmm146 (zfr_rf [(3, 10)] _) hc0 rfl) rfl) hRCTm124
                                                have hRE19m146 := zR_E19_fr (zdis_fr (zfr_up hmm146 (zfr_rf [(3, 10)] _) hc0 rfl) rfl) hRE19m124
                                                have hRG6m146 := zR_G6_fr (zdis_fr (zfr_up hmm146 (zfr_rf [(3, 10)] _) hc0 rfl) rfl) hRG6m124
                                                have hRTVm146 := zR_TV_fr (zdis_fr (zfr_up hmm146 (zfr_rf [(3, 10)] _) hc0 rfl) rfl) hRTVm124
                                                have r147 : 0 ≤ (m146 45 6) ∧ (m146 45 6) ≤ 700 := zi_rd hIm146 zq_45 zb_9_6
                                                generalize hmm148 : zu_up m146 a0 10 (m146 45 6) = m148
                                                have hIm148 := zi_up hmm148 hIm146 hc0 zb_3_10 (by omega) (by omega)
                                                have hFm148 := zfr_up hmm148 hFm146 hc0 rfl
                                                have hRCTm148 := zR_CT_fr (zdis_fr (zfr_up hmm148 (zfr_rf [(3, 11)] _) hc0 rfl) rfl) hRCTm146
                                                have hRE19m148 := zR_E19_fr (zdis_fr (zfr_up hmm148 (zfr_rf [(3, 11)] _) hc0 rfl) rfl) hRE19m146
                                                have hRG6m148 := zR_G6_fr (zdis_fr (zfr_up hmm148 (zfr_rf [(3, 11)] _) hc0 rfl) rfl) hRG6m146
                                                have hRTVm148 := zR_TV_fr (zdis_fr (zfr_up hmm148 (zfr_rf [(3, 11)] _) hc0 rfl) rfl) hRTVm146
                                                refine zw_b (by omega) ?_
                                                refine zw_some ?_
                                                refine zw_ite (fun h149 => ?_) (fun h149 => ?_)
                                                · refine zw_b (by omega) ?_
                                                  refine zw_some ?_
                                                  refine zw_ite (fun h150 => ?_) (fun h150 => ?_)
                                                  · exfalso; omega
                                                  · refine zw_b (by omega) ?_
                                                    exact zw_some ⟨hIm148, hFm148, hRCTm148, hRE19m148, hRG6m148, ⟨by decide, by decide⟩⟩
                                                · exfalso; omega
                                          · refine zw_bd (zw_eq (zu_call_at (zt_T n) (zm_257 n) (zdp_257 n) _ _ _ _ _ rfl (zr_257_0 n _ _ a0 1 m118)) ?_)
                                            generalize hmm151 : zu_up m118 a0 9 1 = m151
                                            have hIm151 := zi_up hmm151 hIm118 hc0 zb_3_9 (by omega) (by omega)
                                            have hFm151 := zfr_up hmm151 hFm118 hc0 rfl
                                            have hRCTm151 := zR_CT_fr (zdis_fr (zfr_up hmm151 (zfr_rf [(3, 10)] _) hc0 rfl) rfl) hRCTm118
                                            have hRE19m151 := zR_E19_fr (zdis_fr (zfr_up hmm151 (zfr_rf [(3, 10)] _) hc0 rfl) rfl) hRE19m118
                                            have hRG6m151 := zR_G6_fr (zdis_fr (zfr_up hmm151 (zfr_rf [(3, 10)] _) hc0 rfl) rfl) hRG6m118
                                            have hRTVm151 := zR_TV_fr (zdis_fr (zfr_up hmm151 (zfr_rf [(3, 10)] _) hc0 rfl) rfl) hRTVm118
                                            have r152 : 0 ≤ (m151 45 6) ∧ (m151 45 6) ≤ 700 := zi_rd hIm151 zq_45 zb_9_6
                                            generalize hmm153 : zu_up m151 a0 10 (m151 45 6) = m153
                                            have hIm153 := zi_up hmm153 hIm151 hc0 zb_3_10 (by omega) (by omega)
                                            have hFm153 := zfr_up hmm153 hFm151 hc0 rfl
                                            have hRCTm153 := zR_CT_fr (zdis_fr (zfr_up hmm153 (zfr_rf [(3, 11)] _) hc0 rfl) rfl) hRCTm151
                                            have hRE19m153 := zR_E19_fr (zdis_fr (zfr_up hmm153 (zfr_rf [(3, 11)] _) hc0 rfl) rfl) hRE19m151
                                            have hRG6m153 := zR_G6_fr (zdis_fr (zfr_up hmm153 (zfr_rf [(3, 11)] _) hc0 rfl) rfl) hRG6m151
                                            have hRTVm153 := zR_TV_fr (zdis_fr (zfr_up hmm153 (zfr_rf [(3, 11)] _) hc0 rfl) rfl) hRTVm151
                                            refine zw_b (by omega) ?_
                                            refine zw_some ?_
                                            refine zw_b (by omega) ?_
                                            refine zw_some ?_
                                            refine zw_ite (fun h154 => ?_) (fun h154 => ?_)
                                            · exfalso; omega
                                            · refine zw_b (by omega) ?_
                                              exact zw_some ⟨hIm153, hFm153, hRCTm153, hRE19m153, hRG6m153, ⟨by decide, by decide⟩⟩
                                        · exfalso; omega
                                      · refine zw_bd (zw_eq (zu_call_at (zt_T n) (zm_257 n) (zdp_257 n) _ _ _ _ _ rfl (zr_257_0 n _ _ a0 2 m106)) ?_)
                                        generalize hmm155 : zu_up m106 a0 9 2 = m155
                                        have hIm155 := zi_up hmm155 hIm106 hc0 zb_3_9 (by omega) (by omega)
                                        have hFm155 := zfr_up hmm155 hFm106 hc0 rfl
                                        have hRCTm155 := zR_CT_fr (zdis_fr (zfr_up hmm155 (zfr_rf [(3, 10)] _) hc0 rfl) rfl) hRCTm106
                                        have hRE19m155 := zR_E19_fr (zdis_fr (zfr_up hmm155 (zfr_rf [(3, 10)] _) hc0 rfl) rfl) hRE19m106
                                        have hRG6m155 := zR_G6_fr (zdis_fr (zfr_up hmm155 (zfr_rf [(3, 10)] _) hc0 rfl) rfl) hRG6m106
                                        have hRTVm155 := zR_TV_fr (zdis_fr (zfr_up hmm155 (zfr_rf [(3, 10)] _) hc0 rfl) rfl) hRTVm106
                                        have r156 : 0 ≤ (m155 45 6) ∧ (m155 45 6) ≤ 700 := zi_rd hIm155 zq_45 zb_9_6
                                        generalize hmm157 : zu_up m155 a0 10 (m155 45 6) = m157
                                        have hIm157 := zi_up hmm157 hIm155 hc0 zb_3_10 (by omega) (by omega)
                                        have hFm157 := zfr_up hmm157 hFm155 hc0 rfl
                                        have hRCTm157 := zR_CT_fr (zdis_fr (zfr_up hmm157 (zfr_rf [(3, 11)] _) hc0 rfl) rfl) hRCTm155
                                        have hRE19m157 := zR_E19_fr (zdis_fr (zfr_up hmm157 (zfr_rf [(3, 11)] _) hc0 rfl) rfl) hRE19m155
                                        have hRG6m157 := zR_G6_fr (zdis_fr (zfr_up hmm157 (zfr_rf [(3, 11)] _) hc0 rfl) rfl) hRG6m155
                                        have hRTVm157 := zR_TV_fr (zdis_fr (zfr_up hmm157 (zfr_rf [(3, 11)] _) hc0 rfl) rfl) hRTVm155
                                        refine zw_b (by omega) ?_
                                        refine zw_some ?_
                                        refine zw_ite (fun h158 => ?_) (fun h158 => ?_)
                                        · refine zw_b (by omega) ?_
                                          refine zw_some ?_
                                          refine zw_ite (fun h159 => ?_) (fun h159 => ?_)
                                          · exfalso; omega
                                          · refine zw_b (by omega) ?_
                                            exact zw_some ⟨hIm157, hFm157, hRCTm157, hRE19m157, hRG6m157, ⟨by decide, by decide⟩⟩
                                        · exfalso; omega
                                  · refine zw_bd (zw_eq (zu_call_at (zt_T n) (zm_257 n) (zdp_257 n) _ _ _ _ _ rfl (zr_257_0 n _ _ a0 1 m100)) ?_)
                                    generalize hmm160 : zu_up m100 a0 9 1 = m160
                                    have hIm160 := zi_up hmm160 hIm100 hc0 zb_3_9 (by omega) (by omega)
                                    have hFm160 := zfr_up hmm160 hFm100 hc0 rfl
                                    have hRCTm160 := zR_CT_fr (zdis_fr (zfr_up hmm160 (zfr_rf [(3, 10)] _) hc0 rfl) rfl) hRCTm100
                                    have hRE19m160 := zR_E19_fr (zdis_fr (zfr_up hmm160 (zfr_rf [(3, 10)] _) hc0 rfl) rfl) hRE19m100
                                    have hRG6m160 := zR_G6_fr (zdis_fr (zfr_up hmm160 (zfr_rf [(3, 10)] _) hc0 rfl) rfl) hRG6m100
                                    have hRTVm160 := zR_TV_fr (zdis_fr (zfr_up hmm160 (zfr_rf [(3, 10)] _) hc0 rfl) rfl) hRTVm100
                                    have r161 : 0 ≤ (m160 45 6) ∧ (m160 45 6) ≤ 700 := zi_rd hIm160 zq_45 zb_9_6
                                    generalize hmm162 : zu_up m160 a0 10 (m160 45 6) = m162
                                    have hIm162 := zi_up hmm162 hIm160 hc0 zb_3_10 (by omega) (by omega)
                                    have hFm162 := zfr_up hmm162 hFm160 hc0 rfl
                                    have hRCTm162 := zR_CT_fr (zdis_fr (zfr_up hmm162 (zfr_rf [(3, 11)] _) hc0 rfl) rfl) hRCTm160
                                    have hRE19m162 := zR_E19_fr (zdis_fr (zfr_up hmm162 (zfr_rf [(3, 11)] _) hc0 rfl) rfl) hRE19m160
                                    have hRG6m162 := zR_G6_fr (zdis_fr (zfr_up hmm162 (zfr_rf [(3, 11)] _) hc0 rfl) rfl) hRG6m160
                                    have hRTVm162 := zR_TV_fr (zdis_fr (zfr_up hmm162 (zfr_rf [(3, 11)] _) hc0 rfl) rfl) hRTVm160
                                    refine zw_b (by omega) ?_
                                    refine zw_some ?_
                                    refine zw_b (by omega) ?_
                                    refine zw_some ?_
                                    refine zw_ite (fun h163 => ?_) (fun h163 => ?_)
                                    · exfalso; omega
                                    · refine zw_b (by omega) ?_
                                      exact zw_some ⟨hIm162, hFm162, hRCTm162, hRE19m162, hRG6m162, ⟨by decide, by decide⟩⟩
                                · exfalso; omega
                              · refine zw_bd (zw_eq (zu_call_at (zt_T n) (zm_257 n) (zdp_257 n) _ _ _ _ _ rfl (zr_257_0 n _ _ a0 2 m81)) ?_)
                                generalize hmm164 : zu_up m81 a0 9 2 = m164
                                have hIm164 := zi_up hmm164 hIm81 hc0 zb_3_9 (by omega) (by omega)
                                have hFm164 := zfr_up hmm164 hFm81 hc0 rfl
                                have hRCTm164 := zR_CT_fr (zdis_fr (zfr_up hmm164 (zfr_rf [(3, 10)] _) hc0 rfl) rfl) hRCTm81
                                have hRE19m164 := zR_E19_fr (zdis_fr (zfr_up hmm164 (zfr_rf [(3, 10)] _) hc0 rfl) rfl) hRE19m81
                                have hRG6m164 := zR_G6_fr (zdis_fr (zfr_up hmm164 (zfr_rf [(3, 10)] _) hc0 rfl) rfl) hRG6m81
                                have hRTVm164 := zR_TV_fr (zdis_fr (zfr_up hmm164 (zfr_rf [(3, 10)] _) hc0 rfl) rfl) hRTVm81
                                have r165 : 0 ≤ (m164 45 6) ∧ (m164 45 6) ≤ 700 := zi_rd hIm164 zq_45 zb_9_6
                                generalize hmm166 : zu_up m164 a0 10 (m164 45 6) = m166
                                have hIm166 := zi_up hmm166 hIm164 hc0 zb_3_10 (by omega) (by omega)
                                have hFm166 := zfr_up hmm166 hFm164 hc0 rfl
                                have hRCTm166 := zR_CT_fr (zdis_fr (zfr_up hmm166 (zfr_rf [(3, 11)] _) hc0 rfl) rfl) hRCTm164
                                have hRE19m166 := zR_E19_fr (zdis_fr (zfr_up hmm166 (zfr_rf [(3, 11)] _) hc0 rfl) rfl) hRE19m164
                                have hRG6m166 := zR_G6_fr (zdis_fr (zfr_up hmm166 (zfr_rf [(3, 11)] _) hc0 rfl) rfl) hRG6m164
                                have hRTVm166 := zR_TV_fr (zdis_fr (zfr_up hmm166 (zfr_rf [(3, 11)] _) hc0 rfl) rfl) hRTVm164
                                refine zw_b (by omega) ?_
                                refine zw_some ?_
                                refine zw_ite (fun h167 => ?_) (fun h167 => ?_)
                                · refine zw_b (by omega) ?_
                                  refine zw_some ?_
                                  refine zw_ite (fun h168 => ?_) (fun h168 => ?_)
                                  · exfalso; omega
                                  · refine zw_b (by omega) ?_
                                    exact zw_some ⟨hIm166, hFm166, hRCTm166, hRE19m166, hRG6m166, ⟨by decide, by decide⟩⟩
                                · exfalso; omega
                          · refine zw_bd (zw_eq (zu_call_at (zt_T n) (zm_257 n) (zdp_257 n) _ _ _ _ _ rfl (zr_257_0 n _ _ a0 1 m75)) ?_)
                            generalize hmm169 : zu_up m75 a0 9 1 = m169
                            have hIm169 := zi_up hmm169 hIm75 hc0 zb_3_9 (by omega) (by omega)
                            have hFm169 := zfr_up hmm169 hFm75 hc0 rfl
                            have hRCTm169 := zR_CT_fr (zdis_fr (zfr_up hmm169 (zfr_rf [(3, 10)] _) hc0 rfl) rfl) hRCTm75
                            have hRE19m169 := zR_E19_fr (zdis_fr (zfr_up hmm169 (zfr_rf [(3, 10)] _) hc0 rfl) rfl) hRE19m75
                            have hRG6m169 := zR_G6_fr (zdis_fr (zfr_up hmm169 (zfr_rf [(3, 10)] _) hc0 rfl) rfl) hRG6m75
                            have hRTVm169 := zR_TV_fr (zdis_fr (zfr_up hmm169 (zfr_rf [(3, 10)] _) hc0 rfl) rfl) hRTVm75
                            have r170 : 0 ≤ (m169 45 6) ∧ (m169 45 6) ≤ 700 := zi_rd hIm169 zq_45 zb_9_6
                            generalize hmm171 : zu_up m169 a0 10 (m169 45 6) = m171
                            have hIm171 := zi_up hmm171 hIm169 hc0 zb_3_10 (by omega) (by omega)
                            have hFm171 := zfr_up hmm171 hFm169 hc0 rfl
                            have hRCTm171 := zR_CT_fr (zdis_fr (zfr_up hmm171 (zfr_rf [(3, 11)] _) hc0 rfl) rfl) hRCTm169
                            have hRE19m171 := zR_E19_fr (zdis_fr (zfr_up hmm171 (zfr_rf [(3, 11)] _) hc0 rfl) rfl) hRE19m169
                            have hRG6m171 := zR_G6_fr (zdis_fr (zfr_up hmm171 (zfr_rf [(3, 11)] _) hc0 rfl) rfl) hRG6m169
                            have hRTVm171 := zR_TV_fr (zdis_fr (zfr_up hmm171 (zfr_rf [(3, 11)] _) hc0 rfl) rfl) hRTVm169
                            refine zw_b (by omega) ?_
                            refine zw_some ?_
                            refine zw_b (by omega) ?_
                            refine zw_some ?_
                            refine zw_ite (fun h172 => ?_) (fun h172 => ?_)
                            · exfalso; omega
                            · refine zw_b (by omega) ?_
                              exact zw_some ⟨hIm171, hFm171, hRCTm171, hRE19m171, hRG6m171, ⟨by decide, by decide⟩⟩
                      · exfalso; omega
                    · refine zw_bd (zw_eq (zu_call_at (zt_T n) (zm_257 n) (zdp_257 n) _ _ _ _ _ rfl (zr_257_0 n _ _ a0 2 m52)) ?_)
                      generalize hmm173 : zu_up m52 a0 9 2 = m173
                      have hIm173 := zi_up hmm173 hIm52 hc0 zb_3_9 (by omega) (by omega)
                      have hFm173 := zfr_up hmm173 hFm52 hc0 rfl
                      have hRCTm173 := zR_CT_fr (zdis_fr (zfr_up hmm173 (zfr_rf [(3, 10)] _) hc0 rfl) rfl) hRCTm52
                      have hRE19m173 := zR_E19_fr (zdis_fr (zfr_up hmm173 (zfr_rf [(3, 10)] _) hc0 rfl) rfl) hRE19m52
                      have hRG6m173 := zR_G6_fr (zdis_fr (zfr_up hmm173 (zfr_rf [(3, 10)] _) hc0 rfl) rfl) hRG6m52
                      have hRTVm173 := zR_TV_fr (zdis_fr (zfr_up hmm173 (zfr_rf [(3, 10)] _) hc0 rfl) rfl) hRTVm52
                      have r174 : 0 ≤ (m173 45 6) ∧ (m173 45 6) ≤ 700 := zi_rd hIm173 zq_45 zb_9_6
                      generalize hmm175 : zu_up m173 a0 10 (m173 45 6) = m175
                      have hIm175 := zi_up hmm175 hIm173 hc0 zb_3_10 (by omega) (by omega)
                      have hFm175 := zfr_up hmm175 hFm173 hc0 rfl
                      have hRCTm175 := zR_CT_fr (zdis_fr (zfr_up hmm175 (zfr_rf [(3, 11)] _) hc0 rfl) rfl) hRCTm173
                      have hRE19m175 := zR_E19_fr (zdis_fr (zfr_up hmm175 (zfr_rf [(3, 11)] _) hc0 rfl) rfl) hRE19m173
                      have hRG6m175 := zR_G6_fr (zdis_fr (zfr_up hmm175 (zfr_rf [(3, 11)] _) hc0 rfl) rfl) hRG6m173
                      have hRTVm175 := zR_TV_fr (zdis_fr (zfr_up hmm175 (zfr_rf [(3, 11)] _) hc0 rfl) rfl) hRTVm173
                      refine zw_b (by omega) ?_
                      refine zw_some ?_
                      refine zw_ite (fun h176 => ?_) (fun h176 => ?_)
                      · refine zw_b (by omega) ?_
                        refine zw_some ?_
                        refine zw_ite (fun h177 => ?_) (fun h177 => ?_)
                        · exfalso; omega
                        · refine zw_b (by omega) ?_
                          refine zw_some ?_
                          refine zw_ite (fun h178 => ?_) (fun h178 => ?_)
                          · refine zw_b (by omega) ?_
                            exact zw_some ⟨hIm175, hFm175, hRCTm175, hRE19m175, hRG6m175, ⟨by decide, by decide⟩⟩
                          · exfalso; omega
                      · exfalso; omega
                · refine zw_bd (zw_eq (zu_call_at (zt_T n) (zm_257 n) (zdp_257 n) _ _ _ _ _ rfl (zr_257_0 n _ _ a0 1 m46)) ?_)
                  generalize hmm179 : zu_up m46 a0 9 1 = m179
                  have hIm179 := zi_up hmm179 hIm46 hc0 zb_3_9 (by omega) (by omega)
                  have hFm179 := zfr_up hmm179 hFm46 hc0 rfl
                  have hRCTm179 := zR_CT_fr (zdis_fr (zfr_up hmm179 (zfr_rf [(3, 10)] _) hc0 rfl) rfl) hRCTm46
                  have hRE19m179 := zR_E19_fr (zdis_fr (zfr_up hmm179 (zfr_rf [(3, 10)] _) hc0 rfl) rfl) hRE19m46
                  have hRG6m179 := zR_G6_fr (zdis_fr (zfr_up hmm179 (zfr_rf [(3, 10)] _) hc0 rfl) rfl) hRG6m46
                  have hRTVm179 := zR_TV_fr (zdis_fr (zfr_up hmm179 (zfr_rf [(3, 10)] _) hc0 rfl) rfl) hRTVm46
                  have r180 : 0 ≤ (m179 45 6) ∧ (m179 45 6) ≤ 700 := zi_rd hIm179 zq_45 zb_9_6
                  generalize hmm181 : zu_up m179 a0 10 (m179 45 6) = m181
                  have hIm181 := zi_up hmm181 hIm179 hc0 zb_3_10 (by omega) (by omega)
                  have hFm181 := zfr_up hmm181 hFm179 hc0 rfl
                  have hRCTm181 := zR_CT_fr (zdis_fr (zfr_up hmm181 (zfr_rf [(3, 11)] _) hc0 rfl) rfl) hRCTm179
                  have hRE19m181 := zR_E19_fr (zdis_fr (zfr_up hmm181 (zfr_rf [(3, 11)] _) hc0 rfl) rfl) hRE19m179
                  have hRG6m181 := zR_G6_fr (zdis_fr (zfr_up hmm181 (zfr_rf [(3, 11)] _) hc0 rfl) rfl) hRG6m179
                  have hRTVm181 := zR_TV_fr (zdis_fr (zfr_up hmm181 (zfr_rf [(3, 11)] _) hc0 rfl) rfl) hRTVm179
                  refine zw_b (by omega) ?_
                  refine zw_some ?_
                  refine zw_b (by omega) ?_
                  refine zw_some ?_
                  refine zw_ite (fun h182 => ?_) (fun h182 => ?_)
                  · exfalso; omega
                  · refine zw_b (by omega) ?_
                    refine zw_some ?_
                    refine zw_ite (fun h183 => ?_) (fun h183 => ?_)
                    · refine zw_b (by omega) ?_
                      exact zw_some ⟨hIm181, hFm181, hRCTm181, hRE19m181, hRG6m181, ⟨by decide, by decide⟩⟩
                    · exfalso; omega
              · exfalso; omega
            · refine zw_bd (zw_eq (zu_call_at (zt_T n) (zm_257 n) (zdp_257 n) _ _ _ _ _ rfl (zr_257_0 n _ _ a0 2 m32)) ?_)
              generalize hmm184 : zu_up m32 a0 9 2 = m184
              have hIm184 := zi_up hmm184 hIm32 hc0 zb_3_9 (by omega) (by omega)
              have hFm184 := zfr_up hmm184 hFm32 hc0 rfl
              have hRCTm184 := zR_CT_fr (zdis_fr (zfr_up hmm184 (zfr_rf [(3, 10)] _) hc0 rfl) rfl) hRCTm32
              have hRE19m184 := zR_E19_fr (zdis_fr (zfr_up hmm184 (zfr_rf [(3, 10)] _) hc0 rfl) rfl) hRE19m32
              have hRG6m184 := zR_G6_fr (zdis_fr (zfr_up hmm184 (zfr_rf [(3, 10)] _) hc0 rfl) rfl) hRG6m32
              have hRTVm184 := zR_TV_fr (zdis_fr (zfr_up hmm184 (zfr_rf [(3, 10)] _) hc0 rfl) rfl) hRTVm32
              have r185 : 0 ≤ (m184 45 6) ∧ (m184 45 6) ≤ 700 := zi_rd hIm184 zq_45 zb_9_6
              generalize hmm186 : zu_up m184 a0 10 (m184 45 6) = m186
              have hIm186 := zi_up hmm186 hIm184 hc0 zb_3_10 (by omega) (by omega)
              have hFm186 := zfr_up hmm186 hFm184 hc0 rfl
              have hRCTm186 := zR_CT_fr (zdis_fr (zfr_up hmm186 (zfr_rf [(3, 11)] _) hc0 rfl) rfl) hRCTm184
              have hRE19m186 := zR_E19_fr (zdis_fr (zfr_up hmm186 (zfr_rf [(3, 11)] _) hc0 rfl) rfl) hRE19m184
              have hRG6m186 := zR_G6_fr (zdis_fr (zfr_up hmm186 (zfr_rf [(3, 11)] _) hc0 rfl) rfl) hRG6m184
              have hRTVm186 := zR_TV_fr (zdis_fr (zfr_up hmm186 (zfr_rf [(3, 11)] _) hc0 rfl) rfl) hRTVm184
              refine zw_b (by omega) ?_
              refine zw_some ?_
              refine zw_ite (fun h187 => ?_) (fun h187 => ?_)
              · refine zw_b (by omega) ?_
                refine zw_some ?_
                refine zw_ite (fun h188 => ?_) (fun h188 => ?_)
                · exfalso; omega
                · refine zw_b (by omega) ?_
                  refine zw_some ?_
                  refine zw_ite (fun h189 => ?_) (fun h189 => ?_)
                  · refine zw_b (by omega) ?_
                    exact zw_some ⟨hIm186, hFm186, hRCTm186, hRE19m186, hRG6m186, ⟨by decide, by decide⟩⟩
                  · exfalso; omega
              · exfalso; omega
        · refine zw_bd (zw_eq (zu_call_at (zt_T n) (zm_257 n) (zdp_257 n) _ _ _ _ _ rfl (zr_257_0 n _ _ a0 1 m26)) ?_)
          generalize hmm190 : zu_up m26 a0 9 1 = m190
          have hIm190 := zi_up hmm190 hIm26 hc0 zb_3_9 (by omega) (by omega)
          have hFm190 := zfr_up hmm190 hFm26 hc0 rfl
          have hRCTm190 := zR_CT_fr (zdis_fr (zfr_up hmm190 (zfr_rf [(3, 10)] _) hc0 rfl) rfl) hRCTm26
          have hRE19m190 := zR_E19_fr (zdis_fr (zfr_up hmm190 (zfr_rf [(3, 10)] _) hc0 rfl) rfl) hRE19m26
          have hRG6m190 := zR_G6_fr (zdis_fr (zfr_up hmm190 (zfr_rf [(3, 10)] _) hc0 rfl) rfl) hRG6m26
          have hRTVm190 := zR_TV_fr (zdis_fr (zfr_up hmm190 (zfr_rf [(3, 10)] _) hc0 rfl) rfl) hRTVm26
          have r191 : 0 ≤ (m190 45 6) ∧ (m190 45 6) ≤ 700 := zi_rd hIm190 zq_45 zb_9_6
          generalize hmm192 : zu_up m190 a0 10 (m190 45 6) = m192
          have hIm192 := zi_up hmm192 hIm190 hc0 zb_3_10 (by omega) (by omega)
          have hFm192 := zfr_up hmm192 hFm190 hc0 rfl
          have hRCTm192 := zR_CT_fr (zdis_fr (zfr_up hmm192 (zfr_rf [(3, 11)] _) hc0 rfl) rfl) hRCTm190
          have hRE19m192 := zR_E19_fr (zdis_fr (zfr_up hmm192 (zfr_rf [(3, 11)] _) hc0 rfl) rfl) hRE19m190
          have hRG6m192 := zR_G6_fr (zdis_fr (zfr_up hmm192 (zfr_rf [(3, 11)] _) hc0 rfl) rfl) hRG6m190
          have hRTVm192 := zR_TV_fr (zdis_fr (zfr_up hmm192 (zfr_rf [(3, 11)] _) hc0 rfl) rfl) hRTVm190
          refine zw_b (by omega) ?_
          refine zw_some ?_
          refine zw_b (by omega) ?_
          refine zw_some ?_
          refine zw_ite (fun h193 => ?_) (fun h193 => ?_)
          · exfalso; omega
          · refine zw_b (by omega) ?_
            refine zw_some ?_
            refine zw_ite (fun h194 => ?_) (fun h194 => ?_)
            · refine zw_b (by omega) ?_
              exact zw_some ⟨hIm192, hFm192, hRCTm192, hRE19m192, hRG6m192, ⟨by decide, by decide⟩⟩
            · exfalso; omega
      · refine zw_bd (zw_eq (zu_call_at (zt_T n) (zm_257 n) (zdp_257 n) _ _ _ _ _ rfl (zr_257_0 n _ _ a0 3 m11)) ?_)
        generalize hmm195 : zu_up m11 a0 9 3 = m195
        have hIm195 := zi_up hmm195 hIm11 hc0 zb_3_9 (by omega) (by omega)
        have hFm195 := zfr_up hmm195 hFm11 hc0 rfl
        have hRCTm195 := zR_CT_fr (zdis_fr (zfr_up hmm195 (zfr_rf [(3, 10)] _) hc0 rfl) rfl) hRCTm11
        have hRE19m195 := zR_E19_fr (zdis_fr (zfr_up hmm195 (zfr_rf [(3, 10)] _) hc0 rfl) rfl) hRE19m11
        have hRG6m195 := zR_G6_fr (zdis_fr (zfr_up hmm195 (zfr_rf [(3, 10)] _) hc0 rfl) rfl) hRG6m11
        have hRTVm195 := zR_TV_fr (zdis_fr (zfr_up hmm195 (zfr_rf [(3, 10)] _) hc0 rfl) rfl) hRTVm11
        have r196 : 0 ≤ (m195 45 6) ∧ (m195 45 6) ≤ 700 := zi_rd hIm195 zq_45 zb_9_6
        generalize hmm197 : zu_up m195 a0 10 (m195 45 6) = m197
        have hIm197 := zi_up hmm197 hIm195 hc0 zb_3_10 (by omega) (by omega)
        have hFm197 := zfr_up hmm197 hFm195 hc0 rfl
        have hRCTm197 := zR_CT_fr (zdis_fr (zfr_up hmm197 (zfr_rf [(3, 11)] _) hc0 rfl) rfl) hRCTm195
        have hRE19m197 := zR_E19_fr (zdis_fr (zfr_up hmm197 (zfr_rf [(3, 11)] _) hc0 rfl) rfl) hRE19m195
        have hRG6m197 := zR_G6_fr (zdis_fr (zfr_up hmm197 (zfr_rf [(3, 11)] _) hc0 rfl) rfl) hRG6m195
        have hRTVm197 := zR_TV_fr (zdis_fr (zfr_up hmm197 (zfr_rf [(3, 11)] _) hc0 rfl) rfl) hRTVm195
        refine zw_b (by omega) ?_
        refine zw_some ?_
        refine zw_b (by omega) ?_
        exact zw_some ⟨hIm197, hFm197, hRCTm197, hRE19m197, hRG6m197, ⟨by decide, by decide⟩⟩
    · refine zw_bd (zw_eq (zu_call_at (zt_T n) (zm_257 n) (zdp_257 n) _ _ _ _ _ rfl (zr_257_0 n _ _ a0 1 m3)) ?_)
      generalize hmm198 : zu_up m3 a0 9 1 = m198
      have hIm198 := zi_up hmm198 hIm3 hc0 zb_3_9 (by omega) (by omega)
      have hFm198 := zfr_up hmm198 hFm3 hc0 rfl
      have hRCTm198 := zR_CT_fr (zdis_fr (zfr_up hmm198 (zfr_rf [(3, 10)] _) hc0 rfl) rfl) hRCTm3
      have hRE19m198 := zR_E19_fr (zdis_fr (zfr_up hmm198 (zfr_rf [(3, 10)] _) hc0 rfl) rfl) hRE19m3
      have hRG6m198 := zR_G6_fr (zdis_fr (zfr_up hmm198 (zfr_rf [(3, 10)] _) hc0 rfl) rfl) hRG6m3
      have hRTVm198 := zR_TV_fr (zdis_fr (zfr_up hmm198 (zfr_rf [(3, 10)] _) hc0 rfl) rfl) hRTVm3
      have r199 : 0 ≤ (m198 45 6) ∧ (m198 45 6) ≤ 700 := zi_rd hIm198 zq_45 zb_9_6
      generalize hmm200 : zu_up m198 a0 10 (m198 45 6) = m200
      have hIm200 := zi_up hmm200 hIm198 hc0 zb_3_10 (by omega) (by omega)
      have hFm200 := zfr_up hmm200 hFm198 hc0 rfl
      have hRCTm200 := zR_CT_fr (zdis_fr (zfr_up hmm200 (zfr_rf [(3, 11)] _) hc0 rfl) rfl) hRCTm198
      have hRE19m200 := zR_E19_fr (zdis_fr (zfr_up hmm200 (zfr_rf [(3, 11)] _) hc0 rfl) rfl) hRE19m198
      have hRG6m200 := zR_G6_fr (zdis_fr (zfr_up hmm200 (zfr_rf [(3, 11)] _) hc0 rfl) rfl) hRG6m198
      have hRTVm200 := zR_TV_fr (zdis_fr (zfr_up hmm200 (zfr_rf [(3, 11)] _) hc0 rfl) rfl) hRTVm198
      refine zw_b (by omega) ?_
      refine zw_some ?_
      refine zw_b (by omega) ?_
      exact zw_some ⟨hIm200, hFm200, hRCTm200, hRE19m200, hRG6m200, ⟨by decide, by decide⟩⟩
  · refine zw_bd (zw_eq (zu_call_at (zt_T n) (zm_257 n) (zdp_257 n) _ _ _ _ _ rfl (zr_257_0 n _ _ a0 2 m0)) ?_)
    generalize hmm201 : zu_up m0 a0 9 2 = m201
    have hIm201 := zi_up hmm201 hIm0 hc0 zb_3_9 (by omega) (by omega)
    have hFm201 := zfr_up hmm201 hFm0 hc0 rfl
    have hRCTm201 := zR_CT_fr (zdis_fr (zfr_up hmm201 (zfr_rf [(3, 10)] _) hc0 rfl) rfl) hRCTm0
    have hRE19m201 := zR_E19_fr (zdis_fr (zfr_up hmm201 (zfr_rf [(3, 10)] _) hc0 rfl) rfl) hRE19m0
    have hRG6m201 := zR_G6_fr (zdis_fr (zfr_up hmm201 (zfr_rf [(3, 10)] _) hc0 rfl) rfl) hRG6m0
    have r202 : 0 ≤ (m201 45 6) ∧ (m201 45 6) ≤ 700 := zi_rd hIm201 zq_45 zb_9_6
    generalize hmm203 : zu_up m201 a0 10 (m201 45 6) = m203
    have hIm203 := zi_up hmm203 hIm201 hc0 zb_3_10 (by omega) (by omega)
    have hFm203 := zfr_up hmm203 hFm201 hc0 rfl
    have hRCTm203 := zR_CT_fr (zdis_fr (zfr_up hmm203 (zfr_rf [(3, 11)] _) hc0 rfl) rfl) hRCTm201
    have hRE19m203 := zR_E19_fr (zdis_fr (zfr_up hmm203 (zfr_rf [(3, 11)] _) hc0 rfl) rfl) hRE19m201
    have hRG6m203 := zR_G6_fr (zdis_fr (zfr_up hmm203 (zfr_rf [(3, 11)] _) hc0 rfl) rfl) hRG6m201
    refine zw_b (by omega) ?_
    refine zw_some ?_
    refine zw_b (by omega) ?_
    exact zw_some ⟨hIm203, hFm203, hRCTm203, hRE19m203, hRG6m203, ⟨by decide, by decide⟩⟩

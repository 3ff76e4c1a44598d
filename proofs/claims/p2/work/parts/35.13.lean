set_option maxHeartbeats 4000000 in
theorem zk_100 (n : Nat) {a0 a1 : Int} {m0 : zu_m} (hIm0 : zi_I m0) (hc0 : zcls a0 = 28) (ha1 : (-2147483648) ≤ a1 ∧ a1 ≤ 2147483647)  (he0 : 1 ≤ m0 a0 8 ∧ m0 a0 8 ≤ 1) (he1 : (-2147483648) ≤ m0 a0 9 ∧ m0 a0 9 ≤ 3)  (hRNSm0 : zR_NS m0) (hRWDm0 : zR_WD m0) : zw (zu_call (zt_T n) 100 [(40, a0), (0, a1)] m0) (fun v m => zi_I m ∧ zfr [(28, 5), (28, 6), (28, 8), (28, 9), (28, 10), (28, 11), (28, 12), (28, 23), (28, 24), (28, 43), (104, 0), (105, 0)] m0 m ∧ zR_NS m ∧ zR_WD m ∧ (0 ≤ v ∧ v ≤ 1) ∧ ((m0 a0 7) ≤ (m a0 7)) ∧ (v = 1 → ((m a0 8) = 0 ∨ (m0 a0 7) < (m a0 7)))) := by
  have hFm0 : zfr [(28, 5), (28, 6), (28, 8), (28, 9), (28, 10), (28, 11), (28, 12), (28, 23), (28, 24), (28, 43), (104, 0), (105, 0)] m0 m0 := zfr_rf _ _
  have s1 := hRNSm0 a0 hc0
  refine zw_eq (zu_call_at (zt_T n) (zm_100 n) (zdp_100 n) _ _ _ _ _ rfl (zr_100_0 n _ _ a0 a1 m0)) ?_
  have r2 : 0 ≤ (m0 a0 22) ∧ (m0 a0 22) ≤ 16 := zi_rd hIm0 hc0 zb_28_22
  refine zw_ite (fun h3 => ?_) (fun h3 => ?_)
  · refine zw_bd (zw_mono (zk_89 n hIm0 hc0 hRNSm0 hRWDm0) (fun v5 m4 hqm4 => ?_))
    obtain ⟨hIm4, hfm4, hvm4⟩ := hqm4
    have hFm4 := zfr_tr hFm0 hfm4 rfl
    obtain ⟨hRNSm4, hRTRm4, hRWDm4, hvm4⟩ := hvm4
    have s6 := hRNSm4 a0 hc0
    have s7 := hRTRm4 a0 hc0
    refine zw_bd (zw_eq (zu_call_at (zt_T n) (zm_96 n) (zdp_96 n) _ _ _ _ _ rfl (zr_96_0 n _ _ a0 m4)) ?_)
    refine zw_b (by omega) ?_
    generalize hmm8 : zu_up m4 a0 23 1 = m8
    have hIm8 := zi_up hmm8 hIm4 hc0 zb_28_23 (by omega) (by omega)
    have hFm8 := zfr_up hmm8 hFm4 hc0 rfl
    have hRNSm8 := zR_NS_fr (zdis_fr (zfr_up hmm8 (zfr_rf [(28, 24)] _) hc0 rfl) rfl) hRNSm4
    have hRTRm8 := zR_TR_fr (zdis_fr (zfr_up hmm8 (zfr_rf [(28, 24)] _) hc0 rfl) rfl) hRTRm4
    have hRWDm8 := zR_WD_fr (zdis_fr (zfr_up hmm8 (zfr_rf [(28, 24)] _) hc0 rfl) rfl) hRWDm4
    have r9 : 1 ≤ (m8 a0 17) ∧ (m8 a0 17) ≤ 8 := zi_rd hIm8 hc0 zb_28_17
    have w10 := zu_w32_id (z := (m8 a0 17) - 1) (by omega) (by omega)
    refine zw_bd (zw_eq (zu_call_at (zt_T n) (zm_94 n) (zdp_94 n) _ _ _ _ _ rfl (zr_94_0 n _ _ a0 0 (zu_w32 ((m8 a0 17) - 1)) m8)) ?_)
    have r11 : 0 ≤ (m8 a0 8) ∧ (m8 a0 8) ≤ 6 := zi_rd hIm8 hc0 zb_28_8
    refine zw_ite (fun h12 => ?_) (fun h12 => ?_)
    · have r13 : (-2147483648) ≤ (m8 a0 9) ∧ (m8 a0 9) ≤ 2147483647 := zi_rd hIm8 hc0 zb_28_9
      refine zw_bd (zw_eq (zu_call_at (zt_T n) (zm_83 n) (zdp_83 n) _ _ _ _ _ rfl (zr_83_0 n _ _ (m8 a0 9) 0 (zu_w32 ((m8 a0 17) - 1)) m8)) ?_)
      refine zw_ite (fun h14 => ?_) (fun h14 => ?_)
      · refine zw_b (by omega) ?_
        refine zw_some ?_
        refine zw_ite (fun h15 => ?_) (fun h15 => ?_)
        · exfalso; omega
        · refine zw_bd (zw_eq (zu_call_at (zt_T n) (zm_85 n) (zdp_85 n) _ _ _ _ _ rfl (zr_85_0 n _ _ a0 2 m8)) ?_)
          generalize hmm16 : zu_up m8 a0 4 2 = m16
          have hIm16 := zi_up hmm16 hIm8 hc0 zb_28_4 (by omega) (by omega)
          have hFm16 := zfr_up hmm16 hFm8 hc0 rfl
          have hRNSm16 := zR_NS_fr (zdis_fr (zfr_up hmm16 (zfr_rf [(28, 5)] _) hc0 rfl) rfl) hRNSm8
          have hRTRm16 := zR_TR_fr (zdis_fr (zfr_up hmm16 (zfr_rf [(28, 5)] _) hc0 rfl) rfl) hRTRm8
          have hRWDm16 := zR_WD_fr (zdis_fr (zfr_up hmm16 (zfr_rf [(28, 5)] _) hc0 rfl) rfl) hRWDm8
          have r17 : 0 ≤ (m16 a0 10) ∧ (m16 a0 10) ≤ 700 := zi_rd hIm16 hc0 zb_28_10
          generalize hmm18 : zu_up m16 a0 5 (m16 a0 10) = m18
          have hIm18 := zi_up hmm18 hIm16 hc0 zb_28_5 (by omega) (by omega)
          have hFm18 := zfr_up hmm18 hFm16 hc0 rfl
          have hRNSm18 := zR_NS_fr (zdis_fr (zfr_up hmm18 (zfr_rf [(28, 6)] _) hc0 rfl) rfl) hRNSm16
          have hRTRm18 := zR_TR_fr (zdis_fr (zfr_up hmm18 (zfr_rf [(28, 6)] _) hc0 rfl) rfl) hRTRm16
          have hRWDm18 := zR_WD_fr (zdis_fr (zfr_up hmm18 (zfr_rf [(28, 6)] _) hc0 rfl) rfl) hRWDm16
          refine zw_b (by omega) ?_
          refine zw_some ?_
          refine zw_b (by omega) ?_
          refine zw_some ?_
          refine zw_ite (fun h19 => ?_) (fun h19 => ?_)
          · exfalso; omega
          · refine zw_b (by omega) ?_
            refine zw_some ?_
            refine zw_ite (fun h20 => ?_) (fun h20 => ?_)
            · exfalso; omega
            · refine zw_b (by omega) ?_
              have r21 : 0 ≤ (m18 a0 7) ∧ (m18 a0 7) ≤ 700 := zi_rd hIm18 hc0 zb_28_7
              have r22 : 0 ≤ (m18 a0 8) ∧ (m18 a0 8) ≤ 6 := zi_rd hIm18 hc0 zb_28_8
              have e23 : (m18 a0 8) = (m8 a0 8) := (Eq.trans (zs_ne hmm18 (Or.inr (by decide))) (zs_ne hmm16 (Or.inr (by decide))))
              exact zw_some ⟨hIm18, hFm18, hRNSm18, hRWDm18, ⟨by omega, by omega⟩, by omega, by omega⟩
      · refine zw_ite (fun h24 => ?_) (fun h24 => ?_)
        · refine zw_b (by omega) ?_
          refine zw_some ?_
          refine zw_ite (fun h25 => ?_) (fun h25 => ?_)
          · exfalso; omega
          · refine zw_bd (zw_eq (zu_call_at (zt_T n) (zm_85 n) (zdp_85 n) _ _ _ _ _ rfl (zr_85_0 n _ _ a0 2 m8)) ?_)
            generalize hmm26 : zu_up m8 a0 4 2 = m26
            have hIm26 := zi_up hmm26 hIm8 hc0 zb_28_4 (by omega) (by omega)
            have hFm26 := zfr_up hmm26 hFm8 hc0 rfl
            have hRNSm26 := zR_NS_fr (zdis_fr (zfr_up hmm26 (zfr_rf [(28, 5)] _) hc0 rfl) rfl) hRNSm8
            have hRTRm26 := zR_TR_fr (zdis_fr (zfr_up hmm26 (zfr_rf [(28, 5)] _) hc0 rfl) rfl) hRTRm8
            have hRWDm26 := zR_WD_fr (zdis_fr (zfr_up hmm26 (zfr_rf [(28, 5)] _) hc0 rfl) rfl) hRWDm8
            have r27 : 0 ≤ (m26 a0 10) ∧ (m26 a0 10) ≤ 700 := zi_rd hIm26 hc0 zb_28_10
            generalize hmm28 : zu_up m26 a0 5 (m26 a0 10) = m28
            have hIm28 := zi_up hmm28 hIm26 hc0 zb_28_5 (by omega) (by omega)
            have hFm28 := zfr_up hmm28 hFm26 hc0 rfl
            have hRNSm28 := zR_NS_fr (zdis_fr (zfr_up hmm28 (zfr_rf [(28, 6)] _) hc0 rfl) rfl) hRNSm26
            have hRTRm28 := zR_TR_fr (zdis_fr (zfr_up hmm28 (zfr_rf [(28, 6)] _) hc0 rfl) rfl) hRTRm26
            have hRWDm28 := zR_WD_fr (zdis_fr (zfr_up hmm28 (zfr_rf [(28, 6)] _) hc0 rfl) rfl) hRWDm26
            refine zw_b (by omega) ?_
            refine zw_some ?_
            refine zw_b (by omega) ?_
            refine zw_some ?_
            refine zw_ite (fun h29 => ?_) (fun h29 => ?_)
            · exfalso; omega
            · refine zw_b (by omega) ?_
              refine zw_some ?_
              refine zw_ite (fun h30 => ?_) (fun h30 => ?_)
              · exfalso; omega
              · refine zw_b (by omega) ?_
                have r31 : 0 ≤ (m28 a0 7) ∧ (m28 a0 7) ≤ 700 := zi_rd hIm28 hc0 zb_28_7
                have r32 : 0 ≤ (m28 a0 8) ∧ (m28 a0 8) ≤ 6 := zi_rd hIm28 hc0 zb_28_8
                have e33 : (m28 a0 8) = (m8 a0 8) := (Eq.trans (zs_ne hmm28 (Or.inr (by decide))) (zs_ne hmm26 (Or.inr (by decide))))
                exact zw_some ⟨hIm28, hFm28, hRNSm28, hRWDm28, ⟨by omega, by omega⟩, by omega, by omega⟩
        · refine zw_b (by omega) ?_
          refine zw_some ?_
          refine zw_ite (fun h34 => ?_) (fun h34 => ?_)
          · generalize hmm35 : zu_up m8 a0 11 (m8 a0 9) = m35
            have hIm35 := zi_up hmm35 hIm8 hc0 zb_28_11 (by omega) (by omega)
            have hFm35 := zfr_up hmm35 hFm8 hc0 rfl
            have hRNSm35 := zR_NS_fr (zdis_fr (zfr_up hmm35 (zfr_rf [(28, 12)] _) hc0 rfl) rfl) hRNSm8
            have hRTRm35 := zR_TR_fr (zdis_fr (zfr_up hmm35 (zfr_rf [(28, 12)] _) hc0 rfl) rfl) hRTRm8
            have hRWDm35 := zR_WD_fr (zdis_fr (zfr_up hmm35 (zfr_rf [(28, 12)] _) hc0 rfl) rfl) hRWDm8
            refine zw_bd (zw_mono (zk_89 n hIm35 hc0 hRNSm35 hRWDm35) (fun v37 m36 hqm36 => ?_))
            obtain ⟨hIm36, hfm36, hvm36⟩ := hqm36
            have hFm36 := zfr_tr hFm35 hfm36 rfl
            obtain ⟨hRNSm36, hRTRm36, hRWDm36, hvm36⟩ := hvm36
            have s38 := hRNSm36 a0 hc0
            have s39 := hRTRm36 a0 hc0
            refine zw_b (by omega) ?_
            refine zw_some ?_
            refine zw_ite (fun h40 => ?_) (fun h40 => ?_)
            · have r41 : (-2147483648) ≤ (m36 a0 11) ∧ (m36 a0 11) ≤ 2147483647 := zi_rd hIm36 hc0 zb_28_11
              have e42 : (m36 a0 11) = (m8 a0 9) := (Eq.trans (zfr_ap hfm36 hc0 rfl) (zs_eq hmm35))
              have r43 : 0 ≤ (m36 a0 10) ∧ (m36 a0 10) ≤ 700 := zi_rd hIm36 hc0 zb_28_10
              generalize hmm44 : zu_up m36 a0 42 (m36 a0 10) = m44
              have hIm44 := zi_up hmm44 hIm36 hc0 zb_28_42 (by omega) (by omega)
              have hFm44 := zfr_up hmm44 hFm36 hc0 rfl
              have hRNSm44 := zR_NS_fr (zdis_fr (zfr_up hmm44 (zfr_rf [(28, 43)] _) hc0 rfl) rfl) hRNSm36
              have hRTRm44 := zR_TR_fr (zdis_fr (zfr_up hmm44 (zfr_rf [(28, 43)] _) hc0 rfl) rfl) hRTRm36
              have hRWDm44 := zR_WD_fr (zdis_fr (zfr_up hmm44 (zfr_rf [(28, 43)] _) hc0 rfl) rfl) hRWDm36
              have r45 : 1 ≤ (m44 a0 18) ∧ (m44 a0 18) ≤ 6 := zi_rd hIm44 hc0 zb_28_18
              have w46 := zu_w32_id (z := (m44 a0 18) - 1) (by omega) (by omega)
              refine zw_bd (zw_eq (zu_call_at (zt_T n) (zm_94 n) (zdp_94 n) _ _ _ _ _ rfl (zr_94_0 n _ _ a0 0 (zu_w32 ((m44 a0 18) - 1)) m44)) ?_)
              have r47 : 0 ≤ (m44 a0 8) ∧ (m44 a0 8) ≤ 6 := zi_rd hIm44 hc0 zb_28_8
              refine zw_ite (fun h48 => ?_) (fun h48 => ?_)
              · have r49 : (-2147483648) ≤ (m44 a0 9) ∧ (m44 a0 9) ≤ 2147483647 := zi_rd hIm44 hc0 zb_28_9
                refine zw_bd (zw_eq (zu_call_at (zt_T n) (zm_83 n) (zdp_83 n) _ _ _ _ _ rfl (zr_83_0 n _ _ (m44 a0 9) 0 (zu_w32 ((m44 a0 18) - 1)) m44)) ?_)
                refine zw_ite (fun h50 => ?_) (fun h50 => ?_)
                · refine zw_b (by omega) ?_
                  refine zw_some ?_
                  refine zw_ite (fun h51 => ?_) (fun h51 => ?_)
                  · exfalso; omega
                  · refine zw_bd (zw_eq (zu_call_at (zt_T n) (zm_85 n) (zdp_85 n) _ _ _ _ _ rfl (zr_85_0 n _ _ a0 2 m44)) ?_)
                    generalize hmm52 : zu_up m44 a0 4 2 = m52
                    have hIm52 := zi_up hmm52 hIm44 hc0 zb_28_4 (by omega) (by omega)
                    have hFm52 := zfr_up hmm52 hFm44 hc0 rfl
                    have hRNSm52 := zR_NS_fr (zdis_fr (zfr_up hmm52 (zfr_rf [(28, 5)] _) hc0 rfl) rfl) hRNSm44
                    have hRTRm52 := zR_TR_fr (zdis_fr (zfr_up hmm52 (zfr_rf [(28, 5)] _) hc0 rfl) rfl) hRTRm44
                    have hRWDm52 := zR_WD_fr (zdis_fr (zfr_up hmm52 (zfr_rf [(28, 5)] _) hc0 rfl) rfl) hRWDm44
                    have r53 : 0 ≤ (m52 a0 10) ∧ (m52 a0 10) ≤ 700 := zi_rd hIm52 hc0 zb_28_10
                    have e54 : (m52 a0 10) = (m36 a0 10) := (Eq.trans (zs_ne hmm52 (Or.inr (by decide))) (zs_ne hmm44 (Or.inr (by decide))))
                    generalize hmm55 : zu_up m52 a0 5 (m52 a0 10) = m55
                    have hIm55 := zi_up hmm55 hIm52 hc0 zb_28_5 (by omega) (by omega)
                    have hFm55 := zfr_up hmm55 hFm52 hc0 rfl
                    have hRNSm55 := zR_NS_fr (zdis_fr (zfr_up hmm55 (zfr_rf [(28, 6)] _) hc0 rfl) rfl) hRNSm52
                    have hRTRm55 := zR_TR_fr (zdis_fr (zfr_up hmm55 (zfr_rf [(28, 6)] _) hc0 rfl) rfl) hRTRm52
                    have hRWDm55 := zR_WD_fr (zdis_fr (zfr_up hmm55 (zfr_rf [(28, 6)] _) hc0 rfl) rfl) hRWDm52
                    refine zw_b (by omega) ?_
                    refine zw_some ?_
                    refine zw_b (by omega) ?_
                    refine zw_some ?_
                    refine zw_ite (fun h56 => ?_) (fun h56 => ?_)
                    · exfalso; omega
                    · refine zw_b (by omega) ?_
                      refine zw_some ?_
                      refine zw_ite (fun h57 => ?_) (fun h57 => ?_)
                      · exfalso; omega
                      · refine zw_b (by omega) ?_
                        have r58 : 0 ≤ (m55 a0 7) ∧ (m55 a0 7) ≤ 700 := zi_rd hIm55 hc0 zb_28_7
                        have r59 : 0 ≤ (m55 a0 8) ∧ (m55 a0 8) ≤ 6 := zi_rd hIm55 hc0 zb_28_8
                        have e60 : (m55 a0 8) = (m44 a0 8) := (Eq.trans (zs_ne hmm55 (Or.inr (by decide))) (zs_ne hmm52 (Or.inr (by decide))))
                        exact zw_some ⟨hIm55, hFm55, hRNSm55, hRWDm55, ⟨by omega, by omega⟩, by omega, by omega⟩
                · refine zw_ite (fun h61 => ?_) (fun h61 => ?_)
                  · refine zw_b (by omega) ?_
                    refine zw_some ?_
                    refine zw_ite (fun h62 => ?_) (fun h62 => ?_)
                    · exfalso; omega
                    · refine zw_bd (zw_eq (zu_call_at (zt_T n) (zm_85 n) (zdp_85 n) _ _ _ _ _ rfl (zr_85_0 n _ _ a0 2 m44)) ?_)
                      generalize hmm63 : zu_up m44 a0 4 2 = m63
                      have hIm63 := zi_up hmm63 hIm44 hc0 zb_28_4 (by omega) (by omega)
                      have hFm63 := zfr_up hmm63 hFm44 hc0 rfl
                      have hRNSm63 := zR_NS_fr (zdis_fr (zfr_up hmm63 (zfr_rf [(28, 5)] _) hc0 rfl) rfl) hRNSm44
                      have hRTRm63 := zR_TR_fr (zdis_fr (zfr_up hmm63 (zfr_rf [(28, 5)] _) hc0 rfl) rfl) hRTRm44
                      have hRWDm63 := zR_WD_fr (zdis_fr (zfr_up hmm63 (zfr_rf [(28, 5)] _) hc0 rfl) rfl) hRWDm44
                      have r64 : 0 ≤ (m63 a0 10) ∧ (m63 a0 10) ≤ 700 := zi_rd hIm63 hc0 zb_28_10
                      have e65 : (m63 a0 10) = (m36 a0 10) := (Eq.trans (zs_ne hmm63 (Or.inr (by decide))) (zs_ne hmm44 (Or.inr (by decide))))
                      generalize hmm66 : zu_up m63 a0 5 (m63 a0 10) = m66
                      have hIm66 := zi_up hmm66 hIm63 hc0 zb_28_5 (by omega) (by omega)
                      have hFm66 := zfr_up hmm66 hFm63 hc0 rfl
                      have hRNSm66 := zR_NS_fr (zdis_fr (zfr_up hmm66 (zfr_rf [(28, 6)] _) hc0 rfl) rfl) hRNSm63
                      have hRTRm66 := zR_TR_fr (zdis_fr (zfr_up hmm66 (zfr_rf [(28, 6)] _) hc0 rfl) rfl) hRTRm63
                      have hRWDm66 := zR_WD_fr (zdis_fr (zfr_up hmm66 (zfr_rf [(28, 6)] _) hc0 rfl) rfl) hRWDm63
                      refine zw_b (by omega) ?_
                      refine zw_some ?_
                      refine zw_b (by omega) ?_
                      refine zw_some ?_
                      refine zw_ite (fun h67 => ?_) (fun h67 => ?_)
                      · exfalso; omega
                      · refine zw_b (by omega) ?_
                        refine zw_some ?_
                        refine zw_ite (fun h68 => ?_) (fun h68 => ?_)
                        · exfalso; omega
                        · refine zw_b (by omega) ?_
                          have r69 : 0 ≤ (m66 a0 7) ∧ (m66 a0 7) ≤ 700 := zi_rd hIm66 hc0 zb_28_7
                          have r70 : 0 ≤ (m66 a0 8) ∧ (m66 a0 8) ≤ 6 := zi_rd hIm66 hc0 zb_28_8
                          have e71 : (m66 a0 8) = (m44 a0 8) := (Eq.trans (zs_ne hmm66 (Or.inr (by decide))) (zs_ne hmm63 (Or.inr (by decide))))
                          exact zw_some ⟨hIm66, hFm66, hRNSm66, hRWDm66, ⟨by omega, by omega⟩, by omega, by omega⟩
                  · refine zw_b (by omega) ?_
                    refine zw_some ?_
                    refine zw_ite (fun h72 => ?_) (fun h72 => ?_)
                    · generalize hmm73 : zu_up m44 a0 11 (m44 a0 9) = m73
                      have hIm73 := zi_up hmm73 hIm44 hc0 zb_28_11 (by omega) (by omega)
                      have hFm73 := zfr_up hmm73 hFm44 hc0 rfl
                      have hRNSm73 := zR_NS_fr (zdis_fr (zfr_up hmm73 (zfr_rf [(28, 12)] _) hc0 rfl) rfl) hRNSm44
                      have hRTRm73 := zR_TR_fr (zdis_fr (zfr_up hmm73 (zfr_rf [(28, 12)] _) hc0 rfl) rfl) hRTRm44
                      have hRWDm73 := zR_WD_fr (zdis_fr (zfr_up hmm73 (zfr_rf [(28, 12)] _) hc0 rfl) rfl) hRWDm44
                      refine zw_bd (zw_mono (zk_89 n hIm73 hc0 hRNSm73 hRWDm73) (fun v75 m74 hqm74 => ?_))
                      obtain ⟨hIm74, hfm74, hvm74⟩ := hqm74
                      have hFm74 := zfr_tr hFm73 hfm74 rfl
                      obtain ⟨hRNSm74, hRTRm74, hRWDm74, hvm74⟩ := hvm74
                      have s76 := hRNSm74 a0 hc0
                      have s77 := hRTRm74 a0 hc0
                      refine zw_b (by omega) ?_
                      refine zw_some ?_
                      refine zw_ite (fun h78 => ?_) (fun h78 => ?_)
                      · have r79 : 1 ≤ (m74 a0 17) ∧ (m74 a0 17) ≤ 8 := zi_rd hIm74 hc0 zb_28_17
                        have e80 : (m74 a0 17) = (m8 a0 17) := (Eq.trans (zfr_ap hfm74 hc0 rfl) (Eq.trans (zs_ne hmm73 (Or.inr (by decide))) (Eq.trans (zs_ne hmm44 (Or.inr (by decide))) (Eq.trans (zfr_ap hfm36 hc0 rfl) (zs_ne hmm35 (Or.inr (by decide)))))))
                        have r81 : (-2147483648) ≤ (m74 a0 11) ∧ (m74 a0 11) ≤ 2147483647 := zi_rd hIm74 hc0 zb_28_11
                        have e82 : (m74 a0 11) = (m44 a0 9) := (Eq.trans (zfr_ap hfm74 hc0 rfl) (zs_eq hmm73))
                        have p83 := zmul_bd (x := (m74 a0 17)) (y := (m74 a0 11)) (a := 1) (b := 0) (A := 8) (B := 5) (by omega) (by omega) (by omega) (by omega) (by omega) (by omega)
                        have w84 := zu_w32_id (z := (m74 a0 17) * (m74 a0 11)) (by omega) (by omega)
                        have w85 := zu_w32_id (z := (zu_w32 ((m74 a0 17) * (m74 a0 11))) + (m36 a0 11)) (by omega) (by omega)
                        generalize hmm86 : zu_up m74 a0 11 (zu_w32 ((zu_w32 ((m74 a0 17) * (m74 a0 11))) + (m36 a0 11))) = m86
                        have hIm86 := zi_up hmm86 hIm74 hc0 zb_28_11 (by omega) (by omega)
                        have hFm86 := zfr_up hmm86 hFm74 hc0 rfl
                        have hRNSm86 := zR_NS_fr (zdis_fr (zfr_up hmm86 (zfr_rf [(28, 12)] _) hc0 rfl) rfl) hRNSm74
                        have hRTRm86 := zR_TR_fr (zdis_fr (zfr_up hmm86 (zfr_rf [(28, 12)] _) hc0 rfl) rfl) hRTRm74
                        have hRWDm86 := zR_WD_fr (zdis_fr (zfr_up hmm86 (zfr_rf [(28, 12)] _) hc0 rfl) rfl) hRWDm74
                        refine zw_b (by omega) ?_
                        refine zw_some ?_
                        refine zw_ite (fun h87 => ?_) (fun h87 => ?_)
                        · have r88 : (-2147483648) ≤ (m86 a0 11) ∧ (m86 a0 11) ≤ 2147483647 := zi_rd hIm86 hc0 zb_28_11
                          have e89 : (m86 a0 11) = (zu_w32 ((zu_w32 ((m74 a0 17) * (m74 a0 11))) + (m36 a0 11))) := (zs_eq hmm86)
                          have b90 : 0 ≤ (m86 a0 11) ∧ (m86 a0 11) < 48 := by omega
                          refine zw_if b90 ?_
                          have r91 : 0 ≤ (m86 196 (m86 a0 11)) ∧ (m86 196 (m86 a0 11)) ≤ 1 := zi_rd hIm86 zq_196 (zb_105 _)
                          refine zw_ite (fun h92 => ?_) (fun h92 => ?_)
                          · refine zw_b (by omega) ?_
                            have b93 : 0 ≤ (m86 a0 11) ∧ (m86 a0 11) < 48 := by omega
                            refine zw_if b93 ?_
                            generalize hmm94 : zu_up m86 196 (m86 a0 11) 1 = m94
                            have hIm94 := zi_up hmm94 hIm86 zq_196 (zb_105 _) (by omega) (by omega)
                            have hFm94 := zfr_up hmm94 hFm86 zq_196 rfl
                            have hRNSm94 := zR_NS_fr (zdis_fr (zfr_up hmm94 (zfr_rf [(105, 0)] _) zq_196 rfl) rfl) hRNSm86
                            have hRTRm94 := zR_TR_fr (zdis_fr (zfr_up hmm94 (zfr_rf [(105, 0)] _) zq_196 rfl) rfl) hRTRm86
                            have hRWDm94 := zR_WD_fr (zdis_fr (zfr_up hmm94 (zfr_rf [(105, 0)] _) zq_196 rfl) rfl) hRWDm86
                            have r95 : (-2147483648) ≤ (m94 a0 11) ∧ (m94 a0 11) ≤ 2147483647 := zi_rd hIm94 hc0 zb_28_11
                            have e96 : (m94 a0 11) = (m86 a0 11) := (zs_ne hmm94 (Or.inl (zc_ne hc0 zq_196 (by decide))))
                            have w97 := zu_w32_id (z := 48 + (m94 a0 11)) (by omega) (by omega)
                            have b98 : 0 ≤ (zu_w32 (48 + (m94 a0 11))) ∧ (zu_w32 (48 + (m94 a0 11))) < 96 := by omega
                            refine zw_if b98 ?_
                            generalize hmm99 : zu_up m94 195 (zu_w32 (48 + (m94 a0 11))) a1 = m99
                            have hIm99 := zi_up hmm99 hIm94 zq_195 (zb_104 _) (by omega) (by omega)
                            have hFm99 := zfr_up hmm99 hFm94 zq_195 rfl
                            have hRNSm99 := zR_NS_fr (zdis_fr (zfr_up hmm99 (zfr_rf [(104, 0)] _) zq_195 rfl) rfl) hRNSm94
                            have hRTRm99 := zR_TR_fr (zdis_fr (zfr_up hmm99 (zfr_rf [(104, 0)] _) zq_195 rfl) rfl) hRTRm94
                            have hRWDm99 := zR_WD_fr (zdis_fr (zfr_up hmm99 (zfr_rf [(104, 0)] _) zq_195 rfl) rfl) hRWDm94
                            have r100 : 0 ≤ (m99 a0 22) ∧ (m99 a0 22) ≤ 16 := zi_rd hIm99 hc0 zb_28_22
                            have e101 : (m99 a0 22) = (m0 a0 22) := (Eq.trans (zs_ne hmm99 (Or.inl (zc_ne hc0 zq_195 (by decide)))) (Eq.trans (zs_ne hmm94 (Or.inl (zc_ne hc0 zq_196 (by decide)))) (Eq.trans (zs_ne hmm86 (Or.inr (by decide))) (Eq.trans (zfr_ap hfm74 hc0 rfl) (Eq.trans (zs_ne hmm73 (Or.inr (by decide))) (Eq.trans (zs_ne hmm44 (Or.inr (by decide))) (Eq.trans (zfr_ap hfm36 hc0 rfl) (Eq.trans (zs_ne hmm35 (Or.inr (by decide))) (Eq.trans (zs_ne hmm8 (Or.inr (by decide))) (zfr_ap hfm4 hc0 rfl))))))))))
                            have w102 := zu_w32_id (z := (m99 a0 22) + 1) (by omega) (by omega)
                            generalize hmm103 : zu_up m99 a0 22 (zu_w32 ((m99 a0 22) + 1)) = m103
                            have hIm103 := zi_up hmm103 hIm99 hc0 zb_28_22 (by omega) (by omega)
                            have hFm103 := zfr_up hmm103 hFm99 hc0 rfl
                            have hRNSm103 := zR_NS_fr (zdis_fr (zfr_up hmm103 (zfr_rf [(28, 23)] _) hc0 rfl) rfl) hRNSm99
                            have hRTRm103 := zR_TR_fr (zdis_fr (zfr_up hmm103 (zfr_rf [(28, 23)] _) hc0 rfl) rfl) hRTRm99
                            have hRWDm103 := zR_WD_fr (zdis_fr (zfr_up hmm103 (zfr_rf [(28, 23)] _) hc0 rfl) rfl) hRWDm99
                            refine zw_b (by omega) ?_
                            have r104 : 0 ≤ (m103 a0 7) ∧ (m103 a0 7) ≤ 700 := zi_rd hIm103 hc0 zb_28_7
                            have r105 : 0 ≤ (m103 a0 8) ∧ (m103 a0 8) ≤ 6 := zi_rd hIm103 hc0 zb_28_8
                            exact zw_some ⟨hIm103, hFm103, hRNSm103, hRWDm103, ⟨by omega, by omega⟩, by omega, by omega⟩
                          · have r106 : (-2147483648) ≤ (m86 a0 42) ∧ (m86 a0 42) ≤ 2147483647 := zi_rd hIm86 hc0 zb_28_42
                            have e107 : (m86 a0 42) = (m36 a0 10) := (Eq.trans (zs_ne hmm86 (Or.inr (by decide))) (Eq.trans (zfr_ap hfm74 hc0 rfl) (Eq.trans (zs_ne hmm73 (Or.inr (by decide))) (zs_eq hmm44))))
                            generalize hmm108 : zu_up m86 a0 10 (m86 a0 42) = m108
                            have hIm108 := zi_up hmm108 hIm86 hc0 zb_28_10 (by omega) (by omega)
                            have hFm108 := zfr_up hmm108 hFm86 hc0 rfl
                            have hRNSm108 := zR_NS_fr (zdis_fr (zfr_up hmm108 (zfr_rf [(28, 11)] _) hc0 rfl) rfl) hRNSm86
                            have hRTRm108 := zR_TR_fr (zdis_fr (zfr_up hmm108 (zfr_rf [(28, 11)] _) hc0 rfl) rfl) hRTRm86
                            have hRWDm108 := zR_WD_fr (zdis_fr (zfr_up hmm108 (zfr_rf [(28, 11)] _) hc0 rfl) rfl) hRWDm86
                            refine zw_bd (zw_eq (zu_call_at (zt_T n) (zm_85 n) (zdp_85 n) _ _ _ _ _ rfl (zr_85_0 n _ _ a0 3 m108)) ?_)
                            generalize hmm109 : zu_up m108 a0 4 3 = m109
                            have hIm109 := zi_up hmm109 hIm108 hc0 zb_28_4 (by omega) (by omega)
                            have hFm109 := zfr_up hmm109 hFm108 hc0 rfl
                            have hRNSm109 := zR_NS_fr (zdis_fr (zfr_up hmm109 (zfr_rf [(28, 5)] _) hc0 rfl) rfl) hRNSm108
                            have hRTRm109 := zR_TR_fr (zdis_fr (zfr_up hmm109 (zfr_rf [(28, 5)] _) hc0 rfl) rfl) hRTRm108
                            have hRWDm109 := zR_WD_fr (zdis_fr (zfr_up hmm109 (zfr_rf [(28, 5)] _) hc0 rfl) rfl) hRWDm108
                            have r110 : 0 ≤ (m109 a0 10) ∧ (m109 a0 10) ≤ 700 := zi_rd hIm109 hc0 zb_28_10
                            have e111 : (m109 a0 10) = (m86 a0 42) := (Eq.trans (zs_ne hmm109 (Or.inr (by decide))) (zs_eq hmm108))
                            generalize hmm112 : zu_up m109 a0 5 (m109 a0 10) = m112
                            have hIm112 := zi_up hmm112 hIm109 hc0 zb_28_5 (by omega) (by omega)
                            have hFm112 := zfr_up hmm112 hFm109 hc0 rfl
                            have hRNSm112 := zR_NS_fr (zdis_fr (zfr_up hmm112 (zfr_rf [(28, 6)] _) hc0 rfl) rfl) hRNSm109
                            have hRTRm112 := zR_TR_fr (zdis_fr (zfr_up hmm112 (zfr_rf [(28, 6)] _) hc0 rfl) rfl) hRTRm109
                            have hRWDm112 := zR_WD_fr (zdis_fr (zfr_up hmm112 (zfr_rf [(28, 6)] _) hc0 rfl) rfl) hRWDm109
                            refine zw_b (by omega) ?_
                            refine zw_some ?_
                            refine zw_b (by omega) ?_
                            have r113 : 0 ≤ (m112 a0 7) ∧ (m112 a0 7) ≤ 700 := zi_rd hIm112 hc0 zb_28_7
                            have r114 : 0 ≤ (m112 a0 8) ∧ (m112 a0 8) ≤ 6 := zi_rd hIm112 hc0 zb_28_8
                            exact zw_some ⟨hIm112, hFm112, hRNSm112, hRWDm112, ⟨by omega, by omega⟩, by omega, by omega⟩
                        · exfalso; omega
                      · exfalso; omega
                    · exfalso; omega
              · refine zw_bd (zw_eq (zu_call_at (zt_T n) (zm_85 n) (zdp_85 n) _ _ _ _ _ rfl (zr_85_0 n _ _ a0 1 m44)) ?_)
                generalize hmm115 : zu_up m44 a0 4 1 = m115
                have hIm115 := zi_up hmm115 hIm44 hc0 zb_28_4 (by omega) (by omega)
                have hFm115 := zfr_up hmm115 hFm44 hc0 rfl
                have hRNSm115 := zR_NS_fr (zdis_fr (zfr_up hmm115 (zfr_rf [(28, 5)] _) hc0 rfl) rfl) hRNSm44
                have hRTRm115 := zR_TR_fr (zdis_fr (zfr_up hmm115 (zfr_rf [(28, 5)] _) hc0 rfl) rfl) hRTRm44
                have hRWDm115 := zR_WD_fr (zdis_fr (zfr_up hmm115 (zfr_rf [(28, 5)] _) hc0 rfl) rfl) hRWDm44
                have r116 : 0 ≤ (m115 a0 10) ∧ (m115 a0 10) ≤ 700 := zi_rd hIm115 hc0 zb_28_10
                have e117 : (m115 a0 10) = (m36 a0 10) := (Eq.trans (zs_ne hmm115 (Or.inr (by decide))) (zs_ne hmm44 (Or.inr (by decide))))
                generalize hmm118 : zu_up m115 a0 5 (m115 a0 10) = m118
                have hIm118 := zi_up hmm118 hIm115 hc0 zb_28_5 (by omega) (by omega)
                have hFm118 := zfr_up hmm118 hFm115 hc0 rfl
                have hRNSm118 := zR_NS_fr (zdis_fr (zfr_up hmm118 (zfr_rf [(28, 6)] _) hc0 rfl) rfl) hRNSm115
                have hRTRm118 := zR_TR_fr (zdis_fr (zfr_up hmm118 (zfr_rf [(28, 6)] _) hc0 rfl) rfl) hRTRm115
                have hRWDm118 := zR_WD_fr (zdis_fr (zfr_up hmm118 (zfr_rf [(28, 6)] _) hc0 rfl) rfl) hRWDm115
                refine zw_b (by omega) ?_
                refine zw_some ?_
                refine zw_b (by omega) ?_
                refine zw_some ?_
                refine zw_ite (fun h119 => ?_) (fun h119 => ?_)
                · exfalso; omega
                · refine zw_b (by omega) ?_
                  refine zw_some ?_
                  refine zw_ite (fun h120 => ?_) (fun h120 => ?_)
                  · exfalso; omega
                  · refine zw_b (by omega) ?_
                    have r121 : 0 ≤ (m118 a0 7) ∧ (m118 a0 7) ≤ 700 := zi_rd hIm118 hc0 zb_28_7
                    have r122 : 0 ≤ (m118 a0 8) ∧ (m118 a0 8) ≤ 6 := zi_rd hIm118 hc0 zb_28_8
                    have e123 : (m118 a0 8) = (m44 a0 8) := (Eq.trans (zs_ne hmm118 (Or.inr (by decide))) (zs_ne hmm115 (Or.inr (by decide))))
                    exact zw_some ⟨hIm118, hFm118, hRNSm118, hRWDm118, ⟨by omega, by omega⟩, by omega, by omega⟩
            · exfalso; omega
          · exfalso; omega
    · refine zw_bd (zw_eq (zu_call_at (zt_T n) (zm_85 n) (zdp_85 n) _ _ _ _ _ rfl (zr_85_0 n _ _ a0 1 m8)) ?_)
      generalize hmm124 : zu_up m8 a0 4 1 = m124
      have hIm124 := zi_up hmm124 hIm8 hc0 zb_28_4 (by omega) (by omega)
      have hFm124 := zfr_up hmm124 hFm8 hc0 rfl
      have hRNSm124 := zR_NS_fr (zdis_fr (zfr_up hmm124 (zfr_rf [(28, 5)] _) hc0 rfl) rfl) hRNSm8
      have hRTRm124 := zR_TR_fr (zdis_fr (zfr_up hmm124 (zfr_rf [(28, 5)] _) hc0 rfl) rfl) hRTRm8
      have hRWDm124 := zR_WD_fr (zdis_fr (zfr_up hmm124 (zfr_rf [(28, 5)] _) hc0 rfl) rfl) hRWDm8
      have r125 : 0 ≤ (m124 a0 10) ∧ (m124 a0 10) ≤ 700 := zi_rd hIm124 hc0 zb_28_10
      generalize hmm126 : zu_up m124 a0 5 (m124 a0 10) = m126
      have hIm126 := zi_up hmm126 hIm124 hc0 zb_28_5 (by omega) (by omega)
      have hFm126 := zfr_up hmm126 hFm124 hc0 rfl
      have hRNSm126 := zR_NS_fr (zdis_fr (zfr_up hmm126 (zfr_rf [(28, 6)] _) hc0 rfl) rfl) hRNSm124
      have hRTRm126 := zR_TR_fr (zdis_fr (zfr_up hmm126 (zfr_rf [(28, 6)] _) hc0 rfl) rfl) hRTRm124
      have hRWDm126 := zR_WD_fr (zdis_fr (zfr_up hmm126 (zfr_rf [(28, 6)] _) hc0 rfl) rfl) hRWDm124
      refine zw_b (by omega) ?_
      refine zw_some ?_
      refine zw_b (by omega) ?_
      refine zw_some ?_
      refine zw_ite (fun h127 => ?_) (fun h127 => ?_)
      · exfalso; omega
      · refine zw_b (by omega) ?_
        refine zw_some ?_
        refine zw_ite (fun h128 => ?_) (fun h128 => ?_)
        · exfalso; omega
        · refine zw_b (by omega) ?_
          have r129 : 0 ≤ (m126 a0 7) ∧ (m126 a0 7) ≤ 700 := zi_rd hIm126 hc0 zb_28_7
          have r130 : 0 ≤ (m126 a0 8) ∧ (m126 a0 8) ≤ 6 := zi_rd hIm126 hc0 zb_28_8
          have e131 : (m126 a0 8) = (m8 a0 8) := (Eq.trans (zs_ne hmm126 (Or.inr (by decide))) (zs_ne hmm124 (Or.inr (by decide))))
          exact zw_some ⟨hIm126, hFm126, hRNSm126, hRWDm126, ⟨by omega, by omega⟩, by omega, by omega⟩
  · refine zw_bd (zw_eq (zu_call_at (zt_T n) (zm_85 n) (zdp_85 n) _ _ _ _ _ rfl (zr_85_0 n _ _ a0 2 m0)) ?_)
    generalize hmm132 : zu_up m0 a0 4 2 = m132
    have hIm132 := zi_up hmm132 hIm0 hc0 zb_28_4 (by omega) (by omega)
    have hFm132 := zfr_up hmm132 hFm0 hc0 rfl
    have hRNSm132 := zR_NS_fr (zdis_fr (zfr_up hmm132 (zfr_rf [(28, 5)] _) hc0 rfl) rfl) hRNSm0
    have hRWDm132 := zR_WD_fr (zdis_fr (zfr_up hmm132 (zfr_rf [(28, 5)] _) hc0 rfl) rfl) hRWDm0
    have r133 : 0 ≤ (m132 a0 10) ∧ (m132 a0 10) ≤ 700 := zi_rd hIm132 hc0 zb_28_10
    generalize hmm134 : zu_up m132 a0 5 (m132 a0 10) = m134
    have hIm134 := zi_up hmm134 hIm132 hc0 zb_28_5 (by omega) (by omega)
    have hFm134 := zfr_up hmm134 hFm132 hc0 rfl
    have hRNSm134 := zR_NS_fr (zdis_fr (zfr_up hmm134 (zfr_rf [(28, 6)] _) hc0 rfl) rfl) hRNSm132
    have hRWDm134 := zR_WD_fr (zdis_fr (zfr_up hmm134 (zfr_rf [(28, 6)] _) hc0 rfl) rfl) hRWDm132
    refine zw_b (by omega) ?_
    refine zw_some ?_
    refine zw_b (by omega) ?_
    have r135 : 0 ≤ (m134 a0 7) ∧ (m134 a0 7) ≤ 700 := zi_rd hIm134 hc0 zb_28_7
    have r136 : 0 ≤ (m134 a0 8) ∧ (m134 a0 8) ≤ 6 := zi_rd hIm134 hc0 zb_28_8
    have e137 : (m134 a0 8) = (m0 a0 8) := (Eq.trans (zs_ne hmm134 (Or.inr (by decide))) (zs_ne hmm132 (Or.inr (by decide))))
    exact zw_some ⟨hIm134, hFm134, hRNSm134, hRWDm134, ⟨by omega, by omega⟩, by omega, by omega⟩
set_option maxHeartbeats 4000000 in
theorem zk_101 (n : Nat) {a0 : Int} {m0 : zu_m} (hIm0 : zi_I m0) (hc0 : zcls a0 = 28)   (he0 : 1 ≤ m0 a0 8 ∧ m0 a0 8 ≤ 1) (he1 : 4 ≤ m0 a0 9 ∧ m0 a0 9 ≤ 4)  (hRNSm0 : zR_NS m0) (hRWDm0 : zR_WD m0) : zw (zu_call (zt_T n) 101 [(40, a0)] m0) (fun v m => zi_I m ∧ zfr [(28, 5), (28, 6), (28, 8), (28, 9), (28, 10), (28, 11), (28, 12), (28, 20), (28, 24), (28, 43), (106, 0), (107, 0), (108, 0)] m0 m ∧ zR_NS m ∧ zR_WD m ∧ (0 ≤ v ∧ v ≤ 1) ∧ ((m0 a0 7) ≤ (m a0 7)) ∧ (v = 1 → ((m a0 8) = 0 ∨ (m0 a0 7) < (m a0 7)))) := by
  have hFm0 : zfr [(28, 5), (28, 6), (28, 8), (28, 9), (28, 10), (28, 11), (28, 12), (28, 20), (28, 24), (28, 43), (106, 0), (107, 0), (108, 0)] m0 m0 := zfr_rf _ _
  have s1 := hRNSm0 a0 hc0
  refine zw_eq (zu_call_at (zt_T n) (zm_101 n) (zdp_101 n) _ _ _ _ _ rfl (zr_101_0 n _ _ a0 m0)) ?_
  have r2 : 0 ≤ (m0 a0 19) ∧ (m0 a0 19) ≤ 12 := zi_rd hIm0 hc0 zb_28_19
  refine zw_ite (fun h3 => ?_) (fun h3 => ?_)
  · refine zw_bd (zw_mono (zk_89 n hIm0 hc0 hRNSm0 hRWDm0) (fun v5 m4 hqm4 => ?_))
    obtain ⟨hIm4, hfm4, hvm4⟩ := hqm4
    have hFm4 := zfr_tr hFm0 hfm4 rfl
    obtain ⟨hRNSm4, hRTRm4, hRWDm4, hvm4⟩ := hvm4
    have s6 := hRNSm4 a0 hc0
    have s7 := hRTRm4 a0 hc0
    have r8 : 0 ≤ (m4 a0 19) ∧ (m4 a0 19) ≤ 12 := zi_rd hIm4 hc0 zb_28_19
    have e9 : (m4 a0 19) = (m0 a0 19) := (zfr_ap hfm4 hc0 rfl)
    have w10 := zu_w32_id (z := 18 + (m4 a0 19)) (by omega) (by omega)
    refine zw_bd (zw_eq (zu_call_at (zt_T n) (zm_97 n) (zdp_97 n) _ _ _ _ _ rfl (zr_97_0 n _ _ a0 12 15 m4)) ?_)
    have r11 : 0 ≤ (m4 a0 8) ∧ (m4 a0 8) ≤ 6 := zi_rd hIm4 hc0 zb_28_8
    refine zw_ite (fun h12 => ?_) (fun h12 => ?_)
    · refine zw_bd (zw_eq (zu_call_at (zt_T n) (zm_85 n) (zdp_85 n) _ _ _ _ _ rfl (zr_85_0 n _ _ a0 1 m4)) ?_)
      generalize hmm13 : zu_up m4 a0 4 1 = m13
      have hIm13 := zi_up hmm13 hIm4 hc0 zb_28_4 (by omega) (by omega)
      have hFm13 := zfr_up hmm13 hFm4 hc0 rfl
      have hRNSm13 := zR_NS_fr (zdis_fr (zfr_up hmm13 (zfr_rf [(28, 5)] _) hc0 rfl) rfl) hRNSm4
      have hRTRm13 := zR_TR_fr (zdis_fr (zfr_up hmm13 (zfr_rf [(28, 5)] _) hc0 rfl) rfl) hRTRm4
      have hRWDm13 := zR_WD_fr (zdis_fr (zfr_up hmm13 (zfr_rf [(28, 5)] _) hc0 rfl) rfl) hRWDm4
      have r14 : 0 ≤ (m13 a0 10) ∧ (m13 a0 10) ≤ 700 := zi_rd hIm13 hc0 zb_28_10
      generalize hmm15 : zu_up m13 a0 5 (m13 a0 10) = m15
      have hIm15 := zi_up hmm15 hIm13 hc0 zb_28_5 (by omega) (by omega)
      have hFm15 := zfr_up hmm15 hFm13 hc0 rfl
      have hRNSm15 := zR_NS_fr (zdis_fr (zfr_up hmm15 (zfr_rf [(28, 6)] _) hc0 rfl) rfl) hRNSm13
      have hRTRm15 := zR_TR_fr (zdis_fr (zfr_up hmm15 (zfr_rf [(28, 6)] _) hc0 rfl) rfl) hRTRm13
      have hRWDm15 := zR_WD_fr (zdis_fr (zfr_up hmm15 (zfr_rf [(28, 6)] _) hc0 rfl) rfl) hRWDm13
      refine zw_b (by omega) ?_
      refine zw_some ?_
      refine zw_b (by omega) ?_
      refine zw_some ?_
      refine zw_ite (fun h16 => ?_) (fun h16 => ?_)
      · exfalso; omega
      · refine zw_b (by omega) ?_
        have r17 : 0 ≤ (m15 a0 7) ∧ (m15 a0 7) ≤ 700 := zi_rd hIm15 hc0 zb_28_7
        have r18 : 0 ≤ (m15 a0 8) ∧ (m15 a0 8) ≤ 6 := zi_rd hIm15 hc0 zb_28_8
        have e19 : (m15 a0 8) = (m4 a0 8) := (Eq.trans (zs_ne hmm15 (Or.inr (by decide))) (zs_ne hmm13 (Or.inr (by decide))))
        exact zw_some ⟨hIm15, hFm15, hRNSm15, hRWDm15, ⟨by omega, by omega⟩, by omega, by omega⟩
    · refine zw_ite (fun h20 => ?_) (fun h20 => ?_)
      · refine zw_bd (zw_eq (zu_call_at (zt_T n) (zm_85 n) (zdp_85 n) _ _ _ _ _ rfl (zr_85_0 n _ _ a0 1 m4)) ?_)
        generalize hmm21 : zu_up m4 a0 4 1 = m21
        have hIm21 := zi_up hmm21 hIm4 hc0 zb_28_4 (by omega) (by omega)
        have hFm21 := zfr_up hmm21 hFm4 hc0 rfl
        have hRNSm21 := zR_NS_fr (zdis_fr (zfr_up hmm21 (zfr_rf [(28, 5)] _) hc0 rfl) rfl) hRNSm4
        have hRTRm21 := zR_TR_fr (zdis_fr (zfr_up hmm21 (zfr_rf [(28, 5)] _) hc0 rfl) rfl) hRTRm4
        have hRWDm21 := zR_WD_fr (zdis_fr (zfr_up hmm21 (zfr_rf [(28, 5)] _) hc0 rfl) rfl) hRWDm4
        have r22 : 0 ≤ (m21 a0 10) ∧ (m21 a0 10) ≤ 700 := zi_rd hIm21 hc0 zb_28_10
        generalize hmm23 : zu_up m21 a0 5 (m21 a0 10) = m23
        have hIm23 := zi_up hmm23 hIm21 hc0 zb_28_5 (by omega) (by omega)
        have hFm23 := zfr_up hmm23 hFm21 hc0 rfl
        have hRNSm23 := zR_NS_fr (zdis_fr (zfr_up hmm23 (zfr_rf [(28, 6)] _) hc0 rfl) rfl) hRNSm21
        have hRTRm23 := zR_TR_fr (zdis_fr (zfr_up hmm23 (zfr_rf [(28, 6)] _) hc0 rfl) rfl) hRTRm21
        have hRWDm23 := zR_WD_fr (zdis_fr (zfr_up hmm23 (zfr_rf [(28, 6)] _) hc0 rfl) rfl) hRWDm21
        refine zw_b (by omega) ?_
        refine zw_some ?_
        refine zw_b (by omega) ?_
        refine zw_some ?_
        refine zw_ite (fun h24 => ?_) (fun h24 => ?_)
        · exfalso; omega
        · refine zw_b (by omega) ?_
          have r25 : 0 ≤ (m23 a0 7) ∧ (m23 a0 7) ≤ 700 := zi_rd hIm23 hc0 zb_28_7
          have r26 : 0 ≤ (m23 a0 8) ∧ (m23 a0 8) ≤ 6 := zi_rd hIm23 hc0 zb_28_8
          have e27 : (m23 a0 8) = (m4 a0 8) := (Eq.trans (zs_ne hmm23 (Or.inr (by decide))) (zs_ne hmm21 (Or.inr (by decide))))
          exact zw_some ⟨hIm23, hFm23, hRNSm23, hRWDm23, ⟨by omega, by omega⟩, by omega, by omega⟩
      · refine zw_ite (fun h28 => ?_) (fun h28 => ?_)
        · have w29 := zu_w32_id (z := (m4 a0 9) - 12) (by omega) (by omega)
          refine zw_bd (zw_mono (zk_89 n hIm4 hc0 hRNSm4 hRWDm4) (fun v31 m30 hqm30 => ?_))
          obtain ⟨hIm30, hfm30, hvm30⟩ := hqm30
          have hFm30 := zfr_tr hFm4 hfm30 rfl
          obtain ⟨hRNSm30, hRTRm30, hRWDm30, hvm30⟩ := hvm30
          have s32 := hRNSm30 a0 hc0
          have s33 := hRTRm30 a0 hc0
          generalize hmm34 : zu_up m30 a0 11 (zu_w32 ((m4 a0 9) - 12)) = m34
          have hIm34 := zi_up hmm34 hIm30 hc0 zb_28_11 (by omega) (by omega)
          have hFm34 := zfr_up hmm34 hFm30 hc0 rfl
          have hRNSm34 := zR_NS_fr (zdis_fr (zfr_up hmm34 (zfr_rf [(28, 12)] _) hc0 rfl) rfl) hRNSm30
          have hRTRm34 := zR_TR_fr (zdis_fr (zfr_up hmm34 (zfr_rf [(28, 12)] _) hc0 rfl) rfl) hRTRm30
          have hRWDm34 := zR_WD_fr (zdis_fr (zfr_up hmm34 (zfr_rf [(28, 12)] _) hc0 rfl) rfl) hRWDm30
          refine zw_b (by omega) ?_
          refine zw_some ?_
          refine zw_ite (fun h35 => ?_) (fun h35 => ?_)
          · have r36 : (-2147483648) ≤ (m34 a0 11) ∧ (m34 a0 11) ≤ 2147483647 := zi_rd hIm34 hc0 zb_28_11
            have e37 : (m34 a0 11) = (zu_w32 ((m4 a0 9) - 12)) := (zs_eq hmm34)
            have b38 : 0 ≤ (zu_w32 (18 + (m4 a0 19))) ∧ (zu_w32 (18 + (m4 a0 19))) < 36 := by omega
            refine zw_if b38 ?_
            generalize hmm39 : zu_up m34 198 (zu_w32 (18 + (m4 a0 19))) (m34 a0 11) = m39
            have hIm39 := zi_up hmm39 hIm34 zq_198 (zb_107 _) (by omega) (by omega)
            have hFm39 := zfr_up hmm39 hFm34 zq_198 rfl
            have hRNSm39 := zR_NS_fr (zdis_fr (zfr_up hmm39 (zfr_rf [(107, 0)] _) zq_198 rfl) rfl) hRNSm34
            have hRTRm39 := zR_TR_fr (zdis_fr (zfr_up hmm39 (zfr_rf [(107, 0)] _) zq_198 rfl) rfl) hRTRm34
            have hRWDm39 := zR_WD_fr (zdis_fr (zfr_up hmm39 (zfr_rf [(107, 0)] _) zq_198 rfl) rfl) hRWDm34
            refine zw_bd (zw_eq (zu_call_at (zt_T n) (zm_96 n) (zdp_96 n) _ _ _ _ _ rfl (zr_96_0 n _ _ a0 m39)) ?_)
            refine zw_b (by omega) ?_
            generalize hmm40 : zu_up m39 a0 23 1 = m40
            have hIm40 := zi_up hmm40 hIm39 hc0 zb_28_23 (by omega) (by omega)
            have hFm40 := zfr_up hmm40 hFm39 hc0 rfl
            have hRNSm40 := zR_NS_fr (zdis_fr (zfr_up hmm40 (zfr_rf [(28, 24)] _) hc0 rfl) rfl) hRNSm39
            have hRTRm40 := zR_TR_fr (zdis_fr (zfr_up hmm40 (zfr_rf [(28, 24)] _) hc0 rfl) rfl) hRTRm39
            have hRWDm40 := zR_WD_fr (zdis_fr (zfr_up hmm40 (zfr_rf [(28, 24)] _) hc0 rfl) rfl) hRWDm39
            have r41 : 1 ≤ (m40 a0 17) ∧ (m40 a0 17) ≤ 8 := zi_rd hIm40 hc0 zb_28_17
            have w42 := zu_w32_id (z := (m40 a0 17) - 1) (by omega) (by omega)
            refine zw_bd (zw_eq (zu_call_at (zt_T n) (zm_94 n) (zdp_94 n) _ _ _ _ _ rfl (zr_94_0 n _ _ a0 0 (zu_w32 ((m40 a0 17) - 1)) m40)) ?_)
            have r43 : 0 ≤ (m40 a0 8) ∧ (m40 a0 8) ≤ 6 := zi_rd hIm40 hc0 zb_28_8
            refine zw_ite (fun h44 => ?_) (fun h44 => ?_)
            · have r45 : (-2147483648) ≤ (m40 a0 9) ∧ (m40 a0 9) ≤ 2147483647 := zi_rd hIm40 hc0 zb_28_9
              refine zw_bd (zw_eq (zu_call_at (zt_T n) (zm_83 n) (zdp_83 n) _ _ _ _ _ rfl (zr_83_0 n _ _ (m40 a0 9) 0 (zu_w32 ((m40 a0 17) - 1)) m40)) ?_)
              refine zw_ite (fun h46 => ?_) (fun h46 => ?_)
              · refine zw_b (by omega) ?_
                refine zw_some ?_
                refine zw_ite (fun h47 => ?_) (fun h47 => ?_)
                · exfalso; omega
                · refine zw_bd (zw_eq (zu_call_at (zt_T n) (zm_85 n) (zdp_85 n) _ _ _ _ _ rfl (zr_85_0 n _ _ a0 2 m40)) ?_)
                  generalize hmm48 : zu_up m40 a0 4 2 = m48
                  have hIm48 := zi_up hmm48 hIm40 hc0 zb_28_4 (by omega) (by omega)
                  have hFm48 := zfr_up hmm48 hFm40 hc0 rfl
                  have hRNSm48 := zR_NS_fr (zdis_fr (zfr_up hmm48 (zfr_rf [(28, 5)] _) hc0 rfl) rfl) hRNSm40
                  have hRTRm48 := zR_TR_fr (zdis_fr (zfr_up hmm48 (zfr_rf [(28, 5)] _) hc0 rfl) rfl) hRTRm40
                  have hRWDm48 := zR_WD_fr (zdis_fr (zfr_up hmm48 (zfr_rf [(28, 5)] _) hc0 rfl) rfl) hRWDm40
                  have r49 : 0 ≤ (m48 a0 10) ∧ (m48 a0 10) ≤ 700 := zi_rd hIm48 hc0 zb_28_10
                  generalize hmm50 : zu_up m48 a0 5 (m48 a0 10) = m50
                  have hIm50 := zi_up hmm50 hIm48 hc0 zb_28_5 (by omega) (by omega)
                  have hFm50 := zfr_up hmm50 hFm48 hc0 rfl
                  have hRNSm50 := zR_NS_fr (zdis_fr (zfr_up hmm50 (zfr_rf [(28, 6)] _) hc0 rfl) rfl) hRNSm48
                  have hRTRm50 := zR_TR_fr (zdis_fr (zfr_up hmm50 (zfr_rf [(28, 6)] _) hc0 rfl) rfl) hRTRm48
                  have hRWDm50 := zR_WD_fr (zdis_fr (zfr_up hmm50 (zfr_rf [(28, 6)] _) hc0 rfl) rfl) hRWDm48
                  refine zw_b (by omega) ?_
                  refine zw_some ?_
                  refine zw_b (by omega) ?_
                  refine zw_some ?_
                  refine zw_ite (fun h51 => ?_) (fun h51 => ?_)
                  · exfalso; omega
                  · refine zw_b (by omega) ?_
                    refine zw_some ?_
                    refine zw_ite (fun h52 => ?_) (fun h52 => ?_)
                    · exfalso; omega
                    · refine zw_b (by omega) ?_
                      have r53 : 0 ≤ (m50 a0 7) ∧ (m50 a0 7) ≤ 700 := zi_rd hIm50 hc0 zb_28_7
                      have r54 : 0 ≤ (m50 a0 8) ∧ (m50 a0 8) ≤ 6 := zi_rd hIm50 hc0 zb_28_8
                      have e55 : (m50 a0 8) = (m40 a0 8) := (Eq.trans (zs_ne hmm50 (Or.inr (by decide))) (zs_ne hmm48 (Or.inr (by decide))))
                      exact zw_some ⟨hIm50, hFm50, hRNSm50, hRWDm50, ⟨by omega, by omega⟩, by omega, by omega⟩
              · refine zw_ite (fun h56 => ?_) (fun h56 => ?_)
                · refine zw_b (by omega) ?_
                  refine zw_some ?_
                  refine zw_ite (fun h57 => ?_) (fun h57 => ?_)
                  · exfalso; omega
                  · refine zw_bd (zw_eq (zu_call_at (zt_T n) (zm_85 n) (zdp_85 n) _ _ _ _ _ rfl (zr_85_0 n _ _ a0 2 m40)) ?_)
                    generalize hmm58 : zu_up m40 a0 4 2 = m58
                    have hIm58 := zi_up hmm58 hIm40 hc0 zb_28_4 (by omega) (by omega)
                    have hFm58 := zfr_up hmm58 hFm40 hc0 rfl
                    have hRNSm58 := zR_NS_fr (zdis_fr (zfr_up hmm58 (zfr_rf [(28, 5)] _) hc0 rfl) rfl) hRNSm40
                    have hRTRm58 := zR_TR_fr (zdis_fr (zfr_up hmm58 (zfr_rf [(28, 5)] _) hc0 rfl) rfl) hRTRm40
                    have hRWDm58 := zR_WD_fr (zdis_fr (zfr_up hmm58 (zfr_rf [(28, 5)] _) hc0 rfl) rfl) hRWDm40
                    have r59 : 0 ≤ (m58 a0 10) ∧ (m58 a0 10) ≤ 700 := zi_rd hIm58 hc0 zb_28_10
                    generalize hmm60 : zu_up m58 a0 5 (m58 a0 10) = m60
                    have hIm60 := zi_up hmm60 hIm58 hc0 zb_28_5 (by omega) (by omega)
                    have hFm60 := zfr_up hmm60 hFm58 hc0 rfl
                    have hRNSm60 := zR_NS_fr (zdis_fr (zfr_up hmm60 (zfr_rf [(28, 6)] _) hc0 rfl) rfl) hRNSm58
                    have hRTRm60 := zR_TR_fr (zdis_fr (zfr_up hmm60 (zfr_rf [(28, 6)] _) hc0 rfl) rfl) hRTRm58
                    have hRWDm60 := zR_WD_fr (zdis_fr (zfr_up hmm60 (zfr_rf [(28, 6)] _) hc0 rfl) rfl) hRWDm58
                    refine zw_b (by omega) ?_
                    refine zw_some ?_
                    refine zw_b (by omega) ?_
                    refine zw_some ?_
                    refine zw_ite (fun h61 => ?_) (fun h61 => ?_)
                    · exfalso; omega
                    · refine zw_b (by omega) ?_
                      refine zw_some ?_
                      refine zw_ite (fun h62 => ?_) (fun h62 => ?_)
                      · exfalso; omega
                      · refine zw_b (by omega) ?_
                        have r63 : 0 ≤ (m60 a0 7) ∧ (m60 a0 7) ≤ 700 := zi_rd hIm60 hc0 zb_28_7
                        have r64 : 0 ≤ (m60 a0 8) ∧ (m60 a0 8) ≤ 6 := zi_rd hIm60 hc0 zb_28_8
                        have e65 : (m60 a0 8) = (m40 a0 8) := (Eq.trans (zs_ne hmm60 (Or.inr (by decide))) (zs_ne hmm58 (Or.inr (by decide))))
                        exact zw_some ⟨hIm60, hFm60, hRNSm60, hRWDm60, ⟨by omega, by omega⟩, by omega, by omega⟩
                · refine zw_b (by omega) ?_
                  refine zw_some ?_
                  refine zw_ite (fun h66 => ?_) (fun h66 => ?_)
                  · generalize hmm67 : zu_up m40 a0 11 (m40 a0 9) = m67
                    have hIm67 := zi_up hmm67 hIm40 hc0 zb_28_11 (by omega) (by omega)
                    have hFm67 := zfr_up hmm67 hFm40 hc0 rfl
                    have hRNSm67 := zR_NS_fr (zdis_fr (zfr_up hmm67 (zfr_rf [(28, 12)] _) hc0 rfl) rfl) hRNSm40
                    have hRTRm67 := zR_TR_fr (zdis_fr (zfr_up hmm67 (zfr_rf [(28, 12)] _) hc0 rfl) rfl) hRTRm40
                    have hRWDm67 := zR_WD_fr (zdis_fr (zfr_up hmm67 (zfr_rf [(28, 12)] _) hc0 rfl) rfl) hRWDm40
                    refine zw_bd (zw_mono (zk_89 n hIm67 hc0 hRNSm67 hRWDm67) (fun v69 m68 hqm68 => ?_))
                    obtain ⟨hIm68, hfm68, hvm68⟩ := hqm68
                    have hFm68 := zfr_tr hFm67 hfm68 rfl
                    obtain ⟨hRNSm68, hRTRm68, hRWDm68, hvm68⟩ := hvm68
                    have s70 := hRNSm68 a0 hc0
                    have s71 := hRTRm68 a0 hc0
                    refine zw_b (by omega) ?_
                    refine zw_some ?_
                    refine zw_ite (fun h72 => ?_) (fun h72 => ?_)
                    · have r73 : (-2147483648) ≤ (m68 a0 11) ∧ (m68 a0 11) ≤ 2147483647 := zi_rd hIm68 hc0 zb_28_11
                      have e74 : (m68 a0 11) = (m40 a0 9) := (Eq.trans (zfr_ap hfm68 hc0 rfl) (zs_eq hmm67))
                      have r75 : 0 ≤ (m68 a0 10) ∧ (m68 a0 10) ≤ 700 := zi_rd hIm68 hc0 zb_28_10
                      generalize hmm76 : zu_up m68 a0 42 (m68 a0 10) = m76
                      have hIm76 := zi_up hmm76 hIm68 hc0 zb_28_42 (by omega) (by omega)
                      have hFm76 := zfr_up hmm76 hFm68 hc0 rfl
                      have hRNSm76 := zR_NS_fr (zdis_fr (zfr_up hmm76 (zfr_rf [(28, 43)] _) hc0 rfl) rfl) hRNSm68
                      have hRTRm76 := zR_TR_fr (zdis_fr (zfr_up hmm76 (zfr_rf [(28, 43)] _) hc0 rfl) rfl) hRTRm68
                      have hRWDm76 := zR_WD_fr (zdis_fr (zfr_up hmm76 (zfr_rf [(28, 43)] _) hc0 rfl) rfl) hRWDm68
                      have r77 : 1 ≤ (m76 a0 18) ∧ (m76 a0 18) ≤ 6 := zi_rd hIm76 hc0 zb_28_18
                      have w78 := zu_w32_id (z := (m76 a0 18) - 1) (by omega) (by omega)
                      refine zw_bd (zw_eq (zu_call_at (zt_T n) (zm_94 n) (zdp_94 n) _ _ _ _ _ rfl (zr_94_0 n _ _ a0 0 (zu_w32 ((m76 a0 18) - 1)) m76)) ?_)
                      have r79 : 0 ≤ (m76 a0 8) ∧ (m76 a0 8) ≤ 6 := zi_rd hIm76 hc0 zb_28_8
                      refine zw_ite (fun h80 => ?_) (fun h80 => ?_)
                      · have r81 : (-2147483648) ≤ (m76 a0 9) ∧ (m76 a0 9) ≤ 2147483647 := zi_rd hIm76 hc0 zb_28_9
                        refine zw_bd (zw_eq (zu_call_at (zt_T n) (zm_83 n) (zdp_83 n) _ _ _ _ _ rfl (zr_83_0 n _ _ (m76 a0 9) 0 (zu_w32 ((m76 a0 18) - 1)) m76)) ?_)
                        refine zw_ite (fun h82 => ?_) (fun h82 => ?_)
                        · refine zw_b (by omega) ?_
                          refine zw_some ?_
                          refine zw_ite (fun h83 => ?_) (fun h83 => ?_)
                          · exfalso; omega
                          · refine zw_bd (zw_eq (zu_call_at (zt_T n) (zm_85 n) (zdp_85 n) _ _ _ _ _ rfl (zr_85_0 n _ _ a0 2 m76)) ?_)
                            generalize hmm84 : zu_up m76 a0 4 2 = m84
                            have hIm84 := zi_up hmm84 hIm76 hc0 zb_28_4 (by omega) (by omega)
                            have hFm84 := zfr_up hmm84 hFm76 hc0 rfl
                            have hRNSm84 := zR_NS_fr (zdis_fr (zfr_up hmm84 (zfr_rf [(28, 5)] _) hc0 rfl) rfl) hRNSm76
                            have hRTRm84 := zR_TR_fr (zdis_fr (zfr_up hmm84 (zfr_rf [(28, 5)] _) hc0 rfl) rfl) hRTRm76
                            have hRWDm84 := zR_WD_fr (zdis_fr (zfr_up hmm84 (zfr_rf [(28, 5)] _) hc0 rfl) rfl) hRWDm76
                            have r85 : 0 ≤ (m84 a0 10) ∧ (m84 a0 10) ≤ 700 := zi_rd hIm84 hc0 zb_28_10
                            have e86 : (m84 a0 10) = (m68 a0 10) := (Eq.trans (zs_ne hmm84 (Or.inr (by decide))) (zs_ne hmm76 (Or.inr (by decide))))
                            generalize hmm87 : zu_up m84 a0 5 (m84 a0 10) = m87
                            have hIm87 := zi_up hmm87 hIm84 hc0 zb_28_5 (by omega) (by omega)
                            have hFm87 := zfr_up hmm87 hFm84 hc0 rfl
                            have hRNSm87 := zR_NS_fr (zdis_fr (zfr_up hmm87 (zfr_rf [(28, 6)] _) hc0 rfl) rfl) hRNSm84
                            have hRTRm87 := zR_TR_fr (zdis_fr (zfr_up hmm87 (zfr_rf [(28, 6)] _) hc0 rfl) rfl) hRTRm84
                            have hRWDm87 := zR_WD_fr (zdis_fr (zfr_up hmm87 (zfr_rf [(28, 6)] _) hc0 rfl) rfl) hRWDm84
                            refine zw_b (by omega) ?_
                            refine zw_some ?_
                            refine zw_b (by omega) ?_
                            refine zw_some ?_
                            refine zw_ite (fun h88 => ?_) (fun h88 => ?_)
                            · exfalso; omega
                            · refine zw_b (by omega) ?_
                              refine zw_some ?_
                              refine zw_ite (fun h89 => ?_) (fun h89 => ?_)
                              · exfalso; omega
                              · refine zw_b (by omega) ?_
                                have r90 : 0 ≤ (m87 a0 7) ∧ (m87 a0 7) ≤ 700 := zi_rd hIm87 hc0 zb_28_7
                                have r91 : 0 ≤ (m87 a0 8) ∧ (m87 a0 8) ≤ 6 := zi_rd hIm87 hc0 zb_28_8
                                have e92 : (m87 a0 8) = (m76 a0 8) := (Eq.trans (zs_ne hmm87 (Or.inr (by decide))) (zs_ne hmm84 (Or.inr (by decide))))
                                exact zw_some ⟨hIm87, hFm87, hRNSm87, hRWDm87, ⟨by omega, by omega⟩, by omega, by omega⟩
                        · refine zw_ite (fun h93 => ?_) (fun h93 => ?_)
                          · refine zw_b (by omega) ?_
                            refine zw_some ?_
                            refine zw_ite (fun h94 => ?_) (fun h94 => ?_)
                            · exfalso; omega
                            · refine zw_bd (zw_eq (zu_call_at (zt_T n) (zm_85 n) (zdp_85 n) _ _ _ _ _ rfl (zr_85_0 n _ _ a0 2 m76)) ?_)
                              generalize hmm95 : zu_up m76 a0 4 2 = m95
                              have hIm95 := zi_up hmm95 hIm76 hc0 zb_28_4 (by omega) (by omega)
                              have hFm95 := zfr_up hmm95 hFm76 hc0 rfl
                              have hRNSm95 := zR_NS_fr (zdis_fr (zfr_up hmm95 (zfr_rf [(28, 5)] _) hc0 rfl) rfl) hRNSm76
                              have hRTRm95 := zR_TR_fr (zdis_fr (zfr_up hmm95 (zfr_rf [(28, 5)] _) hc0 rfl) rfl) hRTRm76
                              have hRWDm95 := zR_WD_fr (zdis_fr (zfr_up hmm95 (zfr_rf [(28, 5)] _) hc0 rfl) rfl) hRWDm76
                              have r96 : 0 ≤ (m95 a0 10) ∧ (m95 a0 10) ≤ 700 := zi_rd hIm95 hc0 zb_28_10
                              have e97 : (m95 a0 10) = (m68 a0 10) := (Eq.trans (zs_ne hmm95 (Or.inr (by decide))) (zs_ne hmm76 (Or.inr (by decide))))
                              generalize hmm98 : zu_up m95 a0 5 (m95 a0 10) = m98
                              have hIm98 := zi_up hmm98 hIm95 hc0 zb_28_5 (by omega) (by omega)
                              have hFm98 := zfr_up hmm98 hFm95 hc0 rfl
                              have hRNSm98 := zR_NS_fr (zdis_fr (zfr_up hmm98 (zfr_rf [(28, 6)] _) hc0 rfl) rfl) hRNSm95
                              have hRTRm98 := zR_TR_fr (zdis_fr (zfr_up hmm98 (zfr_rf [(28, 6)] _) hc0 rfl) rfl) hRTRm95
                              have hRWDm98 := zR_WD_fr (zdis_fr (zfr_up hmm98 (zfr_rf [(28, 6)] _) hc0 rfl) rfl) hRWDm95
                              refine zw_b (by omega) ?_
                              refine zw_some ?_
                              refine zw_b (by omega) ?_
                              refine zw_some ?_
                              refine zw_ite (fun h99 => ?_) (fun h99 => ?_)
                              · exfalso; omega
                              · refine zw_b (by omega) ?_
                                refine zw_some ?_
                                refine zw_ite (fun h100 => ?_) (fun h100 => ?_)
                                · exfalso; omega
                                · refine zw_b (by omega) ?_
                                  have r101 : 0 ≤ (m98 a0 7) ∧ (m98 a0 7) ≤ 700 := zi_rd hIm98 hc0 zb_28_7
                                  have r102 : 0 ≤ (m98 a0 8) ∧ (m98 a0 8) ≤ 6 := zi_rd hIm98 hc0 zb_28_8
                                  have e103 : (m98 a0 8) = (m76 a0 8) := (Eq.trans (zs_ne hmm98 (Or.inr (by decide))) (zs_ne hmm95 (Or.inr (by decide))))
                                  exact zw_some ⟨hIm98, hFm98, hRNSm98, hRWDm98, ⟨by omega, by omega⟩, by omega, by omega⟩
                          · refine zw_b (by omega) ?_
                            refine zw_some ?_
                            refine zw_ite (fun h104 => ?_) (fun h104 => ?_)
                            · generalize hmm105 : zu_up m76 a0 11 (m76 a0 9) = m105
                              have hIm105 := zi_up hmm105 hIm76 hc0 zb_28_11 (by omega) (by omega)
                              have hFm105 := zfr_up hmm105 hFm76 hc0 rfl
                              have hRNSm105 := zR_NS_fr (zdis_fr (zfr_up hmm105 (zfr_rf [(28, 12)] _) hc0 rfl) rfl) hRNSm76
                              have hRTRm105 := zR_TR_fr (zdis_fr (zfr_up hmm105 (zfr_rf [(28, 12)] _) hc0 rfl) rfl) hRTRm76
                              have hRWDm105 := zR_WD_fr (zdis_fr (zfr_up hmm105 (zfr_rf [(28, 12)] _) hc0 rfl) rfl) hRWDm76
                              refine zw_bd (zw_mono (zk_89 n hIm105 hc0 hRNSm105 hRWDm105) (fun v107 m106 hqm106 => ?_))
                              obtain ⟨hIm106, hfm106, hvm106⟩ := hqm106
                              have hFm106 := zfr_tr hFm105 hfm106 rfl
                              obtain ⟨hRNSm106, hRTRm106, hRWDm106, hvm106⟩ := hvm106
                              have s108 := hRNSm106 a0 hc0
                              have s109 := hRTRm106 a0 hc0
                              refine zw_b (by omega) ?_
                              refine zw_some ?_
                              refine zw_ite (fun h110 => ?_) (fun h110 => ?_)
                              · have r111 : 1 ≤ (m106 a0 17) ∧ (m106 a0 17) ≤ 8 := zi_rd hIm106 hc0 zb_28_17
                                have e112 : (m106 a0 17) = (m40 a0 17) := (Eq.trans (zfr_ap hfm106 hc0 rfl) (Eq.trans (zs_ne hmm105 (Or.inr (by decide))) (Eq.trans (zs_ne hmm76 (Or.inr (by decide))) (Eq.trans (zfr_ap hfm68 hc0 rfl) (zs_ne hmm67 (Or.inr (by decide)))))))
                                have r113 : (-2147483648) ≤ (m106 a0 11) ∧ (m106 a0 11) ≤ 2147483647 := zi_rd hIm106 hc0 zb_28_11
                                have e114 : (m106 a0 11) = (m76 a0 9) := (Eq.trans (zfr_ap hfm106 hc0 rfl) (zs_eq hmm105))
                                have p115 := zmul_bd (x := (m106 a0 17)) (y := (m106 a0 11)) (a := 1) (b := 0) (A := 8) (B := 5) (by omega) (by omega) (by omega) (by omega) (by omega) (by omega)
                                have w116 := zu_w32_id (z := (m106 a0 17) * (m106 a0 11)) (by omega) (by omega)
                                have w117 := zu_w32_id (z := (zu_w32 ((m106 a0 17) * (m106 a0 11))) + (m68 a0 11)) (by omega) (by omega)
                                generalize hmm118 : zu_up m106 a0 11 (zu_w32 ((zu_w32 ((m106 a0 17) * (m106 a0 11))) + (m68 a0 11))) = m118
                                have hIm118 := zi_up hmm118 hIm106 hc0 zb_28_11 (by omega) (by omega)
                                have hFm118 := zfr_up hmm118 hFm106 hc0 rfl
                                have hRNSm118 := zR_NS_fr (zdis_fr (zfr_up hmm118 (zfr_rf [(28, 12)] _) hc0 rfl) rfl) hRNSm106
                                have hRTRm118 := zR_TR_fr (zdis_fr (zfr_up hmm118 (zfr_rf [(28, 12)] _) hc0 rfl) rfl) hRTRm106
                                have hRWDm118 := zR_WD_fr (zdis_fr (zfr_up hmm118 (zfr_rf [(28, 12)] _) hc0 rfl) rfl) hRWDm106
                                refine zw_b (by omega) ?_
                                refine zw_some ?_
                                refine zw_ite (fun h119 => ?_) (fun h119 => ?_)
                                · have r120 : (-2147483648) ≤ (m118 a0 11) ∧ (m118 a0 11) ≤ 2147483647 := zi_rd hIm118 hc0 zb_28_11
                                  have e121 : (m118 a0 11) = (zu_w32 ((zu_w32 ((m106 a0 17) * (m106 a0 11))) + (m68 a0 11))) := (zs_eq hmm118)
                                  have b122 : 0 ≤ (zu_w32 (18 + (m4 a0 19))) ∧ (zu_w32 (18 + (m4 a0 19))) < 36 := by omega
                                  refine zw_if b122 ?_
                                  generalize hmm123 : zu_up m118 197 (zu_w32 (18 + (m4 a0 19))) (m118 a0 11) = m123
                                  have hIm123 := zi_up hmm123 hIm118 zq_197 (zb_106 _) (by omega) (by omega)
                                  have hFm123 := zfr_up hmm123 hFm118 zq_197 rfl
                                  have hRNSm123 := zR_NS_fr (zdis_fr (zfr_up hmm123 (zfr_rf [(106, 0)] _) zq_197 rfl) rfl) hRNSm118
                                  have hRTRm123 := zR_TR_fr (zdis_fr (zfr_up hmm123 (zfr_rf [(106, 0)] _) zq_197 rfl) rfl) hRTRm118
                                  have hRWDm123 := zR_WD_fr (zdis_fr (zfr_up hmm123 (zfr_rf [(106, 0)] _) zq_197 rfl) rfl) hRWDm118
                                  refine zw_bd (zw_eq (zu_call_at (zt_T n) (zm_94 n) (zdp_94 n) _ _ _ _ _ rfl (zr_94_0 n _ _ a0 0 9 m123)) ?_)
                                  have r124 : 0 ≤ (m123 a0 8) ∧ (m123 a0 8) ≤ 6 := zi_rd hIm123 hc0 zb_28_8
                                  refine zw_ite (fun h125 => ?_) (fun h125 => ?_)
                                  · have r126 : (-2147483648) ≤ (m123 a0 9) ∧ (m123 a0 9) ≤ 2147483647 := zi_rd hIm123 hc0 zb_28_9
                                    refine zw_bd (zw_eq (zu_call_at (zt_T n) (zm_83 n) (zdp_83 n) _ _ _ _ _ rfl (zr_83_0 n _ _ (m123 a0 9) 0 9 m123)) ?_)
                                    refine zw_ite (fun h127 => ?_) (fun h127 => ?_)
                                    · refine zw_b (by omega) ?_
                                      refine zw_some ?_
                                      refine zw_ite (fun h128 => ?_) (fun h128 => ?_)
                                      · exfalso; omega
                                      · refine zw_bd (zw_eq (zu_call_at (zt_T n) (zm_85 n) (zdp_85 n) _ _ _ _ _ rfl (zr_85_0 n _ _ a0 2 m123)) ?_)
                                        generalize hmm129 : zu_up m123 a0 4 2 = m129
                                        have hIm129 := zi_up hmm129 hIm123 hc0 zb_28_4 (by omega) (by omega)
                                        have hFm129 := zfr_up hmm129 hFm123 hc0 rfl
                                        have hRNSm129 := zR_NS_fr (zdis_fr (zfr_up hmm129 (zfr_rf [(28, 5)] _) hc0 rfl) rfl) hRNSm123
                                        have hRTRm129 := zR_TR_fr (zdis_fr (zfr_up hmm129 (zfr_rf [(28, 5)] _) hc0 rfl) rfl) hRTRm123
                                        have hRWDm129 := zR_WD_fr (zdis_fr (zfr_up hmm129 (zfr_rf [(28, 5)] _) hc0 rfl) rfl) hRWDm123
                                        have r130 : 0 ≤ (m129 a0 10) ∧ (m129 a0 10) ≤ 700 := zi_rd hIm129 hc0 zb_28_10
                                        generalize hmm131 : zu_up m129 a0 5 (m129 a0 10) = m131
                                        have hIm131 := zi_up hmm131 hIm129 hc0 zb_28_5 (by omega) (by omega)
                                        have hFm131 := zfr_up hmm131 hFm129 hc0 rfl
                                        have hRNSm131 := zR_NS_fr (zdis_fr (zfr_up hmm131 (zfr_rf [(28, 6)] _) hc0 rfl) rfl) hRNSm129
                                        have hRTRm131 := zR_TR_fr (zdis_fr (zfr_up hmm131 (zfr_rf [(28, 6)] _) hc0 rfl) rfl) hRTRm129
                                        have hRWDm131 := zR_WD_fr (zdis_fr (zfr_up hmm131 (zfr_rf [(28, 6)] _) hc0 rfl) rfl) hRWDm129
                                        refine zw_b (by omega) ?_
                                        refine zw_some ?_
                                        refine zw_b (by omega) ?_
                                        refine zw_some ?_
                                        refine zw_ite (fun h132 => ?_) (fun h132 => ?_)
                                        · exfalso; omega
                                        · refine zw_b (by omega) ?_
                                          have r133 : 0 ≤ (m131 a0 7) ∧ (m131 a0 7) ≤ 700 := zi_rd hIm131 hc0 zb_28_7
                                          have r134 : 0 ≤ (m131 a0 8) ∧ (m131 a0 8) ≤ 6 := zi_rd hIm131 hc0 zb_28_8
                                          have e135 : (m131 a0 8) = (m123 a0 8) := (Eq.trans (zs_ne hmm131 (Or.inr (by decide))) (zs_ne hmm129 (Or.inr (by decide))))
                                          exact zw_some ⟨hIm131, hFm131, hRNSm131, hRWDm131, ⟨by omega, by omega⟩, by omega, by omega⟩
                                    · refine zw_ite (fun h136 => ?_) (fun h136 => ?_)
                                      · refine zw_b (by omega) ?_
                                        refine zw_some ?_
                                        refine zw_ite (fun h137 => ?_) (fun h137 => ?_)
                                        · exfalso; omega
                                        · refine zw_bd (zw_eq (zu_call_at (zt_T n) (zm_85 n) (zdp_85 n) _ _ _ _ _ rfl (zr_85_0 n _ _ a0 2 m123)) ?_)
                                          generalize hmm138 : zu_up m123 a0 4 2 = m138
                                          have hIm138 := zi_up hmm138 hIm123 hc0 zb_28_4 (by omega) (by omega)
                                          have hFm138 := zfr_up hmm138 hFm123 hc0 rfl
                                          have hRNSm138 := zR_NS_fr (zdis_fr (zfr_up hmm138 (zfr_rf [(28, 5)] _) hc0 rfl) rfl) hRNSm123
                                          have hRTRm138 := zR_TR_fr (zdis_fr (zfr_up hmm138 (zfr_rf [(28, 5)] _) hc0 rfl) rfl) hRTRm123
                                          have hRWDm138 := zR_WD_fr (zdis_fr (zfr_up hmm138 (zfr_rf [(28, 5)] _) hc0 rfl) rfl) hRWDm123
                                          have r139 : 0 ≤ (m138 a0 10) ∧ (m138 a0 10) ≤ 700 := zi_rd hIm138 hc0 zb_28_10
                                          generalize hmm140 : zu_up m138 a0 5 (m138 a0 10) = m140
                                          have hIm140 := zi_up hmm140 hIm138 hc0 zb_28_5 (by omega) (by omega)
                                          have hFm140 := zfr_up hmm140 hFm138 hc0 rfl
                                          have hRNSm140 := zR_NS_fr (zdis_fr (zfr_up hmm140 (zfr_rf [(28, 6)] _) hc0 rfl) rfl) hRNSm138
                                          have hRTRm140 := zR_TR_fr (zdis_fr (zfr_up hmm140 (zfr_rf [(28, 6)] _) hc0 rfl) rfl) hRTRm138
                                          have hRWDm140 := zR_WD_fr (zdis_fr (zfr_up hmm140 (zfr_rf [(28, 6)] _) hc0 rfl) rfl) hRWDm138
                                          refine zw_b (by omega) ?_
                                          refine zw_some ?_
                                          refine zw_b (by omega) ?_
                                          refine zw_some ?_
                                          refine zw_ite (fun h141 => ?_) (fun h141 => ?_)
                                          · exfalso; omega
                                          · refine zw_b (by omega) ?_
                                            have r142 : 0 ≤ (m140 a0 7) ∧ (m140 a0 7) ≤ 700 := zi_rd hIm140 hc0 zb_28_7
                                            have r143 : 0 ≤ (m140 a0 8) ∧ (m140 a0 8) ≤ 6 := zi_rd hIm140 hc0 zb_28_8
                                            have e144 : (m140 a0 8) = (m123 a0 8) := (Eq.trans (zs_ne hmm140 (Or.inr (by decide))) (zs_ne hmm138 (Or.inr (by decide))))
                                            exact zw_some ⟨hIm140, hFm140, hRNSm140, hRWDm140, ⟨by omega, by omega⟩, by omega, by omega⟩
                                      · refine zw_b (by omega) ?_
                                        refine zw_some ?_
                                        refine zw_ite (fun h145 => ?_) (fun h145 => ?_)
                                        · generalize hmm146 : zu_up m123 a0 11 (m123 a0 9) = m146
                                          have hIm146 := zi_up hmm146 hIm123 hc0 zb_28_11 (by omega) (by omega)
                                          have hFm146 := zfr_up hmm146 hFm123 hc0 rfl
                                          have hRNSm146 := zR_NS_fr (zdis_fr (zfr_up hmm146 (zfr_rf [(28, 12)] _) hc0 rfl) rfl) hRNSm123
                                          have hRTRm146 := zR_TR_fr (zdis_fr (zfr_up hmm146 (zfr_rf [(28, 12)] _) hc0 rfl) rfl) hRTRm123
                                          have hRWDm146 := zR_WD_fr (zdis_fr (zfr_up hmm146 (zfr_rf [(28, 12)] _) hc0 rfl) rfl) hRWDm123
                                          refine zw_bd (zw_mono (zk_89 n hIm146 hc0 hRNSm146 hRWDm146) (fun v148 m147 hqm147 => ?_))
                                          obtain ⟨hIm147, hfm147, hvm147⟩ := hqm147
                                          have hFm147 := zfr_tr hFm146 hfm147 rfl
                                          obtain ⟨hRNSm147, hRTRm147, hRWDm147, hvm147⟩ := hvm147
                                          have s149 := hRNSm147 a0 hc0
                                          have s150 := hRTRm147 a0 hc0
                                          refine zw_b (by omega) ?_
                                          refine zw_some ?_
                                          refine zw_ite (fun h151 => ?_) (fun h151 => ?_)
                                          · have r152 : (-2147483648) ≤ (m147 a0 11) ∧ (m147 a0 11) ≤ 2147483647 := zi_rd hIm147 hc0 zb_28_11
                                            have e153 : (m147 a0 11) = (m123 a0 9) := (Eq.trans (zfr_ap hfm147 hc0 rfl) (zs_eq hmm146))
                                            have b154 : 0 ≤ (zu_w32 (18 + (m4 a0 19))) ∧ (zu_w32 (18 + (m4 a0 19))) < 36 := by omega
                                            refine zw_if b154 ?_
                                            generalize hmm155 : zu_up m147 199 (zu_w32 (18 + (m4 a0 19))) (m147 a0 11) = m155
                                            have hIm155 := zi_up hmm155 hIm147 zq_199 (zb_108 _) (by omega) (by omega)
                                            have hFm155 := zfr_up hmm155 hFm147 zq_199 rfl
                                            have hRNSm155 := zR_NS_fr (zdis_fr (zfr_up hmm155 (zfr_rf [(108, 0)] _) zq_199 rfl) rfl) hRNSm147
                                            have hRTRm155 := zR_TR_fr (zdis_fr (zfr_up hmm155 (zfr_rf [(108, 0)] _) zq_199 rfl) rfl) hRTRm147
                                            have hRWDm155 := zR_WD_fr (zdis_fr (zfr_up hmm155 (zfr_rf [(108, 0)] _) zq_199 rfl) rfl) hRWDm147
                                            have r156 : 0 ≤ (m155 a0 19) ∧ (m155 a0 19) ≤ 12 := zi_rd hIm155 hc0 zb_28_19
                                            have e157 : (m155 a0 19) = (m4 a0 19) := (Eq.trans (zs_ne hmm155 (Or.inl (zc_ne hc0 zq_199 (by decide)))) (Eq.trans (zfr_ap hfm147 hc0 rfl) (Eq.trans (zs_ne hmm146 (Or.inr (by decide))) (Eq.trans (zs_ne hmm123 (Or.inl (zc_ne hc0 zq_197 (by decide)))) (Eq.trans (zs_ne hmm118 (Or.inr (by decide))) (Eq.trans (zfr_ap hfm106 hc0 rfl) (Eq.trans (zs_ne hmm105 (Or.inr (by decide))) (Eq.trans (zs_ne hmm76 (Or.inr (by decide))) (Eq.trans (zfr_ap hfm68 hc0 rfl) (Eq.trans (zs_ne hmm67 (Or.inr (by decide))) (Eq.trans (zs_ne hmm40 (Or.inr (by decide))) (Eq.trans (zs_ne hmm39 (Or.inl (zc_ne hc0 zq_198 (by decide)))) (Eq.trans (zs_ne hmm34 (Or.inr (by decide))) (zfr_ap hfm30 hc0 rfl))))))))))))))
                                            have w158 := zu_w32_id (z := (m155 a0 19) + 1) (by omega) (by omega)
                                            generalize hmm159 : zu_up m155 a0 19 (zu_w32 ((m155 a0 19) + 1)) = m159
                                            have hIm159 := zi_up hmm159 hIm155 hc0 zb_28_19 (by omega) (by omega)
                                            have hFm159 := zfr_up hmm159 hFm155 hc0 rfl
                                            have hRNSm159 := zR_NS_fr (zdis_fr (zfr_up hmm159 (zfr_rf [(28, 20)] _) hc0 rfl) rfl) hRNSm155
                                            have hRTRm159 := zR_TR_fr (zdis_fr (zfr_up hmm159 (zfr_rf [(28, 20)] _) hc0 rfl) rfl) hRTRm155
                                            have hRWDm159 := zR_WD_fr (zdis_fr (zfr_up hmm159 (zfr_rf [(28, 20)] _) hc0 rfl) rfl) hRWDm155
                                            refine zw_b (by omega) ?_
                                            have r160 : 0 ≤ (m159 a0 7) ∧ (m159 a0 7) ≤ 700 := zi_rd hIm159 hc0 zb_28_7
                                            have r161 : 0 ≤ (m159 a0 8) ∧ (m159 a0 8) ≤ 6 := zi_rd hIm159 hc0 zb_28_8
                                            exact zw_some ⟨hIm159, hFm159, hRNSm159, hRWDm159, ⟨by omega, by omega⟩, by omega, by omega⟩
                                          · exfalso; omega
                                        · exfalso; omega
                                  · refine zw_bd (zw_eq (zu_call_at (zt_T n) (zm_85 n) (zdp_85 n) _ _ _ _ _ rfl (zr_85_0 n _ _ a0 1 m123)) ?_)
                                    generalize hmm162 : zu_up m123 a0 4 1 = m162
                                    have hIm162 := zi_up hmm162 hIm123 hc0 zb_28_4 (by omega) (by omega)
                                    have hFm162 := zfr_up hmm162 hFm123 hc0 rfl
                                    have hRNSm162 := zR_NS_fr (zdis_fr (zfr_up hmm162 (zfr_rf [(28, 5)] _) hc0 rfl) rfl) hRNSm123
                                    have hRTRm162 := zR_TR_fr (zdis_fr (zfr_up hmm162 (zfr_rf [(28, 5)] _) hc0 rfl) rfl) hRTRm123
                                    have hRWDm162 := zR_WD_fr (zdis_fr (zfr_up hmm162 (zfr_rf [(28, 5)] _) hc0 rfl) rfl) hRWDm123
                                    have r163 : 0 ≤ (m162 a0 10) ∧ (m162 a0 10) ≤ 700 := zi_rd hIm162 hc0 zb_28_10
                                    generalize hmm164 : zu_up m162 a0 5 (m162 a0 10) = m164
                                    have hIm164 := zi_up hmm164 hIm162 hc0 zb_28_5 (by omega) (by omega)
                                    have hFm164 := zfr_up hmm164 hFm162 hc0 rfl
                                    have hRNSm164 := zR_NS_fr (zdis_fr (zfr_up hmm164 (zfr_rf [(28, 6)] _) hc0 rfl) rfl) hRNSm162
                                    have hRTRm164 := zR_TR_fr (zdis_fr (zfr_up hmm164 (zfr_rf [(28, 6)] _) hc0 rfl) rfl) hRTRm162
                                    have hRWDm164 := zR_WD_fr (zdis_fr (zfr_up hmm164 (zfr_rf [(28, 6)] _) hc0 rfl) rfl) hRWDm162
                                    refine zw_b (by omega) ?_
                                    refine zw_some ?_
                                    refine zw_b (by omega) ?_
                                    refine zw_some ?_
                                    refine zw_ite (fun h165 => ?_) (fun h165 => ?_)
                                    · exfalso; omega
                                    · refine zw_b (by omega) ?_
                                      have r166 : 0 ≤ (m164 a0 7) ∧ (m164 a0 7) ≤ 700 := zi_rd hIm164 hc0 zb_28_7
                                      have r167 : 0 ≤ (m164 a0 8) ∧ (m164 a0 8) ≤ 6 := zi_rd hIm164 hc0 zb_28_8
                                      have e168 : (m164 a0 8) = (m123 a0 8) := (Eq.trans (zs_ne hmm164 (Or.inr (by decide))) (zs_ne hmm162 (Or.inr (by decide))))
                                      exact zw_some ⟨hIm164, hFm164, hRNSm164, hRWDm164, ⟨by omega, by omega⟩, by omega, by omega⟩
                                · exfalso; omega
                              · exfalso; omega
                            · exfalso; omega
                      · refine zw_bd (zw_eq (zu_call_at (zt_T n) (zm_85 n) (zdp_85 n) _ _ _ _ _ rfl (zr_85_0 n _ _ a0 1 m76)) ?_)
                        generalize hmm169 : zu_up m76 a0 4 1 = m169
                        have hIm169 := zi_up hmm169 hIm76 hc0 zb_28_4 (by omega) (by omega)
                        have hFm169 := zfr_up hmm169 hFm76 hc0 rfl
                        have hRNSm169 := zR_NS_fr (zdis_fr (zfr_up hmm169 (zfr_rf [(28, 5)] _) hc0 rfl) rfl) hRNSm76
                        have hRTRm169 := zR_TR_fr (zdis_fr (zfr_up hmm169 (zfr_rf [(28, 5)] _) hc0 rfl) rfl) hRTRm76
                        have hRWDm169 := zR_WD_fr (zdis_fr (zfr_up hmm169 (zfr_rf [(28, 5)] _) hc0 rfl) rfl) hRWDm76
                        have r170 : 0 ≤ (m169 a0 10) ∧ (m169 a0 10) ≤ 700 := zi_rd hIm169 hc0 zb_28_10
                        have e171 : (m169 a0 10) = (m68 a0 10) := (Eq.trans (zs_ne hmm169 (Or.inr (by decide))) (zs_ne hmm76 (Or.inr (by decide))))
                        generalize hmm172 : zu_up m169 a0 5 (m169 a0 10) = m172
                        have hIm172 := zi_up hmm172 hIm169 hc0 zb_28_5 (by omega) (by omega)
                        have hFm172 := zfr_up hmm172 hFm169 hc0 rfl
                        have hRNSm172 := zR_NS_fr (zdis_fr (zfr_up hmm172 (zfr_rf [(28, 6)] _) hc0 rfl) rfl) hRNSm169
                        have hRTRm172 := zR_TR_fr (zdis_fr (zfr_up hmm172 (zfr_rf [(28, 6)] _) hc0 rfl) rfl) hRTRm169
                        have hRWDm172 := zR_WD_fr (zdis_fr (zfr_up hmm172 (zfr_rf [(28, 6)] _) hc0 rfl) rfl) hRWDm169
                        refine zw_b (by omega) ?_
                        refine zw_some ?_
                        refine zw_b (by omega) ?_
                        refine zw_some ?_
                        refine zw_ite (fun h173 => ?_) (fun h173 => ?_)
                        · exfalso; omega
                        · refine zw_b (by omega) ?_
                          refine zw_some ?_
                          refine zw_ite (fun h174 => ?_) (fun h174 => ?_)
                          · exfalso; omega
                          · refine zw_b (by omega) ?_
                            have r175 : 0 ≤ (m172 a0 7) ∧ (m172 a0 7) ≤ 700 := zi_rd hIm172 hc0 zb_28_7
                            have r176 : 0 ≤ (m172 a0 8) ∧ (m172 a0 8) ≤ 6 := zi_rd hIm172 hc0 zb_28_8
                            have e177 : (m172 a0 8) = (m76 a0 8) := (Eq.trans (zs_ne hmm172 (Or.inr (by decide))) (zs_ne hmm169 (Or.inr (by decide))))
                            exact zw_some ⟨hIm172, hFm172, hRNSm172, hRWDm172, ⟨by omega, by omega⟩, by omega, by omega⟩
                    · exfalso; omega
                  · exfalso; omega
            · refine zw_bd (zw_eq (zu_call_at (zt_T n) (zm_85 n) (zdp_85 n) _ _ _ _ _ rfl (zr_85_0 n _ _ a0 1 m40)) ?_)
              generalize hmm178 : zu_up m40 a0 4 1 = m178
              have hIm178 := zi_up hmm178 hIm40 hc0 zb_28_4 (by omega) (by omega)
              have hFm178 := zfr_up hmm178 hFm40 hc0 rfl
              have hRNSm178 := zR_NS_fr (zdis_fr (zfr_up hmm178 (zfr_rf [(28, 5)] _) hc0 rfl) rfl) hRNSm40
              have hRTRm178 := zR_TR_fr (zdis_fr (zfr_up hmm178 (zfr_rf [(28, 5)] _) hc0 rfl) rfl) hRTRm40
              have hRWDm178 := zR_WD_fr (zdis_fr (zfr_up hmm178 (zfr_rf [(28, 5)] _) hc0 rfl) rfl) hRWDm40
              have r179 : 0 ≤ (m178 a0 10) ∧ (m178 a0 10) ≤ 700 := zi_rd hIm178 hc0 zb_28_10
              generalize hmm180 : zu_up m178 a0 5 (m178 a0 10) = m180
              have hIm180 := zi_up hmm180 hIm178 hc0 zb_28_5 (by omega) (by omega)
              have hFm180 := zfr_up hmm180 hFm178 hc0 rfl
              have hRNSm180 := zR_NS_fr (zdis_fr (zfr_up hmm180 (zfr_rf [(28, 6)] _) hc0 rfl) rfl) hRNSm178
              have hRTRm180 := zR_TR_fr (zdis_fr (zfr_up hmm180 (zfr_rf [(28, 6)] _) hc0 rfl) rfl) hRTRm178
              have hRWDm180 := zR_WD_fr (zdis_fr (zfr_up hmm180 (zfr_rf [(28, 6)] _) hc0 rfl) rfl) hRWDm178
              refine zw_b (by omega) ?_
              refine zw_some ?_
              refine zw_b (by omega) ?_
              refine zw_some ?_
              refine zw_ite (fun h181 => ?_) (fun h181 => ?_)
              · exfalso; omega
              · refine zw_b (by omega) ?_
                refine zw_some ?_
                refine zw_ite (fun h182 => ?_) (fun h182 => ?_)
                · exfalso; omega
                · refine zw_b (by omega) ?_
                  have r183 : 0 ≤ (m180 a0 7) ∧ (m180 a0 7) ≤ 700 := zi_rd hIm180 hc0 zb_28_7
                  have r184 : 0 ≤ (m180 a0 8) ∧ (m180 a0 8) ≤ 6 := zi_rd hIm180 hc0 zb_28_8
                  have e185 : (m180 a0 8) = (m40 a0 8) := (Eq.trans (zs_ne hmm180 (Or.inr (by decide))) (zs_ne hmm178 (Or.inr (by decide))))
                  exact zw_some ⟨hIm180, hFm180, hRNSm180, hRWDm180, ⟨by omega, by omega⟩, by omega, by omega⟩
          · exfalso; omega
        · refine zw_bd (zw_eq (zu_call_at (zt_T n) (zm_85 n) (zdp_85 n) _ _ _ _ _ rfl (zr_85_0 n _ _ a0 1 m4)) ?_)
          generalize hmm186 : zu_up m4 a0 4 1 = m186
          have hIm186 := zi_up hmm186 hIm4 hc0 zb_28_4 (by omega) (by omega)
          have hFm186 := zfr_up hmm186 hFm4 hc0 rfl
          have hRNSm186 := zR_NS_fr (zdis_fr (zfr_up hmm186 (zfr_rf [(28, 5)] _) hc0 rfl) rfl) hRNSm4
          have hRTRm186 := zR_TR_fr (zdis_fr (zfr_up hmm186 (zfr_rf [(28, 5)] _) hc0 rfl) rfl) hRTRm4
          have hRWDm186 := zR_WD_fr (zdis_fr (zfr_up hmm186 (zfr_rf [(28, 5)] _) hc0 rfl) rfl) hRWDm4
          have r187 : 0 ≤ (m186 a0 10) ∧ (m186 a0 10) ≤ 700 := zi_rd hIm186 hc0 zb_28_10
          generalize hmm188 : zu_up m186 a0 5 (m186 a0 10) = m188
          have hIm188 := zi_up hmm188 hIm186 hc0 zb_28_5 (by omega) (by omega)
          have hFm188 := zfr_up hmm188 hFm186 hc0 rfl
          have hRNSm188 := zR_NS_fr (zdis_fr (zfr_up hmm188 (zfr_rf [(28, 6)] _) hc0 rfl) rfl) hRNSm186
          have hRTRm188 := zR_TR_fr (zdis_fr (zfr_up hmm188 (zfr_rf [(28, 6)] _) hc0 rfl) rfl) hRTRm186
          have hRWDm188 := zR_WD_fr (zdis_fr (zfr_up hmm188 (zfr_rf [(28, 6)] _) hc0 rfl) rfl) hRWDm186
          refine zw_b (by omega) ?_
          refine zw_some ?_
          refine zw_b (by omega) ?_
          refine zw_some ?_
          refine zw_ite (fun h189 => ?_) (fun h189 => ?_)
          · exfalso; omega
          · refine zw_b (by omega) ?_
            have r190 : 0 ≤ (m188 a0 7) ∧ (m188 a0 7) ≤ 700 := zi_rd hIm188 hc0 zb_28_7
            have r191 : 0 ≤ (m188 a0 8) ∧ (m188 a0 8) ≤ 6 := zi_rd hIm188 hc0 zb_28_8
            have e192 : (m188 a0 8) = (m4 a0 8) := (Eq.trans (zs_ne hmm188 (Or.inr (by decide))) (zs_ne hmm186 (Or.inr (by decide))))
            exact zw_some ⟨hIm188, hFm188, hRNSm188, hRWDm188, ⟨by omega, by omega⟩, by omega, by omega⟩
  · refine zw_bd (zw_eq (zu_call_at (zt_T n) (zm_85 n) (zdp_85 n) _ _ _ _ _ rfl (zr_85_0 n _ _ a0 2 m0)) ?_)
    generalize hmm193 : zu_up m0 a0 4 2 = m193
    have hIm193 := zi_up hmm193 hIm0 hc0 zb_28_4 (by omega) (by omega)
    have hFm193 := zfr_up hmm193 hFm0 hc0 rfl
    have hRNSm193 := zR_NS_fr (zdis_fr (zfr_up hmm193 (zfr_rf [(28, 5)] _) hc0 rfl) rfl) hRNSm0
    have hRWDm193 := zR_WD_fr (zdis_fr (zfr_up hmm193 (zfr_rf [(28, 5)] _) hc0 rfl) rfl) hRWDm0
    have r194 : 0 ≤ (m193 a0 10) ∧ (m193 a0 10) ≤ 700 := zi_rd hIm193 hc0 zb_28_10
    generalize hmm195 : zu_up m193 a0 5 (m193 a0 10) = m195
    have hIm195 := zi_up hmm195 hIm193 hc0 zb_28_5 (by omega) (by omega)
    have hFm195 := zfr_up hmm195 hFm193 hc0 rfl
    have hRNSm195 := zR_NS_fr (zdis_fr (zfr_up hmm195 (zfr_rf [(28, 6)] _) hc0 rfl) rfl) hRNSm193
    have hRWDm195 := zR_WD_fr (zdis_fr (zfr_up hmm195 (zfr_rf [(28, 6)] _) hc0 rfl) rfl) hRWDm193
    refine zw_b (by omega) ?_
    refine zw_some ?_
    refine zw_b (by omega) ?_
    have r196 : 0 ≤ (m195 a0 7) ∧ (m195 a0 7) ≤ 700 := zi_rd hIm195 hc0 zb_28_7
    have r197 : 0 ≤ (m195 a0 8) ∧ (m195 a0 8) ≤ 6 := zi_rd hIm195 hc0 zb_28_8
    have e198 : (m195 a0 8) = (m0 a0 8) := (Eq.trans (zs_ne hmm195 (Or.inr (by decide))) (zs_ne hmm193 (Or.inr (by decide))))
    exact zw_some ⟨hIm195, hFm195, hRNSm195, hRWDm195, ⟨by omega, by omega⟩, by omega, by omega⟩

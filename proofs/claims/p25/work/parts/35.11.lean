set_option maxHeartbeats 4000000 in
theorem zk_199 (n : Nat) {a0 : Int} {m0 : zu_m} (hIm0 : zi_I m0) (hc0 : zcls a0 = 10)   (he0 : 1 ≤ m0 a0 6 ∧ m0 a0 6 ≤ 1) (hxp0 : (m0 a0 4) ≤ zop m0) (hRK10m0 : zR_K10 m0) : zw (zu_call (zt_T n) 199 [(24, a0)] m0) (fun v m => zi_I m ∧ zfr [(5, 6), (5, 7), (10, 4), (10, 5), (10, 7), (10, 8), (33, 0), (34, 0), (47, 0), (48, 0)] m0 m ∧ zR_K10 m ∧ (0 ≤ v ∧ v ≤ 2) ∧ (v = 0 → (m a0 4) ≤ zop m)) := by
  have hFm0 : zfr [(5, 6), (5, 7), (10, 4), (10, 5), (10, 7), (10, 8), (33, 0), (34, 0), (47, 0), (48, 0)] m0 m0 := zfr_rf _ _
  have r1 : 0 ≤ (m0 a0 4) ∧ (m0 a0 4) ≤ 8 := zi_rd hIm0 hc0 zb_10_4
  have g2 := zop_bd hIm0 hc0
  refine zw_eq (zu_call_at (zt_T n) (zm_199 n) (zdp_199 n) _ _ _ _ _ rfl (zr_199_0 n _ _ a0 m0)) ?_
  have r3 : 0 ≤ (m0 45 4) ∧ (m0 45 4) ≤ 5 := zi_rd hIm0 zq_45 zb_9_4
  refine zw_ite (fun h4 => ?_) (fun h4 => ?_)
  · refine zw_bd (zw_eq (zu_call_at (zt_T n) (zm_279 n) (zdp_279 n) _ _ _ _ _ rfl (zr_279_0 n _ _ 45 26 7 m0)) ?_)
    refine zw_ite (fun h5 => ?_) (fun h5 => ?_)
    · refine zw_b (by omega) ?_
      refine zw_some ?_
      refine zw_ite (fun h6 => ?_) (fun h6 => ?_)
      · refine zw_bd (zw_eq (zu_call_at (zt_T n) (zm_278 n) (zdp_278 n) _ _ _ _ _ rfl (zr_278_0 n _ _ 45 1 m0)) ?_)
        refine zw_ite (fun h7 => ?_) (fun h7 => ?_)
        · refine zw_b (by omega) ?_
          refine zw_some ?_
          refine zw_ite (fun h8 => ?_) (fun h8 => ?_)
          · refine zw_bd (zw_eq (zu_call_at (zt_T n) (zm_279 n) (zdp_279 n) _ _ _ _ _ rfl (zr_279_0 n _ _ 45 25 1 m0)) ?_)
            refine zw_ite (fun h9 => ?_) (fun h9 => ?_)
            · refine zw_b (by omega) ?_
              refine zw_some ?_
              refine zw_ite (fun h10 => ?_) (fun h10 => ?_)
              · exact zw_some ⟨hIm0, hFm0, hRK10m0, ⟨by decide, by decide⟩, fun h => absurd h (by decide)⟩
              · exfalso; omega
            · exfalso; omega
          · exfalso; omega
        · have r11 : (-2147483648) ≤ (m0 45 5) ∧ (m0 45 5) ≤ 2147483647 := zi_rd hIm0 zq_45 zb_9_5
          refine zw_ite (fun h12 => ?_) (fun h12 => ?_)
          · refine zw_b (by omega) ?_
            refine zw_some ?_
            refine zw_ite (fun h13 => ?_) (fun h13 => ?_)
            · refine zw_bd (zw_eq (zu_call_at (zt_T n) (zm_279 n) (zdp_279 n) _ _ _ _ _ rfl (zr_279_0 n _ _ 45 25 1 m0)) ?_)
              refine zw_ite (fun h14 => ?_) (fun h14 => ?_)
              · refine zw_b (by omega) ?_
                refine zw_some ?_
                refine zw_ite (fun h15 => ?_) (fun h15 => ?_)
                · exact zw_some ⟨hIm0, hFm0, hRK10m0, ⟨by decide, by decide⟩, fun h => absurd h (by decide)⟩
                · exfalso; omega
              · exfalso; omega
            · exfalso; omega
          · refine zw_b (by omega) ?_
            refine zw_some ?_
            refine zw_ite (fun h16 => ?_) (fun h16 => ?_)
            · exfalso; omega
            · refine zw_bd (zw_eq (zu_call_at (zt_T n) (zm_201 n) (zdp_201 n) _ _ _ _ _ rfl (zr_201_0 n _ _ a0 m0)) ?_)
              refine zw_ite (fun h17 => ?_) (fun h17 => ?_)
              · have w18 := zu_w32_id (z := (m0 a0 4) + 1) (by omega) (by omega)
                generalize hmm19 : zu_up m0 a0 4 (zu_w32 ((m0 a0 4) + 1)) = m19
                have hIm19 := zi_up hmm19 hIm0 hc0 zb_10_4 (by omega) (by omega)
                have hFm19 := zfr_up hmm19 hFm0 hc0 rfl
                have g20 := zop_fr (zdis_fr (zfr_up hmm19 (zfr_rf [(10, 5)] _) hc0 rfl) rfl)
                have hRK10m19 := zR_K10_fr (zdis_fr (zfr_up hmm19 (zfr_rf [(10, 5)] _) hc0 rfl) rfl) hRK10m0
                have r21 : 0 ≤ (m19 a0 4) ∧ (m19 a0 4) ≤ 8 := zi_rd hIm19 hc0 zb_10_4
                have e22 : (m19 a0 4) = (zu_w32 ((m0 a0 4) + 1)) := (zs_eq hmm19)
                refine zw_b (by omega) ?_
                have b23 : 0 ≤ (m19 a0 4) ∧ (m19 a0 4) < 9 := by omega
                refine zw_if b23 ?_
                generalize hmm24 : zu_up m19 49 (m19 a0 4) 0 = m24
                have hIm24 := zi_up hmm24 hIm19 zq_49 (zb_48 _) (by omega) (by omega)
                have hFm24 := zfr_up hmm24 hFm19 zq_49 rfl
                have g25 := zop_fr (zdis_fr (zfr_up hmm24 (zfr_rf [(48, 0)] _) zq_49 rfl) rfl)
                have hRK10m24 := zR_K10_fr (zdis_fr (zfr_up hmm24 (zfr_rf [(48, 0)] _) zq_49 rfl) rfl) hRK10m19
                refine zw_b (by omega) ?_
                generalize hmm26 : zu_up m24 a0 7 1 = m26
                have hIm26 := zi_up hmm26 hIm24 hc0 zb_10_7 (by omega) (by omega)
                have hFm26 := zfr_up hmm26 hFm24 hc0 rfl
                have g27 := zop_fr (zdis_fr (zfr_up hmm26 (zfr_rf [(10, 8)] _) hc0 rfl) rfl)
                have hRK10m26 := zR_K10_fr (zdis_fr (zfr_up hmm26 (zfr_rf [(10, 8)] _) hc0 rfl) rfl) hRK10m24
                refine zw_bd (zw_eq (zu_call_at (zt_T n) (zm_205 n) (zdp_205 n) _ _ _ _ _ rfl (zr_205_0 n _ _ a0 1 m26)) ?_)
                have r28 : 0 ≤ (m26 a0 3) ∧ (m26 a0 3) ≤ 72 := zi_rd hIm26 hc0 zb_10_3
                refine zw_ite (fun h29 => ?_) (fun h29 => ?_)
                · have b30 : 0 ≤ (m26 a0 3) ∧ (m26 a0 3) < 72 := by omega
                  refine zw_if b30 ?_
                  generalize hmm31 : zu_up m26 48 (m26 a0 3) 1 = m31
                  have hIm31 := zi_up hmm31 hIm26 zq_48 (zb_47 _) (by omega) (by omega)
                  have hFm31 := zfr_up hmm31 hFm26 zq_48 rfl
                  have hRK10m31 := zR_K10_fr (zdis_fr (zfr_up hmm31 (zfr_rf [(47, 0)] _) zq_48 rfl) rfl) hRK10m26
                  have r32 : 0 ≤ (m31 a0 3) ∧ (m31 a0 3) ≤ 72 := zi_rd hIm31 hc0 zb_10_3
                  have e33 : (m31 a0 3) = (m26 a0 3) := (zs_ne hmm31 (Or.inl (zc_ne hc0 zq_48 (by decide))))
                  have w34 := zu_w32_id (z := (m31 a0 3) + 1) (by omega) (by omega)
                  generalize hmm35 : zu_up m31 a0 3 (zu_w32 ((m31 a0 3) + 1)) = m35
                  have hIm35 := zi_up hmm35 hIm31 hc0 zb_10_3 (by omega) (by omega)
                  have hFm35 := zfr_up hmm35 hFm31 hc0 rfl
                  have hRK10m35 := zR_K10_fr (zdis_fr (zfr_up hmm35 (zfr_rf [(10, 4)] _) hc0 rfl) rfl) hRK10m31
                  have g36 := zop_push hmm31 hmm35 hc0 (by omega) (by omega) (by omega)
                  have g37 := zop_bd hIm35 hc0
                  refine zw_some ?_
                  refine zw_some ?_
                  have r38 : 0 ≤ (m35 a0 4) ∧ (m35 a0 4) ≤ 8 := zi_rd hIm35 hc0 zb_10_4
                  have e39 : (m35 a0 4) = (m19 a0 4) := (Eq.trans (zs_ne hmm35 (Or.inr (by decide))) (Eq.trans (zs_ne hmm31 (Or.inl (zc_ne hc0 zq_48 (by decide)))) (Eq.trans (zs_ne hmm26 (Or.inr (by decide))) (zs_ne hmm24 (Or.inl (zc_ne hc0 zq_49 (by decide)))))))
                  exact zw_some ⟨hIm35, hFm35, hRK10m35, ⟨by decide, by decide⟩, fun _ => by omega⟩
                · refine zw_some ?_
                  refine zw_some ?_
                  have r40 : 0 ≤ (m26 a0 4) ∧ (m26 a0 4) ≤ 8 := zi_rd hIm26 hc0 zb_10_4
                  have e41 : (m26 a0 4) = (m19 a0 4) := (Eq.trans (zs_ne hmm26 (Or.inr (by decide))) (zs_ne hmm24 (Or.inl (zc_ne hc0 zq_49 (by decide)))))
                  exact zw_some ⟨hIm26, hFm26, hRK10m26, ⟨by decide, by decide⟩, fun h => absurd h (by decide)⟩
              · refine zw_some ?_
                exact zw_some ⟨hIm0, hFm0, hRK10m0, ⟨by decide, by decide⟩, fun h => absurd h (by decide)⟩
      · exfalso; omega
    · have r42 : (-2147483648) ≤ (m0 45 5) ∧ (m0 45 5) ≤ 2147483647 := zi_rd hIm0 zq_45 zb_9_5
      refine zw_ite (fun h43 => ?_) (fun h43 => ?_)
      · refine zw_b (by omega) ?_
        refine zw_some ?_
        refine zw_ite (fun h44 => ?_) (fun h44 => ?_)
        · refine zw_bd (zw_eq (zu_call_at (zt_T n) (zm_278 n) (zdp_278 n) _ _ _ _ _ rfl (zr_278_0 n _ _ 45 1 m0)) ?_)
          refine zw_ite (fun h45 => ?_) (fun h45 => ?_)
          · refine zw_b (by omega) ?_
            refine zw_some ?_
            refine zw_ite (fun h46 => ?_) (fun h46 => ?_)
            · refine zw_bd (zw_eq (zu_call_at (zt_T n) (zm_279 n) (zdp_279 n) _ _ _ _ _ rfl (zr_279_0 n _ _ 45 25 1 m0)) ?_)
              refine zw_ite (fun h47 => ?_) (fun h47 => ?_)
              · exfalso; omega
              · refine zw_ite (fun h48 => ?_) (fun h48 => ?_)
                · refine zw_b (by omega) ?_
                  refine zw_some ?_
                  refine zw_ite (fun h49 => ?_) (fun h49 => ?_)
                  · exact zw_some ⟨hIm0, hFm0, hRK10m0, ⟨by decide, by decide⟩, fun h => absurd h (by decide)⟩
                  · exfalso; omega
                · have w50 := zu_w32_id (z := 25 + 1) (by omega) (by omega)
                  refine zw_ite (fun h51 => ?_) (fun h51 => ?_)
                  · exfalso; omega
                  · refine zw_b (by omega) ?_
                    refine zw_some ?_
                    refine zw_ite (fun h52 => ?_) (fun h52 => ?_)
                    · exfalso; omega
                    · have r53 : 0 ≤ (m0 a0 7) ∧ (m0 a0 7) ≤ 1 := zi_rd hIm0 hc0 zb_10_7
                      refine zw_ite (fun h54 => ?_) (fun h54 => ?_)
                      · exact zw_some ⟨hIm0, hFm0, hRK10m0, ⟨by decide, by decide⟩, fun h => absurd h (by decide)⟩
                      · refine zw_bd (zw_eq (zu_call_at (zt_T n) (zm_204 n) (zdp_204 n) _ _ _ _ _ rfl (zr_204_0 n _ _ a0 m0)) ?_)
                        have r55 : 0 ≤ (m0 10 5) ∧ (m0 10 5) ≤ 64 := zi_rd hIm0 zq_10 zb_5_5
                        refine zw_ite (fun h56 => ?_) (fun h56 => ?_)
                        · have w57 := zu_w32_id (z := (m0 10 5) + 1) (by omega) (by omega)
                          generalize hmm58 : zu_up m0 10 5 (zu_w32 ((m0 10 5) + 1)) = m58
                          have hIm58 := zi_up hmm58 hIm0 zq_10 zb_5_5 (by omega) (by omega)
                          have hFm58 := zfr_up hmm58 hFm0 zq_10 rfl
                          have g59 := zop_fr (zdis_fr (zfr_up hmm58 (zfr_rf [(5, 6)] _) zq_10 rfl) rfl)
                          have hRK10m58 := zR_K10_fr (zdis_fr (zfr_up hmm58 (zfr_rf [(5, 6)] _) zq_10 rfl) rfl) hRK10m0
                          refine zw_b (by omega) ?_
                          refine zw_some ?_
                          refine zw_ite (fun h60 => ?_) (fun h60 => ?_)
                          · exfalso; omega
                          · refine zw_bd (zw_eq (zu_call_at (zt_T n) (zm_205 n) (zdp_205 n) _ _ _ _ _ rfl (zr_205_0 n _ _ a0 15 m58)) ?_)
                            have r61 : 0 ≤ (m58 a0 3) ∧ (m58 a0 3) ≤ 72 := zi_rd hIm58 hc0 zb_10_3
                            refine zw_ite (fun h62 => ?_) (fun h62 => ?_)
                            · have b63 : 0 ≤ (m58 a0 3) ∧ (m58 a0 3) < 72 := by omega
                              refine zw_if b63 ?_
                              generalize hmm64 : zu_up m58 48 (m58 a0 3) 15 = m64
                              have hIm64 := zi_up hmm64 hIm58 zq_48 (zb_47 _) (by omega) (by omega)
                              have hFm64 := zfr_up hmm64 hFm58 zq_48 rfl
                              have hRK10m64 := zR_K10_fr (zdis_fr (zfr_up hmm64 (zfr_rf [(47, 0)] _) zq_48 rfl) rfl) hRK10m58
                              have r65 : 0 ≤ (m64 a0 3) ∧ (m64 a0 3) ≤ 72 := zi_rd hIm64 hc0 zb_10_3
                              have e66 : (m64 a0 3) = (m58 a0 3) := (zs_ne hmm64 (Or.inl (zc_ne hc0 zq_48 (by decide))))
                              have w67 := zu_w32_id (z := (m64 a0 3) + 1) (by omega) (by omega)
                              generalize hmm68 : zu_up m64 a0 3 (zu_w32 ((m64 a0 3) + 1)) = m68
                              have hIm68 := zi_up hmm68 hIm64 hc0 zb_10_3 (by omega) (by omega)
                              have hFm68 := zfr_up hmm68 hFm64 hc0 rfl
                              have hRK10m68 := zR_K10_fr (zdis_fr (zfr_up hmm68 (zfr_rf [(10, 4)] _) hc0 rfl) rfl) hRK10m64
                              have g69 := zop_push hmm64 hmm68 hc0 (by omega) (by omega) (by omega)
                              have g70 := zop_bd hIm68 hc0
                              refine zw_some ?_
                              have r71 : 0 ≤ (m68 a0 4) ∧ (m68 a0 4) ≤ 8 := zi_rd hIm68 hc0 zb_10_4
                              have e72 : (m68 a0 4) = (m0 a0 4) := (Eq.trans (zs_ne hmm68 (Or.inr (by decide))) (Eq.trans (zs_ne hmm64 (Or.inl (zc_ne hc0 zq_48 (by decide)))) (zs_ne hmm58 (Or.inl (zc_ne hc0 zq_10 (by decide))))))
                              exact zw_some ⟨hIm68, hFm68, hRK10m68, ⟨by decide, by decide⟩, fun _ => by omega⟩
                            · refine zw_some ?_
                              have r73 : 0 ≤ (m58 a0 4) ∧ (m58 a0 4) ≤ 8 := zi_rd hIm58 hc0 zb_10_4
                              have e74 : (m58 a0 4) = (m0 a0 4) := (zs_ne hmm58 (Or.inl (zc_ne hc0 zq_10 (by decide))))
                              exact zw_some ⟨hIm58, hFm58, hRK10m58, ⟨by decide, by decide⟩, fun h => absurd h (by decide)⟩
                        · refine zw_b (by omega) ?_
                          refine zw_some ?_
                          refine zw_ite (fun h75 => ?_) (fun h75 => ?_)
                          · exact zw_some ⟨hIm0, hFm0, hRK10m0, ⟨by decide, by decide⟩, fun h => absurd h (by decide)⟩
                          · exfalso; omega
            · exfalso; omega
          · exfalso; omega
        · exfalso; omega
      · have w76 := zu_w32_id (z := 26 + 7) (by omega) (by omega)
        refine zw_ite (fun h77 => ?_) (fun h77 => ?_)
        · refine zw_b (by omega) ?_
          refine zw_some ?_
          refine zw_ite (fun h78 => ?_) (fun h78 => ?_)
          · refine zw_bd (zw_eq (zu_call_at (zt_T n) (zm_278 n) (zdp_278 n) _ _ _ _ _ rfl (zr_278_0 n _ _ 45 1 m0)) ?_)
            refine zw_ite (fun h79 => ?_) (fun h79 => ?_)
            · refine zw_b (by omega) ?_
              refine zw_some ?_
              refine zw_ite (fun h80 => ?_) (fun h80 => ?_)
              · refine zw_bd (zw_eq (zu_call_at (zt_T n) (zm_279 n) (zdp_279 n) _ _ _ _ _ rfl (zr_279_0 n _ _ 45 25 1 m0)) ?_)
                refine zw_ite (fun h81 => ?_) (fun h81 => ?_)
                · exfalso; omega
                · refine zw_ite (fun h82 => ?_) (fun h82 => ?_)
                  · exfalso; omega
                  · have w83 := zu_w32_id (z := 25 + 1) (by omega) (by omega)
                    refine zw_ite (fun h84 => ?_) (fun h84 => ?_)
                    · refine zw_b (by omega) ?_
                      refine zw_some ?_
                      refine zw_ite (fun h85 => ?_) (fun h85 => ?_)
                      · exact zw_some ⟨hIm0, hFm0, hRK10m0, ⟨by decide, by decide⟩, fun h => absurd h (by decide)⟩
                      · exfalso; omega
                    · exfalso; omega
              · exfalso; omega
            · exfalso; omega
          · exfalso; omega
        · refine zw_b (by omega) ?_
          refine zw_some ?_
          refine zw_ite (fun h86 => ?_) (fun h86 => ?_)
          · exfalso; omega
          · have w87 := zu_w32_id (z := (m0 45 5) - 26) (by omega) (by omega)
            refine zw_bd (zw_eq (zu_call_at (zt_T n) (zm_200 n) (zdp_200 n) _ _ _ _ _ rfl (zr_200_0 n _ _ a0 17 (zu_w32 ((m0 45 5) - 26)) m0)) ?_)
            refine zw_bd (zw_eq (zu_call_at (zt_T n) (zm_204 n) (zdp_204 n) _ _ _ _ _ rfl (zr_204_0 n _ _ a0 m0)) ?_)
            have r88 : 0 ≤ (m0 10 5) ∧ (m0 10 5) ≤ 64 := zi_rd hIm0 zq_10 zb_5_5
            refine zw_ite (fun h89 => ?_) (fun h89 => ?_)
            · have w90 := zu_w32_id (z := (m0 10 5) + 1) (by omega) (by omega)
              generalize hmm91 : zu_up m0 10 5 (zu_w32 ((m0 10 5) + 1)) = m91
              have hIm91 := zi_up hmm91 hIm0 zq_10 zb_5_5 (by omega) (by omega)
              have hFm91 := zfr_up hmm91 hFm0 zq_10 rfl
              have g92 := zop_fr (zdis_fr (zfr_up hmm91 (zfr_rf [(5, 6)] _) zq_10 rfl) rfl)
              have hRK10m91 := zR_K10_fr (zdis_fr (zfr_up hmm91 (zfr_rf [(5, 6)] _) zq_10 rfl) rfl) hRK10m0
              refine zw_b (by omega) ?_
              refine zw_some ?_
              refine zw_ite (fun h93 => ?_) (fun h93 => ?_)
              · refine zw_bd (zw_mono (zk_207 n hIm91 zq_10 ⟨by decide, by decide⟩ ⟨by omega, by omega⟩ (by omega) hRK10m91) (fun v95 m94 hqm94 => ?_))
                obtain ⟨hIm94, hfm94, hvm94⟩ := hqm94
                have hFm94 := zfr_tr hFm91 hfm94 rfl
                obtain ⟨hRK10m94, hvm94⟩ := hvm94
                have g96 := zop_fr (zdis_fr hfm94 rfl)
                have g97 := zop_bd hIm94 hc0
                refine zw_b (by omega) ?_
                generalize hmm98 : zu_up m94 a0 6 0 = m98
                have hIm98 := zi_up hmm98 hIm94 hc0 zb_10_6 (by omega) (by omega)
                have hFm98 := zfr_up hmm98 hFm94 hc0 rfl
                have g99 := zop_fr (zdis_fr (zfr_up hmm98 (zfr_rf [(10, 7)] _) hc0 rfl) rfl)
                have hRK10m98 := zR_K10_fr (zdis_fr (zfr_up hmm98 (zfr_rf [(10, 7)] _) hc0 rfl) rfl) hRK10m94
                refine zw_some ?_
                have r100 : 0 ≤ (m98 a0 4) ∧ (m98 a0 4) ≤ 8 := zi_rd hIm98 hc0 zb_10_4
                have e101 : (m98 a0 4) = (m0 a0 4) := (Eq.trans (zs_ne hmm98 (Or.inr (by decide))) (Eq.trans (zfr_ap hfm94 hc0 rfl) (zs_ne hmm91 (Or.inl (zc_ne hc0 zq_10 (by decide))))))
                exact zw_some ⟨hIm98, hFm98, hRK10m98, ⟨by decide, by decide⟩, fun _ => by omega⟩
              · exfalso; omega
            · refine zw_b (by omega) ?_
              refine zw_some ?_
              refine zw_ite (fun h102 => ?_) (fun h102 => ?_)
              · exfalso; omega
              · refine zw_some ?_
                exact zw_some ⟨hIm0, hFm0, hRK10m0, ⟨by decide, by decide⟩, fun h => absurd h (by decide)⟩
  · have r103 : (-2147483648) ≤ (m0 45 5) ∧ (m0 45 5) ≤ 2147483647 := zi_rd hIm0 zq_45 zb_9_5
    refine zw_ite (fun h104 => ?_) (fun h104 => ?_)
    · refine zw_bd (zw_eq (zu_call_at (zt_T n) (zm_200 n) (zdp_200 n) _ _ _ _ _ rfl (zr_200_0 n _ _ a0 16 (m0 45 5) m0)) ?_)
      refine zw_bd (zw_eq (zu_call_at (zt_T n) (zm_204 n) (zdp_204 n) _ _ _ _ _ rfl (zr_204_0 n _ _ a0 m0)) ?_)
      have r105 : 0 ≤ (m0 10 5) ∧ (m0 10 5) ≤ 64 := zi_rd hIm0 zq_10 zb_5_5
      refine zw_ite (fun h106 => ?_) (fun h106 => ?_)
      · have w107 := zu_w32_id (z := (m0 10 5) + 1) (by omega) (by omega)
        generalize hmm108 : zu_up m0 10 5 (zu_w32 ((m0 10 5) + 1)) = m108
        have hIm108 := zi_up hmm108 hIm0 zq_10 zb_5_5 (by omega) (by omega)
        have hFm108 := zfr_up hmm108 hFm0 zq_10 rfl
        have g109 := zop_fr (zdis_fr (zfr_up hmm108 (zfr_rf [(5, 6)] _) zq_10 rfl) rfl)
        have hRK10m108 := zR_K10_fr (zdis_fr (zfr_up hmm108 (zfr_rf [(5, 6)] _) zq_10 rfl) rfl) hRK10m0
        refine zw_b (by omega) ?_
        refine zw_some ?_
        refine zw_ite (fun h110 => ?_) (fun h110 => ?_)
        · refine zw_bd (zw_mono (zk_207 n hIm108 zq_10 ⟨by decide, by decide⟩ ⟨by omega, by omega⟩ (by omega) hRK10m108) (fun v112 m111 hqm111 => ?_))
          obtain ⟨hIm111, hfm111, hvm111⟩ := hqm111
          have hFm111 := zfr_tr hFm108 hfm111 rfl
          obtain ⟨hRK10m111, hvm111⟩ := hvm111
          have g113 := zop_fr (zdis_fr hfm111 rfl)
          have g114 := zop_bd hIm111 hc0
          refine zw_b (by omega) ?_
          generalize hmm115 : zu_up m111 a0 6 0 = m115
          have hIm115 := zi_up hmm115 hIm111 hc0 zb_10_6 (by omega) (by omega)
          have hFm115 := zfr_up hmm115 hFm111 hc0 rfl
          have g116 := zop_fr (zdis_fr (zfr_up hmm115 (zfr_rf [(10, 7)] _) hc0 rfl) rfl)
          have hRK10m115 := zR_K10_fr (zdis_fr (zfr_up hmm115 (zfr_rf [(10, 7)] _) hc0 rfl) rfl) hRK10m111
          refine zw_some ?_
          have r117 : 0 ≤ (m115 a0 4) ∧ (m115 a0 4) ≤ 8 := zi_rd hIm115 hc0 zb_10_4
          have e118 : (m115 a0 4) = (m0 a0 4) := (Eq.trans (zs_ne hmm115 (Or.inr (by decide))) (Eq.trans (zfr_ap hfm111 hc0 rfl) (zs_ne hmm108 (Or.inl (zc_ne hc0 zq_10 (by decide))))))
          exact zw_some ⟨hIm115, hFm115, hRK10m115, ⟨by decide, by decide⟩, fun _ => by omega⟩
        · exfalso; omega
      · refine zw_b (by omega) ?_
        refine zw_some ?_
        refine zw_ite (fun h119 => ?_) (fun h119 => ?_)
        · exfalso; omega
        · refine zw_some ?_
          exact zw_some ⟨hIm0, hFm0, hRK10m0, ⟨by decide, by decide⟩, fun h => absurd h (by decide)⟩
    · exact zw_some ⟨hIm0, hFm0, hRK10m0, ⟨by decide, by decide⟩, fun h => absurd h (by decide)⟩
set_option maxHeartbeats 4000000 in
theorem zl_202 (n : Nat) {a0 : Int} {m0 : zu_m} (hc0 : zcls a0 = 10)  (hxp0 : (m0 a0 4) ≤ zop m0) : ∀ k : Nat, (∀ (x1 y0 : Int) (mh : zu_m), zi_I mh → zfr [(5, 6), (5, 7), (10, 4), (10, 5), (10, 7), (10, 8), (33, 0), (34, 0), (47, 0), (48, 0)] m0 mh → ((-1) ≤ x1 ∧ x1 ≤ 14) → (0 ≤ y0 ∧ y0 ≤ 1) → (0 ≤ mh a0 6 ∧ mh a0 6 ≤ 0) → ((mh a0 4) ≤ zop mh) → (x1 = -1 ∨ 3 ≤ x1) → (zR_BN mh) → (zR_K10 mh) → (zR_TV mh) → 2 < (k : Int) → zw (zu_ex (zt_T n) 202 67 [(24, a0), (0, x1), (2, 0), (2, 0)] [(0, y0)] mh) (fun v m => zi_I m ∧ zfr [(5, 6), (5, 7), (10, 4), (10, 5), (10, 7), (10, 8), (33, 0), (34, 0), (47, 0), (48, 0)] m0 m ∧ zR_BN m ∧ zR_K10 m ∧ zR_TV m ∧ (0 ≤ v ∧ v ≤ 2) ∧ (v = 0 → (m a0 4) ≤ zop m))) ∧ (∀ (x1 x2 y0 : Int) (mh : zu_m), zi_I mh → zfr [(5, 6), (5, 7), (10, 4), (10, 5), (10, 7), (10, 8), (33, 0), (34, 0), (47, 0), (48, 0)] m0 mh → (0 ≤ x1 ∧ x1 ≤ 14) → (0 ≤ x2 ∧ x2 ≤ 1) → (0 ≤ y0 ∧ y0 ≤ 1) → (1 ≤ mh 10 5 ∧ mh 10 5 ≤ 64) → (0 ≤ mh a0 6 ∧ mh a0 6 ≤ 0) → ((mh a0 4) ≤ zop mh) → (3 ≤ x1) → (zR_BN mh) → (zR_K10 mh) → (zR_TV mh) → 1 < (k : Int) → zw (zu_ex (zt_T n) 202 117 [(24, a0), (0, x1), (0, x2), (2, 0)] [(0, y0)] mh) (fun v m => zi_I m ∧ zfr [(5, 6), (5, 7), (10, 4), (10, 5), (10, 7), (10, 8), (33, 0), (34, 0), (47, 0), (48, 0)] m0 m ∧ zR_BN m ∧ zR_K10 m ∧ zR_TV m ∧ (0 ≤ v ∧ v ≤ 2) ∧ (v = 0 → (m a0 4) ≤ zop m))) ∧ (∀ (x1 x2 x3 y0 y1 y2 : Int) (mh : zu_m), zi_I mh → zfr [(5, 6), (5, 7), (10, 4), (10, 5), (10, 7), (10, 8), (33, 0), (34, 0), (47, 0), (48, 0)] m0 mh → (0 ≤ x1 ∧ x1 ≤ 14) → (0 ≤ x2 ∧ x2 ≤ 1) → (0 ≤ x3 ∧ x3 ≤ 1) → (0 ≤ y0 ∧ y0 ≤ 1) → (0 ≤ y1 ∧ y1 ≤ 8) → (zcls y2 = 48) → (1 ≤ mh 10 5 ∧ mh 10 5 ≤ 64) → (0 ≤ mh a0 6 ∧ mh a0 6 ≤ 0) → ((mh a0 4) ≤ zop mh) → (3 ≤ x1) → (zR_BN mh) → (zR_K10 mh) → (zR_TV mh) → 0 < (k : Int) → zw (zu_ex (zt_T n) 202 151 [(24, a0), (0, x1), (0, x2), (0, x3)] [(0, y0), (0, y1), (26, y2)] mh) (fun v m => zi_I m ∧ zfr [(5, 6), (5, 7), (10, 4), (10, 5), (10, 7), (10, 8), (33, 0), (34, 0), (47, 0), (48, 0)] m0 m ∧ zR_BN m ∧ zR_K10 m ∧ zR_TV m ∧ (0 ≤ v ∧ v ≤ 2) ∧ (v = 0 → (m a0 4) ≤ zop m))) := by
  intro k
  induction k with
  | zero => exact ⟨fun x1 y0 mh hImh hFmh hbx1 hby0 hg2 hH0 hH1 hRBNmh hRK10mh hRTVmh hM => by exfalso; omega, fun x1 x2 y0 mh hImh hFmh hbx1 hbx2 hby0 hg3 hg4 hH0 hH1 hRBNmh hRK10mh hRTVmh hM => by exfalso; omega, fun x1 x2 x3 y0 y1 y2 mh hImh hFmh hbx1 hbx2 hbx3 hby0 hby1 hy2 hg6 hg7 hH0 hH1 hRBNmh hRK10mh hRTVmh hM => by exfalso; omega⟩
  | succ k ih =>
    refine ⟨?_, ?_, ?_⟩
    · intro x1 y0 mh hImh hFmh hbx1 hby0 hg2 hH0 hH1 hRBNmh hRK10mh hRTVmh hM
      refine zw_eq (zu_rega_at (zt_T n) (zm_202 n) (zdp_202 n) _ _ _ _ _ _ (zr_202_67 n _ _ a0 x1 y0 mh)) ?_
      have r1 : 0 ≤ (mh a0 4) ∧ (mh a0 4) ≤ 8 := zi_rd hImh hc0 zb_10_4
      have g2 := zop_bd hImh hc0
      have s3 := hRTVmh 45 zq_45
      refine zw_ite (fun h4 => ?_) (fun h4 => ?_)
      · exact zw_some ⟨hImh, hFmh, hRBNmh, hRK10mh, hRTVmh, ⟨by decide, by decide⟩, fun h => absurd h (by decide)⟩
      · refine zw_ite (fun h5 => ?_) (fun h5 => ?_)
        · refine zw_bd (zw_eq (zu_call_at (zt_T n) (zm_204 n) (zdp_204 n) _ _ _ _ _ rfl (zr_204_0 n _ _ a0 mh)) ?_)
          have r6 : 0 ≤ (mh 10 5) ∧ (mh 10 5) ≤ 64 := zi_rd hImh zq_10 zb_5_5
          refine zw_ite (fun h7 => ?_) (fun h7 => ?_)
          · have w8 := zu_w32_id (z := (mh 10 5) + 1) (by omega) (by omega)
            generalize hmm9 : zu_up mh 10 5 (zu_w32 ((mh 10 5) + 1)) = m9
            have hIm9 := zi_up hmm9 hImh zq_10 zb_5_5 (by omega) (by omega)
            have hFm9 := zfr_up hmm9 hFmh zq_10 rfl
            have g10 := zop_fr (zdis_fr (zfr_up hmm9 (zfr_rf [(5, 6)] _) zq_10 rfl) rfl)
            have hRBNm9 := zR_BN_fr (zdis_fr (zfr_up hmm9 (zfr_rf [(5, 6)] _) zq_10 rfl) rfl) hRBNmh
            have hRK10m9 := zR_K10_fr (zdis_fr (zfr_up hmm9 (zfr_rf [(5, 6)] _) zq_10 rfl) rfl) hRK10mh
            have hRTVm9 := zR_TV_fr (zdis_fr (zfr_up hmm9 (zfr_rf [(5, 6)] _) zq_10 rfl) rfl) hRTVmh
            refine zw_b (by omega) ?_
            refine zw_some ?_
            refine zw_ite (fun h11 => ?_) (fun h11 => ?_)
            · refine zw_ite (fun h12 => ?_) (fun h12 => ?_)
              · have r13 : 0 ≤ (m9 10 5) ∧ (m9 10 5) ≤ 64 := zi_rd hIm9 zq_10 zb_5_5
                have e14 : (m9 10 5) = (zu_w32 ((mh 10 5) + 1)) := (zs_eq hmm9)
                have r15 : 0 ≤ (m9 a0 6) ∧ (m9 a0 6) ≤ 1 := zi_rd hIm9 hc0 zb_10_6
                have e16 : (m9 a0 6) = (mh a0 6) := (zs_ne hmm9 (Or.inl (zc_ne hc0 zq_10 (by decide))))
                have r17 : 0 ≤ (m9 a0 4) ∧ (m9 a0 4) ≤ 8 := zi_rd hIm9 hc0 zb_10_4
                have e18 : (m9 a0 4) = (mh a0 4) := (zs_ne hmm9 (Or.inl (zc_ne hc0 zq_10 (by decide))))
                have hM : 1 < (k : Int) := by omega
                exact ih.2.1 x1 y0 1 m9 hIm9 hFm9 ⟨by omega, by omega⟩ ⟨by omega, by omega⟩ ⟨by omega, by omega⟩ ⟨by omega, by omega⟩ ⟨by omega, by omega⟩ (by omega) (by omega) hRBNm9 hRK10m9 hRTVm9 hM
              · refine zw_ite (fun h19 => ?_) (fun h19 => ?_)
                · have r20 : 0 ≤ (m9 10 5) ∧ (m9 10 5) ≤ 64 := zi_rd hIm9 zq_10 zb_5_5
                  have e21 : (m9 10 5) = (zu_w32 ((mh 10 5) + 1)) := (zs_eq hmm9)
                  have r22 : 0 ≤ (m9 a0 6) ∧ (m9 a0 6) ≤ 1 := zi_rd hIm9 hc0 zb_10_6
                  have e23 : (m9 a0 6) = (mh a0 6) := (zs_ne hmm9 (Or.inl (zc_ne hc0 zq_10 (by decide))))
                  have r24 : 0 ≤ (m9 a0 4) ∧ (m9 a0 4) ≤ 8 := zi_rd hIm9 hc0 zb_10_4
                  have e25 : (m9 a0 4) = (mh a0 4) := (zs_ne hmm9 (Or.inl (zc_ne hc0 zq_10 (by decide))))
                  have hM : 1 < (k : Int) := by omega
                  exact ih.2.1 x1 y0 0 m9 hIm9 hFm9 ⟨by omega, by omega⟩ ⟨by omega, by omega⟩ ⟨by omega, by omega⟩ ⟨by omega, by omega⟩ ⟨by omega, by omega⟩ (by omega) (by omega) hRBNm9 hRK10m9 hRTVm9 hM
                · have r26 : 0 ≤ (m9 10 5) ∧ (m9 10 5) ≤ 64 := zi_rd hIm9 zq_10 zb_5_5
                  have e27 : (m9 10 5) = (zu_w32 ((mh 10 5) + 1)) := (zs_eq hmm9)
                  have r28 : 0 ≤ (m9 a0 6) ∧ (m9 a0 6) ≤ 1 := zi_rd hIm9 hc0 zb_10_6
                  have e29 : (m9 a0 6) = (mh a0 6) := (zs_ne hmm9 (Or.inl (zc_ne hc0 zq_10 (by decide))))
                  have r30 : 0 ≤ (m9 a0 4) ∧ (m9 a0 4) ≤ 8 := zi_rd hIm9 hc0 zb_10_4
                  have e31 : (m9 a0 4) = (mh a0 4) := (zs_ne hmm9 (Or.inl (zc_ne hc0 zq_10 (by decide))))
                  have hM : 1 < (k : Int) := by omega
                  exact ih.2.1 x1 y0 1 m9 hIm9 hFm9 ⟨by omega, by omega⟩ ⟨by omega, by omega⟩ ⟨by omega, by omega⟩ ⟨by omega, by omega⟩ ⟨by omega, by omega⟩ (by omega) (by omega) hRBNm9 hRK10m9 hRTVm9 hM
            · exfalso; omega
          · refine zw_b (by omega) ?_
            refine zw_some ?_
            refine zw_ite (fun h32 => ?_) (fun h32 => ?_)
            · exfalso; omega
            · exact zw_some ⟨hImh, hFmh, hRBNmh, hRK10mh, hRTVmh, ⟨by decide, by decide⟩, fun h => absurd h (by decide)⟩
        · have b33 : 0 ≤ (mh a0 4) ∧ (mh a0 4) < 9 := by omega
          refine zw_if b33 ?_
          have r34 : 0 ≤ (mh 49 (mh a0 4)) ∧ (mh 49 (mh a0 4)) ≤ 1 := zi_rd hImh zq_49 (zb_48 _)
          refine zw_ite (fun h35 => ?_) (fun h35 => ?_)
          · refine zw_bd (zw_eq (zu_call_at (zt_T n) (zm_204 n) (zdp_204 n) _ _ _ _ _ rfl (zr_204_0 n _ _ a0 mh)) ?_)
            have r36 : 0 ≤ (mh 10 5) ∧ (mh 10 5) ≤ 64 := zi_rd hImh zq_10 zb_5_5
            refine zw_ite (fun h37 => ?_) (fun h37 => ?_)
            · have w38 := zu_w32_id (z := (mh 10 5) + 1) (by omega) (by omega)
              generalize hmm39 : zu_up mh 10 5 (zu_w32 ((mh 10 5) + 1)) = m39
              have hIm39 := zi_up hmm39 hImh zq_10 zb_5_5 (by omega) (by omega)
              have hFm39 := zfr_up hmm39 hFmh zq_10 rfl
              have g40 := zop_fr (zdis_fr (zfr_up hmm39 (zfr_rf [(5, 6)] _) zq_10 rfl) rfl)
              have hRBNm39 := zR_BN_fr (zdis_fr (zfr_up hmm39 (zfr_rf [(5, 6)] _) zq_10 rfl) rfl) hRBNmh
              have hRK10m39 := zR_K10_fr (zdis_fr (zfr_up hmm39 (zfr_rf [(5, 6)] _) zq_10 rfl) rfl) hRK10mh
              have hRTVm39 := zR_TV_fr (zdis_fr (zfr_up hmm39 (zfr_rf [(5, 6)] _) zq_10 rfl) rfl) hRTVmh
              refine zw_b (by omega) ?_
              refine zw_some ?_
              refine zw_ite (fun h41 => ?_) (fun h41 => ?_)
              · refine zw_ite (fun h42 => ?_) (fun h42 => ?_)
                · have r43 : 0 ≤ (m39 10 5) ∧ (m39 10 5) ≤ 64 := zi_rd hIm39 zq_10 zb_5_5
                  have e44 : (m39 10 5) = (zu_w32 ((mh 10 5) + 1)) := (zs_eq hmm39)
                  have r45 : 0 ≤ (m39 a0 6) ∧ (m39 a0 6) ≤ 1 := zi_rd hIm39 hc0 zb_10_6
                  have e46 : (m39 a0 6) = (mh a0 6) := (zs_ne hmm39 (Or.inl (zc_ne hc0 zq_10 (by decide))))
                  have r47 : 0 ≤ (m39 a0 4) ∧ (m39 a0 4) ≤ 8 := zi_rd hIm39 hc0 zb_10_4
                  have e48 : (m39 a0 4) = (mh a0 4) := (zs_ne hmm39 (Or.inl (zc_ne hc0 zq_10 (by decide))))
                  have hM : 1 < (k : Int) := by omega
                  exact ih.2.1 x1 y0 1 m39 hIm39 hFm39 ⟨by omega, by omega⟩ ⟨by omega, by omega⟩ ⟨by omega, by omega⟩ ⟨by omega, by omega⟩ ⟨by omega, by omega⟩ (by omega) (by omega) hRBNm39 hRK10m39 hRTVm39 hM
                · refine zw_ite (fun h49 => ?_) (fun h49 => ?_)
                  · have r50 : 0 ≤ (m39 10 5) ∧ (m39 10 5) ≤ 64 := zi_rd hIm39 zq_10 zb_5_5
                    have e51 : (m39 10 5) = (zu_w32 ((mh 10 5) + 1)) := (zs_eq hmm39)
                    have r52 : 0 ≤ (m39 a0 6) ∧ (m39 a0 6) ≤ 1 := zi_rd hIm39 hc0 zb_10_6
                    have e53 : (m39 a0 6) = (mh a0 6) := (zs_ne hmm39 (Or.inl (zc_ne hc0 zq_10 (by decide))))
                    have r54 : 0 ≤ (m39 a0 4) ∧ (m39 a0 4) ≤ 8 := zi_rd hIm39 hc0 zb_10_4
                    have e55 : (m39 a0 4) = (mh a0 4) := (zs_ne hmm39 (Or.inl (zc_ne hc0 zq_10 (by decide))))
                    have hM : 1 < (k : Int) := by omega
                    exact ih.2.1 x1 y0 0 m39 hIm39 hFm39 ⟨by omega, by omega⟩ ⟨by omega, by omega⟩ ⟨by omega, by omega⟩ ⟨by omega, by omega⟩ ⟨by omega, by omega⟩ (by omega) (by omega) hRBNm39 hRK10m39 hRTVm39 hM
                  · have r56 : 0 ≤ (m39 10 5) ∧ (m39 10 5) ≤ 64 := zi_rd hIm39 zq_10 zb_5_5
                    have e57 : (m39 10 5) = (zu_w32 ((mh 10 5) + 1)) := (zs_eq hmm39)
                    have r58 : 0 ≤ (m39 a0 6) ∧ (m39 a0 6) ≤ 1 := zi_rd hIm39 hc0 zb_10_6
                    have e59 : (m39 a0 6) = (mh a0 6) := (zs_ne hmm39 (Or.inl (zc_ne hc0 zq_10 (by decide))))
                    have r60 : 0 ≤ (m39 a0 4) ∧ (m39 a0 4) ≤ 8 := zi_rd hIm39 hc0 zb_10_4
                    have e61 : (m39 a0 4) = (mh a0 4) := (zs_ne hmm39 (Or.inl (zc_ne hc0 zq_10 (by decide))))
                    have hM : 1 < (k : Int) := by omega
                    exact ih.2.1 x1 y0 1 m39 hIm39 hFm39 ⟨by omega, by omega⟩ ⟨by omega, by omega⟩ ⟨by omega, by omega⟩ ⟨by omega, by omega⟩ ⟨by omega, by omega⟩ (by omega) (by omega) hRBNm39 hRK10m39 hRTVm39 hM
              · exfalso; omega
            · refine zw_b (by omega) ?_
              refine zw_some ?_
              refine zw_ite (fun h62 => ?_) (fun h62 => ?_)
              · exfalso; omega
              · exact zw_some ⟨hImh, hFmh, hRBNmh, hRK10mh, hRTVmh, ⟨by decide, by decide⟩, fun h => absurd h (by decide)⟩
          · exact zw_some ⟨hImh, hFmh, hRBNmh, hRK10mh, hRTVmh, ⟨by decide, by decide⟩, fun h => absurd h (by decide)⟩
    · intro x1 x2 y0 mh hImh hFmh hbx1 hbx2 hby0 hg3 hg4 hH0 hH1 hRBNmh hRK10mh hRTVmh hM
      refine zw_eq (zu_rega_at (zt_T n) (zm_202 n) (zdp_202 n) _ _ _ _ _ _ (zr_202_117 n _ _ a0 x1 x2 y0 mh)) ?_
      have r63 : 0 ≤ (mh a0 4) ∧ (mh a0 4) ≤ 8 := zi_rd hImh hc0 zb_10_4
      have g64 := zop_bd hImh hc0
      have s65 := hRTVmh 45 zq_45
      refine zw_ite (fun h66 => ?_) (fun h66 => ?_)
      · have hM : 0 < (k : Int) := by omega
        exact ih.2.2 x1 x2 y0 1 (mh a0 4) 49 mh hImh hFmh ⟨by omega, by omega⟩ ⟨by omega, by omega⟩ ⟨by omega, by omega⟩ ⟨by omega, by omega⟩ ⟨by omega, by omega⟩ zq_49 ⟨by omega, by omega⟩ ⟨by omega, by omega⟩ (by omega) (by omega) hRBNmh hRK10mh hRTVmh hM
      · refine zw_ite (fun h67 => ?_) (fun h67 => ?_)
        · have hM : 0 < (k : Int) := by omega
          exact ih.2.2 x1 x2 y0 0 (mh a0 4) 49 mh hImh hFmh ⟨by omega, by omega⟩ ⟨by omega, by omega⟩ ⟨by omega, by omega⟩ ⟨by omega, by omega⟩ ⟨by omega, by omega⟩ zq_49 ⟨by omega, by omega⟩ ⟨by omega, by omega⟩ (by omega) (by omega) hRBNmh hRK10mh hRTVmh hM
        · have b68 : 0 ≤ (mh a0 4) ∧ (mh a0 4) < 9 := by omega
          refine zw_if b68 ?_
          have r69 : 0 ≤ (mh 49 (mh a0 4)) ∧ (mh 49 (mh a0 4)) ≤ 1 := zi_rd hImh zq_49 (zb_48 _)
          refine zw_ite (fun h70 => ?_) (fun h70 => ?_)
          · have hM : 0 < (k : Int) := by omega
            exact ih.2.2 x1 x2 y0 0 (mh a0 4) 49 mh hImh hFmh ⟨by omega, by omega⟩ ⟨by omega, by omega⟩ ⟨by omega, by omega⟩ ⟨by omega, by omega⟩ ⟨by omega, by omega⟩ zq_49 ⟨by omega, by omega⟩ ⟨by omega, by omega⟩ (by omega) (by omega) hRBNmh hRK10mh hRTVmh hM
          · have hM : 0 < (k : Int) := by omega
            exact ih.2.2 x1 x2 y0 1 (mh a0 4) 49 mh hImh hFmh ⟨by omega, by omega⟩ ⟨by omega, by omega⟩ ⟨by omega, by omega⟩ ⟨by omega, by omega⟩ ⟨by omega, by omega⟩ zq_49 ⟨by omega, by omega⟩ ⟨by omega, by omega⟩ (by omega) (by omega) hRBNmh hRK10mh hRTVmh hM
    · intro x1 x2 x3 y0 y1 y2 mh hImh hFmh hbx1 hbx2 hbx3 hby0 hby1 hy2 hg6 hg7 hH0 hH1 hRBNmh hRK10mh hRTVmh hM
      refine zw_eq (zu_rega_at (zt_T n) (zm_202 n) (zdp_202 n) _ _ _ _ _ _ (zr_202_151 n _ _ a0 x1 x2 x3 y0 y1 y2 mh)) ?_
      have r71 : 0 ≤ (mh a0 4) ∧ (mh a0 4) ≤ 8 := zi_rd hImh hc0 zb_10_4
      have g72 := zop_bd hImh hc0
      have s73 := hRTVmh 45 zq_45
      refine zw_b (by omega) ?_
      have b74 : 0 ≤ y1 ∧ y1 < 9 := by omega
      refine zw_if b74 ?_
      generalize hmm75 : zu_up mh y2 y1 y0 = m75
      have hIm75 := zi_up hmm75 hImh hy2 (zb_48 _) (by omega) (by omega)
      have hFm75 := zfr_up hmm75 hFmh hy2 rfl
      have g76 := zop_fr (zdis_fr (zfr_up hmm75 (zfr_rf [(48, 0)] _) hy2 rfl) rfl)
      have hRBNm75 := zR_BN_fr (zdis_fr (zfr_up hmm75 (zfr_rf [(48, 0)] _) hy2 rfl) rfl) hRBNmh
      have hRK10m75 := zR_K10_fr (zdis_fr (zfr_up hmm75 (zfr_rf [(48, 0)] _) hy2 rfl) rfl) hRK10mh
      have hRTVm75 := zR_TV_fr (zdis_fr (zfr_up hmm75 (zfr_rf [(48, 0)] _) hy2 rfl) rfl) hRTVmh
      refine zw_b (by omega) ?_
      generalize hmm77 : zu_up m75 a0 6 1 = m77
      have hIm77 := zi_up hmm77 hIm75 hc0 zb_10_6 (by omega) (by omega)
      have hFm77 := zfr_up hmm77 hFm75 hc0 rfl
      have g78 := zop_fr (zdis_fr (zfr_up hmm77 (zfr_rf [(10, 7)] _) hc0 rfl) rfl)
      have hRBNm77 := zR_BN_fr (zdis_fr (zfr_up hmm77 (zfr_rf [(10, 7)] _) hc0 rfl) rfl) hRBNm75
      have hRK10m77 := zR_K10_fr (zdis_fr (zfr_up hmm77 (zfr_rf [(10, 7)] _) hc0 rfl) rfl) hRK10m75
      have hRTVm77 := zR_TV_fr (zdis_fr (zfr_up hmm77 (zfr_rf [(10, 7)] _) hc0 rfl) rfl) hRTVm75
      refine zw_b (by omega) ?_
      generalize hmm79 : zu_up m77 a0 7 x3 = m79
      have hIm79 := zi_up hmm79 hIm77 hc0 zb_10_7 (by omega) (by omega)
      have hFm79 := zfr_up hmm79 hFm77 hc0 rfl
      have g80 := zop_fr (zdis_fr (zfr_up hmm79 (zfr_rf [(10, 8)] _) hc0 rfl) rfl)
      have hRBNm79 := zR_BN_fr (zdis_fr (zfr_up hmm79 (zfr_rf [(10, 8)] _) hc0 rfl) rfl) hRBNm77
      have hRK10m79 := zR_K10_fr (zdis_fr (zfr_up hmm79 (zfr_rf [(10, 8)] _) hc0 rfl) rfl) hRK10m77
      have hRTVm79 := zR_TV_fr (zdis_fr (zfr_up hmm79 (zfr_rf [(10, 8)] _) hc0 rfl) rfl) hRTVm77
      have r81 : 0 ≤ (m79 2 x1) ∧ (m79 2 x1) ≤ 6 := zi_rd hIm79 zq_2 (zb_1 _)
      have s82 := hRBNm79.2 x1 (by omega) (by omega)
      have b83 : 0 ≤ x1 ∧ x1 < 18 := by omega
      refine zw_if b83 ?_
      refine zw_bd (zw_mono (zk_206 n hIm79 hc0 ⟨by omega, by omega⟩ (by omega) hRBNm79 hRK10m79) (fun v85 m84 hqm84 => ?_))
      obtain ⟨hIm84, hfm84, hvm84⟩ := hqm84
      have hFm84 := zfr_tr hFm79 hfm84 rfl
      obtain ⟨hRBNm84, hRK10m84, hvm84⟩ := hvm84
      have hRTVm84 := zR_TV_fr (zdis_fr hfm84 rfl) hRTVm79
      have g86 := zop_bd hIm84 hc0
      have s87 := hRTVm84 45 zq_45
      refine zw_bd (zw_eq (zu_call_at (zt_T n) (zm_205 n) (zdp_205 n) _ _ _ _ _ rfl (zr_205_0 n _ _ a0 x1 m84)) ?_)
      have r88 : 0 ≤ (m84 a0 3) ∧ (m84 a0 3) ≤ 72 := zi_rd hIm84 hc0 zb_10_3
      refine zw_ite (fun h89 => ?_) (fun h89 => ?_)
      · have b90 : 0 ≤ (m84 a0 3) ∧ (m84 a0 3) < 72 := by omega
        refine zw_if b90 ?_
        generalize hmm91 : zu_up m84 48 (m84 a0 3) x1 = m91
        have hIm91 := zi_up hmm91 hIm84 zq_48 (zb_47 _) (by omega) (by omega)
        have hFm91 := zfr_up hmm91 hFm84 zq_48 rfl
        have hRBNm91 := zR_BN_fr (zdis_fr (zfr_up hmm91 (zfr_rf [(47, 0)] _) zq_48 rfl) rfl) hRBNm84
        have hRK10m91 := zR_K10_fr (zdis_fr (zfr_up hmm91 (zfr_rf [(47, 0)] _) zq_48 rfl) rfl) hRK10m84
        have hRTVm91 := zR_TV_fr (zdis_fr (zfr_up hmm91 (zfr_rf [(47, 0)] _) zq_48 rfl) rfl) hRTVm84
        have r92 : 0 ≤ (m91 a0 3) ∧ (m91 a0 3) ≤ 72 := zi_rd hIm91 hc0 zb_10_3
        have e93 : (m91 a0 3) = (m84 a0 3) := (zs_ne hmm91 (Or.inl (zc_ne hc0 zq_48 (by decide))))
        have w94 := zu_w32_id (z := (m91 a0 3) + 1) (by omega) (by omega)
        generalize hmm95 : zu_up m91 a0 3 (zu_w32 ((m91 a0 3) + 1)) = m95
        have hIm95 := zi_up hmm95 hIm91 hc0 zb_10_3 (by omega) (by omega)
        have hFm95 := zfr_up hmm95 hFm91 hc0 rfl
        have hRBNm95 := zR_BN_fr (zdis_fr (zfr_up hmm95 (zfr_rf [(10, 4)] _) hc0 rfl) rfl) hRBNm91
        have hRK10m95 := zR_K10_fr (zdis_fr (zfr_up hmm95 (zfr_rf [(10, 4)] _) hc0 rfl) rfl) hRK10m91
        have hRTVm95 := zR_TV_fr (zdis_fr (zfr_up hmm95 (zfr_rf [(10, 4)] _) hc0 rfl) rfl) hRTVm91
        have g96 := zop_push hmm91 hmm95 hc0 (by omega) (by omega) (by omega)
        have g97 := zop_bd hIm95 hc0
        refine zw_some ?_
        have r98 : 0 ≤ (m95 a0 4) ∧ (m95 a0 4) ≤ 8 := zi_rd hIm95 hc0 zb_10_4
        have e99 : (m95 a0 4) = (mh a0 4) := (Eq.trans (zs_ne hmm95 (Or.inr (by decide))) (Eq.trans (zs_ne hmm91 (Or.inl (zc_ne hc0 zq_48 (by decide)))) (Eq.trans (zfr_ap hfm84 hc0 rfl) (Eq.trans (zs_ne hmm79 (Or.inr (by decide))) (Eq.trans (zs_ne hmm77 (Or.inr (by decide))) (zs_ne hmm75 (Or.inl (zc_ne hc0 hy2 (by decide)))))))))
        exact zw_some ⟨hIm95, hFm95, hRBNm95, hRK10m95, hRTVm95, ⟨by decide, by decide⟩, fun _ => by omega⟩
      · refine zw_some ?_
        have r100 : 0 ≤ (m84 a0 4) ∧ (m84 a0 4) ≤ 8 := zi_rd hIm84 hc0 zb_10_4
        have e101 : (m84 a0 4) = (mh a0 4) := (Eq.trans (zfr_ap hfm84 hc0 rfl) (Eq.trans (zs_ne hmm79 (Or.inr (by decide))) (Eq.trans (zs_ne hmm77 (Or.inr (by decide))) (zs_ne hmm75 (Or.inl (zc_ne hc0 hy2 (by decide)))))))
        exact zw_some ⟨hIm84, hFm84, hRBNm84, hRK10m84, hRTVm84, ⟨by decide, by decide⟩, fun h => absurd h (by decide)⟩
set_option maxHeartbeats 4000000 in
theorem zk_202 (n : Nat) {a0 : Int} {m0 : zu_m} (hIm0 : zi_I m0) (hc0 : zcls a0 = 10)   (he0 : 0 ≤ m0 a0 6 ∧ m0 a0 6 ≤ 0) (hxp0 : (m0 a0 4) ≤ zop m0) (hRBNm0 : zR_BN m0) (hRK10m0 : zR_K10 m0) (hRTVm0 : zR_TV m0) : zw (zu_call (zt_T n) 202 [(24, a0)] m0) (fun v m => zi_I m ∧ zfr [(5, 6), (5, 7), (10, 4), (10, 5), (10, 7), (10, 8), (33, 0), (34, 0), (47, 0), (48, 0)] m0 m ∧ zR_BN m ∧ zR_K10 m ∧ zR_TV m ∧ (0 ≤ v ∧ v ≤ 2) ∧ (v = 0 → (m a0 4) ≤ zop m)) := by
  have hFm0 : zfr [(5, 6), (5, 7), (10, 4), (10, 5), (10, 7), (10, 8), (33, 0), (34, 0), (47, 0), (48, 0)] m0 m0 := zfr_rf _ _
  have r102 : 0 ≤ (m0 a0 4) ∧ (m0 a0 4) ≤ 8 := zi_rd hIm0 hc0 zb_10_4
  have g103 := zop_bd hIm0 hc0
  have s104 := hRTVm0 45 zq_45
  refine zw_eq (zu_call_at (zt_T n) (zm_202 n) (zdp_202 n) _ _ _ _ _ rfl (zr_202_0 n _ _ a0 m0)) ?_
  refine zw_bd (zw_eq (zu_call_at (zt_T n) (zm_278 n) (zdp_278 n) _ _ _ _ _ rfl (zr_278_0 n _ _ 45 2 m0)) ?_)
  have r105 : 0 ≤ (m0 45 4) ∧ (m0 45 4) ≤ 5 := zi_rd hIm0 zq_45 zb_9_4
  refine zw_ite (fun h106 => ?_) (fun h106 => ?_)
  · refine zw_b (by omega) ?_
    refine zw_some ?_
    refine zw_ite (fun h107 => ?_) (fun h107 => ?_)
    · refine zw_bd (zw_eq (zu_call_at (zt_T n) (zm_203 n) (zdp_203 n) _ _ _ _ _ rfl (zr_203_0 n _ _ a0 m0)) ?_)
      refine zw_bd (zw_eq (zu_call_at (zt_T n) (zm_279 n) (zdp_279 n) _ _ _ _ _ rfl (zr_279_0 n _ _ 45 23 1 m0)) ?_)
      refine zw_ite (fun h108 => ?_) (fun h108 => ?_)
      · refine zw_b (by omega) ?_
        refine zw_some ?_
        refine zw_ite (fun h109 => ?_) (fun h109 => ?_)
        · refine zw_bd (zw_eq (zu_call_at (zt_T n) (zm_279 n) (zdp_279 n) _ _ _ _ _ rfl (zr_279_0 n _ _ 45 24 1 m0)) ?_)
          refine zw_ite (fun h110 => ?_) (fun h110 => ?_)
          · refine zw_b (by omega) ?_
            refine zw_some ?_
            refine zw_ite (fun h111 => ?_) (fun h111 => ?_)
            · refine zw_ite (fun h112 => ?_) (fun h112 => ?_)
              · refine zw_some ?_
                refine zw_ite (fun h113 => ?_) (fun h113 => ?_)
                · have hM : 2 < ((3 : Nat) : Int) := by omega
                  exact (zl_202 n (m0 := m0) hc0 hxp0 3).1 (-1) 0 m0 hIm0 hFm0 ⟨by omega, by omega⟩ ⟨by omega, by omega⟩ ⟨by omega, by omega⟩ (by omega) (by omega) hRBNm0 hRK10m0 hRTVm0 hM
                · exfalso; omega
              · exfalso; omega
            · exfalso; omega
          · exfalso; omega
        · exfalso; omega
      · have r114 : (-2147483648) ≤ (m0 45 5) ∧ (m0 45 5) ≤ 2147483647 := zi_rd hIm0 zq_45 zb_9_5
        refine zw_ite (fun h115 => ?_) (fun h115 => ?_)
        · refine zw_b (by omega) ?_
          refine zw_some ?_
          refine zw_ite (fun h116 => ?_) (fun h116 => ?_)
          · refine zw_bd (zw_eq (zu_call_at (zt_T n) (zm_279 n) (zdp_279 n) _ _ _ _ _ rfl (zr_279_0 n _ _ 45 24 1 m0)) ?_)
            refine zw_ite (fun h117 => ?_) (fun h117 => ?_)
            · exfalso; omega
            · refine zw_ite (fun h118 => ?_) (fun h118 => ?_)
              · refine zw_b (by omega) ?_
                refine zw_some ?_
                refine zw_ite (fun h119 => ?_) (fun h119 => ?_)
                · refine zw_ite (fun h120 => ?_) (fun h120 => ?_)
                  · refine zw_some ?_
                    refine zw_ite (fun h121 => ?_) (fun h121 => ?_)
                    · have hM : 2 < ((3 : Nat) : Int) := by omega
                      exact (zl_202 n (m0 := m0) hc0 hxp0 3).1 (-1) 0 m0 hIm0 hFm0 ⟨by omega, by omega⟩ ⟨by omega, by omega⟩ ⟨by omega, by omega⟩ (by omega) (by omega) hRBNm0 hRK10m0 hRTVm0 hM
                    · exfalso; omega
                  · exfalso; omega
                · exfalso; omega
              · exfalso; omega
          · exfalso; omega
        · have w122 := zu_w32_id (z := 23 + 1) (by omega) (by omega)
          refine zw_ite (fun h123 => ?_) (fun h123 => ?_)
          · refine zw_b (by omega) ?_
            refine zw_some ?_
            refine zw_ite (fun h124 => ?_) (fun h124 => ?_)
            · refine zw_bd (zw_eq (zu_call_at (zt_T n) (zm_279 n) (zdp_279 n) _ _ _ _ _ rfl (zr_279_0 n _ _ 45 24 1 m0)) ?_)
              refine zw_ite (fun h125 => ?_) (fun h125 => ?_)
              · exfalso; omega
              · refine zw_ite (fun h126 => ?_) (fun h126 => ?_)
                · exfalso; omega
                · have w127 := zu_w32_id (z := 24 + 1) (by omega) (by omega)
                  refine zw_ite (fun h128 => ?_) (fun h128 => ?_)
                  · refine zw_b (by omega) ?_
                    refine zw_some ?_
                    refine zw_ite (fun h129 => ?_) (fun h129 => ?_)
                    · refine zw_ite (fun h130 => ?_) (fun h130 => ?_)
                      · refine zw_some ?_
                        refine zw_ite (fun h131 => ?_) (fun h131 => ?_)
                        · have hM : 2 < ((3 : Nat) : Int) := by omega
                          exact (zl_202 n (m0 := m0) hc0 hxp0 3).1 (-1) 0 m0 hIm0 hFm0 ⟨by omega, by omega⟩ ⟨by omega, by omega⟩ ⟨by omega, by omega⟩ (by omega) (by omega) hRBNm0 hRK10m0 hRTVm0 hM
                        · exfalso; omega
                      · exfalso; omega
                    · exfalso; omega
                  · refine zw_b (by omega) ?_
                    refine zw_some ?_
                    refine zw_ite (fun h132 => ?_) (fun h132 => ?_)
                    · exfalso; omega
                    · refine zw_some ?_
                      refine zw_ite (fun h133 => ?_) (fun h133 => ?_)
                      · exfalso; omega
                      · refine zw_ite (fun h134 => ?_) (fun h134 => ?_)
                        · have hM : 2 < ((3 : Nat) : Int) := by omega
                          exact (zl_202 n (m0 := m0) hc0 hxp0 3).1 14 0 m0 hIm0 hFm0 ⟨by omega, by omega⟩ ⟨by omega, by omega⟩ ⟨by omega, by omega⟩ (by omega) (by omega) hRBNm0 hRK10m0 hRTVm0 hM
                        · exfalso; omega
            · exfalso; omega
          · refine zw_b (by omega) ?_
            refine zw_some ?_
            refine zw_ite (fun h135 => ?_) (fun h135 => ?_)
            · exfalso; omega
            · refine zw_some ?_
              refine zw_ite (fun h136 => ?_) (fun h136 => ?_)
              · exfalso; omega
              · refine zw_ite (fun h137 => ?_) (fun h137 => ?_)
                · have hM : 2 < ((3 : Nat) : Int) := by omega
                  exact (zl_202 n (m0 := m0) hc0 hxp0 3).1 13 0 m0 hIm0 hFm0 ⟨by omega, by omega⟩ ⟨by omega, by omega⟩ ⟨by omega, by omega⟩ (by omega) (by omega) hRBNm0 hRK10m0 hRTVm0 hM
                · exfalso; omega
    · exfalso; omega
  · refine zw_ite (fun h138 => ?_) (fun h138 => ?_)
    · refine zw_b (by omega) ?_
      refine zw_some ?_
      refine zw_ite (fun h139 => ?_) (fun h139 => ?_)
      · refine zw_bd (zw_eq (zu_call_at (zt_T n) (zm_203 n) (zdp_203 n) _ _ _ _ _ rfl (zr_203_0 n _ _ a0 m0)) ?_)
        refine zw_bd (zw_eq (zu_call_at (zt_T n) (zm_279 n) (zdp_279 n) _ _ _ _ _ rfl (zr_279_0 n _ _ 45 23 1 m0)) ?_)
        refine zw_ite (fun h140 => ?_) (fun h140 => ?_)
        · refine zw_b (by omega) ?_
          refine zw_some ?_
          refine zw_ite (fun h141 => ?_) (fun h141 => ?_)
          · refine zw_bd (zw_eq (zu_call_at (zt_T n) (zm_279 n) (zdp_279 n) _ _ _ _ _ rfl (zr_279_0 n _ _ 45 24 1 m0)) ?_)
            refine zw_ite (fun h142 => ?_) (fun h142 => ?_)
            · refine zw_b (by omega) ?_
              refine zw_some ?_
              refine zw_ite (fun h143 => ?_) (fun h143 => ?_)
              · refine zw_ite (fun h144 => ?_) (fun h144 => ?_)
                · exfalso; omega
                · refine zw_ite (fun h145 => ?_) (fun h145 => ?_)
                  · refine zw_some ?_
                    refine zw_ite (fun h146 => ?_) (fun h146 => ?_)
                    · have hM : 2 < ((3 : Nat) : Int) := by omega
                      exact (zl_202 n (m0 := m0) hc0 hxp0 3).1 (-1) 0 m0 hIm0 hFm0 ⟨by omega, by omega⟩ ⟨by omega, by omega⟩ ⟨by omega, by omega⟩ (by omega) (by omega) hRBNm0 hRK10m0 hRTVm0 hM
                    · exfalso; omega
                  · refine zw_some ?_
                    refine zw_ite (fun h147 => ?_) (fun h147 => ?_)
                    · have hM : 2 < ((3 : Nat) : Int) := by omega
                      exact (zl_202 n (m0 := m0) hc0 hxp0 3).1 (m0 45 5) 0 m0 hIm0 hFm0 ⟨by omega, by omega⟩ ⟨by omega, by omega⟩ ⟨by omega, by omega⟩ (by omega) (by omega) hRBNm0 hRK10m0 hRTVm0 hM
                    · refine zw_ite (fun h148 => ?_) (fun h148 => ?_)
                      · exfalso; omega
                      · have hM : 2 < ((3 : Nat) : Int) := by omega
                        exact (zl_202 n (m0 := m0) hc0 hxp0 3).1 (m0 45 5) 1 m0 hIm0 hFm0 ⟨by omega, by omega⟩ ⟨by omega, by omega⟩ ⟨by omega, by omega⟩ (by omega) (by omega) hRBNm0 hRK10m0 hRTVm0 hM
              · exfalso; omega
            · exfalso; omega
          · exfalso; omega
        · exfalso; omega
      · exfalso; omega
    · refine zw_b (by omega) ?_
      refine zw_some ?_
      refine zw_ite (fun h149 => ?_) (fun h149 => ?_)
      · exfalso; omega
      · refine zw_ite (fun h150 => ?_) (fun h150 => ?_)
        · refine zw_bd (zw_eq (zu_call_at (zt_T n) (zm_203 n) (zdp_203 n) _ _ _ _ _ rfl (zr_203_0 n _ _ a0 m0)) ?_)
          refine zw_bd (zw_eq (zu_call_at (zt_T n) (zm_279 n) (zdp_279 n) _ _ _ _ _ rfl (zr_279_0 n _ _ 45 23 1 m0)) ?_)
          refine zw_ite (fun h151 => ?_) (fun h151 => ?_)
          · refine zw_b (by omega) ?_
            refine zw_some ?_
            refine zw_ite (fun h152 => ?_) (fun h152 => ?_)
            · refine zw_bd (zw_eq (zu_call_at (zt_T n) (zm_279 n) (zdp_279 n) _ _ _ _ _ rfl (zr_279_0 n _ _ 45 24 1 m0)) ?_)
              refine zw_ite (fun h153 => ?_) (fun h153 => ?_)
              · refine zw_b (by omega) ?_
                refine zw_some ?_
                refine zw_ite (fun h154 => ?_) (fun h154 => ?_)
                · refine zw_ite (fun h155 => ?_) (fun h155 => ?_)
                  · exfalso; omega
                  · refine zw_ite (fun h156 => ?_) (fun h156 => ?_)
                    · refine zw_some ?_
                      refine zw_ite (fun h157 => ?_) (fun h157 => ?_)
                      · have hM : 2 < ((3 : Nat) : Int) := by omega
                        exact (zl_202 n (m0 := m0) hc0 hxp0 3).1 (-1) 0 m0 hIm0 hFm0 ⟨by omega, by omega⟩ ⟨by omega, by omega⟩ ⟨by omega, by omega⟩ (by omega) (by omega) hRBNm0 hRK10m0 hRTVm0 hM
                      · exfalso; omega
                    · exfalso; omega
                · exfalso; omega
              · exfalso; omega
            · exfalso; omega
          · exfalso; omega
        · refine zw_bd (zw_mono (zk_206 n hIm0 hc0 ⟨by decide, by decide⟩ (by omega) hRBNm0 hRK10m0) (fun v159 m158 hqm158 => ?_))
          obtain ⟨hIm158, hfm158, hvm158⟩ := hqm158
          have hFm158 := zfr_tr hFm0 hfm158 rfl
          obtain ⟨hRBNm158, hRK10m158, hvm158⟩ := hvm158
          have hRTVm158 := zR_TV_fr (zdis_fr hfm158 rfl) hRTVm0
          have g160 := zop_bd hIm158 hc0
          have s161 := hRTVm158 45 zq_45
          have r162 : 0 ≤ (m158 a0 3) ∧ (m158 a0 3) ≤ 72 := zi_rd hIm158 hc0 zb_10_3
          have w163 := zu_w32_id (z := (m158 a0 3) - 1) (by omega) (by omega)
          generalize hmm164 : zu_up m158 a0 3 (zu_w32 ((m158 a0 3) - 1)) = m164
          have hIm164 := zi_up hmm164 hIm158 hc0 zb_10_3 (by omega) (by omega)
          have hFm164 := zfr_up hmm164 hFm158 hc0 rfl
          have hRBNm164 := zR_BN_fr (zdis_fr (zfr_up hmm164 (zfr_rf [(10, 4)] _) hc0 rfl) rfl) hRBNm158
          have hRK10m164 := zR_K10_fr (zdis_fr (zfr_up hmm164 (zfr_rf [(10, 4)] _) hc0 rfl) rfl) hRK10m158
          have hRTVm164 := zR_TV_fr (zdis_fr (zfr_up hmm164 (zfr_rf [(10, 4)] _) hc0 rfl) rfl) hRTVm158
          have g165 := zop_pop hmm164 hc0 (by omega) (by omega)
          have g166 := zop_bd hIm164 hc0
          have r167 : 0 ≤ (m164 a0 4) ∧ (m164 a0 4) ≤ 8 := zi_rd hIm164 hc0 zb_10_4
          have e168 : (m164 a0 4) = (m0 a0 4) := (Eq.trans (zs_ne hmm164 (Or.inr (by decide))) (zfr_ap hfm158 hc0 rfl))
          have w169 := zu_w32_id (z := (m164 a0 4) - 1) (by omega) (by omega)
          generalize hmm170 : zu_up m164 a0 4 (zu_w32 ((m164 a0 4) - 1)) = m170
          have hIm170 := zi_up hmm170 hIm164 hc0 zb_10_4 (by omega) (by omega)
          have hFm170 := zfr_up hmm170 hFm164 hc0 rfl
          have g171 := zop_fr (zdis_fr (zfr_up hmm170 (zfr_rf [(10, 5)] _) hc0 rfl) rfl)
          have hRBNm170 := zR_BN_fr (zdis_fr (zfr_up hmm170 (zfr_rf [(10, 5)] _) hc0 rfl) rfl) hRBNm164
          have hRK10m170 := zR_K10_fr (zdis_fr (zfr_up hmm170 (zfr_rf [(10, 5)] _) hc0 rfl) rfl) hRK10m164
          have hRTVm170 := zR_TV_fr (zdis_fr (zfr_up hmm170 (zfr_rf [(10, 5)] _) hc0 rfl) rfl) hRTVm164
          have r172 : 0 ≤ (m170 a0 4) ∧ (m170 a0 4) ≤ 8 := zi_rd hIm170 hc0 zb_10_4
          have e173 : (m170 a0 4) = (zu_w32 ((m164 a0 4) - 1)) := (zs_eq hmm170)
          exact zw_some ⟨hIm170, hFm170, hRBNm170, hRK10m170, hRTVm170, ⟨by decide, by decide⟩, fun _ => by omega⟩
set_option maxHeartbeats 4000000 in
theorem zl_219_16 (n : Nat) {a0 a1 : Int} {m0 : zu_m} (hc0 : zcls a0 = 16)  (hxp0 : a1 < (m0 a0 4)) : ∀ k : Nat, (∀ (x2 x3 : Int) (mh : zu_m), zi_I mh → zfr [(18, 2)] m0 mh → (0 ≤ a1 ∧ a1 ≤ 3) → (zcls x2 = 18) → (0 ≤ x3 ∧ x3 ≤ 3) → (1 ≤ mh a0 4 ∧ mh a0 4 ≤ 4) → (x2 = a0 + 2 + 20 + a1) → (zE mh 89 50) → (zgeo mh 50) → (3 - x3) * 1 + 0 < (k : Int) → zw (zu_ex (zt_T n) 219 9 [(27, a0), (0, a1), (21, x2), (0, x3), (2, 0)] [] mh) (fun v m => zi_I m ∧ zfr [(18, 2)] m0 m ∧ zE m 89 50 ∧ zgeo m 50 ∧ True)) := by
  intro k
  induction k with
  | zero => exact fun x2 x3 mh hImh hFmh hba1 hx2 hbx3 hg3 hH0 hRE89mh hRG5mh hM => by exfalso; omega
  | succ k ih =>
    intro x2 x3 mh hImh hFmh hba1 hx2 hbx3 hg3 hH0 hRE89mh hRG5mh hM
    refine zw_eq (zu_rega_at (zt_T n) (zm_219 n) (zdp_219 n) _ _ _ _ _ _ (zr_219_9 n _ _ a0 a1 x2 x3 mh)) ?_
    have s1 : mh a0 4 = m0 a0 4 := zfr_ap hFmh hc0 rfl
    have r2 : 0 ≤ (mh x2 1) ∧ (mh x2 1) ≤ 47 := zi_rd hImh hx2 zb_18_1
    have r3 : 1 ≤ (mh 50 2) ∧ (mh 50 2) ≤ 48 := zi_rd hImh zq_50 zb_11_2
    have s4 := zE_rd (A := x2) hRE89mh (zone_89 hc0) (c := a1) (by omega) (by omega) (by omega) hH0
    have r5 : 0 ≤ (mh x2 3) ∧ (mh x2 3) ≤ 3 := zi_rd hImh hx2 zb_18_3
    refine zw_ite (fun h6 => ?_) (fun h6 => ?_)
    · exact zw_some ⟨hImh, hFmh, hRE89mh, hRG5mh, trivial⟩
    · refine zw_bd (zw_mono (zk_220_16 n hImh hc0 ⟨by omega, by omega⟩) (fun v8 m7 hqm7 => ?_))
      obtain ⟨hIm7, hfm7, hvm7⟩ := hqm7
      have hFm7 := zfr_tr hFmh hfm7 rfl
      have hRE89m7 := zR_E89_fr (zdis_fr hfm7 rfl) hRE89mh
      have hRG5m7 := zR_G5_fr (zdis_fr hfm7 rfl) hRG5mh
      have r9 : 1 ≤ (m7 50 2) ∧ (m7 50 2) ≤ 48 := zi_rd hIm7 zq_50 zb_11_2
      have e10 : (m7 50 2) = (mh 50 2) := (zfr_ap hfm7 zq_50 rfl)
      refine zw_ite (fun h11 => ?_) (fun h11 => ?_)
      · exact zw_some ⟨hIm7, hFm7, hRE89m7, hRG5m7, trivial⟩
      · have r12 : 0 ≤ (m7 x2 1) ∧ (m7 x2 1) ≤ 47 := zi_rd hIm7 hx2 zb_18_1
        have e13 : (m7 x2 1) = (mh x2 1) := (zfr_ap hfm7 hx2 rfl)
        refine zw_ite (fun h14 => ?_) (fun h14 => ?_)
        · refine zw_bd (zw_mono (zk_246 n hIm7 zq_50 ⟨by omega, by omega⟩ ⟨by omega, by omega⟩ (by omega) (by omega) hRG5m7) (fun v16 m15 hqm15 => ?_))
          obtain ⟨hIm15, hfm15, hvm15⟩ := hqm15
          have hFm15 := zfr_tr hFm7 hfm15 rfl
          obtain ⟨hRG5m15, hvm15⟩ := hvm15
          have hRE89m15 := zR_E89_fr (zdis_fr hfm15 rfl) hRE89m7
          have r17 : 1 ≤ (m15 50 2) ∧ (m15 50 2) ≤ 48 := zi_rd hIm15 zq_50 zb_11_2
          have e18 : (m15 50 2) = (m7 50 2) := (zfr_ap hfm15 zq_50 rfl)
          generalize hmm19 : zu_up m15 x2 1 v16 = m19
          have hIm19 := zi_up hmm19 hIm15 hx2 zb_18_1 (by omega) (by omega)
          have hFm19 := zfr_up hmm19 hFm15 hx2 rfl
          have hRG5m19 := zR_G5_fr (zdis_fr (zfr_up hmm19 (zfr_rf [(18, 2)] _) hx2 rfl) rfl) hRG5m15
          have hRE89m19 : zE m19 89 50 := zE_up hmm19 (by omega) hRE89m15
          have w20 := zu_w32_id (z := x3 + 1) (by omega) (by omega)
          have r21 : 0 ≤ (m19 a0 4) ∧ (m19 a0 4) ≤ 4 := zi_rd hIm19 hc0 zb_16_4
          have e22 : (m19 a0 4) = (mh a0 4) := (Eq.trans (zs_ne hmm19 (Or.inl (zc_ne hc0 hx2 (by decide)))) (Eq.trans (zfr_ap hfm15 hc0 rfl) (zfr_ap hfm7 hc0 rfl)))
          have hM : (3 - (zu_w32 (x3 + 1))) * 1 + 0 < (k : Int) := by omega
          exact zw_le (zu_forget (zu_lr_same (zu_lr_same (zu_lr_same (zu_lr_same (zu_lr_drop zu_lr_nil)))))) (ih x2 (zu_w32 (x3 + 1)) m19 hIm19 hFm19 ⟨by omega, by omega⟩ hx2 ⟨by omega, by omega⟩ ⟨by omega, by omega⟩ (by omega) hRE89m19 hRG5m19 hM)
        · exact zw_some ⟨hIm7, hFm7, hRE89m7, hRG5m7, trivial⟩
set_option maxHeartbeats 4000000 in
theorem zk_219_16 (n : Nat) {a0 a1 : Int} {m0 : zu_m} (hIm0 : zi_I m0) (hc0 : zcls a0 = 16) (ha1 : 0 ≤ a1 ∧ a1 ≤ 3)  (he0 : 1 ≤ m0 a0 4 ∧ m0 a0 4 ≤ 4) (hxp0 : a1 < (m0 a0 4)) (hRE89m0 : zE m0 89 50) (hRG5m0 : zgeo m0 50) : zw (zu_call (zt_T n) 219 [(27, a0), (0, a1)] m0) (fun v m => zi_I m ∧ zfr [(18, 2)] m0 m ∧ zE m 89 50 ∧ zgeo m 50 ∧ True) := by
  have hFm0 : zfr [(18, 2)] m0 m0 := zfr_rf _ _
  refine zw_eq (zu_call_at (zt_T n) (zm_219 n) (zdp_219 n) _ _ _ _ _ rfl (zr_219_0 n _ _ a0 a1 m0)) ?_
  have b23 : 0 ≤ a1 ∧ a1 < 4 := by omega
  refine zw_if b23 ?_
  have hM : (3 - 0) * 1 + 0 < ((4 : Nat) : Int) := by omega
  exact (zl_219_16 n (m0 := m0) hc0 hxp0 4) ((a0 + 2) + 20 + a1) 0 m0 hIm0 hFm0 ⟨by omega, by omega⟩ (zc_66_e (zc_16_3 hc0) b23) ⟨by omega, by omega⟩ ⟨by omega, by omega⟩ (by omega) hRE89m0 hRG5m0 hM
set_option maxHeartbeats 4000000 in
theorem zl_219_25 (n : Nat) {a0 a1 : Int} {m0 : zu_m} (hc0 : zcls a0 = 25)  (hxp0 : a1 < (m0 a0 4)) : ∀ k : Nat, (∀ (x2 x3 : Int) (mh : zu_m), zi_I mh → zfr [(27, 2)] m0 mh → (0 ≤ a1 ∧ a1 ≤ 3) → (zcls x2 = 27) → (0 ≤ x3 ∧ x3 ≤ 3) → (1 ≤ mh a0 4 ∧ mh a0 4 ≤ 4) → (x2 = a0 + 2 + 20 + a1) → (zE mh 164 50) → (zgeo mh 50) → (3 - x3) * 1 + 0 < (k : Int) → zw (zu_ex (zt_T n) 219 9 [(27, a0), (0, a1), (21, x2), (0, x3), (2, 0)] [] mh) (fun v m => zi_I m ∧ zfr [(27, 2)] m0 m ∧ zE m 164 50 ∧ zgeo m 50 ∧ True)) := by
  intro k
  induction k with
  | zero => exact fun x2 x3 mh hImh hFmh hba1 hx2 hbx3 hg3 hH0 hRE164mh hRG5mh hM => by exfalso; omega
  | succ k ih =>
    intro x2 x3 mh hImh hFmh hba1 hx2 hbx3 hg3 hH0 hRE164mh hRG5mh hM
    refine zw_eq (zu_rega_at (zt_T n) (zm_219 n) (zdp_219 n) _ _ _ _ _ _ (zr_219_9 n _ _ a0 a1 x2 x3 mh)) ?_
    have s1 : mh a0 4 = m0 a0 4 := zfr_ap hFmh hc0 rfl
    have r2 : 0 ≤ (mh x2 1) ∧ (mh x2 1) ≤ 47 := zi_rd hImh hx2 zb_27_1
    have r3 : 1 ≤ (mh 50 2) ∧ (mh 50 2) ≤ 48 := zi_rd hImh zq_50 zb_11_2
    have s4 := zE_rd (A := x2) hRE164mh (zone_164 hc0) (c := a1) (by omega) (by omega) (by omega) hH0
    have r5 : 0 ≤ (mh x2 3) ∧ (mh x2 3) ≤ 3 := zi_rd hImh hx2 zb_27_3
    refine zw_ite (fun h6 => ?_) (fun h6 => ?_)
    · exact zw_some ⟨hImh, hFmh, hRE164mh, hRG5mh, trivial⟩
    · refine zw_bd (zw_mono (zk_220_25 n hImh hc0 ⟨by omega, by omega⟩) (fun v8 m7 hqm7 => ?_))
      obtain ⟨hIm7, hfm7, hvm7⟩ := hqm7
      have hFm7 := zfr_tr hFmh hfm7 rfl
      have hRE164m7 := zR_E164_fr (zdis_fr hfm7 rfl) hRE164mh
      have hRG5m7 := zR_G5_fr (zdis_fr hfm7 rfl) hRG5mh
      have r9 : 1 ≤ (m7 50 2) ∧ (m7 50 2) ≤ 48 := zi_rd hIm7 zq_50 zb_11_2
      have e10 : (m7 50 2) = (mh 50 2) := (zfr_ap hfm7 zq_50 rfl)
      refine zw_ite (fun h11 => ?_) (fun h11 => ?_)
      · exact zw_some ⟨hIm7, hFm7, hRE164m7, hRG5m7, trivial⟩
      · have r12 : 0 ≤ (m7 x2 1) ∧ (m7 x2 1) ≤ 47 := zi_rd hIm7 hx2 zb_27_1
        have e13 : (m7 x2 1) = (mh x2 1) := (zfr_ap hfm7 hx2 rfl)
        refine zw_ite (fun h14 => ?_) (fun h14 => ?_)
        · refine zw_bd (zw_mono (zk_246 n hIm7 zq_50 ⟨by omega, by omega⟩ ⟨by omega, by omega⟩ (by omega) (by omega) hRG5m7) (fun v16 m15 hqm15 => ?_))
          obtain ⟨hIm15, hfm15, hvm15⟩ := hqm15
          have hFm15 := zfr_tr hFm7 hfm15 rfl
          obtain ⟨hRG5m15, hvm15⟩ := hvm15
          have hRE164m15 := zR_E164_fr (zdis_fr hfm15 rfl) hRE164m7
          have r17 : 1 ≤ (m15 50 2) ∧ (m15 50 2) ≤ 48 := zi_rd hIm15 zq_50 zb_11_2
          have e18 : (m15 50 2) = (m7 50 2) := (zfr_ap hfm15 zq_50 rfl)
          generalize hmm19 : zu_up m15 x2 1 v16 = m19
          have hIm19 := zi_up hmm19 hIm15 hx2 zb_27_1 (by omega) (by omega)
          have hFm19 := zfr_up hmm19 hFm15 hx2 rfl
          have hRG5m19 := zR_G5_fr (zdis_fr (zfr_up hmm19 (zfr_rf [(27, 2)] _) hx2 rfl) rfl) hRG5m15
          have hRE164m19 : zE m19 164 50 := zE_up hmm19 (by omega) hRE164m15
          have w20 := zu_w32_id (z := x3 + 1) (by omega) (by omega)
          have r21 : 0 ≤ (m19 a0 4) ∧ (m19 a0 4) ≤ 4 := zi_rd hIm19 hc0 zb_25_4
          have e22 : (m19 a0 4) = (mh a0 4) := (Eq.trans (zs_ne hmm19 (Or.inl (zc_ne hc0 hx2 (by decide)))) (Eq.trans (zfr_ap hfm15 hc0 rfl) (zfr_ap hfm7 hc0 rfl)))
          have hM : (3 - (zu_w32 (x3 + 1))) * 1 + 0 < (k : Int) := by omega
          exact zw_le (zu_forget (zu_lr_same (zu_lr_same (zu_lr_same (zu_lr_same (zu_lr_drop zu_lr_nil)))))) (ih x2 (zu_w32 (x3 + 1)) m19 hIm19 hFm19 ⟨by omega, by omega⟩ hx2 ⟨by omega, by omega⟩ ⟨by omega, by omega⟩ (by omega) hRE164m19 hRG5m19 hM)
        · exact zw_some ⟨hIm7, hFm7, hRE164m7, hRG5m7, trivial⟩
set_option maxHeartbeats 4000000 in
theorem zk_219_25 (n : Nat) {a0 a1 : Int} {m0 : zu_m} (hIm0 : zi_I m0) (hc0 : zcls a0 = 25) (ha1 : 0 ≤ a1 ∧ a1 ≤ 3)  (he0 : 1 ≤ m0 a0 4 ∧ m0 a0 4 ≤ 4) (hxp0 : a1 < (m0 a0 4)) (hRE164m0 : zE m0 164 50) (hRG5m0 : zgeo m0 50) : zw (zu_call (zt_T n) 219 [(27, a0), (0, a1)] m0) (fun v m => zi_I m ∧ zfr [(27, 2)] m0 m ∧ zE m 164 50 ∧ zgeo m 50 ∧ True) := by
  have hFm0 : zfr [(27, 2)] m0 m0 := zfr_rf _ _
  refine zw_eq (zu_call_at (zt_T n) (zm_219 n) (zdp_219 n) _ _ _ _ _ rfl (zr_219_0 n _ _ a0 a1 m0)) ?_
  have b23 : 0 ≤ a1 ∧ a1 < 4 := by omega
  refine zw_if b23 ?_
  have hM : (3 - 0) * 1 + 0 < ((4 : Nat) : Int) := by omega
  exact (zl_219_25 n (m0 := m0) hc0 hxp0 4) ((a0 + 2) + 20 + a1) 0 m0 hIm0 hFm0 ⟨by omega, by omega⟩ (zc_96_e (zc_25_3 hc0) b23) ⟨by omega, by omega⟩ ⟨by omega, by omega⟩ (by omega) hRE164m0 hRG5m0 hM
set_option maxHeartbeats 4000000 in
theorem zk_250 (n : Nat) {a0 : Int} {m0 : zu_m} (hIm0 : zi_I m0) (hc0 : zcls a0 = 11)     (hRK54m0 : zR_K54 m0) : zw (zu_call (zt_T n) 250 [(8, a0)] m0) (fun v m => zi_I m ∧ zfr [(56, 0)] m0 m ∧ zR_K54 m ∧ (0 ≤ v ∧ v ≤ 100)) := by
  have hFm0 : zfr [(56, 0)] m0 m0 := zfr_rf _ _
  refine zw_eq (zu_call_at (zt_T n) (zm_250 n) (zdp_250 n) _ _ _ _ _ rfl (zr_250_0 n _ _ a0 m0)) ?_
  refine zw_bd (zw_mono (zk_26 n hIm0 (zc_11_9 hc0) (zc_11_12 hc0) ⟨by decide, by decide⟩ hRK54m0) (fun v2 m1 hqm1 => ?_))
  obtain ⟨hIm1, hfm1, hvm1⟩ := hqm1
  have hFm1 := zfr_tr hFm0 hfm1 rfl
  obtain ⟨hRK54m1, hvm1⟩ := hvm1
  have c3 := zu_lcmp_sp v2 (-9223372036854775808)
  refine zw_ite (fun h4 => ?_) (fun h4 => ?_)
  · have b5 : 0 ≤ (2 : Int) ∧ (2 : Int) < 7 := by omega
    refine zw_if b5 ?_
    have r6 : 0 ≤ (m1 (a0 + 12) 2) ∧ (m1 (a0 + 12) 2) ≤ 3 := zi_rdr (m := 7) (r0 := 2) (r1 := 2) hIm1 (zc_11_12 hc0) (by omega) (by decide +kernel)
    refine zw_ite (fun h7 => ?_) (fun h7 => ?_)
    · have b8 : 0 ≤ (1 : Int) ∧ (1 : Int) < 7 := by omega
      refine zw_if b8 ?_
      have r9 : 0 ≤ (m1 (a0 + 12) 1) ∧ (m1 (a0 + 12) 1) ≤ 9 := zi_rdr (m := 7) (r0 := 1) (r1 := 1) hIm1 (zc_11_12 hc0) (by omega) (by decide +kernel)
      have w10 := zu_w32_id (z := 10 * (m1 (a0 + 12) 1)) (by omega) (by omega)
      have w11 := zu_w32_id (z := 100 - (zu_w32 (10 * (m1 (a0 + 12) 1)))) (by omega) (by omega)
      refine zw_ite (fun h12 => ?_) (fun h12 => ?_)
      · have w13 := zu_w32_id (z := (zu_w32 (100 - (zu_w32 (10 * (m1 (a0 + 12) 1))))) - 0) (by omega) (by omega)
        have k14 := zmax_bd 0 (zu_w32 ((zu_w32 (100 - (zu_w32 (10 * (m1 (a0 + 12) 1))))) - 0))
        exact zw_some ⟨hIm1, hFm1, hRK54m1, ⟨by omega, by omega⟩⟩
      · exfalso; omega
    · have b15 : 0 ≤ (0 : Int) ∧ (0 : Int) < 7 := by omega
      refine zw_if b15 ?_
      have r16 : 0 ≤ (m1 (a0 + 12) 0) ∧ (m1 (a0 + 12) 0) ≤ 15 := zi_rdr (m := 7) (r0 := 0) (r1 := 0) hIm1 (zc_11_12 hc0) (by omega) (by decide +kernel)
      refine zw_ite (fun h17 => ?_) (fun h17 => ?_)
      · have b18 : 0 ≤ (1 : Int) ∧ (1 : Int) < 7 := by omega
        refine zw_if b18 ?_
        have r19 : 0 ≤ (m1 (a0 + 12) 1) ∧ (m1 (a0 + 12) 1) ≤ 9 := zi_rdr (m := 7) (r0 := 1) (r1 := 1) hIm1 (zc_11_12 hc0) (by omega) (by decide +kernel)
        have w20 := zu_w32_id (z := 10 * (m1 (a0 + 12) 1)) (by omega) (by omega)
        have w21 := zu_w32_id (z := 100 - (zu_w32 (10 * (m1 (a0 + 12) 1)))) (by omega) (by omega)
        refine zw_ite (fun h22 => ?_) (fun h22 => ?_)
        · have w23 := zu_w32_id (z := (zu_w32 (100 - (zu_w32 (10 * (m1 (a0 + 12) 1))))) - 0) (by omega) (by omega)
          have k24 := zmax_bd 0 (zu_w32 ((zu_w32 (100 - (zu_w32 (10 * (m1 (a0 + 12) 1))))) - 0))
          exact zw_some ⟨hIm1, hFm1, hRK54m1, ⟨by omega, by omega⟩⟩
        · exfalso; omega
      · have b25 : 0 ≤ (1 : Int) ∧ (1 : Int) < 7 := by omega
        refine zw_if b25 ?_
        have r26 : 0 ≤ (m1 (a0 + 12) 1) ∧ (m1 (a0 + 12) 1) ≤ 9 := zi_rdr (m := 7) (r0 := 1) (r1 := 1) hIm1 (zc_11_12 hc0) (by omega) (by decide +kernel)
        have w27 := zu_w32_id (z := 10 * (m1 (a0 + 12) 1)) (by omega) (by omega)
        have w28 := zu_w32_id (z := 100 - (zu_w32 (10 * (m1 (a0 + 12) 1)))) (by omega) (by omega)
        refine zw_ite (fun h29 => ?_) (fun h29 => ?_)
        · exfalso; omega
        · have w30 := zu_w32_id (z := (zu_w32 (100 - (zu_w32 (10 * (m1 (a0 + 12) 1))))) - 20) (by omega) (by omega)
          have k31 := zmax_bd 0 (zu_w32 ((zu_w32 (100 - (zu_w32 (10 * (m1 (a0 + 12) 1))))) - 20))
          exact zw_some ⟨hIm1, hFm1, hRK54m1, ⟨by omega, by omega⟩⟩
  · refine zw_bd (zw_eq (zu_call_at (zt_T n) (zm_253 n) (zdp_253 n) _ _ _ _ _ rfl (zr_253_0 n _ _ v2 100 m1)) ?_)
    have k32 := zmin_bd 100 v2
    have k33 := zmax_bd 0 (zu_min 100 v2)
    have w34 := zu_w32_id (z := (zu_max 0 (zu_min 100 v2))) (by omega) (by omega)
    refine zw_some ?_
    exact zw_some ⟨hIm1, hFm1, hRK54m1, ⟨by omega, by omega⟩⟩
set_option maxHeartbeats 4000000 in
theorem zk_251 (n : Nat) {a0 : Int} {m0 : zu_m} (hIm0 : zi_I m0) (hc0 : zcls a0 = 11)     (hRK54m0 : zR_K54 m0) : zw (zu_call (zt_T n) 251 [(8, a0)] m0) (fun v m => zi_I m ∧ zfr [(56, 0)] m0 m ∧ zR_K54 m ∧ (0 ≤ v ∧ v ≤ 999)) := by
  have hFm0 : zfr [(56, 0)] m0 m0 := zfr_rf _ _
  refine zw_eq (zu_call_at (zt_T n) (zm_251 n) (zdp_251 n) _ _ _ _ _ rfl (zr_251_0 n _ _ a0 m0)) ?_
  refine zw_bd (zw_mono (zk_26 n hIm0 (zc_11_9 hc0) (zc_11_12 hc0) ⟨by decide, by decide⟩ hRK54m0) (fun v2 m1 hqm1 => ?_))
  obtain ⟨hIm1, hfm1, hvm1⟩ := hqm1
  have hFm1 := zfr_tr hFm0 hfm1 rfl
  obtain ⟨hRK54m1, hvm1⟩ := hvm1
  have c3 := zu_lcmp_sp v2 (-9223372036854775808)
  refine zw_ite (fun h4 => ?_) (fun h4 => ?_)
  · refine zw_bd (zw_eq (zu_call_at (zt_T n) (zm_253 n) (zdp_253 n) _ _ _ _ _ rfl (zr_253_0 n _ _ v2 999 m1)) ?_)
    have k5 := zmin_bd 999 v2
    have k6 := zmax_bd 0 (zu_min 999 v2)
    have w7 := zu_w32_id (z := (zu_max 0 (zu_min 999 v2))) (by omega) (by omega)
    refine zw_some ?_
    exact zw_some ⟨hIm1, hFm1, hRK54m1, ⟨by omega, by omega⟩⟩
  · have b8 : 0 ≤ (4 : Int) ∧ (4 : Int) < 7 := by omega
    refine zw_if b8 ?_
    have r9 : 0 ≤ (m1 (a0 + 12) 4) ∧ (m1 (a0 + 12) 4) ≤ 1 := zi_rdr (m := 7) (r0 := 4) (r1 := 4) hIm1 (zc_11_12 hc0) (by omega) (by decide +kernel)
    have w10 := zu_w32_id (z := 10 * (m1 (a0 + 12) 4)) (by omega) (by omega)
    have w11 := zu_w32_id (z := 10 + (zu_w32 (10 * (m1 (a0 + 12) 4)))) (by omega) (by omega)
    exact zw_some ⟨hIm1, hFm1, hRK54m1, ⟨by omega, by omega⟩⟩
set_option maxHeartbeats 4000000 in
theorem zk_252 (n : Nat) {a0 : Int} {m0 : zu_m} (hIm0 : zi_I m0) (hc0 : zcls a0 = 11)     (hRK54m0 : zR_K54 m0) : zw (zu_call (zt_T n) 252 [(8, a0)] m0) (fun v m => zi_I m ∧ zfr [(56, 0)] m0 m ∧ zR_K54 m ∧ (0 ≤ v ∧ v ≤ 100)) := by
  have hFm0 : zfr [(56, 0)] m0 m0 := zfr_rf _ _
  refine zw_eq (zu_call_at (zt_T n) (zm_252 n) (zdp_252 n) _ _ _ _ _ rfl (zr_252_0 n _ _ a0 m0)) ?_
  refine zw_bd (zw_mono (zk_26 n hIm0 (zc_11_9 hc0) (zc_11_12 hc0) ⟨by decide, by decide⟩ hRK54m0) (fun v2 m1 hqm1 => ?_))
  obtain ⟨hIm1, hfm1, hvm1⟩ := hqm1
  have hFm1 := zfr_tr hFm0 hfm1 rfl
  obtain ⟨hRK54m1, hvm1⟩ := hvm1
  have c3 := zu_lcmp_sp v2 (-9223372036854775808)
  refine zw_ite (fun h4 => ?_) (fun h4 => ?_)
  · refine zw_bd (zw_eq (zu_call_at (zt_T n) (zm_253 n) (zdp_253 n) _ _ _ _ _ rfl (zr_253_0 n _ _ v2 100 m1)) ?_)
    have k5 := zmin_bd 100 v2
    have k6 := zmax_bd 0 (zu_min 100 v2)
    have w7 := zu_w32_id (z := (zu_max 0 (zu_min 100 v2))) (by omega) (by omega)
    refine zw_some ?_
    exact zw_some ⟨hIm1, hFm1, hRK54m1, ⟨by omega, by omega⟩⟩
  · exact zw_some ⟨hIm1, hFm1, hRK54m1, ⟨by decide, by decide⟩⟩
set_option maxHeartbeats 4000000 in
theorem zk_259 (n : Nat) {a0 : Int} {m0 : zu_m} (hIm0 : zi_I m0) (hc0 : zcls a0 = 3)      : zw (zu_call (zt_T n) 259 [(7, a0)] m0) (fun v m => zi_I m ∧ zfr [(3, 10), (3, 11), (9, 4), (9, 5), (9, 6), (9, 7)] m0 m ∧ zR_TV m ∧ (0 ≤ v ∧ v ≤ 1)) := by
  have hFm0 : zfr [(3, 10), (3, 11), (9, 4), (9, 5), (9, 6), (9, 7)] m0 m0 := zfr_rf _ _
  refine zw_eq (zu_call_at (zt_T n) (zm_259 n) (zdp_259 n) _ _ _ _ _ rfl (zr_259_0 n _ _ a0 m0)) ?_
  refine zw_bd (zw_mono (zk_18 n hIm0 zq_45) (fun v2 m1 hqm1 => ?_))
  obtain ⟨hIm1, hfm1, hvm1⟩ := hqm1
  have hFm1 := zfr_tr hFm0 hfm1 rfl
  obtain ⟨hRTVm1, hvm1⟩ := hvm1
  have s3 := hRTVm1 45 zq_45
  refine zw_bd (zw_eq (zu_call_at (zt_T n) (zm_278 n) (zdp_278 n) _ _ _ _ _ rfl (zr_278_0 n _ _ 45 0 m1)) ?_)
  have r4 : 0 ≤ (m1 45 4) ∧ (m1 45 4) ≤ 5 := zi_rd hIm1 zq_45 zb_9_4
  refine zw_ite (fun h5 => ?_) (fun h5 => ?_)
  · refine zw_b (by omega) ?_
    refine zw_some ?_
    refine zw_ite (fun h6 => ?_) (fun h6 => ?_)
    · exfalso; omega
    · refine zw_bd (zw_eq (zu_call_at (zt_T n) (zm_257 n) (zdp_257 n) _ _ _ _ _ rfl (zr_257_0 n _ _ a0 1 m1)) ?_)
      generalize hmm7 : zu_up m1 a0 9 1 = m7
      have hIm7 := zi_up hmm7 hIm1 hc0 zb_3_9 (by omega) (by omega)
      have hFm7 := zfr_up hmm7 hFm1 hc0 rfl
      have hRTVm7 := zR_TV_fr (zdis_fr (zfr_up hmm7 (zfr_rf [(3, 10)] _) hc0 rfl) rfl) hRTVm1
      have r8 : 0 ≤ (m7 45 6) ∧ (m7 45 6) ≤ 700 := zi_rd hIm7 zq_45 zb_9_6
      generalize hmm9 : zu_up m7 a0 10 (m7 45 6) = m9
      have hIm9 := zi_up hmm9 hIm7 hc0 zb_3_10 (by omega) (by omega)
      have hFm9 := zfr_up hmm9 hFm7 hc0 rfl
      have hRTVm9 := zR_TV_fr (zdis_fr (zfr_up hmm9 (zfr_rf [(3, 11)] _) hc0 rfl) rfl) hRTVm7
      refine zw_b (by omega) ?_
      refine zw_some ?_
      refine zw_ite (fun h10 => ?_) (fun h10 => ?_)
      · refine zw_b (by omega) ?_
        exact zw_some ⟨hIm9, hFm9, hRTVm9, ⟨by decide, by decide⟩⟩
      · exfalso; omega
  · refine zw_ite (fun h11 => ?_) (fun h11 => ?_)
    · refine zw_b (by omega) ?_
      refine zw_some ?_
      refine zw_ite (fun h12 => ?_) (fun h12 => ?_)
      · exfalso; omega
      · refine zw_bd (zw_eq (zu_call_at (zt_T n) (zm_257 n) (zdp_257 n) _ _ _ _ _ rfl (zr_257_0 n _ _ a0 1 m1)) ?_)
        generalize hmm13 : zu_up m1 a0 9 1 = m13
        have hIm13 := zi_up hmm13 hIm1 hc0 zb_3_9 (by omega) (by omega)
        have hFm13 := zfr_up hmm13 hFm1 hc0 rfl
        have hRTVm13 := zR_TV_fr (zdis_fr (zfr_up hmm13 (zfr_rf [(3, 10)] _) hc0 rfl) rfl) hRTVm1
        have r14 : 0 ≤ (m13 45 6) ∧ (m13 45 6) ≤ 700 := zi_rd hIm13 zq_45 zb_9_6
        generalize hmm15 : zu_up m13 a0 10 (m13 45 6) = m15
        have hIm15 := zi_up hmm15 hIm13 hc0 zb_3_10 (by omega) (by omega)
        have hFm15 := zfr_up hmm15 hFm13 hc0 rfl
        have hRTVm15 := zR_TV_fr (zdis_fr (zfr_up hmm15 (zfr_rf [(3, 11)] _) hc0 rfl) rfl) hRTVm13
        refine zw_b (by omega) ?_
        refine zw_some ?_
        refine zw_ite (fun h16 => ?_) (fun h16 => ?_)
        · refine zw_b (by omega) ?_
          exact zw_some ⟨hIm15, hFm15, hRTVm15, ⟨by decide, by decide⟩⟩
        · exfalso; omega
    · refine zw_b (by omega) ?_
      refine zw_some ?_
      refine zw_ite (fun h17 => ?_) (fun h17 => ?_)
      · refine zw_b (by omega) ?_
        exact zw_some ⟨hIm1, hFm1, hRTVm1, ⟨by decide, by decide⟩⟩
      · exfalso; omega
set_option maxHeartbeats 4000000 in
theorem zl_284 (n : Nat) {a0 a1 a2 : Int} {m0 : zu_m} (hc0 : zcls a0 = 24)   : ∀ k : Nat, (∀ (x3 x4 : Int) (mh : zu_m), zi_I mh → zfr [(25, 3), (25, 5), (25, 9), (25, 10), (25, 11), (25, 12), (26, 1), (26, 2), (26, 3), (26, 4), (27, 1), (27, 2), (27, 3), (27, 4), (27, 5), (27, 6), (27, 7), (27, 8), (97, 0), (98, 0)] m0 mh → (0 ≤ a1 ∧ a1 ≤ 3) → (1 ≤ a2 ∧ a2 ≤ 99999) → (0 ≤ x3 ∧ x3 ≤ 47) → (0 ≤ x4 ∧ x4 ≤ 40) → (1 ≤ mh 89 4 ∧ mh 89 4 ≤ 4) → (40 - x4) * 1 + 0 < (k : Int) → zw (zu_ex (zt_T n) 284 27 [(33, a0), (0, a1), (0, a2), (0, x3), (0, x4), (2, 0)] [] mh) (fun v m => zi_I m ∧ zfr [(25, 3), (25, 5), (25, 9), (25, 10), (25, 11), (25, 12), (26, 1), (26, 2), (26, 3), (26, 4), (27, 1), (27, 2), (27, 3), (27, 4), (27, 5), (27, 6), (27, 7), (27, 8), (97, 0), (98, 0)] m0 m ∧ (0 ≤ v ∧ v ≤ 40))) := by
  intro k
  induction k with
  | zero => exact fun x3 x4 mh hImh hFmh hba1 hba2 hbx3 hbx4 hg4 hM => by exfalso; omega
  | succ k ih =>
    intro x3 x4 mh hImh hFmh hba1 hba2 hbx3 hbx4 hg4 hM
    refine zw_eq (zu_rega_at (zt_T n) (zm_284 n) (zdp_284 n) _ _ _ _ _ _ (zr_284_27 n _ _ a0 a1 a2 x3 x4 mh)) ?_
    refine zw_ite (fun h1 => ?_) (fun h1 => ?_)
    · exact zw_some ⟨hImh, hFmh, ⟨by decide, by decide⟩⟩
    · refine zw_bd (zw_mono (zk_223_25 n hImh zq_164 ⟨by omega, by omega⟩ ⟨by omega, by omega⟩) (fun v3 m2 hqm2 => ?_))
      obtain ⟨hIm2, hfm2, hvm2⟩ := hqm2
      have hFm2 := zfr_tr hFmh hfm2 rfl
      refine zw_ite (fun h4 => ?_) (fun h4 => ?_)
      · exact zw_some ⟨hIm2, hFm2, ⟨by omega, by omega⟩⟩
      · have b5 : 0 ≤ v3 ∧ v3 < 48 := by omega
        refine zw_if b5 ?_
        have r6 : 0 ≤ (m2 (164 + 4) v3) ∧ (m2 (164 + 4) v3) ≤ 999000 := zi_rd hIm2 (zc_25_6 zq_164) (zb_98 _)
        refine zw_bd (zw_mono (zk_245 n hIm2 zq_50 ⟨by omega, by omega⟩ ⟨by omega, by omega⟩) (fun v8 m7 hqm7 => ?_))
        obtain ⟨hIm7, hfm7, hvm7⟩ := hqm7
        have hFm7 := zfr_tr hFm2 hfm7 rfl
        have w9 := zu_w32_id (z := v8 + 1) (by omega) (by omega)
        have p10 := zmul_bd (x := a2) (y := (zu_w32 (v8 + 1))) (a := 1) (b := 1) (A := 99999) (B := 13) (by omega) (by omega) (by omega) (by omega) (by omega) (by omega)
        have w11 := zu_w32_id (z := a2 * (zu_w32 (v8 + 1))) (by omega) (by omega)
        refine zw_ite (fun h12 => ?_) (fun h12 => ?_)
        · have b13 : 0 ≤ v3 ∧ v3 < 48 := by omega
          refine zw_if b13 ?_
          have r14 : 0 ≤ (m7 (164 + 4) v3) ∧ (m7 (164 + 4) v3) ≤ 999000 := zi_rd hIm7 (zc_25_6 zq_164) (zb_98 _)
          have e15 : (m7 (164 + 4) v3) = (m2 (164 + 4) v3) := (zfr_ap hfm7 (zc_25_6 zq_164) rfl)
          refine zw_bd (zw_mono (zk_254 n hIm7 zq_50 ⟨by omega, by omega⟩ ⟨by omega, by omega⟩ ⟨by omega, by omega⟩) (fun v17 m16 hqm16 => ?_))
          obtain ⟨hIm16, hfm16, hvm16⟩ := hqm16
          have hFm16 := zfr_tr hFm7 hfm16 rfl
          have b18 : 0 ≤ v3 ∧ v3 < 48 := by omega
          refine zw_if b18 ?_
          generalize hmm19 : zu_up m16 (164 + 4) v3 v17 = m19
          have hIm19 := zi_up hmm19 hIm16 (zc_25_6 zq_164) (zb_98 _) (by omega) (by omega)
          have hFm19 := zfr_up hmm19 hFm16 (zc_25_6 zq_164) rfl
          have w20 := zu_w32_id (z := x4 + 1) (by omega) (by omega)
          have r21 : 0 ≤ (m19 89 4) ∧ (m19 89 4) ≤ 4 := zi_rd hIm19 zq_89 zb_16_4
          have e22 : (m19 89 4) = (mh 89 4) := (Eq.trans (zs_ne hmm19 (Or.inl (zc_ne zq_89 (zc_25_6 zq_164) (by decide)))) (Eq.trans (zfr_ap hfm16 zq_89 rfl) (Eq.trans (zfr_ap hfm7 zq_89 rfl) (zfr_ap hfm2 zq_89 rfl))))
          have hM : (40 - (zu_w32 (x4 + 1))) * 1 + 0 < (k : Int) := by omega
          exact zw_le (zu_forget (zu_lr_same (zu_lr_same (zu_lr_same (zu_lr_same (zu_lr_same (zu_lr_drop zu_lr_nil))))))) (ih v3 (zu_w32 (x4 + 1)) m19 hIm19 hFm19 ⟨by omega, by omega⟩ ⟨by omega, by omega⟩ ⟨by omega, by omega⟩ ⟨by omega, by omega⟩ ⟨by omega, by omega⟩ hM)
        · exact zw_some ⟨hIm7, hFm7, ⟨by omega, by omega⟩⟩
set_option maxHeartbeats 4000000 in
theorem zk_284 (n : Nat) {a0 a1 a2 : Int} {m0 : zu_m} (hIm0 : zi_I m0) (hc0 : zcls a0 = 24) (ha1 : 0 ≤ a1 ∧ a1 ≤ 3) (ha2 : 1 ≤ a2 ∧ a2 ≤ 99999)  (he0 : 1 ≤ m0 89 4 ∧ m0 89 4 ≤ 4)   : zw (zu_call (zt_T n) 284 [(33, a0), (0, a1), (0, a2)] m0) (fun v m => zi_I m ∧ zfr [(25, 3), (25, 5), (25, 9), (25, 10), (25, 11), (25, 12), (26, 1), (26, 2), (26, 3), (26, 4), (27, 1), (27, 2), (27, 3), (27, 4), (27, 5), (27, 6), (27, 7), (27, 8), (97, 0), (98, 0)] m0 m ∧ (0 ≤ v ∧ v ≤ 40)) := by
  have hFm0 : zfr [(25, 3), (25, 5), (25, 9), (25, 10), (25, 11), (25, 12), (26, 1), (26, 2), (26, 3), (26, 4), (27, 1), (27, 2), (27, 3), (27, 4), (27, 5), (27, 6), (27, 7), (27, 8), (97, 0), (98, 0)] m0 m0 := zfr_rf _ _
  refine zw_eq (zu_call_at (zt_T n) (zm_284 n) (zdp_284 n) _ _ _ _ _ rfl (zr_284_0 n _ _ a0 a1 a2 m0)) ?_
  refine zw_bd (zw_mono (zk_22_25_16 n hIm0 zq_164 zq_89) (fun v24 m23 hqm23 => ?_))
  obtain ⟨hIm23, hfm23, hvm23⟩ := hqm23
  have hFm23 := zfr_tr hFm0 hfm23 rfl
  have b25 : 0 ≤ a1 ∧ a1 < 4 := by omega
  refine zw_if b25 ?_
  have r26 : 0 ≤ (m23 ((164 + 2) + 20 + a1) 1) ∧ (m23 ((164 + 2) + 20 + a1) 1) ≤ 47 := zi_rd hIm23 (zc_96_e (zc_25_3 zq_164) b25) zb_27_1
  have r27 : 0 ≤ (m23 89 4) ∧ (m23 89 4) ≤ 4 := zi_rd hIm23 zq_89 zb_16_4
  have e28 : (m23 89 4) = (m0 89 4) := (zfr_ap hfm23 zq_89 rfl)
  have hM : (40 - 0) * 1 + 0 < ((41 : Nat) : Int) := by omega
  exact (zl_284 n (m0 := m0) hc0 41) (m23 ((164 + 2) + 20 + a1) 1) 0 m23 hIm23 hFm23 ⟨by omega, by omega⟩ ⟨by omega, by omega⟩ ⟨by omega, by omega⟩ ⟨by omega, by omega⟩ ⟨by omega, by omega⟩ hM
set_option maxHeartbeats 4000000 in
theorem zl_294 (n : Nat) {a0 : Int} {m0 : zu_m} (hc0 : zcls a0 = 24)   : ∀ k : Nat, (∀ (x1 : Int) (mh : zu_m), zi_I mh → zfr [(24, 19), (93, 0), (94, 0)] m0 mh → (0 ≤ x1 ∧ x1 ≤ 48) → (48 - x1) * 1 + 30 < (k : Int) → zw (zu_ex (zt_T n) 294 7 [(33, a0), (0, x1), (2, 0), (2, 0)] [] mh) (fun v m => zi_I m ∧ zfr [(24, 19), (93, 0), (94, 0)] m0 m ∧ (0 ≤ v ∧ v ≤ 16))) ∧ (∀ (x1 x2 : Int) (mh : zu_m), zi_I mh → zfr [(24, 19), (93, 0), (94, 0)] m0 mh → (0 ≤ x1 ∧ x1 ≤ 16) → (0 ≤ x2 ∧ x2 ≤ 4) → (x1 ≤ 4 * x2) → (4 - x2) * 6 + 5 < (k : Int) → zw (zu_ex (zt_T n) 294 41 [(33, a0), (0, x1), (0, x2), (2, 0)] [] mh) (fun v m => zi_I m ∧ zfr [(24, 19), (93, 0), (94, 0)] m0 m ∧ (0 ≤ v ∧ v ≤ 16))) ∧ (∀ (x1 x2 x3 : Int) (mh : zu_m), zi_I mh → zfr [(24, 19), (93, 0), (94, 0)] m0 mh → (0 ≤ x1 ∧ x1 ≤ 16) → (0 ≤ x2 ∧ x2 ≤ 3) → (0 ≤ x3 ∧ x3 ≤ 4) → (1 ≤ mh a0 18 ∧ mh a0 18 ≤ 4) → (x1 ≤ 4 * x2 + x3) → (4 - x3) * 1 + (4 - x2) * 6 + 0 < (k : Int) → zw (zu_ex (zt_T n) 294 51 [(33, a0), (0, x1), (0, x2), (0, x3)] [] mh) (fun v m => zi_I m ∧ zfr [(24, 19), (93, 0), (94, 0)] m0 m ∧ (0 ≤ v ∧ v ≤ 16))) := by
  intro k
  induction k with
  | zero => exact ⟨fun x1 mh hImh hFmh hbx1 hM => by exfalso; omega, fun x1 x2 mh hImh hFmh hbx1 hbx2 hH0 hM => by exfalso; omega, fun x1 x2 x3 mh hImh hFmh hbx1 hbx2 hbx3 hg3 hH0 hM => by exfalso; omega⟩
  | succ k ih =>
    refine ⟨?_, ?_, ?_⟩
    · intro x1 mh hImh hFmh hbx1 hM
      refine zw_eq (zu_rega_at (zt_T n) (zm_294 n) (zdp_294 n) _ _ _ _ _ _ (zr_294_7 n _ _ a0 x1 mh)) ?_
      have r1 : 1 ≤ (mh 50 2) ∧ (mh 50 2) ≤ 48 := zi_rd hImh zq_50 zb_11_2
      refine zw_ite (fun h2 => ?_) (fun h2 => ?_)
      · have hM : (4 - 0) * 6 + 5 < (k : Int) := by omega
        exact ih.2.1 0 0 mh hImh hFmh ⟨by omega, by omega⟩ ⟨by omega, by omega⟩ (by omega) hM
      · have b3 : 0 ≤ x1 ∧ x1 < 48 := by omega
        refine zw_if b3 ?_
        have r4 : 0 ≤ (mh (89 + 4) x1) ∧ (mh (89 + 4) x1) ≤ 999000 := zi_rd hImh (zc_16_6 zq_89) (zb_68 _)
        refine zw_bd (zw_mono (zk_295 n hImh hc0 ⟨by omega, by omega⟩) (fun v6 m5 hqm5 => ?_))
        obtain ⟨hIm5, hfm5, hvm5⟩ := hqm5
        have hFm5 := zfr_tr hFmh hfm5 rfl
        have w7 := zu_w32_id (z := x1 + 1) (by omega) (by omega)
        have hM : (48 - (zu_w32 (x1 + 1))) * 1 + 30 < (k : Int) := by omega
        exact ih.1 (zu_w32 (x1 + 1)) m5 hIm5 hFm5 ⟨by omega, by omega⟩ hM
    · intro x1 x2 mh hImh hFmh hbx1 hbx2 hH0 hM
      refine zw_eq (zu_rega_at (zt_T n) (zm_294 n) (zdp_294 n) _ _ _ _ _ _ (zr_294_41 n _ _ a0 x1 x2 mh)) ?_
      have r8 : 0 ≤ (mh a0 18) ∧ (mh a0 18) ≤ 4 := zi_rd hImh hc0 zb_24_18
      refine zw_ite (fun h9 => ?_) (fun h9 => ?_)
      · exact zw_some ⟨hImh, hFmh, ⟨by omega, by omega⟩⟩
      · have hM : (4 - 0) * 1 + (4 - x2) * 6 + 0 < (k : Int) := by omega
        exact ih.2.2 x1 x2 0 mh hImh hFmh ⟨by omega, by omega⟩ ⟨by omega, by omega⟩ ⟨by omega, by omega⟩ ⟨by omega, by omega⟩ (by omega) hM
    · intro x1 x2 x3 mh hImh hFmh hbx1 hbx2 hbx3 hg3 hH0 hM
      refine zw_eq (zu_rega_at (zt_T n) (zm_294 n) (zdp_294 n) _ _ _ _ _ _ (zr_294_51 n _ _ a0 x1 x2 x3 mh)) ?_
      refine zw_ite (fun h10 => ?_) (fun h10 => ?_)
      · have w11 := zu_w32_id (z := x2 + 1) (by omega) (by omega)
        have hM : (4 - (zu_w32 (x2 + 1))) * 6 + 5 < (k : Int) := by omega
        exact zw_le (zu_forget (zu_lr_same (zu_lr_same (zu_lr_same (zu_lr_drop zu_lr_nil))))) (ih.2.1 x1 (zu_w32 (x2 + 1)) mh hImh hFmh ⟨by omega, by omega⟩ ⟨by omega, by omega⟩ (by omega) hM)
      · refine zw_bd (zw_mono (zk_297 n hImh hc0 ⟨by omega, by omega⟩ ⟨by omega, by omega⟩ ⟨by omega, by omega⟩) (fun v13 m12 hqm12 => ?_))
        obtain ⟨hIm12, hfm12, hvm12⟩ := hqm12
        have hFm12 := zfr_tr hFmh hfm12 rfl
        refine zw_ite (fun h14 => ?_) (fun h14 => ?_)
        · have w15 := zu_w32_id (z := x3 + 1) (by omega) (by omega)
          have r16 : 0 ≤ (m12 a0 18) ∧ (m12 a0 18) ≤ 4 := zi_rd hIm12 hc0 zb_24_18
          have e17 : (m12 a0 18) = (mh a0 18) := (zfr_ap hfm12 hc0 rfl)
          have hM : (4 - (zu_w32 (x3 + 1))) * 1 + (4 - x2) * 6 + 0 < (k : Int) := by omega
          exact ih.2.2 x1 x2 (zu_w32 (x3 + 1)) m12 hIm12 hFm12 ⟨by omega, by omega⟩ ⟨by omega, by omega⟩ ⟨by omega, by omega⟩ ⟨by omega, by omega⟩ (by omega) hM
        · have r18 : 0 ≤ (m12 a0 18) ∧ (m12 a0 18) ≤ 4 := zi_rd hIm12 hc0 zb_24_18
          have e19 : (m12 a0 18) = (mh a0 18) := (zfr_ap hfm12 hc0 rfl)
          refine zw_bd (zw_mono (zk_297 n hIm12 hc0 ⟨by omega, by omega⟩ ⟨by omega, by omega⟩ ⟨by omega, by omega⟩) (fun v21 m20 hqm20 => ?_))
          obtain ⟨hIm20, hfm20, hvm20⟩ := hqm20
          have hFm20 := zfr_tr hFm12 hfm20 rfl
          refine zw_ite (fun h22 => ?_) (fun h22 => ?_)
          · have w23 := zu_w32_id (z := x3 + 1) (by omega) (by omega)
            have r24 : 0 ≤ (m20 a0 18) ∧ (m20 a0 18) ≤ 4 := zi_rd hIm20 hc0 zb_24_18
            have e25 : (m20 a0 18) = (m12 a0 18) := (zfr_ap hfm20 hc0 rfl)
            have hM : (4 - (zu_w32 (x3 + 1))) * 1 + (4 - x2) * 6 + 0 < (k : Int) := by omega
            exact ih.2.2 x1 x2 (zu_w32 (x3 + 1)) m20 hIm20 hFm20 ⟨by omega, by omega⟩ ⟨by omega, by omega⟩ ⟨by omega, by omega⟩ ⟨by omega, by omega⟩ (by omega) hM
          · have w26 := zu_w32_id (z := 10 * x2) (by omega) (by omega)
            have w27 := zu_w32_id (z := (zu_w32 (10 * x2)) + x3) (by omega) (by omega)
            have b28 : 0 ≤ x1 ∧ x1 < 16 := by omega
            refine zw_if b28 ?_
            generalize hmm29 : zu_up m20 163 x1 (zu_w32 ((zu_w32 (10 * x2)) + x3)) = m29
            have hIm29 := zi_up hmm29 hIm20 zq_163 (zb_94 _) (by omega) (by omega)
            have hFm29 := zfr_up hmm29 hFm20 zq_163 rfl
            have w30 := zu_w32_id (z := x1 + 1) (by omega) (by omega)
            have w31 := zu_w32_id (z := x3 + 1) (by omega) (by omega)
            have r32 : 0 ≤ (m29 a0 18) ∧ (m29 a0 18) ≤ 4 := zi_rd hIm29 hc0 zb_24_18
            have e33 : (m29 a0 18) = (m12 a0 18) := (Eq.trans (zs_ne hmm29 (Or.inl (zc_ne hc0 zq_163 (by decide)))) (zfr_ap hfm20 hc0 rfl))
            have hM : (4 - (zu_w32 (x3 + 1))) * 1 + (4 - x2) * 6 + 0 < (k : Int) := by omega
            exact ih.2.2 (zu_w32 (x1 + 1)) x2 (zu_w32 (x3 + 1)) m29 hIm29 hFm29 ⟨by omega, by omega⟩ ⟨by omega, by omega⟩ ⟨by omega, by omega⟩ ⟨by omega, by omega⟩ (by omega) hM
set_option maxHeartbeats 4000000 in
theorem zk_294 (n : Nat) {a0 : Int} {m0 : zu_m} (hIm0 : zi_I m0) (hc0 : zcls a0 = 24)      : zw (zu_call (zt_T n) 294 [(33, a0)] m0) (fun v m => zi_I m ∧ zfr [(24, 19), (93, 0), (94, 0)] m0 m ∧ (0 ≤ v ∧ v ≤ 16)) := by
  have hFm0 : zfr [(24, 19), (93, 0), (94, 0)] m0 m0 := zfr_rf _ _
  refine zw_eq (zu_call_at (zt_T n) (zm_294 n) (zdp_294 n) _ _ _ _ _ rfl (zr_294_0 n _ _ a0 m0)) ?_
  generalize hmm34 : zu_up m0 a0 18 0 = m34
  have hIm34 := zi_up hmm34 hIm0 hc0 zb_24_18 (by omega) (by omega)
  have hFm34 := zfr_up hmm34 hFm0 hc0 rfl
  have hM : (48 - 0) * 1 + 30 < ((79 : Nat) : Int) := by omega
  exact (zl_294 n (m0 := m0) hc0 79).1 0 m34 hIm34 hFm34 ⟨by omega, by omega⟩ hM
set_option maxHeartbeats 4000000 in
theorem zl_23 (n : Nat) {a0 a1 : Int} {m0 : zu_m} (hc0 : zcls a0 = 11) (hc1 : zcls a1 = 13)   : ∀ k : Nat, (∀ (x2 : Int) (mh : zu_m), zi_I mh → zfr [(56, 0), (57, 0), (58, 0), (59, 1), (59, 2), (59, 3), (59, 4), (59, 5), (59, 6), (59, 7), (63, 0)] m0 mh → (0 ≤ x2 ∧ x2 ≤ 48) → (zR_K54 mh) → (48 - x2) * 1 + 250 < (k : Int) → zw (zu_ex (zt_T n) 23 2 [(8, a0), (27, a1), (0, x2), (2, 0), (2, 0)] [] mh) (fun v m => zi_I m ∧ zfr [(56, 0), (57, 0), (58, 0), (59, 1), (59, 2), (59, 3), (59, 4), (59, 5), (59, 6), (59, 7), (63, 0)] m0 m ∧ zR_K54 m ∧ True)) ∧ (∀ (x2 : Int) (mh : zu_m), zi_I mh → zfr [(56, 0), (57, 0), (58, 0), (59, 1), (59, 2), (59, 3), (59, 4), (59, 5), (59, 6), (59, 7), (63, 0)] m0 mh → (0 ≤ x2 ∧ x2 ≤ 4) → (zR_K54 mh) → (4 - x2) * 50 + 49 < (k : Int) → zw (zu_ex (zt_T n) 23 72 [(8, a0), (27, a1), (0, x2), (2, 0), (2, 0)] [] mh) (fun v m => zi_I m ∧ zfr [(56, 0), (57, 0), (58, 0), (59, 1), (59, 2), (59, 3), (59, 4), (59, 5), (59, 6), (59, 7), (63, 0)] m0 m ∧ zR_K54 m ∧ True)) ∧ (∀ (x2 x3 : Int) (mh : zu_m), zi_I mh → zfr [(56, 0), (57, 0), (58, 0), (59, 1), (59, 2), (59, 3), (59, 4), (59, 5), (59, 6), (59, 7), (63, 0)] m0 mh → (0 ≤ x2 ∧ x2 ≤ 3) → (0 ≤ x3 ∧ x3 ≤ 48) → (1 ≤ mh a1 4 ∧ mh a1 4 ≤ 4) → (zR_K54 mh) → (48 - x3) * 1 + (4 - x2) * 50 + 0 < (k : Int) → zw (zu_ex (zt_T n) 23 82 [(8, a0), (27, a1), (0, x2), (0, x3), (2, 0)] [] mh) (fun v m => zi_I m ∧ zfr [(56, 0), (57, 0), (58, 0), (59, 1), (59, 2), (59, 3), (59, 4), (59, 5), (59, 6), (59, 7), (63, 0)] m0 m ∧ zR_K54 m ∧ True)) := by
  intro k
  induction k with
  | zero => exact ⟨fun x2 mh hImh hFmh hbx2 hRK54mh hM => by exfalso; omega, fun x2 mh hImh hFmh hbx2 hRK54mh hM => by exfalso; omega, fun x2 x3 mh hImh hFmh hbx2 hbx3 hg2 hRK54mh hM => by exfalso; omega⟩
  | succ k ih =>
    refine ⟨?_, ?_, ?_⟩
    · intro x2 mh hImh hFmh hbx2 hRK54mh hM
      refine zw_eq (zu_rega_at (zt_T n) (zm_23 n) (zdp_23 n) _ _ _ _ _ _ (zr_23_2 n _ _ a0 a1 x2 mh)) ?_
      have r1 : 1 ≤ (mh a0 2) ∧ (mh a0 2) ≤ 48 := zi_rd hImh hc0 zb_11_2
      refine zw_ite (fun h2 => ?_) (fun h2 => ?_)
      · have hM : (4 - 0) * 50 + 49 < (k : Int) := by omega
        exact ih.2.1 0 mh hImh hFmh ⟨by omega, by omega⟩ hRK54mh hM
      · refine zw_bd (zw_mono (zk_24 n hImh hc0 ⟨by omega, by omega⟩ hRK54mh) (fun v4 m3 hqm3 => ?_))
        obtain ⟨hIm3, hfm3, hvm3⟩ := hqm3
        have hFm3 := zfr_tr hFmh hfm3 rfl
        obtain ⟨hRK54m3, hvm3⟩ := hvm3
        have c5 := zu_lcmp_sp v4 (-9223372036854775808)
        refine zw_ite (fun h6 => ?_) (fun h6 => ?_)
        · refine zw_bd (zw_eq (zu_call_at (zt_T n) (zm_253 n) (zdp_253 n) _ _ _ _ _ rfl (zr_253_0 n _ _ v4 999 m3)) ?_)
          have k7 := zmin_bd 999 v4
          have k8 := zmax_bd 0 (zu_min 999 v4)
          have w9 := zu_w32_id (z := (zu_max 0 (zu_min 999 v4))) (by omega) (by omega)
          refine zw_some ?_
          have b10 : 0 ≤ x2 ∧ x2 < 48 := by omega
          refine zw_if b10 ?_
          generalize hmm11 : zu_up m3 (a0 + 10) x2 (zu_w32 (zu_max 0 (zu_min 999 v4))) = m11
          have hIm11 := zi_up hmm11 hIm3 (zc_11_10 hc0) (zb_57 _) (by omega) (by omega)
          have hFm11 := zfr_up hmm11 hFm3 (zc_11_10 hc0) rfl
          have hRK54m11 := zR_K54_fr (zdis_fr (zfr_up hmm11 (zfr_rf [(57, 0)] _) (zc_11_10 hc0) rfl) rfl) hRK54m3
          have b12 : 0 ≤ x2 ∧ x2 < 48 := by omega
          refine zw_if b12 ?_
          have r13 : 0 ≤ (m11 (a0 + 10) x2) ∧ (m11 (a0 + 10) x2) ≤ 999 := zi_rd hIm11 (zc_11_10 hc0) (zb_57 _)
          have e14 : (m11 (a0 + 10) x2) = (zu_w32 (zu_max 0 (zu_min 999 v4))) := (zs_eq hmm11)
          have w15 := zu_w32_id (z := (m11 (a0 + 10) x2) * 1000) (by omega) (by omega)
          have b16 : 0 ≤ x2 ∧ x2 < 48 := by omega
          refine zw_if b16 ?_
          generalize hmm17 : zu_up m11 (a1 + 4) x2 (zu_w32 ((m11 (a0 + 10) x2) * 1000)) = m17
          have hIm17 := zi_up hmm17 hIm11 (zc_13_6 hc1) (zb_63 _) (by omega) (by omega)
          have hFm17 := zfr_up hmm17 hFm11 (zc_13_6 hc1) rfl
          have hRK54m17 := zR_K54_fr (zdis_fr (zfr_up hmm17 (zfr_rf [(63, 0)] _) (zc_13_6 hc1) rfl) rfl) hRK54m11
          have w18 := zu_w32_id (z := x2 + 1) (by omega) (by omega)
          have hM : (48 - (zu_w32 (x2 + 1))) * 1 + 250 < (k : Int) := by omega
          exact zw_le (zu_forget (zu_lr_same (zu_lr_same (zu_lr_same (zu_lr_drop (zu_lr_same zu_lr_nil)))))) (ih.1 (zu_w32 (x2 + 1)) m17 hIm17 hFm17 ⟨by omega, by omega⟩ hRK54m17 hM)
        · have b19 : 0 ≤ x2 ∧ x2 < 48 := by omega
          refine zw_if b19 ?_
          have r20 : 0 ≤ (m3 (a0 + 3) x2) ∧ (m3 (a0 + 3) x2) ≤ 3 := zi_rd hIm3 (zc_11_8 hc0) (zb_51 _)
          have w21 := zu_w32_id (z := 1 + (m3 (a0 + 3) x2)) (by omega) (by omega)
          have b22 : 0 ≤ x2 ∧ x2 < 48 := by omega
          refine zw_if b22 ?_
          generalize hmm23 : zu_up m3 (a0 + 10) x2 (zu_w32 (1 + (m3 (a0 + 3) x2))) = m23
          have hIm23 := zi_up hmm23 hIm3 (zc_11_10 hc0) (zb_57 _) (by omega) (by omega)
          have hFm23 := zfr_up hmm23 hFm3 (zc_11_10 hc0) rfl
          have hRK54m23 := zR_K54_fr (zdis_fr (zfr_up hmm23 (zfr_rf [(57, 0)] _) (zc_11_10 hc0) rfl) rfl) hRK54m3
          have b24 : 0 ≤ x2 ∧ x2 < 48 := by omega
          refine zw_if b24 ?_
          have r25 : 0 ≤ (m23 (a0 + 10) x2) ∧ (m23 (a0 + 10) x2) ≤ 999 := zi_rd hIm23 (zc_11_10 hc0) (zb_57 _)
          have e26 : (m23 (a0 + 10) x2) = (zu_w32 (1 + (m3 (a0 + 3) x2))) := (zs_eq hmm23)
          have w27 := zu_w32_id (z := (m23 (a0 + 10) x2) * 1000) (by omega) (by omega)
          have b28 : 0 ≤ x2 ∧ x2 < 48 := by omega
          refine zw_if b28 ?_
          generalize hmm29 : zu_up m23 (a1 + 4) x2 (zu_w32 ((m23 (a0 + 10) x2) * 1000)) = m29
          have hIm29 := zi_up hmm29 hIm23 (zc_13_6 hc1) (zb_63 _) (by omega) (by omega)
          have hFm29 := zfr_up hmm29 hFm23 (zc_13_6 hc1) rfl
          have hRK54m29 := zR_K54_fr (zdis_fr (zfr_up hmm29 (zfr_rf [(63, 0)] _) (zc_13_6 hc1) rfl) rfl) hRK54m23
          have w30 := zu_w32_id (z := x2 + 1) (by omega) (by omega)
          have hM : (48 - (zu_w32 (x2 + 1))) * 1 + 250 < (k : Int) := by omega
          exact zw_le (zu_forget (zu_lr_same (zu_lr_same (zu_lr_same (zu_lr_drop (zu_lr_same zu_lr_nil)))))) (ih.1 (zu_w32 (x2 + 1)) m29 hIm29 hFm29 ⟨by omega, by omega⟩ hRK54m29 hM)
    · intro x2 mh hImh hFmh hbx2 hRK54mh hM
      refine zw_eq (zu_rega_at (zt_T n) (zm_23 n) (zdp_23 n) _ _ _ _ _ _ (zr_23_72 n _ _ a0 a1 x2 mh)) ?_
      have r31 : 0 ≤ (mh a1 4) ∧ (mh a1 4) ≤ 4 := zi_rd hImh hc1 zb_13_4
      refine zw_ite (fun h32 => ?_) (fun h32 => ?_)
      · exact zw_some ⟨hImh, hFmh, hRK54mh, trivial⟩
      · have hM : (48 - 0) * 1 + (4 - x2) * 50 + 0 < (k : Int) := by omega
        exact ih.2.2 x2 0 mh hImh hFmh ⟨by omega, by omega⟩ ⟨by omega, by omega⟩ ⟨by omega, by omega⟩ hRK54mh hM
    · intro x2 x3 mh hImh hFmh hbx2 hbx3 hg2 hRK54mh hM
      refine zw_eq (zu_rega_at (zt_T n) (zm_23 n) (zdp_23 n) _ _ _ _ _ _ (zr_23_82 n _ _ a0 a1 x2 x3 mh)) ?_
      have r33 : 1 ≤ (mh a0 2) ∧ (mh a0 2) ≤ 48 := zi_rd hImh hc0 zb_11_2
      refine zw_ite (fun h34 => ?_) (fun h34 => ?_)
      · have w35 := zu_w32_id (z := x2 + 1) (by omega) (by omega)
        have hM : (4 - (zu_w32 (x2 + 1))) * 50 + 49 < (k : Int) := by omega
        exact zw_le (zu_forget (zu_lr_same (zu_lr_same (zu_lr_same (zu_lr_drop (zu_lr_same zu_lr_nil)))))) (ih.2.1 (zu_w32 (x2 + 1)) mh hImh hFmh ⟨by omega, by omega⟩ hRK54mh hM)
      · refine zw_bd (zw_mono (zk_25 n hImh hc0 ⟨by omega, by omega⟩ ⟨by decide, by decide⟩ ⟨by decide, by decide⟩) (fun v37 m36 hqm36 => ?_))
        obtain ⟨hIm36, hfm36, hvm36⟩ := hqm36
        have hFm36 := zfr_tr hFmh hfm36 rfl
        have hRK54m36 := zR_K54_fr (zdis_fr hfm36 rfl) hRK54mh
        have b38 : 0 ≤ x2 ∧ x2 < 4 := by omega
        refine zw_if b38 ?_
        have r39 : 0 ≤ (m36 ((a1 + 2) + 20 + x2) 2) ∧ (m36 ((a1 + 2) + 20 + x2) 2) ≤ 15 := zi_rd hIm36 (zc_61_e (zc_13_3 hc1) b38) zb_15_2
        refine zw_bd (zw_mono (zk_247 n hIm36 hc0 ⟨by omega, by omega⟩ ⟨by omega, by omega⟩ ⟨by decide, by decide⟩) (fun v41 m40 hqm40 => ?_))
        obtain ⟨hIm40, hfm40, hvm40⟩ := hqm40
        have hFm40 := zfr_tr hFm36 hfm40 rfl
        have hRK54m40 := zR_K54_fr (zdis_fr hfm40 rfl) hRK54m36
        have w42 := zu_w32_id (z := x2 * 48) (by omega) (by omega)
        have w43 := zu_w32_id (z := (zu_w32 (x2 * 48)) + x3) (by omega) (by omega)
        refine zw_bd (zw_mono (zk_250 n hIm40 hc0 hRK54m40) (fun v45 m44 hqm44 => ?_))
        obtain ⟨hIm44, hfm44, hvm44⟩ := hqm44
        have hFm44 := zfr_tr hFm40 hfm44 rfl
        obtain ⟨hRK54m44, hvm44⟩ := hvm44
        have w46 := zu_w32_id (z := 100 - v45) (by omega) (by omega)
        have b47 : 0 ≤ (zu_w32 ((zu_w32 (x2 * 48)) + x3)) ∧ (zu_w32 ((zu_w32 (x2 * 48)) + x3)) < 192 := by omega
        refine zw_if b47 ?_
        generalize hmm48 : zu_up m44 (a0 + 11) (zu_w32 ((zu_w32 (x2 * 48)) + x3)) (zu_w32 (100 - v45)) = m48
        have hIm48 := zi_up hmm48 hIm44 (zc_11_11 hc0) (zb_58 _) (by omega) (by omega)
        have hFm48 := zfr_up hmm48 hFm44 (zc_11_11 hc0) rfl
        have hRK54m48 := zR_K54_fr (zdis_fr (zfr_up hmm48 (zfr_rf [(58, 0)] _) (zc_11_11 hc0) rfl) rfl) hRK54m44
        have w49 := zu_w32_id (z := x3 + 1) (by omega) (by omega)
        have r50 : 0 ≤ (m48 a1 4) ∧ (m48 a1 4) ≤ 4 := zi_rd hIm48 hc1 zb_13_4
        have e51 : (m48 a1 4) = (mh a1 4) := (Eq.trans (zs_ne hmm48 (Or.inl (zc_ne hc1 (zc_11_11 hc0) (by decide)))) (Eq.trans (zfr_ap hfm44 hc1 rfl) (Eq.trans (zfr_ap hfm40 hc1 rfl) (zfr_ap hfm36 hc1 rfl))))
        have hM : (48 - (zu_w32 (x3 + 1))) * 1 + (4 - x2) * 50 + 0 < (k : Int) := by omega
        exact ih.2.2 x2 (zu_w32 (x3 + 1)) m48 hIm48 hFm48 ⟨by omega, by omega⟩ ⟨by omega, by omega⟩ ⟨by omega, by omega⟩ hRK54m48 hM
set_option maxHeartbeats 4000000 in
theorem zk_23 (n : Nat) {a0 a1 : Int} {m0 : zu_m} (hIm0 : zi_I m0) (hc0 : zcls a0 = 11) (hc1 : zcls a1 = 13)     (hRK54m0 : zR_K54 m0) : zw (zu_call (zt_T n) 23 [(8, a0), (27, a1)] m0) (fun v m => zi_I m ∧ zfr [(56, 0), (57, 0), (58, 0), (59, 1), (59, 2), (59, 3), (59, 4), (59, 5), (59, 6), (59, 7), (63, 0)] m0 m ∧ zR_K54 m ∧ True) := by
  have hFm0 : zfr [(56, 0), (57, 0), (58, 0), (59, 1), (59, 2), (59, 3), (59, 4), (59, 5), (59, 6), (59, 7), (63, 0)] m0 m0 := zfr_rf _ _
  refine zw_eq (zu_call_at (zt_T n) (zm_23 n) (zdp_23 n) _ _ _ _ _ rfl (zr_23_0 n _ _ a0 a1 m0)) ?_
  have hM : (48 - 0) * 1 + 250 < ((299 : Nat) : Int) := by omega
  exact (zl_23 n (m0 := m0) hc0 hc1 299).1 0 m0 hIm0 hFm0 ⟨by omega, by omega⟩ hRK54m0 hM
set_option maxHeartbeats 4000000 in
theorem zk_39 (n : Nat) {a0 a1 a2 a3 : Int} {m0 : zu_m} (hIm0 : zi_I m0) (hc0 : zcls a0 = 28) (ha1 : 0 ≤ a1 ∧ a1 ≤ 3) (ha2 : 0 ≤ a2 ∧ a2 ≤ 100) (ha3 : 100 ≤ a3 ∧ a3 ≤ 999)    (hRKNm0 : zR_KN m0) (hRLTm0 : zR_LT m0) : zw (zu_call (zt_T n) 39 [(40, a0), (0, a1), (0, a2), (0, a3)] m0) (fun v m => zi_I m ∧ zfr [(28, 54), (123, 0)] m0 m ∧ zR_KN m ∧ zR_LT m ∧ (0 ≤ v ∧ v ≤ 999)) := by
  have hFm0 : zfr [(28, 54), (123, 0)] m0 m0 := zfr_rf _ _
  refine zw_eq (zu_call_at (zt_T n) (zm_39 n) (zdp_39 n) _ _ _ _ _ rfl (zr_39_0 n _ _ a0 a1 a2 a3 m0)) ?_
  have b1 : 0 ≤ a1 ∧ a1 < 8 := by omega
  refine zw_if b1 ?_
  have r2 : 0 ≤ (m0 205 a1) ∧ (m0 205 a1) ≤ 1 := zi_rd hIm0 zq_205 (zb_114 _)
  refine zw_ite (fun h3 => ?_) (fun h3 => ?_)
  · refine zw_bd (zw_mono (zk_127 n hIm0 hc0 ⟨by omega, by omega⟩ (by omega) hRKNm0 hRLTm0) (fun v5 m4 hqm4 => ?_))
    obtain ⟨hIm4, hfm4, hvm4⟩ := hqm4
    have hFm4 := zfr_tr hFm0 hfm4 rfl
    obtain ⟨hRKNm4, hRLTm4, hvm4⟩ := hvm4
    have r6 : 0 ≤ (m4 a0 53) ∧ (m4 a0 53) ≤ 1 := zi_rd hIm4 hc0 zb_28_53
    refine zw_ite (fun h7 => ?_) (fun h7 => ?_)
    · have c8 := zu_lcmp_sp v5 0
      refine zw_ite (fun h9 => ?_) (fun h9 => ?_)
      · have c10 := zu_lcmp_sp v5 a3
        refine zw_ite (fun h11 => ?_) (fun h11 => ?_)
        · have w12 := zu_w32_id (z := v5) (by omega) (by omega)
          exact zw_some ⟨hIm4, hFm4, hRKNm4, hRLTm4, ⟨by omega, by omega⟩⟩
        · exact zw_some ⟨hIm4, hFm4, hRKNm4, hRLTm4, ⟨by omega, by omega⟩⟩
      · exact zw_some ⟨hIm4, hFm4, hRKNm4, hRLTm4, ⟨by decide, by decide⟩⟩
    · exact zw_some ⟨hIm4, hFm4, hRKNm4, hRLTm4, ⟨by omega, by omega⟩⟩
  · exact zw_some ⟨hIm0, hFm0, hRKNm0, hRLTm0, ⟨by omega, by omega⟩⟩
set_option maxHeartbeats 4000000 in
theorem zk_50 (n : Nat) {a0 a1 a2 a3 : Int} {m0 : zu_m} (hIm0 : zi_I m0) (hc0 : zcls a0 = 2) (ha1 : (-2147483648) ≤ a1 ∧ a1 ≤ 2147483647) (ha2 : (-2147483648) ≤ a2 ∧ a2 ≤ 2147483647) (ha3 : (-2147483648) ≤ a3 ∧ a3 ≤ 2147483647)    (hRUNm0 : zR_UN m0) (hRUWm0 : zR_UW m0) : zw (zu_call (zt_T n) 50 [(5, a0), (0, a1), (0, a2), (0, a3)] m0) (fun v m => zi_I m ∧ zfr [(16, 3), (17, 1), (17, 2), (17, 3), (17, 4), (23, 5), (81, 0), (82, 0), (83, 0), (84, 0)] m0 m ∧ zR_UN m ∧ zR_UW m ∧ ((-1) ≤ v ∧ v ≤ 15)) := by
  have hFm0 : zfr [(16, 3), (17, 1), (17, 2), (17, 3), (17, 4), (23, 5), (81, 0), (82, 0), (83, 0), (84, 0)] m0 m0 := zfr_rf _ _
  refine zw_eq (zu_call_at (zt_T n) (zm_50 n) (zdp_50 n) _ _ _ _ _ rfl (zr_50_0 n _ _ a0 a1 a2 a3 m0)) ?_
  refine zw_bd (zw_eq (zu_call_at (zt_T n) (zm_244 n) (zdp_244 n) _ _ _ _ _ rfl (zr_244_0 n _ _ 50 a1 m0)) ?_)
  refine zw_ite (fun h1 => ?_) (fun h1 => ?_)
  · refine zw_b (by omega) ?_
    refine zw_some ?_
    refine zw_ite (fun h2 => ?_) (fun h2 => ?_)
    · exact zw_some ⟨hIm0, hFm0, hRUNm0, hRUWm0, ⟨by decide, by decide⟩⟩
    · exfalso; omega
  · have r3 : 1 ≤ (m0 50 2) ∧ (m0 50 2) ≤ 48 := zi_rd hIm0 zq_50 zb_11_2
    refine zw_ite (fun h4 => ?_) (fun h4 => ?_)
    · refine zw_b (by omega) ?_
      refine zw_some ?_
      refine zw_ite (fun h5 => ?_) (fun h5 => ?_)
      · exact zw_some ⟨hIm0, hFm0, hRUNm0, hRUWm0, ⟨by decide, by decide⟩⟩
      · exfalso; omega
    · refine zw_b (by omega) ?_
      refine zw_some ?_
      refine zw_ite (fun h6 => ?_) (fun h6 => ?_)
      · exfalso; omega
      · refine zw_bd (zw_eq (zu_call_at (zt_T n) (zm_51 n) (zdp_51 n) _ _ _ _ _ rfl (zr_51_0 n _ _ a2 m0)) ?_)
        refine zw_ite (fun h7 => ?_) (fun h7 => ?_)
        · refine zw_b (by omega) ?_
          refine zw_some ?_
          refine zw_ite (fun h8 => ?_) (fun h8 => ?_)
          · exact zw_some ⟨hIm0, hFm0, hRUNm0, hRUWm0, ⟨by decide, by decide⟩⟩
          · exfalso; omega
        · refine zw_ite (fun h9 => ?_) (fun h9 => ?_)
          · refine zw_b (by omega) ?_
            refine zw_some ?_
            refine zw_ite (fun h10 => ?_) (fun h10 => ?_)
            · exact zw_some ⟨hIm0, hFm0, hRUNm0, hRUWm0, ⟨by decide, by decide⟩⟩
            · exfalso; omega
          · refine zw_b (by omega) ?_
            refine zw_some ?_
            refine zw_ite (fun h11 => ?_) (fun h11 => ?_)
            · exfalso; omega
            · refine zw_bd (zw_eq (zu_call_at (zt_T n) (zm_52 n) (zdp_52 n) _ _ _ _ _ rfl (zr_52_0 n _ _ a3 m0)) ?_)
              refine zw_ite (fun h12 => ?_) (fun h12 => ?_)
              · refine zw_b (by omega) ?_
                refine zw_some ?_
                refine zw_ite (fun h13 => ?_) (fun h13 => ?_)
                · exact zw_some ⟨hIm0, hFm0, hRUNm0, hRUWm0, ⟨by decide, by decide⟩⟩
                · exfalso; omega
              · refine zw_ite (fun h14 => ?_) (fun h14 => ?_)
                · refine zw_b (by omega) ?_
                  refine zw_some ?_
                  refine zw_ite (fun h15 => ?_) (fun h15 => ?_)
                  · exact zw_some ⟨hIm0, hFm0, hRUNm0, hRUWm0, ⟨by decide, by decide⟩⟩
                  · exfalso; omega
                · refine zw_b (by omega) ?_
                  refine zw_some ?_
                  refine zw_ite (fun h16 => ?_) (fun h16 => ?_)
                  · exfalso; omega
                  · have r17 : 0 ≤ (m0 89 2) ∧ (m0 89 2) ≤ 16 := zi_rd hIm0 zq_89 zb_16_2
                    refine zw_ite (fun h18 => ?_) (fun h18 => ?_)
                    · refine zw_bd (zw_eq (zu_call_at (zt_T n) (zm_213 n) (zdp_213 n) _ _ _ _ _ rfl (zr_213_0 n _ _ 89 a1 a2 a3 m0)) ?_)
                      refine zw_ite (fun h19 => ?_) (fun h19 => ?_)
                      · exfalso; omega
                      · have b20 : 0 ≤ (m0 89 2) ∧ (m0 89 2) < 16 := by omega
                        refine zw_if b20 ?_
                        generalize hmm21 : zu_up m0 ((89 + 1) + 5 + (m0 89 2)) 0 a1 = m21
                        have hIm21 := zi_up hmm21 hIm0 (zc_65_e (zc_16_1 zq_89) b20) zb_17_0 (by omega) (by omega)
                        have hFm21 := zfr_up hmm21 hFm0 (zc_65_e (zc_16_1 zq_89) b20) rfl
                        have hRUNm21 := zR_UN_fr (zdis_fr (zfr_up hmm21 (zfr_rf [(17, 1)] _) (zc_65_e (zc_16_1 zq_89) b20) rfl) rfl) hRUNm0
                        have hRUWm21 := zR_UW_fr (zdis_fr (zfr_up hmm21 (zfr_rf [(17, 1)] _) (zc_65_e (zc_16_1 zq_89) b20) rfl) rfl) hRUWm0
                        generalize hmm22 : zu_up m21 ((89 + 1) + 5 + (m0 89 2)) 1 a2 = m22
                        have hIm22 := zi_up hmm22 hIm21 (zc_65_e (zc_16_1 zq_89) b20) zb_17_1 (by omega) (by omega)
                        have hFm22 := zfr_up hmm22 hFm21 (zc_65_e (zc_16_1 zq_89) b20) rfl
                        have hRUNm22 := zR_UN_fr (zdis_fr (zfr_up hmm22 (zfr_rf [(17, 2)] _) (zc_65_e (zc_16_1 zq_89) b20) rfl) rfl) hRUNm21
                        have hRUWm22 := zR_UW_fr (zdis_fr (zfr_up hmm22 (zfr_rf [(17, 2)] _) (zc_65_e (zc_16_1 zq_89) b20) rfl) rfl) hRUWm21
                        generalize hmm23 : zu_up m22 ((89 + 1) + 5 + (m0 89 2)) 2 a3 = m23
                        have hIm23 := zi_up hmm23 hIm22 (zc_65_e (zc_16_1 zq_89) b20) zb_17_2 (by omega) (by omega)
                        have hFm23 := zfr_up hmm23 hFm22 (zc_65_e (zc_16_1 zq_89) b20) rfl
                        have hRUNm23 := zR_UN_fr (zdis_fr (zfr_up hmm23 (zfr_rf [(17, 3)] _) (zc_65_e (zc_16_1 zq_89) b20) rfl) rfl) hRUNm22
                        have hRUWm23 := zR_UW_fr (zdis_fr (zfr_up hmm23 (zfr_rf [(17, 3)] _) (zc_65_e (zc_16_1 zq_89) b20) rfl) rfl) hRUWm22
                        generalize hmm24 : zu_up m23 ((89 + 1) + 5 + (m0 89 2)) 3 (-1) = m24
                        have hIm24 := zi_up hmm24 hIm23 (zc_65_e (zc_16_1 zq_89) b20) zb_17_3 (by omega) (by omega)
                        have hFm24 := zfr_up hmm24 hFm23 (zc_65_e (zc_16_1 zq_89) b20) rfl
                        have hRUNm24 := zR_UN_fr (zdis_fr (zfr_up hmm24 (zfr_rf [(17, 4)] _) (zc_65_e (zc_16_1 zq_89) b20) rfl) rfl) hRUNm23
                        have hRUWm24 := zR_UW_fr (zdis_fr (zfr_up hmm24 (zfr_rf [(17, 4)] _) (zc_65_e (zc_16_1 zq_89) b20) rfl) rfl) hRUWm23
                        have r25 : 0 ≤ (m24 89 2) ∧ (m24 89 2) ≤ 16 := zi_rd hIm24 zq_89 zb_16_2
                        have e26 : (m24 89 2) = (m0 89 2) := (Eq.trans (zs_ne hmm24 (Or.inl (zc_ne zq_89 (zc_65_e (zc_16_1 zq_89) b20) (by decide)))) (Eq.trans (zs_ne hmm23 (Or.inl (zc_ne zq_89 (zc_65_e (zc_16_1 zq_89) b20) (by decide)))) (Eq.trans (zs_ne hmm22 (Or.inl (zc_ne zq_89 (zc_65_e (zc_16_1 zq_89) b20) (by decide)))) (zs_ne hmm21 (Or.inl (zc_ne zq_89 (zc_65_e (zc_16_1 zq_89) b20) (by decide)))))))
                        have w27 := zu_w32_id (z := (m24 89 2) + 1) (by omega) (by omega)
                        generalize hmm28 : zu_up m24 89 2 (zu_w32 ((m24 89 2) + 1)) = m28
                        have hIm28 := zi_up hmm28 hIm24 zq_89 zb_16_2 (by omega) (by omega)
                        have hFm28 := zfr_up hmm28 hFm24 zq_89 rfl
                        have hRUWm28 := zR_UW_fr (zdis_fr (zfr_up hmm28 (zfr_rf [(16, 3)] _) zq_89 rfl) rfl) hRUWm24
                        refine zw_some ?_
                        refine zw_bd (zw_eq (zu_call_at (zt_T n) (zm_307 n) (zdp_307 n) _ _ _ _ _ rfl (zr_307_0 n _ _ 148 m28)) ?_)
                        have r29 : 0 ≤ (m28 89 2) ∧ (m28 89 2) ≤ 16 := zi_rd hIm28 zq_89 zb_16_2
                        have e30 : (m28 89 2) = (zu_w32 ((m24 89 2) + 1)) := (zs_eq hmm28)
                        have hus : zUN m28 (-1) := zUN_mv (a := 148) hRUNm24 rfl (fun _ => (zs_ne hmm28 (Or.inl (zc_ne zq_149 zq_89 (by decide))))) (zs_ne hmm28 (Or.inl (zc_ne zq_148 zq_89 (by decide)))) (by omega)
                        have r31 : 1 ≤ (m28 50 2) ∧ (m28 50 2) ≤ 48 := zi_rd hIm28 zq_50 zb_11_2
                        have e32 : (m28 50 2) = (m0 50 2) := (Eq.trans (zs_ne hmm28 (Or.inl (zc_ne zq_50 zq_89 (by decide)))) (Eq.trans (zs_ne hmm24 (Or.inl (zc_ne zq_50 (zc_65_e (zc_16_1 zq_89) b20) (by decide)))) (Eq.trans (zs_ne hmm23 (Or.inl (zc_ne zq_50 (zc_65_e (zc_16_1 zq_89) b20) (by decide)))) (Eq.trans (zs_ne hmm22 (Or.inl (zc_ne zq_50 (zc_65_e (zc_16_1 zq_89) b20) (by decide)))) (zs_ne hmm21 (Or.inl (zc_ne zq_50 (zc_65_e (zc_16_1 zq_89) b20) (by decide))))))))
                        refine zw_bd (zw_mono (zk_305 n hIm28 zq_148 ⟨by decide, by decide⟩ ⟨by decide, by decide⟩ ⟨by decide, by decide⟩ ⟨by decide, by decide⟩ (by omega) hRUWm28) (fun v34 m33 hqm33 => ?_))
                        obtain ⟨hIm33, hfm33, hvm33⟩ := hqm33
                        have hFm33 := zfr_tr hFm28 hfm33 rfl
                        obtain ⟨hRUWm33, hvm33⟩ := hvm33
                        have z35 := zdl_v 0
                        have hum33 := (hvm33.2.2) (-1) hus (by omega) (by omega)
                        have hRUNm33 : zR_UN m33 := zUN_cast hum33 (by omega)
                        refine zw_some ?_
                        exact zw_some ⟨hIm33, hFm33, hRUNm33, hRUWm33, ⟨by omega, by omega⟩⟩
                    · exact zw_some ⟨hIm0, hFm0, hRUNm0, hRUWm0, ⟨by decide, by decide⟩⟩
set_option maxHeartbeats 4000000 in
theorem zk_54 (n : Nat) {a0 : Int} {m0 : zu_m} (hIm0 : zi_I m0) (hc0 : zcls a0 = 2)     (hRUNm0 : zR_UN m0) (hRUWm0 : zR_UW m0) : zw (zu_call (zt_T n) 54 [(5, a0)] m0) (fun v m => zi_I m ∧ zfr [(16, 3), (23, 5), (81, 0), (82, 0), (83, 0), (84, 0)] m0 m ∧ zR_UN m ∧ zR_UW m ∧ (0 ≤ v ∧ v ≤ 1)) := by
  have hFm0 : zfr [(16, 3), (23, 5), (81, 0), (82, 0), (83, 0), (84, 0)] m0 m0 := zfr_rf _ _
  refine zw_eq (zu_call_at (zt_T n) (zm_54 n) (zdp_54 n) _ _ _ _ _ rfl (zr_54_0 n _ _ a0 m0)) ?_
  have r1 : 0 ≤ (m0 89 2) ∧ (m0 89 2) ≤ 16 := zi_rd hIm0 zq_89 zb_16_2
  have r2 : 0 ≤ (m0 63 2) ∧ (m0 63 2) ≤ 16 := zi_rd hIm0 zq_63 zb_13_2
  refine zw_ite (fun h3 => ?_) (fun h3 => ?_)
  · have w4 := zu_w32_id (z := (m0 89 2) - 1) (by omega) (by omega)
    have b5 : 0 ≤ (zu_w32 ((m0 89 2) - 1)) ∧ (zu_w32 ((m0 89 2) - 1)) < 16 := by omega
    refine zw_if b5 ?_
    have r6 : (-3) ≤ (m0 ((89 + 1) + 5 + (zu_w32 ((m0 89 2) - 1))) 3) ∧ (m0 ((89 + 1) + 5 + (zu_w32 ((m0 89 2) - 1))) 3) ≤ 3 := zi_rd hIm0 (zc_65_e (zc_16_1 zq_89) b5) zb_17_3
    refine zw_ite (fun h7 => ?_) (fun h7 => ?_)
    · refine zw_bd (zw_eq (zu_call_at (zt_T n) (zm_308 n) (zdp_308 n) _ _ _ _ _ rfl (zr_308_0 n _ _ 148 ((89 + 1) + 5 + (zu_w32 ((m0 89 2) - 1))) m0)) ?_)
      have r8 : 0 ≤ (m0 ((89 + 1) + 5 + (zu_w32 ((m0 89 2) - 1))) 1) ∧ (m0 ((89 + 1) + 5 + (zu_w32 ((m0 89 2) - 1))) 1) ≤ 3 := zi_rd hIm0 (zc_65_e (zc_16_1 zq_89) b5) zb_17_1
      have r9 : 0 ≤ (m0 ((89 + 1) + 5 + (zu_w32 ((m0 89 2) - 1))) 0) ∧ (m0 ((89 + 1) + 5 + (zu_w32 ((m0 89 2) - 1))) 0) ≤ 47 := zi_rd hIm0 (zc_65_e (zc_16_1 zq_89) b5) zb_17_0
      have r10 : 0 ≤ (m0 ((89 + 1) + 5 + (zu_w32 ((m0 89 2) - 1))) 2) ∧ (m0 ((89 + 1) + 5 + (zu_w32 ((m0 89 2) - 1))) 2) ≤ 9 := zi_rd hIm0 (zc_65_e (zc_16_1 zq_89) b5) zb_17_2
      have hus : zUN m0 0 := hRUNm0
      have r11 : 1 ≤ (m0 50 2) ∧ (m0 50 2) ≤ 48 := zi_rd hIm0 zq_50 zb_11_2
      refine zw_bd (zw_mono (zk_305 n hIm0 zq_148 ⟨by decide, by decide⟩ ⟨by omega, by omega⟩ ⟨by omega, by omega⟩ ⟨by omega, by omega⟩ (by omega) hRUWm0) (fun v13 m12 hqm12 => ?_))
      obtain ⟨hIm12, hfm12, hvm12⟩ := hqm12
      have hFm12 := zfr_tr hFm0 hfm12 rfl
      obtain ⟨hRUWm12, hvm12⟩ := hvm12
      have z14 := zdl_v 1
      have hum12 := (hvm12.2.2) 0 hus (by omega) (by omega)
      refine zw_some ?_
      have r15 : 0 ≤ (m12 89 2) ∧ (m12 89 2) ≤ 16 := zi_rd hIm12 zq_89 zb_16_2
      have e16 : (m12 89 2) = (m0 89 2) := (zfr_ap hfm12 zq_89 rfl)
      have w17 := zu_w32_id (z := (m12 89 2) - 1) (by omega) (by omega)
      generalize hmm18 : zu_up m12 89 2 (zu_w32 ((m12 89 2) - 1)) = m18
      have hIm18 := zi_up hmm18 hIm12 zq_89 zb_16_2 (by omega) (by omega)
      have hFm18 := zfr_up hmm18 hFm12 zq_89 rfl
      have hRUWm18 := zR_UW_fr (zdis_fr (zfr_up hmm18 (zfr_rf [(16, 3)] _) zq_89 rfl) rfl) hRUWm12
      have r19 : 0 ≤ (m18 89 2) ∧ (m18 89 2) ≤ 16 := zi_rd hIm18 zq_89 zb_16_2
      have e20 : (m18 89 2) = (zu_w32 ((m12 89 2) - 1)) := (zs_eq hmm18)
      have hRUNm18 : zR_UN m18 := zUN_mv (a := 148) hum12 rfl (fun _ => (zs_ne hmm18 (Or.inl (zc_ne zq_149 zq_89 (by decide))))) (zs_ne hmm18 (Or.inl (zc_ne zq_148 zq_89 (by decide)))) (by omega)
      refine zw_b (by omega) ?_
      exact zw_some ⟨hIm18, hFm18, hRUNm18, hRUWm18, ⟨by decide, by decide⟩⟩
    · refine zw_b (by omega) ?_
      exact zw_some ⟨hIm0, hFm0, hRUNm0, hRUWm0, ⟨by decide, by decide⟩⟩
  · refine zw_b (by omega) ?_
    exact zw_some ⟨hIm0, hFm0, hRUNm0, hRUWm0, ⟨by decide, by decide⟩⟩

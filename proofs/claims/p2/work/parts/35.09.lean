set_option maxHeartbeats 4000000 in
theorem zk_100 (n : Nat) {a0 a1 : Int} {m0 : zu_m} (hIm0 : zi_I m0) (hc0 : zcls a0 = 28) (ha1 : (-2147483648) ≤ a1 ∧ a1 ≤ 2147483647)  (he0 : 1 ≤ m0 a0 8 ∧ m0 a0 8 ≤ 1) (he1 : (-2147483648) ≤ m0 a0 9 ∧ m0 a0 9 ≤ 3)  (hRNSm0 : zR_NS m0) : zw (zu_call (zt_T n) 100 [(40, a0), (0, a1)] m0) (fun v m => zi_I m ∧ zfr [(28, 5), (28, 6), (28, 8), (28, 9), (28, 10), (28, 11), (28, 12), (28, 23), (28, 24), (28, 43), (104, 0), (105, 0)] m0 m ∧ zR_NS m ∧ (0 ≤ v ∧ v ≤ 1)) := by
  have hFm0 : zfr [(28, 5), (28, 6), (28, 8), (28, 9), (28, 10), (28, 11), (28, 12), (28, 23), (28, 24), (28, 43), (104, 0), (105, 0)] m0 m0 := zfr_rf _ _
  have s1 := hRNSm0 a0 hc0
  refine zw_eq (zr_100_0 n a0 a1 m0) ?_
  have r2 : 0 ≤ (m0 a0 22) ∧ (m0 a0 22) ≤ 16 := zi_rd hIm0 hc0 zb_28_22
  refine zw_ite (fun h3 => ?_) (fun h3 => ?_)
  · refine zw_bd (zw_mono (zk_89 n hIm0 hc0 hRNSm0) (fun v5 m4 hqm4 => ?_))
    obtain ⟨hIm4, hfm4, hvm4⟩ := hqm4
    have hFm4 := zfr_tr hFm0 hfm4 rfl
    obtain ⟨hRNSm4, hvm4⟩ := hvm4
    have s6 := hRNSm4 a0 hc0
    refine zw_bd (zw_eq (zr_96_0 n a0 m4) ?_)
    refine zw_b (by omega) ?_
    generalize hmm7 : zu_up m4 a0 23 1 = m7
    have hIm7 := zi_up hmm7 hIm4 hc0 zb_28_23 (by omega) (by omega)
    have hFm7 := zfr_up hmm7 hFm4 hc0 rfl
    have hRNSm7 := zR_NS_fr (zdis_fr (zfr_up hmm7 (zfr_rf [(28, 24)] _) hc0 rfl) rfl) hRNSm4
    have r8 : 1 ≤ (m7 a0 17) ∧ (m7 a0 17) ≤ 8 := zi_rd hIm7 hc0 zb_28_17
    have w9 := zu_w32_id (z := (m7 a0 17) - 1) (by omega) (by omega)
    refine zw_bd (zw_eq (zr_94_0 n a0 0 (zu_w32 ((m7 a0 17) - 1)) m7) ?_)
    have r10 : 0 ≤ (m7 a0 8) ∧ (m7 a0 8) ≤ 6 := zi_rd hIm7 hc0 zb_28_8
    refine zw_ite (fun h11 => ?_) (fun h11 => ?_)
    · have r12 : (-2147483648) ≤ (m7 a0 9) ∧ (m7 a0 9) ≤ 2147483647 := zi_rd hIm7 hc0 zb_28_9
      refine zw_bd (zw_eq (zr_83_0 n (m7 a0 9) 0 (zu_w32 ((m7 a0 17) - 1)) m7) ?_)
      refine zw_ite (fun h13 => ?_) (fun h13 => ?_)
      · refine zw_b (by omega) ?_
        refine zw_some ?_
        refine zw_ite (fun h14 => ?_) (fun h14 => ?_)
        · exfalso; omega
        · refine zw_bd (zw_eq (zr_85_0 n a0 2 m7) ?_)
          generalize hmm15 : zu_up m7 a0 4 2 = m15
          have hIm15 := zi_up hmm15 hIm7 hc0 zb_28_4 (by omega) (by omega)
          have hFm15 := zfr_up hmm15 hFm7 hc0 rfl
          have hRNSm15 := zR_NS_fr (zdis_fr (zfr_up hmm15 (zfr_rf [(28, 5)] _) hc0 rfl) rfl) hRNSm7
          have r16 : 0 ≤ (m15 a0 10) ∧ (m15 a0 10) ≤ 700 := zi_rd hIm15 hc0 zb_28_10
          generalize hmm17 : zu_up m15 a0 5 (m15 a0 10) = m17
          have hIm17 := zi_up hmm17 hIm15 hc0 zb_28_5 (by omega) (by omega)
          have hFm17 := zfr_up hmm17 hFm15 hc0 rfl
          have hRNSm17 := zR_NS_fr (zdis_fr (zfr_up hmm17 (zfr_rf [(28, 6)] _) hc0 rfl) rfl) hRNSm15
          refine zw_b (by omega) ?_
          refine zw_some ?_
          refine zw_b (by omega) ?_
          refine zw_some ?_
          refine zw_ite (fun h18 => ?_) (fun h18 => ?_)
          · exfalso; omega
          · refine zw_b (by omega) ?_
            refine zw_some ?_
            refine zw_ite (fun h19 => ?_) (fun h19 => ?_)
            · exfalso; omega
            · refine zw_b (by omega) ?_
              exact zw_some ⟨hIm17, hFm17, hRNSm17, ⟨by omega, by omega⟩⟩
      · refine zw_ite (fun h20 => ?_) (fun h20 => ?_)
        · refine zw_b (by omega) ?_
          refine zw_some ?_
          refine zw_ite (fun h21 => ?_) (fun h21 => ?_)
          · exfalso; omega
          · refine zw_bd (zw_eq (zr_85_0 n a0 2 m7) ?_)
            generalize hmm22 : zu_up m7 a0 4 2 = m22
            have hIm22 := zi_up hmm22 hIm7 hc0 zb_28_4 (by omega) (by omega)
            have hFm22 := zfr_up hmm22 hFm7 hc0 rfl
            have hRNSm22 := zR_NS_fr (zdis_fr (zfr_up hmm22 (zfr_rf [(28, 5)] _) hc0 rfl) rfl) hRNSm7
            have r23 : 0 ≤ (m22 a0 10) ∧ (m22 a0 10) ≤ 700 := zi_rd hIm22 hc0 zb_28_10
            generalize hmm24 : zu_up m22 a0 5 (m22 a0 10) = m24
            have hIm24 := zi_up hmm24 hIm22 hc0 zb_28_5 (by omega) (by omega)
            have hFm24 := zfr_up hmm24 hFm22 hc0 rfl
            have hRNSm24 := zR_NS_fr (zdis_fr (zfr_up hmm24 (zfr_rf [(28, 6)] _) hc0 rfl) rfl) hRNSm22
            refine zw_b (by omega) ?_
            refine zw_some ?_
            refine zw_b (by omega) ?_
            refine zw_some ?_
            refine zw_ite (fun h25 => ?_) (fun h25 => ?_)
            · exfalso; omega
            · refine zw_b (by omega) ?_
              refine zw_some ?_
              refine zw_ite (fun h26 => ?_) (fun h26 => ?_)
              · exfalso; omega
              · refine zw_b (by omega) ?_
                exact zw_some ⟨hIm24, hFm24, hRNSm24, ⟨by omega, by omega⟩⟩
        · refine zw_b (by omega) ?_
          refine zw_some ?_
          refine zw_ite (fun h27 => ?_) (fun h27 => ?_)
          · generalize hmm28 : zu_up m7 a0 11 (m7 a0 9) = m28
            have hIm28 := zi_up hmm28 hIm7 hc0 zb_28_11 (by omega) (by omega)
            have hFm28 := zfr_up hmm28 hFm7 hc0 rfl
            have hRNSm28 := zR_NS_fr (zdis_fr (zfr_up hmm28 (zfr_rf [(28, 12)] _) hc0 rfl) rfl) hRNSm7
            refine zw_bd (zw_mono (zk_89 n hIm28 hc0 hRNSm28) (fun v30 m29 hqm29 => ?_))
            obtain ⟨hIm29, hfm29, hvm29⟩ := hqm29
            have hFm29 := zfr_tr hFm28 hfm29 rfl
            obtain ⟨hRNSm29, hvm29⟩ := hvm29
            have s31 := hRNSm29 a0 hc0
            refine zw_b (by omega) ?_
            refine zw_some ?_
            refine zw_ite (fun h32 => ?_) (fun h32 => ?_)
            · have r33 : (-2147483648) ≤ (m29 a0 11) ∧ (m29 a0 11) ≤ 2147483647 := zi_rd hIm29 hc0 zb_28_11
              have e34 : (m29 a0 11) = (m7 a0 9) := (Eq.trans (zfr_ap hfm29 hc0 rfl) (zs_eq hmm28))
              have r35 : 0 ≤ (m29 a0 10) ∧ (m29 a0 10) ≤ 700 := zi_rd hIm29 hc0 zb_28_10
              generalize hmm36 : zu_up m29 a0 42 (m29 a0 10) = m36
              have hIm36 := zi_up hmm36 hIm29 hc0 zb_28_42 (by omega) (by omega)
              have hFm36 := zfr_up hmm36 hFm29 hc0 rfl
              have hRNSm36 := zR_NS_fr (zdis_fr (zfr_up hmm36 (zfr_rf [(28, 43)] _) hc0 rfl) rfl) hRNSm29
              have r37 : 1 ≤ (m36 a0 18) ∧ (m36 a0 18) ≤ 6 := zi_rd hIm36 hc0 zb_28_18
              have w38 := zu_w32_id (z := (m36 a0 18) - 1) (by omega) (by omega)
              refine zw_bd (zw_eq (zr_94_0 n a0 0 (zu_w32 ((m36 a0 18) - 1)) m36) ?_)
              have r39 : 0 ≤ (m36 a0 8) ∧ (m36 a0 8) ≤ 6 := zi_rd hIm36 hc0 zb_28_8
              refine zw_ite (fun h40 => ?_) (fun h40 => ?_)
              · have r41 : (-2147483648) ≤ (m36 a0 9) ∧ (m36 a0 9) ≤ 2147483647 := zi_rd hIm36 hc0 zb_28_9
                refine zw_bd (zw_eq (zr_83_0 n (m36 a0 9) 0 (zu_w32 ((m36 a0 18) - 1)) m36) ?_)
                refine zw_ite (fun h42 => ?_) (fun h42 => ?_)
                · refine zw_b (by omega) ?_
                  refine zw_some ?_
                  refine zw_ite (fun h43 => ?_) (fun h43 => ?_)
                  · exfalso; omega
                  · refine zw_bd (zw_eq (zr_85_0 n a0 2 m36) ?_)
                    generalize hmm44 : zu_up m36 a0 4 2 = m44
                    have hIm44 := zi_up hmm44 hIm36 hc0 zb_28_4 (by omega) (by omega)
                    have hFm44 := zfr_up hmm44 hFm36 hc0 rfl
                    have hRNSm44 := zR_NS_fr (zdis_fr (zfr_up hmm44 (zfr_rf [(28, 5)] _) hc0 rfl) rfl) hRNSm36
                    have r45 : 0 ≤ (m44 a0 10) ∧ (m44 a0 10) ≤ 700 := zi_rd hIm44 hc0 zb_28_10
                    have e46 : (m44 a0 10) = (m29 a0 10) := (Eq.trans (zs_ne hmm44 (Or.inr (by decide))) (zs_ne hmm36 (Or.inr (by decide))))
                    generalize hmm47 : zu_up m44 a0 5 (m44 a0 10) = m47
                    have hIm47 := zi_up hmm47 hIm44 hc0 zb_28_5 (by omega) (by omega)
                    have hFm47 := zfr_up hmm47 hFm44 hc0 rfl
                    have hRNSm47 := zR_NS_fr (zdis_fr (zfr_up hmm47 (zfr_rf [(28, 6)] _) hc0 rfl) rfl) hRNSm44
                    refine zw_b (by omega) ?_
                    refine zw_some ?_
                    refine zw_b (by omega) ?_
                    refine zw_some ?_
                    refine zw_ite (fun h48 => ?_) (fun h48 => ?_)
                    · exfalso; omega
                    · refine zw_b (by omega) ?_
                      refine zw_some ?_
                      refine zw_ite (fun h49 => ?_) (fun h49 => ?_)
                      · exfalso; omega
                      · refine zw_b (by omega) ?_
                        exact zw_some ⟨hIm47, hFm47, hRNSm47, ⟨by omega, by omega⟩⟩
                · refine zw_ite (fun h50 => ?_) (fun h50 => ?_)
                  · refine zw_b (by omega) ?_
                    refine zw_some ?_
                    refine zw_ite (fun h51 => ?_) (fun h51 => ?_)
                    · exfalso; omega
                    · refine zw_bd (zw_eq (zr_85_0 n a0 2 m36) ?_)
                      generalize hmm52 : zu_up m36 a0 4 2 = m52
                      have hIm52 := zi_up hmm52 hIm36 hc0 zb_28_4 (by omega) (by omega)
                      have hFm52 := zfr_up hmm52 hFm36 hc0 rfl
                      have hRNSm52 := zR_NS_fr (zdis_fr (zfr_up hmm52 (zfr_rf [(28, 5)] _) hc0 rfl) rfl) hRNSm36
                      have r53 : 0 ≤ (m52 a0 10) ∧ (m52 a0 10) ≤ 700 := zi_rd hIm52 hc0 zb_28_10
                      have e54 : (m52 a0 10) = (m29 a0 10) := (Eq.trans (zs_ne hmm52 (Or.inr (by decide))) (zs_ne hmm36 (Or.inr (by decide))))
                      generalize hmm55 : zu_up m52 a0 5 (m52 a0 10) = m55
                      have hIm55 := zi_up hmm55 hIm52 hc0 zb_28_5 (by omega) (by omega)
                      have hFm55 := zfr_up hmm55 hFm52 hc0 rfl
                      have hRNSm55 := zR_NS_fr (zdis_fr (zfr_up hmm55 (zfr_rf [(28, 6)] _) hc0 rfl) rfl) hRNSm52
                      refine zw_b (by omega) ?_
                      refine zw_some ?_
                      refine zw_b (by omega) ?_
                      refine zw_some ?_
                      refine zw_ite (fun h56 => ?_) (fun h56 => ?_)
                      · exfalso; omega
                      · refine zw_b (by omega) ?_
                        refine zw_some ?_
                        refine zw_ite (fun h57 => ?_) (fun h57 => ?_)
                        · exfalso; omega
                        · refine zw_b (by omega) ?_
                          exact zw_some ⟨hIm55, hFm55, hRNSm55, ⟨by omega, by omega⟩⟩
                  · refine zw_b (by omega) ?_
                    refine zw_some ?_
                    refine zw_ite (fun h58 => ?_) (fun h58 => ?_)
                    · generalize hmm59 : zu_up m36 a0 11 (m36 a0 9) = m59
                      have hIm59 := zi_up hmm59 hIm36 hc0 zb_28_11 (by omega) (by omega)
                      have hFm59 := zfr_up hmm59 hFm36 hc0 rfl
                      have hRNSm59 := zR_NS_fr (zdis_fr (zfr_up hmm59 (zfr_rf [(28, 12)] _) hc0 rfl) rfl) hRNSm36
                      refine zw_bd (zw_mono (zk_89 n hIm59 hc0 hRNSm59) (fun v61 m60 hqm60 => ?_))
                      obtain ⟨hIm60, hfm60, hvm60⟩ := hqm60
                      have hFm60 := zfr_tr hFm59 hfm60 rfl
                      obtain ⟨hRNSm60, hvm60⟩ := hvm60
                      have s62 := hRNSm60 a0 hc0
                      refine zw_b (by omega) ?_
                      refine zw_some ?_
                      refine zw_ite (fun h63 => ?_) (fun h63 => ?_)
                      · have r64 : 1 ≤ (m60 a0 17) ∧ (m60 a0 17) ≤ 8 := zi_rd hIm60 hc0 zb_28_17
                        have e65 : (m60 a0 17) = (m7 a0 17) := (Eq.trans (zfr_ap hfm60 hc0 rfl) (Eq.trans (zs_ne hmm59 (Or.inr (by decide))) (Eq.trans (zs_ne hmm36 (Or.inr (by decide))) (Eq.trans (zfr_ap hfm29 hc0 rfl) (zs_ne hmm28 (Or.inr (by decide)))))))
                        have r66 : (-2147483648) ≤ (m60 a0 11) ∧ (m60 a0 11) ≤ 2147483647 := zi_rd hIm60 hc0 zb_28_11
                        have e67 : (m60 a0 11) = (m36 a0 9) := (Eq.trans (zfr_ap hfm60 hc0 rfl) (zs_eq hmm59))
                        have p68 := zmul_bd (x := (m60 a0 17)) (y := (m60 a0 11)) (a := 1) (b := 0) (A := 8) (B := 5) (by omega) (by omega) (by omega) (by omega) (by omega) (by omega)
                        have w69 := zu_w32_id (z := (m60 a0 17) * (m60 a0 11)) (by omega) (by omega)
                        have w70 := zu_w32_id (z := (zu_w32 ((m60 a0 17) * (m60 a0 11))) + (m29 a0 11)) (by omega) (by omega)
                        generalize hmm71 : zu_up m60 a0 11 (zu_w32 ((zu_w32 ((m60 a0 17) * (m60 a0 11))) + (m29 a0 11))) = m71
                        have hIm71 := zi_up hmm71 hIm60 hc0 zb_28_11 (by omega) (by omega)
                        have hFm71 := zfr_up hmm71 hFm60 hc0 rfl
                        have hRNSm71 := zR_NS_fr (zdis_fr (zfr_up hmm71 (zfr_rf [(28, 12)] _) hc0 rfl) rfl) hRNSm60
                        refine zw_b (by omega) ?_
                        refine zw_some ?_
                        refine zw_ite (fun h72 => ?_) (fun h72 => ?_)
                        · have r73 : (-2147483648) ≤ (m71 a0 11) ∧ (m71 a0 11) ≤ 2147483647 := zi_rd hIm71 hc0 zb_28_11
                          have e74 : (m71 a0 11) = (zu_w32 ((zu_w32 ((m60 a0 17) * (m60 a0 11))) + (m29 a0 11))) := (zs_eq hmm71)
                          have b75 : 0 ≤ (m71 a0 11) ∧ (m71 a0 11) < 48 := by omega
                          refine zw_if b75 ?_
                          have r76 : 0 ≤ (m71 196 (m71 a0 11)) ∧ (m71 196 (m71 a0 11)) ≤ 1 := zi_rd hIm71 zq_196 (zb_105 _)
                          refine zw_ite (fun h77 => ?_) (fun h77 => ?_)
                          · refine zw_b (by omega) ?_
                            have b78 : 0 ≤ (m71 a0 11) ∧ (m71 a0 11) < 48 := by omega
                            refine zw_if b78 ?_
                            generalize hmm79 : zu_up m71 196 (m71 a0 11) 1 = m79
                            have hIm79 := zi_up hmm79 hIm71 zq_196 (zb_105 _) (by omega) (by omega)
                            have hFm79 := zfr_up hmm79 hFm71 zq_196 rfl
                            have hRNSm79 := zR_NS_fr (zdis_fr (zfr_up hmm79 (zfr_rf [(105, 0)] _) zq_196 rfl) rfl) hRNSm71
                            have r80 : (-2147483648) ≤ (m79 a0 11) ∧ (m79 a0 11) ≤ 2147483647 := zi_rd hIm79 hc0 zb_28_11
                            have e81 : (m79 a0 11) = (m71 a0 11) := (zs_ne hmm79 (Or.inl (zc_ne hc0 zq_196 (by decide))))
                            have w82 := zu_w32_id (z := 48 + (m79 a0 11)) (by omega) (by omega)
                            have b83 : 0 ≤ (zu_w32 (48 + (m79 a0 11))) ∧ (zu_w32 (48 + (m79 a0 11))) < 96 := by omega
                            refine zw_if b83 ?_
                            generalize hmm84 : zu_up m79 195 (zu_w32 (48 + (m79 a0 11))) a1 = m84
                            have hIm84 := zi_up hmm84 hIm79 zq_195 (zb_104 _) (by omega) (by omega)
                            have hFm84 := zfr_up hmm84 hFm79 zq_195 rfl
                            have hRNSm84 := zR_NS_fr (zdis_fr (zfr_up hmm84 (zfr_rf [(104, 0)] _) zq_195 rfl) rfl) hRNSm79
                            have r85 : 0 ≤ (m84 a0 22) ∧ (m84 a0 22) ≤ 16 := zi_rd hIm84 hc0 zb_28_22
                            have e86 : (m84 a0 22) = (m0 a0 22) := (Eq.trans (zs_ne hmm84 (Or.inl (zc_ne hc0 zq_195 (by decide)))) (Eq.trans (zs_ne hmm79 (Or.inl (zc_ne hc0 zq_196 (by decide)))) (Eq.trans (zs_ne hmm71 (Or.inr (by decide))) (Eq.trans (zfr_ap hfm60 hc0 rfl) (Eq.trans (zs_ne hmm59 (Or.inr (by decide))) (Eq.trans (zs_ne hmm36 (Or.inr (by decide))) (Eq.trans (zfr_ap hfm29 hc0 rfl) (Eq.trans (zs_ne hmm28 (Or.inr (by decide))) (Eq.trans (zs_ne hmm7 (Or.inr (by decide))) (zfr_ap hfm4 hc0 rfl))))))))))
                            have w87 := zu_w32_id (z := (m84 a0 22) + 1) (by omega) (by omega)
                            generalize hmm88 : zu_up m84 a0 22 (zu_w32 ((m84 a0 22) + 1)) = m88
                            have hIm88 := zi_up hmm88 hIm84 hc0 zb_28_22 (by omega) (by omega)
                            have hFm88 := zfr_up hmm88 hFm84 hc0 rfl
                            have hRNSm88 := zR_NS_fr (zdis_fr (zfr_up hmm88 (zfr_rf [(28, 23)] _) hc0 rfl) rfl) hRNSm84
                            refine zw_b (by omega) ?_
                            exact zw_some ⟨hIm88, hFm88, hRNSm88, ⟨by omega, by omega⟩⟩
                          · have r89 : (-2147483648) ≤ (m71 a0 42) ∧ (m71 a0 42) ≤ 2147483647 := zi_rd hIm71 hc0 zb_28_42
                            have e90 : (m71 a0 42) = (m29 a0 10) := (Eq.trans (zs_ne hmm71 (Or.inr (by decide))) (Eq.trans (zfr_ap hfm60 hc0 rfl) (Eq.trans (zs_ne hmm59 (Or.inr (by decide))) (zs_eq hmm36))))
                            generalize hmm91 : zu_up m71 a0 10 (m71 a0 42) = m91
                            have hIm91 := zi_up hmm91 hIm71 hc0 zb_28_10 (by omega) (by omega)
                            have hFm91 := zfr_up hmm91 hFm71 hc0 rfl
                            have hRNSm91 := zR_NS_fr (zdis_fr (zfr_up hmm91 (zfr_rf [(28, 11)] _) hc0 rfl) rfl) hRNSm71
                            refine zw_bd (zw_eq (zr_85_0 n a0 3 m91) ?_)
                            generalize hmm92 : zu_up m91 a0 4 3 = m92
                            have hIm92 := zi_up hmm92 hIm91 hc0 zb_28_4 (by omega) (by omega)
                            have hFm92 := zfr_up hmm92 hFm91 hc0 rfl
                            have hRNSm92 := zR_NS_fr (zdis_fr (zfr_up hmm92 (zfr_rf [(28, 5)] _) hc0 rfl) rfl) hRNSm91
                            have r93 : 0 ≤ (m92 a0 10) ∧ (m92 a0 10) ≤ 700 := zi_rd hIm92 hc0 zb_28_10
                            have e94 : (m92 a0 10) = (m71 a0 42) := (Eq.trans (zs_ne hmm92 (Or.inr (by decide))) (zs_eq hmm91))
                            generalize hmm95 : zu_up m92 a0 5 (m92 a0 10) = m95
                            have hIm95 := zi_up hmm95 hIm92 hc0 zb_28_5 (by omega) (by omega)
                            have hFm95 := zfr_up hmm95 hFm92 hc0 rfl
                            have hRNSm95 := zR_NS_fr (zdis_fr (zfr_up hmm95 (zfr_rf [(28, 6)] _) hc0 rfl) rfl) hRNSm92
                            refine zw_b (by omega) ?_
                            refine zw_some ?_
                            refine zw_b (by omega) ?_
                            exact zw_some ⟨hIm95, hFm95, hRNSm95, ⟨by omega, by omega⟩⟩
                        · exfalso; omega
                      · exfalso; omega
                    · exfalso; omega
              · refine zw_bd (zw_eq (zr_85_0 n a0 1 m36) ?_)
                generalize hmm96 : zu_up m36 a0 4 1 = m96
                have hIm96 := zi_up hmm96 hIm36 hc0 zb_28_4 (by omega) (by omega)
                have hFm96 := zfr_up hmm96 hFm36 hc0 rfl
                have hRNSm96 := zR_NS_fr (zdis_fr (zfr_up hmm96 (zfr_rf [(28, 5)] _) hc0 rfl) rfl) hRNSm36
                have r97 : 0 ≤ (m96 a0 10) ∧ (m96 a0 10) ≤ 700 := zi_rd hIm96 hc0 zb_28_10
                have e98 : (m96 a0 10) = (m29 a0 10) := (Eq.trans (zs_ne hmm96 (Or.inr (by decide))) (zs_ne hmm36 (Or.inr (by decide))))
                generalize hmm99 : zu_up m96 a0 5 (m96 a0 10) = m99
                have hIm99 := zi_up hmm99 hIm96 hc0 zb_28_5 (by omega) (by omega)
                have hFm99 := zfr_up hmm99 hFm96 hc0 rfl
                have hRNSm99 := zR_NS_fr (zdis_fr (zfr_up hmm99 (zfr_rf [(28, 6)] _) hc0 rfl) rfl) hRNSm96
                refine zw_b (by omega) ?_
                refine zw_some ?_
                refine zw_b (by omega) ?_
                refine zw_some ?_
                refine zw_ite (fun h100 => ?_) (fun h100 => ?_)
                · exfalso; omega
                · refine zw_b (by omega) ?_
                  refine zw_some ?_
                  refine zw_ite (fun h101 => ?_) (fun h101 => ?_)
                  · exfalso; omega
                  · refine zw_b (by omega) ?_
                    exact zw_some ⟨hIm99, hFm99, hRNSm99, ⟨by omega, by omega⟩⟩
            · exfalso; omega
          · exfalso; omega
    · refine zw_bd (zw_eq (zr_85_0 n a0 1 m7) ?_)
      generalize hmm102 : zu_up m7 a0 4 1 = m102
      have hIm102 := zi_up hmm102 hIm7 hc0 zb_28_4 (by omega) (by omega)
      have hFm102 := zfr_up hmm102 hFm7 hc0 rfl
      have hRNSm102 := zR_NS_fr (zdis_fr (zfr_up hmm102 (zfr_rf [(28, 5)] _) hc0 rfl) rfl) hRNSm7
      have r103 : 0 ≤ (m102 a0 10) ∧ (m102 a0 10) ≤ 700 := zi_rd hIm102 hc0 zb_28_10
      generalize hmm104 : zu_up m102 a0 5 (m102 a0 10) = m104
      have hIm104 := zi_up hmm104 hIm102 hc0 zb_28_5 (by omega) (by omega)
      have hFm104 := zfr_up hmm104 hFm102 hc0 rfl
      have hRNSm104 := zR_NS_fr (zdis_fr (zfr_up hmm104 (zfr_rf [(28, 6)] _) hc0 rfl) rfl) hRNSm102
      refine zw_b (by omega) ?_
      refine zw_some ?_
      refine zw_b (by omega) ?_
      refine zw_some ?_
      refine zw_ite (fun h105 => ?_) (fun h105 => ?_)
      · exfalso; omega
      · refine zw_b (by omega) ?_
        refine zw_some ?_
        refine zw_ite (fun h106 => ?_) (fun h106 => ?_)
        · exfalso; omega
        · refine zw_b (by omega) ?_
          exact zw_some ⟨hIm104, hFm104, hRNSm104, ⟨by omega, by omega⟩⟩
  · refine zw_bd (zw_eq (zr_85_0 n a0 2 m0) ?_)
    generalize hmm107 : zu_up m0 a0 4 2 = m107
    have hIm107 := zi_up hmm107 hIm0 hc0 zb_28_4 (by omega) (by omega)
    have hFm107 := zfr_up hmm107 hFm0 hc0 rfl
    have hRNSm107 := zR_NS_fr (zdis_fr (zfr_up hmm107 (zfr_rf [(28, 5)] _) hc0 rfl) rfl) hRNSm0
    have r108 : 0 ≤ (m107 a0 10) ∧ (m107 a0 10) ≤ 700 := zi_rd hIm107 hc0 zb_28_10
    generalize hmm109 : zu_up m107 a0 5 (m107 a0 10) = m109
    have hIm109 := zi_up hmm109 hIm107 hc0 zb_28_5 (by omega) (by omega)
    have hFm109 := zfr_up hmm109 hFm107 hc0 rfl
    have hRNSm109 := zR_NS_fr (zdis_fr (zfr_up hmm109 (zfr_rf [(28, 6)] _) hc0 rfl) rfl) hRNSm107
    refine zw_b (by omega) ?_
    refine zw_some ?_
    refine zw_b (by omega) ?_
    exact zw_some ⟨hIm109, hFm109, hRNSm109, ⟨by omega, by omega⟩⟩
set_option maxHeartbeats 4000000 in
theorem zk_101 (n : Nat) {a0 : Int} {m0 : zu_m} (hIm0 : zi_I m0) (hc0 : zcls a0 = 28)   (he0 : 1 ≤ m0 a0 8 ∧ m0 a0 8 ≤ 1) (he1 : 4 ≤ m0 a0 9 ∧ m0 a0 9 ≤ 4)  (hRNSm0 : zR_NS m0) : zw (zu_call (zt_T n) 101 [(40, a0)] m0) (fun v m => zi_I m ∧ zfr [(28, 5), (28, 6), (28, 8), (28, 9), (28, 10), (28, 11), (28, 12), (28, 20), (28, 24), (28, 43), (106, 0), (107, 0), (108, 0)] m0 m ∧ zR_NS m ∧ (0 ≤ v ∧ v ≤ 1)) := by
  have hFm0 : zfr [(28, 5), (28, 6), (28, 8), (28, 9), (28, 10), (28, 11), (28, 12), (28, 20), (28, 24), (28, 43), (106, 0), (107, 0), (108, 0)] m0 m0 := zfr_rf _ _
  have s1 := hRNSm0 a0 hc0
  refine zw_eq (zr_101_0 n a0 m0) ?_
  have r2 : 0 ≤ (m0 a0 19) ∧ (m0 a0 19) ≤ 12 := zi_rd hIm0 hc0 zb_28_19
  refine zw_ite (fun h3 => ?_) (fun h3 => ?_)
  · refine zw_bd (zw_mono (zk_89 n hIm0 hc0 hRNSm0) (fun v5 m4 hqm4 => ?_))
    obtain ⟨hIm4, hfm4, hvm4⟩ := hqm4
    have hFm4 := zfr_tr hFm0 hfm4 rfl
    obtain ⟨hRNSm4, hvm4⟩ := hvm4
    have s6 := hRNSm4 a0 hc0
    have r7 : 0 ≤ (m4 a0 19) ∧ (m4 a0 19) ≤ 12 := zi_rd hIm4 hc0 zb_28_19
    have e8 : (m4 a0 19) = (m0 a0 19) := (zfr_ap hfm4 hc0 rfl)
    have w9 := zu_w32_id (z := 18 + (m4 a0 19)) (by omega) (by omega)
    refine zw_bd (zw_eq (zr_97_0 n a0 12 15 m4) ?_)
    have r10 : 0 ≤ (m4 a0 8) ∧ (m4 a0 8) ≤ 6 := zi_rd hIm4 hc0 zb_28_8
    refine zw_ite (fun h11 => ?_) (fun h11 => ?_)
    · refine zw_bd (zw_eq (zr_85_0 n a0 1 m4) ?_)
      generalize hmm12 : zu_up m4 a0 4 1 = m12
      have hIm12 := zi_up hmm12 hIm4 hc0 zb_28_4 (by omega) (by omega)
      have hFm12 := zfr_up hmm12 hFm4 hc0 rfl
      have hRNSm12 := zR_NS_fr (zdis_fr (zfr_up hmm12 (zfr_rf [(28, 5)] _) hc0 rfl) rfl) hRNSm4
      have r13 : 0 ≤ (m12 a0 10) ∧ (m12 a0 10) ≤ 700 := zi_rd hIm12 hc0 zb_28_10
      generalize hmm14 : zu_up m12 a0 5 (m12 a0 10) = m14
      have hIm14 := zi_up hmm14 hIm12 hc0 zb_28_5 (by omega) (by omega)
      have hFm14 := zfr_up hmm14 hFm12 hc0 rfl
      have hRNSm14 := zR_NS_fr (zdis_fr (zfr_up hmm14 (zfr_rf [(28, 6)] _) hc0 rfl) rfl) hRNSm12
      refine zw_b (by omega) ?_
      refine zw_some ?_
      refine zw_b (by omega) ?_
      refine zw_some ?_
      refine zw_ite (fun h15 => ?_) (fun h15 => ?_)
      · exfalso; omega
      · refine zw_b (by omega) ?_
        exact zw_some ⟨hIm14, hFm14, hRNSm14, ⟨by omega, by omega⟩⟩
    · have r16 : (-2147483648) ≤ (m4 a0 9) ∧ (m4 a0 9) ≤ 2147483647 := zi_rd hIm4 hc0 zb_28_9
      refine zw_ite (fun h17 => ?_) (fun h17 => ?_)
      · refine zw_bd (zw_eq (zr_85_0 n a0 1 m4) ?_)
        generalize hmm18 : zu_up m4 a0 4 1 = m18
        have hIm18 := zi_up hmm18 hIm4 hc0 zb_28_4 (by omega) (by omega)
        have hFm18 := zfr_up hmm18 hFm4 hc0 rfl
        have hRNSm18 := zR_NS_fr (zdis_fr (zfr_up hmm18 (zfr_rf [(28, 5)] _) hc0 rfl) rfl) hRNSm4
        have r19 : 0 ≤ (m18 a0 10) ∧ (m18 a0 10) ≤ 700 := zi_rd hIm18 hc0 zb_28_10
        generalize hmm20 : zu_up m18 a0 5 (m18 a0 10) = m20
        have hIm20 := zi_up hmm20 hIm18 hc0 zb_28_5 (by omega) (by omega)
        have hFm20 := zfr_up hmm20 hFm18 hc0 rfl
        have hRNSm20 := zR_NS_fr (zdis_fr (zfr_up hmm20 (zfr_rf [(28, 6)] _) hc0 rfl) rfl) hRNSm18
        refine zw_b (by omega) ?_
        refine zw_some ?_
        refine zw_b (by omega) ?_
        refine zw_some ?_
        refine zw_ite (fun h21 => ?_) (fun h21 => ?_)
        · exfalso; omega
        · refine zw_b (by omega) ?_
          exact zw_some ⟨hIm20, hFm20, hRNSm20, ⟨by omega, by omega⟩⟩
      · refine zw_ite (fun h22 => ?_) (fun h22 => ?_)
        · have w23 := zu_w32_id (z := (m4 a0 9) - 12) (by omega) (by omega)
          refine zw_bd (zw_mono (zk_89 n hIm4 hc0 hRNSm4) (fun v25 m24 hqm24 => ?_))
          obtain ⟨hIm24, hfm24, hvm24⟩ := hqm24
          have hFm24 := zfr_tr hFm4 hfm24 rfl
          obtain ⟨hRNSm24, hvm24⟩ := hvm24
          have s26 := hRNSm24 a0 hc0
          generalize hmm27 : zu_up m24 a0 11 (zu_w32 ((m4 a0 9) - 12)) = m27
          have hIm27 := zi_up hmm27 hIm24 hc0 zb_28_11 (by omega) (by omega)
          have hFm27 := zfr_up hmm27 hFm24 hc0 rfl
          have hRNSm27 := zR_NS_fr (zdis_fr (zfr_up hmm27 (zfr_rf [(28, 12)] _) hc0 rfl) rfl) hRNSm24
          refine zw_b (by omega) ?_
          refine zw_some ?_
          refine zw_ite (fun h28 => ?_) (fun h28 => ?_)
          · have r29 : (-2147483648) ≤ (m27 a0 11) ∧ (m27 a0 11) ≤ 2147483647 := zi_rd hIm27 hc0 zb_28_11
            have e30 : (m27 a0 11) = (zu_w32 ((m4 a0 9) - 12)) := (zs_eq hmm27)
            have b31 : 0 ≤ (zu_w32 (18 + (m4 a0 19))) ∧ (zu_w32 (18 + (m4 a0 19))) < 36 := by omega
            refine zw_if b31 ?_
            generalize hmm32 : zu_up m27 198 (zu_w32 (18 + (m4 a0 19))) (m27 a0 11) = m32
            have hIm32 := zi_up hmm32 hIm27 zq_198 (zb_107 _) (by omega) (by omega)
            have hFm32 := zfr_up hmm32 hFm27 zq_198 rfl
            have hRNSm32 := zR_NS_fr (zdis_fr (zfr_up hmm32 (zfr_rf [(107, 0)] _) zq_198 rfl) rfl) hRNSm27
            refine zw_bd (zw_eq (zr_96_0 n a0 m32) ?_)
            refine zw_b (by omega) ?_
            generalize hmm33 : zu_up m32 a0 23 1 = m33
            have hIm33 := zi_up hmm33 hIm32 hc0 zb_28_23 (by omega) (by omega)
            have hFm33 := zfr_up hmm33 hFm32 hc0 rfl
            have hRNSm33 := zR_NS_fr (zdis_fr (zfr_up hmm33 (zfr_rf [(28, 24)] _) hc0 rfl) rfl) hRNSm32
            have r34 : 1 ≤ (m33 a0 17) ∧ (m33 a0 17) ≤ 8 := zi_rd hIm33 hc0 zb_28_17
            have w35 := zu_w32_id (z := (m33 a0 17) - 1) (by omega) (by omega)
            refine zw_bd (zw_eq (zr_94_0 n a0 0 (zu_w32 ((m33 a0 17) - 1)) m33) ?_)
            have r36 : 0 ≤ (m33 a0 8) ∧ (m33 a0 8) ≤ 6 := zi_rd hIm33 hc0 zb_28_8
            refine zw_ite (fun h37 => ?_) (fun h37 => ?_)
            · have r38 : (-2147483648) ≤ (m33 a0 9) ∧ (m33 a0 9) ≤ 2147483647 := zi_rd hIm33 hc0 zb_28_9
              refine zw_bd (zw_eq (zr_83_0 n (m33 a0 9) 0 (zu_w32 ((m33 a0 17) - 1)) m33) ?_)
              refine zw_ite (fun h39 => ?_) (fun h39 => ?_)
              · refine zw_b (by omega) ?_
                refine zw_some ?_
                refine zw_ite (fun h40 => ?_) (fun h40 => ?_)
                · exfalso; omega
                · refine zw_bd (zw_eq (zr_85_0 n a0 2 m33) ?_)
                  generalize hmm41 : zu_up m33 a0 4 2 = m41
                  have hIm41 := zi_up hmm41 hIm33 hc0 zb_28_4 (by omega) (by omega)
                  have hFm41 := zfr_up hmm41 hFm33 hc0 rfl
                  have hRNSm41 := zR_NS_fr (zdis_fr (zfr_up hmm41 (zfr_rf [(28, 5)] _) hc0 rfl) rfl) hRNSm33
                  have r42 : 0 ≤ (m41 a0 10) ∧ (m41 a0 10) ≤ 700 := zi_rd hIm41 hc0 zb_28_10
                  generalize hmm43 : zu_up m41 a0 5 (m41 a0 10) = m43
                  have hIm43 := zi_up hmm43 hIm41 hc0 zb_28_5 (by omega) (by omega)
                  have hFm43 := zfr_up hmm43 hFm41 hc0 rfl
                  have hRNSm43 := zR_NS_fr (zdis_fr (zfr_up hmm43 (zfr_rf [(28, 6)] _) hc0 rfl) rfl) hRNSm41
                  refine zw_b (by omega) ?_
                  refine zw_some ?_
                  refine zw_b (by omega) ?_
                  refine zw_some ?_
                  refine zw_ite (fun h44 => ?_) (fun h44 => ?_)
                  · exfalso; omega
                  · refine zw_b (by omega) ?_
                    refine zw_some ?_
                    refine zw_ite (fun h45 => ?_) (fun h45 => ?_)
                    · exfalso; omega
                    · refine zw_b (by omega) ?_
                      exact zw_some ⟨hIm43, hFm43, hRNSm43, ⟨by omega, by omega⟩⟩
              · refine zw_ite (fun h46 => ?_) (fun h46 => ?_)
                · refine zw_b (by omega) ?_
                  refine zw_some ?_
                  refine zw_ite (fun h47 => ?_) (fun h47 => ?_)
                  · exfalso; omega
                  · refine zw_bd (zw_eq (zr_85_0 n a0 2 m33) ?_)
                    generalize hmm48 : zu_up m33 a0 4 2 = m48
                    have hIm48 := zi_up hmm48 hIm33 hc0 zb_28_4 (by omega) (by omega)
                    have hFm48 := zfr_up hmm48 hFm33 hc0 rfl
                    have hRNSm48 := zR_NS_fr (zdis_fr (zfr_up hmm48 (zfr_rf [(28, 5)] _) hc0 rfl) rfl) hRNSm33
                    have r49 : 0 ≤ (m48 a0 10) ∧ (m48 a0 10) ≤ 700 := zi_rd hIm48 hc0 zb_28_10
                    generalize hmm50 : zu_up m48 a0 5 (m48 a0 10) = m50
                    have hIm50 := zi_up hmm50 hIm48 hc0 zb_28_5 (by omega) (by omega)
                    have hFm50 := zfr_up hmm50 hFm48 hc0 rfl
                    have hRNSm50 := zR_NS_fr (zdis_fr (zfr_up hmm50 (zfr_rf [(28, 6)] _) hc0 rfl) rfl) hRNSm48
                    refine zw_b (by omega) ?_
                    refine zw_some ?_
                    refine zw_b (by omega) ?_
                    refine zw_some ?_
                    refine zw_ite (fun h51 => ?_) (fun h51 => ?_)
                    · exfalso; omega
                    · refine zw_b (by omega) ?_
                      refine zw_some ?_
                      refine zw_ite (fun h52 => ?_) (fun h52 => ?_)
                      · exfalso; omega
                      · refine zw_b (by omega) ?_
                        exact zw_some ⟨hIm50, hFm50, hRNSm50, ⟨by omega, by omega⟩⟩
                · refine zw_b (by omega) ?_
                  refine zw_some ?_
                  refine zw_ite (fun h53 => ?_) (fun h53 => ?_)
                  · generalize hmm54 : zu_up m33 a0 11 (m33 a0 9) = m54
                    have hIm54 := zi_up hmm54 hIm33 hc0 zb_28_11 (by omega) (by omega)
                    have hFm54 := zfr_up hmm54 hFm33 hc0 rfl
                    have hRNSm54 := zR_NS_fr (zdis_fr (zfr_up hmm54 (zfr_rf [(28, 12)] _) hc0 rfl) rfl) hRNSm33
                    refine zw_bd (zw_mono (zk_89 n hIm54 hc0 hRNSm54) (fun v56 m55 hqm55 => ?_))
                    obtain ⟨hIm55, hfm55, hvm55⟩ := hqm55
                    have hFm55 := zfr_tr hFm54 hfm55 rfl
                    obtain ⟨hRNSm55, hvm55⟩ := hvm55
                    have s57 := hRNSm55 a0 hc0
                    refine zw_b (by omega) ?_
                    refine zw_some ?_
                    refine zw_ite (fun h58 => ?_) (fun h58 => ?_)
                    · have r59 : (-2147483648) ≤ (m55 a0 11) ∧ (m55 a0 11) ≤ 2147483647 := zi_rd hIm55 hc0 zb_28_11
                      have e60 : (m55 a0 11) = (m33 a0 9) := (Eq.trans (zfr_ap hfm55 hc0 rfl) (zs_eq hmm54))
                      have r61 : 0 ≤ (m55 a0 10) ∧ (m55 a0 10) ≤ 700 := zi_rd hIm55 hc0 zb_28_10
                      generalize hmm62 : zu_up m55 a0 42 (m55 a0 10) = m62
                      have hIm62 := zi_up hmm62 hIm55 hc0 zb_28_42 (by omega) (by omega)
                      have hFm62 := zfr_up hmm62 hFm55 hc0 rfl
                      have hRNSm62 := zR_NS_fr (zdis_fr (zfr_up hmm62 (zfr_rf [(28, 43)] _) hc0 rfl) rfl) hRNSm55
                      have r63 : 1 ≤ (m62 a0 18) ∧ (m62 a0 18) ≤ 6 := zi_rd hIm62 hc0 zb_28_18
                      have w64 := zu_w32_id (z := (m62 a0 18) - 1) (by omega) (by omega)
                      refine zw_bd (zw_eq (zr_94_0 n a0 0 (zu_w32 ((m62 a0 18) - 1)) m62) ?_)
                      have r65 : 0 ≤ (m62 a0 8) ∧ (m62 a0 8) ≤ 6 := zi_rd hIm62 hc0 zb_28_8
                      refine zw_ite (fun h66 => ?_) (fun h66 => ?_)
                      · have r67 : (-2147483648) ≤ (m62 a0 9) ∧ (m62 a0 9) ≤ 2147483647 := zi_rd hIm62 hc0 zb_28_9
                        refine zw_bd (zw_eq (zr_83_0 n (m62 a0 9) 0 (zu_w32 ((m62 a0 18) - 1)) m62) ?_)
                        refine zw_ite (fun h68 => ?_) (fun h68 => ?_)
                        · refine zw_b (by omega) ?_
                          refine zw_some ?_
                          refine zw_ite (fun h69 => ?_) (fun h69 => ?_)
                          · exfalso; omega
                          · refine zw_bd (zw_eq (zr_85_0 n a0 2 m62) ?_)
                            generalize hmm70 : zu_up m62 a0 4 2 = m70
                            have hIm70 := zi_up hmm70 hIm62 hc0 zb_28_4 (by omega) (by omega)
                            have hFm70 := zfr_up hmm70 hFm62 hc0 rfl
                            have hRNSm70 := zR_NS_fr (zdis_fr (zfr_up hmm70 (zfr_rf [(28, 5)] _) hc0 rfl) rfl) hRNSm62
                            have r71 : 0 ≤ (m70 a0 10) ∧ (m70 a0 10) ≤ 700 := zi_rd hIm70 hc0 zb_28_10
                            have e72 : (m70 a0 10) = (m55 a0 10) := (Eq.trans (zs_ne hmm70 (Or.inr (by decide))) (zs_ne hmm62 (Or.inr (by decide))))
                            generalize hmm73 : zu_up m70 a0 5 (m70 a0 10) = m73
                            have hIm73 := zi_up hmm73 hIm70 hc0 zb_28_5 (by omega) (by omega)
                            have hFm73 := zfr_up hmm73 hFm70 hc0 rfl
                            have hRNSm73 := zR_NS_fr (zdis_fr (zfr_up hmm73 (zfr_rf [(28, 6)] _) hc0 rfl) rfl) hRNSm70
                            refine zw_b (by omega) ?_
                            refine zw_some ?_
                            refine zw_b (by omega) ?_
                            refine zw_some ?_
                            refine zw_ite (fun h74 => ?_) (fun h74 => ?_)
                            · exfalso; omega
                            · refine zw_b (by omega) ?_
                              refine zw_some ?_
                              refine zw_ite (fun h75 => ?_) (fun h75 => ?_)
                              · exfalso; omega
                              · refine zw_b (by omega) ?_
                                exact zw_some ⟨hIm73, hFm73, hRNSm73, ⟨by omega, by omega⟩⟩
                        · refine zw_ite (fun h76 => ?_) (fun h76 => ?_)
                          · refine zw_b (by omega) ?_
                            refine zw_some ?_
                            refine zw_ite (fun h77 => ?_) (fun h77 => ?_)
                            · exfalso; omega
                            · refine zw_bd (zw_eq (zr_85_0 n a0 2 m62) ?_)
                              generalize hmm78 : zu_up m62 a0 4 2 = m78
                              have hIm78 := zi_up hmm78 hIm62 hc0 zb_28_4 (by omega) (by omega)
                              have hFm78 := zfr_up hmm78 hFm62 hc0 rfl
                              have hRNSm78 := zR_NS_fr (zdis_fr (zfr_up hmm78 (zfr_rf [(28, 5)] _) hc0 rfl) rfl) hRNSm62
                              have r79 : 0 ≤ (m78 a0 10) ∧ (m78 a0 10) ≤ 700 := zi_rd hIm78 hc0 zb_28_10
                              have e80 : (m78 a0 10) = (m55 a0 10) := (Eq.trans (zs_ne hmm78 (Or.inr (by decide))) (zs_ne hmm62 (Or.inr (by decide))))
                              generalize hmm81 : zu_up m78 a0 5 (m78 a0 10) = m81
                              have hIm81 := zi_up hmm81 hIm78 hc0 zb_28_5 (by omega) (by omega)
                              have hFm81 := zfr_up hmm81 hFm78 hc0 rfl
                              have hRNSm81 := zR_NS_fr (zdis_fr (zfr_up hmm81 (zfr_rf [(28, 6)] _) hc0 rfl) rfl) hRNSm78
                              refine zw_b (by omega) ?_
                              refine zw_some ?_
                              refine zw_b (by omega) ?_
                              refine zw_some ?_
                              refine zw_ite (fun h82 => ?_) (fun h82 => ?_)
                              · exfalso; omega
                              · refine zw_b (by omega) ?_
                                refine zw_some ?_
                                refine zw_ite (fun h83 => ?_) (fun h83 => ?_)
                                · exfalso; omega
                                · refine zw_b (by omega) ?_
                                  exact zw_some ⟨hIm81, hFm81, hRNSm81, ⟨by omega, by omega⟩⟩
                          · refine zw_b (by omega) ?_
                            refine zw_some ?_
                            refine zw_ite (fun h84 => ?_) (fun h84 => ?_)
                            · generalize hmm85 : zu_up m62 a0 11 (m62 a0 9) = m85
                              have hIm85 := zi_up hmm85 hIm62 hc0 zb_28_11 (by omega) (by omega)
                              have hFm85 := zfr_up hmm85 hFm62 hc0 rfl
                              have hRNSm85 := zR_NS_fr (zdis_fr (zfr_up hmm85 (zfr_rf [(28, 12)] _) hc0 rfl) rfl) hRNSm62
                              refine zw_bd (zw_mono (zk_89 n hIm85 hc0 hRNSm85) (fun v87 m86 hqm86 => ?_))
                              obtain ⟨hIm86, hfm86, hvm86⟩ := hqm86
                              have hFm86 := zfr_tr hFm85 hfm86 rfl
                              obtain ⟨hRNSm86, hvm86⟩ := hvm86
                              have s88 := hRNSm86 a0 hc0
                              refine zw_b (by omega) ?_
                              refine zw_some ?_
                              refine zw_ite (fun h89 => ?_) (fun h89 => ?_)
                              · have r90 : 1 ≤ (m86 a0 17) ∧ (m86 a0 17) ≤ 8 := zi_rd hIm86 hc0 zb_28_17
                                have e91 : (m86 a0 17) = (m33 a0 17) := (Eq.trans (zfr_ap hfm86 hc0 rfl) (Eq.trans (zs_ne hmm85 (Or.inr (by decide))) (Eq.trans (zs_ne hmm62 (Or.inr (by decide))) (Eq.trans (zfr_ap hfm55 hc0 rfl) (zs_ne hmm54 (Or.inr (by decide)))))))
                                have r92 : (-2147483648) ≤ (m86 a0 11) ∧ (m86 a0 11) ≤ 2147483647 := zi_rd hIm86 hc0 zb_28_11
                                have e93 : (m86 a0 11) = (m62 a0 9) := (Eq.trans (zfr_ap hfm86 hc0 rfl) (zs_eq hmm85))
                                have p94 := zmul_bd (x := (m86 a0 17)) (y := (m86 a0 11)) (a := 1) (b := 0) (A := 8) (B := 5) (by omega) (by omega) (by omega) (by omega) (by omega) (by omega)
                                have w95 := zu_w32_id (z := (m86 a0 17) * (m86 a0 11)) (by omega) (by omega)
                                have w96 := zu_w32_id (z := (zu_w32 ((m86 a0 17) * (m86 a0 11))) + (m55 a0 11)) (by omega) (by omega)
                                generalize hmm97 : zu_up m86 a0 11 (zu_w32 ((zu_w32 ((m86 a0 17) * (m86 a0 11))) + (m55 a0 11))) = m97
                                have hIm97 := zi_up hmm97 hIm86 hc0 zb_28_11 (by omega) (by omega)
                                have hFm97 := zfr_up hmm97 hFm86 hc0 rfl
                                have hRNSm97 := zR_NS_fr (zdis_fr (zfr_up hmm97 (zfr_rf [(28, 12)] _) hc0 rfl) rfl) hRNSm86
                                refine zw_b (by omega) ?_
                                refine zw_some ?_
                                refine zw_ite (fun h98 => ?_) (fun h98 => ?_)
                                · have r99 : (-2147483648) ≤ (m97 a0 11) ∧ (m97 a0 11) ≤ 2147483647 := zi_rd hIm97 hc0 zb_28_11
                                  have e100 : (m97 a0 11) = (zu_w32 ((zu_w32 ((m86 a0 17) * (m86 a0 11))) + (m55 a0 11))) := (zs_eq hmm97)
                                  have b101 : 0 ≤ (zu_w32 (18 + (m4 a0 19))) ∧ (zu_w32 (18 + (m4 a0 19))) < 36 := by omega
                                  refine zw_if b101 ?_
                                  generalize hmm102 : zu_up m97 197 (zu_w32 (18 + (m4 a0 19))) (m97 a0 11) = m102
                                  have hIm102 := zi_up hmm102 hIm97 zq_197 (zb_106 _) (by omega) (by omega)
                                  have hFm102 := zfr_up hmm102 hFm97 zq_197 rfl
                                  have hRNSm102 := zR_NS_fr (zdis_fr (zfr_up hmm102 (zfr_rf [(106, 0)] _) zq_197 rfl) rfl) hRNSm97
                                  refine zw_bd (zw_eq (zr_94_0 n a0 0 9 m102) ?_)
                                  have r103 : 0 ≤ (m102 a0 8) ∧ (m102 a0 8) ≤ 6 := zi_rd hIm102 hc0 zb_28_8
                                  refine zw_ite (fun h104 => ?_) (fun h104 => ?_)
                                  · have r105 : (-2147483648) ≤ (m102 a0 9) ∧ (m102 a0 9) ≤ 2147483647 := zi_rd hIm102 hc0 zb_28_9
                                    refine zw_bd (zw_eq (zr_83_0 n (m102 a0 9) 0 9 m102) ?_)
                                    refine zw_ite (fun h106 => ?_) (fun h106 => ?_)
                                    · refine zw_b (by omega) ?_
                                      refine zw_some ?_
                                      refine zw_ite (fun h107 => ?_) (fun h107 => ?_)
                                      · exfalso; omega
                                      · refine zw_bd (zw_eq (zr_85_0 n a0 2 m102) ?_)
                                        generalize hmm108 : zu_up m102 a0 4 2 = m108
                                        have hIm108 := zi_up hmm108 hIm102 hc0 zb_28_4 (by omega) (by omega)
                                        have hFm108 := zfr_up hmm108 hFm102 hc0 rfl
                                        have hRNSm108 := zR_NS_fr (zdis_fr (zfr_up hmm108 (zfr_rf [(28, 5)] _) hc0 rfl) rfl) hRNSm102
                                        have r109 : 0 ≤ (m108 a0 10) ∧ (m108 a0 10) ≤ 700 := zi_rd hIm108 hc0 zb_28_10
                                        generalize hmm110 : zu_up m108 a0 5 (m108 a0 10) = m110
                                        have hIm110 := zi_up hmm110 hIm108 hc0 zb_28_5 (by omega) (by omega)
                                        have hFm110 := zfr_up hmm110 hFm108 hc0 rfl
                                        have hRNSm110 := zR_NS_fr (zdis_fr (zfr_up hmm110 (zfr_rf [(28, 6)] _) hc0 rfl) rfl) hRNSm108
                                        refine zw_b (by omega) ?_
                                        refine zw_some ?_
                                        refine zw_b (by omega) ?_
                                        refine zw_some ?_
                                        refine zw_ite (fun h111 => ?_) (fun h111 => ?_)
                                        · exfalso; omega
                                        · refine zw_b (by omega) ?_
                                          exact zw_some ⟨hIm110, hFm110, hRNSm110, ⟨by omega, by omega⟩⟩
                                    · refine zw_ite (fun h112 => ?_) (fun h112 => ?_)
                                      · refine zw_b (by omega) ?_
                                        refine zw_some ?_
                                        refine zw_ite (fun h113 => ?_) (fun h113 => ?_)
                                        · exfalso; omega
                                        · refine zw_bd (zw_eq (zr_85_0 n a0 2 m102) ?_)
                                          generalize hmm114 : zu_up m102 a0 4 2 = m114
                                          have hIm114 := zi_up hmm114 hIm102 hc0 zb_28_4 (by omega) (by omega)
                                          have hFm114 := zfr_up hmm114 hFm102 hc0 rfl
                                          have hRNSm114 := zR_NS_fr (zdis_fr (zfr_up hmm114 (zfr_rf [(28, 5)] _) hc0 rfl) rfl) hRNSm102
                                          have r115 : 0 ≤ (m114 a0 10) ∧ (m114 a0 10) ≤ 700 := zi_rd hIm114 hc0 zb_28_10
                                          generalize hmm116 : zu_up m114 a0 5 (m114 a0 10) = m116
                                          have hIm116 := zi_up hmm116 hIm114 hc0 zb_28_5 (by omega) (by omega)
                                          have hFm116 := zfr_up hmm116 hFm114 hc0 rfl
                                          have hRNSm116 := zR_NS_fr (zdis_fr (zfr_up hmm116 (zfr_rf [(28, 6)] _) hc0 rfl) rfl) hRNSm114
                                          refine zw_b (by omega) ?_
                                          refine zw_some ?_
                                          refine zw_b (by omega) ?_
                                          refine zw_some ?_
                                          refine zw_ite (fun h117 => ?_) (fun h117 => ?_)
                                          · exfalso; omega
                                          · refine zw_b (by omega) ?_
                                            exact zw_some ⟨hIm116, hFm116, hRNSm116, ⟨by omega, by omega⟩⟩
                                      · refine zw_b (by omega) ?_
                                        refine zw_some ?_
                                        refine zw_ite (fun h118 => ?_) (fun h118 => ?_)
                                        · generalize hmm119 : zu_up m102 a0 11 (m102 a0 9) = m119
                                          have hIm119 := zi_up hmm119 hIm102 hc0 zb_28_11 (by omega) (by omega)
                                          have hFm119 := zfr_up hmm119 hFm102 hc0 rfl
                                          have hRNSm119 := zR_NS_fr (zdis_fr (zfr_up hmm119 (zfr_rf [(28, 12)] _) hc0 rfl) rfl) hRNSm102
                                          refine zw_bd (zw_mono (zk_89 n hIm119 hc0 hRNSm119) (fun v121 m120 hqm120 => ?_))
                                          obtain ⟨hIm120, hfm120, hvm120⟩ := hqm120
                                          have hFm120 := zfr_tr hFm119 hfm120 rfl
                                          obtain ⟨hRNSm120, hvm120⟩ := hvm120
                                          have s122 := hRNSm120 a0 hc0
                                          refine zw_b (by omega) ?_
                                          refine zw_some ?_
                                          refine zw_ite (fun h123 => ?_) (fun h123 => ?_)
                                          · have r124 : (-2147483648) ≤ (m120 a0 11) ∧ (m120 a0 11) ≤ 2147483647 := zi_rd hIm120 hc0 zb_28_11
                                            have e125 : (m120 a0 11) = (m102 a0 9) := (Eq.trans (zfr_ap hfm120 hc0 rfl) (zs_eq hmm119))
                                            have b126 : 0 ≤ (zu_w32 (18 + (m4 a0 19))) ∧ (zu_w32 (18 + (m4 a0 19))) < 36 := by omega
                                            refine zw_if b126 ?_
                                            generalize hmm127 : zu_up m120 199 (zu_w32 (18 + (m4 a0 19))) (m120 a0 11) = m127
                                            have hIm127 := zi_up hmm127 hIm120 zq_199 (zb_108 _) (by omega) (by omega)
                                            have hFm127 := zfr_up hmm127 hFm120 zq_199 rfl
                                            have hRNSm127 := zR_NS_fr (zdis_fr (zfr_up hmm127 (zfr_rf [(108, 0)] _) zq_199 rfl) rfl) hRNSm120
                                            have r128 : 0 ≤ (m127 a0 19) ∧ (m127 a0 19) ≤ 12 := zi_rd hIm127 hc0 zb_28_19
                                            have e129 : (m127 a0 19) = (m4 a0 19) := (Eq.trans (zs_ne hmm127 (Or.inl (zc_ne hc0 zq_199 (by decide)))) (Eq.trans (zfr_ap hfm120 hc0 rfl) (Eq.trans (zs_ne hmm119 (Or.inr (by decide))) (Eq.trans (zs_ne hmm102 (Or.inl (zc_ne hc0 zq_197 (by decide)))) (Eq.trans (zs_ne hmm97 (Or.inr (by decide))) (Eq.trans (zfr_ap hfm86 hc0 rfl) (Eq.trans (zs_ne hmm85 (Or.inr (by decide))) (Eq.trans (zs_ne hmm62 (Or.inr (by decide))) (Eq.trans (zfr_ap hfm55 hc0 rfl) (Eq.trans (zs_ne hmm54 (Or.inr (by decide))) (Eq.trans (zs_ne hmm33 (Or.inr (by decide))) (Eq.trans (zs_ne hmm32 (Or.inl (zc_ne hc0 zq_198 (by decide)))) (Eq.trans (zs_ne hmm27 (Or.inr (by decide))) (zfr_ap hfm24 hc0 rfl))))))))))))))
                                            have w130 := zu_w32_id (z := (m127 a0 19) + 1) (by omega) (by omega)
                                            generalize hmm131 : zu_up m127 a0 19 (zu_w32 ((m127 a0 19) + 1)) = m131
                                            have hIm131 := zi_up hmm131 hIm127 hc0 zb_28_19 (by omega) (by omega)
                                            have hFm131 := zfr_up hmm131 hFm127 hc0 rfl
                                            have hRNSm131 := zR_NS_fr (zdis_fr (zfr_up hmm131 (zfr_rf [(28, 20)] _) hc0 rfl) rfl) hRNSm127
                                            refine zw_b (by omega) ?_
                                            exact zw_some ⟨hIm131, hFm131, hRNSm131, ⟨by omega, by omega⟩⟩
                                          · exfalso; omega
                                        · exfalso; omega
                                  · refine zw_bd (zw_eq (zr_85_0 n a0 1 m102) ?_)
                                    generalize hmm132 : zu_up m102 a0 4 1 = m132
                                    have hIm132 := zi_up hmm132 hIm102 hc0 zb_28_4 (by omega) (by omega)
                                    have hFm132 := zfr_up hmm132 hFm102 hc0 rfl
                                    have hRNSm132 := zR_NS_fr (zdis_fr (zfr_up hmm132 (zfr_rf [(28, 5)] _) hc0 rfl) rfl) hRNSm102
                                    have r133 : 0 ≤ (m132 a0 10) ∧ (m132 a0 10) ≤ 700 := zi_rd hIm132 hc0 zb_28_10
                                    generalize hmm134 : zu_up m132 a0 5 (m132 a0 10) = m134
                                    have hIm134 := zi_up hmm134 hIm132 hc0 zb_28_5 (by omega) (by omega)
                                    have hFm134 := zfr_up hmm134 hFm132 hc0 rfl
                                    have hRNSm134 := zR_NS_fr (zdis_fr (zfr_up hmm134 (zfr_rf [(28, 6)] _) hc0 rfl) rfl) hRNSm132
                                    refine zw_b (by omega) ?_
                                    refine zw_some ?_
                                    refine zw_b (by omega) ?_
                                    refine zw_some ?_
                                    refine zw_ite (fun h135 => ?_) (fun h135 => ?_)
                                    · exfalso; omega
                                    · refine zw_b (by omega) ?_
                                      exact zw_some ⟨hIm134, hFm134, hRNSm134, ⟨by omega, by omega⟩⟩
                                · exfalso; omega
                              · exfalso; omega
                            · exfalso; omega
                      · refine zw_bd (zw_eq (zr_85_0 n a0 1 m62) ?_)
                        generalize hmm136 : zu_up m62 a0 4 1 = m136
                        have hIm136 := zi_up hmm136 hIm62 hc0 zb_28_4 (by omega) (by omega)
                        have hFm136 := zfr_up hmm136 hFm62 hc0 rfl
                        have hRNSm136 := zR_NS_fr (zdis_fr (zfr_up hmm136 (zfr_rf [(28, 5)] _) hc0 rfl) rfl) hRNSm62
                        have r137 : 0 ≤ (m136 a0 10) ∧ (m136 a0 10) ≤ 700 := zi_rd hIm136 hc0 zb_28_10
                        have e138 : (m136 a0 10) = (m55 a0 10) := (Eq.trans (zs_ne hmm136 (Or.inr (by decide))) (zs_ne hmm62 (Or.inr (by decide))))
                        generalize hmm139 : zu_up m136 a0 5 (m136 a0 10) = m139
                        have hIm139 := zi_up hmm139 hIm136 hc0 zb_28_5 (by omega) (by omega)
                        have hFm139 := zfr_up hmm139 hFm136 hc0 rfl
                        have hRNSm139 := zR_NS_fr (zdis_fr (zfr_up hmm139 (zfr_rf [(28, 6)] _) hc0 rfl) rfl) hRNSm136
                        refine zw_b (by omega) ?_
                        refine zw_some ?_
                        refine zw_b (by omega) ?_
                        refine zw_some ?_
                        refine zw_ite (fun h140 => ?_) (fun h140 => ?_)
                        · exfalso; omega
                        · refine zw_b (by omega) ?_
                          refine zw_some ?_
                          refine zw_ite (fun h141 => ?_) (fun h141 => ?_)
                          · exfalso; omega
                          · refine zw_b (by omega) ?_
                            exact zw_some ⟨hIm139, hFm139, hRNSm139, ⟨by omega, by omega⟩⟩
                    · exfalso; omega
                  · exfalso; omega
            · refine zw_bd (zw_eq (zr_85_0 n a0 1 m33) ?_)
              generalize hmm142 : zu_up m33 a0 4 1 = m142
              have hIm142 := zi_up hmm142 hIm33 hc0 zb_28_4 (by omega) (by omega)
              have hFm142 := zfr_up hmm142 hFm33 hc0 rfl
              have hRNSm142 := zR_NS_fr (zdis_fr (zfr_up hmm142 (zfr_rf [(28, 5)] _) hc0 rfl) rfl) hRNSm33
              have r143 : 0 ≤ (m142 a0 10) ∧ (m142 a0 10) ≤ 700 := zi_rd hIm142 hc0 zb_28_10
              generalize hmm144 : zu_up m142 a0 5 (m142 a0 10) = m144
              have hIm144 := zi_up hmm144 hIm142 hc0 zb_28_5 (by omega) (by omega)
              have hFm144 := zfr_up hmm144 hFm142 hc0 rfl
              have hRNSm144 := zR_NS_fr (zdis_fr (zfr_up hmm144 (zfr_rf [(28, 6)] _) hc0 rfl) rfl) hRNSm142
              refine zw_b (by omega) ?_
              refine zw_some ?_
              refine zw_b (by omega) ?_
              refine zw_some ?_
              refine zw_ite (fun h145 => ?_) (fun h145 => ?_)
              · exfalso; omega
              · refine zw_b (by omega) ?_
                refine zw_some ?_
                refine zw_ite (fun h146 => ?_) (fun h146 => ?_)
                · exfalso; omega
                · refine zw_b (by omega) ?_
                  exact zw_some ⟨hIm144, hFm144, hRNSm144, ⟨by omega, by omega⟩⟩
          · exfalso; omega
        · refine zw_bd (zw_eq (zr_85_0 n a0 1 m4) ?_)
          generalize hmm147 : zu_up m4 a0 4 1 = m147
          have hIm147 := zi_up hmm147 hIm4 hc0 zb_28_4 (by omega) (by omega)
          have hFm147 := zfr_up hmm147 hFm4 hc0 rfl
          have hRNSm147 := zR_NS_fr (zdis_fr (zfr_up hmm147 (zfr_rf [(28, 5)] _) hc0 rfl) rfl) hRNSm4
          have r148 : 0 ≤ (m147 a0 10) ∧ (m147 a0 10) ≤ 700 := zi_rd hIm147 hc0 zb_28_10
          generalize hmm149 : zu_up m147 a0 5 (m147 a0 10) = m149
          have hIm149 := zi_up hmm149 hIm147 hc0 zb_28_5 (by omega) (by omega)
          have hFm149 := zfr_up hmm149 hFm147 hc0 rfl
          have hRNSm149 := zR_NS_fr (zdis_fr (zfr_up hmm149 (zfr_rf [(28, 6)] _) hc0 rfl) rfl) hRNSm147
          refine zw_b (by omega) ?_
          refine zw_some ?_
          refine zw_b (by omega) ?_
          refine zw_some ?_
          refine zw_ite (fun h150 => ?_) (fun h150 => ?_)
          · exfalso; omega
          · refine zw_b (by omega) ?_
            exact zw_some ⟨hIm149, hFm149, hRNSm149, ⟨by omega, by omega⟩⟩
  · refine zw_bd (zw_eq (zr_85_0 n a0 2 m0) ?_)
    generalize hmm151 : zu_up m0 a0 4 2 = m151
    have hIm151 := zi_up hmm151 hIm0 hc0 zb_28_4 (by omega) (by omega)
    have hFm151 := zfr_up hmm151 hFm0 hc0 rfl
    have hRNSm151 := zR_NS_fr (zdis_fr (zfr_up hmm151 (zfr_rf [(28, 5)] _) hc0 rfl) rfl) hRNSm0
    have r152 : 0 ≤ (m151 a0 10) ∧ (m151 a0 10) ≤ 700 := zi_rd hIm151 hc0 zb_28_10
    generalize hmm153 : zu_up m151 a0 5 (m151 a0 10) = m153
    have hIm153 := zi_up hmm153 hIm151 hc0 zb_28_5 (by omega) (by omega)
    have hFm153 := zfr_up hmm153 hFm151 hc0 rfl
    have hRNSm153 := zR_NS_fr (zdis_fr (zfr_up hmm153 (zfr_rf [(28, 6)] _) hc0 rfl) rfl) hRNSm151
    refine zw_b (by omega) ?_
    refine zw_some ?_
    refine zw_b (by omega) ?_
    exact zw_some ⟨hIm153, hFm153, hRNSm153, ⟨by omega, by omega⟩⟩
set_option maxHeartbeats 4000000 in
theorem zk_102 (n : Nat) {a0 : Int} {m0 : zu_m} (hIm0 : zi_I m0) (hc0 : zcls a0 = 28)   (he0 : 1 ≤ m0 a0 8 ∧ m0 a0 8 ≤ 1) (he1 : 5 ≤ m0 a0 9 ∧ m0 a0 9 ≤ 5)  (hRNSm0 : zR_NS m0) : zw (zu_call (zt_T n) 102 [(40, a0)] m0) (fun v m => zi_I m ∧ zfr [(28, 5), (28, 6), (28, 8), (28, 9), (28, 10), (28, 11), (28, 12), (28, 21), (28, 24), (28, 43), (109, 0), (110, 0), (111, 0), (112, 0), (113, 0)] m0 m ∧ zR_NS m ∧ (0 ≤ v ∧ v ≤ 1)) := by
  have hFm0 : zfr [(28, 5), (28, 6), (28, 8), (28, 9), (28, 10), (28, 11), (28, 12), (28, 21), (28, 24), (28, 43), (109, 0), (110, 0), (111, 0), (112, 0), (113, 0)] m0 m0 := zfr_rf _ _
  have s1 := hRNSm0 a0 hc0
  refine zw_eq (zr_102_0 n a0 m0) ?_
  have r2 : 0 ≤ (m0 a0 20) ∧ (m0 a0 20) ≤ 4 := zi_rd hIm0 hc0 zb_28_20
  refine zw_ite (fun h3 => ?_) (fun h3 => ?_)
  · refine zw_bd (zw_mono (zk_89 n hIm0 hc0 hRNSm0) (fun v5 m4 hqm4 => ?_))
    obtain ⟨hIm4, hfm4, hvm4⟩ := hqm4
    have hFm4 := zfr_tr hFm0 hfm4 rfl
    obtain ⟨hRNSm4, hvm4⟩ := hvm4
    have s6 := hRNSm4 a0 hc0
    have r7 : 0 ≤ (m4 a0 8) ∧ (m4 a0 8) ≤ 6 := zi_rd hIm4 hc0 zb_28_8
    refine zw_ite (fun h8 => ?_) (fun h8 => ?_)
    · have r9 : 0 ≤ (m4 a0 20) ∧ (m4 a0 20) ≤ 4 := zi_rd hIm4 hc0 zb_28_20
      have e10 : (m4 a0 20) = (m0 a0 20) := (zfr_ap hfm4 hc0 rfl)
      have r11 : (-2147483648) ≤ (m4 a0 9) ∧ (m4 a0 9) ≤ 2147483647 := zi_rd hIm4 hc0 zb_28_9
      refine zw_bd (zw_mono (zk_95 n hIm4 zq_200 ⟨by omega, by omega⟩ ⟨by omega, by omega⟩ ⟨by omega, by omega⟩) (fun v13 m12 hqm12 => ?_))
      obtain ⟨hIm12, hfm12, hvm12⟩ := hqm12
      have hFm12 := zfr_tr hFm4 hfm12 rfl
      have hRNSm12 := zR_NS_fr (zdis_fr hfm12 rfl) hRNSm4
      have s14 := hRNSm12 a0 hc0
      refine zw_ite (fun h15 => ?_) (fun h15 => ?_)
      · have r16 : 0 ≤ (m12 a0 20) ∧ (m12 a0 20) ≤ 4 := zi_rd hIm12 hc0 zb_28_20
        have e17 : (m12 a0 20) = (m4 a0 20) := (zfr_ap hfm12 hc0 rfl)
        have w18 := zu_w32_id (z := 4 + (m12 a0 20)) (by omega) (by omega)
        have r19 : (-2147483648) ≤ (m12 a0 9) ∧ (m12 a0 9) ≤ 2147483647 := zi_rd hIm12 hc0 zb_28_9
        have e20 : (m12 a0 9) = (m4 a0 9) := (zfr_ap hfm12 hc0 rfl)
        have b21 : 0 ≤ (zu_w32 (4 + (m12 a0 20))) ∧ (zu_w32 (4 + (m12 a0 20))) < 8 := by omega
        refine zw_if b21 ?_
        generalize hmm22 : zu_up m12 200 (zu_w32 (4 + (m12 a0 20))) (m12 a0 9) = m22
        have hIm22 := zi_up hmm22 hIm12 zq_200 (zb_109 _) (by omega) (by omega)
        have hFm22 := zfr_up hmm22 hFm12 zq_200 rfl
        have hRNSm22 := zR_NS_fr (zdis_fr (zfr_up hmm22 (zfr_rf [(109, 0)] _) zq_200 rfl) rfl) hRNSm12
        refine zw_bd (zw_mono (zk_89 n hIm22 hc0 hRNSm22) (fun v24 m23 hqm23 => ?_))
        obtain ⟨hIm23, hfm23, hvm23⟩ := hqm23
        have hFm23 := zfr_tr hFm22 hfm23 rfl
        obtain ⟨hRNSm23, hvm23⟩ := hvm23
        have s25 := hRNSm23 a0 hc0
        refine zw_bd (zw_eq (zr_96_0 n a0 m23) ?_)
        refine zw_b (by omega) ?_
        generalize hmm26 : zu_up m23 a0 23 1 = m26
        have hIm26 := zi_up hmm26 hIm23 hc0 zb_28_23 (by omega) (by omega)
        have hFm26 := zfr_up hmm26 hFm23 hc0 rfl
        have hRNSm26 := zR_NS_fr (zdis_fr (zfr_up hmm26 (zfr_rf [(28, 24)] _) hc0 rfl) rfl) hRNSm23
        have r27 : 1 ≤ (m26 a0 17) ∧ (m26 a0 17) ≤ 8 := zi_rd hIm26 hc0 zb_28_17
        have w28 := zu_w32_id (z := (m26 a0 17) - 1) (by omega) (by omega)
        refine zw_bd (zw_eq (zr_94_0 n a0 0 (zu_w32 ((m26 a0 17) - 1)) m26) ?_)
        have r29 : 0 ≤ (m26 a0 8) ∧ (m26 a0 8) ≤ 6 := zi_rd hIm26 hc0 zb_28_8
        refine zw_ite (fun h30 => ?_) (fun h30 => ?_)
        · have r31 : (-2147483648) ≤ (m26 a0 9) ∧ (m26 a0 9) ≤ 2147483647 := zi_rd hIm26 hc0 zb_28_9
          refine zw_bd (zw_eq (zr_83_0 n (m26 a0 9) 0 (zu_w32 ((m26 a0 17) - 1)) m26) ?_)
          refine zw_ite (fun h32 => ?_) (fun h32 => ?_)
          · refine zw_b (by omega) ?_
            refine zw_some ?_
            refine zw_ite (fun h33 => ?_) (fun h33 => ?_)
            · exfalso; omega
            · refine zw_bd (zw_eq (zr_85_0 n a0 2 m26) ?_)
              generalize hmm34 : zu_up m26 a0 4 2 = m34
              have hIm34 := zi_up hmm34 hIm26 hc0 zb_28_4 (by omega) (by omega)
              have hFm34 := zfr_up hmm34 hFm26 hc0 rfl
              have hRNSm34 := zR_NS_fr (zdis_fr (zfr_up hmm34 (zfr_rf [(28, 5)] _) hc0 rfl) rfl) hRNSm26
              have r35 : 0 ≤ (m34 a0 10) ∧ (m34 a0 10) ≤ 700 := zi_rd hIm34 hc0 zb_28_10
              generalize hmm36 : zu_up m34 a0 5 (m34 a0 10) = m36
              have hIm36 := zi_up hmm36 hIm34 hc0 zb_28_5 (by omega) (by omega)
              have hFm36 := zfr_up hmm36 hFm34 hc0 rfl
              have hRNSm36 := zR_NS_fr (zdis_fr (zfr_up hmm36 (zfr_rf [(28, 6)] _) hc0 rfl) rfl) hRNSm34
              refine zw_b (by omega) ?_
              refine zw_some ?_
              refine zw_b (by omega) ?_
              refine zw_some ?_
              refine zw_ite (fun h37 => ?_) (fun h37 => ?_)
              · exfalso; omega
              · refine zw_b (by omega) ?_
                refine zw_some ?_
                refine zw_ite (fun h38 => ?_) (fun h38 => ?_)
                · exfalso; omega
                · refine zw_b (by omega) ?_
                  exact zw_some ⟨hIm36, hFm36, hRNSm36, ⟨by omega, by omega⟩⟩
          · refine zw_ite (fun h39 => ?_) (fun h39 => ?_)
            · refine zw_b (by omega) ?_
              refine zw_some ?_
              refine zw_ite (fun h40 => ?_) (fun h40 => ?_)
              · exfalso; omega
              · refine zw_bd (zw_eq (zr_85_0 n a0 2 m26) ?_)
                generalize hmm41 : zu_up m26 a0 4 2 = m41
                have hIm41 := zi_up hmm41 hIm26 hc0 zb_28_4 (by omega) (by omega)
                have hFm41 := zfr_up hmm41 hFm26 hc0 rfl
                have hRNSm41 := zR_NS_fr (zdis_fr (zfr_up hmm41 (zfr_rf [(28, 5)] _) hc0 rfl) rfl) hRNSm26
                have r42 : 0 ≤ (m41 a0 10) ∧ (m41 a0 10) ≤ 700 := zi_rd hIm41 hc0 zb_28_10
                generalize hmm43 : zu_up m41 a0 5 (m41 a0 10) = m43
                have hIm43 := zi_up hmm43 hIm41 hc0 zb_28_5 (by omega) (by omega)
                have hFm43 := zfr_up hmm43 hFm41 hc0 rfl
                have hRNSm43 := zR_NS_fr (zdis_fr (zfr_up hmm43 (zfr_rf [(28, 6)] _) hc0 rfl) rfl) hRNSm41
                refine zw_b (by omega) ?_
                refine zw_some ?_
                refine zw_b (by omega) ?_
                refine zw_some ?_
                refine zw_ite (fun h44 => ?_) (fun h44 => ?_)
                · exfalso; omega
                · refine zw_b (by omega) ?_
                  refine zw_some ?_
                  refine zw_ite (fun h45 => ?_) (fun h45 => ?_)
                  · exfalso; omega
                  · refine zw_b (by omega) ?_
                    exact zw_some ⟨hIm43, hFm43, hRNSm43, ⟨by omega, by omega⟩⟩
            · refine zw_b (by omega) ?_
              refine zw_some ?_
              refine zw_ite (fun h46 => ?_) (fun h46 => ?_)
              · generalize hmm47 : zu_up m26 a0 11 (m26 a0 9) = m47
                have hIm47 := zi_up hmm47 hIm26 hc0 zb_28_11 (by omega) (by omega)
                have hFm47 := zfr_up hmm47 hFm26 hc0 rfl
                have hRNSm47 := zR_NS_fr (zdis_fr (zfr_up hmm47 (zfr_rf [(28, 12)] _) hc0 rfl) rfl) hRNSm26
                refine zw_bd (zw_mono (zk_89 n hIm47 hc0 hRNSm47) (fun v49 m48 hqm48 => ?_))
                obtain ⟨hIm48, hfm48, hvm48⟩ := hqm48
                have hFm48 := zfr_tr hFm47 hfm48 rfl
                obtain ⟨hRNSm48, hvm48⟩ := hvm48
                have s50 := hRNSm48 a0 hc0
                refine zw_b (by omega) ?_
                refine zw_some ?_
                refine zw_ite (fun h51 => ?_) (fun h51 => ?_)
                · have r52 : (-2147483648) ≤ (m48 a0 11) ∧ (m48 a0 11) ≤ 2147483647 := zi_rd hIm48 hc0 zb_28_11
                  have e53 : (m48 a0 11) = (m26 a0 9) := (Eq.trans (zfr_ap hfm48 hc0 rfl) (zs_eq hmm47))
                  have r54 : 0 ≤ (m48 a0 10) ∧ (m48 a0 10) ≤ 700 := zi_rd hIm48 hc0 zb_28_10
                  generalize hmm55 : zu_up m48 a0 42 (m48 a0 10) = m55
                  have hIm55 := zi_up hmm55 hIm48 hc0 zb_28_42 (by omega) (by omega)
                  have hFm55 := zfr_up hmm55 hFm48 hc0 rfl
                  have hRNSm55 := zR_NS_fr (zdis_fr (zfr_up hmm55 (zfr_rf [(28, 43)] _) hc0 rfl) rfl) hRNSm48
                  have r56 : 1 ≤ (m55 a0 18) ∧ (m55 a0 18) ≤ 6 := zi_rd hIm55 hc0 zb_28_18
                  have w57 := zu_w32_id (z := (m55 a0 18) - 1) (by omega) (by omega)
                  refine zw_bd (zw_eq (zr_94_0 n a0 0 (zu_w32 ((m55 a0 18) - 1)) m55) ?_)
                  have r58 : 0 ≤ (m55 a0 8) ∧ (m55 a0 8) ≤ 6 := zi_rd hIm55 hc0 zb_28_8
                  refine zw_ite (fun h59 => ?_) (fun h59 => ?_)
                  · have r60 : (-2147483648) ≤ (m55 a0 9) ∧ (m55 a0 9) ≤ 2147483647 := zi_rd hIm55 hc0 zb_28_9
                    refine zw_bd (zw_eq (zr_83_0 n (m55 a0 9) 0 (zu_w32 ((m55 a0 18) - 1)) m55) ?_)
                    refine zw_ite (fun h61 => ?_) (fun h61 => ?_)
                    · refine zw_b (by omega) ?_
                      refine zw_some ?_
                      refine zw_ite (fun h62 => ?_) (fun h62 => ?_)
                      · exfalso; omega
                      · refine zw_bd (zw_eq (zr_85_0 n a0 2 m55) ?_)
                        generalize hmm63 : zu_up m55 a0 4 2 = m63
                        have hIm63 := zi_up hmm63 hIm55 hc0 zb_28_4 (by omega) (by omega)
                        have hFm63 := zfr_up hmm63 hFm55 hc0 rfl
                        have hRNSm63 := zR_NS_fr (zdis_fr (zfr_up hmm63 (zfr_rf [(28, 5)] _) hc0 rfl) rfl) hRNSm55
                        have r64 : 0 ≤ (m63 a0 10) ∧ (m63 a0 10) ≤ 700 := zi_rd hIm63 hc0 zb_28_10
                        have e65 : (m63 a0 10) = (m48 a0 10) := (Eq.trans (zs_ne hmm63 (Or.inr (by decide))) (zs_ne hmm55 (Or.inr (by decide))))
                        generalize hmm66 : zu_up m63 a0 5 (m63 a0 10) = m66
                        have hIm66 := zi_up hmm66 hIm63 hc0 zb_28_5 (by omega) (by omega)
                        have hFm66 := zfr_up hmm66 hFm63 hc0 rfl
                        have hRNSm66 := zR_NS_fr (zdis_fr (zfr_up hmm66 (zfr_rf [(28, 6)] _) hc0 rfl) rfl) hRNSm63
                        refine zw_b (by omega) ?_
                        refine zw_some ?_
                        refine zw_b (by omega) ?_
                        refine zw_some ?_
                        refine zw_ite (fun h67 => ?_) (fun h67 => ?_)
                        · exfalso; omega
                        · refine zw_b (by omega) ?_
                          refine zw_some ?_
                          refine zw_ite (fun h68 => ?_) (fun h68 => ?_)
                          · exfalso; omega
                          · refine zw_b (by omega) ?_
                            exact zw_some ⟨hIm66, hFm66, hRNSm66, ⟨by omega, by omega⟩⟩
                    · refine zw_ite (fun h69 => ?_) (fun h69 => ?_)
                      · refine zw_b (by omega) ?_
                        refine zw_some ?_
                        refine zw_ite (fun h70 => ?_) (fun h70 => ?_)
                        · exfalso; omega
                        · refine zw_bd (zw_eq (zr_85_0 n a0 2 m55) ?_)
                          generalize hmm71 : zu_up m55 a0 4 2 = m71
                          have hIm71 := zi_up hmm71 hIm55 hc0 zb_28_4 (by omega) (by omega)
                          have hFm71 := zfr_up hmm71 hFm55 hc0 rfl
                          have hRNSm71 := zR_NS_fr (zdis_fr (zfr_up hmm71 (zfr_rf [(28, 5)] _) hc0 rfl) rfl) hRNSm55
                          have r72 : 0 ≤ (m71 a0 10) ∧ (m71 a0 10) ≤ 700 := zi_rd hIm71 hc0 zb_28_10
                          have e73 : (m71 a0 10) = (m48 a0 10) := (Eq.trans (zs_ne hmm71 (Or.inr (by decide))) (zs_ne hmm55 (Or.inr (by decide))))
                          generalize hmm74 : zu_up m71 a0 5 (m71 a0 10) = m74
                          have hIm74 := zi_up hmm74 hIm71 hc0 zb_28_5 (by omega) (by omega)
                          have hFm74 := zfr_up hmm74 hFm71 hc0 rfl
                          have hRNSm74 := zR_NS_fr (zdis_fr (zfr_up hmm74 (zfr_rf [(28, 6)] _) hc0 rfl) rfl) hRNSm71
                          refine zw_b (by omega) ?_
                          refine zw_some ?_
                          refine zw_b (by omega) ?_
                          refine zw_some ?_
                          refine zw_ite (fun h75 => ?_) (fun h75 => ?_)
                          · exfalso; omega
                          · refine zw_b (by omega) ?_
                            refine zw_some ?_
                            refine zw_ite (fun h76 => ?_) (fun h76 => ?_)
                            · exfalso; omega
                            · refine zw_b (by omega) ?_
                              exact zw_some ⟨hIm74, hFm74, hRNSm74, ⟨by omega, by omega⟩⟩
                      · refine zw_b (by omega) ?_
                        refine zw_some ?_
                        refine zw_ite (fun h77 => ?_) (fun h77 => ?_)
                        · generalize hmm78 : zu_up m55 a0 11 (m55 a0 9) = m78
                          have hIm78 := zi_up hmm78 hIm55 hc0 zb_28_11 (by omega) (by omega)
                          have hFm78 := zfr_up hmm78 hFm55 hc0 rfl
                          have hRNSm78 := zR_NS_fr (zdis_fr (zfr_up hmm78 (zfr_rf [(28, 12)] _) hc0 rfl) rfl) hRNSm55
                          refine zw_bd (zw_mono (zk_89 n hIm78 hc0 hRNSm78) (fun v80 m79 hqm79 => ?_))
                          obtain ⟨hIm79, hfm79, hvm79⟩ := hqm79
                          have hFm79 := zfr_tr hFm78 hfm79 rfl
                          obtain ⟨hRNSm79, hvm79⟩ := hvm79
                          have s81 := hRNSm79 a0 hc0
                          refine zw_b (by omega) ?_
                          refine zw_some ?_
                          refine zw_ite (fun h82 => ?_) (fun h82 => ?_)
                          · have r83 : 1 ≤ (m79 a0 17) ∧ (m79 a0 17) ≤ 8 := zi_rd hIm79 hc0 zb_28_17
                            have e84 : (m79 a0 17) = (m26 a0 17) := (Eq.trans (zfr_ap hfm79 hc0 rfl) (Eq.trans (zs_ne hmm78 (Or.inr (by decide))) (Eq.trans (zs_ne hmm55 (Or.inr (by decide))) (Eq.trans (zfr_ap hfm48 hc0 rfl) (zs_ne hmm47 (Or.inr (by decide)))))))
                            have r85 : (-2147483648) ≤ (m79 a0 11) ∧ (m79 a0 11) ≤ 2147483647 := zi_rd hIm79 hc0 zb_28_11
                            have e86 : (m79 a0 11) = (m55 a0 9) := (Eq.trans (zfr_ap hfm79 hc0 rfl) (zs_eq hmm78))
                            have p87 := zmul_bd (x := (m79 a0 17)) (y := (m79 a0 11)) (a := 1) (b := 0) (A := 8) (B := 5) (by omega) (by omega) (by omega) (by omega) (by omega) (by omega)
                            have w88 := zu_w32_id (z := (m79 a0 17) * (m79 a0 11)) (by omega) (by omega)
                            have w89 := zu_w32_id (z := (zu_w32 ((m79 a0 17) * (m79 a0 11))) + (m48 a0 11)) (by omega) (by omega)
                            generalize hmm90 : zu_up m79 a0 11 (zu_w32 ((zu_w32 ((m79 a0 17) * (m79 a0 11))) + (m48 a0 11))) = m90
                            have hIm90 := zi_up hmm90 hIm79 hc0 zb_28_11 (by omega) (by omega)
                            have hFm90 := zfr_up hmm90 hFm79 hc0 rfl
                            have hRNSm90 := zR_NS_fr (zdis_fr (zfr_up hmm90 (zfr_rf [(28, 12)] _) hc0 rfl) rfl) hRNSm79
                            refine zw_b (by omega) ?_
                            refine zw_some ?_
                            refine zw_ite (fun h91 => ?_) (fun h91 => ?_)
                            · have r92 : (-2147483648) ≤ (m90 a0 11) ∧ (m90 a0 11) ≤ 2147483647 := zi_rd hIm90 hc0 zb_28_11
                              have e93 : (m90 a0 11) = (zu_w32 ((zu_w32 ((m79 a0 17) * (m79 a0 11))) + (m48 a0 11))) := (zs_eq hmm90)
                              have b94 : 0 ≤ (zu_w32 (4 + (m12 a0 20))) ∧ (zu_w32 (4 + (m12 a0 20))) < 8 := by omega
                              refine zw_if b94 ?_
                              generalize hmm95 : zu_up m90 201 (zu_w32 (4 + (m12 a0 20))) (m90 a0 11) = m95
                              have hIm95 := zi_up hmm95 hIm90 zq_201 (zb_110 _) (by omega) (by omega)
                              have hFm95 := zfr_up hmm95 hFm90 zq_201 rfl
                              have hRNSm95 := zR_NS_fr (zdis_fr (zfr_up hmm95 (zfr_rf [(110, 0)] _) zq_201 rfl) rfl) hRNSm90
                              refine zw_bd (zw_eq (zr_94_0 n a0 1 15 m95) ?_)
                              have r96 : 0 ≤ (m95 a0 8) ∧ (m95 a0 8) ≤ 6 := zi_rd hIm95 hc0 zb_28_8
                              refine zw_ite (fun h97 => ?_) (fun h97 => ?_)
                              · have r98 : (-2147483648) ≤ (m95 a0 9) ∧ (m95 a0 9) ≤ 2147483647 := zi_rd hIm95 hc0 zb_28_9
                                refine zw_bd (zw_eq (zr_83_0 n (m95 a0 9) 1 15 m95) ?_)
                                refine zw_ite (fun h99 => ?_) (fun h99 => ?_)
                                · refine zw_b (by omega) ?_
                                  refine zw_some ?_
                                  refine zw_ite (fun h100 => ?_) (fun h100 => ?_)
                                  · exfalso; omega
                                  · refine zw_bd (zw_eq (zr_85_0 n a0 2 m95) ?_)
                                    generalize hmm101 : zu_up m95 a0 4 2 = m101
                                    have hIm101 := zi_up hmm101 hIm95 hc0 zb_28_4 (by omega) (by omega)
                                    have hFm101 := zfr_up hmm101 hFm95 hc0 rfl
                                    have hRNSm101 := zR_NS_fr (zdis_fr (zfr_up hmm101 (zfr_rf [(28, 5)] _) hc0 rfl) rfl) hRNSm95
                                    have r102 : 0 ≤ (m101 a0 10) ∧ (m101 a0 10) ≤ 700 := zi_rd hIm101 hc0 zb_28_10
                                    generalize hmm103 : zu_up m101 a0 5 (m101 a0 10) = m103
                                    have hIm103 := zi_up hmm103 hIm101 hc0 zb_28_5 (by omega) (by omega)
                                    have hFm103 := zfr_up hmm103 hFm101 hc0 rfl
                                    have hRNSm103 := zR_NS_fr (zdis_fr (zfr_up hmm103 (zfr_rf [(28, 6)] _) hc0 rfl) rfl) hRNSm101
                                    refine zw_b (by omega) ?_
                                    refine zw_some ?_
                                    refine zw_b (by omega) ?_
                                    refine zw_some ?_
                                    refine zw_ite (fun h104 => ?_) (fun h104 => ?_)
                                    · exfalso; omega
                                    · refine zw_b (by omega) ?_
                                      exact zw_some ⟨hIm103, hFm103, hRNSm103, ⟨by omega, by omega⟩⟩
                                · refine zw_ite (fun h105 => ?_) (fun h105 => ?_)
                                  · refine zw_b (by omega) ?_
                                    refine zw_some ?_
                                    refine zw_ite (fun h106 => ?_) (fun h106 => ?_)
                                    · exfalso; omega
                                    · refine zw_bd (zw_eq (zr_85_0 n a0 2 m95) ?_)
                                      generalize hmm107 : zu_up m95 a0 4 2 = m107
                                      have hIm107 := zi_up hmm107 hIm95 hc0 zb_28_4 (by omega) (by omega)
                                      have hFm107 := zfr_up hmm107 hFm95 hc0 rfl
                                      have hRNSm107 := zR_NS_fr (zdis_fr (zfr_up hmm107 (zfr_rf [(28, 5)] _) hc0 rfl) rfl) hRNSm95
                                      have r108 : 0 ≤ (m107 a0 10) ∧ (m107 a0 10) ≤ 700 := zi_rd hIm107 hc0 zb_28_10
                                      generalize hmm109 : zu_up m107 a0 5 (m107 a0 10) = m109
                                      have hIm109 := zi_up hmm109 hIm107 hc0 zb_28_5 (by omega) (by omega)
                                      have hFm109 := zfr_up hmm109 hFm107 hc0 rfl
                                      have hRNSm109 := zR_NS_fr (zdis_fr (zfr_up hmm109 (zfr_rf [(28, 6)] _) hc0 rfl) rfl) hRNSm107
                                      refine zw_b (by omega) ?_
                                      refine zw_some ?_
                                      refine zw_b (by omega) ?_
                                      refine zw_some ?_
                                      refine zw_ite (fun h110 => ?_) (fun h110 => ?_)
                                      · exfalso; omega
                                      · refine zw_b (by omega) ?_
                                        exact zw_some ⟨hIm109, hFm109, hRNSm109, ⟨by omega, by omega⟩⟩
                                  · refine zw_b (by omega) ?_
                                    refine zw_some ?_
                                    refine zw_ite (fun h111 => ?_) (fun h111 => ?_)
                                    · generalize hmm112 : zu_up m95 a0 11 (m95 a0 9) = m112
                                      have hIm112 := zi_up hmm112 hIm95 hc0 zb_28_11 (by omega) (by omega)
                                      have hFm112 := zfr_up hmm112 hFm95 hc0 rfl
                                      have hRNSm112 := zR_NS_fr (zdis_fr (zfr_up hmm112 (zfr_rf [(28, 12)] _) hc0 rfl) rfl) hRNSm95
                                      refine zw_bd (zw_mono (zk_89 n hIm112 hc0 hRNSm112) (fun v114 m113 hqm113 => ?_))
                                      obtain ⟨hIm113, hfm113, hvm113⟩ := hqm113
                                      have hFm113 := zfr_tr hFm112 hfm113 rfl
                                      obtain ⟨hRNSm113, hvm113⟩ := hvm113
                                      have s115 := hRNSm113 a0 hc0
                                      refine zw_b (by omega) ?_
                                      refine zw_some ?_
                                      refine zw_ite (fun h116 => ?_) (fun h116 => ?_)
                                      · have r117 : (-2147483648) ≤ (m113 a0 11) ∧ (m113 a0 11) ≤ 2147483647 := zi_rd hIm113 hc0 zb_28_11
                                        have e118 : (m113 a0 11) = (m95 a0 9) := (Eq.trans (zfr_ap hfm113 hc0 rfl) (zs_eq hmm112))
                                        have b119 : 0 ≤ (zu_w32 (4 + (m12 a0 20))) ∧ (zu_w32 (4 + (m12 a0 20))) < 8 := by omega
                                        refine zw_if b119 ?_
                                        generalize hmm120 : zu_up m113 202 (zu_w32 (4 + (m12 a0 20))) (m113 a0 11) = m120
                                        have hIm120 := zi_up hmm120 hIm113 zq_202 (zb_111 _) (by omega) (by omega)
                                        have hFm120 := zfr_up hmm120 hFm113 zq_202 rfl
                                        have hRNSm120 := zR_NS_fr (zdis_fr (zfr_up hmm120 (zfr_rf [(111, 0)] _) zq_202 rfl) rfl) hRNSm113
                                        refine zw_bd (zw_eq (zr_94_0 n a0 0 3 m120) ?_)
                                        have r121 : 0 ≤ (m120 a0 8) ∧ (m120 a0 8) ≤ 6 := zi_rd hIm120 hc0 zb_28_8
                                        refine zw_ite (fun h122 => ?_) (fun h122 => ?_)
                                        · have r123 : (-2147483648) ≤ (m120 a0 9) ∧ (m120 a0 9) ≤ 2147483647 := zi_rd hIm120 hc0 zb_28_9
                                          refine zw_bd (zw_eq (zr_83_0 n (m120 a0 9) 0 3 m120) ?_)
                                          refine zw_ite (fun h124 => ?_) (fun h124 => ?_)
                                          · refine zw_b (by omega) ?_
                                            refine zw_some ?_
                                            refine zw_ite (fun h125 => ?_) (fun h125 => ?_)
                                            · exfalso; omega
                                            · refine zw_bd (zw_eq (zr_85_0 n a0 2 m120) ?_)
                                              generalize hmm126 : zu_up m120 a0 4 2 = m126
                                              have hIm126 := zi_up hmm126 hIm120 hc0 zb_28_4 (by omega) (by omega)
                                              have hFm126 := zfr_up hmm126 hFm120 hc0 rfl
                                              have hRNSm126 := zR_NS_fr (zdis_fr (zfr_up hmm126 (zfr_rf [(28, 5)] _) hc0 rfl) rfl) hRNSm120
                                              have r127 : 0 ≤ (m126 a0 10) ∧ (m126 a0 10) ≤ 700 := zi_rd hIm126 hc0 zb_28_10
                                              generalize hmm128 : zu_up m126 a0 5 (m126 a0 10) = m128
                                              have hIm128 := zi_up hmm128 hIm126 hc0 zb_28_5 (by omega) (by omega)
                                              have hFm128 := zfr_up hmm128 hFm126 hc0 rfl
                                              have hRNSm128 := zR_NS_fr (zdis_fr (zfr_up hmm128 (zfr_rf [(28, 6)] _) hc0 rfl) rfl) hRNSm126
                                              refine zw_b (by omega) ?_
                                              refine zw_some ?_
                                              refine zw_b (by omega) ?_
                                              refine zw_some ?_
                                              refine zw_ite (fun h129 => ?_) (fun h129 => ?_)
                                              · exfalso; omega
                                              · refine zw_b (by omega) ?_
                                                exact zw_some ⟨hIm128, hFm128, hRNSm128, ⟨by omega, by omega⟩⟩
                                          · refine zw_ite (fun h130 => ?_) (fun h130 => ?_)
                                            · refine zw_b (by omega) ?_
                                              refine zw_some ?_
                                              refine zw_ite (fun h131 => ?_) (fun h131 => ?_)
                                              · exfalso; omega
                                              · refine zw_bd (zw_eq (zr_85_0 n a0 2 m120) ?_)
                                                generalize hmm132 : zu_up m120 a0 4 2 = m132
                                                have hIm132 := zi_up hmm132 hIm120 hc0 zb_28_4 (by omega) (by omega)
                                                have hFm132 := zfr_up hmm132 hFm120 hc0 rfl
                                                have hRNSm132 := zR_NS_fr (zdis_fr (zfr_up hmm132 (zfr_rf [(28, 5)] _) hc0 rfl) rfl) hRNSm120
                                                have r133 : 0 ≤ (m132 a0 10) ∧ (m132 a0 10) ≤ 700 := zi_rd hIm132 hc0 zb_28_10
                                                generalize hmm134 : zu_up m132 a0 5 (m132 a0 10) = m134
                                                have hIm134 := zi_up hmm134 hIm132 hc0 zb_28_5 (by omega) (by omega)
                                                have hFm134 := zfr_up hmm134 hFm132 hc0 rfl
                                                have hRNSm134 := zR_NS_fr (zdis_fr (zfr_up hmm134 (zfr_rf [(28, 6)] _) hc0 rfl) rfl) hRNSm132
                                                refine zw_b (by omega) ?_
                                                refine zw_some ?_
                                                refine zw_b (by omega) ?_
                                                refine zw_some ?_
                                                refine zw_ite (fun h135 => ?_) (fun h135 => ?_)
                                                · exfalso; omega
                                                · refine zw_b (by omega) ?_
                                                  exact zw_some ⟨hIm134, hFm134, hRNSm134, ⟨by omega, by omega⟩⟩
                                            · refine zw_b (by omega) ?_
                                              refine zw_some ?_
                                              refine zw_ite (fun h136 => ?_) (fun h136 => ?_)
                                              · generalize hmm137 : zu_up m120 a0 11 (m120 a0 9) = m137
                                                have hIm137 := zi_up hmm137 hIm120 hc0 zb_28_11 (by omega) (by omega)
                                                have hFm137 := zfr_up hmm137 hFm120 hc0 rfl
                                                have hRNSm137 := zR_NS_fr (zdis_fr (zfr_up hmm137 (zfr_rf [(28, 12)] _) hc0 rfl) rfl) hRNSm120
                                                refine zw_bd (zw_mono (zk_89 n hIm137 hc0 hRNSm137) (fun v139 m138 hqm138 => ?_))
                                                obtain ⟨hIm138, hfm138, hvm138⟩ := hqm138
                                                have hFm138 := zfr_tr hFm137 hfm138 rfl
                                                obtain ⟨hRNSm138, hvm138⟩ := hvm138
                                                have s140 := hRNSm138 a0 hc0
                                                refine zw_b (by omega) ?_
                                                refine zw_some ?_
                                                refine zw_ite (fun h141 => ?_) (fun h141 => ?_)
                                                · have r142 : (-2147483648) ≤ (m138 a0 11) ∧ (m138 a0 11) ≤ 2147483647 := zi_rd hIm138 hc0 zb_28_11
                                                  have e143 : (m138 a0 11) = (m120 a0 9) := (Eq.trans (zfr_ap hfm138 hc0 rfl) (zs_eq hmm137))
                                                  have b144 : 0 ≤ (zu_w32 (4 + (m12 a0 20))) ∧ (zu_w32 (4 + (m12 a0 20))) < 8 := by omega
                                                  refine zw_if b144 ?_
                                                  generalize hmm145 : zu_up m138 203 (zu_w32 (4 + (m12 a0 20))) (m138 a0 11) = m145
                                                  have hIm145 := zi_up hmm145 hIm138 zq_203 (zb_112 _) (by omega) (by omega)
                                                  have hFm145 := zfr_up hmm145 hFm138 zq_203 rfl
                                                  have hRNSm145 := zR_NS_fr (zdis_fr (zfr_up hmm145 (zfr_rf [(112, 0)] _) zq_203 rfl) rfl) hRNSm138
                                                  refine zw_bd (zw_eq (zr_94_0 n a0 0 99 m145) ?_)
                                                  have r146 : 0 ≤ (m145 a0 8) ∧ (m145 a0 8) ≤ 6 := zi_rd hIm145 hc0 zb_28_8
                                                  refine zw_ite (fun h147 => ?_) (fun h147 => ?_)
                                                  · have r148 : (-2147483648) ≤ (m145 a0 9) ∧ (m145 a0 9) ≤ 2147483647 := zi_rd hIm145 hc0 zb_28_9
                                                    refine zw_bd (zw_eq (zr_83_0 n (m145 a0 9) 0 99 m145) ?_)
                                                    refine zw_ite (fun h149 => ?_) (fun h149 => ?_)
                                                    · refine zw_b (by omega) ?_
                                                      refine zw_some ?_
                                                      refine zw_ite (fun h150 => ?_) (fun h150 => ?_)
                                                      · exfalso; omega
                                                      · refine zw_bd (zw_eq (zr_85_0 n a0 2 m145) ?_)
                                                        generalize hmm151 : zu_up m145 a0 4 2 = m151
                                                        have hIm151 := zi_up hmm151 hIm145 hc0 zb_28_4 (by omega) (by omega)
                                                        have hFm151 := zfr_up hmm151 hFm145 hc0 rfl
                                                        have hRNSm151 := zR_NS_fr (zdis_fr (zfr_up hmm151 (zfr_rf [(28, 5)] _) hc0 rfl) rfl) hRNSm145
                                                        have r152 : 0 ≤ (m151 a0 10) ∧ (m151 a0 10) ≤ 700 := zi_rd hIm151 hc0 zb_28_10
                                                        generalize hmm153 : zu_up m151 a0 5 (m151 a0 10) = m153
                                                        have hIm153 := zi_up hmm153 hIm151 hc0 zb_28_5 (by omega) (by omega)
                                                        have hFm153 := zfr_up hmm153 hFm151 hc0 rfl
                                                        have hRNSm153 := zR_NS_fr (zdis_fr (zfr_up hmm153 (zfr_rf [(28, 6)] _) hc0 rfl) rfl) hRNSm151
                                                        refine zw_b (by omega) ?_
                                                        refine zw_some ?_
                                                        refine zw_b (by omega) ?_
                                                        refine zw_some ?_
                                                        refine zw_ite (fun h154 => ?_) (fun h154 => ?_)
                                                        · exfalso; omega
                                                        · refine zw_b (by omega) ?_
                                                          exact zw_some ⟨hIm153, hFm153, hRNSm153, ⟨by omega, by omega⟩⟩
                                                    · refine zw_ite (fun h155 => ?_) (fun h155 => ?_)
                                                      · refine zw_b (by omega) ?_
                                                        refine zw_some ?_
                                                        refine zw_ite (fun h156 => ?_) (fun h156 => ?_)
                                                        · exfalso; omega
                                                        · refine zw_bd (zw_eq (zr_85_0 n a0 2 m145) ?_)
                                                          generalize hmm157 : zu_up m145 a0 4 2 = m157
                                                          have hIm157 := zi_up hmm157 hIm145 hc0 zb_28_4 (by omega) (by omega)
                                                          have hFm157 := zfr_up hmm157 hFm145 hc0 rfl
                                                          have hRNSm157 := zR_NS_fr (zdis_fr (zfr_up hmm157 (zfr_rf [(28, 5)] _) hc0 rfl) rfl) hRNSm145
                                                          have r158 : 0 ≤ (m157 a0 10) ∧ (m157 a0 10) ≤ 700 := zi_rd hIm157 hc0 zb_28_10
                                                          generalize hmm159 : zu_up m157 a0 5 (m157 a0 10) = m159
                                                          have hIm159 := zi_up hmm159 hIm157 hc0 zb_28_5 (by omega) (by omega)
                                                          have hFm159 := zfr_up hmm159 hFm157 hc0 rfl
                                                          have hRNSm159 := zR_NS_fr (zdis_fr (zfr_up hmm159 (zfr_rf [(28, 6)] _) hc0 rfl) rfl) hRNSm157
                                                          refine zw_b (by omega) ?_
                                                          refine zw_some ?_
                                                          refine zw_b (by omega) ?_
                                                          refine zw_some ?_
                                                          refine zw_ite (fun h160 => ?_) (fun h160 => ?_)
                                                          · exfalso; omega
                                                          · refine zw_b (by omega) ?_
                                                            exact zw_some ⟨hIm159, hFm159, hRNSm159, ⟨by omega, by omega⟩⟩
                                                      · refine zw_b (by omega) ?_
                                                        refine zw_some ?_
                                                        refine zw_ite (fun h161 => ?_) (fun h161 => ?_)
                                                        · generalize hmm162 : zu_up m145 a0 11 (m145 a0 9) = m162
                                                          have hIm162 := zi_up hmm162 hIm145 hc0 zb_28_11 (by omega) (by omega)
                                                          have hFm162 := zfr_up hmm162 hFm145 hc0 rfl
                                                          have hRNSm162 := zR_NS_fr (zdis_fr (zfr_up hmm162 (zfr_rf [(28, 12)] _) hc0 rfl) rfl) hRNSm145
                                                          refine zw_bd (zw_mono (zk_89 n hIm162 hc0 hRNSm162) (fun v164 m163 hqm163 => ?_))
                                                          obtain ⟨hIm163, hfm163, hvm163⟩ := hqm163
                                                          have hFm163 := zfr_tr hFm162 hfm163 rfl
                                                          obtain ⟨hRNSm163, hvm163⟩ := hvm163
                                                          have s165 := hRNSm163 a0 hc0
                                                          refine zw_b (by omega) ?_
                                                          refine zw_some ?_
                                                          refine zw_ite (fun h166 => ?_) (fun h166 => ?_)
                                                          · have r167 : (-2147483648) ≤ (m163 a0 11) ∧ (m163 a0 11) ≤ 2147483647 := zi_rd hIm163 hc0 zb_28_11
                                                            have e168 : (m163 a0 11) = (m145 a0 9) := (Eq.trans (zfr_ap hfm163 hc0 rfl) (zs_eq hmm162))
                                                            have b169 : 0 ≤ (zu_w32 (4 + (m12 a0 20))) ∧ (zu_w32 (4 + (m12 a0 20))) < 8 := by omega
                                                            refine zw_if b169 ?_
                                                            generalize hmm170 : zu_up m163 204 (zu_w32 (4 + (m12 a0 20))) (m163 a0 11) = m170
                                                            have hIm170 := zi_up hmm170 hIm163 zq_204 (zb_113 _) (by omega) (by omega)
                                                            have hFm170 := zfr_up hmm170 hFm163 zq_204 rfl
                                                            have hRNSm170 := zR_NS_fr (zdis_fr (zfr_up hmm170 (zfr_rf [(113, 0)] _) zq_204 rfl) rfl) hRNSm163
                                                            have r171 : 0 ≤ (m170 a0 20) ∧ (m170 a0 20) ≤ 4 := zi_rd hIm170 hc0 zb_28_20
                                                            have e172 : (m170 a0 20) = (m12 a0 20) := (Eq.trans (zs_ne hmm170 (Or.inl (zc_ne hc0 zq_204 (by decide)))) (Eq.trans (zfr_ap hfm163 hc0 rfl) (Eq.trans (zs_ne hmm162 (Or.inr (by decide))) (Eq.trans (zs_ne hmm145 (Or.inl (zc_ne hc0 zq_203 (by decide)))) (Eq.trans (zfr_ap hfm138 hc0 rfl) (Eq.trans (zs_ne hmm137 (Or.inr (by decide))) (Eq.trans (zs_ne hmm120 (Or.inl (zc_ne hc0 zq_202 (by decide)))) (Eq.trans (zfr_ap hfm113 hc0 rfl) (Eq.trans (zs_ne hmm112 (Or.inr (by decide))) (Eq.trans (zs_ne hmm95 (Or.inl (zc_ne hc0 zq_201 (by decide)))) (Eq.trans (zs_ne hmm90 (Or.inr (by decide))) (Eq.trans (zfr_ap hfm79 hc0 rfl) (Eq.trans (zs_ne hmm78 (Or.inr (by decide))) (Eq.trans (zs_ne hmm55 (Or.inr (by decide))) (Eq.trans (zfr_ap hfm48 hc0 rfl) (Eq.trans (zs_ne hmm47 (Or.inr (by decide))) (Eq.trans (zs_ne hmm26 (Or.inr (by decide))) (Eq.trans (zfr_ap hfm23 hc0 rfl) (zs_ne hmm22 (Or.inl (zc_ne hc0 zq_200 (by decide))))))))))))))))))))))
                                                            have w173 := zu_w32_id (z := (m170 a0 20) + 1) (by omega) (by omega)
                                                            generalize hmm174 : zu_up m170 a0 20 (zu_w32 ((m170 a0 20) + 1)) = m174
                                                            have hIm174 := zi_up hmm174 hIm170 hc0 zb_28_20 (by omega) (by omega)
                                                            have hFm174 := zfr_up hmm174 hFm170 hc0 rfl
                                                            have hRNSm174 := zR_NS_fr (zdis_fr (zfr_up hmm174 (zfr_rf [(28, 21)] _) hc0 rfl) rfl) hRNSm170
                                                            refine zw_b (by omega) ?_
                                                            exact zw_some ⟨hIm174, hFm174, hRNSm174, ⟨by omega, by omega⟩⟩
                                                          · exfalso; omega
                                                        · exfalso; omega
                                                  · refine zw_bd (zw_eq (zr_85_0 n a0 1 m145) ?_)
                                                    generalize hmm175 : zu_up m145 a0 4 1 = m175
                                                    have hIm175 := zi_up hmm175 hIm145 hc0 zb_28_4 (by omega) (by omega)
                                                    have hFm175 := zfr_up hmm175 hFm145 hc0 rfl
                                                    have hRNSm175 := zR_NS_fr (zdis_fr (zfr_up hmm175 (zfr_rf [(28, 5)] _) hc0 rfl) rfl) hRNSm145
                                                    have r176 : 0 ≤ (m175 a0 10) ∧ (m175 a0 10) ≤ 700 := zi_rd hIm175 hc0 zb_28_10
                                                    generalize hmm177 : zu_up m175 a0 5 (m175 a0 10) = m177
                                                    have hIm177 := zi_up hmm177 hIm175 hc0 zb_28_5 (by omega) (by omega)
                                                    have hFm177 := zfr_up hmm177 hFm175 hc0 rfl
                                                    have hRNSm177 := zR_NS_fr (zdis_fr (zfr_up hmm177 (zfr_rf [(28, 6)] _) hc0 rfl) rfl) hRNSm175
                                                    refine zw_b (by omega) ?_
                                                    refine zw_some ?_
                                                    refine zw_b (by omega) ?_
                                                    refine zw_some ?_
                                                    refine zw_ite (fun h178 => ?_) (fun h178 => ?_)
                                                    · exfalso; omega
                                                    · refine zw_b (by omega) ?_
                                                      exact zw_some ⟨hIm177, hFm177, hRNSm177, ⟨by omega, by omega⟩⟩
                                                · exfalso; omega
                                              · exfalso; omega
                                        · refine zw_bd (zw_eq (zr_85_0 n a0 1 m120) ?_)
                                          generalize hmm179 : zu_up m120 a0 4 1 = m179
                                          have hIm179 := zi_up hmm179 hIm120 hc0 zb_28_4 (by omega) (by omega)
                                          have hFm179 := zfr_up hmm179 hFm120 hc0 rfl
                                          have hRNSm179 := zR_NS_fr (zdis_fr (zfr_up hmm179 (zfr_rf [(28, 5)] _) hc0 rfl) rfl) hRNSm120
                                          have r180 : 0 ≤ (m179 a0 10) ∧ (m179 a0 10) ≤ 700 := zi_rd hIm179 hc0 zb_28_10
                                          generalize hmm181 : zu_up m179 a0 5 (m179 a0 10) = m181
                                          have hIm181 := zi_up hmm181 hIm179 hc0 zb_28_5 (by omega) (by omega)
                                          have hFm181 := zfr_up hmm181 hFm179 hc0 rfl
                                          have hRNSm181 := zR_NS_fr (zdis_fr (zfr_up hmm181 (zfr_rf [(28, 6)] _) hc0 rfl) rfl) hRNSm179
                                          refine zw_b (by omega) ?_
                                          refine zw_some ?_
                                          refine zw_b (by omega) ?_
                                          refine zw_some ?_
                                          refine zw_ite (fun h182 => ?_) (fun h182 => ?_)
                                          · exfalso; omega
                                          · refine zw_b (by omega) ?_
                                            exact zw_some ⟨hIm181, hFm181, hRNSm181, ⟨by omega, by omega⟩⟩
                                      · exfalso; omega
                                    · exfalso; omega
                              · refine zw_bd (zw_eq (zr_85_0 n a0 1 m95) ?_)
                                generalize hmm183 : zu_up m95 a0 4 1 = m183
                                have hIm183 := zi_up hmm183 hIm95 hc0 zb_28_4 (by omega) (by omega)
                                have hFm183 := zfr_up hmm183 hFm95 hc0 rfl
                                have hRNSm183 := zR_NS_fr (zdis_fr (zfr_up hmm183 (zfr_rf [(28, 5)] _) hc0 rfl) rfl) hRNSm95
                                have r184 : 0 ≤ (m183 a0 10) ∧ (m183 a0 10) ≤ 700 := zi_rd hIm183 hc0 zb_28_10
                                generalize hmm185 : zu_up m183 a0 5 (m183 a0 10) = m185
                                have hIm185 := zi_up hmm185 hIm183 hc0 zb_28_5 (by omega) (by omega)
                                have hFm185 := zfr_up hmm185 hFm183 hc0 rfl
                                have hRNSm185 := zR_NS_fr (zdis_fr (zfr_up hmm185 (zfr_rf [(28, 6)] _) hc0 rfl) rfl) hRNSm183
                                refine zw_b (by omega) ?_
                                refine zw_some ?_
                                refine zw_b (by omega) ?_
                                refine zw_some ?_
                                refine zw_ite (fun h186 => ?_) (fun h186 => ?_)
                                · exfalso; omega
                                · refine zw_b (by omega) ?_
                                  exact zw_some ⟨hIm185, hFm185, hRNSm185, ⟨by omega, by omega⟩⟩
                            · exfalso; omega
                          · exfalso; omega
                        · exfalso; omega
                  · refine zw_bd (zw_eq (zr_85_0 n a0 1 m55) ?_)
                    generalize hmm187 : zu_up m55 a0 4 1 = m187
                    have hIm187 := zi_up hmm187 hIm55 hc0 zb_28_4 (by omega) (by omega)
                    have hFm187 := zfr_up hmm187 hFm55 hc0 rfl
                    have hRNSm187 := zR_NS_fr (zdis_fr (zfr_up hmm187 (zfr_rf [(28, 5)] _) hc0 rfl) rfl) hRNSm55
                    have r188 : 0 ≤ (m187 a0 10) ∧ (m187 a0 10) ≤ 700 := zi_rd hIm187 hc0 zb_28_10
                    have e189 : (m187 a0 10) = (m48 a0 10) := (Eq.trans (zs_ne hmm187 (Or.inr (by decide))) (zs_ne hmm55 (Or.inr (by decide))))
                    generalize hmm190 : zu_up m187 a0 5 (m187 a0 10) = m190
                    have hIm190 := zi_up hmm190 hIm187 hc0 zb_28_5 (by omega) (by omega)
                    have hFm190 := zfr_up hmm190 hFm187 hc0 rfl
                    have hRNSm190 := zR_NS_fr (zdis_fr (zfr_up hmm190 (zfr_rf [(28, 6)] _) hc0 rfl) rfl) hRNSm187
                    refine zw_b (by omega) ?_
                    refine zw_some ?_
                    refine zw_b (by omega) ?_
                    refine zw_some ?_
                    refine zw_ite (fun h191 => ?_) (fun h191 => ?_)
                    · exfalso; omega
                    · refine zw_b (by omega) ?_
                      refine zw_some ?_
                      refine zw_ite (fun h192 => ?_) (fun h192 => ?_)
                      · exfalso; omega
                      · refine zw_b (by omega) ?_
                        exact zw_some ⟨hIm190, hFm190, hRNSm190, ⟨by omega, by omega⟩⟩
                · exfalso; omega
              · exfalso; omega
        · refine zw_bd (zw_eq (zr_85_0 n a0 1 m26) ?_)
          generalize hmm193 : zu_up m26 a0 4 1 = m193
          have hIm193 := zi_up hmm193 hIm26 hc0 zb_28_4 (by omega) (by omega)
          have hFm193 := zfr_up hmm193 hFm26 hc0 rfl
          have hRNSm193 := zR_NS_fr (zdis_fr (zfr_up hmm193 (zfr_rf [(28, 5)] _) hc0 rfl) rfl) hRNSm26
          have r194 : 0 ≤ (m193 a0 10) ∧ (m193 a0 10) ≤ 700 := zi_rd hIm193 hc0 zb_28_10
          generalize hmm195 : zu_up m193 a0 5 (m193 a0 10) = m195
          have hIm195 := zi_up hmm195 hIm193 hc0 zb_28_5 (by omega) (by omega)
          have hFm195 := zfr_up hmm195 hFm193 hc0 rfl
          have hRNSm195 := zR_NS_fr (zdis_fr (zfr_up hmm195 (zfr_rf [(28, 6)] _) hc0 rfl) rfl) hRNSm193
          refine zw_b (by omega) ?_
          refine zw_some ?_
          refine zw_b (by omega) ?_
          refine zw_some ?_
          refine zw_ite (fun h196 => ?_) (fun h196 => ?_)
          · exfalso; omega
          · refine zw_b (by omega) ?_
            refine zw_some ?_
            refine zw_ite (fun h197 => ?_) (fun h197 => ?_)
            · exfalso; omega
            · refine zw_b (by omega) ?_
              exact zw_some ⟨hIm195, hFm195, hRNSm195, ⟨by omega, by omega⟩⟩
      · refine zw_bd (zw_eq (zr_85_0 n a0 3 m12) ?_)
        generalize hmm198 : zu_up m12 a0 4 3 = m198
        have hIm198 := zi_up hmm198 hIm12 hc0 zb_28_4 (by omega) (by omega)
        have hFm198 := zfr_up hmm198 hFm12 hc0 rfl
        have hRNSm198 := zR_NS_fr (zdis_fr (zfr_up hmm198 (zfr_rf [(28, 5)] _) hc0 rfl) rfl) hRNSm12
        have r199 : 0 ≤ (m198 a0 10) ∧ (m198 a0 10) ≤ 700 := zi_rd hIm198 hc0 zb_28_10
        generalize hmm200 : zu_up m198 a0 5 (m198 a0 10) = m200
        have hIm200 := zi_up hmm200 hIm198 hc0 zb_28_5 (by omega) (by omega)
        have hFm200 := zfr_up hmm200 hFm198 hc0 rfl
        have hRNSm200 := zR_NS_fr (zdis_fr (zfr_up hmm200 (zfr_rf [(28, 6)] _) hc0 rfl) rfl) hRNSm198
        refine zw_b (by omega) ?_
        refine zw_some ?_
        refine zw_b (by omega) ?_
        exact zw_some ⟨hIm200, hFm200, hRNSm200, ⟨by omega, by omega⟩⟩
    · refine zw_bd (zw_eq (zr_85_0 n a0 1 m4) ?_)
      generalize hmm201 : zu_up m4 a0 4 1 = m201
      have hIm201 := zi_up hmm201 hIm4 hc0 zb_28_4 (by omega) (by omega)
      have hFm201 := zfr_up hmm201 hFm4 hc0 rfl
      have hRNSm201 := zR_NS_fr (zdis_fr (zfr_up hmm201 (zfr_rf [(28, 5)] _) hc0 rfl) rfl) hRNSm4
      have r202 : 0 ≤ (m201 a0 10) ∧ (m201 a0 10) ≤ 700 := zi_rd hIm201 hc0 zb_28_10
      generalize hmm203 : zu_up m201 a0 5 (m201 a0 10) = m203
      have hIm203 := zi_up hmm203 hIm201 hc0 zb_28_5 (by omega) (by omega)
      have hFm203 := zfr_up hmm203 hFm201 hc0 rfl
      have hRNSm203 := zR_NS_fr (zdis_fr (zfr_up hmm203 (zfr_rf [(28, 6)] _) hc0 rfl) rfl) hRNSm201
      refine zw_b (by omega) ?_
      refine zw_some ?_
      refine zw_b (by omega) ?_
      exact zw_some ⟨hIm203, hFm203, hRNSm203, ⟨by omega, by omega⟩⟩
  · refine zw_bd (zw_eq (zr_85_0 n a0 2 m0) ?_)
    generalize hmm204 : zu_up m0 a0 4 2 = m204
    have hIm204 := zi_up hmm204 hIm0 hc0 zb_28_4 (by omega) (by omega)
    have hFm204 := zfr_up hmm204 hFm0 hc0 rfl
    have hRNSm204 := zR_NS_fr (zdis_fr (zfr_up hmm204 (zfr_rf [(28, 5)] _) hc0 rfl) rfl) hRNSm0
    have r205 : 0 ≤ (m204 a0 10) ∧ (m204 a0 10) ≤ 700 := zi_rd hIm204 hc0 zb_28_10
    generalize hmm206 : zu_up m204 a0 5 (m204 a0 10) = m206
    have hIm206 := zi_up hmm206 hIm204 hc0 zb_28_5 (by omega) (by omega)
    have hFm206 := zfr_up hmm206 hFm204 hc0 rfl
    have hRNSm206 := zR_NS_fr (zdis_fr (zfr_up hmm206 (zfr_rf [(28, 6)] _) hc0 rfl) rfl) hRNSm204
    refine zw_b (by omega) ?_
    refine zw_some ?_
    refine zw_b (by omega) ?_
    exact zw_some ⟨hIm206, hFm206, hRNSm206, ⟨by omega, by omega⟩⟩
set_option maxHeartbeats 4000000 in
theorem zk_103 (n : Nat) {a0 : Int} {m0 : zu_m} (hIm0 : zi_I m0) (hc0 : zcls a0 = 28)   (he0 : 1 ≤ m0 a0 8 ∧ m0 a0 8 ≤ 1) (he1 : 11 ≤ m0 a0 9 ∧ m0 a0 9 ≤ 11)  (hRNSm0 : zR_NS m0) : zw (zu_call (zt_T n) 103 [(40, a0)] m0) (fun v m => zi_I m ∧ zfr [(28, 5), (28, 6), (28, 8), (28, 9), (28, 10), (28, 11), (28, 22), (28, 46), (28, 47), (28, 48), (28, 49), (28, 50), (28, 51), (114, 0), (115, 0), (116, 0), (117, 0), (118, 0), (119, 0), (120, 0), (121, 0)] m0 m ∧ zR_NS m ∧ (0 ≤ v ∧ v ≤ 1)) := by
  have hFm0 : zfr [(28, 5), (28, 6), (28, 8), (28, 9), (28, 10), (28, 11), (28, 22), (28, 46), (28, 47), (28, 48), (28, 49), (28, 50), (28, 51), (114, 0), (115, 0), (116, 0), (117, 0), (118, 0), (119, 0), (120, 0), (121, 0)] m0 m0 := zfr_rf _ _
  have s1 := hRNSm0 a0 hc0
  refine zw_eq (zr_103_0 n a0 m0) ?_
  refine zw_bd (zw_mono (zk_89 n hIm0 hc0 hRNSm0) (fun v3 m2 hqm2 => ?_))
  obtain ⟨hIm2, hfm2, hvm2⟩ := hqm2
  have hFm2 := zfr_tr hFm0 hfm2 rfl
  obtain ⟨hRNSm2, hvm2⟩ := hvm2
  have s4 := hRNSm2 a0 hc0
  have r5 : 0 ≤ (m2 a0 8) ∧ (m2 a0 8) ≤ 6 := zi_rd hIm2 hc0 zb_28_8
  refine zw_ite (fun h6 => ?_) (fun h6 => ?_)
  · refine zw_bd (zw_eq (zr_85_0 n a0 1 m2) ?_)
    generalize hmm7 : zu_up m2 a0 4 1 = m7
    have hIm7 := zi_up hmm7 hIm2 hc0 zb_28_4 (by omega) (by omega)
    have hFm7 := zfr_up hmm7 hFm2 hc0 rfl
    have hRNSm7 := zR_NS_fr (zdis_fr (zfr_up hmm7 (zfr_rf [(28, 5)] _) hc0 rfl) rfl) hRNSm2
    have r8 : 0 ≤ (m7 a0 10) ∧ (m7 a0 10) ≤ 700 := zi_rd hIm7 hc0 zb_28_10
    generalize hmm9 : zu_up m7 a0 5 (m7 a0 10) = m9
    have hIm9 := zi_up hmm9 hIm7 hc0 zb_28_5 (by omega) (by omega)
    have hFm9 := zfr_up hmm9 hFm7 hc0 rfl
    have hRNSm9 := zR_NS_fr (zdis_fr (zfr_up hmm9 (zfr_rf [(28, 6)] _) hc0 rfl) rfl) hRNSm7
    refine zw_b (by omega) ?_
    refine zw_some ?_
    refine zw_b (by omega) ?_
    exact zw_some ⟨hIm9, hFm9, hRNSm9, ⟨by omega, by omega⟩⟩
  · have r10 : (-2147483648) ≤ (m2 a0 9) ∧ (m2 a0 9) ≤ 2147483647 := zi_rd hIm2 hc0 zb_28_9
    refine zw_ite (fun h11 => ?_) (fun h11 => ?_)
    · refine zw_bd (zw_eq (zr_85_0 n a0 1 m2) ?_)
      generalize hmm12 : zu_up m2 a0 4 1 = m12
      have hIm12 := zi_up hmm12 hIm2 hc0 zb_28_4 (by omega) (by omega)
      have hFm12 := zfr_up hmm12 hFm2 hc0 rfl
      have hRNSm12 := zR_NS_fr (zdis_fr (zfr_up hmm12 (zfr_rf [(28, 5)] _) hc0 rfl) rfl) hRNSm2
      have r13 : 0 ≤ (m12 a0 10) ∧ (m12 a0 10) ≤ 700 := zi_rd hIm12 hc0 zb_28_10
      generalize hmm14 : zu_up m12 a0 5 (m12 a0 10) = m14
      have hIm14 := zi_up hmm14 hIm12 hc0 zb_28_5 (by omega) (by omega)
      have hFm14 := zfr_up hmm14 hFm12 hc0 rfl
      have hRNSm14 := zR_NS_fr (zdis_fr (zfr_up hmm14 (zfr_rf [(28, 6)] _) hc0 rfl) rfl) hRNSm12
      refine zw_b (by omega) ?_
      refine zw_some ?_
      refine zw_b (by omega) ?_
      exact zw_some ⟨hIm14, hFm14, hRNSm14, ⟨by omega, by omega⟩⟩
    · refine zw_ite (fun h15 => ?_) (fun h15 => ?_)
      · have w16 := zu_w32_id (z := 4 + (m2 a0 9)) (by omega) (by omega)
        have w17 := zu_w32_id (z := (zu_w32 (4 + (m2 a0 9))) - 19) (by omega) (by omega)
        have b18 : 0 ≤ (zu_w32 ((zu_w32 (4 + (m2 a0 9))) - 19)) ∧ (zu_w32 ((zu_w32 (4 + (m2 a0 9))) - 19)) < 8 := by omega
        refine zw_if b18 ?_
        have r19 : 0 ≤ (m2 205 (zu_w32 ((zu_w32 (4 + (m2 a0 9))) - 19))) ∧ (m2 205 (zu_w32 ((zu_w32 (4 + (m2 a0 9))) - 19))) ≤ 1 := zi_rd hIm2 zq_205 (zb_114 _)
        refine zw_ite (fun h20 => ?_) (fun h20 => ?_)
        · refine zw_b (by omega) ?_
          have b21 : 0 ≤ (zu_w32 ((zu_w32 (4 + (m2 a0 9))) - 19)) ∧ (zu_w32 ((zu_w32 (4 + (m2 a0 9))) - 19)) < 8 := by omega
          refine zw_if b21 ?_
          generalize hmm22 : zu_up m2 205 (zu_w32 ((zu_w32 (4 + (m2 a0 9))) - 19)) 1 = m22
          have hIm22 := zi_up hmm22 hIm2 zq_205 (zb_114 _) (by omega) (by omega)
          have hFm22 := zfr_up hmm22 hFm2 zq_205 rfl
          have hRNSm22 := zR_NS_fr (zdis_fr (zfr_up hmm22 (zfr_rf [(114, 0)] _) zq_205 rfl) rfl) hRNSm2
          refine zw_bd (zw_mono (zk_89 n hIm22 hc0 hRNSm22) (fun v24 m23 hqm23 => ?_))
          obtain ⟨hIm23, hfm23, hvm23⟩ := hqm23
          have hFm23 := zfr_tr hFm22 hfm23 rfl
          obtain ⟨hRNSm23, hvm23⟩ := hvm23
          have s25 := hRNSm23 a0 hc0
          have r26 : 0 ≤ (m23 a0 21) ∧ (m23 a0 21) ≤ 64 := zi_rd hIm23 hc0 zb_28_21
          have b27 : 0 ≤ (zu_w32 ((zu_w32 (4 + (m2 a0 9))) - 19)) ∧ (zu_w32 ((zu_w32 (4 + (m2 a0 9))) - 19)) < 8 := by omega
          refine zw_if b27 ?_
          generalize hmm28 : zu_up m23 206 (zu_w32 ((zu_w32 (4 + (m2 a0 9))) - 19)) (m23 a0 21) = m28
          have hIm28 := zi_up hmm28 hIm23 zq_206 (zb_115 _) (by omega) (by omega)
          have hFm28 := zfr_up hmm28 hFm23 zq_206 rfl
          have hRNSm28 := zR_NS_fr (zdis_fr (zfr_up hmm28 (zfr_rf [(115, 0)] _) zq_206 rfl) rfl) hRNSm23
          refine zw_bd (zw_mono (zk_118 n hIm28 hc0 hRNSm28) (fun v30 m29 hqm29 => ?_))
          obtain ⟨hIm29, hfm29, hvm29⟩ := hqm29
          have hFm29 := zfr_tr hFm28 hfm29 rfl
          obtain ⟨hRNSm29, hvm29⟩ := hvm29
          have s31 := hRNSm29 a0 hc0
          have r32 : 0 ≤ (m29 a0 21) ∧ (m29 a0 21) ≤ 64 := zi_rd hIm29 hc0 zb_28_21
          have b33 : 0 ≤ (zu_w32 ((zu_w32 (4 + (m2 a0 9))) - 19)) ∧ (zu_w32 ((zu_w32 (4 + (m2 a0 9))) - 19)) < 8 := by omega
          refine zw_if b33 ?_
          generalize hmm34 : zu_up m29 207 (zu_w32 ((zu_w32 (4 + (m2 a0 9))) - 19)) (m29 a0 21) = m34
          have hIm34 := zi_up hmm34 hIm29 zq_207 (zb_116 _) (by omega) (by omega)
          have hFm34 := zfr_up hmm34 hFm29 zq_207 rfl
          have hRNSm34 := zR_NS_fr (zdis_fr (zfr_up hmm34 (zfr_rf [(116, 0)] _) zq_207 rfl) rfl) hRNSm29
          refine zw_b (by omega) ?_
          exact zw_some ⟨hIm34, hFm34, hRNSm34, ⟨by omega, by omega⟩⟩
        · refine zw_bd (zw_eq (zr_85_0 n a0 3 m2) ?_)
          generalize hmm35 : zu_up m2 a0 4 3 = m35
          have hIm35 := zi_up hmm35 hIm2 hc0 zb_28_4 (by omega) (by omega)
          have hFm35 := zfr_up hmm35 hFm2 hc0 rfl
          have hRNSm35 := zR_NS_fr (zdis_fr (zfr_up hmm35 (zfr_rf [(28, 5)] _) hc0 rfl) rfl) hRNSm2
          have r36 : 0 ≤ (m35 a0 10) ∧ (m35 a0 10) ≤ 700 := zi_rd hIm35 hc0 zb_28_10
          generalize hmm37 : zu_up m35 a0 5 (m35 a0 10) = m37
          have hIm37 := zi_up hmm37 hIm35 hc0 zb_28_5 (by omega) (by omega)
          have hFm37 := zfr_up hmm37 hFm35 hc0 rfl
          have hRNSm37 := zR_NS_fr (zdis_fr (zfr_up hmm37 (zfr_rf [(28, 6)] _) hc0 rfl) rfl) hRNSm35
          refine zw_b (by omega) ?_
          refine zw_some ?_
          refine zw_b (by omega) ?_
          exact zw_some ⟨hIm37, hFm37, hRNSm37, ⟨by omega, by omega⟩⟩
      · refine zw_bd (zw_eq (zr_85_0 n a0 1 m2) ?_)
        generalize hmm38 : zu_up m2 a0 4 1 = m38
        have hIm38 := zi_up hmm38 hIm2 hc0 zb_28_4 (by omega) (by omega)
        have hFm38 := zfr_up hmm38 hFm2 hc0 rfl
        have hRNSm38 := zR_NS_fr (zdis_fr (zfr_up hmm38 (zfr_rf [(28, 5)] _) hc0 rfl) rfl) hRNSm2
        have r39 : 0 ≤ (m38 a0 10) ∧ (m38 a0 10) ≤ 700 := zi_rd hIm38 hc0 zb_28_10
        generalize hmm40 : zu_up m38 a0 5 (m38 a0 10) = m40
        have hIm40 := zi_up hmm40 hIm38 hc0 zb_28_5 (by omega) (by omega)
        have hFm40 := zfr_up hmm40 hFm38 hc0 rfl
        have hRNSm40 := zR_NS_fr (zdis_fr (zfr_up hmm40 (zfr_rf [(28, 6)] _) hc0 rfl) rfl) hRNSm38
        refine zw_b (by omega) ?_
        refine zw_some ?_
        refine zw_b (by omega) ?_
        exact zw_some ⟨hIm40, hFm40, hRNSm40, ⟨by omega, by omega⟩⟩

set_option maxHeartbeats 4000000 in
theorem zk_122 (n : Nat) {a0 a1 : Int} {m0 : zu_m} (hIm0 : zi_I m0) (hc0 : zcls a0 = 28) (ha1 : 0 ≤ a1 ∧ a1 ≤ 63)    (hRKNm0 : zR_KN m0) : zw (zu_call (zt_T n) 122 [(40, a0), (0, a1)] m0) (fun v m => zi_I m ∧ zfr [(28, 54)] m0 m ∧ zR_KN m ∧ ((-9223372036854775808) ≤ v ∧ v ≤ 9223372036854775807)) := by
  have hFm0 : zfr [(28, 54)] m0 m0 := zfr_rf _ _
  refine zw_eq (zu_call_at (zt_T n) (zm_122 n) (zdp_122 n) _ _ _ _ _ rfl (zr_122_0 n _ _ a0 a1 m0)) ?_
  have b1 : 0 ≤ a1 ∧ a1 < 128 := by omega
  refine zw_if b1 ?_
  have r2 : 0 ≤ (m0 208 a1) ∧ (m0 208 a1) ≤ 14 := zi_rd hIm0 zq_208 (zb_117 _)
  refine zw_ite (fun h3 => ?_) (fun h3 => ?_)
  · have b4 : 0 ≤ a1 ∧ a1 < 128 := by omega
    refine zw_if b4 ?_
    refine zw_ite (fun h5 => ?_) (fun h5 => ?_)
    · have b6 : 0 ≤ a1 ∧ a1 < 128 := by omega
      refine zw_if b6 ?_
      have r7 : 0 ≤ (m0 209 a1) ∧ (m0 209 a1) ≤ 9999 := zi_rd hIm0 zq_209 (zb_118 _)
      have s8 := hRKNm0 a1 (by omega) (by omega)
      have b9 : 0 ≤ (m0 209 a1) ∧ (m0 209 a1) < 64 := by omega
      refine zw_if b9 ?_
      have r10 : (-9223372036854775808) ≤ (m0 214 (m0 209 a1)) ∧ (m0 214 (m0 209 a1)) ≤ 9223372036854775807 := zi_rd hIm0 zq_214 (zb_123 _)
      have b11 : 0 ≤ a1 ∧ a1 < 128 := by omega
      refine zw_if b11 ?_
      refine zw_ite (fun h12 => ?_) (fun h12 => ?_)
      · have b13 : 0 ≤ a1 ∧ a1 < 128 := by omega
        refine zw_if b13 ?_
        have r14 : (-1) ≤ (m0 210 a1) ∧ (m0 210 a1) ≤ 63 := zi_rd hIm0 zq_210 (zb_119 _)
        have s15 := hRKNm0 a1 (by omega) (by omega)
        have b16 : 0 ≤ (m0 210 a1) ∧ (m0 210 a1) < 64 := by omega
        refine zw_if b16 ?_
        have r17 : (-9223372036854775808) ≤ (m0 214 (m0 210 a1)) ∧ (m0 214 (m0 210 a1)) ≤ 9223372036854775807 := zi_rd hIm0 zq_214 (zb_123 _)
        have b18 : 0 ≤ a1 ∧ a1 < 128 := by omega
        refine zw_if b18 ?_
        refine zw_ite (fun h19 => ?_) (fun h19 => ?_)
        · have c20 := zu_lcmp_sp (m0 214 (m0 209 a1)) 0
          refine zw_ite (fun h21 => ?_) (fun h21 => ?_)
          · exact zw_some ⟨hIm0, hFm0, hRKNm0, ⟨by omega, by omega⟩⟩
          · have c22 := zu_lcmp_sp (m0 214 (m0 210 a1)) 0
            refine zw_ite (fun h23 => ?_) (fun h23 => ?_)
            · exact zw_some ⟨hIm0, hFm0, hRKNm0, ⟨by omega, by omega⟩⟩
            · exact zw_some ⟨hIm0, hFm0, hRKNm0, ⟨by omega, by omega⟩⟩
        · refine zw_ite (fun h24 => ?_) (fun h24 => ?_)
          · have c25 := zu_lcmp_sp (m0 214 (m0 209 a1)) 0
            refine zw_ite (fun h26 => ?_) (fun h26 => ?_)
            · exact zw_some ⟨hIm0, hFm0, hRKNm0, ⟨by omega, by omega⟩⟩
            · have c27 := zu_lcmp_sp (m0 214 (m0 210 a1)) 0
              refine zw_ite (fun h28 => ?_) (fun h28 => ?_)
              · exact zw_some ⟨hIm0, hFm0, hRKNm0, ⟨by omega, by omega⟩⟩
              · exact zw_some ⟨hIm0, hFm0, hRKNm0, ⟨by omega, by omega⟩⟩
          · refine zw_ite (fun h29 => ?_) (fun h29 => ?_)
            · have b30 : 0 ≤ a1 ∧ a1 < 128 := by omega
              refine zw_if b30 ?_
              refine zw_bd (zw_mono (zk_120 n hIm0 ⟨by omega, by omega⟩ ⟨by omega, by omega⟩ ⟨by omega, by omega⟩) (fun v32 m31 hqm31 => ?_))
              obtain ⟨hIm31, hfm31, hvm31⟩ := hqm31
              have hFm31 := zfr_tr hFm0 hfm31 rfl
              have hRKNm31 := zR_KN_fr (zdis_fr hfm31 rfl) hRKNm0
              refine zw_ite (fun h33 => ?_) (fun h33 => ?_)
              · exact zw_some ⟨hIm31, hFm31, hRKNm31, ⟨by omega, by omega⟩⟩
              · exact zw_some ⟨hIm31, hFm31, hRKNm31, ⟨by omega, by omega⟩⟩
            · refine zw_ite (fun h34 => ?_) (fun h34 => ?_)
              · have b35 : 0 ≤ a1 ∧ a1 < 128 := by omega
                refine zw_if b35 ?_
                refine zw_bd (zw_mono (zk_120 n hIm0 ⟨by omega, by omega⟩ ⟨by omega, by omega⟩ ⟨by omega, by omega⟩) (fun v37 m36 hqm36 => ?_))
                obtain ⟨hIm36, hfm36, hvm36⟩ := hqm36
                have hFm36 := zfr_tr hFm0 hfm36 rfl
                have hRKNm36 := zR_KN_fr (zdis_fr hfm36 rfl) hRKNm0
                refine zw_ite (fun h38 => ?_) (fun h38 => ?_)
                · exact zw_some ⟨hIm36, hFm36, hRKNm36, ⟨by omega, by omega⟩⟩
                · exact zw_some ⟨hIm36, hFm36, hRKNm36, ⟨by omega, by omega⟩⟩
              · refine zw_ite (fun h39 => ?_) (fun h39 => ?_)
                · have b40 : 0 ≤ a1 ∧ a1 < 128 := by omega
                  refine zw_if b40 ?_
                  refine zw_bd (zw_mono (zk_120 n hIm0 ⟨by omega, by omega⟩ ⟨by omega, by omega⟩ ⟨by omega, by omega⟩) (fun v42 m41 hqm41 => ?_))
                  obtain ⟨hIm41, hfm41, hvm41⟩ := hqm41
                  have hFm41 := zfr_tr hFm0 hfm41 rfl
                  have hRKNm41 := zR_KN_fr (zdis_fr hfm41 rfl) hRKNm0
                  refine zw_ite (fun h43 => ?_) (fun h43 => ?_)
                  · exact zw_some ⟨hIm41, hFm41, hRKNm41, ⟨by omega, by omega⟩⟩
                  · exact zw_some ⟨hIm41, hFm41, hRKNm41, ⟨by omega, by omega⟩⟩
                · refine zw_ite (fun h44 => ?_) (fun h44 => ?_)
                  · have b45 : 0 ≤ a1 ∧ a1 < 128 := by omega
                    refine zw_if b45 ?_
                    refine zw_bd (zw_mono (zk_120 n hIm0 ⟨by omega, by omega⟩ ⟨by omega, by omega⟩ ⟨by omega, by omega⟩) (fun v47 m46 hqm46 => ?_))
                    obtain ⟨hIm46, hfm46, hvm46⟩ := hqm46
                    have hFm46 := zfr_tr hFm0 hfm46 rfl
                    have hRKNm46 := zR_KN_fr (zdis_fr hfm46 rfl) hRKNm0
                    refine zw_ite (fun h48 => ?_) (fun h48 => ?_)
                    · exact zw_some ⟨hIm46, hFm46, hRKNm46, ⟨by omega, by omega⟩⟩
                    · exact zw_some ⟨hIm46, hFm46, hRKNm46, ⟨by omega, by omega⟩⟩
                  · refine zw_ite (fun h49 => ?_) (fun h49 => ?_)
                    · have b50 : 0 ≤ a1 ∧ a1 < 128 := by omega
                      refine zw_if b50 ?_
                      refine zw_bd (zw_mono (zk_120 n hIm0 ⟨by omega, by omega⟩ ⟨by omega, by omega⟩ ⟨by omega, by omega⟩) (fun v52 m51 hqm51 => ?_))
                      obtain ⟨hIm51, hfm51, hvm51⟩ := hqm51
                      have hFm51 := zfr_tr hFm0 hfm51 rfl
                      have hRKNm51 := zR_KN_fr (zdis_fr hfm51 rfl) hRKNm0
                      refine zw_ite (fun h53 => ?_) (fun h53 => ?_)
                      · exact zw_some ⟨hIm51, hFm51, hRKNm51, ⟨by omega, by omega⟩⟩
                      · exact zw_some ⟨hIm51, hFm51, hRKNm51, ⟨by omega, by omega⟩⟩
                    · refine zw_ite (fun h54 => ?_) (fun h54 => ?_)
                      · have b55 : 0 ≤ a1 ∧ a1 < 128 := by omega
                        refine zw_if b55 ?_
                        refine zw_bd (zw_mono (zk_120 n hIm0 ⟨by omega, by omega⟩ ⟨by omega, by omega⟩ ⟨by omega, by omega⟩) (fun v57 m56 hqm56 => ?_))
                        obtain ⟨hIm56, hfm56, hvm56⟩ := hqm56
                        have hFm56 := zfr_tr hFm0 hfm56 rfl
                        have hRKNm56 := zR_KN_fr (zdis_fr hfm56 rfl) hRKNm0
                        refine zw_ite (fun h58 => ?_) (fun h58 => ?_)
                        · exact zw_some ⟨hIm56, hFm56, hRKNm56, ⟨by omega, by omega⟩⟩
                        · exact zw_some ⟨hIm56, hFm56, hRKNm56, ⟨by omega, by omega⟩⟩
                      · refine zw_ite (fun h59 => ?_) (fun h59 => ?_)
                        · have w60 := zu_w64_rg ((m0 214 (m0 209 a1)) + (m0 214 (m0 210 a1)))
                          refine zw_bd (zw_mono (zk_119 n hIm0 hc0 ⟨by omega, by omega⟩) (fun v62 m61 hqm61 => ?_))
                          obtain ⟨hIm61, hfm61, hvm61⟩ := hqm61
                          have hFm61 := zfr_tr hFm0 hfm61 rfl
                          have hRKNm61 := zR_KN_fr (zdis_fr hfm61 rfl) hRKNm0
                          exact zw_some ⟨hIm61, hFm61, hRKNm61, ⟨by omega, by omega⟩⟩
                        · refine zw_ite (fun h63 => ?_) (fun h63 => ?_)
                          · have w64 := zu_w64_rg ((m0 214 (m0 209 a1)) - (m0 214 (m0 210 a1)))
                            refine zw_bd (zw_mono (zk_119 n hIm0 hc0 ⟨by omega, by omega⟩) (fun v66 m65 hqm65 => ?_))
                            obtain ⟨hIm65, hfm65, hvm65⟩ := hqm65
                            have hFm65 := zfr_tr hFm0 hfm65 rfl
                            have hRKNm65 := zR_KN_fr (zdis_fr hfm65 rfl) hRKNm0
                            exact zw_some ⟨hIm65, hFm65, hRKNm65, ⟨by omega, by omega⟩⟩
                          · refine zw_ite (fun h67 => ?_) (fun h67 => ?_)
                            · refine zw_bd (zw_mono (zk_121 n hIm0 hc0 ⟨by omega, by omega⟩ ⟨by omega, by omega⟩) (fun v69 m68 hqm68 => ?_))
                              obtain ⟨hIm68, hfm68, hvm68⟩ := hqm68
                              have hFm68 := zfr_tr hFm0 hfm68 rfl
                              have hRKNm68 := zR_KN_fr (zdis_fr hfm68 rfl) hRKNm0
                              exact zw_some ⟨hIm68, hFm68, hRKNm68, ⟨by omega, by omega⟩⟩
                            · refine zw_ite (fun h70 => ?_) (fun h70 => ?_)
                              · have r71 : 0 ≤ (m0 a0 53) ∧ (m0 a0 53) ≤ 1 := zi_rd hIm0 hc0 zb_28_53
                                refine zw_ite (fun h72 => ?_) (fun h72 => ?_)
                                · refine zw_b (by omega) ?_
                                  generalize hmm73 : zu_up m0 a0 53 1 = m73
                                  have hIm73 := zi_up hmm73 hIm0 hc0 zb_28_53 (by omega) (by omega)
                                  have hFm73 := zfr_up hmm73 hFm0 hc0 rfl
                                  have hRKNm73 := zR_KN_fr (zdis_fr (zfr_up hmm73 (zfr_rf [(28, 54)] _) hc0 rfl) rfl) hRKNm0
                                  have r74 : 0 ≤ (m73 a0 53) ∧ (m73 a0 53) ≤ 1 := zi_rd hIm73 hc0 zb_28_53
                                  have e75 : (m73 a0 53) = 1 := (zs_eq hmm73)
                                  refine zw_ite (fun h76 => ?_) (fun h76 => ?_)
                                  · exfalso; omega
                                  · exact zw_some ⟨hIm73, hFm73, hRKNm73, ⟨by omega, by omega⟩⟩
                                · have c77 := zu_lcmp_sp (m0 214 (m0 210 a1)) 0
                                  refine zw_ite (fun h78 => ?_) (fun h78 => ?_)
                                  · refine zw_b (by omega) ?_
                                    generalize hmm79 : zu_up m0 a0 53 0 = m79
                                    have hIm79 := zi_up hmm79 hIm0 hc0 zb_28_53 (by omega) (by omega)
                                    have hFm79 := zfr_up hmm79 hFm0 hc0 rfl
                                    have hRKNm79 := zR_KN_fr (zdis_fr (zfr_up hmm79 (zfr_rf [(28, 54)] _) hc0 rfl) rfl) hRKNm0
                                    have r80 : 0 ≤ (m79 a0 53) ∧ (m79 a0 53) ≤ 1 := zi_rd hIm79 hc0 zb_28_53
                                    have e81 : (m79 a0 53) = 0 := (zs_eq hmm79)
                                    refine zw_ite (fun h82 => ?_) (fun h82 => ?_)
                                    · refine zw_nif (by omega) ?_
                                      have w83 := zu_w64_rg (Int.tdiv (m0 214 (m0 209 a1)) (m0 214 (m0 210 a1)))
                                      exact zw_some ⟨hIm79, hFm79, hRKNm79, ⟨by omega, by omega⟩⟩
                                    · exfalso; omega
                                  · refine zw_b (by omega) ?_
                                    generalize hmm84 : zu_up m0 a0 53 1 = m84
                                    have hIm84 := zi_up hmm84 hIm0 hc0 zb_28_53 (by omega) (by omega)
                                    have hFm84 := zfr_up hmm84 hFm0 hc0 rfl
                                    have hRKNm84 := zR_KN_fr (zdis_fr (zfr_up hmm84 (zfr_rf [(28, 54)] _) hc0 rfl) rfl) hRKNm0
                                    have r85 : 0 ≤ (m84 a0 53) ∧ (m84 a0 53) ≤ 1 := zi_rd hIm84 hc0 zb_28_53
                                    have e86 : (m84 a0 53) = 1 := (zs_eq hmm84)
                                    refine zw_ite (fun h87 => ?_) (fun h87 => ?_)
                                    · exfalso; omega
                                    · exact zw_some ⟨hIm84, hFm84, hRKNm84, ⟨by omega, by omega⟩⟩
                              · exfalso; omega
      · have c88 := zu_lcmp_sp (m0 214 (m0 209 a1)) 0
        refine zw_ite (fun h89 => ?_) (fun h89 => ?_)
        · exact zw_some ⟨hIm0, hFm0, hRKNm0, ⟨by omega, by omega⟩⟩
        · exact zw_some ⟨hIm0, hFm0, hRKNm0, ⟨by omega, by omega⟩⟩
    · have b90 : 0 ≤ a1 ∧ a1 < 128 := by omega
      refine zw_if b90 ?_
      have r91 : 0 ≤ (m0 209 a1) ∧ (m0 209 a1) ≤ 9999 := zi_rd hIm0 zq_209 (zb_118 _)
      have s92 := hRKNm0 a1 (by omega) (by omega)
      have b93 : 0 ≤ (m0 209 a1) ∧ (m0 209 a1) < 7 := by omega
      refine zw_if b93 ?_
      have r94 : (-2147483648) ≤ (m0 213 (m0 209 a1)) ∧ (m0 213 (m0 209 a1)) ≤ 2147483647 := zi_rd hIm0 zq_213 (zb_122 _)
      exact zw_some ⟨hIm0, hFm0, hRKNm0, ⟨by omega, by omega⟩⟩
  · have b95 : 0 ≤ a1 ∧ a1 < 128 := by omega
    refine zw_if b95 ?_
    have r96 : 0 ≤ (m0 209 a1) ∧ (m0 209 a1) ≤ 9999 := zi_rd hIm0 zq_209 (zb_118 _)
    exact zw_some ⟨hIm0, hFm0, hRKNm0, ⟨by omega, by omega⟩⟩
set_option maxHeartbeats 4000000 in
theorem zl_126 (n : Nat) {a0 : Int} {m0 : zu_m} (hc0 : zcls a0 = 28)   : ∀ k : Nat, (∀ (x1 : Int) (mh : zu_m), zi_I mh → zfr [(28, 65), (28, 66), (28, 67), (28, 68), (28, 69), (28, 70), (124, 0), (125, 2), (126, 0), (127, 0), (129, 0), (130, 0)] m0 mh → (0 ≤ x1 ∧ x1 ≤ 18) → (zE1 mh 0) → (18 - x1) * 1 + 5 < (k : Int) → zw (zu_ex (zt_T n) 126 2 [(40, a0), (0, x1)] [] mh) (fun v m => zi_I m ∧ zfr [(28, 65), (28, 66), (28, 67), (28, 68), (28, 69), (28, 70), (124, 0), (125, 2), (126, 0), (127, 0), (129, 0), (130, 0)] m0 m ∧ zE1 m 1 ∧ zE1 m 0 ∧ True ∧ (0 ≤ m 216 1 ∧ m 216 1 ≤ 16))) ∧ (∀ (x1 : Int) (mh : zu_m), zi_I mh → zfr [(28, 65), (28, 66), (28, 67), (28, 68), (28, 69), (28, 70), (124, 0), (125, 2), (126, 0), (127, 0), (129, 0), (130, 0)] m0 mh → (0 ≤ x1 ∧ x1 ≤ 4) → (0 ≤ mh 216 1 ∧ mh 216 1 ≤ 16) → (zE1p mh 1 x1) → (zE1 mh 0) → (4 - x1) * 1 + 0 < (k : Int) → zw (zu_ex (zt_T n) 126 43 [(40, a0), (0, x1)] [] mh) (fun v m => zi_I m ∧ zfr [(28, 65), (28, 66), (28, 67), (28, 68), (28, 69), (28, 70), (124, 0), (125, 2), (126, 0), (127, 0), (129, 0), (130, 0)] m0 m ∧ zE1 m 1 ∧ zE1 m 0 ∧ True ∧ (0 ≤ m 216 1 ∧ m 216 1 ≤ 16))) := by
  intro k
  induction k with
  | zero => exact ⟨fun x1 mh hImh hFmh hbx1 hRSEmh hM => by exfalso; omega, fun x1 mh hImh hFmh hbx1 hg1 hH0 hRSEmh hM => by exfalso; omega⟩
  | succ k ih =>
    refine ⟨?_, ?_⟩
    · intro x1 mh hImh hFmh hbx1 hRSEmh hM
      refine zw_eq (zu_rega_at (zt_T n) (zm_126 n) (zdp_126 n) _ _ _ _ _ _ (zr_126_2 n _ _ a0 x1 mh)) ?_
      refine zw_ite (fun h1 => ?_) (fun h1 => ?_)
      · have b2 : 0 ≤ (0 : Int) ∧ (0 : Int) < 2 := by omega
        refine zw_if b2 ?_
        have r3 : 0 ≤ (mh 216 0) ∧ (mh 216 0) ≤ 16 := zi_rdr (m := 2) (r0 := 0) (r1 := 0) hImh zq_216 (by omega) (by decide +kernel)
        have b4 : 0 ≤ (1 : Int) ∧ (1 : Int) < 2 := by omega
        refine zw_if b4 ?_
        generalize hmm5 : zu_up mh 216 1 (mh 216 0) = m5
        have hIm5 := zi_upr (m := 2) (r0 := 1) (r1 := 1) (lo := 0) (hi := 18) hmm5 hImh zq_216 (by omega) (by decide +kernel) (by omega) (by omega)
        have hFm5 := zfr_up hmm5 hFmh zq_216 rfl
        have hRSEm5 := zR_SE_fr (zdis_fr (zfr_up hmm5 (zfr_rf [(125, 2)] _) zq_216 rfl) rfl) hRSEmh
        have r6 : 0 ≤ (m5 216 1) ∧ (m5 216 1) ≤ 18 := zi_rdr (m := 2) (r0 := 1) (r1 := 1) hIm5 zq_216 (by omega) (by decide +kernel)
        have e7 : (m5 216 1) = (mh 216 0) := (zs_eq hmm5)
        have hM : (4 - 0) * 1 + 0 < (k : Int) := by omega
        exact ih.2 0 m5 hIm5 hFm5 ⟨by omega, by omega⟩ ⟨by omega, by omega⟩ (zE1p_0 _ _) hRSEm5 hM
      · have w8 := zu_w32_id (z := 18 + x1) (by omega) (by omega)
        have b9 : 0 ≤ x1 ∧ x1 < 36 := by omega
        refine zw_if b9 ?_
        have r10 : (-3) ≤ (mh 215 x1) ∧ (mh 215 x1) ≤ 3 := zi_rd hImh zq_215 (zb_124 _)
        have b11 : 0 ≤ (zu_w32 (18 + x1)) ∧ (zu_w32 (18 + x1)) < 36 := by omega
        refine zw_if b11 ?_
        generalize hmm12 : zu_up mh 215 (zu_w32 (18 + x1)) (mh 215 x1) = m12
        have hIm12 := zi_up hmm12 hImh zq_215 (zb_124 _) (by omega) (by omega)
        have hFm12 := zfr_up hmm12 hFmh zq_215 rfl
        have hRSEm12 := zR_SE_fr (zdis_fr (zfr_up hmm12 (zfr_rf [(124, 0)] _) zq_215 rfl) rfl) hRSEmh
        have w13 := zu_w32_id (z := x1 + 1) (by omega) (by omega)
        have hM : (18 - (zu_w32 (x1 + 1))) * 1 + 5 < (k : Int) := by omega
        exact ih.1 (zu_w32 (x1 + 1)) m12 hIm12 hFm12 ⟨by omega, by omega⟩ hRSEm12 hM
    · intro x1 mh hImh hFmh hbx1 hg1 hH0 hRSEmh hM
      refine zw_eq (zu_rega_at (zt_T n) (zm_126 n) (zdp_126 n) _ _ _ _ _ _ (zr_126_43 n _ _ a0 x1 mh)) ?_
      refine zw_ite (fun h14 => ?_) (fun h14 => ?_)
      · have hRS1mh := zE1_of hH0 (by omega)
        have b15 : 0 ≤ (0 : Int) ∧ (0 : Int) < 2 := by omega
        refine zw_if b15 ?_
        have r16 : (-9223372036854775808) ≤ (mh 220 0) ∧ (mh 220 0) ≤ 9223372036854775807 := zi_rd hImh zq_220 (zb_129 _)
        have b17 : 0 ≤ (1 : Int) ∧ (1 : Int) < 2 := by omega
        refine zw_if b17 ?_
        generalize hmm18 : zu_up mh 220 1 (mh 220 0) = m18
        have hIm18 := zi_up hmm18 hImh zq_220 (zb_129 _) (by omega) (by omega)
        have hFm18 := zfr_up hmm18 hFmh zq_220 rfl
        have hRS1m18 := zR_S1_fr (zdis_fr (zfr_up hmm18 (zfr_rf [(129, 0)] _) zq_220 rfl) rfl) hRS1mh
        have hRSEm18 := zR_SE_fr (zdis_fr (zfr_up hmm18 (zfr_rf [(129, 0)] _) zq_220 rfl) rfl) hRSEmh
        have b19 : 0 ≤ (0 : Int) ∧ (0 : Int) < 2 := by omega
        refine zw_if b19 ?_
        have r20 : (-2147483648) ≤ (m18 221 0) ∧ (m18 221 0) ≤ 2147483647 := zi_rd hIm18 zq_221 (zb_130 _)
        have b21 : 0 ≤ (1 : Int) ∧ (1 : Int) < 2 := by omega
        refine zw_if b21 ?_
        generalize hmm22 : zu_up m18 221 1 (m18 221 0) = m22
        have hIm22 := zi_up hmm22 hIm18 zq_221 (zb_130 _) (by omega) (by omega)
        have hFm22 := zfr_up hmm22 hFm18 zq_221 rfl
        have hRS1m22 := zR_S1_fr (zdis_fr (zfr_up hmm22 (zfr_rf [(130, 0)] _) zq_221 rfl) rfl) hRS1m18
        have hRSEm22 := zR_SE_fr (zdis_fr (zfr_up hmm22 (zfr_rf [(130, 0)] _) zq_221 rfl) rfl) hRSEm18
        refine zw_bd (zw_mono (zk_35 n hIm22 hc0) (fun v24 m23 hqm23 => ?_))
        obtain ⟨hIm23, hfm23, hvm23⟩ := hqm23
        have hFm23 := zfr_tr hFm22 hfm23 rfl
        have hRS1m23 := zR_S1_fr (zdis_fr hfm23 rfl) hRS1m22
        have hRSEm23 := zR_SE_fr (zdis_fr hfm23 rfl) hRSEm22
        have r25 : 0 ≤ (m23 216 1) ∧ (m23 216 1) ≤ 18 := zi_rdr (m := 2) (r0 := 1) (r1 := 1) hIm23 zq_216 (by omega) (by decide +kernel)
        have e26 : (m23 216 1) = (mh 216 1) := (Eq.trans (zfr_ap hfm23 zq_216 rfl) (Eq.trans (zs_ne hmm22 (Or.inl (zc_ne zq_216 zq_221 (by decide)))) (zs_ne hmm18 (Or.inl (zc_ne zq_216 zq_220 (by decide))))))
        exact zw_some ⟨hIm23, hFm23, hRS1m23, hRSEm23, trivial, ⟨by omega, by omega⟩⟩
      · have w27 := zu_w32_id (z := 4 + x1) (by omega) (by omega)
        have b28 : 0 ≤ x1 ∧ x1 < 8 := by omega
        refine zw_if b28 ?_
        have r29 : 0 ≤ (mh 217 x1) ∧ (mh 217 x1) ≤ 47 := zi_rd hImh zq_217 (zb_126 _)
        have b30 : 0 ≤ (zu_w32 (4 + x1)) ∧ (zu_w32 (4 + x1)) < 8 := by omega
        refine zw_if b30 ?_
        generalize hmm31 : zu_up mh 217 (zu_w32 (4 + x1)) (mh 217 x1) = m31
        have hIm31 := zi_up hmm31 hImh zq_217 (zb_126 _) (by omega) (by omega)
        have hFm31 := zfr_up hmm31 hFmh zq_217 rfl
        have hcv := zE1_rdi (c := x1) (i := x1) hRSEmh (zone_190 hc0) (by omega) (by omega) (by omega)
        have hzpm31 := zE1p_s (y := x1 + 1) hmm31 (zone_190 hc0) (by omega) rfl hcv hH0
        have hRSEm31 := zE1_upx (b' := 1) (x := x1) hmm31 (zone_190 hc0) (by omega) (by omega) (by omega) hcv hRSEmh
        have b32 : 0 ≤ x1 ∧ x1 < 8 := by omega
        refine zw_if b32 ?_
        have r33 : (-2147483648) ≤ (m31 218 x1) ∧ (m31 218 x1) ≤ 2147483647 := zi_rd hIm31 zq_218 (zb_127 _)
        have b34 : 0 ≤ (zu_w32 (4 + x1)) ∧ (zu_w32 (4 + x1)) < 8 := by omega
        refine zw_if b34 ?_
        generalize hmm35 : zu_up m31 218 (zu_w32 (4 + x1)) (m31 218 x1) = m35
        have hIm35 := zi_up hmm35 hIm31 zq_218 (zb_127 _) (by omega) (by omega)
        have hFm35 := zfr_up hmm35 hFm31 zq_218 rfl
        have hRSEm35 := zR_SE_fr (zdis_fr (zfr_up hmm35 (zfr_rf [(127, 0)] _) zq_218 rfl) rfl) hRSEm31
        have w36 := zu_w32_id (z := x1 + 1) (by omega) (by omega)
        have r37 : 0 ≤ (m35 216 1) ∧ (m35 216 1) ≤ 18 := zi_rdr (m := 2) (r0 := 1) (r1 := 1) hIm35 zq_216 (by omega) (by decide +kernel)
        have e38 : (m35 216 1) = (mh 216 1) := (Eq.trans (zs_ne hmm35 (Or.inl (zc_ne zq_216 zq_218 (by decide)))) (zs_ne hmm31 (Or.inl (zc_ne zq_216 zq_217 (by decide)))))
        have hM : (4 - (zu_w32 (x1 + 1))) * 1 + 0 < (k : Int) := by omega
        exact ih.2 (zu_w32 (x1 + 1)) m35 hIm35 hFm35 ⟨by omega, by omega⟩ ⟨by omega, by omega⟩ (zE1p_mv hzpm31 (fun _ => (zs_ne hmm35 (Or.inl (zc_ne zq_217 zq_218 (by decide))))) (zs_ne hmm35 (Or.inl (zc_ne zq_190 zq_218 (by decide)))) (zs_ne hmm35 (Or.inl (zc_ne zq_190 zq_218 (by decide)))) (zs_ne hmm35 (Or.inl (zc_ne zq_190 zq_218 (by decide)))) (by omega)) hRSEm35 hM
set_option maxHeartbeats 4000000 in
theorem zk_126 (n : Nat) {a0 : Int} {m0 : zu_m} (hIm0 : zi_I m0) (hc0 : zcls a0 = 28)     (hRSEm0 : zE1 m0 0) : zw (zu_call (zt_T n) 126 [(40, a0)] m0) (fun v m => zi_I m ∧ zfr [(28, 65), (28, 66), (28, 67), (28, 68), (28, 69), (28, 70), (124, 0), (125, 2), (126, 0), (127, 0), (129, 0), (130, 0)] m0 m ∧ zE1 m 1 ∧ zE1 m 0 ∧ True ∧ (0 ≤ m 216 1 ∧ m 216 1 ≤ 16)) := by
  have hFm0 : zfr [(28, 65), (28, 66), (28, 67), (28, 68), (28, 69), (28, 70), (124, 0), (125, 2), (126, 0), (127, 0), (129, 0), (130, 0)] m0 m0 := zfr_rf _ _
  refine zw_eq (zu_call_at (zt_T n) (zm_126 n) (zdp_126 n) _ _ _ _ _ rfl (zr_126_0 n _ _ a0 m0)) ?_
  have hM : (18 - 0) * 1 + 5 < ((24 : Nat) : Int) := by omega
  exact (zl_126 n (m0 := m0) hc0 24).1 0 m0 hIm0 hFm0 ⟨by omega, by omega⟩ hRSEm0 hM
set_option maxHeartbeats 4000000 in
theorem zk_134 (n : Nat) {a0 a1 a2 : Int} {m0 : zu_m} (hIm0 : zi_I m0) (hc0 : zcls a0 = 28) (ha1 : 0 ≤ a1 ∧ a1 ≤ 3) (ha2 : 0 ≤ a2 ∧ a2 ≤ 47)     : zw (zu_call (zt_T n) 134 [(40, a0), (0, a1), (0, a2)] m0) (fun v m => zi_I m ∧ zfr [] m0 m ∧ (0 ≤ v ∧ v ≤ 1)) := by
  have hFm0 : zfr [] m0 m0 := zfr_rf _ _
  refine zw_eq (zu_call_at (zt_T n) (zm_134 n) (zdp_134 n) _ _ _ _ _ rfl (zr_134_0 n _ _ a0 a1 a2 m0)) ?_
  have r1 : (-2147483648) ≤ (m0 a0 64) ∧ (m0 a0 64) ≤ 2147483647 := zi_rd hIm0 hc0 zb_28_64
  refine zw_ite (fun h2 => ?_) (fun h2 => ?_)
  · refine zw_b (by omega) ?_
    exact zw_some ⟨hIm0, hFm0, ⟨by omega, by omega⟩⟩
  · refine zw_bd (zw_eq (zu_call_at (zt_T n) (zm_128 n) (zdp_128 n) _ _ _ _ _ rfl (zr_128_0 n _ _ a0 a1 m0)) ?_)
    have r3 : 0 ≤ (m0 a0 68) ∧ (m0 a0 68) ≤ 1 := zi_rd hIm0 hc0 zb_28_68
    refine zw_ite (fun h4 => ?_) (fun h4 => ?_)
    · have b5 : 0 ≤ a1 ∧ a1 < 8 := by omega
      refine zw_if b5 ?_
      have r6 : 0 ≤ (m0 202 a1) ∧ (m0 202 a1) ≤ 15 := zi_rd hIm0 zq_202 (zb_111 _)
      refine zw_some ?_
      refine zw_ite (fun h7 => ?_) (fun h7 => ?_)
      · refine zw_b (by omega) ?_
        exact zw_some ⟨hIm0, hFm0, ⟨by omega, by omega⟩⟩
      · have r8 : 1 ≤ (m0 a0 12) ∧ (m0 a0 12) ≤ 8 := zi_rd hIm0 hc0 zb_28_12
        refine zw_nif (by omega) ?_
        have d9 := ztdiv_bd (x := a2) (y := (m0 a0 12)) (by omega) (by omega)
        have w10 := zu_w32_id (z := Int.tdiv a2 (m0 a0 12)) (by omega) (by omega)
        have b11 : 0 ≤ (1 : Int) ∧ (1 : Int) < 10 := by omega
        refine zw_if b11 ?_
        have r12 : (-1) ≤ (m0 194 1) ∧ (m0 194 1) ≤ 99999 := zi_rd hIm0 zq_194 (zb_103 _)
        refine zw_ite (fun h13 => ?_) (fun h13 => ?_)
        · refine zw_b (by omega) ?_
          exact zw_some ⟨hIm0, hFm0, ⟨by omega, by omega⟩⟩
        · refine zw_b (by omega) ?_
          exact zw_some ⟨hIm0, hFm0, ⟨by omega, by omega⟩⟩
    · refine zw_some ?_
      refine zw_ite (fun h14 => ?_) (fun h14 => ?_)
      · exfalso; omega
      · have r15 : 1 ≤ (m0 a0 12) ∧ (m0 a0 12) ≤ 8 := zi_rd hIm0 hc0 zb_28_12
        refine zw_nif (by omega) ?_
        have d16 := ztdiv_bd (x := a2) (y := (m0 a0 12)) (by omega) (by omega)
        have w17 := zu_w32_id (z := Int.tdiv a2 (m0 a0 12)) (by omega) (by omega)
        have b18 : 0 ≤ (1 : Int) ∧ (1 : Int) < 10 := by omega
        refine zw_if b18 ?_
        have r19 : (-1) ≤ (m0 194 1) ∧ (m0 194 1) ≤ 99999 := zi_rd hIm0 zq_194 (zb_103 _)
        refine zw_ite (fun h20 => ?_) (fun h20 => ?_)
        · refine zw_b (by omega) ?_
          exact zw_some ⟨hIm0, hFm0, ⟨by omega, by omega⟩⟩
        · refine zw_b (by omega) ?_
          exact zw_some ⟨hIm0, hFm0, ⟨by omega, by omega⟩⟩
set_option maxHeartbeats 4000000 in
theorem zl_141 (n : Nat) {a0 a1 : Int} {m0 : zu_m} (hc0 : zcls a0 = 28)   : ∀ k : Nat, (∀ (x2 x3 x4 : Int) (mh : zu_m), zi_I mh → zfr [] m0 mh → (0 ≤ a1 ∧ a1 ≤ 1) → (0 ≤ x2 ∧ x2 ≤ 2147483647) → ((-2147483648) ≤ x3 ∧ x3 ≤ 99) → (0 ≤ x4 ∧ x4 ≤ 4) → (4 - x4) * 1 + 0 < (k : Int) → zw (zu_ex (zt_T n) 141 8 [(40, a0), (0, a1), (0, x2), (0, x3), (0, x4), (2, 0)] [] mh) (fun v m => zi_I m ∧ zfr [] m0 m ∧ ((-2147483648) ≤ v ∧ v ≤ 2147483647))) := by
  intro k
  induction k with
  | zero => exact fun x2 x3 x4 mh hImh hFmh hba1 hbx2 hbx3 hbx4 hM => by exfalso; omega
  | succ k ih =>
    intro x2 x3 x4 mh hImh hFmh hba1 hbx2 hbx3 hbx4 hM
    refine zw_eq (zu_rega_at (zt_T n) (zm_141 n) (zdp_141 n) _ _ _ _ _ _ (zr_141_8 n _ _ a0 a1 x2 x3 x4 mh)) ?_
    have r1 : 0 ≤ (mh a0 15) ∧ (mh a0 15) ≤ 4 := zi_rd hImh hc0 zb_28_15
    refine zw_ite (fun h2 => ?_) (fun h2 => ?_)
    · refine zw_ite (fun h3 => ?_) (fun h3 => ?_)
      · have w4 := zu_w32_rg (x2 - x3)
        exact zw_some ⟨hImh, hFmh, ⟨by omega, by omega⟩⟩
      · exact zw_some ⟨hImh, hFmh, ⟨by omega, by omega⟩⟩
    · refine zw_bd (zw_mono (zk_130 n hImh hc0 ⟨by omega, by omega⟩ ⟨by omega, by omega⟩) (fun v6 m5 hqm5 => ?_))
      obtain ⟨hIm5, hfm5, hvm5⟩ := hqm5
      have hFm5 := zfr_tr hFmh hfm5 rfl
      refine zw_ite (fun h7 => ?_) (fun h7 => ?_)
      · refine zw_ite (fun h8 => ?_) (fun h8 => ?_)
        · have w9 := zu_w32_id (z := x4 + 1) (by omega) (by omega)
          have hM : (4 - (zu_w32 (x4 + 1))) * 1 + 0 < (k : Int) := by omega
          exact zw_le (zu_forget (zu_lr_same (zu_lr_same (zu_lr_same (zu_lr_same (zu_lr_same (zu_lr_drop zu_lr_nil))))))) (ih x2 x3 (zu_w32 (x4 + 1)) m5 hIm5 hFm5 ⟨by omega, by omega⟩ ⟨by omega, by omega⟩ ⟨by omega, by omega⟩ ⟨by omega, by omega⟩ hM)
        · have w10 := zu_w32_id (z := x4 + 1) (by omega) (by omega)
          have hM : (4 - (zu_w32 (x4 + 1))) * 1 + 0 < (k : Int) := by omega
          exact zw_le (zu_forget (zu_lr_same (zu_lr_same (zu_lr_same (zu_lr_same (zu_lr_same (zu_lr_drop zu_lr_nil))))))) (ih x2 v6 (zu_w32 (x4 + 1)) m5 hIm5 hFm5 ⟨by omega, by omega⟩ ⟨by omega, by omega⟩ ⟨by omega, by omega⟩ ⟨by omega, by omega⟩ hM)
      · refine zw_ite (fun h11 => ?_) (fun h11 => ?_)
        · have w12 := zu_w32_id (z := x4 + 1) (by omega) (by omega)
          have hM : (4 - (zu_w32 (x4 + 1))) * 1 + 0 < (k : Int) := by omega
          exact zw_le (zu_forget (zu_lr_same (zu_lr_same (zu_lr_same (zu_lr_same (zu_lr_same (zu_lr_drop zu_lr_nil))))))) (ih v6 x3 (zu_w32 (x4 + 1)) m5 hIm5 hFm5 ⟨by omega, by omega⟩ ⟨by omega, by omega⟩ ⟨by omega, by omega⟩ ⟨by omega, by omega⟩ hM)
        · have w13 := zu_w32_id (z := x4 + 1) (by omega) (by omega)
          have hM : (4 - (zu_w32 (x4 + 1))) * 1 + 0 < (k : Int) := by omega
          exact zw_le (zu_forget (zu_lr_same (zu_lr_same (zu_lr_same (zu_lr_same (zu_lr_same (zu_lr_drop zu_lr_nil))))))) (ih v6 v6 (zu_w32 (x4 + 1)) m5 hIm5 hFm5 ⟨by omega, by omega⟩ ⟨by omega, by omega⟩ ⟨by omega, by omega⟩ ⟨by omega, by omega⟩ hM)
set_option maxHeartbeats 4000000 in
theorem zk_141 (n : Nat) {a0 a1 : Int} {m0 : zu_m} (hIm0 : zi_I m0) (hc0 : zcls a0 = 28) (ha1 : 0 ≤ a1 ∧ a1 ≤ 1)     : zw (zu_call (zt_T n) 141 [(40, a0), (0, a1)] m0) (fun v m => zi_I m ∧ zfr [] m0 m ∧ ((-2147483648) ≤ v ∧ v ≤ 2147483647)) := by
  have hFm0 : zfr [] m0 m0 := zfr_rf _ _
  refine zw_eq (zu_call_at (zt_T n) (zm_141 n) (zdp_141 n) _ _ _ _ _ rfl (zr_141_0 n _ _ a0 a1 m0)) ?_
  have hM : (4 - 0) * 1 + 0 < ((5 : Nat) : Int) := by omega
  exact (zl_141 n (m0 := m0) hc0 5) 0 99 0 m0 hIm0 hFm0 ⟨by omega, by omega⟩ ⟨by omega, by omega⟩ ⟨by omega, by omega⟩ ⟨by omega, by omega⟩ hM
set_option maxHeartbeats 4000000 in
theorem zk_144 (n : Nat) {a0 a1 a2 : Int} {m0 : zu_m} (hIm0 : zi_I m0) (hc0 : zcls a0 = 28) (ha1 : (-2147483648) ≤ a1 ∧ a1 ≤ 2147483647) (ha2 : (-2147483648) ≤ a2 ∧ a2 ≤ 2147483647)     : zw (zu_call (zt_T n) 144 [(40, a0), (0, a1), (0, a2)] m0) (fun v m => zi_I m ∧ zfr [(28, 3)] m0 m ∧ ((-4) ≤ v ∧ v ≤ 47) ∧ (0 ≤ m a0 2 ∧ m a0 2 ≤ 0)) := by
  have hFm0 : zfr [(28, 3)] m0 m0 := zfr_rf _ _
  refine zw_eq (zu_call_at (zt_T n) (zm_144 n) (zdp_144 n) _ _ _ _ _ rfl (zr_144_0 n _ _ a0 a1 a2 m0)) ?_
  generalize hmm1 : zu_up m0 a0 2 0 = m1
  have hIm1 := zi_up hmm1 hIm0 hc0 zb_28_2 (by omega) (by omega)
  have hFm1 := zfr_up hmm1 hFm0 hc0 rfl
  refine zw_bd (zw_eq (zu_call_at (zt_T n) (zm_124 n) (zdp_124 n) _ _ _ _ _ rfl (zr_124_0 n _ _ a0 a1 m1)) ?_)
  refine zw_ite (fun h2 => ?_) (fun h2 => ?_)
  · refine zw_b (by omega) ?_
    refine zw_some ?_
    refine zw_ite (fun h3 => ?_) (fun h3 => ?_)
    · exfalso; omega
    · have r4 : (-2147483648) ≤ (m1 a0 2) ∧ (m1 a0 2) ≤ 2147483647 := zi_rd hIm1 hc0 zb_28_2
      have e5 : (m1 a0 2) = 0 := (zs_eq hmm1)
      exact zw_some ⟨hIm1, hFm1, ⟨by omega, by omega⟩, ⟨by omega, by omega⟩⟩
  · have b6 : 0 ≤ (0 : Int) ∧ (0 : Int) < 2 := by omega
    refine zw_if b6 ?_
    have r7 : 0 ≤ (m1 216 0) ∧ (m1 216 0) ≤ 16 := zi_rdr (m := 2) (r0 := 0) (r1 := 0) hIm1 zq_216 (by omega) (by decide +kernel)
    refine zw_ite (fun h8 => ?_) (fun h8 => ?_)
    · refine zw_b (by omega) ?_
      refine zw_some ?_
      refine zw_ite (fun h9 => ?_) (fun h9 => ?_)
      · exfalso; omega
      · have r10 : (-2147483648) ≤ (m1 a0 2) ∧ (m1 a0 2) ≤ 2147483647 := zi_rd hIm1 hc0 zb_28_2
        have e11 : (m1 a0 2) = 0 := (zs_eq hmm1)
        exact zw_some ⟨hIm1, hFm1, ⟨by omega, by omega⟩, ⟨by omega, by omega⟩⟩
    · refine zw_b (by omega) ?_
      refine zw_some ?_
      refine zw_ite (fun h12 => ?_) (fun h12 => ?_)
      · refine zw_ite (fun h13 => ?_) (fun h13 => ?_)
        · have b14 : 0 ≤ a1 ∧ a1 < 36 := by omega
          refine zw_if b14 ?_
          have r15 : 0 ≤ (m1 197 a1) ∧ (m1 197 a1) ≤ 47 := zi_rd hIm1 zq_197 (zb_106 _)
          have r16 : (-2147483648) ≤ (m1 a0 2) ∧ (m1 a0 2) ≤ 2147483647 := zi_rd hIm1 hc0 zb_28_2
          have e17 : (m1 a0 2) = 0 := (zs_eq hmm1)
          exact zw_some ⟨hIm1, hFm1, ⟨by omega, by omega⟩, ⟨by omega, by omega⟩⟩
        · refine zw_ite (fun h18 => ?_) (fun h18 => ?_)
          · have b19 : 0 ≤ a1 ∧ a1 < 36 := by omega
            refine zw_if b19 ?_
            have r20 : 0 ≤ (m1 198 a1) ∧ (m1 198 a1) ≤ 3 := zi_rd hIm1 zq_198 (zb_107 _)
            have r21 : (-2147483648) ≤ (m1 a0 2) ∧ (m1 a0 2) ≤ 2147483647 := zi_rd hIm1 hc0 zb_28_2
            have e22 : (m1 a0 2) = 0 := (zs_eq hmm1)
            exact zw_some ⟨hIm1, hFm1, ⟨by omega, by omega⟩, ⟨by omega, by omega⟩⟩
          · refine zw_ite (fun h23 => ?_) (fun h23 => ?_)
            · have b24 : 0 ≤ a1 ∧ a1 < 36 := by omega
              refine zw_if b24 ?_
              have r25 : 0 ≤ (m1 199 a1) ∧ (m1 199 a1) ≤ 9 := zi_rd hIm1 zq_199 (zb_108 _)
              have r26 : (-2147483648) ≤ (m1 a0 2) ∧ (m1 a0 2) ≤ 2147483647 := zi_rd hIm1 hc0 zb_28_2
              have e27 : (m1 a0 2) = 0 := (zs_eq hmm1)
              exact zw_some ⟨hIm1, hFm1, ⟨by omega, by omega⟩, ⟨by omega, by omega⟩⟩
            · refine zw_ite (fun h28 => ?_) (fun h28 => ?_)
              · have b29 : 0 ≤ a1 ∧ a1 < 36 := by omega
                refine zw_if b29 ?_
                have r30 : (-3) ≤ (m1 215 a1) ∧ (m1 215 a1) ≤ 3 := zi_rd hIm1 zq_215 (zb_124 _)
                have r31 : (-2147483648) ≤ (m1 a0 2) ∧ (m1 a0 2) ≤ 2147483647 := zi_rd hIm1 hc0 zb_28_2
                have e32 : (m1 a0 2) = 0 := (zs_eq hmm1)
                exact zw_some ⟨hIm1, hFm1, ⟨by omega, by omega⟩, ⟨by omega, by omega⟩⟩
              · have r33 : (-2147483648) ≤ (m1 a0 2) ∧ (m1 a0 2) ≤ 2147483647 := zi_rd hIm1 hc0 zb_28_2
                have e34 : (m1 a0 2) = 0 := (zs_eq hmm1)
                exact zw_some ⟨hIm1, hFm1, ⟨by omega, by omega⟩, ⟨by omega, by omega⟩⟩
      · exfalso; omega
set_option maxHeartbeats 4000000 in
theorem zl_156 (n : Nat) {a0 : Int} {m0 : zu_m} (hc0 : zcls a0 = 28)   : ∀ k : Nat, (∀ (x1 : Int) (mh : zu_m), zi_I mh → zfr [(28, 65), (28, 66), (28, 67), (28, 68), (28, 69), (28, 70), (132, 0)] m0 mh → (0 ≤ x1 ∧ x1 ≤ 48) → (48 - x1) * 1 + 0 < (k : Int) → zw (zu_ex (zt_T n) 156 6 [(40, a0), (0, x1)] [] mh) (fun v m => zi_I m ∧ zfr [(28, 65), (28, 66), (28, 67), (28, 68), (28, 69), (28, 70), (132, 0)] m0 m ∧ True)) := by
  intro k
  induction k with
  | zero => exact fun x1 mh hImh hFmh hbx1 hM => by exfalso; omega
  | succ k ih =>
    intro x1 mh hImh hFmh hbx1 hM
    refine zw_eq (zu_rega_at (zt_T n) (zm_156 n) (zdp_156 n) _ _ _ _ _ _ (zr_156_6 n _ _ a0 x1 mh)) ?_
    refine zw_ite (fun h1 => ?_) (fun h1 => ?_)
    · exact zw_some ⟨hImh, hFmh, trivial⟩
    · have b2 : 0 ≤ x1 ∧ x1 < 48 := by omega
      refine zw_if b2 ?_
      have r3 : (-2147483648) ≤ (mh 222 x1) ∧ (mh 222 x1) ≤ 2147483647 := zi_rd hImh zq_222 (zb_131 _)
      have b4 : 0 ≤ x1 ∧ x1 < 48 := by omega
      refine zw_if b4 ?_
      generalize hmm5 : zu_up mh 223 x1 (mh 222 x1) = m5
      have hIm5 := zi_up hmm5 hImh zq_223 (zb_132 _) (by omega) (by omega)
      have hFm5 := zfr_up hmm5 hFmh zq_223 rfl
      have w6 := zu_w32_id (z := x1 + 1) (by omega) (by omega)
      have hM : (48 - (zu_w32 (x1 + 1))) * 1 + 0 < (k : Int) := by omega
      exact ih (zu_w32 (x1 + 1)) m5 hIm5 hFm5 ⟨by omega, by omega⟩ hM
set_option maxHeartbeats 4000000 in
theorem zk_156 (n : Nat) {a0 : Int} {m0 : zu_m} (hIm0 : zi_I m0) (hc0 : zcls a0 = 28)      : zw (zu_call (zt_T n) 156 [(40, a0)] m0) (fun v m => zi_I m ∧ zfr [(28, 65), (28, 66), (28, 67), (28, 68), (28, 69), (28, 70), (132, 0)] m0 m ∧ True) := by
  have hFm0 : zfr [(28, 65), (28, 66), (28, 67), (28, 68), (28, 69), (28, 70), (132, 0)] m0 m0 := zfr_rf _ _
  refine zw_eq (zu_call_at (zt_T n) (zm_156 n) (zdp_156 n) _ _ _ _ _ rfl (zr_156_0 n _ _ a0 m0)) ?_
  refine zw_bd (zw_mono (zk_35 n hIm0 hc0) (fun v8 m7 hqm7 => ?_))
  obtain ⟨hIm7, hfm7, hvm7⟩ := hqm7
  have hFm7 := zfr_tr hFm0 hfm7 rfl
  have hM : (48 - 0) * 1 + 0 < ((49 : Nat) : Int) := by omega
  exact (zl_156 n (m0 := m0) hc0 49) 0 m7 hIm7 hFm7 ⟨by omega, by omega⟩ hM
set_option maxHeartbeats 4000000 in
theorem zl_166 (n : Nat) {a0 : Int} {m0 : zu_m} (hc0 : zcls a0 = 28)   : ∀ k : Nat, (∀ (x1 : Int) (mh : zu_m), zi_I mh → zfr [(28, 76), (133, 0)] m0 mh → ((-9223372036854775808) ≤ x1 ∧ x1 ≤ 9223372036854775807) → (zhc x1 48 ≤ (mh a0 75)) → (4 - (mh a0 75)) * 50 + 49 < (k : Int) → zw (zu_ex (zt_T n) 166 7 [(40, a0), (1, x1), (2, 0), (2, 0), (2, 0)] [] mh) (fun v m => zi_I m ∧ zfr [(28, 76), (133, 0)] m0 m ∧ True ∧ (1 ≤ m a0 75 ∧ m a0 75 ≤ 4))) ∧ (∀ (x1 x3 x4 : Int) (mh : zu_m), zi_I mh → zfr [(28, 76), (133, 0)] m0 mh → ((-9223372036854775808) ≤ x1 ∧ x1 ≤ 9223372036854775807) → ((-1) ≤ x3 ∧ x3 ≤ 47) → (0 ≤ x4 ∧ x4 ≤ 48) → (0 ≤ mh a0 75 ∧ mh a0 75 ≤ 3) → (zhc x1 48 ≤ (mh a0 75)) → ((mh a0 75) < (m0 a0 12) * (m0 a0 13)) → (x3 < 0 → ∀ k, 0 ≤ k → k < x4 → zhb x1 k = true) → (48 - x4) * 1 + (4 - (mh a0 75)) * 50 + 0 < (k : Int) → zw (zu_ex (zt_T n) 166 31 [(40, a0), (1, x1), (2, 0), (0, x3), (0, x4)] [] mh) (fun v m => zi_I m ∧ zfr [(28, 76), (133, 0)] m0 m ∧ True ∧ (1 ≤ m a0 75 ∧ m a0 75 ≤ 4))) := by
  intro k
  induction k with
  | zero => exact ⟨fun x1 mh hImh hFmh hbx1 hH0 hM => by have zq0 := zi_rd hImh hc0 zb_28_75; exfalso; omega, fun x1 x3 x4 mh hImh hFmh hbx1 hbx3 hbx4 hg3 hH0 hH1 hH2 hM => by have zq0 := zi_rd hImh hc0 zb_28_75; exfalso; omega⟩
  | succ k ih =>
    refine ⟨?_, ?_⟩
    · intro x1 mh hImh hFmh hbx1 hH0 hM
      refine zw_eq (zu_rega_at (zt_T n) (zm_166 n) (zdp_166 n) _ _ _ _ _ _ (zr_166_7 n _ _ a0 x1 mh)) ?_
      have r1 : 0 ≤ (mh a0 75) ∧ (mh a0 75) ≤ 4 := zi_rd hImh hc0 zb_28_75
      have r2 : 1 ≤ (mh a0 12) ∧ (mh a0 12) ≤ 8 := zi_rd hImh hc0 zb_28_12
      have r3 : 1 ≤ (mh a0 13) ∧ (mh a0 13) ≤ 6 := zi_rd hImh hc0 zb_28_13
      have s4 : (mh a0 12) * (mh a0 13) = (m0 a0 12) * (m0 a0 13) := zprod (zfr_ap hFmh hc0 rfl) (zfr_ap hFmh hc0 rfl)
      have p5 := zmul_bd (x := (mh a0 12)) (y := (mh a0 13)) (a := 1) (b := 1) (A := 8) (B := 6) (by omega) (by omega) (by omega) (by omega) (by omega) (by omega)
      refine zw_ite (fun h6 => ?_) (fun h6 => ?_)
      · exact zw_some ⟨hImh, hFmh, trivial, ⟨by omega, by omega⟩⟩
      · refine zw_bd (zw_eq (zu_call_at (zt_T n) (zm_36 n) (zdp_36 n) _ _ _ _ _ rfl (zr_36_0 n _ _ a0 mh)) ?_)
        have p7 := zmul_bd (x := (mh a0 12)) (y := (mh a0 13)) (a := 1) (b := 1) (A := 8) (B := 6) (by omega) (by omega) (by omega) (by omega) (by omega) (by omega)
        have w8 := zu_w32_id (z := (mh a0 12) * (mh a0 13)) (by omega) (by omega)
        refine zw_some ?_
        refine zw_ite (fun h9 => ?_) (fun h9 => ?_)
        · exact zw_some ⟨hImh, hFmh, trivial, ⟨by omega, by omega⟩⟩
        · have hM : (48 - 0) * 1 + (4 - (mh a0 75)) * 50 + 0 < (k : Int) := by omega
          exact ih.2 x1 (-1) 0 mh hImh hFmh ⟨by omega, by omega⟩ ⟨by omega, by omega⟩ ⟨by omega, by omega⟩ ⟨by omega, by omega⟩ (by omega) (by omega) (fun h k k0 k1 => by omega) hM
    · intro x1 x3 x4 mh hImh hFmh hbx1 hbx3 hbx4 hg3 hH0 hH1 hH2 hM
      refine zw_eq (zu_rega_at (zt_T n) (zm_166 n) (zdp_166 n) _ _ _ _ _ _ (zr_166_31 n _ _ a0 x1 x3 x4 mh)) ?_
      have r10 : 1 ≤ (mh a0 12) ∧ (mh a0 12) ≤ 8 := zi_rd hImh hc0 zb_28_12
      have r11 : 1 ≤ (mh a0 13) ∧ (mh a0 13) ≤ 6 := zi_rd hImh hc0 zb_28_13
      have s12 : (mh a0 12) * (mh a0 13) = (m0 a0 12) * (m0 a0 13) := zprod (zfr_ap hFmh hc0 rfl) (zfr_ap hFmh hc0 rfl)
      have p13 := zmul_bd (x := (mh a0 12)) (y := (mh a0 13)) (a := 1) (b := 1) (A := 8) (B := 6) (by omega) (by omega) (by omega) (by omega) (by omega) (by omega)
      refine zw_bd (zw_eq (zu_call_at (zt_T n) (zm_36 n) (zdp_36 n) _ _ _ _ _ rfl (zr_36_0 n _ _ a0 mh)) ?_)
      have p14 := zmul_bd (x := (mh a0 12)) (y := (mh a0 13)) (a := 1) (b := 1) (A := 8) (B := 6) (by omega) (by omega) (by omega) (by omega) (by omega) (by omega)
      have w15 := zu_w32_id (z := (mh a0 12) * (mh a0 13)) (by omega) (by omega)
      refine zw_some ?_
      refine zw_ite (fun h16 => ?_) (fun h16 => ?_)
      · have s17 : 0 ≤ x3 := ztops (C := (m0 a0 12) * (m0 a0 13)) hH0 hH1 (by omega) (c := x4) (by omega) (by omega) hH2
        have s18 := zhc_or (h := x1) (b := x3) (by omega) (by omega)
        have b19 : 0 ≤ (mh a0 75) ∧ (mh a0 75) < 4 := by omega
        refine zw_if b19 ?_
        generalize hmm20 : zu_up mh 224 (mh a0 75) x3 = m20
        have hIm20 := zi_up hmm20 hImh zq_224 (zb_133 _) (by omega) (by omega)
        have hFm20 := zfr_up hmm20 hFmh zq_224 rfl
        have b21 := zu_shl_rg 1 x3
        have b22 := zu_i64_rg 4 x1 (zu_shl 1 x3)
        have r23 : 0 ≤ (m20 a0 75) ∧ (m20 a0 75) ≤ 4 := zi_rd hIm20 hc0 zb_28_75
        have e24 : (m20 a0 75) = (mh a0 75) := (zs_ne hmm20 (Or.inl (zc_ne hc0 zq_224 (by decide))))
        have w25 := zu_w32_id (z := (m20 a0 75) + 1) (by omega) (by omega)
        generalize hmm26 : zu_up m20 a0 75 (zu_w32 ((m20 a0 75) + 1)) = m26
        have hIm26 := zi_up hmm26 hIm20 hc0 zb_28_75 (by omega) (by omega)
        have hFm26 := zfr_up hmm26 hFm20 hc0 rfl
        have r27 : 0 ≤ (m26 a0 75) ∧ (m26 a0 75) ≤ 4 := zi_rd hIm26 hc0 zb_28_75
        have e28 : (m26 a0 75) = (zu_w32 ((m20 a0 75) + 1)) := (zs_eq hmm26)
        have hM : (4 - (m26 a0 75)) * 50 + 49 < (k : Int) := by omega
        exact zw_le (zu_forget (zu_lr_same (zu_lr_same (zu_lr_same (zu_lr_drop (zu_lr_drop zu_lr_nil)))))) (ih.1 (zu_i64 4 x1 (zu_shl 1 x3)) m26 hIm26 hFm26 ⟨by omega, by omega⟩ (by omega) hM)
      · refine zw_bd (zw_eq (zu_call_at (zt_T n) (zm_84 n) (zdp_84 n) _ _ _ _ _ rfl (zr_84_0 n _ _ x1 x4 mh)) ?_)
        have b29 := zu_shr_rg x1 x4
        have b30 := zu_i64_rg 3 (zu_shr x1 x4) 1
        have c31 := zu_lcmp_sp (zu_i64 3 (zu_shr x1 x4) 1) 1
        refine zw_ite (fun h32 => ?_) (fun h32 => ?_)
        · refine zw_b (by omega) ?_
          refine zw_some ?_
          refine zw_ite (fun h33 => ?_) (fun h33 => ?_)
          · exfalso; omega
          · refine zw_ite (fun h34 => ?_) (fun h34 => ?_)
            · have w35 := zu_w32_id (z := x4 + 1) (by omega) (by omega)
              have hM : (48 - (zu_w32 (x4 + 1))) * 1 + (4 - (mh a0 75)) * 50 + 0 < (k : Int) := by omega
              exact ih.2 x1 x4 (zu_w32 (x4 + 1)) mh hImh hFmh ⟨by omega, by omega⟩ ⟨by omega, by omega⟩ ⟨by omega, by omega⟩ ⟨by omega, by omega⟩ (by omega) (by omega) (fun h => by exfalso; omega) hM
            · have b36 : 0 ≤ x4 ∧ x4 < 48 := by omega
              refine zw_if b36 ?_
              have r37 : (-2147483648) ≤ (mh 222 x4) ∧ (mh 222 x4) ≤ 2147483647 := zi_rd hImh zq_222 (zb_131 _)
              have b38 : 0 ≤ x3 ∧ x3 < 48 := by omega
              refine zw_if b38 ?_
              have r39 : (-2147483648) ≤ (mh 222 x3) ∧ (mh 222 x3) ≤ 2147483647 := zi_rd hImh zq_222 (zb_131 _)
              refine zw_ite (fun h40 => ?_) (fun h40 => ?_)
              · have w41 := zu_w32_id (z := x4 + 1) (by omega) (by omega)
                have hM : (48 - (zu_w32 (x4 + 1))) * 1 + (4 - (mh a0 75)) * 50 + 0 < (k : Int) := by omega
                exact ih.2 x1 x3 (zu_w32 (x4 + 1)) mh hImh hFmh ⟨by omega, by omega⟩ ⟨by omega, by omega⟩ ⟨by omega, by omega⟩ ⟨by omega, by omega⟩ (by omega) (by omega) (zth_s hH2 (by omega) (by omega)) hM
              · have w42 := zu_w32_id (z := x4 + 1) (by omega) (by omega)
                have hM : (48 - (zu_w32 (x4 + 1))) * 1 + (4 - (mh a0 75)) * 50 + 0 < (k : Int) := by omega
                exact ih.2 x1 x4 (zu_w32 (x4 + 1)) mh hImh hFmh ⟨by omega, by omega⟩ ⟨by omega, by omega⟩ ⟨by omega, by omega⟩ ⟨by omega, by omega⟩ (by omega) (by omega) (fun h => by exfalso; omega) hM
        · refine zw_b (by omega) ?_
          refine zw_some ?_
          refine zw_ite (fun h43 => ?_) (fun h43 => ?_)
          · have w44 := zu_w32_id (z := x4 + 1) (by omega) (by omega)
            have hM : (48 - (zu_w32 (x4 + 1))) * 1 + (4 - (mh a0 75)) * 50 + 0 < (k : Int) := by omega
            exact ih.2 x1 x3 (zu_w32 (x4 + 1)) mh hImh hFmh ⟨by omega, by omega⟩ ⟨by omega, by omega⟩ ⟨by omega, by omega⟩ ⟨by omega, by omega⟩ (by omega) (by omega) (zth_s hH2 (by omega) (by omega)) hM
          · exfalso; omega
set_option maxHeartbeats 4000000 in
theorem zk_166 (n : Nat) {a0 : Int} {m0 : zu_m} (hIm0 : zi_I m0) (hc0 : zcls a0 = 28)      : zw (zu_call (zt_T n) 166 [(40, a0)] m0) (fun v m => zi_I m ∧ zfr [(28, 76), (133, 0)] m0 m ∧ True ∧ (1 ≤ m a0 75 ∧ m a0 75 ≤ 4)) := by
  have hFm0 : zfr [(28, 76), (133, 0)] m0 m0 := zfr_rf _ _
  have r45 : 1 ≤ (m0 a0 12) ∧ (m0 a0 12) ≤ 8 := zi_rd hIm0 hc0 zb_28_12
  have r46 : 1 ≤ (m0 a0 13) ∧ (m0 a0 13) ≤ 6 := zi_rd hIm0 hc0 zb_28_13
  refine zw_eq (zu_call_at (zt_T n) (zm_166 n) (zdp_166 n) _ _ _ _ _ rfl (zr_166_0 n _ _ a0 m0)) ?_
  generalize hmm47 : zu_up m0 a0 75 0 = m47
  have hIm47 := zi_up hmm47 hIm0 hc0 zb_28_75 (by omega) (by omega)
  have hFm47 := zfr_up hmm47 hFm0 hc0 rfl
  have z48 : zhc 0 48 = 0 := by decide +kernel
  have r49 : 0 ≤ (m47 a0 75) ∧ (m47 a0 75) ≤ 4 := zi_rd hIm47 hc0 zb_28_75
  have e50 : (m47 a0 75) = 0 := (zs_eq hmm47)
  have hM : (4 - (m47 a0 75)) * 50 + 49 < ((250 : Nat) : Int) := by omega
  exact (zl_166 n (m0 := m0) hc0 250).1 0 m47 hIm47 hFm47 ⟨by omega, by omega⟩ (by omega) hM
set_option maxHeartbeats 4000000 in
theorem zl_168 (n : Nat) {a0 a1 a2 : Int} {m0 : zu_m} (hc0 : zcls a0 = 28)   : ∀ k : Nat, (∀ (x3 : Int) (mh : zu_m), zi_I mh → zfr [] m0 mh → (0 ≤ a1 ∧ a1 ≤ 3) → (0 ≤ a2 ∧ a2 ≤ 3) → (0 ≤ x3 ∧ x3 ≤ 4) → (1 ≤ mh a0 75 ∧ mh a0 75 ≤ 4) → (4 - x3) * 1 + 0 < (k : Int) → zw (zu_ex (zt_T n) 168 2 [(40, a0), (0, a1), (0, a2), (0, x3)] [] mh) (fun v m => zi_I m ∧ zfr [] m0 m ∧ (0 ≤ v ∧ v ≤ 1))) := by
  intro k
  induction k with
  | zero => exact fun x3 mh hImh hFmh hba1 hba2 hbx3 hg3 hM => by exfalso; omega
  | succ k ih =>
    intro x3 mh hImh hFmh hba1 hba2 hbx3 hg3 hM
    refine zw_eq (zu_rega_at (zt_T n) (zm_168 n) (zdp_168 n) _ _ _ _ _ _ (zr_168_2 n _ _ a0 a1 a2 x3 mh)) ?_
    refine zw_ite (fun h1 => ?_) (fun h1 => ?_)
    · refine zw_b (by omega) ?_
      exact zw_some ⟨hImh, hFmh, ⟨by omega, by omega⟩⟩
    · refine zw_bd (zw_mono (zk_167 n hImh hc0 ⟨by omega, by omega⟩ ⟨by omega, by omega⟩) (fun v3 m2 hqm2 => ?_))
      obtain ⟨hIm2, hfm2, hvm2⟩ := hqm2
      have hFm2 := zfr_tr hFmh hfm2 rfl
      refine zw_bd (zw_mono (zk_167 n hIm2 hc0 ⟨by omega, by omega⟩ ⟨by omega, by omega⟩) (fun v5 m4 hqm4 => ?_))
      obtain ⟨hIm4, hfm4, hvm4⟩ := hqm4
      have hFm4 := zfr_tr hFm2 hfm4 rfl
      refine zw_ite (fun h6 => ?_) (fun h6 => ?_)
      · refine zw_b (by omega) ?_
        exact zw_some ⟨hIm4, hFm4, ⟨by omega, by omega⟩⟩
      · refine zw_bd (zw_mono (zk_167 n hIm4 hc0 ⟨by omega, by omega⟩ ⟨by omega, by omega⟩) (fun v8 m7 hqm7 => ?_))
        obtain ⟨hIm7, hfm7, hvm7⟩ := hqm7
        have hFm7 := zfr_tr hFm4 hfm7 rfl
        refine zw_bd (zw_mono (zk_167 n hIm7 hc0 ⟨by omega, by omega⟩ ⟨by omega, by omega⟩) (fun v10 m9 hqm9 => ?_))
        obtain ⟨hIm9, hfm9, hvm9⟩ := hqm9
        have hFm9 := zfr_tr hFm7 hfm9 rfl
        refine zw_ite (fun h11 => ?_) (fun h11 => ?_)
        · have w12 := zu_w32_id (z := x3 + 1) (by omega) (by omega)
          have r13 : 0 ≤ (m9 a0 75) ∧ (m9 a0 75) ≤ 4 := zi_rd hIm9 hc0 zb_28_75
          have e14 : (m9 a0 75) = (mh a0 75) := (Eq.trans (zfr_ap hfm9 hc0 rfl) (Eq.trans (zfr_ap hfm7 hc0 rfl) (Eq.trans (zfr_ap hfm4 hc0 rfl) (zfr_ap hfm2 hc0 rfl))))
          have hM : (4 - (zu_w32 (x3 + 1))) * 1 + 0 < (k : Int) := by omega
          exact ih (zu_w32 (x3 + 1)) m9 hIm9 hFm9 ⟨by omega, by omega⟩ ⟨by omega, by omega⟩ ⟨by omega, by omega⟩ ⟨by omega, by omega⟩ hM
        · refine zw_b (by omega) ?_
          exact zw_some ⟨hIm9, hFm9, ⟨by omega, by omega⟩⟩
set_option maxHeartbeats 4000000 in
theorem zk_168 (n : Nat) {a0 a1 a2 : Int} {m0 : zu_m} (hIm0 : zi_I m0) (hc0 : zcls a0 = 28) (ha1 : 0 ≤ a1 ∧ a1 ≤ 3) (ha2 : 0 ≤ a2 ∧ a2 ≤ 3)  (he0 : 1 ≤ m0 a0 75 ∧ m0 a0 75 ≤ 4)   : zw (zu_call (zt_T n) 168 [(40, a0), (0, a1), (0, a2)] m0) (fun v m => zi_I m ∧ zfr [] m0 m ∧ (0 ≤ v ∧ v ≤ 1)) := by
  have hFm0 : zfr [] m0 m0 := zfr_rf _ _
  refine zw_eq (zu_call_at (zt_T n) (zm_168 n) (zdp_168 n) _ _ _ _ _ rfl (zr_168_0 n _ _ a0 a1 a2 m0)) ?_
  have hM : (4 - 0) * 1 + 0 < ((5 : Nat) : Int) := by omega
  exact (zl_168 n (m0 := m0) hc0 5) 0 m0 hIm0 hFm0 ⟨by omega, by omega⟩ ⟨by omega, by omega⟩ ⟨by omega, by omega⟩ ⟨by omega, by omega⟩ hM
set_option maxHeartbeats 4000000 in
theorem zk_179 (n : Nat) {a0 a1 a2 a3 a4 : Int} {m0 : zu_m} (hIm0 : zi_I m0) (hc0 : zcls a0 = 28) (ha1 : (-2147483648) ≤ a1 ∧ a1 ≤ 2147483647) (ha2 : (-2147483648) ≤ a2 ∧ a2 ≤ 2147483647) (ha3 : (-2147483648) ≤ a3 ∧ a3 ≤ 2147483647) (ha4 : 0 ≤ a4 ∧ a4 ≤ 1)     : zw (zu_call (zt_T n) 179 [(40, a0), (0, a1), (0, a2), (0, a3), (0, a4)] m0) (fun v m => zi_I m ∧ zfr [(28, 3), (28, 78), (135, 0)] m0 m ∧ ((-1) ≤ v ∧ v ≤ 23) ∧ (0 ≤ m a0 2 ∧ m a0 2 ≤ 0)) := by
  have hFm0 : zfr [(28, 3), (28, 78), (135, 0)] m0 m0 := zfr_rf _ _
  refine zw_eq (zu_call_at (zt_T n) (zm_179 n) (zdp_179 n) _ _ _ _ _ rfl (zr_179_0 n _ _ a0 a1 a2 a3 a4 m0)) ?_
  generalize hmm1 : zu_up m0 a0 2 0 = m1
  have hIm1 := zi_up hmm1 hIm0 hc0 zb_28_2 (by omega) (by omega)
  have hFm1 := zfr_up hmm1 hFm0 hc0 rfl
  have r2 : 0 ≤ (m1 a0 77) ∧ (m1 a0 77) ≤ 24 := zi_rd hIm1 hc0 zb_28_77
  refine zw_ite (fun h3 => ?_) (fun h3 => ?_)
  · have r4 : (-2147483648) ≤ (m1 a0 2) ∧ (m1 a0 2) ≤ 2147483647 := zi_rd hIm1 hc0 zb_28_2
    have e5 : (m1 a0 2) = 0 := (zs_eq hmm1)
    exact zw_some ⟨hIm1, hFm1, ⟨by omega, by omega⟩, ⟨by omega, by omega⟩⟩
  · refine zw_bd (zw_eq (zu_call_at (zt_T n) (zm_83 n) (zdp_83 n) _ _ _ _ _ rfl (zr_83_0 n _ _ a1 1 200 m1)) ?_)
    refine zw_ite (fun h6 => ?_) (fun h6 => ?_)
    · refine zw_b (by omega) ?_
      refine zw_some ?_
      refine zw_ite (fun h7 => ?_) (fun h7 => ?_)
      · have r8 : (-2147483648) ≤ (m1 a0 2) ∧ (m1 a0 2) ≤ 2147483647 := zi_rd hIm1 hc0 zb_28_2
        have e9 : (m1 a0 2) = 0 := (zs_eq hmm1)
        exact zw_some ⟨hIm1, hFm1, ⟨by omega, by omega⟩, ⟨by omega, by omega⟩⟩
      · exfalso; omega
    · refine zw_ite (fun h10 => ?_) (fun h10 => ?_)
      · refine zw_b (by omega) ?_
        refine zw_some ?_
        refine zw_ite (fun h11 => ?_) (fun h11 => ?_)
        · have r12 : (-2147483648) ≤ (m1 a0 2) ∧ (m1 a0 2) ≤ 2147483647 := zi_rd hIm1 hc0 zb_28_2
          have e13 : (m1 a0 2) = 0 := (zs_eq hmm1)
          exact zw_some ⟨hIm1, hFm1, ⟨by omega, by omega⟩, ⟨by omega, by omega⟩⟩
        · exfalso; omega
      · refine zw_b (by omega) ?_
        refine zw_some ?_
        refine zw_ite (fun h14 => ?_) (fun h14 => ?_)
        · exfalso; omega
        · refine zw_bd (zw_eq (zu_call_at (zt_T n) (zm_125 n) (zdp_125 n) _ _ _ _ _ rfl (zr_125_0 n _ _ a0 a2 m1)) ?_)
          refine zw_ite (fun h15 => ?_) (fun h15 => ?_)
          · refine zw_b (by omega) ?_
            refine zw_some ?_
            refine zw_ite (fun h16 => ?_) (fun h16 => ?_)
            · have r17 : (-2147483648) ≤ (m1 a0 2) ∧ (m1 a0 2) ≤ 2147483647 := zi_rd hIm1 hc0 zb_28_2
              have e18 : (m1 a0 2) = 0 := (zs_eq hmm1)
              exact zw_some ⟨hIm1, hFm1, ⟨by omega, by omega⟩, ⟨by omega, by omega⟩⟩
            · exfalso; omega
          · have r19 : 0 ≤ (m1 a0 15) ∧ (m1 a0 15) ≤ 4 := zi_rd hIm1 hc0 zb_28_15
            refine zw_ite (fun h20 => ?_) (fun h20 => ?_)
            · refine zw_b (by omega) ?_
              refine zw_some ?_
              refine zw_ite (fun h21 => ?_) (fun h21 => ?_)
              · have r22 : (-2147483648) ≤ (m1 a0 2) ∧ (m1 a0 2) ≤ 2147483647 := zi_rd hIm1 hc0 zb_28_2
                have e23 : (m1 a0 2) = 0 := (zs_eq hmm1)
                exact zw_some ⟨hIm1, hFm1, ⟨by omega, by omega⟩, ⟨by omega, by omega⟩⟩
              · exfalso; omega
            · refine zw_b (by omega) ?_
              refine zw_some ?_
              refine zw_ite (fun h24 => ?_) (fun h24 => ?_)
              · exfalso; omega
              · refine zw_bd (zw_eq (zu_call_at (zt_T n) (zm_83 n) (zdp_83 n) _ _ _ _ _ rfl (zr_83_0 n _ _ a3 0 16 m1)) ?_)
                refine zw_ite (fun h25 => ?_) (fun h25 => ?_)
                · refine zw_b (by omega) ?_
                  refine zw_some ?_
                  refine zw_ite (fun h26 => ?_) (fun h26 => ?_)
                  · exfalso; omega
                  · have r27 : (-2147483648) ≤ (m1 a0 2) ∧ (m1 a0 2) ≤ 2147483647 := zi_rd hIm1 hc0 zb_28_2
                    have e28 : (m1 a0 2) = 0 := (zs_eq hmm1)
                    exact zw_some ⟨hIm1, hFm1, ⟨by omega, by omega⟩, ⟨by omega, by omega⟩⟩
                · refine zw_ite (fun h29 => ?_) (fun h29 => ?_)
                  · refine zw_b (by omega) ?_
                    refine zw_some ?_
                    refine zw_ite (fun h30 => ?_) (fun h30 => ?_)
                    · exfalso; omega
                    · have r31 : (-2147483648) ≤ (m1 a0 2) ∧ (m1 a0 2) ≤ 2147483647 := zi_rd hIm1 hc0 zb_28_2
                      have e32 : (m1 a0 2) = 0 := (zs_eq hmm1)
                      exact zw_some ⟨hIm1, hFm1, ⟨by omega, by omega⟩, ⟨by omega, by omega⟩⟩
                  · refine zw_b (by omega) ?_
                    refine zw_some ?_
                    refine zw_ite (fun h33 => ?_) (fun h33 => ?_)
                    · refine zw_ite (fun h34 => ?_) (fun h34 => ?_)
                      · refine zw_bd (zw_eq (zu_call_at (zt_T n) (zm_178 n) (zdp_178 n) _ _ _ _ _ rfl (zr_178_0 n _ _ a0 a1 a2 a3 0 m1)) ?_)
                        have w35 := zu_w32_id (z := 4 * (m1 a0 77)) (by omega) (by omega)
                        have b36 : 0 ≤ (zu_w32 (4 * (m1 a0 77))) ∧ (zu_w32 (4 * (m1 a0 77))) < 96 := by omega
                        refine zw_if b36 ?_
                        generalize hmm37 : zu_up m1 226 (zu_w32 (4 * (m1 a0 77))) a1 = m37
                        have hIm37 := zi_upr (m := 4) (r0 := 0) (r1 := 0) (lo := (-1)) (hi := 200) hmm37 hIm1 zq_226 (by omega) (by decide +kernel) (by omega) (by omega)
                        have hFm37 := zfr_up hmm37 hFm1 zq_226 rfl
                        have r38 : 0 ≤ (m37 a0 77) ∧ (m37 a0 77) ≤ 24 := zi_rd hIm37 hc0 zb_28_77
                        have e39 : (m37 a0 77) = (m1 a0 77) := (zs_ne hmm37 (Or.inl (zc_ne hc0 zq_226 (by decide))))
                        have w40 := zu_w32_id (z := 4 * (m37 a0 77)) (by omega) (by omega)
                        have w41 := zu_w32_id (z := (zu_w32 (4 * (m37 a0 77))) + 1) (by omega) (by omega)
                        have b42 : 0 ≤ (zu_w32 ((zu_w32 (4 * (m37 a0 77))) + 1)) ∧ (zu_w32 ((zu_w32 (4 * (m37 a0 77))) + 1)) < 96 := by omega
                        refine zw_if b42 ?_
                        generalize hmm43 : zu_up m37 226 (zu_w32 ((zu_w32 (4 * (m37 a0 77))) + 1)) a2 = m43
                        have hIm43 := zi_upr (m := 4) (r0 := 1) (r1 := 1) (lo := 0) (hi := 23) hmm43 hIm37 zq_226 (by omega) (by decide +kernel) (by omega) (by omega)
                        have hFm43 := zfr_up hmm43 hFm37 zq_226 rfl
                        have r44 : 0 ≤ (m43 a0 77) ∧ (m43 a0 77) ≤ 24 := zi_rd hIm43 hc0 zb_28_77
                        have e45 : (m43 a0 77) = (m37 a0 77) := (zs_ne hmm43 (Or.inl (zc_ne hc0 zq_226 (by decide))))
                        have w46 := zu_w32_id (z := 4 * (m43 a0 77)) (by omega) (by omega)
                        have w47 := zu_w32_id (z := (zu_w32 (4 * (m43 a0 77))) + 2) (by omega) (by omega)
                        have b48 : 0 ≤ (zu_w32 ((zu_w32 (4 * (m43 a0 77))) + 2)) ∧ (zu_w32 ((zu_w32 (4 * (m43 a0 77))) + 2)) < 96 := by omega
                        refine zw_if b48 ?_
                        generalize hmm49 : zu_up m43 226 (zu_w32 ((zu_w32 (4 * (m43 a0 77))) + 2)) a3 = m49
                        have hIm49 := zi_upr (m := 4) (r0 := 2) (r1 := 2) (lo := 0) (hi := 16) hmm49 hIm43 zq_226 (by omega) (by decide +kernel) (by omega) (by omega)
                        have hFm49 := zfr_up hmm49 hFm43 zq_226 rfl
                        have r50 : 0 ≤ (m49 a0 77) ∧ (m49 a0 77) ≤ 24 := zi_rd hIm49 hc0 zb_28_77
                        have e51 : (m49 a0 77) = (m43 a0 77) := (zs_ne hmm49 (Or.inl (zc_ne hc0 zq_226 (by decide))))
                        have w52 := zu_w32_id (z := 4 * (m49 a0 77)) (by omega) (by omega)
                        have w53 := zu_w32_id (z := (zu_w32 (4 * (m49 a0 77))) + 3) (by omega) (by omega)
                        have b54 : 0 ≤ (zu_w32 ((zu_w32 (4 * (m49 a0 77))) + 3)) ∧ (zu_w32 ((zu_w32 (4 * (m49 a0 77))) + 3)) < 96 := by omega
                        refine zw_if b54 ?_
                        generalize hmm55 : zu_up m49 226 (zu_w32 ((zu_w32 (4 * (m49 a0 77))) + 3)) 0 = m55
                        have hIm55 := zi_upr (m := 4) (r0 := 3) (r1 := 3) (lo := 0) (hi := 1) hmm55 hIm49 zq_226 (by omega) (by decide +kernel) (by omega) (by omega)
                        have hFm55 := zfr_up hmm55 hFm49 zq_226 rfl
                        have r56 : 0 ≤ (m55 a0 77) ∧ (m55 a0 77) ≤ 24 := zi_rd hIm55 hc0 zb_28_77
                        have e57 : (m55 a0 77) = (m49 a0 77) := (zs_ne hmm55 (Or.inl (zc_ne hc0 zq_226 (by decide))))
                        have w58 := zu_w32_id (z := (m55 a0 77) + 1) (by omega) (by omega)
                        generalize hmm59 : zu_up m55 a0 77 (zu_w32 ((m55 a0 77) + 1)) = m59
                        have hIm59 := zi_up hmm59 hIm55 hc0 zb_28_77 (by omega) (by omega)
                        have hFm59 := zfr_up hmm59 hFm55 hc0 rfl
                        have r60 : 0 ≤ (m59 a0 77) ∧ (m59 a0 77) ≤ 24 := zi_rd hIm59 hc0 zb_28_77
                        have e61 : (m59 a0 77) = (zu_w32 ((m55 a0 77) + 1)) := (zs_eq hmm59)
                        have w62 := zu_w32_id (z := (m59 a0 77) - 1) (by omega) (by omega)
                        refine zw_some ?_
                        have r63 : (-2147483648) ≤ (m59 a0 2) ∧ (m59 a0 2) ≤ 2147483647 := zi_rd hIm59 hc0 zb_28_2
                        have e64 : (m59 a0 2) = 0 := (Eq.trans (zs_ne hmm59 (Or.inr (by decide))) (Eq.trans (zs_ne hmm55 (Or.inl (zc_ne hc0 zq_226 (by decide)))) (Eq.trans (zs_ne hmm49 (Or.inl (zc_ne hc0 zq_226 (by decide)))) (Eq.trans (zs_ne hmm43 (Or.inl (zc_ne hc0 zq_226 (by decide)))) (Eq.trans (zs_ne hmm37 (Or.inl (zc_ne hc0 zq_226 (by decide)))) (zs_eq hmm1))))))
                        exact zw_some ⟨hIm59, hFm59, ⟨by omega, by omega⟩, ⟨by omega, by omega⟩⟩
                      · refine zw_bd (zw_eq (zu_call_at (zt_T n) (zm_178 n) (zdp_178 n) _ _ _ _ _ rfl (zr_178_0 n _ _ a0 a1 a2 a3 1 m1)) ?_)
                        have w65 := zu_w32_id (z := 4 * (m1 a0 77)) (by omega) (by omega)
                        have b66 : 0 ≤ (zu_w32 (4 * (m1 a0 77))) ∧ (zu_w32 (4 * (m1 a0 77))) < 96 := by omega
                        refine zw_if b66 ?_
                        generalize hmm67 : zu_up m1 226 (zu_w32 (4 * (m1 a0 77))) a1 = m67
                        have hIm67 := zi_upr (m := 4) (r0 := 0) (r1 := 0) (lo := (-1)) (hi := 200) hmm67 hIm1 zq_226 (by omega) (by decide +kernel) (by omega) (by omega)
                        have hFm67 := zfr_up hmm67 hFm1 zq_226 rfl
                        have r68 : 0 ≤ (m67 a0 77) ∧ (m67 a0 77) ≤ 24 := zi_rd hIm67 hc0 zb_28_77
                        have e69 : (m67 a0 77) = (m1 a0 77) := (zs_ne hmm67 (Or.inl (zc_ne hc0 zq_226 (by decide))))
                        have w70 := zu_w32_id (z := 4 * (m67 a0 77)) (by omega) (by omega)
                        have w71 := zu_w32_id (z := (zu_w32 (4 * (m67 a0 77))) + 1) (by omega) (by omega)
                        have b72 : 0 ≤ (zu_w32 ((zu_w32 (4 * (m67 a0 77))) + 1)) ∧ (zu_w32 ((zu_w32 (4 * (m67 a0 77))) + 1)) < 96 := by omega
                        refine zw_if b72 ?_
                        generalize hmm73 : zu_up m67 226 (zu_w32 ((zu_w32 (4 * (m67 a0 77))) + 1)) a2 = m73
                        have hIm73 := zi_upr (m := 4) (r0 := 1) (r1 := 1) (lo := 0) (hi := 23) hmm73 hIm67 zq_226 (by omega) (by decide +kernel) (by omega) (by omega)
                        have hFm73 := zfr_up hmm73 hFm67 zq_226 rfl
                        have r74 : 0 ≤ (m73 a0 77) ∧ (m73 a0 77) ≤ 24 := zi_rd hIm73 hc0 zb_28_77
                        have e75 : (m73 a0 77) = (m67 a0 77) := (zs_ne hmm73 (Or.inl (zc_ne hc0 zq_226 (by decide))))
                        have w76 := zu_w32_id (z := 4 * (m73 a0 77)) (by omega) (by omega)
                        have w77 := zu_w32_id (z := (zu_w32 (4 * (m73 a0 77))) + 2) (by omega) (by omega)
                        have b78 : 0 ≤ (zu_w32 ((zu_w32 (4 * (m73 a0 77))) + 2)) ∧ (zu_w32 ((zu_w32 (4 * (m73 a0 77))) + 2)) < 96 := by omega
                        refine zw_if b78 ?_
                        generalize hmm79 : zu_up m73 226 (zu_w32 ((zu_w32 (4 * (m73 a0 77))) + 2)) a3 = m79
                        have hIm79 := zi_upr (m := 4) (r0 := 2) (r1 := 2) (lo := 0) (hi := 16) hmm79 hIm73 zq_226 (by omega) (by decide +kernel) (by omega) (by omega)
                        have hFm79 := zfr_up hmm79 hFm73 zq_226 rfl
                        have r80 : 0 ≤ (m79 a0 77) ∧ (m79 a0 77) ≤ 24 := zi_rd hIm79 hc0 zb_28_77
                        have e81 : (m79 a0 77) = (m73 a0 77) := (zs_ne hmm79 (Or.inl (zc_ne hc0 zq_226 (by decide))))
                        have w82 := zu_w32_id (z := 4 * (m79 a0 77)) (by omega) (by omega)
                        have w83 := zu_w32_id (z := (zu_w32 (4 * (m79 a0 77))) + 3) (by omega) (by omega)
                        have b84 : 0 ≤ (zu_w32 ((zu_w32 (4 * (m79 a0 77))) + 3)) ∧ (zu_w32 ((zu_w32 (4 * (m79 a0 77))) + 3)) < 96 := by omega
                        refine zw_if b84 ?_
                        generalize hmm85 : zu_up m79 226 (zu_w32 ((zu_w32 (4 * (m79 a0 77))) + 3)) 1 = m85
                        have hIm85 := zi_upr (m := 4) (r0 := 3) (r1 := 3) (lo := 0) (hi := 1) hmm85 hIm79 zq_226 (by omega) (by decide +kernel) (by omega) (by omega)
                        have hFm85 := zfr_up hmm85 hFm79 zq_226 rfl
                        have r86 : 0 ≤ (m85 a0 77) ∧ (m85 a0 77) ≤ 24 := zi_rd hIm85 hc0 zb_28_77
                        have e87 : (m85 a0 77) = (m79 a0 77) := (zs_ne hmm85 (Or.inl (zc_ne hc0 zq_226 (by decide))))
                        have w88 := zu_w32_id (z := (m85 a0 77) + 1) (by omega) (by omega)
                        generalize hmm89 : zu_up m85 a0 77 (zu_w32 ((m85 a0 77) + 1)) = m89
                        have hIm89 := zi_up hmm89 hIm85 hc0 zb_28_77 (by omega) (by omega)
                        have hFm89 := zfr_up hmm89 hFm85 hc0 rfl
                        have r90 : 0 ≤ (m89 a0 77) ∧ (m89 a0 77) ≤ 24 := zi_rd hIm89 hc0 zb_28_77
                        have e91 : (m89 a0 77) = (zu_w32 ((m85 a0 77) + 1)) := (zs_eq hmm89)
                        have w92 := zu_w32_id (z := (m89 a0 77) - 1) (by omega) (by omega)
                        refine zw_some ?_
                        have r93 : (-2147483648) ≤ (m89 a0 2) ∧ (m89 a0 2) ≤ 2147483647 := zi_rd hIm89 hc0 zb_28_2
                        have e94 : (m89 a0 2) = 0 := (Eq.trans (zs_ne hmm89 (Or.inr (by decide))) (Eq.trans (zs_ne hmm85 (Or.inl (zc_ne hc0 zq_226 (by decide)))) (Eq.trans (zs_ne hmm79 (Or.inl (zc_ne hc0 zq_226 (by decide)))) (Eq.trans (zs_ne hmm73 (Or.inl (zc_ne hc0 zq_226 (by decide)))) (Eq.trans (zs_ne hmm67 (Or.inl (zc_ne hc0 zq_226 (by decide)))) (zs_eq hmm1))))))
                        exact zw_some ⟨hIm89, hFm89, ⟨by omega, by omega⟩, ⟨by omega, by omega⟩⟩
                    · exfalso; omega
set_option maxHeartbeats 4000000 in
theorem zk_180 (n : Nat) {a0 a1 : Int} {m0 : zu_m} (hIm0 : zi_I m0) (hc0 : zcls a0 = 28) (ha1 : (-2147483648) ≤ a1 ∧ a1 ≤ 2147483647)     : zw (zu_call (zt_T n) 180 [(40, a0), (0, a1)] m0) (fun v m => zi_I m ∧ zfr [(28, 3), (28, 78), (135, 0)] m0 m ∧ ((-1) ≤ v ∧ v ≤ 23) ∧ (0 ≤ m a0 2 ∧ m a0 2 ≤ 0)) := by
  have hFm0 : zfr [(28, 3), (28, 78), (135, 0)] m0 m0 := zfr_rf _ _
  refine zw_eq (zu_call_at (zt_T n) (zm_180 n) (zdp_180 n) _ _ _ _ _ rfl (zr_180_0 n _ _ a0 a1 m0)) ?_
  generalize hmm1 : zu_up m0 a0 2 0 = m1
  have hIm1 := zi_up hmm1 hIm0 hc0 zb_28_2 (by omega) (by omega)
  have hFm1 := zfr_up hmm1 hFm0 hc0 rfl
  have r2 : 0 ≤ (m1 a0 77) ∧ (m1 a0 77) ≤ 24 := zi_rd hIm1 hc0 zb_28_77
  refine zw_ite (fun h3 => ?_) (fun h3 => ?_)
  · have r4 : (-2147483648) ≤ (m1 a0 2) ∧ (m1 a0 2) ≤ 2147483647 := zi_rd hIm1 hc0 zb_28_2
    have e5 : (m1 a0 2) = 0 := (zs_eq hmm1)
    exact zw_some ⟨hIm1, hFm1, ⟨by omega, by omega⟩, ⟨by omega, by omega⟩⟩
  · refine zw_ite (fun h6 => ?_) (fun h6 => ?_)
    · have r7 : (-2147483648) ≤ (m1 a0 2) ∧ (m1 a0 2) ≤ 2147483647 := zi_rd hIm1 hc0 zb_28_2
      have e8 : (m1 a0 2) = 0 := (zs_eq hmm1)
      exact zw_some ⟨hIm1, hFm1, ⟨by omega, by omega⟩, ⟨by omega, by omega⟩⟩
    · refine zw_ite (fun h9 => ?_) (fun h9 => ?_)
      · refine zw_bd (zw_eq (zu_call_at (zt_T n) (zm_178 n) (zdp_178 n) _ _ _ _ _ rfl (zr_178_0 n _ _ a0 (-1) a1 0 0 m1)) ?_)
        have w10 := zu_w32_id (z := 4 * (m1 a0 77)) (by omega) (by omega)
        have b11 : 0 ≤ (zu_w32 (4 * (m1 a0 77))) ∧ (zu_w32 (4 * (m1 a0 77))) < 96 := by omega
        refine zw_if b11 ?_
        generalize hmm12 : zu_up m1 226 (zu_w32 (4 * (m1 a0 77))) (-1) = m12
        have hIm12 := zi_upr (m := 4) (r0 := 0) (r1 := 0) (lo := (-1)) (hi := 200) hmm12 hIm1 zq_226 (by omega) (by decide +kernel) (by omega) (by omega)
        have hFm12 := zfr_up hmm12 hFm1 zq_226 rfl
        have r13 : 0 ≤ (m12 a0 77) ∧ (m12 a0 77) ≤ 24 := zi_rd hIm12 hc0 zb_28_77
        have e14 : (m12 a0 77) = (m1 a0 77) := (zs_ne hmm12 (Or.inl (zc_ne hc0 zq_226 (by decide))))
        have w15 := zu_w32_id (z := 4 * (m12 a0 77)) (by omega) (by omega)
        have w16 := zu_w32_id (z := (zu_w32 (4 * (m12 a0 77))) + 1) (by omega) (by omega)
        have b17 : 0 ≤ (zu_w32 ((zu_w32 (4 * (m12 a0 77))) + 1)) ∧ (zu_w32 ((zu_w32 (4 * (m12 a0 77))) + 1)) < 96 := by omega
        refine zw_if b17 ?_
        generalize hmm18 : zu_up m12 226 (zu_w32 ((zu_w32 (4 * (m12 a0 77))) + 1)) a1 = m18
        have hIm18 := zi_upr (m := 4) (r0 := 1) (r1 := 1) (lo := 0) (hi := 23) hmm18 hIm12 zq_226 (by omega) (by decide +kernel) (by omega) (by omega)
        have hFm18 := zfr_up hmm18 hFm12 zq_226 rfl
        have r19 : 0 ≤ (m18 a0 77) ∧ (m18 a0 77) ≤ 24 := zi_rd hIm18 hc0 zb_28_77
        have e20 : (m18 a0 77) = (m12 a0 77) := (zs_ne hmm18 (Or.inl (zc_ne hc0 zq_226 (by decide))))
        have w21 := zu_w32_id (z := 4 * (m18 a0 77)) (by omega) (by omega)
        have w22 := zu_w32_id (z := (zu_w32 (4 * (m18 a0 77))) + 2) (by omega) (by omega)
        have b23 : 0 ≤ (zu_w32 ((zu_w32 (4 * (m18 a0 77))) + 2)) ∧ (zu_w32 ((zu_w32 (4 * (m18 a0 77))) + 2)) < 96 := by omega
        refine zw_if b23 ?_
        generalize hmm24 : zu_up m18 226 (zu_w32 ((zu_w32 (4 * (m18 a0 77))) + 2)) 0 = m24
        have hIm24 := zi_upr (m := 4) (r0 := 2) (r1 := 2) (lo := 0) (hi := 16) hmm24 hIm18 zq_226 (by omega) (by decide +kernel) (by omega) (by omega)
        have hFm24 := zfr_up hmm24 hFm18 zq_226 rfl
        have r25 : 0 ≤ (m24 a0 77) ∧ (m24 a0 77) ≤ 24 := zi_rd hIm24 hc0 zb_28_77
        have e26 : (m24 a0 77) = (m18 a0 77) := (zs_ne hmm24 (Or.inl (zc_ne hc0 zq_226 (by decide))))
        have w27 := zu_w32_id (z := 4 * (m24 a0 77)) (by omega) (by omega)
        have w28 := zu_w32_id (z := (zu_w32 (4 * (m24 a0 77))) + 3) (by omega) (by omega)
        have b29 : 0 ≤ (zu_w32 ((zu_w32 (4 * (m24 a0 77))) + 3)) ∧ (zu_w32 ((zu_w32 (4 * (m24 a0 77))) + 3)) < 96 := by omega
        refine zw_if b29 ?_
        generalize hmm30 : zu_up m24 226 (zu_w32 ((zu_w32 (4 * (m24 a0 77))) + 3)) 0 = m30
        have hIm30 := zi_upr (m := 4) (r0 := 3) (r1 := 3) (lo := 0) (hi := 1) hmm30 hIm24 zq_226 (by omega) (by decide +kernel) (by omega) (by omega)
        have hFm30 := zfr_up hmm30 hFm24 zq_226 rfl
        have r31 : 0 ≤ (m30 a0 77) ∧ (m30 a0 77) ≤ 24 := zi_rd hIm30 hc0 zb_28_77
        have e32 : (m30 a0 77) = (m24 a0 77) := (zs_ne hmm30 (Or.inl (zc_ne hc0 zq_226 (by decide))))
        have w33 := zu_w32_id (z := (m30 a0 77) + 1) (by omega) (by omega)
        generalize hmm34 : zu_up m30 a0 77 (zu_w32 ((m30 a0 77) + 1)) = m34
        have hIm34 := zi_up hmm34 hIm30 hc0 zb_28_77 (by omega) (by omega)
        have hFm34 := zfr_up hmm34 hFm30 hc0 rfl
        have r35 : 0 ≤ (m34 a0 77) ∧ (m34 a0 77) ≤ 24 := zi_rd hIm34 hc0 zb_28_77
        have e36 : (m34 a0 77) = (zu_w32 ((m30 a0 77) + 1)) := (zs_eq hmm34)
        have w37 := zu_w32_id (z := (m34 a0 77) - 1) (by omega) (by omega)
        refine zw_some ?_
        have r38 : (-2147483648) ≤ (m34 a0 2) ∧ (m34 a0 2) ≤ 2147483647 := zi_rd hIm34 hc0 zb_28_2
        have e39 : (m34 a0 2) = 0 := (Eq.trans (zs_ne hmm34 (Or.inr (by decide))) (Eq.trans (zs_ne hmm30 (Or.inl (zc_ne hc0 zq_226 (by decide)))) (Eq.trans (zs_ne hmm24 (Or.inl (zc_ne hc0 zq_226 (by decide)))) (Eq.trans (zs_ne hmm18 (Or.inl (zc_ne hc0 zq_226 (by decide)))) (Eq.trans (zs_ne hmm12 (Or.inl (zc_ne hc0 zq_226 (by decide)))) (zs_eq hmm1))))))
        exact zw_some ⟨hIm34, hFm34, ⟨by omega, by omega⟩, ⟨by omega, by omega⟩⟩
      · have r40 : (-2147483648) ≤ (m1 a0 2) ∧ (m1 a0 2) ≤ 2147483647 := zi_rd hIm1 hc0 zb_28_2
        have e41 : (m1 a0 2) = 0 := (zs_eq hmm1)
        exact zw_some ⟨hIm1, hFm1, ⟨by omega, by omega⟩, ⟨by omega, by omega⟩⟩
set_option maxHeartbeats 4000000 in
theorem zk_181 (n : Nat) {a0 a1 : Int} {m0 : zu_m} (hIm0 : zi_I m0) (hc0 : zcls a0 = 28) (ha1 : (-2147483648) ≤ a1 ∧ a1 ≤ 2147483647)     : zw (zu_call (zt_T n) 181 [(40, a0), (0, a1)] m0) (fun v m => zi_I m ∧ zfr [(28, 3), (28, 79)] m0 m ∧ (0 ≤ v ∧ v ≤ 1) ∧ (0 ≤ m a0 2 ∧ m a0 2 ≤ 0)) := by
  have hFm0 : zfr [(28, 3), (28, 79)] m0 m0 := zfr_rf _ _
  refine zw_eq (zu_call_at (zt_T n) (zm_181 n) (zdp_181 n) _ _ _ _ _ rfl (zr_181_0 n _ _ a0 a1 m0)) ?_
  generalize hmm1 : zu_up m0 a0 2 0 = m1
  have hIm1 := zi_up hmm1 hIm0 hc0 zb_28_2 (by omega) (by omega)
  have hFm1 := zfr_up hmm1 hFm0 hc0 rfl
  have r2 : 0 ≤ (m1 a0 77) ∧ (m1 a0 77) ≤ 24 := zi_rd hIm1 hc0 zb_28_77
  refine zw_bd (zw_eq (zu_call_at (zt_T n) (zm_83 n) (zdp_83 n) _ _ _ _ _ rfl (zr_83_0 n _ _ a1 (-1) (m1 a0 77) m1)) ?_)
  refine zw_ite (fun h3 => ?_) (fun h3 => ?_)
  · refine zw_b (by omega) ?_
    refine zw_some ?_
    refine zw_ite (fun h4 => ?_) (fun h4 => ?_)
    · exfalso; omega
    · refine zw_b (by omega) ?_
      have r5 : (-2147483648) ≤ (m1 a0 2) ∧ (m1 a0 2) ≤ 2147483647 := zi_rd hIm1 hc0 zb_28_2
      have e6 : (m1 a0 2) = 0 := (zs_eq hmm1)
      exact zw_some ⟨hIm1, hFm1, ⟨by omega, by omega⟩, ⟨by omega, by omega⟩⟩
  · refine zw_ite (fun h7 => ?_) (fun h7 => ?_)
    · refine zw_b (by omega) ?_
      refine zw_some ?_
      refine zw_ite (fun h8 => ?_) (fun h8 => ?_)
      · exfalso; omega
      · refine zw_b (by omega) ?_
        have r9 : (-2147483648) ≤ (m1 a0 2) ∧ (m1 a0 2) ≤ 2147483647 := zi_rd hIm1 hc0 zb_28_2
        have e10 : (m1 a0 2) = 0 := (zs_eq hmm1)
        exact zw_some ⟨hIm1, hFm1, ⟨by omega, by omega⟩, ⟨by omega, by omega⟩⟩
    · refine zw_b (by omega) ?_
      refine zw_some ?_
      refine zw_ite (fun h11 => ?_) (fun h11 => ?_)
      · generalize hmm12 : zu_up m1 a0 78 a1 = m12
        have hIm12 := zi_up hmm12 hIm1 hc0 zb_28_78 (by omega) (by omega)
        have hFm12 := zfr_up hmm12 hFm1 hc0 rfl
        refine zw_b (by omega) ?_
        have r13 : (-2147483648) ≤ (m12 a0 2) ∧ (m12 a0 2) ≤ 2147483647 := zi_rd hIm12 hc0 zb_28_2
        have e14 : (m12 a0 2) = 0 := (Eq.trans (zs_ne hmm12 (Or.inr (by decide))) (zs_eq hmm1))
        exact zw_some ⟨hIm12, hFm12, ⟨by omega, by omega⟩, ⟨by omega, by omega⟩⟩
      · exfalso; omega
set_option maxHeartbeats 4000000 in
theorem zl_183 (n : Nat) {a0 a1 : Int} {m0 : zu_m} (hc0 : zcls a0 = 28)   : ∀ k : Nat, (∀ (x2 : Int) (mh : zu_m), zi_I mh → zfr [] m0 mh → (1 ≤ a1 ∧ a1 ≤ 200) → (0 ≤ x2 ∧ x2 ≤ 24) → (24 - x2) * 2 + 1 < (k : Int) → zw (zu_ex (zt_T n) 183 2 [(40, a0), (0, a1), (0, x2), (2, 0)] [] mh) (fun v m => zi_I m ∧ zfr [] m0 m ∧ (0 ≤ v ∧ v ≤ 1))) ∧ (∀ (x2 x3 : Int) (mh : zu_m), zi_I mh → zfr [] m0 mh → (1 ≤ a1 ∧ a1 ≤ 200) → (0 ≤ x2 ∧ x2 ≤ 23) → (0 ≤ x3 ∧ x3 ≤ 1) → (24 - x2) * 2 + 0 < (k : Int) → zw (zu_ex (zt_T n) 183 68 [(40, a0), (0, a1), (0, x2), (0, x3)] [] mh) (fun v m => zi_I m ∧ zfr [] m0 m ∧ (0 ≤ v ∧ v ≤ 1))) := by
  intro k
  induction k with
  | zero => exact ⟨fun x2 mh hImh hFmh hba1 hbx2 hM => by exfalso; omega, fun x2 x3 mh hImh hFmh hba1 hbx2 hbx3 hM => by exfalso; omega⟩
  | succ k ih =>
    refine ⟨?_, ?_⟩
    · intro x2 mh hImh hFmh hba1 hbx2 hM
      refine zw_eq (zu_rega_at (zt_T n) (zm_183 n) (zdp_183 n) _ _ _ _ _ _ (zr_183_2 n _ _ a0 a1 x2 mh)) ?_
      refine zw_bd (zw_eq (zu_call_at (zt_T n) (zm_182 n) (zdp_182 n) _ _ _ _ _ rfl (zr_182_0 n _ _ a0 mh)) ?_)
      have r1 : (-1) ≤ (mh a0 78) ∧ (mh a0 78) ≤ 24 := zi_rd hImh hc0 zb_28_78
      refine zw_ite (fun h2 => ?_) (fun h2 => ?_)
      · refine zw_some ?_
        refine zw_ite (fun h3 => ?_) (fun h3 => ?_)
        · refine zw_b (by omega) ?_
          exact zw_some ⟨hImh, hFmh, ⟨by omega, by omega⟩⟩
        · have b4 : 0 ≤ x2 ∧ x2 < 24 := by omega
          refine zw_if b4 ?_
          have r5 : 0 ≤ (mh 227 x2) ∧ (mh 227 x2) ≤ 1 := zi_rd hImh zq_227 (zb_136 _)
          refine zw_ite (fun h6 => ?_) (fun h6 => ?_)
          · have w7 := zu_w32_id (z := x2 + 1) (by omega) (by omega)
            have hM : (24 - (zu_w32 (x2 + 1))) * 2 + 1 < (k : Int) := by omega
            exact ih.1 (zu_w32 (x2 + 1)) mh hImh hFmh ⟨by omega, by omega⟩ ⟨by omega, by omega⟩ hM
          · have w8 := zu_w32_id (z := 4 * x2) (by omega) (by omega)
            have b9 : 0 ≤ (zu_w32 (4 * x2)) ∧ (zu_w32 (4 * x2)) < 96 := by omega
            refine zw_if b9 ?_
            have r10 : (-1) ≤ (mh 226 (zu_w32 (4 * x2))) ∧ (mh 226 (zu_w32 (4 * x2))) ≤ 200 := zi_rdr (m := 4) (r0 := 0) (r1 := 0) hImh zq_226 (by omega) (by decide +kernel)
            refine zw_ite (fun h11 => ?_) (fun h11 => ?_)
            · have w12 := zu_w32_id (z := (zu_w32 (4 * x2)) + 1) (by omega) (by omega)
              have b13 : 0 ≤ (zu_w32 ((zu_w32 (4 * x2)) + 1)) ∧ (zu_w32 ((zu_w32 (4 * x2)) + 1)) < 96 := by omega
              refine zw_if b13 ?_
              have r14 : 0 ≤ (mh 226 (zu_w32 ((zu_w32 (4 * x2)) + 1))) ∧ (mh 226 (zu_w32 ((zu_w32 (4 * x2)) + 1))) ≤ 23 := zi_rdr (m := 4) (r0 := 1) (r1 := 1) hImh zq_226 (by omega) (by decide +kernel)
              refine zw_bd (zw_mono (zk_130 n hImh hc0 ⟨by omega, by omega⟩ ⟨by omega, by omega⟩) (fun v16 m15 hqm15 => ?_))
              obtain ⟨hIm15, hfm15, hvm15⟩ := hqm15
              have hFm15 := zfr_tr hFmh hfm15 rfl
              have w17 := zu_w32_id (z := (zu_w32 (4 * x2)) + 2) (by omega) (by omega)
              have b18 : 0 ≤ (zu_w32 ((zu_w32 (4 * x2)) + 2)) ∧ (zu_w32 ((zu_w32 (4 * x2)) + 2)) < 96 := by omega
              refine zw_if b18 ?_
              have r19 : 0 ≤ (m15 226 (zu_w32 ((zu_w32 (4 * x2)) + 2))) ∧ (m15 226 (zu_w32 ((zu_w32 (4 * x2)) + 2))) ≤ 16 := zi_rdr (m := 4) (r0 := 2) (r1 := 2) hIm15 zq_226 (by omega) (by decide +kernel)
              refine zw_ite (fun h20 => ?_) (fun h20 => ?_)
              · have hM : (24 - x2) * 2 + 0 < (k : Int) := by omega
                exact ih.2 x2 0 m15 hIm15 hFm15 ⟨by omega, by omega⟩ ⟨by omega, by omega⟩ ⟨by omega, by omega⟩ hM
              · have hM : (24 - x2) * 2 + 0 < (k : Int) := by omega
                exact ih.2 x2 1 m15 hIm15 hFm15 ⟨by omega, by omega⟩ ⟨by omega, by omega⟩ ⟨by omega, by omega⟩ hM
            · have w21 := zu_w32_id (z := x2 + 1) (by omega) (by omega)
              have hM : (24 - (zu_w32 (x2 + 1))) * 2 + 1 < (k : Int) := by omega
              exact ih.1 (zu_w32 (x2 + 1)) mh hImh hFmh ⟨by omega, by omega⟩ ⟨by omega, by omega⟩ hM
      · have r22 : 0 ≤ (mh a0 77) ∧ (mh a0 77) ≤ 24 := zi_rd hImh hc0 zb_28_77
        refine zw_some ?_
        refine zw_ite (fun h23 => ?_) (fun h23 => ?_)
        · refine zw_b (by omega) ?_
          exact zw_some ⟨hImh, hFmh, ⟨by omega, by omega⟩⟩
        · have b24 : 0 ≤ x2 ∧ x2 < 24 := by omega
          refine zw_if b24 ?_
          have r25 : 0 ≤ (mh 227 x2) ∧ (mh 227 x2) ≤ 1 := zi_rd hImh zq_227 (zb_136 _)
          refine zw_ite (fun h26 => ?_) (fun h26 => ?_)
          · have w27 := zu_w32_id (z := x2 + 1) (by omega) (by omega)
            have hM : (24 - (zu_w32 (x2 + 1))) * 2 + 1 < (k : Int) := by omega
            exact ih.1 (zu_w32 (x2 + 1)) mh hImh hFmh ⟨by omega, by omega⟩ ⟨by omega, by omega⟩ hM
          · have w28 := zu_w32_id (z := 4 * x2) (by omega) (by omega)
            have b29 : 0 ≤ (zu_w32 (4 * x2)) ∧ (zu_w32 (4 * x2)) < 96 := by omega
            refine zw_if b29 ?_
            have r30 : (-1) ≤ (mh 226 (zu_w32 (4 * x2))) ∧ (mh 226 (zu_w32 (4 * x2))) ≤ 200 := zi_rdr (m := 4) (r0 := 0) (r1 := 0) hImh zq_226 (by omega) (by decide +kernel)
            refine zw_ite (fun h31 => ?_) (fun h31 => ?_)
            · have w32 := zu_w32_id (z := (zu_w32 (4 * x2)) + 1) (by omega) (by omega)
              have b33 : 0 ≤ (zu_w32 ((zu_w32 (4 * x2)) + 1)) ∧ (zu_w32 ((zu_w32 (4 * x2)) + 1)) < 96 := by omega
              refine zw_if b33 ?_
              have r34 : 0 ≤ (mh 226 (zu_w32 ((zu_w32 (4 * x2)) + 1))) ∧ (mh 226 (zu_w32 ((zu_w32 (4 * x2)) + 1))) ≤ 23 := zi_rdr (m := 4) (r0 := 1) (r1 := 1) hImh zq_226 (by omega) (by decide +kernel)
              refine zw_bd (zw_mono (zk_130 n hImh hc0 ⟨by omega, by omega⟩ ⟨by omega, by omega⟩) (fun v36 m35 hqm35 => ?_))
              obtain ⟨hIm35, hfm35, hvm35⟩ := hqm35
              have hFm35 := zfr_tr hFmh hfm35 rfl
              have w37 := zu_w32_id (z := (zu_w32 (4 * x2)) + 2) (by omega) (by omega)
              have b38 : 0 ≤ (zu_w32 ((zu_w32 (4 * x2)) + 2)) ∧ (zu_w32 ((zu_w32 (4 * x2)) + 2)) < 96 := by omega
              refine zw_if b38 ?_
              have r39 : 0 ≤ (m35 226 (zu_w32 ((zu_w32 (4 * x2)) + 2))) ∧ (m35 226 (zu_w32 ((zu_w32 (4 * x2)) + 2))) ≤ 16 := zi_rdr (m := 4) (r0 := 2) (r1 := 2) hIm35 zq_226 (by omega) (by decide +kernel)
              refine zw_ite (fun h40 => ?_) (fun h40 => ?_)
              · have hM : (24 - x2) * 2 + 0 < (k : Int) := by omega
                exact ih.2 x2 0 m35 hIm35 hFm35 ⟨by omega, by omega⟩ ⟨by omega, by omega⟩ ⟨by omega, by omega⟩ hM
              · have hM : (24 - x2) * 2 + 0 < (k : Int) := by omega
                exact ih.2 x2 1 m35 hIm35 hFm35 ⟨by omega, by omega⟩ ⟨by omega, by omega⟩ ⟨by omega, by omega⟩ hM
            · have w41 := zu_w32_id (z := x2 + 1) (by omega) (by omega)
              have hM : (24 - (zu_w32 (x2 + 1))) * 2 + 1 < (k : Int) := by omega
              exact ih.1 (zu_w32 (x2 + 1)) mh hImh hFmh ⟨by omega, by omega⟩ ⟨by omega, by omega⟩ hM
    · intro x2 x3 mh hImh hFmh hba1 hbx2 hbx3 hM
      refine zw_eq (zu_rega_at (zt_T n) (zm_183 n) (zdp_183 n) _ _ _ _ _ _ (zr_183_68 n _ _ a0 a1 x2 x3 mh)) ?_
      have w42 := zu_w32_id (z := 4 * x2) (by omega) (by omega)
      have w43 := zu_w32_id (z := (zu_w32 (4 * x2)) + 3) (by omega) (by omega)
      have b44 : 0 ≤ (zu_w32 ((zu_w32 (4 * x2)) + 3)) ∧ (zu_w32 ((zu_w32 (4 * x2)) + 3)) < 96 := by omega
      refine zw_if b44 ?_
      have r45 : 0 ≤ (mh 226 (zu_w32 ((zu_w32 (4 * x2)) + 3))) ∧ (mh 226 (zu_w32 ((zu_w32 (4 * x2)) + 3))) ≤ 1 := zi_rdr (m := 4) (r0 := 3) (r1 := 3) hImh zq_226 (by omega) (by decide +kernel)
      refine zw_ite (fun h46 => ?_) (fun h46 => ?_)
      · refine zw_ite (fun h47 => ?_) (fun h47 => ?_)
        · have w48 := zu_w32_id (z := x2 + 1) (by omega) (by omega)
          have hM : (24 - (zu_w32 (x2 + 1))) * 2 + 1 < (k : Int) := by omega
          exact zw_le (zu_forget (zu_lr_same (zu_lr_same (zu_lr_same (zu_lr_drop zu_lr_nil))))) (ih.1 (zu_w32 (x2 + 1)) mh hImh hFmh ⟨by omega, by omega⟩ ⟨by omega, by omega⟩ hM)
        · refine zw_b (by omega) ?_
          exact zw_some ⟨hImh, hFmh, ⟨by omega, by omega⟩⟩
      · refine zw_ite (fun h49 => ?_) (fun h49 => ?_)
        · have w50 := zu_w32_id (z := x2 + 1) (by omega) (by omega)
          have hM : (24 - (zu_w32 (x2 + 1))) * 2 + 1 < (k : Int) := by omega
          exact zw_le (zu_forget (zu_lr_same (zu_lr_same (zu_lr_same (zu_lr_drop zu_lr_nil))))) (ih.1 (zu_w32 (x2 + 1)) mh hImh hFmh ⟨by omega, by omega⟩ ⟨by omega, by omega⟩ hM)
        · refine zw_b (by omega) ?_
          exact zw_some ⟨hImh, hFmh, ⟨by omega, by omega⟩⟩
set_option maxHeartbeats 4000000 in
theorem zk_183 (n : Nat) {a0 a1 : Int} {m0 : zu_m} (hIm0 : zi_I m0) (hc0 : zcls a0 = 28) (ha1 : 1 ≤ a1 ∧ a1 ≤ 200)     : zw (zu_call (zt_T n) 183 [(40, a0), (0, a1)] m0) (fun v m => zi_I m ∧ zfr [] m0 m ∧ (0 ≤ v ∧ v ≤ 1)) := by
  have hFm0 : zfr [] m0 m0 := zfr_rf _ _
  refine zw_eq (zu_call_at (zt_T n) (zm_183 n) (zdp_183 n) _ _ _ _ _ rfl (zr_183_0 n _ _ a0 a1 m0)) ?_
  have hM : (24 - 0) * 2 + 1 < ((50 : Nat) : Int) := by omega
  exact (zl_183 n (m0 := m0) hc0 50).1 0 m0 hIm0 hFm0 ⟨by omega, by omega⟩ ⟨by omega, by omega⟩ hM
set_option maxHeartbeats 4000000 in
theorem zl_190 (n : Nat) {a0 : Int} {m0 : zu_m} (hc0 : zcls a0 = 28)   : ∀ k : Nat, (∀ (x1 : Int) (mh : zu_m), zi_I mh → zfr [(28, 82), (137, 0)] m0 mh → (0 ≤ x1 ∧ x1 ≤ 439) → (20 ≤ mh a0 81 ∧ mh a0 81 ≤ 20) → (zcpl m0 mh 228 22 x1) → (zR_RU m0) → ((mh a0 81) = (m0 a0 81)) → (zE1 mh 0) → (zR_TE mh) → (439 - x1) * 1 + 0 < (k : Int) → zw (zu_ex (zt_T n) 190 11 [(40, a0), (0, x1)] [] mh) (fun v m => zi_I m ∧ zfr [(28, 82), (137, 0)] m0 m ∧ zR_RU m ∧ zE1 m 0 ∧ zR_TE m ∧ True ∧ (1 ≤ m a0 81 ∧ m a0 81 ≤ 20))) := by
  intro k
  induction k with
  | zero => exact fun x1 mh hImh hFmh hbx1 hg1 hH0 hH1 hH2 hRSEmh hRTEmh hM => by exfalso; omega
  | succ k ih =>
    intro x1 mh hImh hFmh hbx1 hg1 hH0 hH1 hH2 hRSEmh hRTEmh hM
    refine zw_eq (zu_rega_at (zt_T n) (zm_190 n) (zdp_190 n) _ _ _ _ _ _ (zr_190_11 n _ _ a0 x1 mh)) ?_
    refine zw_ite (fun h1 => ?_) (fun h1 => ?_)
    · have w2 := zu_w32_id (z := (mh a0 81) - 1) (by omega) (by omega)
      generalize hmm3 : zu_up mh a0 81 (zu_w32 ((mh a0 81) - 1)) = m3
      have hIm3 := zi_up hmm3 hImh hc0 zb_28_81 (by omega) (by omega)
      have hFm3 := zfr_up hmm3 hFmh hc0 rfl
      have hRSEm3 := zR_SE_fr (zdis_fr (zfr_up hmm3 (zfr_rf [(28, 82)] _) hc0 rfl) rfl) hRSEmh
      have hRTEm3 := zR_TE_fr (zdis_fr (zfr_up hmm3 (zfr_rf [(28, 82)] _) hc0 rfl) rfl) hRTEmh
      have hRRUm3 := zRU_shift (zone_190 hc0) hH0 (by omega) (by omega) hH2 (zfr_ap hFmh hc0 rfl) (zfr_ap hFmh hc0 rfl) (zfr_ap hFmh hc0 rfl) (zfr_ap hFmh hc0 rfl) hmm3 (by omega) hH1
      have r4 : 0 ≤ (m3 a0 81) ∧ (m3 a0 81) ≤ 20 := zi_rd hIm3 hc0 zb_28_81
      have e5 : (m3 a0 81) = (zu_w32 ((mh a0 81) - 1)) := (zs_eq hmm3)
      have w6 := zu_w32_id (z := 22 * (m3 a0 81)) (by omega) (by omega)
      refine zw_bd (zw_mono (zk_188_28_137 n hIm3 hc0 zq_228 ⟨by omega, by omega⟩ (by omega)) (fun v8 m7 hqm7 => ?_))
      obtain ⟨hIm7, hfm7, hvm7⟩ := hqm7
      have hFm7 := zfr_tr hFm3 hfm7 rfl
      have hRSEm7 := zR_SE_fr (zdis_fr hfm7 rfl) hRSEm3
      have hRTEm7 := zR_TE_fr (zdis_fr hfm7 rfl) hRTEm3
      have r9 : 0 ≤ (m7 a0 81) ∧ (m7 a0 81) ≤ 20 := zi_rd hIm7 hc0 zb_28_81
      have e10 : (m7 a0 81) = (m3 a0 81) := (zfr_ap hfm7 hc0 rfl)
      have w11 := zu_w32_id (z := (m7 a0 81) + 1) (by omega) (by omega)
      generalize hmm12 : zu_up m7 a0 81 (zu_w32 ((m7 a0 81) + 1)) = m12
      have hIm12 := zi_up hmm12 hIm7 hc0 zb_28_81 (by omega) (by omega)
      have hFm12 := zfr_up hmm12 hFm7 hc0 rfl
      have hRSEm12 := zR_SE_fr (zdis_fr (zfr_up hmm12 (zfr_rf [(28, 82)] _) hc0 rfl) rfl) hRSEm7
      have hRTEm12 := zR_TE_fr (zdis_fr (zfr_up hmm12 (zfr_rf [(28, 82)] _) hc0 rfl) rfl) hRTEm7
      have r13 : 0 ≤ (m7 a0 14) ∧ (m7 a0 14) ≤ 12 := zi_rd hIm7 hc0 zb_28_14
      have r14 : 0 ≤ (m7 a0 15) ∧ (m7 a0 15) ≤ 4 := zi_rd hIm7 hc0 zb_28_15
      have r15 : 0 ≤ (m3 a0 14) ∧ (m3 a0 14) ≤ 12 := zi_rd hIm3 hc0 zb_28_14
      have r16 : 0 ≤ (m3 a0 15) ∧ (m3 a0 15) ≤ 4 := zi_rd hIm3 hc0 zb_28_15
      have hRRUm12 := zRU_put (i := (zu_w32 (22 * (m3 a0 81)))) (zone_190 hc0) (by omega) (hvm7.2.2) (zrow_put (zone_190 hc0) (hvm7.2.1) (by omega) hRTEm7 hRSEm7) (zfr_ap hfm7 hc0 rfl) (zfr_ap hfm7 hc0 rfl) (zfr_ap hfm7 hc0 rfl) (zfr_ap hfm7 hc0 rfl) (zfr_ap hfm7 hc0 rfl) hmm12 (by omega) hRRUm3
      have r17 : 0 ≤ (m12 a0 81) ∧ (m12 a0 81) ≤ 20 := zi_rd hIm12 hc0 zb_28_81
      have e18 : (m12 a0 81) = (zu_w32 ((m7 a0 81) + 1)) := (zs_eq hmm12)
      exact zw_some ⟨hIm12, hFm12, hRRUm12, hRSEm12, hRTEm12, trivial, ⟨by omega, by omega⟩⟩
    · have w19 := zu_w32_id (z := x1 + 22) (by omega) (by omega)
      have b20 : 0 ≤ (zu_w32 (x1 + 22)) ∧ (zu_w32 (x1 + 22)) < 440 := by omega
      refine zw_if b20 ?_
      have r21 : (-2147483648) ≤ (mh 228 (zu_w32 (x1 + 22))) ∧ (mh 228 (zu_w32 (x1 + 22))) ≤ 2147483647 := zi_rdr (m := 22) (r0 := 0) (r1 := 21) hImh zq_228 (by omega) (by decide +kernel)
      have b22 : 0 ≤ x1 ∧ x1 < 440 := by omega
      refine zw_if b22 ?_
      generalize hmm23 : zu_up mh 228 x1 (mh 228 (zu_w32 (x1 + 22))) = m23
      have hIm23 := zi_upm (m := 22) (q := (zu_w32 (x1 + 22))) hmm23 hImh zq_228 (by decide +kernel) (by omega) rfl
      have hFm23 := zfr_up hmm23 hFmh zq_228 rfl
      have hRSEm23 := zR_SE_fr (zdis_fr (zfr_up hmm23 (zfr_rf [(137, 0)] _) zq_228 rfl) rfl) hRSEmh
      have hRTEm23 := zR_TE_fr (zdis_fr (zfr_up hmm23 (zfr_rf [(137, 0)] _) zq_228 rfl) rfl) hRTEmh
      have w24 := zu_w32_id (z := x1 + 1) (by omega) (by omega)
      have r25 : 0 ≤ (m23 a0 81) ∧ (m23 a0 81) ≤ 20 := zi_rd hIm23 hc0 zb_28_81
      have e26 : (m23 a0 81) = (mh a0 81) := (zs_ne hmm23 (Or.inl (zc_ne hc0 zq_228 (by decide))))
      have hM : (439 - (zu_w32 (x1 + 1))) * 1 + 0 < (k : Int) := by omega
      exact ih (zu_w32 (x1 + 1)) m23 hIm23 hFm23 ⟨by omega, by omega⟩ ⟨by omega, by omega⟩ (zcpl_t hmm23 rfl (by omega) (by omega) hH0 (by omega) (by omega)) hH1 (by omega) hRSEm23 hRTEm23 hM
set_option maxHeartbeats 4000000 in
theorem zk_190 (n : Nat) {a0 : Int} {m0 : zu_m} (hIm0 : zi_I m0) (hc0 : zcls a0 = 28)     (hRRUm0 : zR_RU m0) (hRSEm0 : zE1 m0 0) (hRTEm0 : zR_TE m0) : zw (zu_call (zt_T n) 190 [(40, a0)] m0) (fun v m => zi_I m ∧ zfr [(28, 82), (137, 0)] m0 m ∧ zR_RU m ∧ zE1 m 0 ∧ zR_TE m ∧ True ∧ (1 ≤ m a0 81 ∧ m a0 81 ≤ 20)) := by
  have hFm0 : zfr [(28, 82), (137, 0)] m0 m0 := zfr_rf _ _
  have r27 : 0 ≤ (m0 a0 81) ∧ (m0 a0 81) ≤ 20 := zi_rd hIm0 hc0 zb_28_81
  refine zw_eq (zu_call_at (zt_T n) (zm_190 n) (zdp_190 n) _ _ _ _ _ rfl (zr_190_0 n _ _ a0 m0)) ?_
  refine zw_ite (fun h28 => ?_) (fun h28 => ?_)
  · have w29 := zu_w32_id (z := 22 * (m0 a0 81)) (by omega) (by omega)
    refine zw_bd (zw_mono (zk_188_28_137 n hIm0 hc0 zq_228 ⟨by omega, by omega⟩ (by omega)) (fun v31 m30 hqm30 => ?_))
    obtain ⟨hIm30, hfm30, hvm30⟩ := hqm30
    have hFm30 := zfr_tr hFm0 hfm30 rfl
    have hRSEm30 := zR_SE_fr (zdis_fr hfm30 rfl) hRSEm0
    have hRTEm30 := zR_TE_fr (zdis_fr hfm30 rfl) hRTEm0
    have r32 : 0 ≤ (m30 a0 81) ∧ (m30 a0 81) ≤ 20 := zi_rd hIm30 hc0 zb_28_81
    have e33 : (m30 a0 81) = (m0 a0 81) := (zfr_ap hfm30 hc0 rfl)
    have w34 := zu_w32_id (z := (m30 a0 81) + 1) (by omega) (by omega)
    generalize hmm35 : zu_up m30 a0 81 (zu_w32 ((m30 a0 81) + 1)) = m35
    have hIm35 := zi_up hmm35 hIm30 hc0 zb_28_81 (by omega) (by omega)
    have hFm35 := zfr_up hmm35 hFm30 hc0 rfl
    have hRSEm35 := zR_SE_fr (zdis_fr (zfr_up hmm35 (zfr_rf [(28, 82)] _) hc0 rfl) rfl) hRSEm30
    have hRTEm35 := zR_TE_fr (zdis_fr (zfr_up hmm35 (zfr_rf [(28, 82)] _) hc0 rfl) rfl) hRTEm30
    have r36 : 0 ≤ (m30 a0 14) ∧ (m30 a0 14) ≤ 12 := zi_rd hIm30 hc0 zb_28_14
    have r37 : 0 ≤ (m30 a0 15) ∧ (m30 a0 15) ≤ 4 := zi_rd hIm30 hc0 zb_28_15
    have r38 : 0 ≤ (m0 a0 14) ∧ (m0 a0 14) ≤ 12 := zi_rd hIm0 hc0 zb_28_14
    have r39 : 0 ≤ (m0 a0 15) ∧ (m0 a0 15) ≤ 4 := zi_rd hIm0 hc0 zb_28_15
    have hRRUm35 := zRU_put (i := (zu_w32 (22 * (m0 a0 81)))) (zone_190 hc0) (by omega) (hvm30.2.2) (zrow_put (zone_190 hc0) (hvm30.2.1) (by omega) hRTEm30 hRSEm30) (zfr_ap hfm30 hc0 rfl) (zfr_ap hfm30 hc0 rfl) (zfr_ap hfm30 hc0 rfl) (zfr_ap hfm30 hc0 rfl) (zfr_ap hfm30 hc0 rfl) hmm35 (by omega) hRRUm0
    have r40 : 0 ≤ (m35 a0 81) ∧ (m35 a0 81) ≤ 20 := zi_rd hIm35 hc0 zb_28_81
    have e41 : (m35 a0 81) = (zu_w32 ((m30 a0 81) + 1)) := (zs_eq hmm35)
    exact zw_some ⟨hIm35, hFm35, hRRUm35, hRSEm35, hRTEm35, trivial, ⟨by omega, by omega⟩⟩
  · have hM : (439 - 0) * 1 + 0 < ((440 : Nat) : Int) := by omega
    exact (zl_190 n (m0 := m0) hc0 440) 0 m0 hIm0 hFm0 ⟨by omega, by omega⟩ ⟨by omega, by omega⟩ (zcpl_0 _ _ _) hRRUm0 (by omega) hRSEm0 hRTEm0 hM
set_option maxHeartbeats 4000000 in
theorem zl_191 (n : Nat) {a0 : Int} {m0 : zu_m} (hc0 : zcls a0 = 28)   : ∀ k : Nat, (∀ (x1 x2 : Int) (mh : zu_m), zi_I mh → zfr [(28, 3), (28, 63), (28, 82), (106, 0), (107, 0), (108, 0), (124, 0), (125, 1), (126, 0)] m0 mh → (0 ≤ x1 ∧ x1 ≤ 16) → (0 ≤ x2 ∧ x2 ≤ 16) → (0 ≤ mh a0 2 ∧ mh a0 2 ≤ 0) → (0 ≤ mh a0 81 ∧ mh a0 81 ≤ 19) → (zR_RU mh) → (zE1 mh 0) → (zR_TE mh) → (16 - x2) * 1 + 0 < (k : Int) → zw (zu_ex (zt_T n) 191 48 [(40, a0), (0, x1), (0, x2)] [] mh) (fun v m => zi_I m ∧ zfr [(28, 3), (28, 63), (28, 82), (106, 0), (107, 0), (108, 0), (124, 0), (125, 1), (126, 0)] m0 m ∧ zR_RU m ∧ zE1 m 0 ∧ zR_TE m ∧ ((-1) ≤ v ∧ v ≤ 20) ∧ (0 ≤ m a0 2 ∧ m a0 2 ≤ 0))) := by
  intro k
  induction k with
  | zero => exact fun x1 x2 mh hImh hFmh hbx1 hbx2 hg2 hg3 hRRUmh hRSEmh hRTEmh hM => by exfalso; omega
  | succ k ih =>
    intro x1 x2 mh hImh hFmh hbx1 hbx2 hg2 hg3 hRRUmh hRSEmh hRTEmh hM
    refine zw_eq (zu_rega_at (zt_T n) (zm_191 n) (zdp_191 n) _ _ _ _ _ _ (zr_191_48 n _ _ a0 x1 x2 mh)) ?_
    have b1 : 0 ≤ (0 : Int) ∧ (0 : Int) < 2 := by omega
    refine zw_if b1 ?_
    have r2 : 0 ≤ (mh 216 0) ∧ (mh 216 0) ≤ 16 := zi_rdr (m := 2) (r0 := 0) (r1 := 0) hImh zq_216 (by omega) (by decide +kernel)
    refine zw_ite (fun h3 => ?_) (fun h3 => ?_)
    · exact zw_some ⟨hImh, hFmh, hRRUmh, hRSEmh, hRTEmh, ⟨by omega, by omega⟩, ⟨by omega, by omega⟩⟩
    · have b4 : 0 ≤ x2 ∧ x2 < 36 := by omega
      refine zw_if b4 ?_
      generalize hmm5 : zu_up mh 215 x2 (-1) = m5
      have hIm5 := zi_up hmm5 hImh zq_215 (zb_124 _) (by omega) (by omega)
      have hFm5 := zfr_up hmm5 hFmh zq_215 rfl
      have hRRUm5 := zR_RU_fr (zdis_fr (zfr_up hmm5 (zfr_rf [(124, 0)] _) zq_215 rfl) rfl) hRRUmh
      have hRSEm5 := zR_SE_fr (zdis_fr (zfr_up hmm5 (zfr_rf [(124, 0)] _) zq_215 rfl) rfl) hRSEmh
      have hRTEm5 := zR_TE_fr (zdis_fr (zfr_up hmm5 (zfr_rf [(124, 0)] _) zq_215 rfl) rfl) hRTEmh
      have w6 := zu_w32_id (z := x2 + 1) (by omega) (by omega)
      have r7 : (-2147483648) ≤ (m5 a0 2) ∧ (m5 a0 2) ≤ 2147483647 := zi_rd hIm5 hc0 zb_28_2
      have e8 : (m5 a0 2) = (mh a0 2) := (zs_ne hmm5 (Or.inl (zc_ne hc0 zq_215 (by decide))))
      have r9 : 0 ≤ (m5 a0 81) ∧ (m5 a0 81) ≤ 20 := zi_rd hIm5 hc0 zb_28_81
      have e10 : (m5 a0 81) = (mh a0 81) := (zs_ne hmm5 (Or.inl (zc_ne hc0 zq_215 (by decide))))
      have hM : (16 - (zu_w32 (x2 + 1))) * 1 + 0 < (k : Int) := by omega
      exact ih x1 (zu_w32 (x2 + 1)) m5 hIm5 hFm5 ⟨by omega, by omega⟩ ⟨by omega, by omega⟩ ⟨by omega, by omega⟩ ⟨by omega, by omega⟩ hRRUm5 hRSEm5 hRTEm5 hM
set_option maxHeartbeats 4000000 in
theorem zk_191 (n : Nat) {a0 : Int} {m0 : zu_m} (hIm0 : zi_I m0) (hc0 : zcls a0 = 28)     (hRRUm0 : zR_RU m0) (hRSEm0 : zE1 m0 0) (hRTEm0 : zR_TE m0) : zw (zu_call (zt_T n) 191 [(40, a0)] m0) (fun v m => zi_I m ∧ zfr [(28, 3), (28, 63), (28, 82), (106, 0), (107, 0), (108, 0), (124, 0), (125, 1), (126, 0)] m0 m ∧ zR_RU m ∧ zE1 m 0 ∧ zR_TE m ∧ ((-1) ≤ v ∧ v ≤ 20) ∧ (0 ≤ m a0 2 ∧ m a0 2 ≤ 0)) := by
  have hFm0 : zfr [(28, 3), (28, 63), (28, 82), (106, 0), (107, 0), (108, 0), (124, 0), (125, 1), (126, 0)] m0 m0 := zfr_rf _ _
  refine zw_eq (zu_call_at (zt_T n) (zm_191 n) (zdp_191 n) _ _ _ _ _ rfl (zr_191_0 n _ _ a0 m0)) ?_
  generalize hmm11 : zu_up m0 a0 2 0 = m11
  have hIm11 := zi_up hmm11 hIm0 hc0 zb_28_2 (by omega) (by omega)
  have hFm11 := zfr_up hmm11 hFm0 hc0 rfl
  have hRRUm11 := zR_RU_fr (zdis_fr (zfr_up hmm11 (zfr_rf [(28, 3)] _) hc0 rfl) rfl) hRRUm0
  have hRSEm11 := zR_SE_fr (zdis_fr (zfr_up hmm11 (zfr_rf [(28, 3)] _) hc0 rfl) rfl) hRSEm0
  have hRTEm11 := zR_TE_fr (zdis_fr (zfr_up hmm11 (zfr_rf [(28, 3)] _) hc0 rfl) rfl) hRTEm0
  have r12 : 0 ≤ (m11 a0 81) ∧ (m11 a0 81) ≤ 20 := zi_rd hIm11 hc0 zb_28_81
  refine zw_ite (fun h13 => ?_) (fun h13 => ?_)
  · have w14 := zu_w32_id (z := (m11 a0 81) - 1) (by omega) (by omega)
    generalize hmm15 : zu_up m11 a0 81 (zu_w32 ((m11 a0 81) - 1)) = m15
    have hIm15 := zi_up hmm15 hIm11 hc0 zb_28_81 (by omega) (by omega)
    have hFm15 := zfr_up hmm15 hFm11 hc0 rfl
    have hRSEm15 := zR_SE_fr (zdis_fr (zfr_up hmm15 (zfr_rf [(28, 82)] _) hc0 rfl) rfl) hRSEm11
    have hRTEm15 := zR_TE_fr (zdis_fr (zfr_up hmm15 (zfr_rf [(28, 82)] _) hc0 rfl) rfl) hRTEm11
    have r16 : 0 ≤ (m15 a0 81) ∧ (m15 a0 81) ≤ 20 := zi_rd hIm15 hc0 zb_28_81
    have e17 : (m15 a0 81) = (zu_w32 ((m11 a0 81) - 1)) := (zs_eq hmm15)
    have hrow := zRU_pop (i := 22 * (m15 a0 81)) (zone_190 hc0) hmm15 (by omega) (by omega) (by omega) (by omega) hRRUm11
    have hRRUm15 := zRU_dn (zone_190 hc0) hmm15 (by omega) hRRUm11
    have b18 : 0 ≤ (0 : Int) ∧ (0 : Int) < 2 := by omega
    refine zw_if b18 ?_
    have r19 : 0 ≤ (m15 216 0) ∧ (m15 216 0) ≤ 16 := zi_rdr (m := 2) (r0 := 0) (r1 := 0) hIm15 zq_216 (by omega) (by decide +kernel)
    have w20 := zu_w32_id (z := 22 * (m15 a0 81)) (by omega) (by omega)
    refine zw_bd (zw_mono (zk_189_28_137 n hIm15 hc0 zq_228 ⟨by omega, by omega⟩ (by omega) (zrow_i hrow (by omega)) hRSEm15) (fun v22 m21 hqm21 => ?_))
    obtain ⟨hIm21, hfm21, hvm21⟩ := hqm21
    have hFm21 := zfr_tr hFm15 hfm21 rfl
    obtain ⟨hRSEm21, hRTEm21, hvm21⟩ := hvm21
    have hRRUm21 := zR_RU_fr (zdis_fr hfm21 rfl) hRRUm15
    have r23 : (-2147483648) ≤ (m21 a0 2) ∧ (m21 a0 2) ≤ 2147483647 := zi_rd hIm21 hc0 zb_28_2
    have e24 : (m21 a0 2) = 0 := (Eq.trans (zfr_ap hfm21 hc0 rfl) (Eq.trans (zs_ne hmm15 (Or.inr (by decide))) (zs_eq hmm11)))
    have r25 : 0 ≤ (m21 a0 81) ∧ (m21 a0 81) ≤ 20 := zi_rd hIm21 hc0 zb_28_81
    have e26 : (m21 a0 81) = (m15 a0 81) := (zfr_ap hfm21 hc0 rfl)
    have hM : (16 - (m15 216 0)) * 1 + 0 < ((17 : Nat) : Int) := by omega
    exact (zl_191 n (m0 := m0) hc0 17) (m15 216 0) (m15 216 0) m21 hIm21 hFm21 ⟨by omega, by omega⟩ ⟨by omega, by omega⟩ ⟨by omega, by omega⟩ ⟨by omega, by omega⟩ hRRUm21 hRSEm21 hRTEm21 hM
  · have r27 : (-2147483648) ≤ (m11 a0 2) ∧ (m11 a0 2) ≤ 2147483647 := zi_rd hIm11 hc0 zb_28_2
    have e28 : (m11 a0 2) = 0 := (zs_eq hmm11)
    exact zw_some ⟨hIm11, hFm11, hRRUm11, hRSEm11, hRTEm11, ⟨by omega, by omega⟩, ⟨by omega, by omega⟩⟩
set_option maxHeartbeats 4000000 in
theorem zl_192 (n : Nat) {a0 : Int} {m0 : zu_m} (hc0 : zcls a0 = 28)   : ∀ k : Nat, (∀ (x1 : Int) (mh : zu_m), zi_I mh → zfr [(28, 3), (28, 84), (28, 89), (28, 90), (28, 91), (138, 0), (139, 0), (140, 0), (141, 0)] m0 mh → (0 ≤ x1 ∧ x1 ≤ 16) → (0 ≤ mh a0 2 ∧ mh a0 2 ≤ 0) → (1 ≤ mh a0 83 ∧ mh a0 83 ≤ 1) → (zR_RI mh) → (zE1 mh 0) → (zR_TE mh) → (16 - x1) * 1 + 54 < (k : Int) → zw (zu_ex (zt_T n) 192 21 [(40, a0), (0, x1)] [] mh) (fun v m => zi_I m ∧ zfr [(28, 3), (28, 84), (28, 89), (28, 90), (28, 91), (138, 0), (139, 0), (140, 0), (141, 0)] m0 m ∧ zR_RI m ∧ zE1 m 0 ∧ zR_TE m ∧ ((-2147483648) ≤ v ∧ v ≤ 2147483647) ∧ (0 ≤ m a0 2 ∧ m a0 2 ≤ 0) ∧ (1 ≤ m a0 83 ∧ m a0 83 ≤ 1))) ∧ (∀ (x1 : Int) (mh : zu_m), zi_I mh → zfr [(28, 3), (28, 84), (28, 89), (28, 90), (28, 91), (138, 0), (139, 0), (140, 0), (141, 0)] m0 mh → (0 ≤ x1 ∧ x1 ≤ 4) → (0 ≤ mh a0 2 ∧ mh a0 2 ≤ 0) → (1 ≤ mh a0 83 ∧ mh a0 83 ≤ 1) → (zR_RI mh) → (zE1 mh 0) → (zR_TE mh) → (4 - x1) * 1 + 49 < (k : Int) → zw (zu_ex (zt_T n) 192 47 [(40, a0), (0, x1)] [] mh) (fun v m => zi_I m ∧ zfr [(28, 3), (28, 84), (28, 89), (28, 90), (28, 91), (138, 0), (139, 0), (140, 0), (141, 0)] m0 m ∧ zR_RI m ∧ zE1 m 0 ∧ zR_TE m ∧ ((-2147483648) ≤ v ∧ v ≤ 2147483647) ∧ (0 ≤ m a0 2 ∧ m a0 2 ≤ 0) ∧ (1 ≤ m a0 83 ∧ m a0 83 ≤ 1))) ∧ (∀ (x1 : Int) (mh : zu_m), zi_I mh → zfr [(28, 3), (28, 84), (28, 89), (28, 90), (28, 91), (138, 0), (139, 0), (140, 0), (141, 0)] m0 mh → (0 ≤ x1 ∧ x1 ≤ 48) → (0 ≤ mh a0 2 ∧ mh a0 2 ≤ 0) → (1 ≤ mh a0 83 ∧ mh a0 83 ≤ 1) → (zR_RI mh) → (zE1 mh 0) → (zR_TE mh) → (48 - x1) * 1 + 0 < (k : Int) → zw (zu_ex (zt_T n) 192 72 [(40, a0), (0, x1)] [] mh) (fun v m => zi_I m ∧ zfr [(28, 3), (28, 84), (28, 89), (28, 90), (28, 91), (138, 0), (139, 0), (140, 0), (141, 0)] m0 m ∧ zR_RI m ∧ zE1 m 0 ∧ zR_TE m ∧ ((-2147483648) ≤ v ∧ v ≤ 2147483647) ∧ (0 ≤ m a0 2 ∧ m a0 2 ≤ 0) ∧ (1 ≤ m a0 83 ∧ m a0 83 ≤ 1))) := by
  intro k
  induction k with
  | zero => exact ⟨fun x1 mh hImh hFmh hbx1 hg1 hg2 hRRImh hRSEmh hRTEmh hM => by exfalso; omega, fun x1 mh hImh hFmh hbx1 hg1 hg2 hRRImh hRSEmh hRTEmh hM => by exfalso; omega, fun x1 mh hImh hFmh hbx1 hg1 hg2 hRRImh hRSEmh hRTEmh hM => by exfalso; omega⟩
  | succ k ih =>
    refine ⟨?_, ?_, ?_⟩
    · intro x1 mh hImh hFmh hbx1 hg1 hg2 hRRImh hRSEmh hRTEmh hM
      refine zw_eq (zu_rega_at (zt_T n) (zm_192 n) (zdp_192 n) _ _ _ _ _ _ (zr_192_21 n _ _ a0 x1 mh)) ?_
      refine zw_ite (fun h1 => ?_) (fun h1 => ?_)
      · have hM : (4 - 0) * 1 + 49 < (k : Int) := by omega
        exact ih.2.1 0 mh hImh hFmh ⟨by omega, by omega⟩ ⟨by omega, by omega⟩ ⟨by omega, by omega⟩ hRRImh hRSEmh hRTEmh hM
      · have b2 : 0 ≤ x1 ∧ x1 < 36 := by omega
        refine zw_if b2 ?_
        have r3 : (-3) ≤ (mh 215 x1) ∧ (mh 215 x1) ≤ 3 := zi_rd hImh zq_215 (zb_124 _)
        have b4 : 0 ≤ x1 ∧ x1 < 16 := by omega
        refine zw_if b4 ?_
        generalize hmm5 : zu_up mh 230 x1 (mh 215 x1) = m5
        have hIm5 := zi_up hmm5 hImh zq_230 (zb_139 _) (by omega) (by omega)
        have hFm5 := zfr_up hmm5 hFmh zq_230 rfl
        have hRRIm5 := zR_RI_fr (zdis_fr (zfr_up hmm5 (zfr_rf [(139, 0)] _) zq_230 rfl) rfl) hRRImh
        have hRSEm5 := zR_SE_fr (zdis_fr (zfr_up hmm5 (zfr_rf [(139, 0)] _) zq_230 rfl) rfl) hRSEmh
        have hRTEm5 := zR_TE_fr (zdis_fr (zfr_up hmm5 (zfr_rf [(139, 0)] _) zq_230 rfl) rfl) hRTEmh
        have w6 := zu_w32_id (z := x1 + 1) (by omega) (by omega)
        have r7 : (-2147483648) ≤ (m5 a0 2) ∧ (m5 a0 2) ≤ 2147483647 := zi_rd hIm5 hc0 zb_28_2
        have e8 : (m5 a0 2) = (mh a0 2) := (zs_ne hmm5 (Or.inl (zc_ne hc0 zq_230 (by decide))))
        have r9 : 0 ≤ (m5 a0 83) ∧ (m5 a0 83) ≤ 1 := zi_rd hIm5 hc0 zb_28_83
        have e10 : (m5 a0 83) = (mh a0 83) := (zs_ne hmm5 (Or.inl (zc_ne hc0 zq_230 (by decide))))
        have hM : (16 - (zu_w32 (x1 + 1))) * 1 + 54 < (k : Int) := by omega
        exact ih.1 (zu_w32 (x1 + 1)) m5 hIm5 hFm5 ⟨by omega, by omega⟩ ⟨by omega, by omega⟩ ⟨by omega, by omega⟩ hRRIm5 hRSEm5 hRTEm5 hM
    · intro x1 mh hImh hFmh hbx1 hg1 hg2 hRRImh hRSEmh hRTEmh hM
      refine zw_eq (zu_rega_at (zt_T n) (zm_192 n) (zdp_192 n) _ _ _ _ _ _ (zr_192_47 n _ _ a0 x1 mh)) ?_
      refine zw_ite (fun h11 => ?_) (fun h11 => ?_)
      · have hM : (48 - 0) * 1 + 0 < (k : Int) := by omega
        exact ih.2.2 0 mh hImh hFmh ⟨by omega, by omega⟩ ⟨by omega, by omega⟩ ⟨by omega, by omega⟩ hRRImh hRSEmh hRTEmh hM
      · have b12 : 0 ≤ x1 ∧ x1 < 4 := by omega
        refine zw_if b12 ?_
        have r13 : (-2147483648) ≤ (mh 219 x1) ∧ (mh 219 x1) ≤ 2147483647 := zi_rd hImh zq_219 (zb_128 _)
        have b14 : 0 ≤ x1 ∧ x1 < 4 := by omega
        refine zw_if b14 ?_
        generalize hmm15 : zu_up mh 231 x1 (mh 219 x1) = m15
        have hIm15 := zi_up hmm15 hImh zq_231 (zb_140 _) (by omega) (by omega)
        have hFm15 := zfr_up hmm15 hFmh zq_231 rfl
        have hRRIm15 := zR_RI_fr (zdis_fr (zfr_up hmm15 (zfr_rf [(140, 0)] _) zq_231 rfl) rfl) hRRImh
        have hRSEm15 := zR_SE_fr (zdis_fr (zfr_up hmm15 (zfr_rf [(140, 0)] _) zq_231 rfl) rfl) hRSEmh
        have hRTEm15 := zR_TE_fr (zdis_fr (zfr_up hmm15 (zfr_rf [(140, 0)] _) zq_231 rfl) rfl) hRTEmh
        have w16 := zu_w32_id (z := x1 + 1) (by omega) (by omega)
        have r17 : (-2147483648) ≤ (m15 a0 2) ∧ (m15 a0 2) ≤ 2147483647 := zi_rd hIm15 hc0 zb_28_2
        have e18 : (m15 a0 2) = (mh a0 2) := (zs_ne hmm15 (Or.inl (zc_ne hc0 zq_231 (by decide))))
        have r19 : 0 ≤ (m15 a0 83) ∧ (m15 a0 83) ≤ 1 := zi_rd hIm15 hc0 zb_28_83
        have e20 : (m15 a0 83) = (mh a0 83) := (zs_ne hmm15 (Or.inl (zc_ne hc0 zq_231 (by decide))))
        have hM : (4 - (zu_w32 (x1 + 1))) * 1 + 49 < (k : Int) := by omega
        exact ih.2.1 (zu_w32 (x1 + 1)) m15 hIm15 hFm15 ⟨by omega, by omega⟩ ⟨by omega, by omega⟩ ⟨by omega, by omega⟩ hRRIm15 hRSEm15 hRTEm15 hM
    · intro x1 mh hImh hFmh hbx1 hg1 hg2 hRRImh hRSEmh hRTEmh hM
      refine zw_eq (zu_rega_at (zt_T n) (zm_192 n) (zdp_192 n) _ _ _ _ _ _ (zr_192_72 n _ _ a0 x1 mh)) ?_
      refine zw_ite (fun h21 => ?_) (fun h21 => ?_)
      · have b22 : 0 ≤ (0 : Int) ∧ (0 : Int) < 2 := by omega
        refine zw_if b22 ?_
        have r23 : (-9223372036854775808) ≤ (mh 220 0) ∧ (mh 220 0) ≤ 9223372036854775807 := zi_rd hImh zq_220 (zb_129 _)
        generalize hmm24 : zu_up mh a0 88 (mh 220 0) = m24
        have hIm24 := zi_up hmm24 hImh hc0 zb_28_88 (by omega) (by omega)
        have hFm24 := zfr_up hmm24 hFmh hc0 rfl
        have hRRIm24 := zR_RI_fr (zdis_fr (zfr_up hmm24 (zfr_rf [(28, 89)] _) hc0 rfl) rfl) hRRImh
        have hRSEm24 := zR_SE_fr (zdis_fr (zfr_up hmm24 (zfr_rf [(28, 89)] _) hc0 rfl) rfl) hRSEmh
        have hRTEm24 := zR_TE_fr (zdis_fr (zfr_up hmm24 (zfr_rf [(28, 89)] _) hc0 rfl) rfl) hRTEmh
        have b25 : 0 ≤ (0 : Int) ∧ (0 : Int) < 2 := by omega
        refine zw_if b25 ?_
        have r26 : (-2147483648) ≤ (m24 221 0) ∧ (m24 221 0) ≤ 2147483647 := zi_rd hIm24 zq_221 (zb_130 _)
        generalize hmm27 : zu_up m24 a0 89 (m24 221 0) = m27
        have hIm27 := zi_up hmm27 hIm24 hc0 zb_28_89 (by omega) (by omega)
        have hFm27 := zfr_up hmm27 hFm24 hc0 rfl
        have hRRIm27 := zR_RI_fr (zdis_fr (zfr_up hmm27 (zfr_rf [(28, 90)] _) hc0 rfl) rfl) hRRIm24
        have hRSEm27 := zR_SE_fr (zdis_fr (zfr_up hmm27 (zfr_rf [(28, 90)] _) hc0 rfl) rfl) hRSEm24
        have hRTEm27 := zR_TE_fr (zdis_fr (zfr_up hmm27 (zfr_rf [(28, 90)] _) hc0 rfl) rfl) hRTEm24
        have r28 : (-9223372036854775808) ≤ (m27 a0 63) ∧ (m27 a0 63) ≤ 9223372036854775807 := zi_rd hIm27 hc0 zb_28_63
        generalize hmm29 : zu_up m27 a0 90 (m27 a0 63) = m29
        have hIm29 := zi_up hmm29 hIm27 hc0 zb_28_90 (by omega) (by omega)
        have hFm29 := zfr_up hmm29 hFm27 hc0 rfl
        have hRRIm29 := zR_RI_fr (zdis_fr (zfr_up hmm29 (zfr_rf [(28, 91)] _) hc0 rfl) rfl) hRRIm27
        have hRSEm29 := zR_SE_fr (zdis_fr (zfr_up hmm29 (zfr_rf [(28, 91)] _) hc0 rfl) rfl) hRSEm27
        have hRTEm29 := zR_TE_fr (zdis_fr (zfr_up hmm29 (zfr_rf [(28, 91)] _) hc0 rfl) rfl) hRTEm27
        have b30 : 0 ≤ (0 : Int) ∧ (0 : Int) < 2 := by omega
        refine zw_if b30 ?_
        have r31 : (-2147483648) ≤ (m29 221 0) ∧ (m29 221 0) ≤ 2147483647 := zi_rd hIm29 zq_221 (zb_130 _)
        have e32 : (m29 221 0) = (m24 221 0) := (Eq.trans (zs_ne hmm29 (Or.inl (zc_ne zq_221 hc0 (by decide)))) (zs_ne hmm27 (Or.inl (zc_ne zq_221 hc0 (by decide)))))
        have r33 : (-2147483648) ≤ (m29 a0 2) ∧ (m29 a0 2) ≤ 2147483647 := zi_rd hIm29 hc0 zb_28_2
        have e34 : (m29 a0 2) = (mh a0 2) := (Eq.trans (zs_ne hmm29 (Or.inr (by decide))) (Eq.trans (zs_ne hmm27 (Or.inr (by decide))) (zs_ne hmm24 (Or.inr (by decide)))))
        have r35 : 0 ≤ (m29 a0 83) ∧ (m29 a0 83) ≤ 1 := zi_rd hIm29 hc0 zb_28_83
        have e36 : (m29 a0 83) = (mh a0 83) := (Eq.trans (zs_ne hmm29 (Or.inr (by decide))) (Eq.trans (zs_ne hmm27 (Or.inr (by decide))) (zs_ne hmm24 (Or.inr (by decide)))))
        exact zw_some ⟨hIm29, hFm29, hRRIm29, hRSEm29, hRTEm29, ⟨by omega, by omega⟩, ⟨by omega, by omega⟩, ⟨by omega, by omega⟩⟩
      · have b37 : 0 ≤ x1 ∧ x1 < 48 := by omega
        refine zw_if b37 ?_
        have r38 : (-2147483648) ≤ (mh 222 x1) ∧ (mh 222 x1) ≤ 2147483647 := zi_rd hImh zq_222 (zb_131 _)
        have b39 : 0 ≤ x1 ∧ x1 < 48 := by omega
        refine zw_if b39 ?_
        generalize hmm40 : zu_up mh 232 x1 (mh 222 x1) = m40
        have hIm40 := zi_up hmm40 hImh zq_232 (zb_141 _) (by omega) (by omega)
        have hFm40 := zfr_up hmm40 hFmh zq_232 rfl
        have hRRIm40 := zR_RI_fr (zdis_fr (zfr_up hmm40 (zfr_rf [(141, 0)] _) zq_232 rfl) rfl) hRRImh
        have hRSEm40 := zR_SE_fr (zdis_fr (zfr_up hmm40 (zfr_rf [(141, 0)] _) zq_232 rfl) rfl) hRSEmh
        have hRTEm40 := zR_TE_fr (zdis_fr (zfr_up hmm40 (zfr_rf [(141, 0)] _) zq_232 rfl) rfl) hRTEmh
        have w41 := zu_w32_id (z := x1 + 1) (by omega) (by omega)
        have r42 : (-2147483648) ≤ (m40 a0 2) ∧ (m40 a0 2) ≤ 2147483647 := zi_rd hIm40 hc0 zb_28_2
        have e43 : (m40 a0 2) = (mh a0 2) := (zs_ne hmm40 (Or.inl (zc_ne hc0 zq_232 (by decide))))
        have r44 : 0 ≤ (m40 a0 83) ∧ (m40 a0 83) ≤ 1 := zi_rd hIm40 hc0 zb_28_83
        have e45 : (m40 a0 83) = (mh a0 83) := (zs_ne hmm40 (Or.inl (zc_ne hc0 zq_232 (by decide))))
        have hM : (48 - (zu_w32 (x1 + 1))) * 1 + 0 < (k : Int) := by omega
        exact ih.2.2 (zu_w32 (x1 + 1)) m40 hIm40 hFm40 ⟨by omega, by omega⟩ ⟨by omega, by omega⟩ ⟨by omega, by omega⟩ hRRIm40 hRSEm40 hRTEm40 hM
set_option maxHeartbeats 4000000 in
theorem zk_192 (n : Nat) {a0 : Int} {m0 : zu_m} (hIm0 : zi_I m0) (hc0 : zcls a0 = 28)     (hRSEm0 : zE1 m0 0) (hRTEm0 : zR_TE m0) : zw (zu_call (zt_T n) 192 [(40, a0)] m0) (fun v m => zi_I m ∧ zfr [(28, 3), (28, 84), (28, 89), (28, 90), (28, 91), (138, 0), (139, 0), (140, 0), (141, 0)] m0 m ∧ zR_RI m ∧ zE1 m 0 ∧ zR_TE m ∧ ((-2147483648) ≤ v ∧ v ≤ 2147483647) ∧ (0 ≤ m a0 2 ∧ m a0 2 ≤ 0) ∧ (1 ≤ m a0 83 ∧ m a0 83 ≤ 1)) := by
  have hFm0 : zfr [(28, 3), (28, 84), (28, 89), (28, 90), (28, 91), (138, 0), (139, 0), (140, 0), (141, 0)] m0 m0 := zfr_rf _ _
  refine zw_eq (zu_call_at (zt_T n) (zm_192 n) (zdp_192 n) _ _ _ _ _ rfl (zr_192_0 n _ _ a0 m0)) ?_
  generalize hmm46 : zu_up m0 a0 2 0 = m46
  have hIm46 := zi_up hmm46 hIm0 hc0 zb_28_2 (by omega) (by omega)
  have hFm46 := zfr_up hmm46 hFm0 hc0 rfl
  have hRSEm46 := zR_SE_fr (zdis_fr (zfr_up hmm46 (zfr_rf [(28, 3)] _) hc0 rfl) rfl) hRSEm0
  have hRTEm46 := zR_TE_fr (zdis_fr (zfr_up hmm46 (zfr_rf [(28, 3)] _) hc0 rfl) rfl) hRTEm0
  refine zw_b (by omega) ?_
  generalize hmm47 : zu_up m46 a0 83 1 = m47
  have hIm47 := zi_up hmm47 hIm46 hc0 zb_28_83 (by omega) (by omega)
  have hFm47 := zfr_up hmm47 hFm46 hc0 rfl
  have hRSEm47 := zR_SE_fr (zdis_fr (zfr_up hmm47 (zfr_rf [(28, 84)] _) hc0 rfl) rfl) hRSEm46
  have hRTEm47 := zR_TE_fr (zdis_fr (zfr_up hmm47 (zfr_rf [(28, 84)] _) hc0 rfl) rfl) hRTEm46
  refine zw_bd (zw_mono (zk_188_28_138 n hIm47 hc0 zq_229 ⟨by omega, by omega⟩ (by omega)) (fun v49 m48 hqm48 => ?_))
  obtain ⟨hIm48, hfm48, hvm48⟩ := hqm48
  have hFm48 := zfr_tr hFm47 hfm48 rfl
  have hRSEm48 := zR_SE_fr (zdis_fr hfm48 rfl) hRSEm47
  have hRTEm48 := zR_TE_fr (zdis_fr hfm48 rfl) hRTEm47
  have hRRIm48 := zRI_of (zrow_put (zone_190 hc0) (hvm48.2.1) (by omega) hRTEm48 hRSEm48)
  have r50 : (-2147483648) ≤ (m48 a0 2) ∧ (m48 a0 2) ≤ 2147483647 := zi_rd hIm48 hc0 zb_28_2
  have e51 : (m48 a0 2) = 0 := (Eq.trans (zfr_ap hfm48 hc0 rfl) (Eq.trans (zs_ne hmm47 (Or.inr (by decide))) (zs_eq hmm46)))
  have r52 : 0 ≤ (m48 a0 83) ∧ (m48 a0 83) ≤ 1 := zi_rd hIm48 hc0 zb_28_83
  have e53 : (m48 a0 83) = 1 := (Eq.trans (zfr_ap hfm48 hc0 rfl) (zs_eq hmm47))
  have hM : (16 - 0) * 1 + 54 < ((71 : Nat) : Int) := by omega
  exact (zl_192 n (m0 := m0) hc0 71).1 0 m48 hIm48 hFm48 ⟨by omega, by omega⟩ ⟨by omega, by omega⟩ ⟨by omega, by omega⟩ hRRIm48 hRSEm48 hRTEm48 hM

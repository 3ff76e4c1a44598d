set_option maxHeartbeats 4000000 in
theorem zk_104 (n : Nat) {a0 : Int} {m0 : zu_m} (hIm0 : zi_I m0) (hc0 : zcls a0 = 28)   (he0 : 6 ≤ m0 a0 9 ∧ m0 a0 9 ≤ 10)  (hRNSm0 : zR_NS m0) : zw (zu_call (zt_T n) 104 [(40, a0)] m0) (fun v m => zi_I m ∧ zfr [(28, 5), (28, 6), (28, 8), (28, 9), (28, 10), (28, 11), (28, 12), (102, 0), (103, 0)] m0 m ∧ zR_NS m ∧ (0 ≤ v ∧ v ≤ 1)) := by
  have hFm0 : zfr [(28, 5), (28, 6), (28, 8), (28, 9), (28, 10), (28, 11), (28, 12), (102, 0), (103, 0)] m0 m0 := zfr_rf _ _
  have s1 := hRNSm0 a0 hc0
  refine zw_eq (zr_104_0 n a0 m0) ?_
  refine zw_ite (fun h2 => ?_) (fun h2 => ?_)
  · refine zw_bd (zw_eq (zr_98_0 n a0 1 m0) ?_)
    have b3 : 0 ≤ (1 : Int) ∧ (1 : Int) < 6 := by omega
    refine zw_if b3 ?_
    have r4 : 0 ≤ (m0 193 1) ∧ (m0 193 1) ≤ 1 := zi_rd hIm0 zq_193 (zb_102 _)
    refine zw_ite (fun h5 => ?_) (fun h5 => ?_)
    · refine zw_b (by omega) ?_
      have b6 : 0 ≤ (1 : Int) ∧ (1 : Int) < 6 := by omega
      refine zw_if b6 ?_
      generalize hmm7 : zu_up m0 193 1 1 = m7
      have hIm7 := zi_up hmm7 hIm0 zq_193 (zb_102 _) (by omega) (by omega)
      have hFm7 := zfr_up hmm7 hFm0 zq_193 rfl
      have hRNSm7 := zR_NS_fr (zdis_fr (zfr_up hmm7 (zfr_rf [(102, 0)] _) zq_193 rfl) rfl) hRNSm0
      refine zw_bd (zw_mono (zk_89 n hIm7 hc0 hRNSm7) (fun v9 m8 hqm8 => ?_))
      obtain ⟨hIm8, hfm8, hvm8⟩ := hqm8
      have hFm8 := zfr_tr hFm7 hfm8 rfl
      obtain ⟨hRNSm8, hvm8⟩ := hvm8
      have s10 := hRNSm8 a0 hc0
      refine zw_b (by omega) ?_
      refine zw_some ?_
      refine zw_ite (fun h11 => ?_) (fun h11 => ?_)
      · exfalso; omega
      · refine zw_bd (zw_eq (zr_97_0 n a0 16 18 m8) ?_)
        have r12 : 0 ≤ (m8 a0 8) ∧ (m8 a0 8) ≤ 6 := zi_rd hIm8 hc0 zb_28_8
        refine zw_ite (fun h13 => ?_) (fun h13 => ?_)
        · refine zw_bd (zw_eq (zr_85_0 n a0 1 m8) ?_)
          generalize hmm14 : zu_up m8 a0 4 1 = m14
          have hIm14 := zi_up hmm14 hIm8 hc0 zb_28_4 (by omega) (by omega)
          have hFm14 := zfr_up hmm14 hFm8 hc0 rfl
          have hRNSm14 := zR_NS_fr (zdis_fr (zfr_up hmm14 (zfr_rf [(28, 5)] _) hc0 rfl) rfl) hRNSm8
          have r15 : 0 ≤ (m14 a0 10) ∧ (m14 a0 10) ≤ 700 := zi_rd hIm14 hc0 zb_28_10
          generalize hmm16 : zu_up m14 a0 5 (m14 a0 10) = m16
          have hIm16 := zi_up hmm16 hIm14 hc0 zb_28_5 (by omega) (by omega)
          have hFm16 := zfr_up hmm16 hFm14 hc0 rfl
          have hRNSm16 := zR_NS_fr (zdis_fr (zfr_up hmm16 (zfr_rf [(28, 6)] _) hc0 rfl) rfl) hRNSm14
          refine zw_b (by omega) ?_
          refine zw_some ?_
          refine zw_b (by omega) ?_
          refine zw_some ?_
          refine zw_ite (fun h17 => ?_) (fun h17 => ?_)
          · exfalso; omega
          · refine zw_b (by omega) ?_
            exact zw_some ⟨hIm16, hFm16, hRNSm16, ⟨by omega, by omega⟩⟩
        · have r18 : (-2147483648) ≤ (m8 a0 9) ∧ (m8 a0 9) ≤ 2147483647 := zi_rd hIm8 hc0 zb_28_9
          refine zw_ite (fun h19 => ?_) (fun h19 => ?_)
          · refine zw_bd (zw_eq (zr_85_0 n a0 1 m8) ?_)
            generalize hmm20 : zu_up m8 a0 4 1 = m20
            have hIm20 := zi_up hmm20 hIm8 hc0 zb_28_4 (by omega) (by omega)
            have hFm20 := zfr_up hmm20 hFm8 hc0 rfl
            have hRNSm20 := zR_NS_fr (zdis_fr (zfr_up hmm20 (zfr_rf [(28, 5)] _) hc0 rfl) rfl) hRNSm8
            have r21 : 0 ≤ (m20 a0 10) ∧ (m20 a0 10) ≤ 700 := zi_rd hIm20 hc0 zb_28_10
            generalize hmm22 : zu_up m20 a0 5 (m20 a0 10) = m22
            have hIm22 := zi_up hmm22 hIm20 hc0 zb_28_5 (by omega) (by omega)
            have hFm22 := zfr_up hmm22 hFm20 hc0 rfl
            have hRNSm22 := zR_NS_fr (zdis_fr (zfr_up hmm22 (zfr_rf [(28, 6)] _) hc0 rfl) rfl) hRNSm20
            refine zw_b (by omega) ?_
            refine zw_some ?_
            refine zw_b (by omega) ?_
            refine zw_some ?_
            refine zw_ite (fun h23 => ?_) (fun h23 => ?_)
            · exfalso; omega
            · refine zw_b (by omega) ?_
              exact zw_some ⟨hIm22, hFm22, hRNSm22, ⟨by omega, by omega⟩⟩
          · refine zw_ite (fun h24 => ?_) (fun h24 => ?_)
            · have w25 := zu_w32_id (z := (m8 a0 9) - 16) (by omega) (by omega)
              refine zw_bd (zw_mono (zk_89 n hIm8 hc0 hRNSm8) (fun v27 m26 hqm26 => ?_))
              obtain ⟨hIm26, hfm26, hvm26⟩ := hqm26
              have hFm26 := zfr_tr hFm8 hfm26 rfl
              obtain ⟨hRNSm26, hvm26⟩ := hvm26
              have s28 := hRNSm26 a0 hc0
              generalize hmm29 : zu_up m26 a0 11 (zu_w32 ((m8 a0 9) - 16)) = m29
              have hIm29 := zi_up hmm29 hIm26 hc0 zb_28_11 (by omega) (by omega)
              have hFm29 := zfr_up hmm29 hFm26 hc0 rfl
              have hRNSm29 := zR_NS_fr (zdis_fr (zfr_up hmm29 (zfr_rf [(28, 12)] _) hc0 rfl) rfl) hRNSm26
              refine zw_b (by omega) ?_
              refine zw_some ?_
              refine zw_ite (fun h30 => ?_) (fun h30 => ?_)
              · have r31 : (-2147483648) ≤ (m29 a0 11) ∧ (m29 a0 11) ≤ 2147483647 := zi_rd hIm29 hc0 zb_28_11
                have e32 : (m29 a0 11) = (zu_w32 ((m8 a0 9) - 16)) := (zs_eq hmm29)
                have b33 : 0 ≤ (5 : Int) ∧ (5 : Int) < 10 := by omega
                refine zw_if b33 ?_
                generalize hmm34 : zu_up m29 194 5 (m29 a0 11) = m34
                have hIm34 := zi_up hmm34 hIm29 zq_194 (zb_103 _) (by omega) (by omega)
                have hFm34 := zfr_up hmm34 hFm29 zq_194 rfl
                have hRNSm34 := zR_NS_fr (zdis_fr (zfr_up hmm34 (zfr_rf [(103, 0)] _) zq_194 rfl) rfl) hRNSm29
                refine zw_b (by omega) ?_
                exact zw_some ⟨hIm34, hFm34, hRNSm34, ⟨by omega, by omega⟩⟩
              · exfalso; omega
            · refine zw_bd (zw_eq (zr_85_0 n a0 1 m8) ?_)
              generalize hmm35 : zu_up m8 a0 4 1 = m35
              have hIm35 := zi_up hmm35 hIm8 hc0 zb_28_4 (by omega) (by omega)
              have hFm35 := zfr_up hmm35 hFm8 hc0 rfl
              have hRNSm35 := zR_NS_fr (zdis_fr (zfr_up hmm35 (zfr_rf [(28, 5)] _) hc0 rfl) rfl) hRNSm8
              have r36 : 0 ≤ (m35 a0 10) ∧ (m35 a0 10) ≤ 700 := zi_rd hIm35 hc0 zb_28_10
              generalize hmm37 : zu_up m35 a0 5 (m35 a0 10) = m37
              have hIm37 := zi_up hmm37 hIm35 hc0 zb_28_5 (by omega) (by omega)
              have hFm37 := zfr_up hmm37 hFm35 hc0 rfl
              have hRNSm37 := zR_NS_fr (zdis_fr (zfr_up hmm37 (zfr_rf [(28, 6)] _) hc0 rfl) rfl) hRNSm35
              refine zw_b (by omega) ?_
              refine zw_some ?_
              refine zw_b (by omega) ?_
              refine zw_some ?_
              refine zw_ite (fun h38 => ?_) (fun h38 => ?_)
              · exfalso; omega
              · refine zw_b (by omega) ?_
                exact zw_some ⟨hIm37, hFm37, hRNSm37, ⟨by omega, by omega⟩⟩
    · refine zw_bd (zw_eq (zr_85_0 n a0 3 m0) ?_)
      generalize hmm39 : zu_up m0 a0 4 3 = m39
      have hIm39 := zi_up hmm39 hIm0 hc0 zb_28_4 (by omega) (by omega)
      have hFm39 := zfr_up hmm39 hFm0 hc0 rfl
      have hRNSm39 := zR_NS_fr (zdis_fr (zfr_up hmm39 (zfr_rf [(28, 5)] _) hc0 rfl) rfl) hRNSm0
      have r40 : 0 ≤ (m39 a0 10) ∧ (m39 a0 10) ≤ 700 := zi_rd hIm39 hc0 zb_28_10
      generalize hmm41 : zu_up m39 a0 5 (m39 a0 10) = m41
      have hIm41 := zi_up hmm41 hIm39 hc0 zb_28_5 (by omega) (by omega)
      have hFm41 := zfr_up hmm41 hFm39 hc0 rfl
      have hRNSm41 := zR_NS_fr (zdis_fr (zfr_up hmm41 (zfr_rf [(28, 6)] _) hc0 rfl) rfl) hRNSm39
      refine zw_b (by omega) ?_
      refine zw_some ?_
      refine zw_b (by omega) ?_
      refine zw_some ?_
      refine zw_ite (fun h42 => ?_) (fun h42 => ?_)
      · refine zw_b (by omega) ?_
        exact zw_some ⟨hIm41, hFm41, hRNSm41, ⟨by omega, by omega⟩⟩
      · exfalso; omega
  · refine zw_ite (fun h43 => ?_) (fun h43 => ?_)
    · refine zw_bd (zw_eq (zr_98_0 n a0 2 m0) ?_)
      have b44 : 0 ≤ (2 : Int) ∧ (2 : Int) < 6 := by omega
      refine zw_if b44 ?_
      have r45 : 0 ≤ (m0 193 2) ∧ (m0 193 2) ≤ 1 := zi_rd hIm0 zq_193 (zb_102 _)
      refine zw_ite (fun h46 => ?_) (fun h46 => ?_)
      · refine zw_b (by omega) ?_
        have b47 : 0 ≤ (2 : Int) ∧ (2 : Int) < 6 := by omega
        refine zw_if b47 ?_
        generalize hmm48 : zu_up m0 193 2 1 = m48
        have hIm48 := zi_up hmm48 hIm0 zq_193 (zb_102 _) (by omega) (by omega)
        have hFm48 := zfr_up hmm48 hFm0 zq_193 rfl
        have hRNSm48 := zR_NS_fr (zdis_fr (zfr_up hmm48 (zfr_rf [(102, 0)] _) zq_193 rfl) rfl) hRNSm0
        refine zw_bd (zw_mono (zk_89 n hIm48 hc0 hRNSm48) (fun v50 m49 hqm49 => ?_))
        obtain ⟨hIm49, hfm49, hvm49⟩ := hqm49
        have hFm49 := zfr_tr hFm48 hfm49 rfl
        obtain ⟨hRNSm49, hvm49⟩ := hvm49
        have s51 := hRNSm49 a0 hc0
        refine zw_b (by omega) ?_
        refine zw_some ?_
        refine zw_ite (fun h52 => ?_) (fun h52 => ?_)
        · exfalso; omega
        · refine zw_bd (zw_eq (zr_94_0 n a0 0 6 m49) ?_)
          have r53 : 0 ≤ (m49 a0 8) ∧ (m49 a0 8) ≤ 6 := zi_rd hIm49 hc0 zb_28_8
          refine zw_ite (fun h54 => ?_) (fun h54 => ?_)
          · have r55 : (-2147483648) ≤ (m49 a0 9) ∧ (m49 a0 9) ≤ 2147483647 := zi_rd hIm49 hc0 zb_28_9
            refine zw_bd (zw_eq (zr_83_0 n (m49 a0 9) 0 6 m49) ?_)
            refine zw_ite (fun h56 => ?_) (fun h56 => ?_)
            · refine zw_b (by omega) ?_
              refine zw_some ?_
              refine zw_ite (fun h57 => ?_) (fun h57 => ?_)
              · exfalso; omega
              · refine zw_bd (zw_eq (zr_85_0 n a0 2 m49) ?_)
                generalize hmm58 : zu_up m49 a0 4 2 = m58
                have hIm58 := zi_up hmm58 hIm49 hc0 zb_28_4 (by omega) (by omega)
                have hFm58 := zfr_up hmm58 hFm49 hc0 rfl
                have hRNSm58 := zR_NS_fr (zdis_fr (zfr_up hmm58 (zfr_rf [(28, 5)] _) hc0 rfl) rfl) hRNSm49
                have r59 : 0 ≤ (m58 a0 10) ∧ (m58 a0 10) ≤ 700 := zi_rd hIm58 hc0 zb_28_10
                generalize hmm60 : zu_up m58 a0 5 (m58 a0 10) = m60
                have hIm60 := zi_up hmm60 hIm58 hc0 zb_28_5 (by omega) (by omega)
                have hFm60 := zfr_up hmm60 hFm58 hc0 rfl
                have hRNSm60 := zR_NS_fr (zdis_fr (zfr_up hmm60 (zfr_rf [(28, 6)] _) hc0 rfl) rfl) hRNSm58
                refine zw_b (by omega) ?_
                refine zw_some ?_
                refine zw_b (by omega) ?_
                refine zw_some ?_
                refine zw_ite (fun h61 => ?_) (fun h61 => ?_)
                · exfalso; omega
                · refine zw_b (by omega) ?_
                  exact zw_some ⟨hIm60, hFm60, hRNSm60, ⟨by omega, by omega⟩⟩
            · refine zw_ite (fun h62 => ?_) (fun h62 => ?_)
              · refine zw_b (by omega) ?_
                refine zw_some ?_
                refine zw_ite (fun h63 => ?_) (fun h63 => ?_)
                · exfalso; omega
                · refine zw_bd (zw_eq (zr_85_0 n a0 2 m49) ?_)
                  generalize hmm64 : zu_up m49 a0 4 2 = m64
                  have hIm64 := zi_up hmm64 hIm49 hc0 zb_28_4 (by omega) (by omega)
                  have hFm64 := zfr_up hmm64 hFm49 hc0 rfl
                  have hRNSm64 := zR_NS_fr (zdis_fr (zfr_up hmm64 (zfr_rf [(28, 5)] _) hc0 rfl) rfl) hRNSm49
                  have r65 : 0 ≤ (m64 a0 10) ∧ (m64 a0 10) ≤ 700 := zi_rd hIm64 hc0 zb_28_10
                  generalize hmm66 : zu_up m64 a0 5 (m64 a0 10) = m66
                  have hIm66 := zi_up hmm66 hIm64 hc0 zb_28_5 (by omega) (by omega)
                  have hFm66 := zfr_up hmm66 hFm64 hc0 rfl
                  have hRNSm66 := zR_NS_fr (zdis_fr (zfr_up hmm66 (zfr_rf [(28, 6)] _) hc0 rfl) rfl) hRNSm64
                  refine zw_b (by omega) ?_
                  refine zw_some ?_
                  refine zw_b (by omega) ?_
                  refine zw_some ?_
                  refine zw_ite (fun h67 => ?_) (fun h67 => ?_)
                  · exfalso; omega
                  · refine zw_b (by omega) ?_
                    exact zw_some ⟨hIm66, hFm66, hRNSm66, ⟨by omega, by omega⟩⟩
              · refine zw_b (by omega) ?_
                refine zw_some ?_
                refine zw_ite (fun h68 => ?_) (fun h68 => ?_)
                · generalize hmm69 : zu_up m49 a0 11 (m49 a0 9) = m69
                  have hIm69 := zi_up hmm69 hIm49 hc0 zb_28_11 (by omega) (by omega)
                  have hFm69 := zfr_up hmm69 hFm49 hc0 rfl
                  have hRNSm69 := zR_NS_fr (zdis_fr (zfr_up hmm69 (zfr_rf [(28, 12)] _) hc0 rfl) rfl) hRNSm49
                  refine zw_bd (zw_mono (zk_89 n hIm69 hc0 hRNSm69) (fun v71 m70 hqm70 => ?_))
                  obtain ⟨hIm70, hfm70, hvm70⟩ := hqm70
                  have hFm70 := zfr_tr hFm69 hfm70 rfl
                  obtain ⟨hRNSm70, hvm70⟩ := hvm70
                  have s72 := hRNSm70 a0 hc0
                  refine zw_b (by omega) ?_
                  refine zw_some ?_
                  refine zw_ite (fun h73 => ?_) (fun h73 => ?_)
                  · have r74 : (-2147483648) ≤ (m70 a0 11) ∧ (m70 a0 11) ≤ 2147483647 := zi_rd hIm70 hc0 zb_28_11
                    have e75 : (m70 a0 11) = (m49 a0 9) := (Eq.trans (zfr_ap hfm70 hc0 rfl) (zs_eq hmm69))
                    have b76 : 0 ≤ (6 : Int) ∧ (6 : Int) < 10 := by omega
                    refine zw_if b76 ?_
                    generalize hmm77 : zu_up m70 194 6 (m70 a0 11) = m77
                    have hIm77 := zi_up hmm77 hIm70 zq_194 (zb_103 _) (by omega) (by omega)
                    have hFm77 := zfr_up hmm77 hFm70 zq_194 rfl
                    have hRNSm77 := zR_NS_fr (zdis_fr (zfr_up hmm77 (zfr_rf [(103, 0)] _) zq_194 rfl) rfl) hRNSm70
                    refine zw_b (by omega) ?_
                    exact zw_some ⟨hIm77, hFm77, hRNSm77, ⟨by omega, by omega⟩⟩
                  · exfalso; omega
                · exfalso; omega
          · refine zw_bd (zw_eq (zr_85_0 n a0 1 m49) ?_)
            generalize hmm78 : zu_up m49 a0 4 1 = m78
            have hIm78 := zi_up hmm78 hIm49 hc0 zb_28_4 (by omega) (by omega)
            have hFm78 := zfr_up hmm78 hFm49 hc0 rfl
            have hRNSm78 := zR_NS_fr (zdis_fr (zfr_up hmm78 (zfr_rf [(28, 5)] _) hc0 rfl) rfl) hRNSm49
            have r79 : 0 ≤ (m78 a0 10) ∧ (m78 a0 10) ≤ 700 := zi_rd hIm78 hc0 zb_28_10
            generalize hmm80 : zu_up m78 a0 5 (m78 a0 10) = m80
            have hIm80 := zi_up hmm80 hIm78 hc0 zb_28_5 (by omega) (by omega)
            have hFm80 := zfr_up hmm80 hFm78 hc0 rfl
            have hRNSm80 := zR_NS_fr (zdis_fr (zfr_up hmm80 (zfr_rf [(28, 6)] _) hc0 rfl) rfl) hRNSm78
            refine zw_b (by omega) ?_
            refine zw_some ?_
            refine zw_b (by omega) ?_
            refine zw_some ?_
            refine zw_ite (fun h81 => ?_) (fun h81 => ?_)
            · exfalso; omega
            · refine zw_b (by omega) ?_
              exact zw_some ⟨hIm80, hFm80, hRNSm80, ⟨by omega, by omega⟩⟩
      · refine zw_bd (zw_eq (zr_85_0 n a0 3 m0) ?_)
        generalize hmm82 : zu_up m0 a0 4 3 = m82
        have hIm82 := zi_up hmm82 hIm0 hc0 zb_28_4 (by omega) (by omega)
        have hFm82 := zfr_up hmm82 hFm0 hc0 rfl
        have hRNSm82 := zR_NS_fr (zdis_fr (zfr_up hmm82 (zfr_rf [(28, 5)] _) hc0 rfl) rfl) hRNSm0
        have r83 : 0 ≤ (m82 a0 10) ∧ (m82 a0 10) ≤ 700 := zi_rd hIm82 hc0 zb_28_10
        generalize hmm84 : zu_up m82 a0 5 (m82 a0 10) = m84
        have hIm84 := zi_up hmm84 hIm82 hc0 zb_28_5 (by omega) (by omega)
        have hFm84 := zfr_up hmm84 hFm82 hc0 rfl
        have hRNSm84 := zR_NS_fr (zdis_fr (zfr_up hmm84 (zfr_rf [(28, 6)] _) hc0 rfl) rfl) hRNSm82
        refine zw_b (by omega) ?_
        refine zw_some ?_
        refine zw_b (by omega) ?_
        refine zw_some ?_
        refine zw_ite (fun h85 => ?_) (fun h85 => ?_)
        · refine zw_b (by omega) ?_
          exact zw_some ⟨hIm84, hFm84, hRNSm84, ⟨by omega, by omega⟩⟩
        · exfalso; omega
    · refine zw_ite (fun h86 => ?_) (fun h86 => ?_)
      · refine zw_bd (zw_eq (zr_98_0 n a0 3 m0) ?_)
        have b87 : 0 ≤ (3 : Int) ∧ (3 : Int) < 6 := by omega
        refine zw_if b87 ?_
        have r88 : 0 ≤ (m0 193 3) ∧ (m0 193 3) ≤ 1 := zi_rd hIm0 zq_193 (zb_102 _)
        refine zw_ite (fun h89 => ?_) (fun h89 => ?_)
        · refine zw_b (by omega) ?_
          have b90 : 0 ≤ (3 : Int) ∧ (3 : Int) < 6 := by omega
          refine zw_if b90 ?_
          generalize hmm91 : zu_up m0 193 3 1 = m91
          have hIm91 := zi_up hmm91 hIm0 zq_193 (zb_102 _) (by omega) (by omega)
          have hFm91 := zfr_up hmm91 hFm0 zq_193 rfl
          have hRNSm91 := zR_NS_fr (zdis_fr (zfr_up hmm91 (zfr_rf [(102, 0)] _) zq_193 rfl) rfl) hRNSm0
          refine zw_bd (zw_mono (zk_89 n hIm91 hc0 hRNSm91) (fun v93 m92 hqm92 => ?_))
          obtain ⟨hIm92, hfm92, hvm92⟩ := hqm92
          have hFm92 := zfr_tr hFm91 hfm92 rfl
          obtain ⟨hRNSm92, hvm92⟩ := hvm92
          have s94 := hRNSm92 a0 hc0
          refine zw_b (by omega) ?_
          refine zw_some ?_
          refine zw_ite (fun h95 => ?_) (fun h95 => ?_)
          · exfalso; omega
          · refine zw_bd (zw_eq (zr_94_0 n a0 1 99 m92) ?_)
            have r96 : 0 ≤ (m92 a0 8) ∧ (m92 a0 8) ≤ 6 := zi_rd hIm92 hc0 zb_28_8
            refine zw_ite (fun h97 => ?_) (fun h97 => ?_)
            · have r98 : (-2147483648) ≤ (m92 a0 9) ∧ (m92 a0 9) ≤ 2147483647 := zi_rd hIm92 hc0 zb_28_9
              refine zw_bd (zw_eq (zr_83_0 n (m92 a0 9) 1 99 m92) ?_)
              refine zw_ite (fun h99 => ?_) (fun h99 => ?_)
              · refine zw_b (by omega) ?_
                refine zw_some ?_
                refine zw_ite (fun h100 => ?_) (fun h100 => ?_)
                · exfalso; omega
                · refine zw_bd (zw_eq (zr_85_0 n a0 2 m92) ?_)
                  generalize hmm101 : zu_up m92 a0 4 2 = m101
                  have hIm101 := zi_up hmm101 hIm92 hc0 zb_28_4 (by omega) (by omega)
                  have hFm101 := zfr_up hmm101 hFm92 hc0 rfl
                  have hRNSm101 := zR_NS_fr (zdis_fr (zfr_up hmm101 (zfr_rf [(28, 5)] _) hc0 rfl) rfl) hRNSm92
                  have r102 : 0 ≤ (m101 a0 10) ∧ (m101 a0 10) ≤ 700 := zi_rd hIm101 hc0 zb_28_10
                  generalize hmm103 : zu_up m101 a0 5 (m101 a0 10) = m103
                  have hIm103 := zi_up hmm103 hIm101 hc0 zb_28_5 (by omega) (by omega)
                  have hFm103 := zfr_up hmm103 hFm101 hc0 rfl
                  have hRNSm103 := zR_NS_fr (zdis_fr (zfr_up hmm103 (zfr_rf [(28, 6)] _) hc0 rfl) rfl) hRNSm101
                  refine zw_b (by omega) ?_
                  refine zw_some ?_
                  refine zw_b (by omega) ?_
                  refine zw_some ?_
                  refine zw_ite (fun h104 => ?_) (fun h104 => ?_)
                  · exfalso; omega
                  · refine zw_b (by omega) ?_
                    exact zw_some ⟨hIm103, hFm103, hRNSm103, ⟨by omega, by omega⟩⟩
              · refine zw_ite (fun h105 => ?_) (fun h105 => ?_)
                · refine zw_b (by omega) ?_
                  refine zw_some ?_
                  refine zw_ite (fun h106 => ?_) (fun h106 => ?_)
                  · exfalso; omega
                  · refine zw_bd (zw_eq (zr_85_0 n a0 2 m92) ?_)
                    generalize hmm107 : zu_up m92 a0 4 2 = m107
                    have hIm107 := zi_up hmm107 hIm92 hc0 zb_28_4 (by omega) (by omega)
                    have hFm107 := zfr_up hmm107 hFm92 hc0 rfl
                    have hRNSm107 := zR_NS_fr (zdis_fr (zfr_up hmm107 (zfr_rf [(28, 5)] _) hc0 rfl) rfl) hRNSm92
                    have r108 : 0 ≤ (m107 a0 10) ∧ (m107 a0 10) ≤ 700 := zi_rd hIm107 hc0 zb_28_10
                    generalize hmm109 : zu_up m107 a0 5 (m107 a0 10) = m109
                    have hIm109 := zi_up hmm109 hIm107 hc0 zb_28_5 (by omega) (by omega)
                    have hFm109 := zfr_up hmm109 hFm107 hc0 rfl
                    have hRNSm109 := zR_NS_fr (zdis_fr (zfr_up hmm109 (zfr_rf [(28, 6)] _) hc0 rfl) rfl) hRNSm107
                    refine zw_b (by omega) ?_
                    refine zw_some ?_
                    refine zw_b (by omega) ?_
                    refine zw_some ?_
                    refine zw_ite (fun h110 => ?_) (fun h110 => ?_)
                    · exfalso; omega
                    · refine zw_b (by omega) ?_
                      exact zw_some ⟨hIm109, hFm109, hRNSm109, ⟨by omega, by omega⟩⟩
                · refine zw_b (by omega) ?_
                  refine zw_some ?_
                  refine zw_ite (fun h111 => ?_) (fun h111 => ?_)
                  · generalize hmm112 : zu_up m92 a0 11 (m92 a0 9) = m112
                    have hIm112 := zi_up hmm112 hIm92 hc0 zb_28_11 (by omega) (by omega)
                    have hFm112 := zfr_up hmm112 hFm92 hc0 rfl
                    have hRNSm112 := zR_NS_fr (zdis_fr (zfr_up hmm112 (zfr_rf [(28, 12)] _) hc0 rfl) rfl) hRNSm92
                    refine zw_bd (zw_mono (zk_89 n hIm112 hc0 hRNSm112) (fun v114 m113 hqm113 => ?_))
                    obtain ⟨hIm113, hfm113, hvm113⟩ := hqm113
                    have hFm113 := zfr_tr hFm112 hfm113 rfl
                    obtain ⟨hRNSm113, hvm113⟩ := hvm113
                    have s115 := hRNSm113 a0 hc0
                    refine zw_b (by omega) ?_
                    refine zw_some ?_
                    refine zw_ite (fun h116 => ?_) (fun h116 => ?_)
                    · have r117 : (-2147483648) ≤ (m113 a0 11) ∧ (m113 a0 11) ≤ 2147483647 := zi_rd hIm113 hc0 zb_28_11
                      have e118 : (m113 a0 11) = (m92 a0 9) := (Eq.trans (zfr_ap hfm113 hc0 rfl) (zs_eq hmm112))
                      have b119 : 0 ≤ (7 : Int) ∧ (7 : Int) < 10 := by omega
                      refine zw_if b119 ?_
                      generalize hmm120 : zu_up m113 194 7 (m113 a0 11) = m120
                      have hIm120 := zi_up hmm120 hIm113 zq_194 (zb_103 _) (by omega) (by omega)
                      have hFm120 := zfr_up hmm120 hFm113 zq_194 rfl
                      have hRNSm120 := zR_NS_fr (zdis_fr (zfr_up hmm120 (zfr_rf [(103, 0)] _) zq_194 rfl) rfl) hRNSm113
                      refine zw_b (by omega) ?_
                      exact zw_some ⟨hIm120, hFm120, hRNSm120, ⟨by omega, by omega⟩⟩
                    · exfalso; omega
                  · exfalso; omega
            · refine zw_bd (zw_eq (zr_85_0 n a0 1 m92) ?_)
              generalize hmm121 : zu_up m92 a0 4 1 = m121
              have hIm121 := zi_up hmm121 hIm92 hc0 zb_28_4 (by omega) (by omega)
              have hFm121 := zfr_up hmm121 hFm92 hc0 rfl
              have hRNSm121 := zR_NS_fr (zdis_fr (zfr_up hmm121 (zfr_rf [(28, 5)] _) hc0 rfl) rfl) hRNSm92
              have r122 : 0 ≤ (m121 a0 10) ∧ (m121 a0 10) ≤ 700 := zi_rd hIm121 hc0 zb_28_10
              generalize hmm123 : zu_up m121 a0 5 (m121 a0 10) = m123
              have hIm123 := zi_up hmm123 hIm121 hc0 zb_28_5 (by omega) (by omega)
              have hFm123 := zfr_up hmm123 hFm121 hc0 rfl
              have hRNSm123 := zR_NS_fr (zdis_fr (zfr_up hmm123 (zfr_rf [(28, 6)] _) hc0 rfl) rfl) hRNSm121
              refine zw_b (by omega) ?_
              refine zw_some ?_
              refine zw_b (by omega) ?_
              refine zw_some ?_
              refine zw_ite (fun h124 => ?_) (fun h124 => ?_)
              · exfalso; omega
              · refine zw_b (by omega) ?_
                exact zw_some ⟨hIm123, hFm123, hRNSm123, ⟨by omega, by omega⟩⟩
        · refine zw_bd (zw_eq (zr_85_0 n a0 3 m0) ?_)
          generalize hmm125 : zu_up m0 a0 4 3 = m125
          have hIm125 := zi_up hmm125 hIm0 hc0 zb_28_4 (by omega) (by omega)
          have hFm125 := zfr_up hmm125 hFm0 hc0 rfl
          have hRNSm125 := zR_NS_fr (zdis_fr (zfr_up hmm125 (zfr_rf [(28, 5)] _) hc0 rfl) rfl) hRNSm0
          have r126 : 0 ≤ (m125 a0 10) ∧ (m125 a0 10) ≤ 700 := zi_rd hIm125 hc0 zb_28_10
          generalize hmm127 : zu_up m125 a0 5 (m125 a0 10) = m127
          have hIm127 := zi_up hmm127 hIm125 hc0 zb_28_5 (by omega) (by omega)
          have hFm127 := zfr_up hmm127 hFm125 hc0 rfl
          have hRNSm127 := zR_NS_fr (zdis_fr (zfr_up hmm127 (zfr_rf [(28, 6)] _) hc0 rfl) rfl) hRNSm125
          refine zw_b (by omega) ?_
          refine zw_some ?_
          refine zw_b (by omega) ?_
          refine zw_some ?_
          refine zw_ite (fun h128 => ?_) (fun h128 => ?_)
          · refine zw_b (by omega) ?_
            exact zw_some ⟨hIm127, hFm127, hRNSm127, ⟨by omega, by omega⟩⟩
          · exfalso; omega
      · refine zw_ite (fun h129 => ?_) (fun h129 => ?_)
        · refine zw_bd (zw_eq (zr_98_0 n a0 4 m0) ?_)
          have b130 : 0 ≤ (4 : Int) ∧ (4 : Int) < 6 := by omega
          refine zw_if b130 ?_
          have r131 : 0 ≤ (m0 193 4) ∧ (m0 193 4) ≤ 1 := zi_rd hIm0 zq_193 (zb_102 _)
          refine zw_ite (fun h132 => ?_) (fun h132 => ?_)
          · refine zw_b (by omega) ?_
            have b133 : 0 ≤ (4 : Int) ∧ (4 : Int) < 6 := by omega
            refine zw_if b133 ?_
            generalize hmm134 : zu_up m0 193 4 1 = m134
            have hIm134 := zi_up hmm134 hIm0 zq_193 (zb_102 _) (by omega) (by omega)
            have hFm134 := zfr_up hmm134 hFm0 zq_193 rfl
            have hRNSm134 := zR_NS_fr (zdis_fr (zfr_up hmm134 (zfr_rf [(102, 0)] _) zq_193 rfl) rfl) hRNSm0
            refine zw_bd (zw_mono (zk_89 n hIm134 hc0 hRNSm134) (fun v136 m135 hqm135 => ?_))
            obtain ⟨hIm135, hfm135, hvm135⟩ := hqm135
            have hFm135 := zfr_tr hFm134 hfm135 rfl
            obtain ⟨hRNSm135, hvm135⟩ := hvm135
            have s137 := hRNSm135 a0 hc0
            refine zw_b (by omega) ?_
            refine zw_some ?_
            refine zw_ite (fun h138 => ?_) (fun h138 => ?_)
            · exfalso; omega
            · refine zw_bd (zw_eq (zr_94_0 n a0 0 999 m135) ?_)
              have r139 : 0 ≤ (m135 a0 8) ∧ (m135 a0 8) ≤ 6 := zi_rd hIm135 hc0 zb_28_8
              refine zw_ite (fun h140 => ?_) (fun h140 => ?_)
              · have r141 : (-2147483648) ≤ (m135 a0 9) ∧ (m135 a0 9) ≤ 2147483647 := zi_rd hIm135 hc0 zb_28_9
                refine zw_bd (zw_eq (zr_83_0 n (m135 a0 9) 0 999 m135) ?_)
                refine zw_ite (fun h142 => ?_) (fun h142 => ?_)
                · refine zw_b (by omega) ?_
                  refine zw_some ?_
                  refine zw_ite (fun h143 => ?_) (fun h143 => ?_)
                  · exfalso; omega
                  · refine zw_bd (zw_eq (zr_85_0 n a0 2 m135) ?_)
                    generalize hmm144 : zu_up m135 a0 4 2 = m144
                    have hIm144 := zi_up hmm144 hIm135 hc0 zb_28_4 (by omega) (by omega)
                    have hFm144 := zfr_up hmm144 hFm135 hc0 rfl
                    have hRNSm144 := zR_NS_fr (zdis_fr (zfr_up hmm144 (zfr_rf [(28, 5)] _) hc0 rfl) rfl) hRNSm135
                    have r145 : 0 ≤ (m144 a0 10) ∧ (m144 a0 10) ≤ 700 := zi_rd hIm144 hc0 zb_28_10
                    generalize hmm146 : zu_up m144 a0 5 (m144 a0 10) = m146
                    have hIm146 := zi_up hmm146 hIm144 hc0 zb_28_5 (by omega) (by omega)
                    have hFm146 := zfr_up hmm146 hFm144 hc0 rfl
                    have hRNSm146 := zR_NS_fr (zdis_fr (zfr_up hmm146 (zfr_rf [(28, 6)] _) hc0 rfl) rfl) hRNSm144
                    refine zw_b (by omega) ?_
                    refine zw_some ?_
                    refine zw_b (by omega) ?_
                    refine zw_some ?_
                    refine zw_ite (fun h147 => ?_) (fun h147 => ?_)
                    · exfalso; omega
                    · refine zw_b (by omega) ?_
                      exact zw_some ⟨hIm146, hFm146, hRNSm146, ⟨by omega, by omega⟩⟩
                · refine zw_ite (fun h148 => ?_) (fun h148 => ?_)
                  · refine zw_b (by omega) ?_
                    refine zw_some ?_
                    refine zw_ite (fun h149 => ?_) (fun h149 => ?_)
                    · exfalso; omega
                    · refine zw_bd (zw_eq (zr_85_0 n a0 2 m135) ?_)
                      generalize hmm150 : zu_up m135 a0 4 2 = m150
                      have hIm150 := zi_up hmm150 hIm135 hc0 zb_28_4 (by omega) (by omega)
                      have hFm150 := zfr_up hmm150 hFm135 hc0 rfl
                      have hRNSm150 := zR_NS_fr (zdis_fr (zfr_up hmm150 (zfr_rf [(28, 5)] _) hc0 rfl) rfl) hRNSm135
                      have r151 : 0 ≤ (m150 a0 10) ∧ (m150 a0 10) ≤ 700 := zi_rd hIm150 hc0 zb_28_10
                      generalize hmm152 : zu_up m150 a0 5 (m150 a0 10) = m152
                      have hIm152 := zi_up hmm152 hIm150 hc0 zb_28_5 (by omega) (by omega)
                      have hFm152 := zfr_up hmm152 hFm150 hc0 rfl
                      have hRNSm152 := zR_NS_fr (zdis_fr (zfr_up hmm152 (zfr_rf [(28, 6)] _) hc0 rfl) rfl) hRNSm150
                      refine zw_b (by omega) ?_
                      refine zw_some ?_
                      refine zw_b (by omega) ?_
                      refine zw_some ?_
                      refine zw_ite (fun h153 => ?_) (fun h153 => ?_)
                      · exfalso; omega
                      · refine zw_b (by omega) ?_
                        exact zw_some ⟨hIm152, hFm152, hRNSm152, ⟨by omega, by omega⟩⟩
                  · refine zw_b (by omega) ?_
                    refine zw_some ?_
                    refine zw_ite (fun h154 => ?_) (fun h154 => ?_)
                    · generalize hmm155 : zu_up m135 a0 11 (m135 a0 9) = m155
                      have hIm155 := zi_up hmm155 hIm135 hc0 zb_28_11 (by omega) (by omega)
                      have hFm155 := zfr_up hmm155 hFm135 hc0 rfl
                      have hRNSm155 := zR_NS_fr (zdis_fr (zfr_up hmm155 (zfr_rf [(28, 12)] _) hc0 rfl) rfl) hRNSm135
                      refine zw_bd (zw_mono (zk_89 n hIm155 hc0 hRNSm155) (fun v157 m156 hqm156 => ?_))
                      obtain ⟨hIm156, hfm156, hvm156⟩ := hqm156
                      have hFm156 := zfr_tr hFm155 hfm156 rfl
                      obtain ⟨hRNSm156, hvm156⟩ := hvm156
                      have s158 := hRNSm156 a0 hc0
                      refine zw_b (by omega) ?_
                      refine zw_some ?_
                      refine zw_ite (fun h159 => ?_) (fun h159 => ?_)
                      · have r160 : (-2147483648) ≤ (m156 a0 11) ∧ (m156 a0 11) ≤ 2147483647 := zi_rd hIm156 hc0 zb_28_11
                        have e161 : (m156 a0 11) = (m135 a0 9) := (Eq.trans (zfr_ap hfm156 hc0 rfl) (zs_eq hmm155))
                        have b162 : 0 ≤ (8 : Int) ∧ (8 : Int) < 10 := by omega
                        refine zw_if b162 ?_
                        generalize hmm163 : zu_up m156 194 8 (m156 a0 11) = m163
                        have hIm163 := zi_up hmm163 hIm156 zq_194 (zb_103 _) (by omega) (by omega)
                        have hFm163 := zfr_up hmm163 hFm156 zq_194 rfl
                        have hRNSm163 := zR_NS_fr (zdis_fr (zfr_up hmm163 (zfr_rf [(103, 0)] _) zq_194 rfl) rfl) hRNSm156
                        refine zw_b (by omega) ?_
                        exact zw_some ⟨hIm163, hFm163, hRNSm163, ⟨by omega, by omega⟩⟩
                      · exfalso; omega
                    · exfalso; omega
              · refine zw_bd (zw_eq (zr_85_0 n a0 1 m135) ?_)
                generalize hmm164 : zu_up m135 a0 4 1 = m164
                have hIm164 := zi_up hmm164 hIm135 hc0 zb_28_4 (by omega) (by omega)
                have hFm164 := zfr_up hmm164 hFm135 hc0 rfl
                have hRNSm164 := zR_NS_fr (zdis_fr (zfr_up hmm164 (zfr_rf [(28, 5)] _) hc0 rfl) rfl) hRNSm135
                have r165 : 0 ≤ (m164 a0 10) ∧ (m164 a0 10) ≤ 700 := zi_rd hIm164 hc0 zb_28_10
                generalize hmm166 : zu_up m164 a0 5 (m164 a0 10) = m166
                have hIm166 := zi_up hmm166 hIm164 hc0 zb_28_5 (by omega) (by omega)
                have hFm166 := zfr_up hmm166 hFm164 hc0 rfl
                have hRNSm166 := zR_NS_fr (zdis_fr (zfr_up hmm166 (zfr_rf [(28, 6)] _) hc0 rfl) rfl) hRNSm164
                refine zw_b (by omega) ?_
                refine zw_some ?_
                refine zw_b (by omega) ?_
                refine zw_some ?_
                refine zw_ite (fun h167 => ?_) (fun h167 => ?_)
                · exfalso; omega
                · refine zw_b (by omega) ?_
                  exact zw_some ⟨hIm166, hFm166, hRNSm166, ⟨by omega, by omega⟩⟩
          · refine zw_bd (zw_eq (zr_85_0 n a0 3 m0) ?_)
            generalize hmm168 : zu_up m0 a0 4 3 = m168
            have hIm168 := zi_up hmm168 hIm0 hc0 zb_28_4 (by omega) (by omega)
            have hFm168 := zfr_up hmm168 hFm0 hc0 rfl
            have hRNSm168 := zR_NS_fr (zdis_fr (zfr_up hmm168 (zfr_rf [(28, 5)] _) hc0 rfl) rfl) hRNSm0
            have r169 : 0 ≤ (m168 a0 10) ∧ (m168 a0 10) ≤ 700 := zi_rd hIm168 hc0 zb_28_10
            generalize hmm170 : zu_up m168 a0 5 (m168 a0 10) = m170
            have hIm170 := zi_up hmm170 hIm168 hc0 zb_28_5 (by omega) (by omega)
            have hFm170 := zfr_up hmm170 hFm168 hc0 rfl
            have hRNSm170 := zR_NS_fr (zdis_fr (zfr_up hmm170 (zfr_rf [(28, 6)] _) hc0 rfl) rfl) hRNSm168
            refine zw_b (by omega) ?_
            refine zw_some ?_
            refine zw_b (by omega) ?_
            refine zw_some ?_
            refine zw_ite (fun h171 => ?_) (fun h171 => ?_)
            · refine zw_b (by omega) ?_
              exact zw_some ⟨hIm170, hFm170, hRNSm170, ⟨by omega, by omega⟩⟩
            · exfalso; omega
        · refine zw_bd (zw_eq (zr_98_0 n a0 5 m0) ?_)
          have b172 : 0 ≤ (5 : Int) ∧ (5 : Int) < 6 := by omega
          refine zw_if b172 ?_
          have r173 : 0 ≤ (m0 193 5) ∧ (m0 193 5) ≤ 1 := zi_rd hIm0 zq_193 (zb_102 _)
          refine zw_ite (fun h174 => ?_) (fun h174 => ?_)
          · refine zw_b (by omega) ?_
            have b175 : 0 ≤ (5 : Int) ∧ (5 : Int) < 6 := by omega
            refine zw_if b175 ?_
            generalize hmm176 : zu_up m0 193 5 1 = m176
            have hIm176 := zi_up hmm176 hIm0 zq_193 (zb_102 _) (by omega) (by omega)
            have hFm176 := zfr_up hmm176 hFm0 zq_193 rfl
            have hRNSm176 := zR_NS_fr (zdis_fr (zfr_up hmm176 (zfr_rf [(102, 0)] _) zq_193 rfl) rfl) hRNSm0
            refine zw_bd (zw_mono (zk_89 n hIm176 hc0 hRNSm176) (fun v178 m177 hqm177 => ?_))
            obtain ⟨hIm177, hfm177, hvm177⟩ := hqm177
            have hFm177 := zfr_tr hFm176 hfm177 rfl
            obtain ⟨hRNSm177, hvm177⟩ := hvm177
            have s179 := hRNSm177 a0 hc0
            refine zw_b (by omega) ?_
            refine zw_some ?_
            refine zw_ite (fun h180 => ?_) (fun h180 => ?_)
            · exfalso; omega
            · refine zw_bd (zw_eq (zr_94_0 n a0 0 99999 m177) ?_)
              have r181 : 0 ≤ (m177 a0 8) ∧ (m177 a0 8) ≤ 6 := zi_rd hIm177 hc0 zb_28_8
              refine zw_ite (fun h182 => ?_) (fun h182 => ?_)
              · have r183 : (-2147483648) ≤ (m177 a0 9) ∧ (m177 a0 9) ≤ 2147483647 := zi_rd hIm177 hc0 zb_28_9
                refine zw_bd (zw_eq (zr_83_0 n (m177 a0 9) 0 99999 m177) ?_)
                refine zw_ite (fun h184 => ?_) (fun h184 => ?_)
                · refine zw_b (by omega) ?_
                  refine zw_some ?_
                  refine zw_ite (fun h185 => ?_) (fun h185 => ?_)
                  · exfalso; omega
                  · refine zw_bd (zw_eq (zr_85_0 n a0 2 m177) ?_)
                    generalize hmm186 : zu_up m177 a0 4 2 = m186
                    have hIm186 := zi_up hmm186 hIm177 hc0 zb_28_4 (by omega) (by omega)
                    have hFm186 := zfr_up hmm186 hFm177 hc0 rfl
                    have hRNSm186 := zR_NS_fr (zdis_fr (zfr_up hmm186 (zfr_rf [(28, 5)] _) hc0 rfl) rfl) hRNSm177
                    have r187 : 0 ≤ (m186 a0 10) ∧ (m186 a0 10) ≤ 700 := zi_rd hIm186 hc0 zb_28_10
                    generalize hmm188 : zu_up m186 a0 5 (m186 a0 10) = m188
                    have hIm188 := zi_up hmm188 hIm186 hc0 zb_28_5 (by omega) (by omega)
                    have hFm188 := zfr_up hmm188 hFm186 hc0 rfl
                    have hRNSm188 := zR_NS_fr (zdis_fr (zfr_up hmm188 (zfr_rf [(28, 6)] _) hc0 rfl) rfl) hRNSm186
                    refine zw_b (by omega) ?_
                    refine zw_some ?_
                    refine zw_b (by omega) ?_
                    refine zw_some ?_
                    refine zw_ite (fun h189 => ?_) (fun h189 => ?_)
                    · exfalso; omega
                    · refine zw_b (by omega) ?_
                      exact zw_some ⟨hIm188, hFm188, hRNSm188, ⟨by omega, by omega⟩⟩
                · refine zw_ite (fun h190 => ?_) (fun h190 => ?_)
                  · refine zw_b (by omega) ?_
                    refine zw_some ?_
                    refine zw_ite (fun h191 => ?_) (fun h191 => ?_)
                    · exfalso; omega
                    · refine zw_bd (zw_eq (zr_85_0 n a0 2 m177) ?_)
                      generalize hmm192 : zu_up m177 a0 4 2 = m192
                      have hIm192 := zi_up hmm192 hIm177 hc0 zb_28_4 (by omega) (by omega)
                      have hFm192 := zfr_up hmm192 hFm177 hc0 rfl
                      have hRNSm192 := zR_NS_fr (zdis_fr (zfr_up hmm192 (zfr_rf [(28, 5)] _) hc0 rfl) rfl) hRNSm177
                      have r193 : 0 ≤ (m192 a0 10) ∧ (m192 a0 10) ≤ 700 := zi_rd hIm192 hc0 zb_28_10
                      generalize hmm194 : zu_up m192 a0 5 (m192 a0 10) = m194
                      have hIm194 := zi_up hmm194 hIm192 hc0 zb_28_5 (by omega) (by omega)
                      have hFm194 := zfr_up hmm194 hFm192 hc0 rfl
                      have hRNSm194 := zR_NS_fr (zdis_fr (zfr_up hmm194 (zfr_rf [(28, 6)] _) hc0 rfl) rfl) hRNSm192
                      refine zw_b (by omega) ?_
                      refine zw_some ?_
                      refine zw_b (by omega) ?_
                      refine zw_some ?_
                      refine zw_ite (fun h195 => ?_) (fun h195 => ?_)
                      · exfalso; omega
                      · refine zw_b (by omega) ?_
                        exact zw_some ⟨hIm194, hFm194, hRNSm194, ⟨by omega, by omega⟩⟩
                  · refine zw_b (by omega) ?_
                    refine zw_some ?_
                    refine zw_ite (fun h196 => ?_) (fun h196 => ?_)
                    · generalize hmm197 : zu_up m177 a0 11 (m177 a0 9) = m197
                      have hIm197 := zi_up hmm197 hIm177 hc0 zb_28_11 (by omega) (by omega)
                      have hFm197 := zfr_up hmm197 hFm177 hc0 rfl
                      have hRNSm197 := zR_NS_fr (zdis_fr (zfr_up hmm197 (zfr_rf [(28, 12)] _) hc0 rfl) rfl) hRNSm177
                      refine zw_bd (zw_mono (zk_89 n hIm197 hc0 hRNSm197) (fun v199 m198 hqm198 => ?_))
                      obtain ⟨hIm198, hfm198, hvm198⟩ := hqm198
                      have hFm198 := zfr_tr hFm197 hfm198 rfl
                      obtain ⟨hRNSm198, hvm198⟩ := hvm198
                      have s200 := hRNSm198 a0 hc0
                      refine zw_b (by omega) ?_
                      refine zw_some ?_
                      refine zw_ite (fun h201 => ?_) (fun h201 => ?_)
                      · have r202 : (-2147483648) ≤ (m198 a0 11) ∧ (m198 a0 11) ≤ 2147483647 := zi_rd hIm198 hc0 zb_28_11
                        have e203 : (m198 a0 11) = (m177 a0 9) := (Eq.trans (zfr_ap hfm198 hc0 rfl) (zs_eq hmm197))
                        have b204 : 0 ≤ (9 : Int) ∧ (9 : Int) < 10 := by omega
                        refine zw_if b204 ?_
                        generalize hmm205 : zu_up m198 194 9 (m198 a0 11) = m205
                        have hIm205 := zi_up hmm205 hIm198 zq_194 (zb_103 _) (by omega) (by omega)
                        have hFm205 := zfr_up hmm205 hFm198 zq_194 rfl
                        have hRNSm205 := zR_NS_fr (zdis_fr (zfr_up hmm205 (zfr_rf [(103, 0)] _) zq_194 rfl) rfl) hRNSm198
                        refine zw_b (by omega) ?_
                        exact zw_some ⟨hIm205, hFm205, hRNSm205, ⟨by omega, by omega⟩⟩
                      · exfalso; omega
                    · exfalso; omega
              · refine zw_bd (zw_eq (zr_85_0 n a0 1 m177) ?_)
                generalize hmm206 : zu_up m177 a0 4 1 = m206
                have hIm206 := zi_up hmm206 hIm177 hc0 zb_28_4 (by omega) (by omega)
                have hFm206 := zfr_up hmm206 hFm177 hc0 rfl
                have hRNSm206 := zR_NS_fr (zdis_fr (zfr_up hmm206 (zfr_rf [(28, 5)] _) hc0 rfl) rfl) hRNSm177
                have r207 : 0 ≤ (m206 a0 10) ∧ (m206 a0 10) ≤ 700 := zi_rd hIm206 hc0 zb_28_10
                generalize hmm208 : zu_up m206 a0 5 (m206 a0 10) = m208
                have hIm208 := zi_up hmm208 hIm206 hc0 zb_28_5 (by omega) (by omega)
                have hFm208 := zfr_up hmm208 hFm206 hc0 rfl
                have hRNSm208 := zR_NS_fr (zdis_fr (zfr_up hmm208 (zfr_rf [(28, 6)] _) hc0 rfl) rfl) hRNSm206
                refine zw_b (by omega) ?_
                refine zw_some ?_
                refine zw_b (by omega) ?_
                refine zw_some ?_
                refine zw_ite (fun h209 => ?_) (fun h209 => ?_)
                · exfalso; omega
                · refine zw_b (by omega) ?_
                  exact zw_some ⟨hIm208, hFm208, hRNSm208, ⟨by omega, by omega⟩⟩
          · refine zw_bd (zw_eq (zr_85_0 n a0 3 m0) ?_)
            generalize hmm210 : zu_up m0 a0 4 3 = m210
            have hIm210 := zi_up hmm210 hIm0 hc0 zb_28_4 (by omega) (by omega)
            have hFm210 := zfr_up hmm210 hFm0 hc0 rfl
            have hRNSm210 := zR_NS_fr (zdis_fr (zfr_up hmm210 (zfr_rf [(28, 5)] _) hc0 rfl) rfl) hRNSm0
            have r211 : 0 ≤ (m210 a0 10) ∧ (m210 a0 10) ≤ 700 := zi_rd hIm210 hc0 zb_28_10
            generalize hmm212 : zu_up m210 a0 5 (m210 a0 10) = m212
            have hIm212 := zi_up hmm212 hIm210 hc0 zb_28_5 (by omega) (by omega)
            have hFm212 := zfr_up hmm212 hFm210 hc0 rfl
            have hRNSm212 := zR_NS_fr (zdis_fr (zfr_up hmm212 (zfr_rf [(28, 6)] _) hc0 rfl) rfl) hRNSm210
            refine zw_b (by omega) ?_
            refine zw_some ?_
            refine zw_b (by omega) ?_
            refine zw_some ?_
            refine zw_ite (fun h213 => ?_) (fun h213 => ?_)
            · refine zw_b (by omega) ?_
              exact zw_some ⟨hIm212, hFm212, hRNSm212, ⟨by omega, by omega⟩⟩
            · exfalso; omega
set_option maxHeartbeats 4000000 in
theorem zk_118 (n : Nat) {a0 : Int} {m0 : zu_m} (hIm0 : zi_I m0) (hc0 : zcls a0 = 28)     (hRNSm0 : zR_NS m0) : zw (zu_call (zt_T n) 118 [(40, a0)] m0) (fun v m => zi_I m ∧ zfr [(28, 5), (28, 6), (28, 8), (28, 9), (28, 10), (28, 11), (28, 22), (28, 46), (28, 47), (28, 48), (28, 49), (28, 50), (28, 51), (117, 0), (118, 0), (119, 0), (120, 0), (121, 0)] m0 m ∧ zR_NS m ∧ (0 ≤ v ∧ v ≤ 1)) := by
  sorry
set_option maxHeartbeats 4000000 in
theorem zk_147 (n : Nat) {a0 a1 a2 a3 : Int} {m0 : zu_m} (hIm0 : zi_I m0) (hc0 : zcls a0 = 28) (ha1 : (-2147483648) ≤ a1 ∧ a1 ≤ 2147483647) (ha2 : (-2147483648) ≤ a2 ∧ a2 ≤ 2147483647) (ha3 : (-2147483648) ≤ a3 ∧ a3 ≤ 2147483647)     : zw (zu_call (zt_T n) 147 [(40, a0), (0, a1), (0, a2), (0, a3)] m0) (fun v m => zi_I m ∧ zfr [(28, 3), (28, 54), (122, 0), (123, 0)] m0 m ∧ ((-9223372036854775808) ≤ v ∧ v ≤ 9223372036854775807) ∧ (0 ≤ m a0 2 ∧ m a0 2 ≤ 0)) := by
  have hFm0 : zfr [(28, 3), (28, 54), (122, 0), (123, 0)] m0 m0 := zfr_rf _ _
  refine zw_eq (zr_147_0 n a0 a1 a2 a3 m0) ?_
  generalize hmm1 : zu_up m0 a0 2 0 = m1
  have hIm1 := zi_up hmm1 hIm0 hc0 zb_28_2 (by omega) (by omega)
  have hFm1 := zfr_up hmm1 hFm0 hc0 rfl
  refine zw_bd (zw_eq (zr_83_0 n a1 0 3 m1) ?_)
  refine zw_ite (fun h2 => ?_) (fun h2 => ?_)
  · refine zw_b (by omega) ?_
    refine zw_some ?_
    refine zw_ite (fun h3 => ?_) (fun h3 => ?_)
    · exfalso; omega
    · have r4 : (-2147483648) ≤ (m1 a0 2) ∧ (m1 a0 2) ≤ 2147483647 := zi_rd hIm1 hc0 zb_28_2
      have e5 : (m1 a0 2) = 0 := (zs_eq hmm1)
      exact zw_some ⟨hIm1, hFm1, ⟨by omega, by omega⟩, ⟨by omega, by omega⟩⟩
  · refine zw_ite (fun h6 => ?_) (fun h6 => ?_)
    · refine zw_b (by omega) ?_
      refine zw_some ?_
      refine zw_ite (fun h7 => ?_) (fun h7 => ?_)
      · exfalso; omega
      · have r8 : (-2147483648) ≤ (m1 a0 2) ∧ (m1 a0 2) ≤ 2147483647 := zi_rd hIm1 hc0 zb_28_2
        have e9 : (m1 a0 2) = 0 := (zs_eq hmm1)
        exact zw_some ⟨hIm1, hFm1, ⟨by omega, by omega⟩, ⟨by omega, by omega⟩⟩
    · refine zw_b (by omega) ?_
      refine zw_some ?_
      refine zw_ite (fun h10 => ?_) (fun h10 => ?_)
      · refine zw_ite (fun h11 => ?_) (fun h11 => ?_)
        · refine zw_ite (fun h12 => ?_) (fun h12 => ?_)
          · refine zw_bd (zw_eq (zr_124_0 n a0 a2 m1) ?_)
            refine zw_ite (fun h13 => ?_) (fun h13 => ?_)
            · refine zw_b (by omega) ?_
              refine zw_some ?_
              refine zw_ite (fun h14 => ?_) (fun h14 => ?_)
              · exfalso; omega
              · have r15 : (-2147483648) ≤ (m1 a0 2) ∧ (m1 a0 2) ≤ 2147483647 := zi_rd hIm1 hc0 zb_28_2
                have e16 : (m1 a0 2) = 0 := (zs_eq hmm1)
                exact zw_some ⟨hIm1, hFm1, ⟨by omega, by omega⟩, ⟨by omega, by omega⟩⟩
            · have b17 : 0 ≤ (0 : Int) ∧ (0 : Int) < 2 := by omega
              refine zw_if b17 ?_
              have r18 : 0 ≤ (m1 216 0) ∧ (m1 216 0) ≤ 16 := zi_rdr (m := 2) (r0 := 0) (r1 := 0) hIm1 zq_216 (by omega) (by decide +kernel)
              refine zw_ite (fun h19 => ?_) (fun h19 => ?_)
              · refine zw_b (by omega) ?_
                refine zw_some ?_
                refine zw_ite (fun h20 => ?_) (fun h20 => ?_)
                · exfalso; omega
                · have r21 : (-2147483648) ≤ (m1 a0 2) ∧ (m1 a0 2) ≤ 2147483647 := zi_rd hIm1 hc0 zb_28_2
                  have e22 : (m1 a0 2) = 0 := (zs_eq hmm1)
                  exact zw_some ⟨hIm1, hFm1, ⟨by omega, by omega⟩, ⟨by omega, by omega⟩⟩
              · refine zw_b (by omega) ?_
                refine zw_some ?_
                refine zw_ite (fun h23 => ?_) (fun h23 => ?_)
                · refine zw_ite (fun h24 => ?_) (fun h24 => ?_)
                  · refine zw_ite (fun h25 => ?_) (fun h25 => ?_)
                    · refine zw_ite (fun h26 => ?_) (fun h26 => ?_)
                      · have b27 : 0 ≤ (3 : Int) ∧ (3 : Int) < 8 := by omega
                        refine zw_if b27 ?_
                        have r28 : 0 ≤ (m1 205 3) ∧ (m1 205 3) ≤ 1 := zi_rd hIm1 zq_205 (zb_114 _)
                        refine zw_ite (fun h29 => ?_) (fun h29 => ?_)
                        · refine zw_ite (fun h30 => ?_) (fun h30 => ?_)
                          · refine zw_ite (fun h31 => ?_) (fun h31 => ?_)
                            · have b32 : 0 ≤ a2 ∧ a2 < 36 := by omega
                              refine zw_if b32 ?_
                              have r33 : 0 ≤ (m1 199 a2) ∧ (m1 199 a2) ≤ 9 := zi_rd hIm1 zq_199 (zb_108 _)
                              have b34 : 0 ≤ a2 ∧ a2 < 36 := by omega
                              refine zw_if b34 ?_
                              have r35 : 0 ≤ (m1 197 a2) ∧ (m1 197 a2) ≤ 47 := zi_rd hIm1 zq_197 (zb_106 _)
                              have b36 : 0 ≤ a2 ∧ a2 < 36 := by omega
                              refine zw_if b36 ?_
                              have r37 : 0 ≤ (m1 198 a2) ∧ (m1 198 a2) ≤ 3 := zi_rd hIm1 zq_198 (zb_107 _)
                              have b38 : 0 ≤ (0 : Int) ∧ (0 : Int) < 2 := by omega
                              refine zw_if b38 ?_
                              have r39 : (-2147483648) ≤ (m1 221 0) ∧ (m1 221 0) ≤ 2147483647 := zi_rd hIm1 zq_221 (zb_130 _)
                              refine zw_bd (zw_mono (zk_38 n hIm1 hc0 ⟨by omega, by omega⟩ ⟨by omega, by omega⟩ ⟨by omega, by omega⟩ ⟨by omega, by omega⟩ ⟨by omega, by omega⟩ ⟨by omega, by omega⟩) (fun v41 m40 hqm40 => ?_))
                              obtain ⟨hIm40, hfm40, hvm40⟩ := hqm40
                              have hFm40 := zfr_tr hFm1 hfm40 rfl
                              refine zw_bd (zw_mono (zk_127 n hIm40 hc0 ⟨by omega, by omega⟩) (fun v43 m42 hqm42 => ?_))
                              obtain ⟨hIm42, hfm42, hvm42⟩ := hqm42
                              have hFm42 := zfr_tr hFm40 hfm42 rfl
                              have r44 : 0 ≤ (m42 a0 53) ∧ (m42 a0 53) ≤ 1 := zi_rd hIm42 hc0 zb_28_53
                              refine zw_ite (fun h45 => ?_) (fun h45 => ?_)
                              · have r46 : (-2147483648) ≤ (m42 a0 2) ∧ (m42 a0 2) ≤ 2147483647 := zi_rd hIm42 hc0 zb_28_2
                                have e47 : (m42 a0 2) = 0 := (Eq.trans (zfr_ap hfm42 hc0 rfl) (Eq.trans (zfr_ap hfm40 hc0 rfl) (zs_eq hmm1)))
                                exact zw_some ⟨hIm42, hFm42, ⟨by omega, by omega⟩, ⟨by omega, by omega⟩⟩
                              · have r48 : (-2147483648) ≤ (m42 a0 2) ∧ (m42 a0 2) ≤ 2147483647 := zi_rd hIm42 hc0 zb_28_2
                                have e49 : (m42 a0 2) = 0 := (Eq.trans (zfr_ap hfm42 hc0 rfl) (Eq.trans (zfr_ap hfm40 hc0 rfl) (zs_eq hmm1)))
                                exact zw_some ⟨hIm42, hFm42, ⟨by omega, by omega⟩, ⟨by omega, by omega⟩⟩
                            · exfalso; omega
                          · exfalso; omega
                        · have r50 : (-2147483648) ≤ (m1 a0 2) ∧ (m1 a0 2) ≤ 2147483647 := zi_rd hIm1 hc0 zb_28_2
                          have e51 : (m1 a0 2) = 0 := (zs_eq hmm1)
                          exact zw_some ⟨hIm1, hFm1, ⟨by omega, by omega⟩, ⟨by omega, by omega⟩⟩
                      · exfalso; omega
                    · exfalso; omega
                  · exfalso; omega
                · exfalso; omega
          · refine zw_bd (zw_eq (zr_123_0 n a0 a2 m1) ?_)
            refine zw_ite (fun h52 => ?_) (fun h52 => ?_)
            · refine zw_b (by omega) ?_
              refine zw_some ?_
              refine zw_ite (fun h53 => ?_) (fun h53 => ?_)
              · exfalso; omega
              · have r54 : (-2147483648) ≤ (m1 a0 2) ∧ (m1 a0 2) ≤ 2147483647 := zi_rd hIm1 hc0 zb_28_2
                have e55 : (m1 a0 2) = 0 := (zs_eq hmm1)
                exact zw_some ⟨hIm1, hFm1, ⟨by omega, by omega⟩, ⟨by omega, by omega⟩⟩
            · refine zw_bd (zw_eq (zr_36_0 n a0 m1) ?_)
              have r56 : 1 ≤ (m1 a0 12) ∧ (m1 a0 12) ≤ 8 := zi_rd hIm1 hc0 zb_28_12
              have r57 : 1 ≤ (m1 a0 13) ∧ (m1 a0 13) ≤ 6 := zi_rd hIm1 hc0 zb_28_13
              have p58 := zmul_bd (x := (m1 a0 12)) (y := (m1 a0 13)) (a := 1) (b := 1) (A := 8) (B := 6) (by omega) (by omega) (by omega) (by omega) (by omega) (by omega)
              have w59 := zu_w32_id (z := (m1 a0 12) * (m1 a0 13)) (by omega) (by omega)
              refine zw_some ?_
              refine zw_ite (fun h60 => ?_) (fun h60 => ?_)
              · refine zw_b (by omega) ?_
                refine zw_some ?_
                refine zw_ite (fun h61 => ?_) (fun h61 => ?_)
                · exfalso; omega
                · have r62 : (-2147483648) ≤ (m1 a0 2) ∧ (m1 a0 2) ≤ 2147483647 := zi_rd hIm1 hc0 zb_28_2
                  have e63 : (m1 a0 2) = 0 := (zs_eq hmm1)
                  exact zw_some ⟨hIm1, hFm1, ⟨by omega, by omega⟩, ⟨by omega, by omega⟩⟩
              · refine zw_b (by omega) ?_
                refine zw_some ?_
                refine zw_ite (fun h64 => ?_) (fun h64 => ?_)
                · refine zw_ite (fun h65 => ?_) (fun h65 => ?_)
                  · refine zw_ite (fun h66 => ?_) (fun h66 => ?_)
                    · refine zw_ite (fun h67 => ?_) (fun h67 => ?_)
                      · exfalso; omega
                      · have b68 : 0 ≤ (1 : Int) ∧ (1 : Int) < 8 := by omega
                        refine zw_if b68 ?_
                        have r69 : 0 ≤ (m1 205 1) ∧ (m1 205 1) ≤ 1 := zi_rd hIm1 zq_205 (zb_114 _)
                        refine zw_ite (fun h70 => ?_) (fun h70 => ?_)
                        · refine zw_ite (fun h71 => ?_) (fun h71 => ?_)
                          · refine zw_ite (fun h72 => ?_) (fun h72 => ?_)
                            · exfalso; omega
                            · refine zw_bd (zw_mono (zk_38 n hIm1 hc0 ⟨by omega, by omega⟩ ⟨by omega, by omega⟩ ⟨by omega, by omega⟩ ⟨by omega, by omega⟩ ⟨by omega, by omega⟩ ⟨by omega, by omega⟩) (fun v74 m73 hqm73 => ?_))
                              obtain ⟨hIm73, hfm73, hvm73⟩ := hqm73
                              have hFm73 := zfr_tr hFm1 hfm73 rfl
                              refine zw_bd (zw_mono (zk_127 n hIm73 hc0 ⟨by omega, by omega⟩) (fun v76 m75 hqm75 => ?_))
                              obtain ⟨hIm75, hfm75, hvm75⟩ := hqm75
                              have hFm75 := zfr_tr hFm73 hfm75 rfl
                              have r77 : 0 ≤ (m75 a0 53) ∧ (m75 a0 53) ≤ 1 := zi_rd hIm75 hc0 zb_28_53
                              refine zw_ite (fun h78 => ?_) (fun h78 => ?_)
                              · have r79 : (-2147483648) ≤ (m75 a0 2) ∧ (m75 a0 2) ≤ 2147483647 := zi_rd hIm75 hc0 zb_28_2
                                have e80 : (m75 a0 2) = 0 := (Eq.trans (zfr_ap hfm75 hc0 rfl) (Eq.trans (zfr_ap hfm73 hc0 rfl) (zs_eq hmm1)))
                                exact zw_some ⟨hIm75, hFm75, ⟨by omega, by omega⟩, ⟨by omega, by omega⟩⟩
                              · have r81 : (-2147483648) ≤ (m75 a0 2) ∧ (m75 a0 2) ≤ 2147483647 := zi_rd hIm75 hc0 zb_28_2
                                have e82 : (m75 a0 2) = 0 := (Eq.trans (zfr_ap hfm75 hc0 rfl) (Eq.trans (zfr_ap hfm73 hc0 rfl) (zs_eq hmm1)))
                                exact zw_some ⟨hIm75, hFm75, ⟨by omega, by omega⟩, ⟨by omega, by omega⟩⟩
                          · exfalso; omega
                        · have r83 : (-2147483648) ≤ (m1 a0 2) ∧ (m1 a0 2) ≤ 2147483647 := zi_rd hIm1 hc0 zb_28_2
                          have e84 : (m1 a0 2) = 0 := (zs_eq hmm1)
                          exact zw_some ⟨hIm1, hFm1, ⟨by omega, by omega⟩, ⟨by omega, by omega⟩⟩
                    · exfalso; omega
                  · exfalso; omega
                · exfalso; omega
        · refine zw_bd (zw_eq (zr_125_0 n a0 a2 m1) ?_)
          refine zw_ite (fun h85 => ?_) (fun h85 => ?_)
          · refine zw_b (by omega) ?_
            refine zw_some ?_
            refine zw_ite (fun h86 => ?_) (fun h86 => ?_)
            · have r87 : (-2147483648) ≤ (m1 a0 2) ∧ (m1 a0 2) ≤ 2147483647 := zi_rd hIm1 hc0 zb_28_2
              have e88 : (m1 a0 2) = 0 := (zs_eq hmm1)
              exact zw_some ⟨hIm1, hFm1, ⟨by omega, by omega⟩, ⟨by omega, by omega⟩⟩
            · exfalso; omega
          · have r89 : 0 ≤ (m1 a0 15) ∧ (m1 a0 15) ≤ 4 := zi_rd hIm1 hc0 zb_28_15
            refine zw_ite (fun h90 => ?_) (fun h90 => ?_)
            · refine zw_b (by omega) ?_
              refine zw_some ?_
              refine zw_ite (fun h91 => ?_) (fun h91 => ?_)
              · have r92 : (-2147483648) ≤ (m1 a0 2) ∧ (m1 a0 2) ≤ 2147483647 := zi_rd hIm1 hc0 zb_28_2
                have e93 : (m1 a0 2) = 0 := (zs_eq hmm1)
                exact zw_some ⟨hIm1, hFm1, ⟨by omega, by omega⟩, ⟨by omega, by omega⟩⟩
              · exfalso; omega
            · refine zw_b (by omega) ?_
              refine zw_some ?_
              refine zw_ite (fun h94 => ?_) (fun h94 => ?_)
              · exfalso; omega
              · refine zw_bd (zw_eq (zr_124_0 n a0 a3 m1) ?_)
                refine zw_ite (fun h95 => ?_) (fun h95 => ?_)
                · refine zw_b (by omega) ?_
                  refine zw_some ?_
                  refine zw_ite (fun h96 => ?_) (fun h96 => ?_)
                  · exfalso; omega
                  · have r97 : (-2147483648) ≤ (m1 a0 2) ∧ (m1 a0 2) ≤ 2147483647 := zi_rd hIm1 hc0 zb_28_2
                    have e98 : (m1 a0 2) = 0 := (zs_eq hmm1)
                    exact zw_some ⟨hIm1, hFm1, ⟨by omega, by omega⟩, ⟨by omega, by omega⟩⟩
                · have b99 : 0 ≤ (0 : Int) ∧ (0 : Int) < 2 := by omega
                  refine zw_if b99 ?_
                  have r100 : 0 ≤ (m1 216 0) ∧ (m1 216 0) ≤ 16 := zi_rdr (m := 2) (r0 := 0) (r1 := 0) hIm1 zq_216 (by omega) (by decide +kernel)
                  refine zw_ite (fun h101 => ?_) (fun h101 => ?_)
                  · refine zw_b (by omega) ?_
                    refine zw_some ?_
                    refine zw_ite (fun h102 => ?_) (fun h102 => ?_)
                    · exfalso; omega
                    · have r103 : (-2147483648) ≤ (m1 a0 2) ∧ (m1 a0 2) ≤ 2147483647 := zi_rd hIm1 hc0 zb_28_2
                      have e104 : (m1 a0 2) = 0 := (zs_eq hmm1)
                      exact zw_some ⟨hIm1, hFm1, ⟨by omega, by omega⟩, ⟨by omega, by omega⟩⟩
                  · refine zw_b (by omega) ?_
                    refine zw_some ?_
                    refine zw_ite (fun h105 => ?_) (fun h105 => ?_)
                    · refine zw_ite (fun h106 => ?_) (fun h106 => ?_)
                      · refine zw_ite (fun h107 => ?_) (fun h107 => ?_)
                        · exfalso; omega
                        · have b108 : 0 ≤ (2 : Int) ∧ (2 : Int) < 8 := by omega
                          refine zw_if b108 ?_
                          have r109 : 0 ≤ (m1 205 2) ∧ (m1 205 2) ≤ 1 := zi_rd hIm1 zq_205 (zb_114 _)
                          refine zw_ite (fun h110 => ?_) (fun h110 => ?_)
                          · refine zw_ite (fun h111 => ?_) (fun h111 => ?_)
                            · exfalso; omega
                            · have b112 : 0 ≤ a2 ∧ a2 < 8 := by omega
                              refine zw_if b112 ?_
                              have r113 : 0 ≤ (m1 202 a2) ∧ (m1 202 a2) ≤ 15 := zi_rd hIm1 zq_202 (zb_111 _)
                              have b114 : 0 ≤ a3 ∧ a3 < 36 := by omega
                              refine zw_if b114 ?_
                              have r115 : 0 ≤ (m1 199 a3) ∧ (m1 199 a3) ≤ 9 := zi_rd hIm1 zq_199 (zb_108 _)
                              have b116 : 0 ≤ a3 ∧ a3 < 36 := by omega
                              refine zw_if b116 ?_
                              have r117 : 0 ≤ (m1 197 a3) ∧ (m1 197 a3) ≤ 47 := zi_rd hIm1 zq_197 (zb_106 _)
                              have b118 : 0 ≤ a3 ∧ a3 < 36 := by omega
                              refine zw_if b118 ?_
                              have r119 : 0 ≤ (m1 198 a3) ∧ (m1 198 a3) ≤ 3 := zi_rd hIm1 zq_198 (zb_107 _)
                              have b120 : 0 ≤ a3 ∧ a3 < 36 := by omega
                              refine zw_if b120 ?_
                              refine zw_nif (by omega) ?_
                              have d121 : Int.tmod a2 4 = a2 % 4 := Int.tmod_eq_emod_of_nonneg (by omega)
                              refine zw_ite (fun h122 => ?_) (fun h122 => ?_)
                              · refine zw_ite (fun h123 => ?_) (fun h123 => ?_)
                                · refine zw_bd (zw_mono (zk_38 n hIm1 hc0 ⟨by omega, by omega⟩ ⟨by omega, by omega⟩ ⟨by omega, by omega⟩ ⟨by omega, by omega⟩ ⟨by omega, by omega⟩ ⟨by omega, by omega⟩) (fun v125 m124 hqm124 => ?_))
                                  obtain ⟨hIm124, hfm124, hvm124⟩ := hqm124
                                  have hFm124 := zfr_tr hFm1 hfm124 rfl
                                  refine zw_bd (zw_mono (zk_127 n hIm124 hc0 ⟨by omega, by omega⟩) (fun v127 m126 hqm126 => ?_))
                                  obtain ⟨hIm126, hfm126, hvm126⟩ := hqm126
                                  have hFm126 := zfr_tr hFm124 hfm126 rfl
                                  have r128 : 0 ≤ (m126 a0 53) ∧ (m126 a0 53) ≤ 1 := zi_rd hIm126 hc0 zb_28_53
                                  refine zw_ite (fun h129 => ?_) (fun h129 => ?_)
                                  · have r130 : (-2147483648) ≤ (m126 a0 2) ∧ (m126 a0 2) ≤ 2147483647 := zi_rd hIm126 hc0 zb_28_2
                                    have e131 : (m126 a0 2) = 0 := (Eq.trans (zfr_ap hfm126 hc0 rfl) (Eq.trans (zfr_ap hfm124 hc0 rfl) (zs_eq hmm1)))
                                    exact zw_some ⟨hIm126, hFm126, ⟨by omega, by omega⟩, ⟨by omega, by omega⟩⟩
                                  · have r132 : (-2147483648) ≤ (m126 a0 2) ∧ (m126 a0 2) ≤ 2147483647 := zi_rd hIm126 hc0 zb_28_2
                                    have e133 : (m126 a0 2) = 0 := (Eq.trans (zfr_ap hfm126 hc0 rfl) (Eq.trans (zfr_ap hfm124 hc0 rfl) (zs_eq hmm1)))
                                    exact zw_some ⟨hIm126, hFm126, ⟨by omega, by omega⟩, ⟨by omega, by omega⟩⟩
                                · exfalso; omega
                              · refine zw_ite (fun h134 => ?_) (fun h134 => ?_)
                                · refine zw_bd (zw_mono (zk_38 n hIm1 hc0 ⟨by omega, by omega⟩ ⟨by omega, by omega⟩ ⟨by omega, by omega⟩ ⟨by omega, by omega⟩ ⟨by omega, by omega⟩ ⟨by omega, by omega⟩) (fun v136 m135 hqm135 => ?_))
                                  obtain ⟨hIm135, hfm135, hvm135⟩ := hqm135
                                  have hFm135 := zfr_tr hFm1 hfm135 rfl
                                  refine zw_bd (zw_mono (zk_127 n hIm135 hc0 ⟨by omega, by omega⟩) (fun v138 m137 hqm137 => ?_))
                                  obtain ⟨hIm137, hfm137, hvm137⟩ := hqm137
                                  have hFm137 := zfr_tr hFm135 hfm137 rfl
                                  have r139 : 0 ≤ (m137 a0 53) ∧ (m137 a0 53) ≤ 1 := zi_rd hIm137 hc0 zb_28_53
                                  refine zw_ite (fun h140 => ?_) (fun h140 => ?_)
                                  · have r141 : (-2147483648) ≤ (m137 a0 2) ∧ (m137 a0 2) ≤ 2147483647 := zi_rd hIm137 hc0 zb_28_2
                                    have e142 : (m137 a0 2) = 0 := (Eq.trans (zfr_ap hfm137 hc0 rfl) (Eq.trans (zfr_ap hfm135 hc0 rfl) (zs_eq hmm1)))
                                    exact zw_some ⟨hIm137, hFm137, ⟨by omega, by omega⟩, ⟨by omega, by omega⟩⟩
                                  · have r143 : (-2147483648) ≤ (m137 a0 2) ∧ (m137 a0 2) ≤ 2147483647 := zi_rd hIm137 hc0 zb_28_2
                                    have e144 : (m137 a0 2) = 0 := (Eq.trans (zfr_ap hfm137 hc0 rfl) (Eq.trans (zfr_ap hfm135 hc0 rfl) (zs_eq hmm1)))
                                    exact zw_some ⟨hIm137, hFm137, ⟨by omega, by omega⟩, ⟨by omega, by omega⟩⟩
                                · exfalso; omega
                          · have r145 : (-2147483648) ≤ (m1 a0 2) ∧ (m1 a0 2) ≤ 2147483647 := zi_rd hIm1 hc0 zb_28_2
                            have e146 : (m1 a0 2) = 0 := (zs_eq hmm1)
                            exact zw_some ⟨hIm1, hFm1, ⟨by omega, by omega⟩, ⟨by omega, by omega⟩⟩
                      · have b147 : 0 ≤ (0 : Int) ∧ (0 : Int) < 8 := by omega
                        refine zw_if b147 ?_
                        have r148 : 0 ≤ (m1 205 0) ∧ (m1 205 0) ≤ 1 := zi_rd hIm1 zq_205 (zb_114 _)
                        refine zw_ite (fun h149 => ?_) (fun h149 => ?_)
                        · refine zw_ite (fun h150 => ?_) (fun h150 => ?_)
                          · exfalso; omega
                          · have b151 : 0 ≤ a2 ∧ a2 < 8 := by omega
                            refine zw_if b151 ?_
                            have r152 : 0 ≤ (m1 202 a2) ∧ (m1 202 a2) ≤ 15 := zi_rd hIm1 zq_202 (zb_111 _)
                            have b153 : 0 ≤ a3 ∧ a3 < 36 := by omega
                            refine zw_if b153 ?_
                            have r154 : 0 ≤ (m1 199 a3) ∧ (m1 199 a3) ≤ 9 := zi_rd hIm1 zq_199 (zb_108 _)
                            have b155 : 0 ≤ a3 ∧ a3 < 36 := by omega
                            refine zw_if b155 ?_
                            have r156 : 0 ≤ (m1 197 a3) ∧ (m1 197 a3) ≤ 47 := zi_rd hIm1 zq_197 (zb_106 _)
                            have b157 : 0 ≤ a3 ∧ a3 < 36 := by omega
                            refine zw_if b157 ?_
                            have r158 : 0 ≤ (m1 198 a3) ∧ (m1 198 a3) ≤ 3 := zi_rd hIm1 zq_198 (zb_107 _)
                            have b159 : 0 ≤ a3 ∧ a3 < 36 := by omega
                            refine zw_if b159 ?_
                            refine zw_nif (by omega) ?_
                            have d160 : Int.tmod a2 4 = a2 % 4 := Int.tmod_eq_emod_of_nonneg (by omega)
                            refine zw_ite (fun h161 => ?_) (fun h161 => ?_)
                            · refine zw_ite (fun h162 => ?_) (fun h162 => ?_)
                              · exfalso; omega
                              · refine zw_bd (zw_mono (zk_130 n hIm1 hc0 ⟨by omega, by omega⟩ ⟨by omega, by omega⟩) (fun v164 m163 hqm163 => ?_))
                                obtain ⟨hIm163, hfm163, hvm163⟩ := hqm163
                                have hFm163 := zfr_tr hFm1 hfm163 rfl
                                refine zw_bd (zw_mono (zk_38 n hIm163 hc0 ⟨by omega, by omega⟩ ⟨by omega, by omega⟩ ⟨by omega, by omega⟩ ⟨by omega, by omega⟩ ⟨by omega, by omega⟩ ⟨by omega, by omega⟩) (fun v166 m165 hqm165 => ?_))
                                obtain ⟨hIm165, hfm165, hvm165⟩ := hqm165
                                have hFm165 := zfr_tr hFm163 hfm165 rfl
                                refine zw_bd (zw_mono (zk_127 n hIm165 hc0 ⟨by omega, by omega⟩) (fun v168 m167 hqm167 => ?_))
                                obtain ⟨hIm167, hfm167, hvm167⟩ := hqm167
                                have hFm167 := zfr_tr hFm165 hfm167 rfl
                                have r169 : 0 ≤ (m167 a0 53) ∧ (m167 a0 53) ≤ 1 := zi_rd hIm167 hc0 zb_28_53
                                refine zw_ite (fun h170 => ?_) (fun h170 => ?_)
                                · have r171 : (-2147483648) ≤ (m167 a0 2) ∧ (m167 a0 2) ≤ 2147483647 := zi_rd hIm167 hc0 zb_28_2
                                  have e172 : (m167 a0 2) = 0 := (Eq.trans (zfr_ap hfm167 hc0 rfl) (Eq.trans (zfr_ap hfm165 hc0 rfl) (Eq.trans (zfr_ap hfm163 hc0 rfl) (zs_eq hmm1))))
                                  exact zw_some ⟨hIm167, hFm167, ⟨by omega, by omega⟩, ⟨by omega, by omega⟩⟩
                                · have r173 : (-2147483648) ≤ (m167 a0 2) ∧ (m167 a0 2) ≤ 2147483647 := zi_rd hIm167 hc0 zb_28_2
                                  have e174 : (m167 a0 2) = 0 := (Eq.trans (zfr_ap hfm167 hc0 rfl) (Eq.trans (zfr_ap hfm165 hc0 rfl) (Eq.trans (zfr_ap hfm163 hc0 rfl) (zs_eq hmm1))))
                                  exact zw_some ⟨hIm167, hFm167, ⟨by omega, by omega⟩, ⟨by omega, by omega⟩⟩
                            · refine zw_ite (fun h175 => ?_) (fun h175 => ?_)
                              · exfalso; omega
                              · refine zw_bd (zw_mono (zk_130 n hIm1 hc0 ⟨by omega, by omega⟩ ⟨by omega, by omega⟩) (fun v177 m176 hqm176 => ?_))
                                obtain ⟨hIm176, hfm176, hvm176⟩ := hqm176
                                have hFm176 := zfr_tr hFm1 hfm176 rfl
                                refine zw_bd (zw_mono (zk_38 n hIm176 hc0 ⟨by omega, by omega⟩ ⟨by omega, by omega⟩ ⟨by omega, by omega⟩ ⟨by omega, by omega⟩ ⟨by omega, by omega⟩ ⟨by omega, by omega⟩) (fun v179 m178 hqm178 => ?_))
                                obtain ⟨hIm178, hfm178, hvm178⟩ := hqm178
                                have hFm178 := zfr_tr hFm176 hfm178 rfl
                                refine zw_bd (zw_mono (zk_127 n hIm178 hc0 ⟨by omega, by omega⟩) (fun v181 m180 hqm180 => ?_))
                                obtain ⟨hIm180, hfm180, hvm180⟩ := hqm180
                                have hFm180 := zfr_tr hFm178 hfm180 rfl
                                have r182 : 0 ≤ (m180 a0 53) ∧ (m180 a0 53) ≤ 1 := zi_rd hIm180 hc0 zb_28_53
                                refine zw_ite (fun h183 => ?_) (fun h183 => ?_)
                                · have r184 : (-2147483648) ≤ (m180 a0 2) ∧ (m180 a0 2) ≤ 2147483647 := zi_rd hIm180 hc0 zb_28_2
                                  have e185 : (m180 a0 2) = 0 := (Eq.trans (zfr_ap hfm180 hc0 rfl) (Eq.trans (zfr_ap hfm178 hc0 rfl) (Eq.trans (zfr_ap hfm176 hc0 rfl) (zs_eq hmm1))))
                                  exact zw_some ⟨hIm180, hFm180, ⟨by omega, by omega⟩, ⟨by omega, by omega⟩⟩
                                · have r186 : (-2147483648) ≤ (m180 a0 2) ∧ (m180 a0 2) ≤ 2147483647 := zi_rd hIm180 hc0 zb_28_2
                                  have e187 : (m180 a0 2) = 0 := (Eq.trans (zfr_ap hfm180 hc0 rfl) (Eq.trans (zfr_ap hfm178 hc0 rfl) (Eq.trans (zfr_ap hfm176 hc0 rfl) (zs_eq hmm1))))
                                  exact zw_some ⟨hIm180, hFm180, ⟨by omega, by omega⟩, ⟨by omega, by omega⟩⟩
                        · have r188 : (-2147483648) ≤ (m1 a0 2) ∧ (m1 a0 2) ≤ 2147483647 := zi_rd hIm1 hc0 zb_28_2
                          have e189 : (m1 a0 2) = 0 := (zs_eq hmm1)
                          exact zw_some ⟨hIm1, hFm1, ⟨by omega, by omega⟩, ⟨by omega, by omega⟩⟩
                    · exfalso; omega
      · exfalso; omega
set_option maxHeartbeats 4000000 in
theorem zk_157 (n : Nat) {a0 a1 : Int} {m0 : zu_m} (hIm0 : zi_I m0) (hc0 : zcls a0 = 28) (ha1 : (-2147483648) ≤ a1 ∧ a1 ≤ 2147483647)     : zw (zu_call (zt_T n) 157 [(40, a0), (0, a1)] m0) (fun v m => zi_I m ∧ zfr [(28, 3), (28, 65), (28, 66), (28, 67), (28, 68), (28, 69), (28, 70), (132, 0)] m0 m ∧ ((-1) ≤ v ∧ v ≤ 47) ∧ (0 ≤ m a0 2 ∧ m a0 2 ≤ 0)) := by
  have hFm0 : zfr [(28, 3), (28, 65), (28, 66), (28, 67), (28, 68), (28, 69), (28, 70), (132, 0)] m0 m0 := zfr_rf _ _
  refine zw_eq (zr_157_0 n a0 a1 m0) ?_
  generalize hmm1 : zu_up m0 a0 2 0 = m1
  have hIm1 := zi_up hmm1 hIm0 hc0 zb_28_2 (by omega) (by omega)
  have hFm1 := zfr_up hmm1 hFm0 hc0 rfl
  refine zw_bd (zw_eq (zr_125_0 n a0 a1 m1) ?_)
  refine zw_ite (fun h2 => ?_) (fun h2 => ?_)
  · refine zw_b (by omega) ?_
    refine zw_some ?_
    refine zw_ite (fun h3 => ?_) (fun h3 => ?_)
    · exfalso; omega
    · have r4 : (-2147483648) ≤ (m1 a0 2) ∧ (m1 a0 2) ≤ 2147483647 := zi_rd hIm1 hc0 zb_28_2
      have e5 : (m1 a0 2) = 0 := (zs_eq hmm1)
      exact zw_some ⟨hIm1, hFm1, ⟨by omega, by omega⟩, ⟨by omega, by omega⟩⟩
  · have r6 : 0 ≤ (m1 a0 15) ∧ (m1 a0 15) ≤ 4 := zi_rd hIm1 hc0 zb_28_15
    refine zw_ite (fun h7 => ?_) (fun h7 => ?_)
    · refine zw_b (by omega) ?_
      refine zw_some ?_
      refine zw_ite (fun h8 => ?_) (fun h8 => ?_)
      · exfalso; omega
      · have r9 : (-2147483648) ≤ (m1 a0 2) ∧ (m1 a0 2) ≤ 2147483647 := zi_rd hIm1 hc0 zb_28_2
        have e10 : (m1 a0 2) = 0 := (zs_eq hmm1)
        exact zw_some ⟨hIm1, hFm1, ⟨by omega, by omega⟩, ⟨by omega, by omega⟩⟩
    · refine zw_b (by omega) ?_
      refine zw_some ?_
      refine zw_ite (fun h11 => ?_) (fun h11 => ?_)
      · refine zw_bd (zw_mono (zk_156 n hIm1 hc0) (fun v13 m12 hqm12 => ?_))
        obtain ⟨hIm12, hfm12, hvm12⟩ := hqm12
        have hFm12 := zfr_tr hFm1 hfm12 rfl
        have b14 : 0 ≤ a1 ∧ a1 < 8 := by omega
        refine zw_if b14 ?_
        have r15 : 0 ≤ (m12 217 a1) ∧ (m12 217 a1) ≤ 47 := zi_rd hIm12 zq_217 (zb_126 _)
        refine zw_bd (zw_mono (zk_155 n hIm12 hc0 ⟨by omega, by omega⟩ ⟨by omega, by omega⟩) (fun v17 m16 hqm16 => ?_))
        obtain ⟨hIm16, hfm16, hvm16⟩ := hqm16
        have hFm16 := zfr_tr hFm12 hfm16 rfl
        have r18 : (-2147483648) ≤ (m16 a0 2) ∧ (m16 a0 2) ≤ 2147483647 := zi_rd hIm16 hc0 zb_28_2
        have e19 : (m16 a0 2) = 0 := (Eq.trans (zfr_ap hfm16 hc0 rfl) (Eq.trans (zfr_ap hfm12 hc0 rfl) (zs_eq hmm1)))
        exact zw_some ⟨hIm16, hFm16, ⟨by omega, by omega⟩, ⟨by omega, by omega⟩⟩
      · exfalso; omega
set_option maxHeartbeats 4000000 in
theorem zk_170 (n : Nat) {a0 : Int} {m0 : zu_m} (hIm0 : zi_I m0) (hc0 : zcls a0 = 28)      : zw (zu_call (zt_T n) 170 [(40, a0)] m0) (fun v m => zi_I m ∧ zfr [(28, 3), (28, 76), (133, 0)] m0 m ∧ ((-2147483648) ≤ v ∧ v ≤ 2147483647) ∧ (0 ≤ m a0 2 ∧ m a0 2 ≤ 0)) := by
  have hFm0 : zfr [(28, 3), (28, 76), (133, 0)] m0 m0 := zfr_rf _ _
  refine zw_eq (zr_170_0 n a0 m0) ?_
  generalize hmm1 : zu_up m0 a0 2 0 = m1
  have hIm1 := zi_up hmm1 hIm0 hc0 zb_28_2 (by omega) (by omega)
  have hFm1 := zfr_up hmm1 hFm0 hc0 rfl
  refine zw_bd (zw_mono (zk_169 n hIm1 hc0 ⟨by omega, by omega⟩) (fun v3 m2 hqm2 => ?_))
  obtain ⟨hIm2, hfm2, hvm2⟩ := hqm2
  have hFm2 := zfr_tr hFm1 hfm2 rfl
  have r4 : (-2147483648) ≤ (m2 a0 2) ∧ (m2 a0 2) ≤ 2147483647 := zi_rd hIm2 hc0 zb_28_2
  have e5 : (m2 a0 2) = 0 := (Eq.trans (zfr_ap hfm2 hc0 rfl) (zs_eq hmm1))
  exact zw_some ⟨hIm2, hFm2, ⟨by omega, by omega⟩, ⟨by omega, by omega⟩⟩
set_option maxHeartbeats 4000000 in
theorem zk_171 (n : Nat) {a0 a1 : Int} {m0 : zu_m} (hIm0 : zi_I m0) (hc0 : zcls a0 = 28) (ha1 : (-2147483648) ≤ a1 ∧ a1 ≤ 2147483647)     : zw (zu_call (zt_T n) 171 [(40, a0), (0, a1)] m0) (fun v m => zi_I m ∧ zfr [(28, 3), (28, 76), (133, 0)] m0 m ∧ ((-2147483648) ≤ v ∧ v ≤ 2147483647) ∧ (0 ≤ m a0 2 ∧ m a0 2 ≤ 0)) := by
  have hFm0 : zfr [(28, 3), (28, 76), (133, 0)] m0 m0 := zfr_rf _ _
  refine zw_eq (zr_171_0 n a0 a1 m0) ?_
  generalize hmm1 : zu_up m0 a0 2 0 = m1
  have hIm1 := zi_up hmm1 hIm0 hc0 zb_28_2 (by omega) (by omega)
  have hFm1 := zfr_up hmm1 hFm0 hc0 rfl
  refine zw_ite (fun h2 => ?_) (fun h2 => ?_)
  · refine zw_bd (zw_mono (zk_169 n hIm1 hc0 ⟨by omega, by omega⟩) (fun v4 m3 hqm3 => ?_))
    obtain ⟨hIm3, hfm3, hvm3⟩ := hqm3
    have hFm3 := zfr_tr hFm1 hfm3 rfl
    have r5 : (-2147483648) ≤ (m3 a0 2) ∧ (m3 a0 2) ≤ 2147483647 := zi_rd hIm3 hc0 zb_28_2
    have e6 : (m3 a0 2) = 0 := (Eq.trans (zfr_ap hfm3 hc0 rfl) (zs_eq hmm1))
    exact zw_some ⟨hIm3, hFm3, ⟨by omega, by omega⟩, ⟨by omega, by omega⟩⟩
  · have r7 : (-2147483648) ≤ (m1 a0 2) ∧ (m1 a0 2) ≤ 2147483647 := zi_rd hIm1 hc0 zb_28_2
    have e8 : (m1 a0 2) = 0 := (zs_eq hmm1)
    exact zw_some ⟨hIm1, hFm1, ⟨by omega, by omega⟩, ⟨by omega, by omega⟩⟩
set_option maxHeartbeats 4000000 in
theorem zl_198 (n : Nat) {a0 a1 : Int} {m0 : zu_m} (hc0 : zcls a0 = 10)  : ∀ k : Nat, (∀ (x2 : Int) (mh : zu_m), zi_I mh → zfr [(5, 6), (5, 7), (9, 4), (9, 5), (9, 6), (9, 7), (10, 4), (10, 5), (10, 7), (10, 8), (33, 0), (34, 0), (35, 0), (36, 0), (47, 0), (48, 0)] m0 mh → (0 ≤ a1 ∧ a1 ≤ 3) → (0 ≤ x2 ∧ x2 ≤ 701) → (zR_K10 mh) → (701 - x2) * 1 + 0 < (k : Int) → zw (zu_ex (zt_T n) 198 45 [(24, a0), (0, a1), (0, x2), (2, 0)] [] mh) (fun v m => zi_I m ∧ zfr [(5, 6), (5, 7), (9, 4), (9, 5), (9, 6), (9, 7), (10, 4), (10, 5), (10, 7), (10, 8), (33, 0), (34, 0), (35, 0), (36, 0), (47, 0), (48, 0)] m0 m ∧ zR_K10 m ∧ (0 ≤ v ∧ v ≤ 2))) := by
  intro k
  induction k with
  | zero => exact fun x2 mh hImh hFmh hba1 hbx2 hRK10mh hM => by exfalso; omega
  | succ k ih =>
    intro x2 mh hImh hFmh hba1 hbx2 hRK10mh hM
    refine zw_eq (zr_198_45 n a0 a1 x2 mh) ?_
    refine zw_ite (fun h1 => ?_) (fun h1 => ?_)
    · exact zw_some ⟨hImh, hFmh, hRK10mh, ⟨by omega, by omega⟩⟩
    · refine zw_bd (zw_mono (zk_18 n hImh zq_45) (fun v3 m2 hqm2 => ?_))
      obtain ⟨hIm2, hfm2, hvm2⟩ := hqm2
      have hFm2 := zfr_tr hFmh hfm2 rfl
      have hRK10m2 := zR_K10_fr (zdis_fr hfm2 rfl) hRK10mh
      have r4 : 0 ≤ (m2 a0 6) ∧ (m2 a0 6) ≤ 1 := zi_rd hIm2 hc0 zb_10_6
      refine zw_ite (fun h5 => ?_) (fun h5 => ?_)
      · refine zw_ite (fun h6 => ?_) (fun h6 => ?_)
        · exfalso; omega
        · refine zw_bd (zw_mono (zk_199 n hIm2 hc0 ⟨by omega, by omega⟩ hRK10m2) (fun v8 m7 hqm7 => ?_))
          obtain ⟨hIm7, hfm7, hvm7⟩ := hqm7
          have hFm7 := zfr_tr hFm2 hfm7 rfl
          obtain ⟨hRK10m7, hvm7⟩ := hvm7
          refine zw_ite (fun h9 => ?_) (fun h9 => ?_)
          · have w10 := zu_w32_id (z := x2 + 1) (by omega) (by omega)
            have hM : (701 - (zu_w32 (x2 + 1))) * 1 + 0 < (k : Int) := by omega
            exact zw_le (zu_forget (zu_lr_same (zu_lr_same (zu_lr_same (zu_lr_drop zu_lr_nil))))) (ih (zu_w32 (x2 + 1)) m7 hIm7 hFm7 ⟨by omega, by omega⟩ ⟨by omega, by omega⟩ hRK10m7 hM)
          · exact zw_some ⟨hIm7, hFm7, hRK10m7, ⟨by omega, by omega⟩⟩
      · have r11 : 0 ≤ (m2 a0 4) ∧ (m2 a0 4) ≤ 8 := zi_rd hIm2 hc0 zb_10_4
        refine zw_ite (fun h12 => ?_) (fun h12 => ?_)
        · refine zw_ite (fun h13 => ?_) (fun h13 => ?_)
          · refine zw_bd (zw_mono (zk_202 n hIm2 hc0 ⟨by omega, by omega⟩ hRK10m2) (fun v15 m14 hqm14 => ?_))
            obtain ⟨hIm14, hfm14, hvm14⟩ := hqm14
            have hFm14 := zfr_tr hFm2 hfm14 rfl
            obtain ⟨hRK10m14, hvm14⟩ := hvm14
            refine zw_ite (fun h16 => ?_) (fun h16 => ?_)
            · have w17 := zu_w32_id (z := x2 + 1) (by omega) (by omega)
              have hM : (701 - (zu_w32 (x2 + 1))) * 1 + 0 < (k : Int) := by omega
              exact zw_le (zu_forget (zu_lr_same (zu_lr_same (zu_lr_same (zu_lr_drop zu_lr_nil))))) (ih (zu_w32 (x2 + 1)) m14 hIm14 hFm14 ⟨by omega, by omega⟩ ⟨by omega, by omega⟩ hRK10m14 hM)
            · exact zw_some ⟨hIm14, hFm14, hRK10m14, ⟨by omega, by omega⟩⟩
          · exfalso; omega
        · refine zw_bd (zw_eq (zr_278_0 n 45 0 m2) ?_)
          have r18 : 0 ≤ (m2 45 4) ∧ (m2 45 4) ≤ 5 := zi_rd hIm2 zq_45 zb_9_4
          refine zw_ite (fun h19 => ?_) (fun h19 => ?_)
          · refine zw_b (by omega) ?_
            refine zw_some ?_
            refine zw_ite (fun h20 => ?_) (fun h20 => ?_)
            · refine zw_ite (fun h21 => ?_) (fun h21 => ?_)
              · refine zw_bd (zw_mono (zk_202 n hIm2 hc0 ⟨by omega, by omega⟩ hRK10m2) (fun v23 m22 hqm22 => ?_))
                obtain ⟨hIm22, hfm22, hvm22⟩ := hqm22
                have hFm22 := zfr_tr hFm2 hfm22 rfl
                obtain ⟨hRK10m22, hvm22⟩ := hvm22
                refine zw_ite (fun h24 => ?_) (fun h24 => ?_)
                · have w25 := zu_w32_id (z := x2 + 1) (by omega) (by omega)
                  have hM : (701 - (zu_w32 (x2 + 1))) * 1 + 0 < (k : Int) := by omega
                  exact zw_le (zu_forget (zu_lr_same (zu_lr_same (zu_lr_same (zu_lr_drop zu_lr_nil))))) (ih (zu_w32 (x2 + 1)) m22 hIm22 hFm22 ⟨by omega, by omega⟩ ⟨by omega, by omega⟩ hRK10m22 hM)
                · exact zw_some ⟨hIm22, hFm22, hRK10m22, ⟨by omega, by omega⟩⟩
              · exfalso; omega
            · exfalso; omega
          · have r26 : (-2147483648) ≤ (m2 45 5) ∧ (m2 45 5) ≤ 2147483647 := zi_rd hIm2 zq_45 zb_9_5
            refine zw_ite (fun h27 => ?_) (fun h27 => ?_)
            · refine zw_b (by omega) ?_
              refine zw_some ?_
              refine zw_ite (fun h28 => ?_) (fun h28 => ?_)
              · refine zw_ite (fun h29 => ?_) (fun h29 => ?_)
                · refine zw_bd (zw_mono (zk_202 n hIm2 hc0 ⟨by omega, by omega⟩ hRK10m2) (fun v31 m30 hqm30 => ?_))
                  obtain ⟨hIm30, hfm30, hvm30⟩ := hqm30
                  have hFm30 := zfr_tr hFm2 hfm30 rfl
                  obtain ⟨hRK10m30, hvm30⟩ := hvm30
                  refine zw_ite (fun h32 => ?_) (fun h32 => ?_)
                  · have w33 := zu_w32_id (z := x2 + 1) (by omega) (by omega)
                    have hM : (701 - (zu_w32 (x2 + 1))) * 1 + 0 < (k : Int) := by omega
                    exact zw_le (zu_forget (zu_lr_same (zu_lr_same (zu_lr_same (zu_lr_drop zu_lr_nil))))) (ih (zu_w32 (x2 + 1)) m30 hIm30 hFm30 ⟨by omega, by omega⟩ ⟨by omega, by omega⟩ hRK10m30 hM)
                  · exact zw_some ⟨hIm30, hFm30, hRK10m30, ⟨by omega, by omega⟩⟩
                · exfalso; omega
              · exfalso; omega
            · refine zw_b (by omega) ?_
              refine zw_some ?_
              refine zw_ite (fun h34 => ?_) (fun h34 => ?_)
              · exfalso; omega
              · refine zw_bd (zw_mono (zk_206 n hIm2 hc0 ⟨by omega, by omega⟩ hRK10m2) (fun v36 m35 hqm35 => ?_))
                obtain ⟨hIm35, hfm35, hvm35⟩ := hqm35
                have hFm35 := zfr_tr hFm2 hfm35 rfl
                obtain ⟨hRK10m35, hvm35⟩ := hvm35
                have r37 : 0 ≤ (m35 10 6) ∧ (m35 10 6) ≤ 64 := zi_rd hIm35 zq_10 zb_5_6
                have b38 : 0 ≤ a1 ∧ a1 < 4 := by omega
                refine zw_if b38 ?_
                generalize hmm39 : zu_up m35 (10 + 4) a1 (m35 10 6) = m39
                have hIm39 := zi_up hmm39 hIm35 (zc_5_3 zq_10) (zb_36 _) (by omega) (by omega)
                have hFm39 := zfr_up hmm39 hFm35 (zc_5_3 zq_10) rfl
                have hRK10m39 := zR_K10_fr (zdis_fr (zfr_up hmm39 (zfr_rf [(36, 0)] _) (zc_5_3 zq_10) rfl) rfl) hRK10m35
                exact zw_some ⟨hIm39, hFm39, hRK10m39, ⟨by omega, by omega⟩⟩
set_option maxHeartbeats 4000000 in
theorem zk_198 (n : Nat) {a0 a1 : Int} {m0 : zu_m} (hIm0 : zi_I m0) (hc0 : zcls a0 = 10) (ha1 : 0 ≤ a1 ∧ a1 ≤ 3)    (hRK10m0 : zR_K10 m0) : zw (zu_call (zt_T n) 198 [(24, a0), (0, a1)] m0) (fun v m => zi_I m ∧ zfr [(5, 6), (5, 7), (9, 4), (9, 5), (9, 6), (9, 7), (10, 4), (10, 5), (10, 7), (10, 8), (33, 0), (34, 0), (35, 0), (36, 0), (47, 0), (48, 0)] m0 m ∧ zR_K10 m ∧ (0 ≤ v ∧ v ≤ 2)) := by
  have hFm0 : zfr [(5, 6), (5, 7), (9, 4), (9, 5), (9, 6), (9, 7), (10, 4), (10, 5), (10, 7), (10, 8), (33, 0), (34, 0), (35, 0), (36, 0), (47, 0), (48, 0)] m0 m0 := zfr_rf _ _
  refine zw_eq (zr_198_0 n a0 a1 m0) ?_
  have r40 : 0 ≤ (m0 10 6) ∧ (m0 10 6) ≤ 64 := zi_rd hIm0 zq_10 zb_5_6
  have b41 : 0 ≤ a1 ∧ a1 < 4 := by omega
  refine zw_if b41 ?_
  generalize hmm42 : zu_up m0 (10 + 3) a1 (m0 10 6) = m42
  have hIm42 := zi_up hmm42 hIm0 (zc_5_2 zq_10) (zb_35 _) (by omega) (by omega)
  have hFm42 := zfr_up hmm42 hFm0 (zc_5_2 zq_10) rfl
  have hRK10m42 := zR_K10_fr (zdis_fr (zfr_up hmm42 (zfr_rf [(35, 0)] _) (zc_5_2 zq_10) rfl) rfl) hRK10m0
  generalize hmm43 : zu_up m42 a0 3 0 = m43
  have hIm43 := zi_up hmm43 hIm42 hc0 zb_10_3 (by omega) (by omega)
  have hFm43 := zfr_up hmm43 hFm42 hc0 rfl
  have hRK10m43 := zR_K10_fr (zdis_fr (zfr_up hmm43 (zfr_rf [(10, 4)] _) hc0 rfl) rfl) hRK10m42
  generalize hmm44 : zu_up m43 a0 4 0 = m44
  have hIm44 := zi_up hmm44 hIm43 hc0 zb_10_4 (by omega) (by omega)
  have hFm44 := zfr_up hmm44 hFm43 hc0 rfl
  have hRK10m44 := zR_K10_fr (zdis_fr (zfr_up hmm44 (zfr_rf [(10, 5)] _) hc0 rfl) rfl) hRK10m43
  refine zw_b (by omega) ?_
  have b45 : 0 ≤ (0 : Int) ∧ (0 : Int) < 9 := by omega
  refine zw_if b45 ?_
  generalize hmm46 : zu_up m44 49 0 0 = m46
  have hIm46 := zi_up hmm46 hIm44 zq_49 (zb_48 _) (by omega) (by omega)
  have hFm46 := zfr_up hmm46 hFm44 zq_49 rfl
  have hRK10m46 := zR_K10_fr (zdis_fr (zfr_up hmm46 (zfr_rf [(48, 0)] _) zq_49 rfl) rfl) hRK10m44
  refine zw_b (by omega) ?_
  generalize hmm47 : zu_up m46 a0 6 1 = m47
  have hIm47 := zi_up hmm47 hIm46 hc0 zb_10_6 (by omega) (by omega)
  have hFm47 := zfr_up hmm47 hFm46 hc0 rfl
  have hRK10m47 := zR_K10_fr (zdis_fr (zfr_up hmm47 (zfr_rf [(10, 7)] _) hc0 rfl) rfl) hRK10m46
  refine zw_b (by omega) ?_
  generalize hmm48 : zu_up m47 a0 7 1 = m48
  have hIm48 := zi_up hmm48 hIm47 hc0 zb_10_7 (by omega) (by omega)
  have hFm48 := zfr_up hmm48 hFm47 hc0 rfl
  have hRK10m48 := zR_K10_fr (zdis_fr (zfr_up hmm48 (zfr_rf [(10, 8)] _) hc0 rfl) rfl) hRK10m47
  have hM : (701 - 0) * 1 + 0 < ((702 : Nat) : Int) := by omega
  exact (zl_198 n (m0 := m0) hc0 702) 0 m48 hIm48 hFm48 ⟨by omega, by omega⟩ ⟨by omega, by omega⟩ hRK10m48 hM
set_option maxHeartbeats 4000000 in
theorem zl_216_16 (n : Nat) {a0 a1 a2 : Int} {m0 : zu_m} (hc0 : zcls a0 = 16)  : ∀ k : Nat, (∀ (x3 x4 x5 x6 : Int) (mh : zu_m), zi_I mh → zfr [(16, 10), (17, 4), (18, 6), (18, 7), (18, 8), (56, 0), (59, 0), (67, 0), (68, 0)] m0 mh → (0 ≤ a1 ∧ a1 ≤ 3) → (0 ≤ a2 ∧ a2 ≤ 0) → (zcls x3 = 18) → (0 ≤ x4 ∧ x4 ≤ 47) → ((-2147483648) ≤ x5 ∧ x5 ≤ 2147483647) → (0 ≤ x6 ∧ x6 ≤ 16) → (zR_K54 mh) → (16 - x6) * 1 + 0 < (k : Int) → zw (zu_ex (zt_T n) 216 22 [(27, a0), (0, a1), (0, a2), (21, x3), (0, x4), (0, x5), (0, x6), (2, 0), (2, 0)] [] mh) (fun v m => zi_I m ∧ zfr [(16, 10), (17, 4), (18, 6), (18, 7), (18, 8), (56, 0), (59, 0), (67, 0), (68, 0)] m0 m ∧ zR_K54 m ∧ True)) := by
  intro k
  induction k with
  | zero => exact fun x3 x4 x5 x6 mh hImh hFmh hba1 hba2 hx3 hbx4 hbx5 hbx6 hRK54mh hM => by exfalso; omega
  | succ k ih =>
    intro x3 x4 x5 x6 mh hImh hFmh hba1 hba2 hx3 hbx4 hbx5 hbx6 hRK54mh hM
    refine zw_eq (zr_216_22 n a0 a1 a2 x3 x4 x5 x6 mh) ?_
    have r1 : 0 ≤ (mh a0 2) ∧ (mh a0 2) ≤ 16 := zi_rd hImh hc0 zb_16_2
    refine zw_ite (fun h2 => ?_) (fun h2 => ?_)
    · refine zw_ite (fun h3 => ?_) (fun h3 => ?_)
      · generalize hmm4 : zu_up mh x3 7 (-1) = m4
        have hIm4 := zi_up hmm4 hImh hx3 zb_18_7 (by omega) (by omega)
        have hFm4 := zfr_up hmm4 hFmh hx3 rfl
        have hRK54m4 := zR_K54_fr (zdis_fr (zfr_up hmm4 (zfr_rf [(18, 8)] _) hx3 rfl) rfl) hRK54mh
        have r5 : (-2147483648) ≤ (m4 x3 5) ∧ (m4 x3 5) ≤ 2147483647 := zi_rd hIm4 hx3 zb_18_5
        have w6 := zu_w32_rg ((m4 x3 5) + 1)
        generalize hmm7 : zu_up m4 x3 5 (zu_w32 ((m4 x3 5) + 1)) = m7
        have hIm7 := zi_up hmm7 hIm4 hx3 zb_18_5 (by omega) (by omega)
        have hFm7 := zfr_up hmm7 hFm4 hx3 rfl
        have hRK54m7 := zR_K54_fr (zdis_fr (zfr_up hmm7 (zfr_rf [(18, 6)] _) hx3 rfl) rfl) hRK54m4
        refine zw_b (by omega) ?_
        have b8 : 0 ≤ x4 ∧ x4 < 48 := by omega
        refine zw_if b8 ?_
        generalize hmm9 : zu_up m7 (a0 + 3) x4 1 = m9
        have hIm9 := zi_up hmm9 hIm7 (zc_16_5 hc0) (zb_67 _) (by omega) (by omega)
        have hFm9 := zfr_up hmm9 hFm7 (zc_16_5 hc0) rfl
        have hRK54m9 := zR_K54_fr (zdis_fr (zfr_up hmm9 (zfr_rf [(67, 0)] _) (zc_16_5 hc0) rfl) rfl) hRK54m7
        have b10 : 0 ≤ x4 ∧ x4 < 48 := by omega
        refine zw_if b10 ?_
        have r11 : 0 ≤ (m9 (a0 + 4) x4) ∧ (m9 (a0 + 4) x4) ≤ 999000 := zi_rd hIm9 (zc_16_6 hc0) (zb_68 _)
        refine zw_bd (zw_mono (zk_254 n hIm9 zq_50 ⟨by omega, by omega⟩ ⟨by omega, by omega⟩ ⟨by omega, by omega⟩) (fun v13 m12 hqm12 => ?_))
        obtain ⟨hIm12, hfm12, hvm12⟩ := hqm12
        have hFm12 := zfr_tr hFm9 hfm12 rfl
        have hRK54m12 := zR_K54_fr (zdis_fr hfm12 rfl) hRK54m9
        have b14 : 0 ≤ x4 ∧ x4 < 48 := by omega
        refine zw_if b14 ?_
        generalize hmm15 : zu_up m12 (a0 + 4) x4 v13 = m15
        have hIm15 := zi_up hmm15 hIm12 (zc_16_6 hc0) (zb_68 _) (by omega) (by omega)
        have hFm15 := zfr_up hmm15 hFm12 (zc_16_6 hc0) rfl
        have hRK54m15 := zR_K54_fr (zdis_fr (zfr_up hmm15 (zfr_rf [(68, 0)] _) (zc_16_6 hc0) rfl) rfl) hRK54m12
        exact zw_some ⟨hIm15, hFm15, hRK54m15, trivial⟩
      · exfalso; omega
    · refine zw_ite (fun h16 => ?_) (fun h16 => ?_)
      · have b17 : 0 ≤ x6 ∧ x6 < 16 := by omega
        refine zw_if b17 ?_
        have r18 : (-3) ≤ (mh ((a0 + 1) + 5 + x6) 3) ∧ (mh ((a0 + 1) + 5 + x6) 3) ≤ 3 := zi_rd hImh (zc_65_e (zc_16_1 hc0) b17) zb_17_3
        refine zw_ite (fun h19 => ?_) (fun h19 => ?_)
        · have w20 := zu_w32_id (z := x6 + 1) (by omega) (by omega)
          have hM : (16 - (zu_w32 (x6 + 1))) * 1 + 0 < (k : Int) := by omega
          exact zw_le (zu_forget (zu_lr_same (zu_lr_same (zu_lr_same (zu_lr_same (zu_lr_same (zu_lr_same (zu_lr_same (zu_lr_drop (zu_lr_same zu_lr_nil)))))))))) (ih x3 x4 x5 (zu_w32 (x6 + 1)) mh hImh hFmh ⟨by omega, by omega⟩ ⟨by omega, by omega⟩ hx3 ⟨by omega, by omega⟩ ⟨by omega, by omega⟩ ⟨by omega, by omega⟩ hRK54mh hM)
        · have r21 : 0 ≤ (mh ((a0 + 1) + 5 + x6) 0) ∧ (mh ((a0 + 1) + 5 + x6) 0) ≤ 47 := zi_rd hImh (zc_65_e (zc_16_1 hc0) b17) zb_17_0
          refine zw_ite (fun h22 => ?_) (fun h22 => ?_)
          · have w23 := zu_w32_id (z := x6 + 1) (by omega) (by omega)
            have hM : (16 - (zu_w32 (x6 + 1))) * 1 + 0 < (k : Int) := by omega
            exact zw_le (zu_forget (zu_lr_same (zu_lr_same (zu_lr_same (zu_lr_same (zu_lr_same (zu_lr_same (zu_lr_same (zu_lr_drop (zu_lr_same zu_lr_nil)))))))))) (ih x3 x4 x5 (zu_w32 (x6 + 1)) mh hImh hFmh ⟨by omega, by omega⟩ ⟨by omega, by omega⟩ hx3 ⟨by omega, by omega⟩ ⟨by omega, by omega⟩ ⟨by omega, by omega⟩ hRK54mh hM)
          · have r24 : 0 ≤ (mh ((a0 + 1) + 5 + x6) 1) ∧ (mh ((a0 + 1) + 5 + x6) 1) ≤ 3 := zi_rd hImh (zc_65_e (zc_16_1 hc0) b17) zb_17_1
            refine zw_bd (zw_eq (zr_217_0 n a0 a1 (mh ((a0 + 1) + 5 + x6) 1) mh) ?_)
            have r25 : 0 ≤ (mh a0 10) ∧ (mh a0 10) ≤ 3 := zi_rd hImh hc0 zb_16_10
            refine zw_ite (fun h26 => ?_) (fun h26 => ?_)
            · refine zw_b (by omega) ?_
              refine zw_some ?_
              refine zw_ite (fun h27 => ?_) (fun h27 => ?_)
              · exfalso; omega
              · refine zw_ite (fun h28 => ?_) (fun h28 => ?_)
                · refine zw_bd (zw_mono (zk_215_16 n hImh hc0) (fun v30 m29 hqm29 => ?_))
                  obtain ⟨hIm29, hfm29, hvm29⟩ := hqm29
                  have hFm29 := zfr_tr hFmh hfm29 rfl
                  have hRK54m29 := zR_K54_fr (zdis_fr hfm29 rfl) hRK54mh
                  refine zw_nif (by omega) ?_
                  have d31 := ztmod_b2 (x := v30) (y := 100) (by omega)
                  have r32 : (-2147483648) ≤ (m29 x3 6) ∧ (m29 x3 6) ≤ 2147483647 := zi_rd hIm29 hx3 zb_18_6
                  refine zw_bd (zw_mono (zk_224_16 n hIm29 hc0 ⟨by omega, by omega⟩ ⟨by omega, by omega⟩ ⟨by omega, by omega⟩) (fun v34 m33 hqm33 => ?_))
                  obtain ⟨hIm33, hfm33, hvm33⟩ := hqm33
                  have hFm33 := zfr_tr hFm29 hfm33 rfl
                  have hRK54m33 := zR_K54_fr (zdis_fr hfm33 rfl) hRK54m29
                  refine zw_bd (zw_mono (zk_250 n hIm33 zq_50 hRK54m33) (fun v36 m35 hqm35 => ?_))
                  obtain ⟨hIm35, hfm35, hvm35⟩ := hqm35
                  have hFm35 := zfr_tr hFm33 hfm35 rfl
                  obtain ⟨hRK54m35, hvm35⟩ := hvm35
                  refine zw_ite (fun h37 => ?_) (fun h37 => ?_)
                  · have w38 := zu_w32_id (z := x6 + 1) (by omega) (by omega)
                    have hM : (16 - (zu_w32 (x6 + 1))) * 1 + 0 < (k : Int) := by omega
                    exact zw_le (zu_forget (zu_lr_same (zu_lr_same (zu_lr_same (zu_lr_same (zu_lr_same (zu_lr_same (zu_lr_same (zu_lr_drop (zu_lr_drop zu_lr_nil)))))))))) (ih x3 x4 x5 (zu_w32 (x6 + 1)) m35 hIm35 hFm35 ⟨by omega, by omega⟩ ⟨by omega, by omega⟩ hx3 ⟨by omega, by omega⟩ ⟨by omega, by omega⟩ ⟨by omega, by omega⟩ hRK54m35 hM)
                  · generalize hmm39 : zu_up m35 ((a0 + 1) + 5 + x6) 3 a1 = m39
                    have hIm39 := zi_up hmm39 hIm35 (zc_65_e (zc_16_1 hc0) b17) zb_17_3 (by omega) (by omega)
                    have hFm39 := zfr_up hmm39 hFm35 (zc_65_e (zc_16_1 hc0) b17) rfl
                    have hRK54m39 := zR_K54_fr (zdis_fr (zfr_up hmm39 (zfr_rf [(17, 4)] _) (zc_65_e (zc_16_1 hc0) b17) rfl) rfl) hRK54m35
                    have r40 : (-2147483648) ≤ (m39 x3 6) ∧ (m39 x3 6) ≤ 2147483647 := zi_rd hIm39 hx3 zb_18_6
                    have e41 : (m39 x3 6) = (m29 x3 6) := (Eq.trans (zs_ne hmm39 (Or.inl (zc_ne hx3 (zc_65_e (zc_16_1 hc0) b17) (by decide)))) (Eq.trans (zfr_ap hfm35 hx3 rfl) (zfr_ap hfm33 hx3 rfl)))
                    have w42 := zu_w32_rg ((m39 x3 6) + 1)
                    generalize hmm43 : zu_up m39 x3 6 (zu_w32 ((m39 x3 6) + 1)) = m43
                    have hIm43 := zi_up hmm43 hIm39 hx3 zb_18_6 (by omega) (by omega)
                    have hFm43 := zfr_up hmm43 hFm39 hx3 rfl
                    have hRK54m43 := zR_K54_fr (zdis_fr (zfr_up hmm43 (zfr_rf [(18, 7)] _) hx3 rfl) rfl) hRK54m39
                    have w44 := zu_w32_id (z := x6 + 1) (by omega) (by omega)
                    have hM : (16 - (zu_w32 (x6 + 1))) * 1 + 0 < (k : Int) := by omega
                    exact zw_le (zu_forget (zu_lr_same (zu_lr_same (zu_lr_same (zu_lr_same (zu_lr_same (zu_lr_same (zu_lr_same (zu_lr_drop (zu_lr_drop zu_lr_nil)))))))))) (ih x3 x4 x5 (zu_w32 (x6 + 1)) m43 hIm43 hFm43 ⟨by omega, by omega⟩ ⟨by omega, by omega⟩ hx3 ⟨by omega, by omega⟩ ⟨by omega, by omega⟩ ⟨by omega, by omega⟩ hRK54m43 hM)
                · exfalso; omega
            · refine zw_nif (by omega) ?_
              have d45 : Int.tmod a1 4 = a1 % 4 := Int.tmod_eq_emod_of_nonneg (by omega)
              refine zw_ite (fun h46 => ?_) (fun h46 => ?_)
              · refine zw_b (by omega) ?_
                refine zw_some ?_
                refine zw_ite (fun h47 => ?_) (fun h47 => ?_)
                · have w48 := zu_w32_id (z := x6 + 1) (by omega) (by omega)
                  have hM : (16 - (zu_w32 (x6 + 1))) * 1 + 0 < (k : Int) := by omega
                  exact zw_le (zu_forget (zu_lr_same (zu_lr_same (zu_lr_same (zu_lr_same (zu_lr_same (zu_lr_same (zu_lr_same (zu_lr_drop (zu_lr_same zu_lr_nil)))))))))) (ih x3 x4 x5 (zu_w32 (x6 + 1)) mh hImh hFmh ⟨by omega, by omega⟩ ⟨by omega, by omega⟩ hx3 ⟨by omega, by omega⟩ ⟨by omega, by omega⟩ ⟨by omega, by omega⟩ hRK54mh hM)
                · exfalso; omega
              · refine zw_b (by omega) ?_
                refine zw_some ?_
                refine zw_ite (fun h49 => ?_) (fun h49 => ?_)
                · exfalso; omega
                · refine zw_ite (fun h50 => ?_) (fun h50 => ?_)
                  · refine zw_bd (zw_mono (zk_215_16 n hImh hc0) (fun v52 m51 hqm51 => ?_))
                    obtain ⟨hIm51, hfm51, hvm51⟩ := hqm51
                    have hFm51 := zfr_tr hFmh hfm51 rfl
                    have hRK54m51 := zR_K54_fr (zdis_fr hfm51 rfl) hRK54mh
                    refine zw_nif (by omega) ?_
                    have d53 := ztmod_b2 (x := v52) (y := 100) (by omega)
                    have r54 : (-2147483648) ≤ (m51 x3 6) ∧ (m51 x3 6) ≤ 2147483647 := zi_rd hIm51 hx3 zb_18_6
                    refine zw_bd (zw_mono (zk_224_16 n hIm51 hc0 ⟨by omega, by omega⟩ ⟨by omega, by omega⟩ ⟨by omega, by omega⟩) (fun v56 m55 hqm55 => ?_))
                    obtain ⟨hIm55, hfm55, hvm55⟩ := hqm55
                    have hFm55 := zfr_tr hFm51 hfm55 rfl
                    have hRK54m55 := zR_K54_fr (zdis_fr hfm55 rfl) hRK54m51
                    refine zw_bd (zw_mono (zk_250 n hIm55 zq_50 hRK54m55) (fun v58 m57 hqm57 => ?_))
                    obtain ⟨hIm57, hfm57, hvm57⟩ := hqm57
                    have hFm57 := zfr_tr hFm55 hfm57 rfl
                    obtain ⟨hRK54m57, hvm57⟩ := hvm57
                    refine zw_ite (fun h59 => ?_) (fun h59 => ?_)
                    · have w60 := zu_w32_id (z := x6 + 1) (by omega) (by omega)
                      have hM : (16 - (zu_w32 (x6 + 1))) * 1 + 0 < (k : Int) := by omega
                      exact zw_le (zu_forget (zu_lr_same (zu_lr_same (zu_lr_same (zu_lr_same (zu_lr_same (zu_lr_same (zu_lr_same (zu_lr_drop (zu_lr_drop zu_lr_nil)))))))))) (ih x3 x4 x5 (zu_w32 (x6 + 1)) m57 hIm57 hFm57 ⟨by omega, by omega⟩ ⟨by omega, by omega⟩ hx3 ⟨by omega, by omega⟩ ⟨by omega, by omega⟩ ⟨by omega, by omega⟩ hRK54m57 hM)
                    · generalize hmm61 : zu_up m57 ((a0 + 1) + 5 + x6) 3 a1 = m61
                      have hIm61 := zi_up hmm61 hIm57 (zc_65_e (zc_16_1 hc0) b17) zb_17_3 (by omega) (by omega)
                      have hFm61 := zfr_up hmm61 hFm57 (zc_65_e (zc_16_1 hc0) b17) rfl
                      have hRK54m61 := zR_K54_fr (zdis_fr (zfr_up hmm61 (zfr_rf [(17, 4)] _) (zc_65_e (zc_16_1 hc0) b17) rfl) rfl) hRK54m57
                      have r62 : (-2147483648) ≤ (m61 x3 6) ∧ (m61 x3 6) ≤ 2147483647 := zi_rd hIm61 hx3 zb_18_6
                      have e63 : (m61 x3 6) = (m51 x3 6) := (Eq.trans (zs_ne hmm61 (Or.inl (zc_ne hx3 (zc_65_e (zc_16_1 hc0) b17) (by decide)))) (Eq.trans (zfr_ap hfm57 hx3 rfl) (zfr_ap hfm55 hx3 rfl)))
                      have w64 := zu_w32_rg ((m61 x3 6) + 1)
                      generalize hmm65 : zu_up m61 x3 6 (zu_w32 ((m61 x3 6) + 1)) = m65
                      have hIm65 := zi_up hmm65 hIm61 hx3 zb_18_6 (by omega) (by omega)
                      have hFm65 := zfr_up hmm65 hFm61 hx3 rfl
                      have hRK54m65 := zR_K54_fr (zdis_fr (zfr_up hmm65 (zfr_rf [(18, 7)] _) hx3 rfl) rfl) hRK54m61
                      have w66 := zu_w32_id (z := x6 + 1) (by omega) (by omega)
                      have hM : (16 - (zu_w32 (x6 + 1))) * 1 + 0 < (k : Int) := by omega
                      exact zw_le (zu_forget (zu_lr_same (zu_lr_same (zu_lr_same (zu_lr_same (zu_lr_same (zu_lr_same (zu_lr_same (zu_lr_drop (zu_lr_drop zu_lr_nil)))))))))) (ih x3 x4 x5 (zu_w32 (x6 + 1)) m65 hIm65 hFm65 ⟨by omega, by omega⟩ ⟨by omega, by omega⟩ hx3 ⟨by omega, by omega⟩ ⟨by omega, by omega⟩ ⟨by omega, by omega⟩ hRK54m65 hM)
                  · exfalso; omega
      · exfalso; omega
set_option maxHeartbeats 4000000 in
theorem zk_216_16 (n : Nat) {a0 a1 a2 : Int} {m0 : zu_m} (hIm0 : zi_I m0) (hc0 : zcls a0 = 16) (ha1 : 0 ≤ a1 ∧ a1 ≤ 3) (ha2 : 0 ≤ a2 ∧ a2 ≤ 0)    (hRK54m0 : zR_K54 m0) : zw (zu_call (zt_T n) 216 [(27, a0), (0, a1), (0, a2)] m0) (fun v m => zi_I m ∧ zfr [(16, 10), (17, 4), (18, 6), (18, 7), (18, 8), (56, 0), (59, 0), (67, 0), (68, 0)] m0 m ∧ zR_K54 m ∧ True) := by
  have hFm0 : zfr [(16, 10), (17, 4), (18, 6), (18, 7), (18, 8), (56, 0), (59, 0), (67, 0), (68, 0)] m0 m0 := zfr_rf _ _
  refine zw_eq (zr_216_0 n a0 a1 a2 m0) ?_
  have b67 : 0 ≤ a1 ∧ a1 < 4 := by omega
  refine zw_if b67 ?_
  have r68 : 0 ≤ (m0 ((a0 + 2) + 20 + a1) 1) ∧ (m0 ((a0 + 2) + 20 + a1) 1) ≤ 47 := zi_rd hIm0 (zc_66_e (zc_16_3 hc0) b67) zb_18_1
  have r69 : (-2147483648) ≤ (m0 ((a0 + 2) + 20 + a1) 6) ∧ (m0 ((a0 + 2) + 20 + a1) 6) ≤ 2147483647 := zi_rd hIm0 (zc_66_e (zc_16_3 hc0) b67) zb_18_6
  have hM : (16 - 0) * 1 + 0 < ((17 : Nat) : Int) := by omega
  exact (zl_216_16 n (m0 := m0) hc0 17) ((a0 + 2) + 20 + a1) (m0 ((a0 + 2) + 20 + a1) 1) (m0 ((a0 + 2) + 20 + a1) 6) 0 m0 hIm0 hFm0 ⟨by omega, by omega⟩ ⟨by omega, by omega⟩ (zc_66_e (zc_16_3 hc0) b67) ⟨by omega, by omega⟩ ⟨by omega, by omega⟩ ⟨by omega, by omega⟩ hRK54m0 hM

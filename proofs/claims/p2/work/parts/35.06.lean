set_option maxHeartbeats 4000000 in
theorem zk_104 (n : Nat) {a0 : Int} {m0 : zu_m} (hIm0 : zi_I m0) (hc0 : zcls a0 = 15)   (he0 : 6 ≤ m0 a0 9 ∧ m0 a0 9 ≤ 10)  : zw (zu_call (zt_T n) 104 [(40, a0)] m0) (fun v m => zi_I m ∧ zfr [(15, 5), (15, 6), (15, 8), (15, 9), (15, 10), (15, 11), (15, 12), (63, 0), (64, 0)] m0 m ∧ (0 ≤ v ∧ v ≤ 1)) := by
  have hFm0 : zfr [(15, 5), (15, 6), (15, 8), (15, 9), (15, 10), (15, 11), (15, 12), (63, 0), (64, 0)] m0 m0 := zfr_rf _ _
  refine zw_eq (zr_104_0 n a0 m0) ?_
  refine zw_ite (fun h1 => ?_) (fun h1 => ?_)
  · refine zw_bd (zw_eq (zr_98_0 n a0 1 m0) ?_)
    have b2 : 0 ≤ (1 : Int) ∧ (1 : Int) < 6 := by omega
    refine zw_if b2 ?_
    have r3 : 0 ≤ (m0 193 1) ∧ (m0 193 1) ≤ 1 := zi_rd hIm0 zq_193 (zb_63 _)
    refine zw_ite (fun h4 => ?_) (fun h4 => ?_)
    · refine zw_b (by omega) ?_
      have b5 : 0 ≤ (1 : Int) ∧ (1 : Int) < 6 := by omega
      refine zw_if b5 ?_
      generalize hmm6 : zu_up m0 193 1 1 = m6
      have hIm6 := zi_up hmm6 hIm0 zq_193 (zb_63 _) (by omega) (by omega)
      have hFm6 := zfr_up hmm6 hFm0 zq_193 rfl
      refine zw_bd (zw_mono (zk_89 n hIm6 hc0) (fun v8 m7 hqm7 => ?_))
      obtain ⟨hIm7, hfm7, hvm7⟩ := hqm7
      have hFm7 := zfr_tr hFm6 hfm7 rfl
      refine zw_b (by omega) ?_
      refine zw_some ?_
      refine zw_ite (fun h9 => ?_) (fun h9 => ?_)
      · exfalso; omega
      · refine zw_bd (zw_eq (zr_97_0 n a0 16 18 m7) ?_)
        have r10 : 0 ≤ (m7 a0 8) ∧ (m7 a0 8) ≤ 6 := zi_rd hIm7 hc0 zb_15_8
        refine zw_ite (fun h11 => ?_) (fun h11 => ?_)
        · refine zw_bd (zw_eq (zr_85_0 n a0 1 m7) ?_)
          generalize hmm12 : zu_up m7 a0 4 1 = m12
          have hIm12 := zi_up hmm12 hIm7 hc0 zb_15_4 (by omega) (by omega)
          have hFm12 := zfr_up hmm12 hFm7 hc0 rfl
          have r13 : 0 ≤ (m12 a0 10) ∧ (m12 a0 10) ≤ 700 := zi_rd hIm12 hc0 zb_15_10
          generalize hmm14 : zu_up m12 a0 5 (m12 a0 10) = m14
          have hIm14 := zi_up hmm14 hIm12 hc0 zb_15_5 (by omega) (by omega)
          have hFm14 := zfr_up hmm14 hFm12 hc0 rfl
          refine zw_b (by omega) ?_
          refine zw_some ?_
          refine zw_b (by omega) ?_
          refine zw_some ?_
          refine zw_ite (fun h15 => ?_) (fun h15 => ?_)
          · exfalso; omega
          · refine zw_b (by omega) ?_
            exact zw_some ⟨hIm14, hFm14, ⟨by omega, by omega⟩⟩
        · have r16 : (-2147483648) ≤ (m7 a0 9) ∧ (m7 a0 9) ≤ 2147483647 := zi_rd hIm7 hc0 zb_15_9
          refine zw_ite (fun h17 => ?_) (fun h17 => ?_)
          · refine zw_bd (zw_eq (zr_85_0 n a0 1 m7) ?_)
            generalize hmm18 : zu_up m7 a0 4 1 = m18
            have hIm18 := zi_up hmm18 hIm7 hc0 zb_15_4 (by omega) (by omega)
            have hFm18 := zfr_up hmm18 hFm7 hc0 rfl
            have r19 : 0 ≤ (m18 a0 10) ∧ (m18 a0 10) ≤ 700 := zi_rd hIm18 hc0 zb_15_10
            generalize hmm20 : zu_up m18 a0 5 (m18 a0 10) = m20
            have hIm20 := zi_up hmm20 hIm18 hc0 zb_15_5 (by omega) (by omega)
            have hFm20 := zfr_up hmm20 hFm18 hc0 rfl
            refine zw_b (by omega) ?_
            refine zw_some ?_
            refine zw_b (by omega) ?_
            refine zw_some ?_
            refine zw_ite (fun h21 => ?_) (fun h21 => ?_)
            · exfalso; omega
            · refine zw_b (by omega) ?_
              exact zw_some ⟨hIm20, hFm20, ⟨by omega, by omega⟩⟩
          · refine zw_ite (fun h22 => ?_) (fun h22 => ?_)
            · have w23 := zu_w32_id (z := (m7 a0 9) - 16) (by omega) (by omega)
              refine zw_bd (zw_mono (zk_89 n hIm7 hc0) (fun v25 m24 hqm24 => ?_))
              obtain ⟨hIm24, hfm24, hvm24⟩ := hqm24
              have hFm24 := zfr_tr hFm7 hfm24 rfl
              generalize hmm26 : zu_up m24 a0 11 (zu_w32 ((m7 a0 9) - 16)) = m26
              have hIm26 := zi_up hmm26 hIm24 hc0 zb_15_11 (by omega) (by omega)
              have hFm26 := zfr_up hmm26 hFm24 hc0 rfl
              refine zw_b (by omega) ?_
              refine zw_some ?_
              refine zw_ite (fun h27 => ?_) (fun h27 => ?_)
              · have r28 : (-2147483648) ≤ (m26 a0 11) ∧ (m26 a0 11) ≤ 2147483647 := zi_rd hIm26 hc0 zb_15_11
                have e29 : (m26 a0 11) = (zu_w32 ((m7 a0 9) - 16)) := (zs_eq hmm26)
                have b30 : 0 ≤ (5 : Int) ∧ (5 : Int) < 10 := by omega
                refine zw_if b30 ?_
                generalize hmm31 : zu_up m26 194 5 (m26 a0 11) = m31
                have hIm31 := zi_up hmm31 hIm26 zq_194 (zb_64 _) (by omega) (by omega)
                have hFm31 := zfr_up hmm31 hFm26 zq_194 rfl
                refine zw_b (by omega) ?_
                exact zw_some ⟨hIm31, hFm31, ⟨by omega, by omega⟩⟩
              · exfalso; omega
            · refine zw_bd (zw_eq (zr_85_0 n a0 1 m7) ?_)
              generalize hmm32 : zu_up m7 a0 4 1 = m32
              have hIm32 := zi_up hmm32 hIm7 hc0 zb_15_4 (by omega) (by omega)
              have hFm32 := zfr_up hmm32 hFm7 hc0 rfl
              have r33 : 0 ≤ (m32 a0 10) ∧ (m32 a0 10) ≤ 700 := zi_rd hIm32 hc0 zb_15_10
              generalize hmm34 : zu_up m32 a0 5 (m32 a0 10) = m34
              have hIm34 := zi_up hmm34 hIm32 hc0 zb_15_5 (by omega) (by omega)
              have hFm34 := zfr_up hmm34 hFm32 hc0 rfl
              refine zw_b (by omega) ?_
              refine zw_some ?_
              refine zw_b (by omega) ?_
              refine zw_some ?_
              refine zw_ite (fun h35 => ?_) (fun h35 => ?_)
              · exfalso; omega
              · refine zw_b (by omega) ?_
                exact zw_some ⟨hIm34, hFm34, ⟨by omega, by omega⟩⟩
    · refine zw_bd (zw_eq (zr_85_0 n a0 3 m0) ?_)
      generalize hmm36 : zu_up m0 a0 4 3 = m36
      have hIm36 := zi_up hmm36 hIm0 hc0 zb_15_4 (by omega) (by omega)
      have hFm36 := zfr_up hmm36 hFm0 hc0 rfl
      have r37 : 0 ≤ (m36 a0 10) ∧ (m36 a0 10) ≤ 700 := zi_rd hIm36 hc0 zb_15_10
      generalize hmm38 : zu_up m36 a0 5 (m36 a0 10) = m38
      have hIm38 := zi_up hmm38 hIm36 hc0 zb_15_5 (by omega) (by omega)
      have hFm38 := zfr_up hmm38 hFm36 hc0 rfl
      refine zw_b (by omega) ?_
      refine zw_some ?_
      refine zw_b (by omega) ?_
      refine zw_some ?_
      refine zw_ite (fun h39 => ?_) (fun h39 => ?_)
      · refine zw_b (by omega) ?_
        exact zw_some ⟨hIm38, hFm38, ⟨by omega, by omega⟩⟩
      · exfalso; omega
  · refine zw_ite (fun h40 => ?_) (fun h40 => ?_)
    · refine zw_bd (zw_eq (zr_98_0 n a0 2 m0) ?_)
      have b41 : 0 ≤ (2 : Int) ∧ (2 : Int) < 6 := by omega
      refine zw_if b41 ?_
      have r42 : 0 ≤ (m0 193 2) ∧ (m0 193 2) ≤ 1 := zi_rd hIm0 zq_193 (zb_63 _)
      refine zw_ite (fun h43 => ?_) (fun h43 => ?_)
      · refine zw_b (by omega) ?_
        have b44 : 0 ≤ (2 : Int) ∧ (2 : Int) < 6 := by omega
        refine zw_if b44 ?_
        generalize hmm45 : zu_up m0 193 2 1 = m45
        have hIm45 := zi_up hmm45 hIm0 zq_193 (zb_63 _) (by omega) (by omega)
        have hFm45 := zfr_up hmm45 hFm0 zq_193 rfl
        refine zw_bd (zw_mono (zk_89 n hIm45 hc0) (fun v47 m46 hqm46 => ?_))
        obtain ⟨hIm46, hfm46, hvm46⟩ := hqm46
        have hFm46 := zfr_tr hFm45 hfm46 rfl
        refine zw_b (by omega) ?_
        refine zw_some ?_
        refine zw_ite (fun h48 => ?_) (fun h48 => ?_)
        · exfalso; omega
        · refine zw_bd (zw_eq (zr_94_0 n a0 0 6 m46) ?_)
          have r49 : 0 ≤ (m46 a0 8) ∧ (m46 a0 8) ≤ 6 := zi_rd hIm46 hc0 zb_15_8
          refine zw_ite (fun h50 => ?_) (fun h50 => ?_)
          · have r51 : (-2147483648) ≤ (m46 a0 9) ∧ (m46 a0 9) ≤ 2147483647 := zi_rd hIm46 hc0 zb_15_9
            refine zw_bd (zw_eq (zr_83_0 n (m46 a0 9) 0 6 m46) ?_)
            refine zw_ite (fun h52 => ?_) (fun h52 => ?_)
            · refine zw_b (by omega) ?_
              refine zw_some ?_
              refine zw_ite (fun h53 => ?_) (fun h53 => ?_)
              · exfalso; omega
              · refine zw_bd (zw_eq (zr_85_0 n a0 2 m46) ?_)
                generalize hmm54 : zu_up m46 a0 4 2 = m54
                have hIm54 := zi_up hmm54 hIm46 hc0 zb_15_4 (by omega) (by omega)
                have hFm54 := zfr_up hmm54 hFm46 hc0 rfl
                have r55 : 0 ≤ (m54 a0 10) ∧ (m54 a0 10) ≤ 700 := zi_rd hIm54 hc0 zb_15_10
                generalize hmm56 : zu_up m54 a0 5 (m54 a0 10) = m56
                have hIm56 := zi_up hmm56 hIm54 hc0 zb_15_5 (by omega) (by omega)
                have hFm56 := zfr_up hmm56 hFm54 hc0 rfl
                refine zw_b (by omega) ?_
                refine zw_some ?_
                refine zw_b (by omega) ?_
                refine zw_some ?_
                refine zw_ite (fun h57 => ?_) (fun h57 => ?_)
                · exfalso; omega
                · refine zw_b (by omega) ?_
                  exact zw_some ⟨hIm56, hFm56, ⟨by omega, by omega⟩⟩
            · refine zw_ite (fun h58 => ?_) (fun h58 => ?_)
              · refine zw_b (by omega) ?_
                refine zw_some ?_
                refine zw_ite (fun h59 => ?_) (fun h59 => ?_)
                · exfalso; omega
                · refine zw_bd (zw_eq (zr_85_0 n a0 2 m46) ?_)
                  generalize hmm60 : zu_up m46 a0 4 2 = m60
                  have hIm60 := zi_up hmm60 hIm46 hc0 zb_15_4 (by omega) (by omega)
                  have hFm60 := zfr_up hmm60 hFm46 hc0 rfl
                  have r61 : 0 ≤ (m60 a0 10) ∧ (m60 a0 10) ≤ 700 := zi_rd hIm60 hc0 zb_15_10
                  generalize hmm62 : zu_up m60 a0 5 (m60 a0 10) = m62
                  have hIm62 := zi_up hmm62 hIm60 hc0 zb_15_5 (by omega) (by omega)
                  have hFm62 := zfr_up hmm62 hFm60 hc0 rfl
                  refine zw_b (by omega) ?_
                  refine zw_some ?_
                  refine zw_b (by omega) ?_
                  refine zw_some ?_
                  refine zw_ite (fun h63 => ?_) (fun h63 => ?_)
                  · exfalso; omega
                  · refine zw_b (by omega) ?_
                    exact zw_some ⟨hIm62, hFm62, ⟨by omega, by omega⟩⟩
              · refine zw_b (by omega) ?_
                refine zw_some ?_
                refine zw_ite (fun h64 => ?_) (fun h64 => ?_)
                · generalize hmm65 : zu_up m46 a0 11 (m46 a0 9) = m65
                  have hIm65 := zi_up hmm65 hIm46 hc0 zb_15_11 (by omega) (by omega)
                  have hFm65 := zfr_up hmm65 hFm46 hc0 rfl
                  refine zw_bd (zw_mono (zk_89 n hIm65 hc0) (fun v67 m66 hqm66 => ?_))
                  obtain ⟨hIm66, hfm66, hvm66⟩ := hqm66
                  have hFm66 := zfr_tr hFm65 hfm66 rfl
                  refine zw_b (by omega) ?_
                  refine zw_some ?_
                  refine zw_ite (fun h68 => ?_) (fun h68 => ?_)
                  · have r69 : (-2147483648) ≤ (m66 a0 11) ∧ (m66 a0 11) ≤ 2147483647 := zi_rd hIm66 hc0 zb_15_11
                    have e70 : (m66 a0 11) = (m46 a0 9) := (Eq.trans (zfr_ap hfm66 hc0 rfl) (zs_eq hmm65))
                    have b71 : 0 ≤ (6 : Int) ∧ (6 : Int) < 10 := by omega
                    refine zw_if b71 ?_
                    generalize hmm72 : zu_up m66 194 6 (m66 a0 11) = m72
                    have hIm72 := zi_up hmm72 hIm66 zq_194 (zb_64 _) (by omega) (by omega)
                    have hFm72 := zfr_up hmm72 hFm66 zq_194 rfl
                    refine zw_b (by omega) ?_
                    exact zw_some ⟨hIm72, hFm72, ⟨by omega, by omega⟩⟩
                  · exfalso; omega
                · exfalso; omega
          · refine zw_bd (zw_eq (zr_85_0 n a0 1 m46) ?_)
            generalize hmm73 : zu_up m46 a0 4 1 = m73
            have hIm73 := zi_up hmm73 hIm46 hc0 zb_15_4 (by omega) (by omega)
            have hFm73 := zfr_up hmm73 hFm46 hc0 rfl
            have r74 : 0 ≤ (m73 a0 10) ∧ (m73 a0 10) ≤ 700 := zi_rd hIm73 hc0 zb_15_10
            generalize hmm75 : zu_up m73 a0 5 (m73 a0 10) = m75
            have hIm75 := zi_up hmm75 hIm73 hc0 zb_15_5 (by omega) (by omega)
            have hFm75 := zfr_up hmm75 hFm73 hc0 rfl
            refine zw_b (by omega) ?_
            refine zw_some ?_
            refine zw_b (by omega) ?_
            refine zw_some ?_
            refine zw_ite (fun h76 => ?_) (fun h76 => ?_)
            · exfalso; omega
            · refine zw_b (by omega) ?_
              exact zw_some ⟨hIm75, hFm75, ⟨by omega, by omega⟩⟩
      · refine zw_bd (zw_eq (zr_85_0 n a0 3 m0) ?_)
        generalize hmm77 : zu_up m0 a0 4 3 = m77
        have hIm77 := zi_up hmm77 hIm0 hc0 zb_15_4 (by omega) (by omega)
        have hFm77 := zfr_up hmm77 hFm0 hc0 rfl
        have r78 : 0 ≤ (m77 a0 10) ∧ (m77 a0 10) ≤ 700 := zi_rd hIm77 hc0 zb_15_10
        generalize hmm79 : zu_up m77 a0 5 (m77 a0 10) = m79
        have hIm79 := zi_up hmm79 hIm77 hc0 zb_15_5 (by omega) (by omega)
        have hFm79 := zfr_up hmm79 hFm77 hc0 rfl
        refine zw_b (by omega) ?_
        refine zw_some ?_
        refine zw_b (by omega) ?_
        refine zw_some ?_
        refine zw_ite (fun h80 => ?_) (fun h80 => ?_)
        · refine zw_b (by omega) ?_
          exact zw_some ⟨hIm79, hFm79, ⟨by omega, by omega⟩⟩
        · exfalso; omega
    · refine zw_ite (fun h81 => ?_) (fun h81 => ?_)
      · refine zw_bd (zw_eq (zr_98_0 n a0 3 m0) ?_)
        have b82 : 0 ≤ (3 : Int) ∧ (3 : Int) < 6 := by omega
        refine zw_if b82 ?_
        have r83 : 0 ≤ (m0 193 3) ∧ (m0 193 3) ≤ 1 := zi_rd hIm0 zq_193 (zb_63 _)
        refine zw_ite (fun h84 => ?_) (fun h84 => ?_)
        · refine zw_b (by omega) ?_
          have b85 : 0 ≤ (3 : Int) ∧ (3 : Int) < 6 := by omega
          refine zw_if b85 ?_
          generalize hmm86 : zu_up m0 193 3 1 = m86
          have hIm86 := zi_up hmm86 hIm0 zq_193 (zb_63 _) (by omega) (by omega)
          have hFm86 := zfr_up hmm86 hFm0 zq_193 rfl
          refine zw_bd (zw_mono (zk_89 n hIm86 hc0) (fun v88 m87 hqm87 => ?_))
          obtain ⟨hIm87, hfm87, hvm87⟩ := hqm87
          have hFm87 := zfr_tr hFm86 hfm87 rfl
          refine zw_b (by omega) ?_
          refine zw_some ?_
          refine zw_ite (fun h89 => ?_) (fun h89 => ?_)
          · exfalso; omega
          · refine zw_bd (zw_eq (zr_94_0 n a0 1 99 m87) ?_)
            have r90 : 0 ≤ (m87 a0 8) ∧ (m87 a0 8) ≤ 6 := zi_rd hIm87 hc0 zb_15_8
            refine zw_ite (fun h91 => ?_) (fun h91 => ?_)
            · have r92 : (-2147483648) ≤ (m87 a0 9) ∧ (m87 a0 9) ≤ 2147483647 := zi_rd hIm87 hc0 zb_15_9
              refine zw_bd (zw_eq (zr_83_0 n (m87 a0 9) 1 99 m87) ?_)
              refine zw_ite (fun h93 => ?_) (fun h93 => ?_)
              · refine zw_b (by omega) ?_
                refine zw_some ?_
                refine zw_ite (fun h94 => ?_) (fun h94 => ?_)
                · exfalso; omega
                · refine zw_bd (zw_eq (zr_85_0 n a0 2 m87) ?_)
                  generalize hmm95 : zu_up m87 a0 4 2 = m95
                  have hIm95 := zi_up hmm95 hIm87 hc0 zb_15_4 (by omega) (by omega)
                  have hFm95 := zfr_up hmm95 hFm87 hc0 rfl
                  have r96 : 0 ≤ (m95 a0 10) ∧ (m95 a0 10) ≤ 700 := zi_rd hIm95 hc0 zb_15_10
                  generalize hmm97 : zu_up m95 a0 5 (m95 a0 10) = m97
                  have hIm97 := zi_up hmm97 hIm95 hc0 zb_15_5 (by omega) (by omega)
                  have hFm97 := zfr_up hmm97 hFm95 hc0 rfl
                  refine zw_b (by omega) ?_
                  refine zw_some ?_
                  refine zw_b (by omega) ?_
                  refine zw_some ?_
                  refine zw_ite (fun h98 => ?_) (fun h98 => ?_)
                  · exfalso; omega
                  · refine zw_b (by omega) ?_
                    exact zw_some ⟨hIm97, hFm97, ⟨by omega, by omega⟩⟩
              · refine zw_ite (fun h99 => ?_) (fun h99 => ?_)
                · refine zw_b (by omega) ?_
                  refine zw_some ?_
                  refine zw_ite (fun h100 => ?_) (fun h100 => ?_)
                  · exfalso; omega
                  · refine zw_bd (zw_eq (zr_85_0 n a0 2 m87) ?_)
                    generalize hmm101 : zu_up m87 a0 4 2 = m101
                    have hIm101 := zi_up hmm101 hIm87 hc0 zb_15_4 (by omega) (by omega)
                    have hFm101 := zfr_up hmm101 hFm87 hc0 rfl
                    have r102 : 0 ≤ (m101 a0 10) ∧ (m101 a0 10) ≤ 700 := zi_rd hIm101 hc0 zb_15_10
                    generalize hmm103 : zu_up m101 a0 5 (m101 a0 10) = m103
                    have hIm103 := zi_up hmm103 hIm101 hc0 zb_15_5 (by omega) (by omega)
                    have hFm103 := zfr_up hmm103 hFm101 hc0 rfl
                    refine zw_b (by omega) ?_
                    refine zw_some ?_
                    refine zw_b (by omega) ?_
                    refine zw_some ?_
                    refine zw_ite (fun h104 => ?_) (fun h104 => ?_)
                    · exfalso; omega
                    · refine zw_b (by omega) ?_
                      exact zw_some ⟨hIm103, hFm103, ⟨by omega, by omega⟩⟩
                · refine zw_b (by omega) ?_
                  refine zw_some ?_
                  refine zw_ite (fun h105 => ?_) (fun h105 => ?_)
                  · generalize hmm106 : zu_up m87 a0 11 (m87 a0 9) = m106
                    have hIm106 := zi_up hmm106 hIm87 hc0 zb_15_11 (by omega) (by omega)
                    have hFm106 := zfr_up hmm106 hFm87 hc0 rfl
                    refine zw_bd (zw_mono (zk_89 n hIm106 hc0) (fun v108 m107 hqm107 => ?_))
                    obtain ⟨hIm107, hfm107, hvm107⟩ := hqm107
                    have hFm107 := zfr_tr hFm106 hfm107 rfl
                    refine zw_b (by omega) ?_
                    refine zw_some ?_
                    refine zw_ite (fun h109 => ?_) (fun h109 => ?_)
                    · have r110 : (-2147483648) ≤ (m107 a0 11) ∧ (m107 a0 11) ≤ 2147483647 := zi_rd hIm107 hc0 zb_15_11
                      have e111 : (m107 a0 11) = (m87 a0 9) := (Eq.trans (zfr_ap hfm107 hc0 rfl) (zs_eq hmm106))
                      have b112 : 0 ≤ (7 : Int) ∧ (7 : Int) < 10 := by omega
                      refine zw_if b112 ?_
                      generalize hmm113 : zu_up m107 194 7 (m107 a0 11) = m113
                      have hIm113 := zi_up hmm113 hIm107 zq_194 (zb_64 _) (by omega) (by omega)
                      have hFm113 := zfr_up hmm113 hFm107 zq_194 rfl
                      refine zw_b (by omega) ?_
                      exact zw_some ⟨hIm113, hFm113, ⟨by omega, by omega⟩⟩
                    · exfalso; omega
                  · exfalso; omega
            · refine zw_bd (zw_eq (zr_85_0 n a0 1 m87) ?_)
              generalize hmm114 : zu_up m87 a0 4 1 = m114
              have hIm114 := zi_up hmm114 hIm87 hc0 zb_15_4 (by omega) (by omega)
              have hFm114 := zfr_up hmm114 hFm87 hc0 rfl
              have r115 : 0 ≤ (m114 a0 10) ∧ (m114 a0 10) ≤ 700 := zi_rd hIm114 hc0 zb_15_10
              generalize hmm116 : zu_up m114 a0 5 (m114 a0 10) = m116
              have hIm116 := zi_up hmm116 hIm114 hc0 zb_15_5 (by omega) (by omega)
              have hFm116 := zfr_up hmm116 hFm114 hc0 rfl
              refine zw_b (by omega) ?_
              refine zw_some ?_
              refine zw_b (by omega) ?_
              refine zw_some ?_
              refine zw_ite (fun h117 => ?_) (fun h117 => ?_)
              · exfalso; omega
              · refine zw_b (by omega) ?_
                exact zw_some ⟨hIm116, hFm116, ⟨by omega, by omega⟩⟩
        · refine zw_bd (zw_eq (zr_85_0 n a0 3 m0) ?_)
          generalize hmm118 : zu_up m0 a0 4 3 = m118
          have hIm118 := zi_up hmm118 hIm0 hc0 zb_15_4 (by omega) (by omega)
          have hFm118 := zfr_up hmm118 hFm0 hc0 rfl
          have r119 : 0 ≤ (m118 a0 10) ∧ (m118 a0 10) ≤ 700 := zi_rd hIm118 hc0 zb_15_10
          generalize hmm120 : zu_up m118 a0 5 (m118 a0 10) = m120
          have hIm120 := zi_up hmm120 hIm118 hc0 zb_15_5 (by omega) (by omega)
          have hFm120 := zfr_up hmm120 hFm118 hc0 rfl
          refine zw_b (by omega) ?_
          refine zw_some ?_
          refine zw_b (by omega) ?_
          refine zw_some ?_
          refine zw_ite (fun h121 => ?_) (fun h121 => ?_)
          · refine zw_b (by omega) ?_
            exact zw_some ⟨hIm120, hFm120, ⟨by omega, by omega⟩⟩
          · exfalso; omega
      · refine zw_ite (fun h122 => ?_) (fun h122 => ?_)
        · refine zw_bd (zw_eq (zr_98_0 n a0 4 m0) ?_)
          have b123 : 0 ≤ (4 : Int) ∧ (4 : Int) < 6 := by omega
          refine zw_if b123 ?_
          have r124 : 0 ≤ (m0 193 4) ∧ (m0 193 4) ≤ 1 := zi_rd hIm0 zq_193 (zb_63 _)
          refine zw_ite (fun h125 => ?_) (fun h125 => ?_)
          · refine zw_b (by omega) ?_
            have b126 : 0 ≤ (4 : Int) ∧ (4 : Int) < 6 := by omega
            refine zw_if b126 ?_
            generalize hmm127 : zu_up m0 193 4 1 = m127
            have hIm127 := zi_up hmm127 hIm0 zq_193 (zb_63 _) (by omega) (by omega)
            have hFm127 := zfr_up hmm127 hFm0 zq_193 rfl
            refine zw_bd (zw_mono (zk_89 n hIm127 hc0) (fun v129 m128 hqm128 => ?_))
            obtain ⟨hIm128, hfm128, hvm128⟩ := hqm128
            have hFm128 := zfr_tr hFm127 hfm128 rfl
            refine zw_b (by omega) ?_
            refine zw_some ?_
            refine zw_ite (fun h130 => ?_) (fun h130 => ?_)
            · exfalso; omega
            · refine zw_bd (zw_eq (zr_94_0 n a0 0 999 m128) ?_)
              have r131 : 0 ≤ (m128 a0 8) ∧ (m128 a0 8) ≤ 6 := zi_rd hIm128 hc0 zb_15_8
              refine zw_ite (fun h132 => ?_) (fun h132 => ?_)
              · have r133 : (-2147483648) ≤ (m128 a0 9) ∧ (m128 a0 9) ≤ 2147483647 := zi_rd hIm128 hc0 zb_15_9
                refine zw_bd (zw_eq (zr_83_0 n (m128 a0 9) 0 999 m128) ?_)
                refine zw_ite (fun h134 => ?_) (fun h134 => ?_)
                · refine zw_b (by omega) ?_
                  refine zw_some ?_
                  refine zw_ite (fun h135 => ?_) (fun h135 => ?_)
                  · exfalso; omega
                  · refine zw_bd (zw_eq (zr_85_0 n a0 2 m128) ?_)
                    generalize hmm136 : zu_up m128 a0 4 2 = m136
                    have hIm136 := zi_up hmm136 hIm128 hc0 zb_15_4 (by omega) (by omega)
                    have hFm136 := zfr_up hmm136 hFm128 hc0 rfl
                    have r137 : 0 ≤ (m136 a0 10) ∧ (m136 a0 10) ≤ 700 := zi_rd hIm136 hc0 zb_15_10
                    generalize hmm138 : zu_up m136 a0 5 (m136 a0 10) = m138
                    have hIm138 := zi_up hmm138 hIm136 hc0 zb_15_5 (by omega) (by omega)
                    have hFm138 := zfr_up hmm138 hFm136 hc0 rfl
                    refine zw_b (by omega) ?_
                    refine zw_some ?_
                    refine zw_b (by omega) ?_
                    refine zw_some ?_
                    refine zw_ite (fun h139 => ?_) (fun h139 => ?_)
                    · exfalso; omega
                    · refine zw_b (by omega) ?_
                      exact zw_some ⟨hIm138, hFm138, ⟨by omega, by omega⟩⟩
                · refine zw_ite (fun h140 => ?_) (fun h140 => ?_)
                  · refine zw_b (by omega) ?_
                    refine zw_some ?_
                    refine zw_ite (fun h141 => ?_) (fun h141 => ?_)
                    · exfalso; omega
                    · refine zw_bd (zw_eq (zr_85_0 n a0 2 m128) ?_)
                      generalize hmm142 : zu_up m128 a0 4 2 = m142
                      have hIm142 := zi_up hmm142 hIm128 hc0 zb_15_4 (by omega) (by omega)
                      have hFm142 := zfr_up hmm142 hFm128 hc0 rfl
                      have r143 : 0 ≤ (m142 a0 10) ∧ (m142 a0 10) ≤ 700 := zi_rd hIm142 hc0 zb_15_10
                      generalize hmm144 : zu_up m142 a0 5 (m142 a0 10) = m144
                      have hIm144 := zi_up hmm144 hIm142 hc0 zb_15_5 (by omega) (by omega)
                      have hFm144 := zfr_up hmm144 hFm142 hc0 rfl
                      refine zw_b (by omega) ?_
                      refine zw_some ?_
                      refine zw_b (by omega) ?_
                      refine zw_some ?_
                      refine zw_ite (fun h145 => ?_) (fun h145 => ?_)
                      · exfalso; omega
                      · refine zw_b (by omega) ?_
                        exact zw_some ⟨hIm144, hFm144, ⟨by omega, by omega⟩⟩
                  · refine zw_b (by omega) ?_
                    refine zw_some ?_
                    refine zw_ite (fun h146 => ?_) (fun h146 => ?_)
                    · generalize hmm147 : zu_up m128 a0 11 (m128 a0 9) = m147
                      have hIm147 := zi_up hmm147 hIm128 hc0 zb_15_11 (by omega) (by omega)
                      have hFm147 := zfr_up hmm147 hFm128 hc0 rfl
                      refine zw_bd (zw_mono (zk_89 n hIm147 hc0) (fun v149 m148 hqm148 => ?_))
                      obtain ⟨hIm148, hfm148, hvm148⟩ := hqm148
                      have hFm148 := zfr_tr hFm147 hfm148 rfl
                      refine zw_b (by omega) ?_
                      refine zw_some ?_
                      refine zw_ite (fun h150 => ?_) (fun h150 => ?_)
                      · have r151 : (-2147483648) ≤ (m148 a0 11) ∧ (m148 a0 11) ≤ 2147483647 := zi_rd hIm148 hc0 zb_15_11
                        have e152 : (m148 a0 11) = (m128 a0 9) := (Eq.trans (zfr_ap hfm148 hc0 rfl) (zs_eq hmm147))
                        have b153 : 0 ≤ (8 : Int) ∧ (8 : Int) < 10 := by omega
                        refine zw_if b153 ?_
                        generalize hmm154 : zu_up m148 194 8 (m148 a0 11) = m154
                        have hIm154 := zi_up hmm154 hIm148 zq_194 (zb_64 _) (by omega) (by omega)
                        have hFm154 := zfr_up hmm154 hFm148 zq_194 rfl
                        refine zw_b (by omega) ?_
                        exact zw_some ⟨hIm154, hFm154, ⟨by omega, by omega⟩⟩
                      · exfalso; omega
                    · exfalso; omega
              · refine zw_bd (zw_eq (zr_85_0 n a0 1 m128) ?_)
                generalize hmm155 : zu_up m128 a0 4 1 = m155
                have hIm155 := zi_up hmm155 hIm128 hc0 zb_15_4 (by omega) (by omega)
                have hFm155 := zfr_up hmm155 hFm128 hc0 rfl
                have r156 : 0 ≤ (m155 a0 10) ∧ (m155 a0 10) ≤ 700 := zi_rd hIm155 hc0 zb_15_10
                generalize hmm157 : zu_up m155 a0 5 (m155 a0 10) = m157
                have hIm157 := zi_up hmm157 hIm155 hc0 zb_15_5 (by omega) (by omega)
                have hFm157 := zfr_up hmm157 hFm155 hc0 rfl
                refine zw_b (by omega) ?_
                refine zw_some ?_
                refine zw_b (by omega) ?_
                refine zw_some ?_
                refine zw_ite (fun h158 => ?_) (fun h158 => ?_)
                · exfalso; omega
                · refine zw_b (by omega) ?_
                  exact zw_some ⟨hIm157, hFm157, ⟨by omega, by omega⟩⟩
          · refine zw_bd (zw_eq (zr_85_0 n a0 3 m0) ?_)
            generalize hmm159 : zu_up m0 a0 4 3 = m159
            have hIm159 := zi_up hmm159 hIm0 hc0 zb_15_4 (by omega) (by omega)
            have hFm159 := zfr_up hmm159 hFm0 hc0 rfl
            have r160 : 0 ≤ (m159 a0 10) ∧ (m159 a0 10) ≤ 700 := zi_rd hIm159 hc0 zb_15_10
            generalize hmm161 : zu_up m159 a0 5 (m159 a0 10) = m161
            have hIm161 := zi_up hmm161 hIm159 hc0 zb_15_5 (by omega) (by omega)
            have hFm161 := zfr_up hmm161 hFm159 hc0 rfl
            refine zw_b (by omega) ?_
            refine zw_some ?_
            refine zw_b (by omega) ?_
            refine zw_some ?_
            refine zw_ite (fun h162 => ?_) (fun h162 => ?_)
            · refine zw_b (by omega) ?_
              exact zw_some ⟨hIm161, hFm161, ⟨by omega, by omega⟩⟩
            · exfalso; omega
        · refine zw_bd (zw_eq (zr_98_0 n a0 5 m0) ?_)
          have b163 : 0 ≤ (5 : Int) ∧ (5 : Int) < 6 := by omega
          refine zw_if b163 ?_
          have r164 : 0 ≤ (m0 193 5) ∧ (m0 193 5) ≤ 1 := zi_rd hIm0 zq_193 (zb_63 _)
          refine zw_ite (fun h165 => ?_) (fun h165 => ?_)
          · refine zw_b (by omega) ?_
            have b166 : 0 ≤ (5 : Int) ∧ (5 : Int) < 6 := by omega
            refine zw_if b166 ?_
            generalize hmm167 : zu_up m0 193 5 1 = m167
            have hIm167 := zi_up hmm167 hIm0 zq_193 (zb_63 _) (by omega) (by omega)
            have hFm167 := zfr_up hmm167 hFm0 zq_193 rfl
            refine zw_bd (zw_mono (zk_89 n hIm167 hc0) (fun v169 m168 hqm168 => ?_))
            obtain ⟨hIm168, hfm168, hvm168⟩ := hqm168
            have hFm168 := zfr_tr hFm167 hfm168 rfl
            refine zw_b (by omega) ?_
            refine zw_some ?_
            refine zw_ite (fun h170 => ?_) (fun h170 => ?_)
            · exfalso; omega
            · refine zw_bd (zw_eq (zr_94_0 n a0 0 99999 m168) ?_)
              have r171 : 0 ≤ (m168 a0 8) ∧ (m168 a0 8) ≤ 6 := zi_rd hIm168 hc0 zb_15_8
              refine zw_ite (fun h172 => ?_) (fun h172 => ?_)
              · have r173 : (-2147483648) ≤ (m168 a0 9) ∧ (m168 a0 9) ≤ 2147483647 := zi_rd hIm168 hc0 zb_15_9
                refine zw_bd (zw_eq (zr_83_0 n (m168 a0 9) 0 99999 m168) ?_)
                refine zw_ite (fun h174 => ?_) (fun h174 => ?_)
                · refine zw_b (by omega) ?_
                  refine zw_some ?_
                  refine zw_ite (fun h175 => ?_) (fun h175 => ?_)
                  · exfalso; omega
                  · refine zw_bd (zw_eq (zr_85_0 n a0 2 m168) ?_)
                    generalize hmm176 : zu_up m168 a0 4 2 = m176
                    have hIm176 := zi_up hmm176 hIm168 hc0 zb_15_4 (by omega) (by omega)
                    have hFm176 := zfr_up hmm176 hFm168 hc0 rfl
                    have r177 : 0 ≤ (m176 a0 10) ∧ (m176 a0 10) ≤ 700 := zi_rd hIm176 hc0 zb_15_10
                    generalize hmm178 : zu_up m176 a0 5 (m176 a0 10) = m178
                    have hIm178 := zi_up hmm178 hIm176 hc0 zb_15_5 (by omega) (by omega)
                    have hFm178 := zfr_up hmm178 hFm176 hc0 rfl
                    refine zw_b (by omega) ?_
                    refine zw_some ?_
                    refine zw_b (by omega) ?_
                    refine zw_some ?_
                    refine zw_ite (fun h179 => ?_) (fun h179 => ?_)
                    · exfalso; omega
                    · refine zw_b (by omega) ?_
                      exact zw_some ⟨hIm178, hFm178, ⟨by omega, by omega⟩⟩
                · refine zw_ite (fun h180 => ?_) (fun h180 => ?_)
                  · refine zw_b (by omega) ?_
                    refine zw_some ?_
                    refine zw_ite (fun h181 => ?_) (fun h181 => ?_)
                    · exfalso; omega
                    · refine zw_bd (zw_eq (zr_85_0 n a0 2 m168) ?_)
                      generalize hmm182 : zu_up m168 a0 4 2 = m182
                      have hIm182 := zi_up hmm182 hIm168 hc0 zb_15_4 (by omega) (by omega)
                      have hFm182 := zfr_up hmm182 hFm168 hc0 rfl
                      have r183 : 0 ≤ (m182 a0 10) ∧ (m182 a0 10) ≤ 700 := zi_rd hIm182 hc0 zb_15_10
                      generalize hmm184 : zu_up m182 a0 5 (m182 a0 10) = m184
                      have hIm184 := zi_up hmm184 hIm182 hc0 zb_15_5 (by omega) (by omega)
                      have hFm184 := zfr_up hmm184 hFm182 hc0 rfl
                      refine zw_b (by omega) ?_
                      refine zw_some ?_
                      refine zw_b (by omega) ?_
                      refine zw_some ?_
                      refine zw_ite (fun h185 => ?_) (fun h185 => ?_)
                      · exfalso; omega
                      · refine zw_b (by omega) ?_
                        exact zw_some ⟨hIm184, hFm184, ⟨by omega, by omega⟩⟩
                  · refine zw_b (by omega) ?_
                    refine zw_some ?_
                    refine zw_ite (fun h186 => ?_) (fun h186 => ?_)
                    · generalize hmm187 : zu_up m168 a0 11 (m168 a0 9) = m187
                      have hIm187 := zi_up hmm187 hIm168 hc0 zb_15_11 (by omega) (by omega)
                      have hFm187 := zfr_up hmm187 hFm168 hc0 rfl
                      refine zw_bd (zw_mono (zk_89 n hIm187 hc0) (fun v189 m188 hqm188 => ?_))
                      obtain ⟨hIm188, hfm188, hvm188⟩ := hqm188
                      have hFm188 := zfr_tr hFm187 hfm188 rfl
                      refine zw_b (by omega) ?_
                      refine zw_some ?_
                      refine zw_ite (fun h190 => ?_) (fun h190 => ?_)
                      · have r191 : (-2147483648) ≤ (m188 a0 11) ∧ (m188 a0 11) ≤ 2147483647 := zi_rd hIm188 hc0 zb_15_11
                        have e192 : (m188 a0 11) = (m168 a0 9) := (Eq.trans (zfr_ap hfm188 hc0 rfl) (zs_eq hmm187))
                        have b193 : 0 ≤ (9 : Int) ∧ (9 : Int) < 10 := by omega
                        refine zw_if b193 ?_
                        generalize hmm194 : zu_up m188 194 9 (m188 a0 11) = m194
                        have hIm194 := zi_up hmm194 hIm188 zq_194 (zb_64 _) (by omega) (by omega)
                        have hFm194 := zfr_up hmm194 hFm188 zq_194 rfl
                        refine zw_b (by omega) ?_
                        exact zw_some ⟨hIm194, hFm194, ⟨by omega, by omega⟩⟩
                      · exfalso; omega
                    · exfalso; omega
              · refine zw_bd (zw_eq (zr_85_0 n a0 1 m168) ?_)
                generalize hmm195 : zu_up m168 a0 4 1 = m195
                have hIm195 := zi_up hmm195 hIm168 hc0 zb_15_4 (by omega) (by omega)
                have hFm195 := zfr_up hmm195 hFm168 hc0 rfl
                have r196 : 0 ≤ (m195 a0 10) ∧ (m195 a0 10) ≤ 700 := zi_rd hIm195 hc0 zb_15_10
                generalize hmm197 : zu_up m195 a0 5 (m195 a0 10) = m197
                have hIm197 := zi_up hmm197 hIm195 hc0 zb_15_5 (by omega) (by omega)
                have hFm197 := zfr_up hmm197 hFm195 hc0 rfl
                refine zw_b (by omega) ?_
                refine zw_some ?_
                refine zw_b (by omega) ?_
                refine zw_some ?_
                refine zw_ite (fun h198 => ?_) (fun h198 => ?_)
                · exfalso; omega
                · refine zw_b (by omega) ?_
                  exact zw_some ⟨hIm197, hFm197, ⟨by omega, by omega⟩⟩
          · refine zw_bd (zw_eq (zr_85_0 n a0 3 m0) ?_)
            generalize hmm199 : zu_up m0 a0 4 3 = m199
            have hIm199 := zi_up hmm199 hIm0 hc0 zb_15_4 (by omega) (by omega)
            have hFm199 := zfr_up hmm199 hFm0 hc0 rfl
            have r200 : 0 ≤ (m199 a0 10) ∧ (m199 a0 10) ≤ 700 := zi_rd hIm199 hc0 zb_15_10
            generalize hmm201 : zu_up m199 a0 5 (m199 a0 10) = m201
            have hIm201 := zi_up hmm201 hIm199 hc0 zb_15_5 (by omega) (by omega)
            have hFm201 := zfr_up hmm201 hFm199 hc0 rfl
            refine zw_b (by omega) ?_
            refine zw_some ?_
            refine zw_b (by omega) ?_
            refine zw_some ?_
            refine zw_ite (fun h202 => ?_) (fun h202 => ?_)
            · refine zw_b (by omega) ?_
              exact zw_some ⟨hIm201, hFm201, ⟨by omega, by omega⟩⟩
            · exfalso; omega
set_option maxHeartbeats 4000000 in
theorem zk_118 (n : Nat) {a0 : Int} {m0 : zu_m} (hIm0 : zi_I m0) (hc0 : zcls a0 = 15)     : zw (zu_call (zt_T n) 118 [(40, a0)] m0) (fun v m => zi_I m ∧ zfr [(15, 5), (15, 6), (15, 8), (15, 9), (15, 10), (15, 11), (15, 22), (15, 46), (15, 47), (15, 48), (15, 49), (15, 50), (15, 51), (78, 0), (79, 0), (80, 0), (81, 0), (82, 0)] m0 m ∧ (0 ≤ v ∧ v ≤ 1)) := by
  sorry
set_option maxHeartbeats 4000000 in
theorem zk_147 (n : Nat) {a0 a1 a2 a3 : Int} {m0 : zu_m} (hIm0 : zi_I m0) (hc0 : zcls a0 = 15) (ha1 : (-2147483648) ≤ a1 ∧ a1 ≤ 2147483647) (ha2 : (-2147483648) ≤ a2 ∧ a2 ≤ 2147483647) (ha3 : (-2147483648) ≤ a3 ∧ a3 ≤ 2147483647)    : zw (zu_call (zt_T n) 147 [(40, a0), (0, a1), (0, a2), (0, a3)] m0) (fun v m => zi_I m ∧ zfr [(15, 3), (15, 54), (83, 0), (84, 0)] m0 m ∧ ((-9223372036854775808) ≤ v ∧ v ≤ 9223372036854775807) ∧ (0 ≤ m a0 2 ∧ m a0 2 ≤ 0)) := by
  have hFm0 : zfr [(15, 3), (15, 54), (83, 0), (84, 0)] m0 m0 := zfr_rf _ _
  refine zw_eq (zr_147_0 n a0 a1 a2 a3 m0) ?_
  generalize hmm1 : zu_up m0 a0 2 0 = m1
  have hIm1 := zi_up hmm1 hIm0 hc0 zb_15_2 (by omega) (by omega)
  have hFm1 := zfr_up hmm1 hFm0 hc0 rfl
  refine zw_bd (zw_eq (zr_83_0 n a1 0 3 m1) ?_)
  refine zw_ite (fun h2 => ?_) (fun h2 => ?_)
  · refine zw_b (by omega) ?_
    refine zw_some ?_
    refine zw_ite (fun h3 => ?_) (fun h3 => ?_)
    · exfalso; omega
    · have r4 : (-2147483648) ≤ (m1 a0 2) ∧ (m1 a0 2) ≤ 2147483647 := zi_rd hIm1 hc0 zb_15_2
      have e5 : (m1 a0 2) = 0 := (zs_eq hmm1)
      exact zw_some ⟨hIm1, hFm1, ⟨by omega, by omega⟩, ⟨by omega, by omega⟩⟩
  · refine zw_ite (fun h6 => ?_) (fun h6 => ?_)
    · refine zw_b (by omega) ?_
      refine zw_some ?_
      refine zw_ite (fun h7 => ?_) (fun h7 => ?_)
      · exfalso; omega
      · have r8 : (-2147483648) ≤ (m1 a0 2) ∧ (m1 a0 2) ≤ 2147483647 := zi_rd hIm1 hc0 zb_15_2
        have e9 : (m1 a0 2) = 0 := (zs_eq hmm1)
        exact zw_some ⟨hIm1, hFm1, ⟨by omega, by omega⟩, ⟨by omega, by omega⟩⟩
    · refine zw_b (by omega) ?_
      refine zw_some ?_
      refine zw_ite (fun h10 => ?_) (fun h10 => ?_)
      · refine zw_ite (fun h11 => ?_) (fun h11 => ?_)
        · refine zw_ite (fun h12 => ?_) (fun h12 => ?_)
          · refine zw_bd (zw_eq (zr_124_0 n a0 a2 m1) ?_)
            refine zw_ite (fun h13 => ?_) (fun h13 => ?_)
            · refine zw_b (by omega) ?_
              refine zw_some ?_
              refine zw_ite (fun h14 => ?_) (fun h14 => ?_)
              · exfalso; omega
              · have r15 : (-2147483648) ≤ (m1 a0 2) ∧ (m1 a0 2) ≤ 2147483647 := zi_rd hIm1 hc0 zb_15_2
                have e16 : (m1 a0 2) = 0 := (zs_eq hmm1)
                exact zw_some ⟨hIm1, hFm1, ⟨by omega, by omega⟩, ⟨by omega, by omega⟩⟩
            · have b17 : 0 ≤ (0 : Int) ∧ (0 : Int) < 2 := by omega
              refine zw_if b17 ?_
              have r18 : 0 ≤ (m1 216 0) ∧ (m1 216 0) ≤ 16 := zi_rdr (m := 2) (r0 := 0) (r1 := 0) hIm1 zq_216 (by omega) (by decide +kernel)
              refine zw_ite (fun h19 => ?_) (fun h19 => ?_)
              · refine zw_b (by omega) ?_
                refine zw_some ?_
                refine zw_ite (fun h20 => ?_) (fun h20 => ?_)
                · exfalso; omega
                · have r21 : (-2147483648) ≤ (m1 a0 2) ∧ (m1 a0 2) ≤ 2147483647 := zi_rd hIm1 hc0 zb_15_2
                  have e22 : (m1 a0 2) = 0 := (zs_eq hmm1)
                  exact zw_some ⟨hIm1, hFm1, ⟨by omega, by omega⟩, ⟨by omega, by omega⟩⟩
              · refine zw_b (by omega) ?_
                refine zw_some ?_
                refine zw_ite (fun h23 => ?_) (fun h23 => ?_)
                · refine zw_ite (fun h24 => ?_) (fun h24 => ?_)
                  · refine zw_ite (fun h25 => ?_) (fun h25 => ?_)
                    · refine zw_ite (fun h26 => ?_) (fun h26 => ?_)
                      · have b27 : 0 ≤ (3 : Int) ∧ (3 : Int) < 8 := by omega
                        refine zw_if b27 ?_
                        have r28 : 0 ≤ (m1 205 3) ∧ (m1 205 3) ≤ 1 := zi_rd hIm1 zq_205 (zb_75 _)
                        refine zw_ite (fun h29 => ?_) (fun h29 => ?_)
                        · refine zw_ite (fun h30 => ?_) (fun h30 => ?_)
                          · refine zw_ite (fun h31 => ?_) (fun h31 => ?_)
                            · have b32 : 0 ≤ a2 ∧ a2 < 36 := by omega
                              refine zw_if b32 ?_
                              have r33 : 0 ≤ (m1 199 a2) ∧ (m1 199 a2) ≤ 9 := zi_rd hIm1 zq_199 (zb_69 _)
                              have b34 : 0 ≤ a2 ∧ a2 < 36 := by omega
                              refine zw_if b34 ?_
                              have r35 : 0 ≤ (m1 197 a2) ∧ (m1 197 a2) ≤ 47 := zi_rd hIm1 zq_197 (zb_67 _)
                              have b36 : 0 ≤ a2 ∧ a2 < 36 := by omega
                              refine zw_if b36 ?_
                              have r37 : 0 ≤ (m1 198 a2) ∧ (m1 198 a2) ≤ 3 := zi_rd hIm1 zq_198 (zb_68 _)
                              have b38 : 0 ≤ (0 : Int) ∧ (0 : Int) < 2 := by omega
                              refine zw_if b38 ?_
                              have r39 : (-2147483648) ≤ (m1 221 0) ∧ (m1 221 0) ≤ 2147483647 := zi_rd hIm1 zq_221 (zb_91 _)
                              refine zw_bd (zw_mono (zk_38 n hIm1 hc0 ⟨by omega, by omega⟩ ⟨by omega, by omega⟩ ⟨by omega, by omega⟩ ⟨by omega, by omega⟩ ⟨by omega, by omega⟩ ⟨by omega, by omega⟩) (fun v41 m40 hqm40 => ?_))
                              obtain ⟨hIm40, hfm40, hvm40⟩ := hqm40
                              have hFm40 := zfr_tr hFm1 hfm40 rfl
                              refine zw_bd (zw_mono (zk_127 n hIm40 hc0 ⟨by omega, by omega⟩) (fun v43 m42 hqm42 => ?_))
                              obtain ⟨hIm42, hfm42, hvm42⟩ := hqm42
                              have hFm42 := zfr_tr hFm40 hfm42 rfl
                              have r44 : 0 ≤ (m42 a0 53) ∧ (m42 a0 53) ≤ 1 := zi_rd hIm42 hc0 zb_15_53
                              refine zw_ite (fun h45 => ?_) (fun h45 => ?_)
                              · have r46 : (-2147483648) ≤ (m42 a0 2) ∧ (m42 a0 2) ≤ 2147483647 := zi_rd hIm42 hc0 zb_15_2
                                have e47 : (m42 a0 2) = 0 := (Eq.trans (zfr_ap hfm42 hc0 rfl) (Eq.trans (zfr_ap hfm40 hc0 rfl) (zs_eq hmm1)))
                                exact zw_some ⟨hIm42, hFm42, ⟨by omega, by omega⟩, ⟨by omega, by omega⟩⟩
                              · have r48 : (-2147483648) ≤ (m42 a0 2) ∧ (m42 a0 2) ≤ 2147483647 := zi_rd hIm42 hc0 zb_15_2
                                have e49 : (m42 a0 2) = 0 := (Eq.trans (zfr_ap hfm42 hc0 rfl) (Eq.trans (zfr_ap hfm40 hc0 rfl) (zs_eq hmm1)))
                                exact zw_some ⟨hIm42, hFm42, ⟨by omega, by omega⟩, ⟨by omega, by omega⟩⟩
                            · exfalso; omega
                          · exfalso; omega
                        · have r50 : (-2147483648) ≤ (m1 a0 2) ∧ (m1 a0 2) ≤ 2147483647 := zi_rd hIm1 hc0 zb_15_2
                          have e51 : (m1 a0 2) = 0 := (zs_eq hmm1)
                          exact zw_some ⟨hIm1, hFm1, ⟨by omega, by omega⟩, ⟨by omega, by omega⟩⟩
                      · exfalso; omega
                    · exfalso; omega
                  · exfalso; omega
                · exfalso; omega
          · refine zw_bd (zw_eq (zr_123_0 n a0 a2 m1) ?_)
            refine zw_ite (fun h52 => ?_) (fun h52 => ?_)
            · refine zw_b (by omega) ?_
              refine zw_some ?_
              refine zw_ite (fun h53 => ?_) (fun h53 => ?_)
              · exfalso; omega
              · have r54 : (-2147483648) ≤ (m1 a0 2) ∧ (m1 a0 2) ≤ 2147483647 := zi_rd hIm1 hc0 zb_15_2
                have e55 : (m1 a0 2) = 0 := (zs_eq hmm1)
                exact zw_some ⟨hIm1, hFm1, ⟨by omega, by omega⟩, ⟨by omega, by omega⟩⟩
            · refine zw_bd (zw_eq (zr_36_0 n a0 m1) ?_)
              have r56 : 1 ≤ (m1 a0 12) ∧ (m1 a0 12) ≤ 8 := zi_rd hIm1 hc0 zb_15_12
              have r57 : 1 ≤ (m1 a0 13) ∧ (m1 a0 13) ≤ 6 := zi_rd hIm1 hc0 zb_15_13
              have p58 := zmul_bd (x := (m1 a0 12)) (y := (m1 a0 13)) (a := 1) (b := 1) (A := 8) (B := 6) (by omega) (by omega) (by omega) (by omega) (by omega) (by omega)
              have w59 := zu_w32_id (z := (m1 a0 12) * (m1 a0 13)) (by omega) (by omega)
              refine zw_some ?_
              refine zw_ite (fun h60 => ?_) (fun h60 => ?_)
              · refine zw_b (by omega) ?_
                refine zw_some ?_
                refine zw_ite (fun h61 => ?_) (fun h61 => ?_)
                · exfalso; omega
                · have r62 : (-2147483648) ≤ (m1 a0 2) ∧ (m1 a0 2) ≤ 2147483647 := zi_rd hIm1 hc0 zb_15_2
                  have e63 : (m1 a0 2) = 0 := (zs_eq hmm1)
                  exact zw_some ⟨hIm1, hFm1, ⟨by omega, by omega⟩, ⟨by omega, by omega⟩⟩
              · refine zw_b (by omega) ?_
                refine zw_some ?_
                refine zw_ite (fun h64 => ?_) (fun h64 => ?_)
                · refine zw_ite (fun h65 => ?_) (fun h65 => ?_)
                  · refine zw_ite (fun h66 => ?_) (fun h66 => ?_)
                    · refine zw_ite (fun h67 => ?_) (fun h67 => ?_)
                      · exfalso; omega
                      · have b68 : 0 ≤ (1 : Int) ∧ (1 : Int) < 8 := by omega
                        refine zw_if b68 ?_
                        have r69 : 0 ≤ (m1 205 1) ∧ (m1 205 1) ≤ 1 := zi_rd hIm1 zq_205 (zb_75 _)
                        refine zw_ite (fun h70 => ?_) (fun h70 => ?_)
                        · refine zw_ite (fun h71 => ?_) (fun h71 => ?_)
                          · refine zw_ite (fun h72 => ?_) (fun h72 => ?_)
                            · exfalso; omega
                            · refine zw_bd (zw_mono (zk_38 n hIm1 hc0 ⟨by omega, by omega⟩ ⟨by omega, by omega⟩ ⟨by omega, by omega⟩ ⟨by omega, by omega⟩ ⟨by omega, by omega⟩ ⟨by omega, by omega⟩) (fun v74 m73 hqm73 => ?_))
                              obtain ⟨hIm73, hfm73, hvm73⟩ := hqm73
                              have hFm73 := zfr_tr hFm1 hfm73 rfl
                              refine zw_bd (zw_mono (zk_127 n hIm73 hc0 ⟨by omega, by omega⟩) (fun v76 m75 hqm75 => ?_))
                              obtain ⟨hIm75, hfm75, hvm75⟩ := hqm75
                              have hFm75 := zfr_tr hFm73 hfm75 rfl
                              have r77 : 0 ≤ (m75 a0 53) ∧ (m75 a0 53) ≤ 1 := zi_rd hIm75 hc0 zb_15_53
                              refine zw_ite (fun h78 => ?_) (fun h78 => ?_)
                              · have r79 : (-2147483648) ≤ (m75 a0 2) ∧ (m75 a0 2) ≤ 2147483647 := zi_rd hIm75 hc0 zb_15_2
                                have e80 : (m75 a0 2) = 0 := (Eq.trans (zfr_ap hfm75 hc0 rfl) (Eq.trans (zfr_ap hfm73 hc0 rfl) (zs_eq hmm1)))
                                exact zw_some ⟨hIm75, hFm75, ⟨by omega, by omega⟩, ⟨by omega, by omega⟩⟩
                              · have r81 : (-2147483648) ≤ (m75 a0 2) ∧ (m75 a0 2) ≤ 2147483647 := zi_rd hIm75 hc0 zb_15_2
                                have e82 : (m75 a0 2) = 0 := (Eq.trans (zfr_ap hfm75 hc0 rfl) (Eq.trans (zfr_ap hfm73 hc0 rfl) (zs_eq hmm1)))
                                exact zw_some ⟨hIm75, hFm75, ⟨by omega, by omega⟩, ⟨by omega, by omega⟩⟩
                          · exfalso; omega
                        · have r83 : (-2147483648) ≤ (m1 a0 2) ∧ (m1 a0 2) ≤ 2147483647 := zi_rd hIm1 hc0 zb_15_2
                          have e84 : (m1 a0 2) = 0 := (zs_eq hmm1)
                          exact zw_some ⟨hIm1, hFm1, ⟨by omega, by omega⟩, ⟨by omega, by omega⟩⟩
                    · exfalso; omega
                  · exfalso; omega
                · exfalso; omega
        · refine zw_bd (zw_eq (zr_125_0 n a0 a2 m1) ?_)
          refine zw_ite (fun h85 => ?_) (fun h85 => ?_)
          · refine zw_b (by omega) ?_
            refine zw_some ?_
            refine zw_ite (fun h86 => ?_) (fun h86 => ?_)
            · have r87 : (-2147483648) ≤ (m1 a0 2) ∧ (m1 a0 2) ≤ 2147483647 := zi_rd hIm1 hc0 zb_15_2
              have e88 : (m1 a0 2) = 0 := (zs_eq hmm1)
              exact zw_some ⟨hIm1, hFm1, ⟨by omega, by omega⟩, ⟨by omega, by omega⟩⟩
            · exfalso; omega
          · have r89 : 0 ≤ (m1 a0 15) ∧ (m1 a0 15) ≤ 4 := zi_rd hIm1 hc0 zb_15_15
            refine zw_ite (fun h90 => ?_) (fun h90 => ?_)
            · refine zw_b (by omega) ?_
              refine zw_some ?_
              refine zw_ite (fun h91 => ?_) (fun h91 => ?_)
              · have r92 : (-2147483648) ≤ (m1 a0 2) ∧ (m1 a0 2) ≤ 2147483647 := zi_rd hIm1 hc0 zb_15_2
                have e93 : (m1 a0 2) = 0 := (zs_eq hmm1)
                exact zw_some ⟨hIm1, hFm1, ⟨by omega, by omega⟩, ⟨by omega, by omega⟩⟩
              · exfalso; omega
            · refine zw_b (by omega) ?_
              refine zw_some ?_
              refine zw_ite (fun h94 => ?_) (fun h94 => ?_)
              · exfalso; omega
              · refine zw_bd (zw_eq (zr_124_0 n a0 a3 m1) ?_)
                refine zw_ite (fun h95 => ?_) (fun h95 => ?_)
                · refine zw_b (by omega) ?_
                  refine zw_some ?_
                  refine zw_ite (fun h96 => ?_) (fun h96 => ?_)
                  · exfalso; omega
                  · have r97 : (-2147483648) ≤ (m1 a0 2) ∧ (m1 a0 2) ≤ 2147483647 := zi_rd hIm1 hc0 zb_15_2
                    have e98 : (m1 a0 2) = 0 := (zs_eq hmm1)
                    exact zw_some ⟨hIm1, hFm1, ⟨by omega, by omega⟩, ⟨by omega, by omega⟩⟩
                · have b99 : 0 ≤ (0 : Int) ∧ (0 : Int) < 2 := by omega
                  refine zw_if b99 ?_
                  have r100 : 0 ≤ (m1 216 0) ∧ (m1 216 0) ≤ 16 := zi_rdr (m := 2) (r0 := 0) (r1 := 0) hIm1 zq_216 (by omega) (by decide +kernel)
                  refine zw_ite (fun h101 => ?_) (fun h101 => ?_)
                  · refine zw_b (by omega) ?_
                    refine zw_some ?_
                    refine zw_ite (fun h102 => ?_) (fun h102 => ?_)
                    · exfalso; omega
                    · have r103 : (-2147483648) ≤ (m1 a0 2) ∧ (m1 a0 2) ≤ 2147483647 := zi_rd hIm1 hc0 zb_15_2
                      have e104 : (m1 a0 2) = 0 := (zs_eq hmm1)
                      exact zw_some ⟨hIm1, hFm1, ⟨by omega, by omega⟩, ⟨by omega, by omega⟩⟩
                  · refine zw_b (by omega) ?_
                    refine zw_some ?_
                    refine zw_ite (fun h105 => ?_) (fun h105 => ?_)
                    · refine zw_ite (fun h106 => ?_) (fun h106 => ?_)
                      · refine zw_ite (fun h107 => ?_) (fun h107 => ?_)
                        · exfalso; omega
                        · have b108 : 0 ≤ (2 : Int) ∧ (2 : Int) < 8 := by omega
                          refine zw_if b108 ?_
                          have r109 : 0 ≤ (m1 205 2) ∧ (m1 205 2) ≤ 1 := zi_rd hIm1 zq_205 (zb_75 _)
                          refine zw_ite (fun h110 => ?_) (fun h110 => ?_)
                          · refine zw_ite (fun h111 => ?_) (fun h111 => ?_)
                            · exfalso; omega
                            · have b112 : 0 ≤ a2 ∧ a2 < 8 := by omega
                              refine zw_if b112 ?_
                              have r113 : 0 ≤ (m1 202 a2) ∧ (m1 202 a2) ≤ 15 := zi_rd hIm1 zq_202 (zb_72 _)
                              have b114 : 0 ≤ a3 ∧ a3 < 36 := by omega
                              refine zw_if b114 ?_
                              have r115 : 0 ≤ (m1 199 a3) ∧ (m1 199 a3) ≤ 9 := zi_rd hIm1 zq_199 (zb_69 _)
                              have b116 : 0 ≤ a3 ∧ a3 < 36 := by omega
                              refine zw_if b116 ?_
                              have r117 : 0 ≤ (m1 197 a3) ∧ (m1 197 a3) ≤ 47 := zi_rd hIm1 zq_197 (zb_67 _)
                              have b118 : 0 ≤ a3 ∧ a3 < 36 := by omega
                              refine zw_if b118 ?_
                              have r119 : 0 ≤ (m1 198 a3) ∧ (m1 198 a3) ≤ 3 := zi_rd hIm1 zq_198 (zb_68 _)
                              have b120 : 0 ≤ a3 ∧ a3 < 36 := by omega
                              refine zw_if b120 ?_
                              refine zw_nif (by omega) ?_
                              have d121 : Int.tmod a2 4 = a2 % 4 := Int.tmod_eq_emod_of_nonneg (by omega)
                              refine zw_ite (fun h122 => ?_) (fun h122 => ?_)
                              · refine zw_ite (fun h123 => ?_) (fun h123 => ?_)
                                · refine zw_bd (zw_mono (zk_38 n hIm1 hc0 ⟨by omega, by omega⟩ ⟨by omega, by omega⟩ ⟨by omega, by omega⟩ ⟨by omega, by omega⟩ ⟨by omega, by omega⟩ ⟨by omega, by omega⟩) (fun v125 m124 hqm124 => ?_))
                                  obtain ⟨hIm124, hfm124, hvm124⟩ := hqm124
                                  have hFm124 := zfr_tr hFm1 hfm124 rfl
                                  refine zw_bd (zw_mono (zk_127 n hIm124 hc0 ⟨by omega, by omega⟩) (fun v127 m126 hqm126 => ?_))
                                  obtain ⟨hIm126, hfm126, hvm126⟩ := hqm126
                                  have hFm126 := zfr_tr hFm124 hfm126 rfl
                                  have r128 : 0 ≤ (m126 a0 53) ∧ (m126 a0 53) ≤ 1 := zi_rd hIm126 hc0 zb_15_53
                                  refine zw_ite (fun h129 => ?_) (fun h129 => ?_)
                                  · have r130 : (-2147483648) ≤ (m126 a0 2) ∧ (m126 a0 2) ≤ 2147483647 := zi_rd hIm126 hc0 zb_15_2
                                    have e131 : (m126 a0 2) = 0 := (Eq.trans (zfr_ap hfm126 hc0 rfl) (Eq.trans (zfr_ap hfm124 hc0 rfl) (zs_eq hmm1)))
                                    exact zw_some ⟨hIm126, hFm126, ⟨by omega, by omega⟩, ⟨by omega, by omega⟩⟩
                                  · have r132 : (-2147483648) ≤ (m126 a0 2) ∧ (m126 a0 2) ≤ 2147483647 := zi_rd hIm126 hc0 zb_15_2
                                    have e133 : (m126 a0 2) = 0 := (Eq.trans (zfr_ap hfm126 hc0 rfl) (Eq.trans (zfr_ap hfm124 hc0 rfl) (zs_eq hmm1)))
                                    exact zw_some ⟨hIm126, hFm126, ⟨by omega, by omega⟩, ⟨by omega, by omega⟩⟩
                                · exfalso; omega
                              · refine zw_ite (fun h134 => ?_) (fun h134 => ?_)
                                · refine zw_bd (zw_mono (zk_38 n hIm1 hc0 ⟨by omega, by omega⟩ ⟨by omega, by omega⟩ ⟨by omega, by omega⟩ ⟨by omega, by omega⟩ ⟨by omega, by omega⟩ ⟨by omega, by omega⟩) (fun v136 m135 hqm135 => ?_))
                                  obtain ⟨hIm135, hfm135, hvm135⟩ := hqm135
                                  have hFm135 := zfr_tr hFm1 hfm135 rfl
                                  refine zw_bd (zw_mono (zk_127 n hIm135 hc0 ⟨by omega, by omega⟩) (fun v138 m137 hqm137 => ?_))
                                  obtain ⟨hIm137, hfm137, hvm137⟩ := hqm137
                                  have hFm137 := zfr_tr hFm135 hfm137 rfl
                                  have r139 : 0 ≤ (m137 a0 53) ∧ (m137 a0 53) ≤ 1 := zi_rd hIm137 hc0 zb_15_53
                                  refine zw_ite (fun h140 => ?_) (fun h140 => ?_)
                                  · have r141 : (-2147483648) ≤ (m137 a0 2) ∧ (m137 a0 2) ≤ 2147483647 := zi_rd hIm137 hc0 zb_15_2
                                    have e142 : (m137 a0 2) = 0 := (Eq.trans (zfr_ap hfm137 hc0 rfl) (Eq.trans (zfr_ap hfm135 hc0 rfl) (zs_eq hmm1)))
                                    exact zw_some ⟨hIm137, hFm137, ⟨by omega, by omega⟩, ⟨by omega, by omega⟩⟩
                                  · have r143 : (-2147483648) ≤ (m137 a0 2) ∧ (m137 a0 2) ≤ 2147483647 := zi_rd hIm137 hc0 zb_15_2
                                    have e144 : (m137 a0 2) = 0 := (Eq.trans (zfr_ap hfm137 hc0 rfl) (Eq.trans (zfr_ap hfm135 hc0 rfl) (zs_eq hmm1)))
                                    exact zw_some ⟨hIm137, hFm137, ⟨by omega, by omega⟩, ⟨by omega, by omega⟩⟩
                                · exfalso; omega
                          · have r145 : (-2147483648) ≤ (m1 a0 2) ∧ (m1 a0 2) ≤ 2147483647 := zi_rd hIm1 hc0 zb_15_2
                            have e146 : (m1 a0 2) = 0 := (zs_eq hmm1)
                            exact zw_some ⟨hIm1, hFm1, ⟨by omega, by omega⟩, ⟨by omega, by omega⟩⟩
                      · have b147 : 0 ≤ (0 : Int) ∧ (0 : Int) < 8 := by omega
                        refine zw_if b147 ?_
                        have r148 : 0 ≤ (m1 205 0) ∧ (m1 205 0) ≤ 1 := zi_rd hIm1 zq_205 (zb_75 _)
                        refine zw_ite (fun h149 => ?_) (fun h149 => ?_)
                        · refine zw_ite (fun h150 => ?_) (fun h150 => ?_)
                          · exfalso; omega
                          · have b151 : 0 ≤ a2 ∧ a2 < 8 := by omega
                            refine zw_if b151 ?_
                            have r152 : 0 ≤ (m1 202 a2) ∧ (m1 202 a2) ≤ 15 := zi_rd hIm1 zq_202 (zb_72 _)
                            have b153 : 0 ≤ a3 ∧ a3 < 36 := by omega
                            refine zw_if b153 ?_
                            have r154 : 0 ≤ (m1 199 a3) ∧ (m1 199 a3) ≤ 9 := zi_rd hIm1 zq_199 (zb_69 _)
                            have b155 : 0 ≤ a3 ∧ a3 < 36 := by omega
                            refine zw_if b155 ?_
                            have r156 : 0 ≤ (m1 197 a3) ∧ (m1 197 a3) ≤ 47 := zi_rd hIm1 zq_197 (zb_67 _)
                            have b157 : 0 ≤ a3 ∧ a3 < 36 := by omega
                            refine zw_if b157 ?_
                            have r158 : 0 ≤ (m1 198 a3) ∧ (m1 198 a3) ≤ 3 := zi_rd hIm1 zq_198 (zb_68 _)
                            have b159 : 0 ≤ a3 ∧ a3 < 36 := by omega
                            refine zw_if b159 ?_
                            refine zw_nif (by omega) ?_
                            have d160 : Int.tmod a2 4 = a2 % 4 := Int.tmod_eq_emod_of_nonneg (by omega)
                            refine zw_ite (fun h161 => ?_) (fun h161 => ?_)
                            · refine zw_ite (fun h162 => ?_) (fun h162 => ?_)
                              · exfalso; omega
                              · refine zw_bd (zw_mono (zk_130 n hIm1 hc0 ⟨by omega, by omega⟩ ⟨by omega, by omega⟩) (fun v164 m163 hqm163 => ?_))
                                obtain ⟨hIm163, hfm163, hvm163⟩ := hqm163
                                have hFm163 := zfr_tr hFm1 hfm163 rfl
                                refine zw_bd (zw_mono (zk_38 n hIm163 hc0 ⟨by omega, by omega⟩ ⟨by omega, by omega⟩ ⟨by omega, by omega⟩ ⟨by omega, by omega⟩ ⟨by omega, by omega⟩ ⟨by omega, by omega⟩) (fun v166 m165 hqm165 => ?_))
                                obtain ⟨hIm165, hfm165, hvm165⟩ := hqm165
                                have hFm165 := zfr_tr hFm163 hfm165 rfl
                                refine zw_bd (zw_mono (zk_127 n hIm165 hc0 ⟨by omega, by omega⟩) (fun v168 m167 hqm167 => ?_))
                                obtain ⟨hIm167, hfm167, hvm167⟩ := hqm167
                                have hFm167 := zfr_tr hFm165 hfm167 rfl
                                have r169 : 0 ≤ (m167 a0 53) ∧ (m167 a0 53) ≤ 1 := zi_rd hIm167 hc0 zb_15_53
                                refine zw_ite (fun h170 => ?_) (fun h170 => ?_)
                                · have r171 : (-2147483648) ≤ (m167 a0 2) ∧ (m167 a0 2) ≤ 2147483647 := zi_rd hIm167 hc0 zb_15_2
                                  have e172 : (m167 a0 2) = 0 := (Eq.trans (zfr_ap hfm167 hc0 rfl) (Eq.trans (zfr_ap hfm165 hc0 rfl) (Eq.trans (zfr_ap hfm163 hc0 rfl) (zs_eq hmm1))))
                                  exact zw_some ⟨hIm167, hFm167, ⟨by omega, by omega⟩, ⟨by omega, by omega⟩⟩
                                · have r173 : (-2147483648) ≤ (m167 a0 2) ∧ (m167 a0 2) ≤ 2147483647 := zi_rd hIm167 hc0 zb_15_2
                                  have e174 : (m167 a0 2) = 0 := (Eq.trans (zfr_ap hfm167 hc0 rfl) (Eq.trans (zfr_ap hfm165 hc0 rfl) (Eq.trans (zfr_ap hfm163 hc0 rfl) (zs_eq hmm1))))
                                  exact zw_some ⟨hIm167, hFm167, ⟨by omega, by omega⟩, ⟨by omega, by omega⟩⟩
                            · refine zw_ite (fun h175 => ?_) (fun h175 => ?_)
                              · exfalso; omega
                              · refine zw_bd (zw_mono (zk_130 n hIm1 hc0 ⟨by omega, by omega⟩ ⟨by omega, by omega⟩) (fun v177 m176 hqm176 => ?_))
                                obtain ⟨hIm176, hfm176, hvm176⟩ := hqm176
                                have hFm176 := zfr_tr hFm1 hfm176 rfl
                                refine zw_bd (zw_mono (zk_38 n hIm176 hc0 ⟨by omega, by omega⟩ ⟨by omega, by omega⟩ ⟨by omega, by omega⟩ ⟨by omega, by omega⟩ ⟨by omega, by omega⟩ ⟨by omega, by omega⟩) (fun v179 m178 hqm178 => ?_))
                                obtain ⟨hIm178, hfm178, hvm178⟩ := hqm178
                                have hFm178 := zfr_tr hFm176 hfm178 rfl
                                refine zw_bd (zw_mono (zk_127 n hIm178 hc0 ⟨by omega, by omega⟩) (fun v181 m180 hqm180 => ?_))
                                obtain ⟨hIm180, hfm180, hvm180⟩ := hqm180
                                have hFm180 := zfr_tr hFm178 hfm180 rfl
                                have r182 : 0 ≤ (m180 a0 53) ∧ (m180 a0 53) ≤ 1 := zi_rd hIm180 hc0 zb_15_53
                                refine zw_ite (fun h183 => ?_) (fun h183 => ?_)
                                · have r184 : (-2147483648) ≤ (m180 a0 2) ∧ (m180 a0 2) ≤ 2147483647 := zi_rd hIm180 hc0 zb_15_2
                                  have e185 : (m180 a0 2) = 0 := (Eq.trans (zfr_ap hfm180 hc0 rfl) (Eq.trans (zfr_ap hfm178 hc0 rfl) (Eq.trans (zfr_ap hfm176 hc0 rfl) (zs_eq hmm1))))
                                  exact zw_some ⟨hIm180, hFm180, ⟨by omega, by omega⟩, ⟨by omega, by omega⟩⟩
                                · have r186 : (-2147483648) ≤ (m180 a0 2) ∧ (m180 a0 2) ≤ 2147483647 := zi_rd hIm180 hc0 zb_15_2
                                  have e187 : (m180 a0 2) = 0 := (Eq.trans (zfr_ap hfm180 hc0 rfl) (Eq.trans (zfr_ap hfm178 hc0 rfl) (Eq.trans (zfr_ap hfm176 hc0 rfl) (zs_eq hmm1))))
                                  exact zw_some ⟨hIm180, hFm180, ⟨by omega, by omega⟩, ⟨by omega, by omega⟩⟩
                        · have r188 : (-2147483648) ≤ (m1 a0 2) ∧ (m1 a0 2) ≤ 2147483647 := zi_rd hIm1 hc0 zb_15_2
                          have e189 : (m1 a0 2) = 0 := (zs_eq hmm1)
                          exact zw_some ⟨hIm1, hFm1, ⟨by omega, by omega⟩, ⟨by omega, by omega⟩⟩
                    · exfalso; omega
      · exfalso; omega
set_option maxHeartbeats 4000000 in
theorem zk_157 (n : Nat) {a0 a1 : Int} {m0 : zu_m} (hIm0 : zi_I m0) (hc0 : zcls a0 = 15) (ha1 : (-2147483648) ≤ a1 ∧ a1 ≤ 2147483647)    : zw (zu_call (zt_T n) 157 [(40, a0), (0, a1)] m0) (fun v m => zi_I m ∧ zfr [(15, 3), (15, 65), (15, 66), (15, 67), (15, 68), (15, 69), (15, 70), (93, 0)] m0 m ∧ ((-1) ≤ v ∧ v ≤ 47) ∧ (0 ≤ m a0 2 ∧ m a0 2 ≤ 0)) := by
  have hFm0 : zfr [(15, 3), (15, 65), (15, 66), (15, 67), (15, 68), (15, 69), (15, 70), (93, 0)] m0 m0 := zfr_rf _ _
  refine zw_eq (zr_157_0 n a0 a1 m0) ?_
  generalize hmm1 : zu_up m0 a0 2 0 = m1
  have hIm1 := zi_up hmm1 hIm0 hc0 zb_15_2 (by omega) (by omega)
  have hFm1 := zfr_up hmm1 hFm0 hc0 rfl
  refine zw_bd (zw_eq (zr_125_0 n a0 a1 m1) ?_)
  refine zw_ite (fun h2 => ?_) (fun h2 => ?_)
  · refine zw_b (by omega) ?_
    refine zw_some ?_
    refine zw_ite (fun h3 => ?_) (fun h3 => ?_)
    · exfalso; omega
    · have r4 : (-2147483648) ≤ (m1 a0 2) ∧ (m1 a0 2) ≤ 2147483647 := zi_rd hIm1 hc0 zb_15_2
      have e5 : (m1 a0 2) = 0 := (zs_eq hmm1)
      exact zw_some ⟨hIm1, hFm1, ⟨by omega, by omega⟩, ⟨by omega, by omega⟩⟩
  · have r6 : 0 ≤ (m1 a0 15) ∧ (m1 a0 15) ≤ 4 := zi_rd hIm1 hc0 zb_15_15
    refine zw_ite (fun h7 => ?_) (fun h7 => ?_)
    · refine zw_b (by omega) ?_
      refine zw_some ?_
      refine zw_ite (fun h8 => ?_) (fun h8 => ?_)
      · exfalso; omega
      · have r9 : (-2147483648) ≤ (m1 a0 2) ∧ (m1 a0 2) ≤ 2147483647 := zi_rd hIm1 hc0 zb_15_2
        have e10 : (m1 a0 2) = 0 := (zs_eq hmm1)
        exact zw_some ⟨hIm1, hFm1, ⟨by omega, by omega⟩, ⟨by omega, by omega⟩⟩
    · refine zw_b (by omega) ?_
      refine zw_some ?_
      refine zw_ite (fun h11 => ?_) (fun h11 => ?_)
      · refine zw_bd (zw_mono (zk_156 n hIm1 hc0) (fun v13 m12 hqm12 => ?_))
        obtain ⟨hIm12, hfm12, hvm12⟩ := hqm12
        have hFm12 := zfr_tr hFm1 hfm12 rfl
        have b14 : 0 ≤ a1 ∧ a1 < 8 := by omega
        refine zw_if b14 ?_
        have r15 : 0 ≤ (m12 217 a1) ∧ (m12 217 a1) ≤ 47 := zi_rd hIm12 zq_217 (zb_87 _)
        refine zw_bd (zw_mono (zk_155 n hIm12 hc0 ⟨by omega, by omega⟩ ⟨by omega, by omega⟩) (fun v17 m16 hqm16 => ?_))
        obtain ⟨hIm16, hfm16, hvm16⟩ := hqm16
        have hFm16 := zfr_tr hFm12 hfm16 rfl
        have r18 : (-2147483648) ≤ (m16 a0 2) ∧ (m16 a0 2) ≤ 2147483647 := zi_rd hIm16 hc0 zb_15_2
        have e19 : (m16 a0 2) = 0 := (Eq.trans (zfr_ap hfm16 hc0 rfl) (Eq.trans (zfr_ap hfm12 hc0 rfl) (zs_eq hmm1)))
        exact zw_some ⟨hIm16, hFm16, ⟨by omega, by omega⟩, ⟨by omega, by omega⟩⟩
      · exfalso; omega
set_option maxHeartbeats 4000000 in
theorem zk_170 (n : Nat) {a0 : Int} {m0 : zu_m} (hIm0 : zi_I m0) (hc0 : zcls a0 = 15)     : zw (zu_call (zt_T n) 170 [(40, a0)] m0) (fun v m => zi_I m ∧ zfr [(15, 3), (15, 76), (94, 0)] m0 m ∧ ((-2147483648) ≤ v ∧ v ≤ 2147483647) ∧ (0 ≤ m a0 2 ∧ m a0 2 ≤ 0)) := by
  have hFm0 : zfr [(15, 3), (15, 76), (94, 0)] m0 m0 := zfr_rf _ _
  refine zw_eq (zr_170_0 n a0 m0) ?_
  generalize hmm1 : zu_up m0 a0 2 0 = m1
  have hIm1 := zi_up hmm1 hIm0 hc0 zb_15_2 (by omega) (by omega)
  have hFm1 := zfr_up hmm1 hFm0 hc0 rfl
  refine zw_bd (zw_mono (zk_169 n hIm1 hc0 ⟨by omega, by omega⟩) (fun v3 m2 hqm2 => ?_))
  obtain ⟨hIm2, hfm2, hvm2⟩ := hqm2
  have hFm2 := zfr_tr hFm1 hfm2 rfl
  have r4 : (-2147483648) ≤ (m2 a0 2) ∧ (m2 a0 2) ≤ 2147483647 := zi_rd hIm2 hc0 zb_15_2
  have e5 : (m2 a0 2) = 0 := (Eq.trans (zfr_ap hfm2 hc0 rfl) (zs_eq hmm1))
  exact zw_some ⟨hIm2, hFm2, ⟨by omega, by omega⟩, ⟨by omega, by omega⟩⟩
set_option maxHeartbeats 4000000 in
theorem zk_171 (n : Nat) {a0 a1 : Int} {m0 : zu_m} (hIm0 : zi_I m0) (hc0 : zcls a0 = 15) (ha1 : (-2147483648) ≤ a1 ∧ a1 ≤ 2147483647)    : zw (zu_call (zt_T n) 171 [(40, a0), (0, a1)] m0) (fun v m => zi_I m ∧ zfr [(15, 3), (15, 76), (94, 0)] m0 m ∧ ((-2147483648) ≤ v ∧ v ≤ 2147483647) ∧ (0 ≤ m a0 2 ∧ m a0 2 ≤ 0)) := by
  have hFm0 : zfr [(15, 3), (15, 76), (94, 0)] m0 m0 := zfr_rf _ _
  refine zw_eq (zr_171_0 n a0 a1 m0) ?_
  generalize hmm1 : zu_up m0 a0 2 0 = m1
  have hIm1 := zi_up hmm1 hIm0 hc0 zb_15_2 (by omega) (by omega)
  have hFm1 := zfr_up hmm1 hFm0 hc0 rfl
  refine zw_ite (fun h2 => ?_) (fun h2 => ?_)
  · refine zw_bd (zw_mono (zk_169 n hIm1 hc0 ⟨by omega, by omega⟩) (fun v4 m3 hqm3 => ?_))
    obtain ⟨hIm3, hfm3, hvm3⟩ := hqm3
    have hFm3 := zfr_tr hFm1 hfm3 rfl
    have r5 : (-2147483648) ≤ (m3 a0 2) ∧ (m3 a0 2) ≤ 2147483647 := zi_rd hIm3 hc0 zb_15_2
    have e6 : (m3 a0 2) = 0 := (Eq.trans (zfr_ap hfm3 hc0 rfl) (zs_eq hmm1))
    exact zw_some ⟨hIm3, hFm3, ⟨by omega, by omega⟩, ⟨by omega, by omega⟩⟩
  · have r7 : (-2147483648) ≤ (m1 a0 2) ∧ (m1 a0 2) ≤ 2147483647 := zi_rd hIm1 hc0 zb_15_2
    have e8 : (m1 a0 2) = 0 := (zs_eq hmm1)
    exact zw_some ⟨hIm1, hFm1, ⟨by omega, by omega⟩, ⟨by omega, by omega⟩⟩
set_option maxHeartbeats 4000000 in
theorem zl_198 (n : Nat) {a0 a1 : Int} {m0 : zu_m} (hc0 : zcls a0 = 10)  : ∀ k : Nat, (∀ (x2 : Int) (mh : zu_m), zi_I mh → zfr [(5, 6), (5, 7), (9, 4), (9, 5), (9, 6), (9, 7), (10, 4), (10, 5), (10, 7), (10, 8), (20, 0), (21, 0), (22, 0), (23, 0), (34, 0), (35, 0)] m0 mh → (0 ≤ a1 ∧ a1 ≤ 3) → (0 ≤ x2 ∧ x2 ≤ 701) → (701 - x2) * 1 + 0 < (k : Int) → zw (zu_ex (zt_T n) 198 45 [(24, a0), (0, a1), (0, x2), (2, 0)] [] mh) (fun v m => zi_I m ∧ zfr [(5, 6), (5, 7), (9, 4), (9, 5), (9, 6), (9, 7), (10, 4), (10, 5), (10, 7), (10, 8), (20, 0), (21, 0), (22, 0), (23, 0), (34, 0), (35, 0)] m0 m ∧ (0 ≤ v ∧ v ≤ 2))) := by
  intro k
  induction k with
  | zero => exact fun x2 mh hImh hFmh hba1 hbx2 hM => by exfalso; omega
  | succ k ih =>
    intro x2 mh hImh hFmh hba1 hbx2 hM
    refine zw_eq (zr_198_45 n a0 a1 x2 mh) ?_
    refine zw_ite (fun h1 => ?_) (fun h1 => ?_)
    · exact zw_some ⟨hImh, hFmh, ⟨by omega, by omega⟩⟩
    · refine zw_bd (zw_mono (zk_18 n hImh zq_45) (fun v3 m2 hqm2 => ?_))
      obtain ⟨hIm2, hfm2, hvm2⟩ := hqm2
      have hFm2 := zfr_tr hFmh hfm2 rfl
      have r4 : 0 ≤ (m2 a0 6) ∧ (m2 a0 6) ≤ 1 := zi_rd hIm2 hc0 zb_10_6
      refine zw_ite (fun h5 => ?_) (fun h5 => ?_)
      · refine zw_ite (fun h6 => ?_) (fun h6 => ?_)
        · exfalso; omega
        · refine zw_bd (zw_mono (zk_199 n hIm2 hc0 ⟨by omega, by omega⟩) (fun v8 m7 hqm7 => ?_))
          obtain ⟨hIm7, hfm7, hvm7⟩ := hqm7
          have hFm7 := zfr_tr hFm2 hfm7 rfl
          refine zw_ite (fun h9 => ?_) (fun h9 => ?_)
          · have w10 := zu_w32_id (z := x2 + 1) (by omega) (by omega)
            have hM : (701 - (zu_w32 (x2 + 1))) * 1 + 0 < (k : Int) := by omega
            exact zw_le (zu_forget (zu_lr_same (zu_lr_same (zu_lr_same (zu_lr_drop zu_lr_nil))))) (ih (zu_w32 (x2 + 1)) m7 hIm7 hFm7 ⟨by omega, by omega⟩ ⟨by omega, by omega⟩ hM)
          · exact zw_some ⟨hIm7, hFm7, ⟨by omega, by omega⟩⟩
      · have r11 : 0 ≤ (m2 a0 4) ∧ (m2 a0 4) ≤ 8 := zi_rd hIm2 hc0 zb_10_4
        refine zw_ite (fun h12 => ?_) (fun h12 => ?_)
        · refine zw_ite (fun h13 => ?_) (fun h13 => ?_)
          · refine zw_bd (zw_mono (zk_202 n hIm2 hc0 ⟨by omega, by omega⟩) (fun v15 m14 hqm14 => ?_))
            obtain ⟨hIm14, hfm14, hvm14⟩ := hqm14
            have hFm14 := zfr_tr hFm2 hfm14 rfl
            refine zw_ite (fun h16 => ?_) (fun h16 => ?_)
            · have w17 := zu_w32_id (z := x2 + 1) (by omega) (by omega)
              have hM : (701 - (zu_w32 (x2 + 1))) * 1 + 0 < (k : Int) := by omega
              exact zw_le (zu_forget (zu_lr_same (zu_lr_same (zu_lr_same (zu_lr_drop zu_lr_nil))))) (ih (zu_w32 (x2 + 1)) m14 hIm14 hFm14 ⟨by omega, by omega⟩ ⟨by omega, by omega⟩ hM)
            · exact zw_some ⟨hIm14, hFm14, ⟨by omega, by omega⟩⟩
          · exfalso; omega
        · refine zw_bd (zw_eq (zr_278_0 n 45 0 m2) ?_)
          have r18 : 0 ≤ (m2 45 4) ∧ (m2 45 4) ≤ 5 := zi_rd hIm2 zq_45 zb_9_4
          refine zw_ite (fun h19 => ?_) (fun h19 => ?_)
          · refine zw_b (by omega) ?_
            refine zw_some ?_
            refine zw_ite (fun h20 => ?_) (fun h20 => ?_)
            · refine zw_ite (fun h21 => ?_) (fun h21 => ?_)
              · refine zw_bd (zw_mono (zk_202 n hIm2 hc0 ⟨by omega, by omega⟩) (fun v23 m22 hqm22 => ?_))
                obtain ⟨hIm22, hfm22, hvm22⟩ := hqm22
                have hFm22 := zfr_tr hFm2 hfm22 rfl
                refine zw_ite (fun h24 => ?_) (fun h24 => ?_)
                · have w25 := zu_w32_id (z := x2 + 1) (by omega) (by omega)
                  have hM : (701 - (zu_w32 (x2 + 1))) * 1 + 0 < (k : Int) := by omega
                  exact zw_le (zu_forget (zu_lr_same (zu_lr_same (zu_lr_same (zu_lr_drop zu_lr_nil))))) (ih (zu_w32 (x2 + 1)) m22 hIm22 hFm22 ⟨by omega, by omega⟩ ⟨by omega, by omega⟩ hM)
                · exact zw_some ⟨hIm22, hFm22, ⟨by omega, by omega⟩⟩
              · exfalso; omega
            · exfalso; omega
          · have r26 : (-2147483648) ≤ (m2 45 5) ∧ (m2 45 5) ≤ 2147483647 := zi_rd hIm2 zq_45 zb_9_5
            refine zw_ite (fun h27 => ?_) (fun h27 => ?_)
            · refine zw_b (by omega) ?_
              refine zw_some ?_
              refine zw_ite (fun h28 => ?_) (fun h28 => ?_)
              · refine zw_ite (fun h29 => ?_) (fun h29 => ?_)
                · refine zw_bd (zw_mono (zk_202 n hIm2 hc0 ⟨by omega, by omega⟩) (fun v31 m30 hqm30 => ?_))
                  obtain ⟨hIm30, hfm30, hvm30⟩ := hqm30
                  have hFm30 := zfr_tr hFm2 hfm30 rfl
                  refine zw_ite (fun h32 => ?_) (fun h32 => ?_)
                  · have w33 := zu_w32_id (z := x2 + 1) (by omega) (by omega)
                    have hM : (701 - (zu_w32 (x2 + 1))) * 1 + 0 < (k : Int) := by omega
                    exact zw_le (zu_forget (zu_lr_same (zu_lr_same (zu_lr_same (zu_lr_drop zu_lr_nil))))) (ih (zu_w32 (x2 + 1)) m30 hIm30 hFm30 ⟨by omega, by omega⟩ ⟨by omega, by omega⟩ hM)
                  · exact zw_some ⟨hIm30, hFm30, ⟨by omega, by omega⟩⟩
                · exfalso; omega
              · exfalso; omega
            · refine zw_b (by omega) ?_
              refine zw_some ?_
              refine zw_ite (fun h34 => ?_) (fun h34 => ?_)
              · exfalso; omega
              · refine zw_bd (zw_mono (zk_206 n hIm2 hc0 ⟨by omega, by omega⟩) (fun v36 m35 hqm35 => ?_))
                obtain ⟨hIm35, hfm35, hvm35⟩ := hqm35
                have hFm35 := zfr_tr hFm2 hfm35 rfl
                have r37 : 0 ≤ (m35 10 6) ∧ (m35 10 6) ≤ 64 := zi_rd hIm35 zq_10 zb_5_6
                have b38 : 0 ≤ a1 ∧ a1 < 4 := by omega
                refine zw_if b38 ?_
                generalize hmm39 : zu_up m35 (10 + 4) a1 (m35 10 6) = m39
                have hIm39 := zi_up hmm39 hIm35 (zc_5_3 zq_10) (zb_23 _) (by omega) (by omega)
                have hFm39 := zfr_up hmm39 hFm35 (zc_5_3 zq_10) rfl
                exact zw_some ⟨hIm39, hFm39, ⟨by omega, by omega⟩⟩
set_option maxHeartbeats 4000000 in
theorem zk_198 (n : Nat) {a0 a1 : Int} {m0 : zu_m} (hIm0 : zi_I m0) (hc0 : zcls a0 = 10) (ha1 : 0 ≤ a1 ∧ a1 ≤ 3)    : zw (zu_call (zt_T n) 198 [(24, a0), (0, a1)] m0) (fun v m => zi_I m ∧ zfr [(5, 6), (5, 7), (9, 4), (9, 5), (9, 6), (9, 7), (10, 4), (10, 5), (10, 7), (10, 8), (20, 0), (21, 0), (22, 0), (23, 0), (34, 0), (35, 0)] m0 m ∧ (0 ≤ v ∧ v ≤ 2)) := by
  have hFm0 : zfr [(5, 6), (5, 7), (9, 4), (9, 5), (9, 6), (9, 7), (10, 4), (10, 5), (10, 7), (10, 8), (20, 0), (21, 0), (22, 0), (23, 0), (34, 0), (35, 0)] m0 m0 := zfr_rf _ _
  refine zw_eq (zr_198_0 n a0 a1 m0) ?_
  have r40 : 0 ≤ (m0 10 6) ∧ (m0 10 6) ≤ 64 := zi_rd hIm0 zq_10 zb_5_6
  have b41 : 0 ≤ a1 ∧ a1 < 4 := by omega
  refine zw_if b41 ?_
  generalize hmm42 : zu_up m0 (10 + 3) a1 (m0 10 6) = m42
  have hIm42 := zi_up hmm42 hIm0 (zc_5_2 zq_10) (zb_22 _) (by omega) (by omega)
  have hFm42 := zfr_up hmm42 hFm0 (zc_5_2 zq_10) rfl
  generalize hmm43 : zu_up m42 a0 3 0 = m43
  have hIm43 := zi_up hmm43 hIm42 hc0 zb_10_3 (by omega) (by omega)
  have hFm43 := zfr_up hmm43 hFm42 hc0 rfl
  generalize hmm44 : zu_up m43 a0 4 0 = m44
  have hIm44 := zi_up hmm44 hIm43 hc0 zb_10_4 (by omega) (by omega)
  have hFm44 := zfr_up hmm44 hFm43 hc0 rfl
  refine zw_b (by omega) ?_
  have b45 : 0 ≤ (0 : Int) ∧ (0 : Int) < 9 := by omega
  refine zw_if b45 ?_
  generalize hmm46 : zu_up m44 49 0 0 = m46
  have hIm46 := zi_up hmm46 hIm44 zq_49 (zb_35 _) (by omega) (by omega)
  have hFm46 := zfr_up hmm46 hFm44 zq_49 rfl
  refine zw_b (by omega) ?_
  generalize hmm47 : zu_up m46 a0 6 1 = m47
  have hIm47 := zi_up hmm47 hIm46 hc0 zb_10_6 (by omega) (by omega)
  have hFm47 := zfr_up hmm47 hFm46 hc0 rfl
  refine zw_b (by omega) ?_
  generalize hmm48 : zu_up m47 a0 7 1 = m48
  have hIm48 := zi_up hmm48 hIm47 hc0 zb_10_7 (by omega) (by omega)
  have hFm48 := zfr_up hmm48 hFm47 hc0 rfl
  have hM : (701 - 0) * 1 + 0 < ((702 : Nat) : Int) := by omega
  exact (zl_198 n (m0 := m0) hc0 702) 0 m48 hIm48 hFm48 ⟨by omega, by omega⟩ ⟨by omega, by omega⟩ hM
set_option maxHeartbeats 4000000 in
theorem zl_216 (n : Nat) {a0 a1 a2 : Int} {m0 : zu_m} (hc0 : zcls a0 = 11)  : ∀ k : Nat, (∀ (x3 x4 x5 x6 : Int) (mh : zu_m), zi_I mh → zfr [(7, 4), (8, 6), (8, 7), (8, 8), (11, 10), (24, 0), (27, 0), (38, 0), (39, 0)] m0 mh → (0 ≤ a1 ∧ a1 ≤ 3) → (0 ≤ a2 ∧ a2 ≤ 1) → (zcls x3 = 8) → (0 ≤ x4 ∧ x4 ≤ 47) → ((-2147483648) ≤ x5 ∧ x5 ≤ 2147483647) → (0 ≤ x6 ∧ x6 ≤ 16) → (16 - x6) * 1 + 0 < (k : Int) → zw (zu_ex (zt_T n) 216 22 [(27, a0), (0, a1), (0, a2), (21, x3), (0, x4), (0, x5), (0, x6), (2, 0), (2, 0)] [] mh) (fun v m => zi_I m ∧ zfr [(7, 4), (8, 6), (8, 7), (8, 8), (11, 10), (24, 0), (27, 0), (38, 0), (39, 0)] m0 m ∧ True)) := by
  intro k
  induction k with
  | zero => exact fun x3 x4 x5 x6 mh hImh hFmh hba1 hba2 hx3 hbx4 hbx5 hbx6 hM => by exfalso; omega
  | succ k ih =>
    intro x3 x4 x5 x6 mh hImh hFmh hba1 hba2 hx3 hbx4 hbx5 hbx6 hM
    refine zw_eq (zr_216_22 n a0 a1 a2 x3 x4 x5 x6 mh) ?_
    have r1 : 0 ≤ (mh a0 2) ∧ (mh a0 2) ≤ 16 := zi_rd hImh hc0 zb_11_2
    refine zw_ite (fun h2 => ?_) (fun h2 => ?_)
    · refine zw_ite (fun h3 => ?_) (fun h3 => ?_)
      · generalize hmm4 : zu_up mh x3 7 (-1) = m4
        have hIm4 := zi_up hmm4 hImh hx3 zb_8_7 (by omega) (by omega)
        have hFm4 := zfr_up hmm4 hFmh hx3 rfl
        have r5 : (-2147483648) ≤ (m4 x3 5) ∧ (m4 x3 5) ≤ 2147483647 := zi_rd hIm4 hx3 zb_8_5
        have w6 := zu_w32_rg ((m4 x3 5) + 1)
        generalize hmm7 : zu_up m4 x3 5 (zu_w32 ((m4 x3 5) + 1)) = m7
        have hIm7 := zi_up hmm7 hIm4 hx3 zb_8_5 (by omega) (by omega)
        have hFm7 := zfr_up hmm7 hFm4 hx3 rfl
        refine zw_b (by omega) ?_
        have b8 : 0 ≤ x4 ∧ x4 < 48 := by omega
        refine zw_if b8 ?_
        generalize hmm9 : zu_up m7 (a0 + 3) x4 1 = m9
        have hIm9 := zi_up hmm9 hIm7 (zc_11_5 hc0) (zb_38 _) (by omega) (by omega)
        have hFm9 := zfr_up hmm9 hFm7 (zc_11_5 hc0) rfl
        have b10 : 0 ≤ x4 ∧ x4 < 48 := by omega
        refine zw_if b10 ?_
        have r11 : 0 ≤ (m9 (a0 + 4) x4) ∧ (m9 (a0 + 4) x4) ≤ 999000 := zi_rd hIm9 (zc_11_6 hc0) (zb_39 _)
        refine zw_bd (zw_mono (zk_254 n hIm9 zq_50 ⟨by omega, by omega⟩ ⟨by omega, by omega⟩ ⟨by omega, by omega⟩) (fun v13 m12 hqm12 => ?_))
        obtain ⟨hIm12, hfm12, hvm12⟩ := hqm12
        have hFm12 := zfr_tr hFm9 hfm12 rfl
        have b14 : 0 ≤ x4 ∧ x4 < 48 := by omega
        refine zw_if b14 ?_
        generalize hmm15 : zu_up m12 (a0 + 4) x4 v13 = m15
        have hIm15 := zi_up hmm15 hIm12 (zc_11_6 hc0) (zb_39 _) (by omega) (by omega)
        have hFm15 := zfr_up hmm15 hFm12 (zc_11_6 hc0) rfl
        exact zw_some ⟨hIm15, hFm15, trivial⟩
      · have r16 : (-2147483648) ≤ (mh x3 6) ∧ (mh x3 6) ≤ 2147483647 := zi_rd hImh hx3 zb_8_6
        refine zw_ite (fun h17 => ?_) (fun h17 => ?_)
        · generalize hmm18 : zu_up mh x3 7 (-1) = m18
          have hIm18 := zi_up hmm18 hImh hx3 zb_8_7 (by omega) (by omega)
          have hFm18 := zfr_up hmm18 hFmh hx3 rfl
          have r19 : (-2147483648) ≤ (m18 x3 5) ∧ (m18 x3 5) ≤ 2147483647 := zi_rd hIm18 hx3 zb_8_5
          have w20 := zu_w32_rg ((m18 x3 5) + 1)
          generalize hmm21 : zu_up m18 x3 5 (zu_w32 ((m18 x3 5) + 1)) = m21
          have hIm21 := zi_up hmm21 hIm18 hx3 zb_8_5 (by omega) (by omega)
          have hFm21 := zfr_up hmm21 hFm18 hx3 rfl
          refine zw_b (by omega) ?_
          have b22 : 0 ≤ x4 ∧ x4 < 48 := by omega
          refine zw_if b22 ?_
          generalize hmm23 : zu_up m21 (a0 + 3) x4 1 = m23
          have hIm23 := zi_up hmm23 hIm21 (zc_11_5 hc0) (zb_38 _) (by omega) (by omega)
          have hFm23 := zfr_up hmm23 hFm21 (zc_11_5 hc0) rfl
          have b24 : 0 ≤ x4 ∧ x4 < 48 := by omega
          refine zw_if b24 ?_
          have r25 : 0 ≤ (m23 (a0 + 4) x4) ∧ (m23 (a0 + 4) x4) ≤ 999000 := zi_rd hIm23 (zc_11_6 hc0) (zb_39 _)
          refine zw_bd (zw_mono (zk_254 n hIm23 zq_50 ⟨by omega, by omega⟩ ⟨by omega, by omega⟩ ⟨by omega, by omega⟩) (fun v27 m26 hqm26 => ?_))
          obtain ⟨hIm26, hfm26, hvm26⟩ := hqm26
          have hFm26 := zfr_tr hFm23 hfm26 rfl
          have b28 : 0 ≤ x4 ∧ x4 < 48 := by omega
          refine zw_if b28 ?_
          generalize hmm29 : zu_up m26 (a0 + 4) x4 v27 = m29
          have hIm29 := zi_up hmm29 hIm26 (zc_11_6 hc0) (zb_39 _) (by omega) (by omega)
          have hFm29 := zfr_up hmm29 hFm26 (zc_11_6 hc0) rfl
          exact zw_some ⟨hIm29, hFm29, trivial⟩
        · generalize hmm30 : zu_up mh x3 7 x4 = m30
          have hIm30 := zi_up hmm30 hImh hx3 zb_8_7 (by omega) (by omega)
          have hFm30 := zfr_up hmm30 hFmh hx3 rfl
          have r31 : (-2147483648) ≤ (m30 x3 5) ∧ (m30 x3 5) ≤ 2147483647 := zi_rd hIm30 hx3 zb_8_5
          have w32 := zu_w32_rg ((m30 x3 5) + 1)
          generalize hmm33 : zu_up m30 x3 5 (zu_w32 ((m30 x3 5) + 1)) = m33
          have hIm33 := zi_up hmm33 hIm30 hx3 zb_8_5 (by omega) (by omega)
          have hFm33 := zfr_up hmm33 hFm30 hx3 rfl
          refine zw_b (by omega) ?_
          have b34 : 0 ≤ x4 ∧ x4 < 48 := by omega
          refine zw_if b34 ?_
          generalize hmm35 : zu_up m33 (a0 + 3) x4 1 = m35
          have hIm35 := zi_up hmm35 hIm33 (zc_11_5 hc0) (zb_38 _) (by omega) (by omega)
          have hFm35 := zfr_up hmm35 hFm33 (zc_11_5 hc0) rfl
          have b36 : 0 ≤ x4 ∧ x4 < 48 := by omega
          refine zw_if b36 ?_
          have r37 : 0 ≤ (m35 (a0 + 4) x4) ∧ (m35 (a0 + 4) x4) ≤ 999000 := zi_rd hIm35 (zc_11_6 hc0) (zb_39 _)
          refine zw_bd (zw_mono (zk_254 n hIm35 zq_50 ⟨by omega, by omega⟩ ⟨by omega, by omega⟩ ⟨by omega, by omega⟩) (fun v39 m38 hqm38 => ?_))
          obtain ⟨hIm38, hfm38, hvm38⟩ := hqm38
          have hFm38 := zfr_tr hFm35 hfm38 rfl
          have b40 : 0 ≤ x4 ∧ x4 < 48 := by omega
          refine zw_if b40 ?_
          generalize hmm41 : zu_up m38 (a0 + 4) x4 v39 = m41
          have hIm41 := zi_up hmm41 hIm38 (zc_11_6 hc0) (zb_39 _) (by omega) (by omega)
          have hFm41 := zfr_up hmm41 hFm38 (zc_11_6 hc0) rfl
          exact zw_some ⟨hIm41, hFm41, trivial⟩
    · refine zw_ite (fun h42 => ?_) (fun h42 => ?_)
      · have b43 : 0 ≤ x6 ∧ x6 < 16 := by omega
        refine zw_if b43 ?_
        have r44 : (-3) ≤ (mh ((a0 + 1) + 5 + x6) 3) ∧ (mh ((a0 + 1) + 5 + x6) 3) ≤ 3 := zi_rd hImh (zc_36_e (zc_11_1 hc0) b43) zb_7_3
        refine zw_ite (fun h45 => ?_) (fun h45 => ?_)
        · have w46 := zu_w32_id (z := x6 + 1) (by omega) (by omega)
          have hM : (16 - (zu_w32 (x6 + 1))) * 1 + 0 < (k : Int) := by omega
          exact zw_le (zu_forget (zu_lr_same (zu_lr_same (zu_lr_same (zu_lr_same (zu_lr_same (zu_lr_same (zu_lr_same (zu_lr_drop (zu_lr_same zu_lr_nil)))))))))) (ih x3 x4 x5 (zu_w32 (x6 + 1)) mh hImh hFmh ⟨by omega, by omega⟩ ⟨by omega, by omega⟩ hx3 ⟨by omega, by omega⟩ ⟨by omega, by omega⟩ ⟨by omega, by omega⟩ hM)
        · have r47 : 0 ≤ (mh ((a0 + 1) + 5 + x6) 0) ∧ (mh ((a0 + 1) + 5 + x6) 0) ≤ 47 := zi_rd hImh (zc_36_e (zc_11_1 hc0) b43) zb_7_0
          refine zw_ite (fun h48 => ?_) (fun h48 => ?_)
          · have w49 := zu_w32_id (z := x6 + 1) (by omega) (by omega)
            have hM : (16 - (zu_w32 (x6 + 1))) * 1 + 0 < (k : Int) := by omega
            exact zw_le (zu_forget (zu_lr_same (zu_lr_same (zu_lr_same (zu_lr_same (zu_lr_same (zu_lr_same (zu_lr_same (zu_lr_drop (zu_lr_same zu_lr_nil)))))))))) (ih x3 x4 x5 (zu_w32 (x6 + 1)) mh hImh hFmh ⟨by omega, by omega⟩ ⟨by omega, by omega⟩ hx3 ⟨by omega, by omega⟩ ⟨by omega, by omega⟩ ⟨by omega, by omega⟩ hM)
          · have r50 : 0 ≤ (mh ((a0 + 1) + 5 + x6) 1) ∧ (mh ((a0 + 1) + 5 + x6) 1) ≤ 3 := zi_rd hImh (zc_36_e (zc_11_1 hc0) b43) zb_7_1
            refine zw_bd (zw_eq (zr_217_0 n a0 a1 (mh ((a0 + 1) + 5 + x6) 1) mh) ?_)
            have r51 : 0 ≤ (mh a0 10) ∧ (mh a0 10) ≤ 3 := zi_rd hImh hc0 zb_11_10
            refine zw_ite (fun h52 => ?_) (fun h52 => ?_)
            · refine zw_b (by omega) ?_
              refine zw_some ?_
              refine zw_ite (fun h53 => ?_) (fun h53 => ?_)
              · exfalso; omega
              · refine zw_ite (fun h54 => ?_) (fun h54 => ?_)
                · refine zw_bd (zw_mono (zk_215 n hImh hc0) (fun v56 m55 hqm55 => ?_))
                  obtain ⟨hIm55, hfm55, hvm55⟩ := hqm55
                  have hFm55 := zfr_tr hFmh hfm55 rfl
                  refine zw_nif (by omega) ?_
                  have d57 := ztmod_b2 (x := v56) (y := 100) (by omega)
                  have r58 : (-2147483648) ≤ (m55 x3 6) ∧ (m55 x3 6) ≤ 2147483647 := zi_rd hIm55 hx3 zb_8_6
                  refine zw_bd (zw_mono (zk_224 n hIm55 hc0 ⟨by omega, by omega⟩ ⟨by omega, by omega⟩ ⟨by omega, by omega⟩) (fun v60 m59 hqm59 => ?_))
                  obtain ⟨hIm59, hfm59, hvm59⟩ := hqm59
                  have hFm59 := zfr_tr hFm55 hfm59 rfl
                  refine zw_bd (zw_mono (zk_250 n hIm59 zq_50) (fun v62 m61 hqm61 => ?_))
                  obtain ⟨hIm61, hfm61, hvm61⟩ := hqm61
                  have hFm61 := zfr_tr hFm59 hfm61 rfl
                  refine zw_ite (fun h63 => ?_) (fun h63 => ?_)
                  · have w64 := zu_w32_id (z := x6 + 1) (by omega) (by omega)
                    have hM : (16 - (zu_w32 (x6 + 1))) * 1 + 0 < (k : Int) := by omega
                    exact zw_le (zu_forget (zu_lr_same (zu_lr_same (zu_lr_same (zu_lr_same (zu_lr_same (zu_lr_same (zu_lr_same (zu_lr_drop (zu_lr_drop zu_lr_nil)))))))))) (ih x3 x4 x5 (zu_w32 (x6 + 1)) m61 hIm61 hFm61 ⟨by omega, by omega⟩ ⟨by omega, by omega⟩ hx3 ⟨by omega, by omega⟩ ⟨by omega, by omega⟩ ⟨by omega, by omega⟩ hM)
                  · generalize hmm65 : zu_up m61 ((a0 + 1) + 5 + x6) 3 a1 = m65
                    have hIm65 := zi_up hmm65 hIm61 (zc_36_e (zc_11_1 hc0) b43) zb_7_3 (by omega) (by omega)
                    have hFm65 := zfr_up hmm65 hFm61 (zc_36_e (zc_11_1 hc0) b43) rfl
                    have r66 : (-2147483648) ≤ (m65 x3 6) ∧ (m65 x3 6) ≤ 2147483647 := zi_rd hIm65 hx3 zb_8_6
                    have e67 : (m65 x3 6) = (m55 x3 6) := (Eq.trans (zs_ne hmm65 (Or.inl (zc_ne hx3 (zc_36_e (zc_11_1 hc0) b43) (by decide)))) (Eq.trans (zfr_ap hfm61 hx3 rfl) (zfr_ap hfm59 hx3 rfl)))
                    have w68 := zu_w32_rg ((m65 x3 6) + 1)
                    generalize hmm69 : zu_up m65 x3 6 (zu_w32 ((m65 x3 6) + 1)) = m69
                    have hIm69 := zi_up hmm69 hIm65 hx3 zb_8_6 (by omega) (by omega)
                    have hFm69 := zfr_up hmm69 hFm65 hx3 rfl
                    have w70 := zu_w32_id (z := x6 + 1) (by omega) (by omega)
                    have hM : (16 - (zu_w32 (x6 + 1))) * 1 + 0 < (k : Int) := by omega
                    exact zw_le (zu_forget (zu_lr_same (zu_lr_same (zu_lr_same (zu_lr_same (zu_lr_same (zu_lr_same (zu_lr_same (zu_lr_drop (zu_lr_drop zu_lr_nil)))))))))) (ih x3 x4 x5 (zu_w32 (x6 + 1)) m69 hIm69 hFm69 ⟨by omega, by omega⟩ ⟨by omega, by omega⟩ hx3 ⟨by omega, by omega⟩ ⟨by omega, by omega⟩ ⟨by omega, by omega⟩ hM)
                · exfalso; omega
            · refine zw_nif (by omega) ?_
              have d71 : Int.tmod a1 4 = a1 % 4 := Int.tmod_eq_emod_of_nonneg (by omega)
              refine zw_ite (fun h72 => ?_) (fun h72 => ?_)
              · refine zw_b (by omega) ?_
                refine zw_some ?_
                refine zw_ite (fun h73 => ?_) (fun h73 => ?_)
                · have w74 := zu_w32_id (z := x6 + 1) (by omega) (by omega)
                  have hM : (16 - (zu_w32 (x6 + 1))) * 1 + 0 < (k : Int) := by omega
                  exact zw_le (zu_forget (zu_lr_same (zu_lr_same (zu_lr_same (zu_lr_same (zu_lr_same (zu_lr_same (zu_lr_same (zu_lr_drop (zu_lr_same zu_lr_nil)))))))))) (ih x3 x4 x5 (zu_w32 (x6 + 1)) mh hImh hFmh ⟨by omega, by omega⟩ ⟨by omega, by omega⟩ hx3 ⟨by omega, by omega⟩ ⟨by omega, by omega⟩ ⟨by omega, by omega⟩ hM)
                · exfalso; omega
              · refine zw_b (by omega) ?_
                refine zw_some ?_
                refine zw_ite (fun h75 => ?_) (fun h75 => ?_)
                · exfalso; omega
                · refine zw_ite (fun h76 => ?_) (fun h76 => ?_)
                  · refine zw_bd (zw_mono (zk_215 n hImh hc0) (fun v78 m77 hqm77 => ?_))
                    obtain ⟨hIm77, hfm77, hvm77⟩ := hqm77
                    have hFm77 := zfr_tr hFmh hfm77 rfl
                    refine zw_nif (by omega) ?_
                    have d79 := ztmod_b2 (x := v78) (y := 100) (by omega)
                    have r80 : (-2147483648) ≤ (m77 x3 6) ∧ (m77 x3 6) ≤ 2147483647 := zi_rd hIm77 hx3 zb_8_6
                    refine zw_bd (zw_mono (zk_224 n hIm77 hc0 ⟨by omega, by omega⟩ ⟨by omega, by omega⟩ ⟨by omega, by omega⟩) (fun v82 m81 hqm81 => ?_))
                    obtain ⟨hIm81, hfm81, hvm81⟩ := hqm81
                    have hFm81 := zfr_tr hFm77 hfm81 rfl
                    refine zw_bd (zw_mono (zk_250 n hIm81 zq_50) (fun v84 m83 hqm83 => ?_))
                    obtain ⟨hIm83, hfm83, hvm83⟩ := hqm83
                    have hFm83 := zfr_tr hFm81 hfm83 rfl
                    refine zw_ite (fun h85 => ?_) (fun h85 => ?_)
                    · have w86 := zu_w32_id (z := x6 + 1) (by omega) (by omega)
                      have hM : (16 - (zu_w32 (x6 + 1))) * 1 + 0 < (k : Int) := by omega
                      exact zw_le (zu_forget (zu_lr_same (zu_lr_same (zu_lr_same (zu_lr_same (zu_lr_same (zu_lr_same (zu_lr_same (zu_lr_drop (zu_lr_drop zu_lr_nil)))))))))) (ih x3 x4 x5 (zu_w32 (x6 + 1)) m83 hIm83 hFm83 ⟨by omega, by omega⟩ ⟨by omega, by omega⟩ hx3 ⟨by omega, by omega⟩ ⟨by omega, by omega⟩ ⟨by omega, by omega⟩ hM)
                    · generalize hmm87 : zu_up m83 ((a0 + 1) + 5 + x6) 3 a1 = m87
                      have hIm87 := zi_up hmm87 hIm83 (zc_36_e (zc_11_1 hc0) b43) zb_7_3 (by omega) (by omega)
                      have hFm87 := zfr_up hmm87 hFm83 (zc_36_e (zc_11_1 hc0) b43) rfl
                      have r88 : (-2147483648) ≤ (m87 x3 6) ∧ (m87 x3 6) ≤ 2147483647 := zi_rd hIm87 hx3 zb_8_6
                      have e89 : (m87 x3 6) = (m77 x3 6) := (Eq.trans (zs_ne hmm87 (Or.inl (zc_ne hx3 (zc_36_e (zc_11_1 hc0) b43) (by decide)))) (Eq.trans (zfr_ap hfm83 hx3 rfl) (zfr_ap hfm81 hx3 rfl)))
                      have w90 := zu_w32_rg ((m87 x3 6) + 1)
                      generalize hmm91 : zu_up m87 x3 6 (zu_w32 ((m87 x3 6) + 1)) = m91
                      have hIm91 := zi_up hmm91 hIm87 hx3 zb_8_6 (by omega) (by omega)
                      have hFm91 := zfr_up hmm91 hFm87 hx3 rfl
                      have w92 := zu_w32_id (z := x6 + 1) (by omega) (by omega)
                      have hM : (16 - (zu_w32 (x6 + 1))) * 1 + 0 < (k : Int) := by omega
                      exact zw_le (zu_forget (zu_lr_same (zu_lr_same (zu_lr_same (zu_lr_same (zu_lr_same (zu_lr_same (zu_lr_same (zu_lr_drop (zu_lr_drop zu_lr_nil)))))))))) (ih x3 x4 x5 (zu_w32 (x6 + 1)) m91 hIm91 hFm91 ⟨by omega, by omega⟩ ⟨by omega, by omega⟩ hx3 ⟨by omega, by omega⟩ ⟨by omega, by omega⟩ ⟨by omega, by omega⟩ hM)
                  · exfalso; omega
      · have r93 : (-2147483648) ≤ (mh x3 7) ∧ (mh x3 7) ≤ 2147483647 := zi_rd hImh hx3 zb_8_7
        refine zw_ite (fun h94 => ?_) (fun h94 => ?_)
        · refine zw_ite (fun h95 => ?_) (fun h95 => ?_)
          · exfalso; omega
          · have r96 : (-2147483648) ≤ (mh x3 6) ∧ (mh x3 6) ≤ 2147483647 := zi_rd hImh hx3 zb_8_6
            refine zw_ite (fun h97 => ?_) (fun h97 => ?_)
            · generalize hmm98 : zu_up mh x3 7 (-1) = m98
              have hIm98 := zi_up hmm98 hImh hx3 zb_8_7 (by omega) (by omega)
              have hFm98 := zfr_up hmm98 hFmh hx3 rfl
              have r99 : (-2147483648) ≤ (m98 x3 5) ∧ (m98 x3 5) ≤ 2147483647 := zi_rd hIm98 hx3 zb_8_5
              have w100 := zu_w32_rg ((m98 x3 5) + 1)
              generalize hmm101 : zu_up m98 x3 5 (zu_w32 ((m98 x3 5) + 1)) = m101
              have hIm101 := zi_up hmm101 hIm98 hx3 zb_8_5 (by omega) (by omega)
              have hFm101 := zfr_up hmm101 hFm98 hx3 rfl
              refine zw_b (by omega) ?_
              have b102 : 0 ≤ x4 ∧ x4 < 48 := by omega
              refine zw_if b102 ?_
              generalize hmm103 : zu_up m101 (a0 + 3) x4 1 = m103
              have hIm103 := zi_up hmm103 hIm101 (zc_11_5 hc0) (zb_38 _) (by omega) (by omega)
              have hFm103 := zfr_up hmm103 hFm101 (zc_11_5 hc0) rfl
              have b104 : 0 ≤ x4 ∧ x4 < 48 := by omega
              refine zw_if b104 ?_
              have r105 : 0 ≤ (m103 (a0 + 4) x4) ∧ (m103 (a0 + 4) x4) ≤ 999000 := zi_rd hIm103 (zc_11_6 hc0) (zb_39 _)
              refine zw_bd (zw_mono (zk_254 n hIm103 zq_50 ⟨by omega, by omega⟩ ⟨by omega, by omega⟩ ⟨by omega, by omega⟩) (fun v107 m106 hqm106 => ?_))
              obtain ⟨hIm106, hfm106, hvm106⟩ := hqm106
              have hFm106 := zfr_tr hFm103 hfm106 rfl
              have b108 : 0 ≤ x4 ∧ x4 < 48 := by omega
              refine zw_if b108 ?_
              generalize hmm109 : zu_up m106 (a0 + 4) x4 v107 = m109
              have hIm109 := zi_up hmm109 hIm106 (zc_11_6 hc0) (zb_39 _) (by omega) (by omega)
              have hFm109 := zfr_up hmm109 hFm106 (zc_11_6 hc0) rfl
              exact zw_some ⟨hIm109, hFm109, trivial⟩
            · generalize hmm110 : zu_up mh x3 7 x4 = m110
              have hIm110 := zi_up hmm110 hImh hx3 zb_8_7 (by omega) (by omega)
              have hFm110 := zfr_up hmm110 hFmh hx3 rfl
              have r111 : (-2147483648) ≤ (m110 x3 5) ∧ (m110 x3 5) ≤ 2147483647 := zi_rd hIm110 hx3 zb_8_5
              have w112 := zu_w32_rg ((m110 x3 5) + 1)
              generalize hmm113 : zu_up m110 x3 5 (zu_w32 ((m110 x3 5) + 1)) = m113
              have hIm113 := zi_up hmm113 hIm110 hx3 zb_8_5 (by omega) (by omega)
              have hFm113 := zfr_up hmm113 hFm110 hx3 rfl
              refine zw_b (by omega) ?_
              have b114 : 0 ≤ x4 ∧ x4 < 48 := by omega
              refine zw_if b114 ?_
              generalize hmm115 : zu_up m113 (a0 + 3) x4 1 = m115
              have hIm115 := zi_up hmm115 hIm113 (zc_11_5 hc0) (zb_38 _) (by omega) (by omega)
              have hFm115 := zfr_up hmm115 hFm113 (zc_11_5 hc0) rfl
              have b116 : 0 ≤ x4 ∧ x4 < 48 := by omega
              refine zw_if b116 ?_
              have r117 : 0 ≤ (m115 (a0 + 4) x4) ∧ (m115 (a0 + 4) x4) ≤ 999000 := zi_rd hIm115 (zc_11_6 hc0) (zb_39 _)
              refine zw_bd (zw_mono (zk_254 n hIm115 zq_50 ⟨by omega, by omega⟩ ⟨by omega, by omega⟩ ⟨by omega, by omega⟩) (fun v119 m118 hqm118 => ?_))
              obtain ⟨hIm118, hfm118, hvm118⟩ := hqm118
              have hFm118 := zfr_tr hFm115 hfm118 rfl
              have b120 : 0 ≤ x4 ∧ x4 < 48 := by omega
              refine zw_if b120 ?_
              generalize hmm121 : zu_up m118 (a0 + 4) x4 v119 = m121
              have hIm121 := zi_up hmm121 hIm118 (zc_11_6 hc0) (zb_39 _) (by omega) (by omega)
              have hFm121 := zfr_up hmm121 hFm118 (zc_11_6 hc0) rfl
              exact zw_some ⟨hIm121, hFm121, trivial⟩
        · have b122 : 0 ≤ x6 ∧ x6 < 16 := by omega
          refine zw_if b122 ?_
          have r123 : (-3) ≤ (mh ((a0 + 1) + 5 + x6) 3) ∧ (mh ((a0 + 1) + 5 + x6) 3) ≤ 3 := zi_rd hImh (zc_36_e (zc_11_1 hc0) b122) zb_7_3
          refine zw_ite (fun h124 => ?_) (fun h124 => ?_)
          · have w125 := zu_w32_id (z := x6 + 1) (by omega) (by omega)
            have hM : (16 - (zu_w32 (x6 + 1))) * 1 + 0 < (k : Int) := by omega
            exact zw_le (zu_forget (zu_lr_same (zu_lr_same (zu_lr_same (zu_lr_same (zu_lr_same (zu_lr_same (zu_lr_same (zu_lr_drop (zu_lr_same zu_lr_nil)))))))))) (ih x3 x4 x5 (zu_w32 (x6 + 1)) mh hImh hFmh ⟨by omega, by omega⟩ ⟨by omega, by omega⟩ hx3 ⟨by omega, by omega⟩ ⟨by omega, by omega⟩ ⟨by omega, by omega⟩ hM)
          · have r126 : 0 ≤ (mh ((a0 + 1) + 5 + x6) 0) ∧ (mh ((a0 + 1) + 5 + x6) 0) ≤ 47 := zi_rd hImh (zc_36_e (zc_11_1 hc0) b122) zb_7_0
            refine zw_ite (fun h127 => ?_) (fun h127 => ?_)
            · have w128 := zu_w32_id (z := x6 + 1) (by omega) (by omega)
              have hM : (16 - (zu_w32 (x6 + 1))) * 1 + 0 < (k : Int) := by omega
              exact zw_le (zu_forget (zu_lr_same (zu_lr_same (zu_lr_same (zu_lr_same (zu_lr_same (zu_lr_same (zu_lr_same (zu_lr_drop (zu_lr_same zu_lr_nil)))))))))) (ih x3 x4 x5 (zu_w32 (x6 + 1)) mh hImh hFmh ⟨by omega, by omega⟩ ⟨by omega, by omega⟩ hx3 ⟨by omega, by omega⟩ ⟨by omega, by omega⟩ ⟨by omega, by omega⟩ hM)
            · have r129 : 0 ≤ (mh ((a0 + 1) + 5 + x6) 1) ∧ (mh ((a0 + 1) + 5 + x6) 1) ≤ 3 := zi_rd hImh (zc_36_e (zc_11_1 hc0) b122) zb_7_1
              refine zw_bd (zw_eq (zr_217_0 n a0 a1 (mh ((a0 + 1) + 5 + x6) 1) mh) ?_)
              have r130 : 0 ≤ (mh a0 10) ∧ (mh a0 10) ≤ 3 := zi_rd hImh hc0 zb_11_10
              refine zw_ite (fun h131 => ?_) (fun h131 => ?_)
              · refine zw_b (by omega) ?_
                refine zw_some ?_
                refine zw_ite (fun h132 => ?_) (fun h132 => ?_)
                · exfalso; omega
                · refine zw_ite (fun h133 => ?_) (fun h133 => ?_)
                  · exfalso; omega
                  · have r134 : (-2147483648) ≤ (mh x3 6) ∧ (mh x3 6) ≤ 2147483647 := zi_rd hImh hx3 zb_8_6
                    refine zw_bd (zw_mono (zk_224 n hImh hc0 ⟨by omega, by omega⟩ ⟨by omega, by omega⟩ ⟨by omega, by omega⟩) (fun v136 m135 hqm135 => ?_))
                    obtain ⟨hIm135, hfm135, hvm135⟩ := hqm135
                    have hFm135 := zfr_tr hFmh hfm135 rfl
                    refine zw_bd (zw_mono (zk_250 n hIm135 zq_50) (fun v138 m137 hqm137 => ?_))
                    obtain ⟨hIm137, hfm137, hvm137⟩ := hqm137
                    have hFm137 := zfr_tr hFm135 hfm137 rfl
                    refine zw_ite (fun h139 => ?_) (fun h139 => ?_)
                    · have w140 := zu_w32_id (z := x6 + 1) (by omega) (by omega)
                      have hM : (16 - (zu_w32 (x6 + 1))) * 1 + 0 < (k : Int) := by omega
                      exact zw_le (zu_forget (zu_lr_same (zu_lr_same (zu_lr_same (zu_lr_same (zu_lr_same (zu_lr_same (zu_lr_same (zu_lr_drop (zu_lr_drop zu_lr_nil)))))))))) (ih x3 x4 x5 (zu_w32 (x6 + 1)) m137 hIm137 hFm137 ⟨by omega, by omega⟩ ⟨by omega, by omega⟩ hx3 ⟨by omega, by omega⟩ ⟨by omega, by omega⟩ ⟨by omega, by omega⟩ hM)
                    · generalize hmm141 : zu_up m137 ((a0 + 1) + 5 + x6) 3 a1 = m141
                      have hIm141 := zi_up hmm141 hIm137 (zc_36_e (zc_11_1 hc0) b122) zb_7_3 (by omega) (by omega)
                      have hFm141 := zfr_up hmm141 hFm137 (zc_36_e (zc_11_1 hc0) b122) rfl
                      have r142 : (-2147483648) ≤ (m141 x3 6) ∧ (m141 x3 6) ≤ 2147483647 := zi_rd hIm141 hx3 zb_8_6
                      have e143 : (m141 x3 6) = (mh x3 6) := (Eq.trans (zs_ne hmm141 (Or.inl (zc_ne hx3 (zc_36_e (zc_11_1 hc0) b122) (by decide)))) (Eq.trans (zfr_ap hfm137 hx3 rfl) (zfr_ap hfm135 hx3 rfl)))
                      have w144 := zu_w32_rg ((m141 x3 6) + 1)
                      generalize hmm145 : zu_up m141 x3 6 (zu_w32 ((m141 x3 6) + 1)) = m145
                      have hIm145 := zi_up hmm145 hIm141 hx3 zb_8_6 (by omega) (by omega)
                      have hFm145 := zfr_up hmm145 hFm141 hx3 rfl
                      have w146 := zu_w32_id (z := x6 + 1) (by omega) (by omega)
                      have hM : (16 - (zu_w32 (x6 + 1))) * 1 + 0 < (k : Int) := by omega
                      exact zw_le (zu_forget (zu_lr_same (zu_lr_same (zu_lr_same (zu_lr_same (zu_lr_same (zu_lr_same (zu_lr_same (zu_lr_drop (zu_lr_drop zu_lr_nil)))))))))) (ih x3 x4 x5 (zu_w32 (x6 + 1)) m145 hIm145 hFm145 ⟨by omega, by omega⟩ ⟨by omega, by omega⟩ hx3 ⟨by omega, by omega⟩ ⟨by omega, by omega⟩ ⟨by omega, by omega⟩ hM)
              · refine zw_nif (by omega) ?_
                have d147 : Int.tmod a1 4 = a1 % 4 := Int.tmod_eq_emod_of_nonneg (by omega)
                refine zw_ite (fun h148 => ?_) (fun h148 => ?_)
                · refine zw_b (by omega) ?_
                  refine zw_some ?_
                  refine zw_ite (fun h149 => ?_) (fun h149 => ?_)
                  · have w150 := zu_w32_id (z := x6 + 1) (by omega) (by omega)
                    have hM : (16 - (zu_w32 (x6 + 1))) * 1 + 0 < (k : Int) := by omega
                    exact zw_le (zu_forget (zu_lr_same (zu_lr_same (zu_lr_same (zu_lr_same (zu_lr_same (zu_lr_same (zu_lr_same (zu_lr_drop (zu_lr_same zu_lr_nil)))))))))) (ih x3 x4 x5 (zu_w32 (x6 + 1)) mh hImh hFmh ⟨by omega, by omega⟩ ⟨by omega, by omega⟩ hx3 ⟨by omega, by omega⟩ ⟨by omega, by omega⟩ ⟨by omega, by omega⟩ hM)
                  · exfalso; omega
                · refine zw_b (by omega) ?_
                  refine zw_some ?_
                  refine zw_ite (fun h151 => ?_) (fun h151 => ?_)
                  · exfalso; omega
                  · refine zw_ite (fun h152 => ?_) (fun h152 => ?_)
                    · exfalso; omega
                    · have r153 : (-2147483648) ≤ (mh x3 6) ∧ (mh x3 6) ≤ 2147483647 := zi_rd hImh hx3 zb_8_6
                      refine zw_bd (zw_mono (zk_224 n hImh hc0 ⟨by omega, by omega⟩ ⟨by omega, by omega⟩ ⟨by omega, by omega⟩) (fun v155 m154 hqm154 => ?_))
                      obtain ⟨hIm154, hfm154, hvm154⟩ := hqm154
                      have hFm154 := zfr_tr hFmh hfm154 rfl
                      refine zw_bd (zw_mono (zk_250 n hIm154 zq_50) (fun v157 m156 hqm156 => ?_))
                      obtain ⟨hIm156, hfm156, hvm156⟩ := hqm156
                      have hFm156 := zfr_tr hFm154 hfm156 rfl
                      refine zw_ite (fun h158 => ?_) (fun h158 => ?_)
                      · have w159 := zu_w32_id (z := x6 + 1) (by omega) (by omega)
                        have hM : (16 - (zu_w32 (x6 + 1))) * 1 + 0 < (k : Int) := by omega
                        exact zw_le (zu_forget (zu_lr_same (zu_lr_same (zu_lr_same (zu_lr_same (zu_lr_same (zu_lr_same (zu_lr_same (zu_lr_drop (zu_lr_drop zu_lr_nil)))))))))) (ih x3 x4 x5 (zu_w32 (x6 + 1)) m156 hIm156 hFm156 ⟨by omega, by omega⟩ ⟨by omega, by omega⟩ hx3 ⟨by omega, by omega⟩ ⟨by omega, by omega⟩ ⟨by omega, by omega⟩ hM)
                      · generalize hmm160 : zu_up m156 ((a0 + 1) + 5 + x6) 3 a1 = m160
                        have hIm160 := zi_up hmm160 hIm156 (zc_36_e (zc_11_1 hc0) b122) zb_7_3 (by omega) (by omega)
                        have hFm160 := zfr_up hmm160 hFm156 (zc_36_e (zc_11_1 hc0) b122) rfl
                        have r161 : (-2147483648) ≤ (m160 x3 6) ∧ (m160 x3 6) ≤ 2147483647 := zi_rd hIm160 hx3 zb_8_6
                        have e162 : (m160 x3 6) = (mh x3 6) := (Eq.trans (zs_ne hmm160 (Or.inl (zc_ne hx3 (zc_36_e (zc_11_1 hc0) b122) (by decide)))) (Eq.trans (zfr_ap hfm156 hx3 rfl) (zfr_ap hfm154 hx3 rfl)))
                        have w163 := zu_w32_rg ((m160 x3 6) + 1)
                        generalize hmm164 : zu_up m160 x3 6 (zu_w32 ((m160 x3 6) + 1)) = m164
                        have hIm164 := zi_up hmm164 hIm160 hx3 zb_8_6 (by omega) (by omega)
                        have hFm164 := zfr_up hmm164 hFm160 hx3 rfl
                        have w165 := zu_w32_id (z := x6 + 1) (by omega) (by omega)
                        have hM : (16 - (zu_w32 (x6 + 1))) * 1 + 0 < (k : Int) := by omega
                        exact zw_le (zu_forget (zu_lr_same (zu_lr_same (zu_lr_same (zu_lr_same (zu_lr_same (zu_lr_same (zu_lr_same (zu_lr_drop (zu_lr_drop zu_lr_nil)))))))))) (ih x3 x4 x5 (zu_w32 (x6 + 1)) m164 hIm164 hFm164 ⟨by omega, by omega⟩ ⟨by omega, by omega⟩ hx3 ⟨by omega, by omega⟩ ⟨by omega, by omega⟩ ⟨by omega, by omega⟩ hM)
set_option maxHeartbeats 4000000 in
theorem zk_216 (n : Nat) {a0 a1 a2 : Int} {m0 : zu_m} (hIm0 : zi_I m0) (hc0 : zcls a0 = 11) (ha1 : 0 ≤ a1 ∧ a1 ≤ 3) (ha2 : 0 ≤ a2 ∧ a2 ≤ 1)    : zw (zu_call (zt_T n) 216 [(27, a0), (0, a1), (0, a2)] m0) (fun v m => zi_I m ∧ zfr [(7, 4), (8, 6), (8, 7), (8, 8), (11, 10), (24, 0), (27, 0), (38, 0), (39, 0)] m0 m ∧ True) := by
  have hFm0 : zfr [(7, 4), (8, 6), (8, 7), (8, 8), (11, 10), (24, 0), (27, 0), (38, 0), (39, 0)] m0 m0 := zfr_rf _ _
  refine zw_eq (zr_216_0 n a0 a1 a2 m0) ?_
  have b166 : 0 ≤ a1 ∧ a1 < 4 := by omega
  refine zw_if b166 ?_
  have r167 : 0 ≤ (m0 ((a0 + 2) + 20 + a1) 1) ∧ (m0 ((a0 + 2) + 20 + a1) 1) ≤ 47 := zi_rd hIm0 (zc_37_e (zc_11_3 hc0) b166) zb_8_1
  have r168 : (-2147483648) ≤ (m0 ((a0 + 2) + 20 + a1) 6) ∧ (m0 ((a0 + 2) + 20 + a1) 6) ≤ 2147483647 := zi_rd hIm0 (zc_37_e (zc_11_3 hc0) b166) zb_8_6
  have hM : (16 - 0) * 1 + 0 < ((17 : Nat) : Int) := by omega
  exact (zl_216 n (m0 := m0) hc0 17) ((a0 + 2) + 20 + a1) (m0 ((a0 + 2) + 20 + a1) 1) (m0 ((a0 + 2) + 20 + a1) 6) 0 m0 hIm0 hFm0 ⟨by omega, by omega⟩ ⟨by omega, by omega⟩ (zc_37_e (zc_11_3 hc0) b166) ⟨by omega, by omega⟩ ⟨by omega, by omega⟩ ⟨by omega, by omega⟩ hM
set_option maxHeartbeats 4000000 in
theorem zk_225 (n : Nat) {a0 a1 a2 : Int} {m0 : zu_m} (hIm0 : zi_I m0) (hc0 : zcls a0 = 11) (ha1 : 0 ≤ a1 ∧ a1 ≤ 3) (ha2 : 0 ≤ a2 ∧ a2 ≤ 15)    : zw (zu_call (zt_T n) 225 [(27, a0), (0, a1), (0, a2)] m0) (fun v m => zi_I m ∧ zfr [(24, 0), (27, 0)] m0 m ∧ (0 ≤ v ∧ v ≤ 100)) := by
  have hFm0 : zfr [(24, 0), (27, 0)] m0 m0 := zfr_rf _ _
  refine zw_eq (zr_225_0 n a0 a1 a2 m0) ?_
  have b1 : 0 ≤ a1 ∧ a1 < 4 := by omega
  refine zw_if b1 ?_
  have r2 : (-2147483648) ≤ (m0 ((a0 + 2) + 20 + a1) 6) ∧ (m0 ((a0 + 2) + 20 + a1) 6) ≤ 2147483647 := zi_rd hIm0 (zc_37_e (zc_11_3 hc0) b1) zb_8_6
  refine zw_bd (zw_mono (zk_224 n hIm0 hc0 ⟨by omega, by omega⟩ ⟨by omega, by omega⟩ ⟨by omega, by omega⟩) (fun v4 m3 hqm3 => ?_))
  obtain ⟨hIm3, hfm3, hvm3⟩ := hqm3
  have hFm3 := zfr_tr hFm0 hfm3 rfl
  refine zw_bd (zw_mono (zk_250 n hIm3 zq_50) (fun v6 m5 hqm5 => ?_))
  obtain ⟨hIm5, hfm5, hvm5⟩ := hqm5
  have hFm5 := zfr_tr hFm3 hfm5 rfl
  exact zw_some ⟨hIm5, hFm5, ⟨by omega, by omega⟩⟩
set_option maxHeartbeats 4000000 in
theorem zk_226 (n : Nat) {a0 a1 a2 : Int} {m0 : zu_m} (hIm0 : zi_I m0) (hc0 : zcls a0 = 11) (ha1 : 0 ≤ a1 ∧ a1 ≤ 3) (ha2 : 0 ≤ a2 ∧ a2 ≤ 15)    : zw (zu_call (zt_T n) 226 [(27, a0), (0, a1), (0, a2)] m0) (fun v m => zi_I m ∧ zfr [(24, 0), (27, 0)] m0 m ∧ (0 ≤ v ∧ v ≤ 999)) := by
  have hFm0 : zfr [(24, 0), (27, 0)] m0 m0 := zfr_rf _ _
  refine zw_eq (zr_226_0 n a0 a1 a2 m0) ?_
  refine zw_bd (zw_mono (zk_224 n hIm0 hc0 ⟨by omega, by omega⟩ ⟨by omega, by omega⟩ ⟨by omega, by omega⟩) (fun v2 m1 hqm1 => ?_))
  obtain ⟨hIm1, hfm1, hvm1⟩ := hqm1
  have hFm1 := zfr_tr hFm0 hfm1 rfl
  refine zw_bd (zw_mono (zk_251 n hIm1 zq_50) (fun v4 m3 hqm3 => ?_))
  obtain ⟨hIm3, hfm3, hvm3⟩ := hqm3
  have hFm3 := zfr_tr hFm1 hfm3 rfl
  exact zw_some ⟨hIm3, hFm3, ⟨by omega, by omega⟩⟩
set_option maxHeartbeats 4000000 in
theorem zk_227 (n : Nat) {a0 a1 a2 a3 : Int} {m0 : zu_m} (hIm0 : zi_I m0) (hc0 : zcls a0 = 11) (ha1 : 0 ≤ a1 ∧ a1 ≤ 2) (ha2 : (-2147483648) ≤ a2 ∧ a2 ≤ 2147483647) (ha3 : (-2147483648) ≤ a3 ∧ a3 ≤ 2147483647)    : zw (zu_call (zt_T n) 227 [(27, a0), (0, a1), (0, a2), (0, a3)] m0) (fun v m => zi_I m ∧ zfr [(24, 0), (27, 0)] m0 m ∧ ((-9223372036854775808) ≤ v ∧ v ≤ 9223372036854775807)) := by
  have hFm0 : zfr [(24, 0), (27, 0)] m0 m0 := zfr_rf _ _
  refine zw_eq (zr_227_0 n a0 a1 a2 a3 m0) ?_
  refine zw_bd (zw_eq (zr_211_0 n a0 a2 m0) ?_)
  refine zw_ite (fun h1 => ?_) (fun h1 => ?_)
  · refine zw_b (by omega) ?_
    refine zw_some ?_
    refine zw_ite (fun h2 => ?_) (fun h2 => ?_)
    · exact zw_some ⟨hIm0, hFm0, ⟨by omega, by omega⟩⟩
    · exfalso; omega
  · have r3 : 0 ≤ (m0 a0 4) ∧ (m0 a0 4) ≤ 4 := zi_rd hIm0 hc0 zb_11_4
    refine zw_ite (fun h4 => ?_) (fun h4 => ?_)
    · refine zw_b (by omega) ?_
      refine zw_some ?_
      refine zw_ite (fun h5 => ?_) (fun h5 => ?_)
      · exact zw_some ⟨hIm0, hFm0, ⟨by omega, by omega⟩⟩
      · exfalso; omega
    · refine zw_b (by omega) ?_
      refine zw_some ?_
      refine zw_ite (fun h6 => ?_) (fun h6 => ?_)
      · exfalso; omega
      · refine zw_bd (zw_eq (zr_210_0 n a0 a3 m0) ?_)
        refine zw_ite (fun h7 => ?_) (fun h7 => ?_)
        · refine zw_b (by omega) ?_
          refine zw_some ?_
          refine zw_ite (fun h8 => ?_) (fun h8 => ?_)
          · exfalso; omega
          · exact zw_some ⟨hIm0, hFm0, ⟨by omega, by omega⟩⟩
        · have r9 : 0 ≤ (m0 a0 2) ∧ (m0 a0 2) ≤ 16 := zi_rd hIm0 hc0 zb_11_2
          refine zw_ite (fun h10 => ?_) (fun h10 => ?_)
          · refine zw_b (by omega) ?_
            refine zw_some ?_
            refine zw_ite (fun h11 => ?_) (fun h11 => ?_)
            · exfalso; omega
            · exact zw_some ⟨hIm0, hFm0, ⟨by omega, by omega⟩⟩
          · refine zw_b (by omega) ?_
            refine zw_some ?_
            refine zw_ite (fun h12 => ?_) (fun h12 => ?_)
            · have b13 : 0 ≤ a2 ∧ a2 < 4 := by omega
              refine zw_if b13 ?_
              have r14 : (-2147483648) ≤ (m0 ((a0 + 2) + 20 + a2) 6) ∧ (m0 ((a0 + 2) + 20 + a2) 6) ≤ 2147483647 := zi_rd hIm0 (zc_37_e (zc_11_3 hc0) b13) zb_8_6
              refine zw_bd (zw_mono (zk_224 n hIm0 hc0 ⟨by omega, by omega⟩ ⟨by omega, by omega⟩ ⟨by omega, by omega⟩) (fun v16 m15 hqm15 => ?_))
              obtain ⟨hIm15, hfm15, hvm15⟩ := hqm15
              have hFm15 := zfr_tr hFm0 hfm15 rfl
              refine zw_bd (zw_eq (zr_249_0 n 50 a1 m15) ?_)
              refine zw_bd (zw_mono (zk_26 n hIm15 (zc_4_9 zq_50) (zc_4_12 zq_50) ⟨by omega, by omega⟩) (fun v18 m17 hqm17 => ?_))
              obtain ⟨hIm17, hfm17, hvm17⟩ := hqm17
              have hFm17 := zfr_tr hFm15 hfm17 rfl
              refine zw_some ?_
              exact zw_some ⟨hIm17, hFm17, ⟨by omega, by omega⟩⟩
            · exfalso; omega
set_option maxHeartbeats 4000000 in
theorem zk_229 (n : Nat) {a0 a1 : Int} {m0 : zu_m} (hIm0 : zi_I m0) (hc0 : zcls a0 = 11) (ha1 : 0 ≤ a1 ∧ a1 ≤ 15)    : zw (zu_call (zt_T n) 229 [(27, a0), (0, a1)] m0) (fun v m => zi_I m ∧ zfr [(24, 0), (27, 0)] m0 m ∧ ((-9223372036854775808) ≤ v ∧ v ≤ 9223372036854775807)) := by
  have hFm0 : zfr [(24, 0), (27, 0)] m0 m0 := zfr_rf _ _
  refine zw_eq (zr_229_0 n a0 a1 m0) ?_
  refine zw_bd (zw_mono (zk_228 n hIm0 hc0 ⟨by omega, by omega⟩) (fun v2 m1 hqm1 => ?_))
  obtain ⟨hIm1, hfm1, hvm1⟩ := hqm1
  have hFm1 := zfr_tr hFm0 hfm1 rfl
  refine zw_bd (zw_eq (zr_249_0 n 50 3 m1) ?_)
  refine zw_bd (zw_mono (zk_26 n hIm1 (zc_4_9 zq_50) (zc_4_12 zq_50) ⟨by omega, by omega⟩) (fun v4 m3 hqm3 => ?_))
  obtain ⟨hIm3, hfm3, hvm3⟩ := hqm3
  have hFm3 := zfr_tr hFm1 hfm3 rfl
  refine zw_some ?_
  exact zw_some ⟨hIm3, hFm3, ⟨by omega, by omega⟩⟩
set_option maxHeartbeats 4000000 in
theorem zl_230 (n : Nat) {a0 : Int} {m0 : zu_m} (hc0 : zcls a0 = 11)  : ∀ k : Nat, (∀ (x1 x2 : Int) (mh : zu_m), zi_I mh → zfr [(24, 0), (27, 0)] m0 mh → ((-2147483648) ≤ x1 ∧ x1 ≤ 2147483647) → (0 ≤ x2 ∧ x2 ≤ 16) → (16 - x2) * 1 + 0 < (k : Int) → zw (zu_ex (zt_T n) 230 4 [(27, a0), (0, x1), (0, x2)] [] mh) (fun v m => zi_I m ∧ zfr [(24, 0), (27, 0)] m0 m ∧ ((-2147483648) ≤ v ∧ v ≤ 2147483647))) := by
  intro k
  induction k with
  | zero => exact fun x1 x2 mh hImh hFmh hbx1 hbx2 hM => by exfalso; omega
  | succ k ih =>
    intro x1 x2 mh hImh hFmh hbx1 hbx2 hM
    refine zw_eq (zr_230_4 n a0 x1 x2 mh) ?_
    have r1 : 0 ≤ (mh a0 2) ∧ (mh a0 2) ≤ 16 := zi_rd hImh hc0 zb_11_2
    refine zw_ite (fun h2 => ?_) (fun h2 => ?_)
    · exact zw_some ⟨hImh, hFmh, ⟨by omega, by omega⟩⟩
    · have b3 : 0 ≤ x2 ∧ x2 < 16 := by omega
      refine zw_if b3 ?_
      have r4 : (-3) ≤ (mh ((a0 + 1) + 5 + x2) 3) ∧ (mh ((a0 + 1) + 5 + x2) 3) ≤ 3 := zi_rd hImh (zc_36_e (zc_11_1 hc0) b3) zb_7_3
      refine zw_ite (fun h5 => ?_) (fun h5 => ?_)
      · have w6 := zu_w32_id (z := x2 + 1) (by omega) (by omega)
        have hM : (16 - (zu_w32 (x2 + 1))) * 1 + 0 < (k : Int) := by omega
        exact ih x1 (zu_w32 (x2 + 1)) mh hImh hFmh ⟨by omega, by omega⟩ ⟨by omega, by omega⟩ hM
      · refine zw_bd (zw_mono (zk_228 n hImh hc0 ⟨by omega, by omega⟩) (fun v8 m7 hqm7 => ?_))
        obtain ⟨hIm7, hfm7, hvm7⟩ := hqm7
        have hFm7 := zfr_tr hFmh hfm7 rfl
        refine zw_bd (zw_mono (zk_252 n hIm7 zq_50) (fun v10 m9 hqm9 => ?_))
        obtain ⟨hIm9, hfm9, hvm9⟩ := hqm9
        have hFm9 := zfr_tr hFm7 hfm9 rfl
        have w11 := zu_w32_id (z := 100 - v10) (by omega) (by omega)
        have w12 := zu_w32_rg (x1 + (zu_w32 (100 - v10)))
        have w13 := zu_w32_id (z := x2 + 1) (by omega) (by omega)
        have hM : (16 - (zu_w32 (x2 + 1))) * 1 + 0 < (k : Int) := by omega
        exact ih (zu_w32 (x1 + (zu_w32 (100 - v10)))) (zu_w32 (x2 + 1)) m9 hIm9 hFm9 ⟨by omega, by omega⟩ ⟨by omega, by omega⟩ hM
set_option maxHeartbeats 4000000 in
theorem zk_230 (n : Nat) {a0 : Int} {m0 : zu_m} (hIm0 : zi_I m0) (hc0 : zcls a0 = 11)     : zw (zu_call (zt_T n) 230 [(27, a0)] m0) (fun v m => zi_I m ∧ zfr [(24, 0), (27, 0)] m0 m ∧ ((-2147483648) ≤ v ∧ v ≤ 2147483647)) := by
  have hFm0 : zfr [(24, 0), (27, 0)] m0 m0 := zfr_rf _ _
  refine zw_eq (zr_230_0 n a0 m0) ?_
  have hM : (16 - 0) * 1 + 0 < ((17 : Nat) : Int) := by omega
  exact (zl_230 n (m0 := m0) hc0 17) 0 0 m0 hIm0 hFm0 ⟨by omega, by omega⟩ ⟨by omega, by omega⟩ hM

set_option maxHeartbeats 4000000 in
theorem zk_291 (n : Nat) {a0 a1 a2 : Int} {m0 : zu_m} (hIm0 : zi_I m0) (hc0 : zcls a0 = 24) (ha1 : 0 ≤ a1 ∧ a1 ≤ 3) (ha2 : 0 ≤ a2 ∧ a2 ≤ 17)    (hRK54m0 : zR_K54 m0) : zw (zu_call (zt_T n) 291 [(33, a0), (0, a1), (0, a2)] m0) (fun v m => zi_I m ∧ zfr [(56, 0), (59, 1), (59, 2), (59, 3), (59, 4), (59, 5), (59, 6), (59, 7), (90, 0), (91, 0)] m0 m ∧ zR_K54 m ∧ (0 ≤ v ∧ v ≤ 1)) := by
  have hFm0 : zfr [(56, 0), (59, 1), (59, 2), (59, 3), (59, 4), (59, 5), (59, 6), (59, 7), (90, 0), (91, 0)] m0 m0 := zfr_rf _ _
  refine zw_eq (zr_291_0 n a0 a1 a2 m0) ?_
  have r1 : 0 ≤ (m0 89 2) ∧ (m0 89 2) ≤ 16 := zi_rd hIm0 zq_89 zb_16_2
  refine zw_ite (fun h2 => ?_) (fun h2 => ?_)
  · have w3 := zu_w32_id (z := a1 * 64) (by omega) (by omega)
    refine zw_ite (fun h4 => ?_) (fun h4 => ?_)
    · have b5 : 0 ≤ a2 ∧ a2 < 18 := by omega
      refine zw_if b5 ?_
      have r6 : 0 ≤ (m0 155 a2) ∧ (m0 155 a2) ≤ 47 := zi_rd hIm0 zq_155 (zb_86 _)
      have w7 := zu_w32_id (z := 16 + (m0 155 a2)) (by omega) (by omega)
      have w8 := zu_w32_id (z := (zu_w32 (a1 * 64)) + (zu_w32 (16 + (m0 155 a2)))) (by omega) (by omega)
      have b9 : 0 ≤ a1 ∧ a1 < 4 := by omega
      refine zw_if b9 ?_
      have r10 : (-2147483648) ≤ (m0 158 a1) ∧ (m0 158 a1) ≤ 2147483647 := zi_rd hIm0 zq_158 (zb_89 _)
      have b11 := zu_i32_rg 5 1 (m0 158 a1)
      have b12 : 0 ≤ (zu_w32 ((zu_w32 (a1 * 64)) + (zu_w32 (16 + (m0 155 a2))))) ∧ (zu_w32 ((zu_w32 (a1 * 64)) + (zu_w32 (16 + (m0 155 a2))))) < 256 := by omega
      refine zw_if b12 ?_
      have r13 : (-2147483648) ≤ (m0 159 (zu_w32 ((zu_w32 (a1 * 64)) + (zu_w32 (16 + (m0 155 a2)))))) ∧ (m0 159 (zu_w32 ((zu_w32 (a1 * 64)) + (zu_w32 (16 + (m0 155 a2)))))) ≤ 2147483647 := zi_rd hIm0 zq_159 (zb_90 _)
      have b14 := zu_i32_rg 3 (m0 159 (zu_w32 ((zu_w32 (a1 * 64)) + (zu_w32 (16 + (m0 155 a2)))))) (zu_i32 5 1 (m0 158 a1))
      refine zw_ite (fun h15 => ?_) (fun h15 => ?_)
      · have b16 : 0 ≤ (zu_w32 ((zu_w32 (a1 * 64)) + (zu_w32 (16 + (m0 155 a2))))) ∧ (zu_w32 ((zu_w32 (a1 * 64)) + (zu_w32 (16 + (m0 155 a2))))) < 256 := by omega
        refine zw_if b16 ?_
        have r17 : (-2147483648) ≤ (m0 160 (zu_w32 ((zu_w32 (a1 * 64)) + (zu_w32 (16 + (m0 155 a2)))))) ∧ (m0 160 (zu_w32 ((zu_w32 (a1 * 64)) + (zu_w32 (16 + (m0 155 a2)))))) ≤ 2147483647 := zi_rd hIm0 zq_160 (zb_91 _)
        have b18 := zu_i32_rg 3 (m0 160 (zu_w32 ((zu_w32 (a1 * 64)) + (zu_w32 (16 + (m0 155 a2)))))) (zu_i32 5 1 (m0 158 a1))
        refine zw_ite (fun h19 => ?_) (fun h19 => ?_)
        · refine zw_b (by omega) ?_
          exact zw_some ⟨hIm0, hFm0, hRK54m0, ⟨by omega, by omega⟩⟩
        · refine zw_ite (fun h20 => ?_) (fun h20 => ?_)
          · have r21 : 0 ≤ (m0 a0 13) ∧ (m0 a0 13) ≤ 3 := zi_rd hIm0 hc0 zb_24_13
            refine zw_bd (zw_eq (zr_217_0 n 89 a1 (m0 a0 13) m0) ?_)
            have r22 : 0 ≤ (m0 89 10) ∧ (m0 89 10) ≤ 3 := zi_rd hIm0 zq_89 zb_16_10
            refine zw_ite (fun h23 => ?_) (fun h23 => ?_)
            · refine zw_b (by omega) ?_
              refine zw_some ?_
              refine zw_ite (fun h24 => ?_) (fun h24 => ?_)
              · exfalso; omega
              · refine zw_b (by omega) ?_
                exact zw_some ⟨hIm0, hFm0, hRK54m0, ⟨by omega, by omega⟩⟩
            · refine zw_nif (by omega) ?_
              have d25 : Int.tmod a1 4 = a1 % 4 := Int.tmod_eq_emod_of_nonneg (by omega)
              refine zw_ite (fun h26 => ?_) (fun h26 => ?_)
              · refine zw_b (by omega) ?_
                refine zw_some ?_
                refine zw_ite (fun h27 => ?_) (fun h27 => ?_)
                · refine zw_b (by omega) ?_
                  exact zw_some ⟨hIm0, hFm0, hRK54m0, ⟨by omega, by omega⟩⟩
                · exfalso; omega
              · refine zw_b (by omega) ?_
                refine zw_some ?_
                refine zw_ite (fun h28 => ?_) (fun h28 => ?_)
                · exfalso; omega
                · refine zw_b (by omega) ?_
                  exact zw_some ⟨hIm0, hFm0, hRK54m0, ⟨by omega, by omega⟩⟩
          · exfalso; omega
      · have b29 : 0 ≤ (zu_w32 ((zu_w32 (a1 * 64)) + (zu_w32 (16 + (m0 155 a2))))) ∧ (zu_w32 ((zu_w32 (a1 * 64)) + (zu_w32 (16 + (m0 155 a2))))) < 256 := by omega
        refine zw_if b29 ?_
        have b30 := zu_i32_rg 4 (m0 159 (zu_w32 ((zu_w32 (a1 * 64)) + (zu_w32 (16 + (m0 155 a2)))))) (zu_i32 5 1 (m0 158 a1))
        have b31 : 0 ≤ (zu_w32 ((zu_w32 (a1 * 64)) + (zu_w32 (16 + (m0 155 a2))))) ∧ (zu_w32 ((zu_w32 (a1 * 64)) + (zu_w32 (16 + (m0 155 a2))))) < 256 := by omega
        refine zw_if b31 ?_
        generalize hmm32 : zu_up m0 159 (zu_w32 ((zu_w32 (a1 * 64)) + (zu_w32 (16 + (m0 155 a2))))) (zu_i32 4 (m0 159 (zu_w32 ((zu_w32 (a1 * 64)) + (zu_w32 (16 + (m0 155 a2)))))) (zu_i32 5 1 (m0 158 a1))) = m32
        have hIm32 := zi_up hmm32 hIm0 zq_159 (zb_90 _) (by omega) (by omega)
        have hFm32 := zfr_up hmm32 hFm0 zq_159 rfl
        have hRK54m32 := zR_K54_fr (zdis_fr (zfr_up hmm32 (zfr_rf [(90, 0)] _) zq_159 rfl) rfl) hRK54m0
        refine zw_bd (zw_mono (zk_292 n hIm32 hc0 ⟨by omega, by omega⟩ ⟨by omega, by omega⟩) (fun v34 m33 hqm33 => ?_))
        obtain ⟨hIm33, hfm33, hvm33⟩ := hqm33
        have hFm33 := zfr_tr hFm32 hfm33 rfl
        have hRK54m33 := zR_K54_fr (zdis_fr hfm33 rfl) hRK54m32
        refine zw_bd (zw_mono (zk_250 n hIm33 zq_50 hRK54m33) (fun v36 m35 hqm35 => ?_))
        obtain ⟨hIm35, hfm35, hvm35⟩ := hqm35
        have hFm35 := zfr_tr hFm33 hfm35 rfl
        obtain ⟨hRK54m35, hvm35⟩ := hvm35
        refine zw_ite (fun h37 => ?_) (fun h37 => ?_)
        · have b38 : 0 ≤ (zu_w32 ((zu_w32 (a1 * 64)) + (zu_w32 (16 + (m0 155 a2))))) ∧ (zu_w32 ((zu_w32 (a1 * 64)) + (zu_w32 (16 + (m0 155 a2))))) < 256 := by omega
          refine zw_if b38 ?_
          have r39 : (-2147483648) ≤ (m35 160 (zu_w32 ((zu_w32 (a1 * 64)) + (zu_w32 (16 + (m0 155 a2)))))) ∧ (m35 160 (zu_w32 ((zu_w32 (a1 * 64)) + (zu_w32 (16 + (m0 155 a2)))))) ≤ 2147483647 := zi_rd hIm35 zq_160 (zb_91 _)
          have b40 := zu_i32_rg 3 (m35 160 (zu_w32 ((zu_w32 (a1 * 64)) + (zu_w32 (16 + (m0 155 a2)))))) (zu_i32 5 1 (m0 158 a1))
          refine zw_ite (fun h41 => ?_) (fun h41 => ?_)
          · refine zw_b (by omega) ?_
            exact zw_some ⟨hIm35, hFm35, hRK54m35, ⟨by omega, by omega⟩⟩
          · refine zw_ite (fun h42 => ?_) (fun h42 => ?_)
            · have r43 : 0 ≤ (m35 a0 13) ∧ (m35 a0 13) ≤ 3 := zi_rd hIm35 hc0 zb_24_13
              refine zw_bd (zw_eq (zr_217_0 n 89 a1 (m35 a0 13) m35) ?_)
              have r44 : 0 ≤ (m35 89 10) ∧ (m35 89 10) ≤ 3 := zi_rd hIm35 zq_89 zb_16_10
              refine zw_ite (fun h45 => ?_) (fun h45 => ?_)
              · refine zw_b (by omega) ?_
                refine zw_some ?_
                refine zw_ite (fun h46 => ?_) (fun h46 => ?_)
                · exfalso; omega
                · refine zw_b (by omega) ?_
                  exact zw_some ⟨hIm35, hFm35, hRK54m35, ⟨by omega, by omega⟩⟩
              · refine zw_nif (by omega) ?_
                have d47 : Int.tmod a1 4 = a1 % 4 := Int.tmod_eq_emod_of_nonneg (by omega)
                refine zw_ite (fun h48 => ?_) (fun h48 => ?_)
                · refine zw_b (by omega) ?_
                  refine zw_some ?_
                  refine zw_ite (fun h49 => ?_) (fun h49 => ?_)
                  · refine zw_b (by omega) ?_
                    exact zw_some ⟨hIm35, hFm35, hRK54m35, ⟨by omega, by omega⟩⟩
                  · exfalso; omega
                · refine zw_b (by omega) ?_
                  refine zw_some ?_
                  refine zw_ite (fun h50 => ?_) (fun h50 => ?_)
                  · exfalso; omega
                  · refine zw_b (by omega) ?_
                    exact zw_some ⟨hIm35, hFm35, hRK54m35, ⟨by omega, by omega⟩⟩
            · exfalso; omega
        · have b51 : 0 ≤ (zu_w32 ((zu_w32 (a1 * 64)) + (zu_w32 (16 + (m0 155 a2))))) ∧ (zu_w32 ((zu_w32 (a1 * 64)) + (zu_w32 (16 + (m0 155 a2))))) < 256 := by omega
          refine zw_if b51 ?_
          have r52 : (-2147483648) ≤ (m35 160 (zu_w32 ((zu_w32 (a1 * 64)) + (zu_w32 (16 + (m0 155 a2)))))) ∧ (m35 160 (zu_w32 ((zu_w32 (a1 * 64)) + (zu_w32 (16 + (m0 155 a2)))))) ≤ 2147483647 := zi_rd hIm35 zq_160 (zb_91 _)
          have b53 := zu_i32_rg 4 (m35 160 (zu_w32 ((zu_w32 (a1 * 64)) + (zu_w32 (16 + (m0 155 a2)))))) (zu_i32 5 1 (m0 158 a1))
          have b54 : 0 ≤ (zu_w32 ((zu_w32 (a1 * 64)) + (zu_w32 (16 + (m0 155 a2))))) ∧ (zu_w32 ((zu_w32 (a1 * 64)) + (zu_w32 (16 + (m0 155 a2))))) < 256 := by omega
          refine zw_if b54 ?_
          generalize hmm55 : zu_up m35 160 (zu_w32 ((zu_w32 (a1 * 64)) + (zu_w32 (16 + (m0 155 a2))))) (zu_i32 4 (m35 160 (zu_w32 ((zu_w32 (a1 * 64)) + (zu_w32 (16 + (m0 155 a2)))))) (zu_i32 5 1 (m0 158 a1))) = m55
          have hIm55 := zi_up hmm55 hIm35 zq_160 (zb_91 _) (by omega) (by omega)
          have hFm55 := zfr_up hmm55 hFm35 zq_160 rfl
          have hRK54m55 := zR_K54_fr (zdis_fr (zfr_up hmm55 (zfr_rf [(91, 0)] _) zq_160 rfl) rfl) hRK54m35
          have b56 : 0 ≤ (zu_w32 ((zu_w32 (a1 * 64)) + (zu_w32 (16 + (m0 155 a2))))) ∧ (zu_w32 ((zu_w32 (a1 * 64)) + (zu_w32 (16 + (m0 155 a2))))) < 256 := by omega
          refine zw_if b56 ?_
          have r57 : (-2147483648) ≤ (m55 160 (zu_w32 ((zu_w32 (a1 * 64)) + (zu_w32 (16 + (m0 155 a2)))))) ∧ (m55 160 (zu_w32 ((zu_w32 (a1 * 64)) + (zu_w32 (16 + (m0 155 a2)))))) ≤ 2147483647 := zi_rd hIm55 zq_160 (zb_91 _)
          have e58 : (m55 160 (zu_w32 ((zu_w32 (a1 * 64)) + (zu_w32 (16 + (m0 155 a2)))))) = (zu_i32 4 (m35 160 (zu_w32 ((zu_w32 (a1 * 64)) + (zu_w32 (16 + (m0 155 a2)))))) (zu_i32 5 1 (m0 158 a1))) := (zs_eq hmm55)
          have b59 := zu_i32_rg 3 (m55 160 (zu_w32 ((zu_w32 (a1 * 64)) + (zu_w32 (16 + (m0 155 a2)))))) (zu_i32 5 1 (m0 158 a1))
          refine zw_ite (fun h60 => ?_) (fun h60 => ?_)
          · refine zw_b (by omega) ?_
            exact zw_some ⟨hIm55, hFm55, hRK54m55, ⟨by omega, by omega⟩⟩
          · refine zw_ite (fun h61 => ?_) (fun h61 => ?_)
            · have r62 : 0 ≤ (m55 a0 13) ∧ (m55 a0 13) ≤ 3 := zi_rd hIm55 hc0 zb_24_13
              refine zw_bd (zw_eq (zr_217_0 n 89 a1 (m55 a0 13) m55) ?_)
              have r63 : 0 ≤ (m55 89 10) ∧ (m55 89 10) ≤ 3 := zi_rd hIm55 zq_89 zb_16_10
              refine zw_ite (fun h64 => ?_) (fun h64 => ?_)
              · refine zw_b (by omega) ?_
                refine zw_some ?_
                refine zw_ite (fun h65 => ?_) (fun h65 => ?_)
                · exfalso; omega
                · refine zw_b (by omega) ?_
                  exact zw_some ⟨hIm55, hFm55, hRK54m55, ⟨by omega, by omega⟩⟩
              · refine zw_nif (by omega) ?_
                have d66 : Int.tmod a1 4 = a1 % 4 := Int.tmod_eq_emod_of_nonneg (by omega)
                refine zw_ite (fun h67 => ?_) (fun h67 => ?_)
                · refine zw_b (by omega) ?_
                  refine zw_some ?_
                  refine zw_ite (fun h68 => ?_) (fun h68 => ?_)
                  · refine zw_b (by omega) ?_
                    exact zw_some ⟨hIm55, hFm55, hRK54m55, ⟨by omega, by omega⟩⟩
                  · exfalso; omega
                · refine zw_b (by omega) ?_
                  refine zw_some ?_
                  refine zw_ite (fun h69 => ?_) (fun h69 => ?_)
                  · exfalso; omega
                  · refine zw_b (by omega) ?_
                    exact zw_some ⟨hIm55, hFm55, hRK54m55, ⟨by omega, by omega⟩⟩
            · exfalso; omega
    · exfalso; omega
  · have w70 := zu_w32_id (z := a1 * 64) (by omega) (by omega)
    refine zw_ite (fun h71 => ?_) (fun h71 => ?_)
    · exfalso; omega
    · have w72 := zu_w32_id (z := (zu_w32 (a1 * 64)) + a2) (by omega) (by omega)
      have b73 : 0 ≤ a1 ∧ a1 < 4 := by omega
      refine zw_if b73 ?_
      have r74 : (-2147483648) ≤ (m0 158 a1) ∧ (m0 158 a1) ≤ 2147483647 := zi_rd hIm0 zq_158 (zb_89 _)
      have b75 := zu_i32_rg 5 1 (m0 158 a1)
      have b76 : 0 ≤ (zu_w32 ((zu_w32 (a1 * 64)) + a2)) ∧ (zu_w32 ((zu_w32 (a1 * 64)) + a2)) < 256 := by omega
      refine zw_if b76 ?_
      have r77 : (-2147483648) ≤ (m0 159 (zu_w32 ((zu_w32 (a1 * 64)) + a2))) ∧ (m0 159 (zu_w32 ((zu_w32 (a1 * 64)) + a2))) ≤ 2147483647 := zi_rd hIm0 zq_159 (zb_90 _)
      have b78 := zu_i32_rg 3 (m0 159 (zu_w32 ((zu_w32 (a1 * 64)) + a2))) (zu_i32 5 1 (m0 158 a1))
      refine zw_ite (fun h79 => ?_) (fun h79 => ?_)
      · have b80 : 0 ≤ (zu_w32 ((zu_w32 (a1 * 64)) + a2)) ∧ (zu_w32 ((zu_w32 (a1 * 64)) + a2)) < 256 := by omega
        refine zw_if b80 ?_
        have r81 : (-2147483648) ≤ (m0 160 (zu_w32 ((zu_w32 (a1 * 64)) + a2))) ∧ (m0 160 (zu_w32 ((zu_w32 (a1 * 64)) + a2))) ≤ 2147483647 := zi_rd hIm0 zq_160 (zb_91 _)
        have b82 := zu_i32_rg 3 (m0 160 (zu_w32 ((zu_w32 (a1 * 64)) + a2))) (zu_i32 5 1 (m0 158 a1))
        refine zw_ite (fun h83 => ?_) (fun h83 => ?_)
        · refine zw_b (by omega) ?_
          exact zw_some ⟨hIm0, hFm0, hRK54m0, ⟨by omega, by omega⟩⟩
        · refine zw_ite (fun h84 => ?_) (fun h84 => ?_)
          · exfalso; omega
          · have b85 : 0 ≤ a2 ∧ a2 < 16 := by omega
            refine zw_if b85 ?_
            have r86 : 0 ≤ (m0 ((89 + 1) + 5 + a2) 1) ∧ (m0 ((89 + 1) + 5 + a2) 1) ≤ 3 := zi_rd hIm0 (zc_65_e (zc_16_1 zq_89) b85) zb_17_1
            refine zw_bd (zw_eq (zr_217_0 n 89 a1 (m0 ((89 + 1) + 5 + a2) 1) m0) ?_)
            have r87 : 0 ≤ (m0 89 10) ∧ (m0 89 10) ≤ 3 := zi_rd hIm0 zq_89 zb_16_10
            refine zw_ite (fun h88 => ?_) (fun h88 => ?_)
            · refine zw_b (by omega) ?_
              refine zw_some ?_
              refine zw_ite (fun h89 => ?_) (fun h89 => ?_)
              · exfalso; omega
              · refine zw_b (by omega) ?_
                exact zw_some ⟨hIm0, hFm0, hRK54m0, ⟨by omega, by omega⟩⟩
            · refine zw_nif (by omega) ?_
              have d90 : Int.tmod a1 4 = a1 % 4 := Int.tmod_eq_emod_of_nonneg (by omega)
              refine zw_ite (fun h91 => ?_) (fun h91 => ?_)
              · refine zw_b (by omega) ?_
                refine zw_some ?_
                refine zw_ite (fun h92 => ?_) (fun h92 => ?_)
                · refine zw_b (by omega) ?_
                  exact zw_some ⟨hIm0, hFm0, hRK54m0, ⟨by omega, by omega⟩⟩
                · exfalso; omega
              · refine zw_b (by omega) ?_
                refine zw_some ?_
                refine zw_ite (fun h93 => ?_) (fun h93 => ?_)
                · exfalso; omega
                · refine zw_b (by omega) ?_
                  exact zw_some ⟨hIm0, hFm0, hRK54m0, ⟨by omega, by omega⟩⟩
      · have b94 : 0 ≤ (zu_w32 ((zu_w32 (a1 * 64)) + a2)) ∧ (zu_w32 ((zu_w32 (a1 * 64)) + a2)) < 256 := by omega
        refine zw_if b94 ?_
        have b95 := zu_i32_rg 4 (m0 159 (zu_w32 ((zu_w32 (a1 * 64)) + a2))) (zu_i32 5 1 (m0 158 a1))
        have b96 : 0 ≤ (zu_w32 ((zu_w32 (a1 * 64)) + a2)) ∧ (zu_w32 ((zu_w32 (a1 * 64)) + a2)) < 256 := by omega
        refine zw_if b96 ?_
        generalize hmm97 : zu_up m0 159 (zu_w32 ((zu_w32 (a1 * 64)) + a2)) (zu_i32 4 (m0 159 (zu_w32 ((zu_w32 (a1 * 64)) + a2))) (zu_i32 5 1 (m0 158 a1))) = m97
        have hIm97 := zi_up hmm97 hIm0 zq_159 (zb_90 _) (by omega) (by omega)
        have hFm97 := zfr_up hmm97 hFm0 zq_159 rfl
        have hRK54m97 := zR_K54_fr (zdis_fr (zfr_up hmm97 (zfr_rf [(90, 0)] _) zq_159 rfl) rfl) hRK54m0
        refine zw_bd (zw_mono (zk_292 n hIm97 hc0 ⟨by omega, by omega⟩ ⟨by omega, by omega⟩) (fun v99 m98 hqm98 => ?_))
        obtain ⟨hIm98, hfm98, hvm98⟩ := hqm98
        have hFm98 := zfr_tr hFm97 hfm98 rfl
        have hRK54m98 := zR_K54_fr (zdis_fr hfm98 rfl) hRK54m97
        refine zw_bd (zw_mono (zk_250 n hIm98 zq_50 hRK54m98) (fun v101 m100 hqm100 => ?_))
        obtain ⟨hIm100, hfm100, hvm100⟩ := hqm100
        have hFm100 := zfr_tr hFm98 hfm100 rfl
        obtain ⟨hRK54m100, hvm100⟩ := hvm100
        refine zw_ite (fun h102 => ?_) (fun h102 => ?_)
        · have b103 : 0 ≤ (zu_w32 ((zu_w32 (a1 * 64)) + a2)) ∧ (zu_w32 ((zu_w32 (a1 * 64)) + a2)) < 256 := by omega
          refine zw_if b103 ?_
          have r104 : (-2147483648) ≤ (m100 160 (zu_w32 ((zu_w32 (a1 * 64)) + a2))) ∧ (m100 160 (zu_w32 ((zu_w32 (a1 * 64)) + a2))) ≤ 2147483647 := zi_rd hIm100 zq_160 (zb_91 _)
          have b105 := zu_i32_rg 3 (m100 160 (zu_w32 ((zu_w32 (a1 * 64)) + a2))) (zu_i32 5 1 (m0 158 a1))
          refine zw_ite (fun h106 => ?_) (fun h106 => ?_)
          · refine zw_b (by omega) ?_
            exact zw_some ⟨hIm100, hFm100, hRK54m100, ⟨by omega, by omega⟩⟩
          · refine zw_ite (fun h107 => ?_) (fun h107 => ?_)
            · exfalso; omega
            · have b108 : 0 ≤ a2 ∧ a2 < 16 := by omega
              refine zw_if b108 ?_
              have r109 : 0 ≤ (m100 ((89 + 1) + 5 + a2) 1) ∧ (m100 ((89 + 1) + 5 + a2) 1) ≤ 3 := zi_rd hIm100 (zc_65_e (zc_16_1 zq_89) b108) zb_17_1
              refine zw_bd (zw_eq (zr_217_0 n 89 a1 (m100 ((89 + 1) + 5 + a2) 1) m100) ?_)
              have r110 : 0 ≤ (m100 89 10) ∧ (m100 89 10) ≤ 3 := zi_rd hIm100 zq_89 zb_16_10
              refine zw_ite (fun h111 => ?_) (fun h111 => ?_)
              · refine zw_b (by omega) ?_
                refine zw_some ?_
                refine zw_ite (fun h112 => ?_) (fun h112 => ?_)
                · exfalso; omega
                · refine zw_b (by omega) ?_
                  exact zw_some ⟨hIm100, hFm100, hRK54m100, ⟨by omega, by omega⟩⟩
              · refine zw_nif (by omega) ?_
                have d113 : Int.tmod a1 4 = a1 % 4 := Int.tmod_eq_emod_of_nonneg (by omega)
                refine zw_ite (fun h114 => ?_) (fun h114 => ?_)
                · refine zw_b (by omega) ?_
                  refine zw_some ?_
                  refine zw_ite (fun h115 => ?_) (fun h115 => ?_)
                  · refine zw_b (by omega) ?_
                    exact zw_some ⟨hIm100, hFm100, hRK54m100, ⟨by omega, by omega⟩⟩
                  · exfalso; omega
                · refine zw_b (by omega) ?_
                  refine zw_some ?_
                  refine zw_ite (fun h116 => ?_) (fun h116 => ?_)
                  · exfalso; omega
                  · refine zw_b (by omega) ?_
                    exact zw_some ⟨hIm100, hFm100, hRK54m100, ⟨by omega, by omega⟩⟩
        · have b117 : 0 ≤ (zu_w32 ((zu_w32 (a1 * 64)) + a2)) ∧ (zu_w32 ((zu_w32 (a1 * 64)) + a2)) < 256 := by omega
          refine zw_if b117 ?_
          have r118 : (-2147483648) ≤ (m100 160 (zu_w32 ((zu_w32 (a1 * 64)) + a2))) ∧ (m100 160 (zu_w32 ((zu_w32 (a1 * 64)) + a2))) ≤ 2147483647 := zi_rd hIm100 zq_160 (zb_91 _)
          have b119 := zu_i32_rg 4 (m100 160 (zu_w32 ((zu_w32 (a1 * 64)) + a2))) (zu_i32 5 1 (m0 158 a1))
          have b120 : 0 ≤ (zu_w32 ((zu_w32 (a1 * 64)) + a2)) ∧ (zu_w32 ((zu_w32 (a1 * 64)) + a2)) < 256 := by omega
          refine zw_if b120 ?_
          generalize hmm121 : zu_up m100 160 (zu_w32 ((zu_w32 (a1 * 64)) + a2)) (zu_i32 4 (m100 160 (zu_w32 ((zu_w32 (a1 * 64)) + a2))) (zu_i32 5 1 (m0 158 a1))) = m121
          have hIm121 := zi_up hmm121 hIm100 zq_160 (zb_91 _) (by omega) (by omega)
          have hFm121 := zfr_up hmm121 hFm100 zq_160 rfl
          have hRK54m121 := zR_K54_fr (zdis_fr (zfr_up hmm121 (zfr_rf [(91, 0)] _) zq_160 rfl) rfl) hRK54m100
          have b122 : 0 ≤ (zu_w32 ((zu_w32 (a1 * 64)) + a2)) ∧ (zu_w32 ((zu_w32 (a1 * 64)) + a2)) < 256 := by omega
          refine zw_if b122 ?_
          have r123 : (-2147483648) ≤ (m121 160 (zu_w32 ((zu_w32 (a1 * 64)) + a2))) ∧ (m121 160 (zu_w32 ((zu_w32 (a1 * 64)) + a2))) ≤ 2147483647 := zi_rd hIm121 zq_160 (zb_91 _)
          have e124 : (m121 160 (zu_w32 ((zu_w32 (a1 * 64)) + a2))) = (zu_i32 4 (m100 160 (zu_w32 ((zu_w32 (a1 * 64)) + a2))) (zu_i32 5 1 (m0 158 a1))) := (zs_eq hmm121)
          have b125 := zu_i32_rg 3 (m121 160 (zu_w32 ((zu_w32 (a1 * 64)) + a2))) (zu_i32 5 1 (m0 158 a1))
          refine zw_ite (fun h126 => ?_) (fun h126 => ?_)
          · refine zw_b (by omega) ?_
            exact zw_some ⟨hIm121, hFm121, hRK54m121, ⟨by omega, by omega⟩⟩
          · refine zw_ite (fun h127 => ?_) (fun h127 => ?_)
            · exfalso; omega
            · have b128 : 0 ≤ a2 ∧ a2 < 16 := by omega
              refine zw_if b128 ?_
              have r129 : 0 ≤ (m121 ((89 + 1) + 5 + a2) 1) ∧ (m121 ((89 + 1) + 5 + a2) 1) ≤ 3 := zi_rd hIm121 (zc_65_e (zc_16_1 zq_89) b128) zb_17_1
              refine zw_bd (zw_eq (zr_217_0 n 89 a1 (m121 ((89 + 1) + 5 + a2) 1) m121) ?_)
              have r130 : 0 ≤ (m121 89 10) ∧ (m121 89 10) ≤ 3 := zi_rd hIm121 zq_89 zb_16_10
              refine zw_ite (fun h131 => ?_) (fun h131 => ?_)
              · refine zw_b (by omega) ?_
                refine zw_some ?_
                refine zw_ite (fun h132 => ?_) (fun h132 => ?_)
                · exfalso; omega
                · refine zw_b (by omega) ?_
                  exact zw_some ⟨hIm121, hFm121, hRK54m121, ⟨by omega, by omega⟩⟩
              · refine zw_nif (by omega) ?_
                have d133 : Int.tmod a1 4 = a1 % 4 := Int.tmod_eq_emod_of_nonneg (by omega)
                refine zw_ite (fun h134 => ?_) (fun h134 => ?_)
                · refine zw_b (by omega) ?_
                  refine zw_some ?_
                  refine zw_ite (fun h135 => ?_) (fun h135 => ?_)
                  · refine zw_b (by omega) ?_
                    exact zw_some ⟨hIm121, hFm121, hRK54m121, ⟨by omega, by omega⟩⟩
                  · exfalso; omega
                · refine zw_b (by omega) ?_
                  refine zw_some ?_
                  refine zw_ite (fun h136 => ?_) (fun h136 => ?_)
                  · exfalso; omega
                  · refine zw_b (by omega) ?_
                    exact zw_some ⟨hIm121, hFm121, hRK54m121, ⟨by omega, by omega⟩⟩
set_option maxHeartbeats 4000000 in
theorem zk_19 (n : Nat) {a0 : Int} {m0 : zu_m} (hIm0 : zi_I m0) (hc0 : zcls a0 = 2)     (hRK10m0 : zR_K10 m0) : zw (zu_call (zt_T n) 19 [(5, a0)] m0) (fun v m => zi_I m ∧ zfr [(2, 10), (11, 1), (11, 2), (11, 3), (11, 4), (11, 5), (11, 6), (12, 6), (12, 7), (13, 3), (13, 5), (13, 9), (13, 10), (13, 11), (13, 12), (14, 1), (14, 2), (14, 3), (14, 4), (15, 1), (15, 2), (15, 3), (15, 4), (15, 5), (15, 6), (15, 7), (15, 8), (16, 3), (16, 5), (16, 9), (16, 10), (16, 11), (16, 12), (17, 1), (17, 2), (17, 3), (17, 4), (18, 1), (18, 2), (18, 3), (18, 4), (18, 5), (18, 6), (18, 7), (18, 8), (22, 7), (22, 8), (23, 5), (49, 0), (50, 0), (51, 0), (52, 0), (53, 0), (54, 0), (55, 0), (56, 0), (57, 0), (58, 0), (59, 1), (59, 2), (59, 3), (59, 4), (59, 5), (59, 6), (59, 7), (62, 0), (63, 0), (67, 0), (68, 0)] m0 m ∧ zR_K10 m ∧ zR_K54 m ∧ True ∧ (0 ≤ m a0 9 ∧ m a0 9 ≤ 0)) := by
  have hFm0 : zfr [(2, 10), (11, 1), (11, 2), (11, 3), (11, 4), (11, 5), (11, 6), (12, 6), (12, 7), (13, 3), (13, 5), (13, 9), (13, 10), (13, 11), (13, 12), (14, 1), (14, 2), (14, 3), (14, 4), (15, 1), (15, 2), (15, 3), (15, 4), (15, 5), (15, 6), (15, 7), (15, 8), (16, 3), (16, 5), (16, 9), (16, 10), (16, 11), (16, 12), (17, 1), (17, 2), (17, 3), (17, 4), (18, 1), (18, 2), (18, 3), (18, 4), (18, 5), (18, 6), (18, 7), (18, 8), (22, 7), (22, 8), (23, 5), (49, 0), (50, 0), (51, 0), (52, 0), (53, 0), (54, 0), (55, 0), (56, 0), (57, 0), (58, 0), (59, 1), (59, 2), (59, 3), (59, 4), (59, 5), (59, 6), (59, 7), (62, 0), (63, 0), (67, 0), (68, 0)] m0 m0 := zfr_rf _ _
  refine zw_eq (zr_19_0 n a0 m0) ?_
  refine zw_bd (zw_mono (zk_20 n hIm0 zq_50 zq_6 hRK10m0) (fun v2 m1 hqm1 => ?_))
  obtain ⟨hIm1, hfm1, hvm1⟩ := hqm1
  have hFm1 := zfr_tr hFm0 hfm1 rfl
  obtain ⟨hRK10m1, hRK54m1, hvm1⟩ := hvm1
  refine zw_bd (zw_mono (zk_22_13_6 n hIm1 zq_63 zq_19) (fun v4 m3 hqm3 => ?_))
  obtain ⟨hIm3, hfm3, hvm3⟩ := hqm3
  have hFm3 := zfr_tr hFm1 hfm3 rfl
  have hRK10m3 := zR_K10_fr (zdis_fr hfm3 rfl) hRK10m1
  have hRK54m3 := zR_K54_fr (zdis_fr hfm3 rfl) hRK54m1
  refine zw_bd (zw_mono (zk_23 n hIm3 zq_50 zq_63 hRK54m3) (fun v6 m5 hqm5 => ?_))
  obtain ⟨hIm5, hfm5, hvm5⟩ := hqm5
  have hFm5 := zfr_tr hFm3 hfm5 rfl
  obtain ⟨hRK54m5, hvm5⟩ := hvm5
  have hRK10m5 := zR_K10_fr (zdis_fr hfm5 rfl) hRK10m3
  refine zw_bd (zw_mono (zk_22_16_13 n hIm5 zq_89 zq_63) (fun v8 m7 hqm7 => ?_))
  obtain ⟨hIm7, hfm7, hvm7⟩ := hqm7
  have hFm7 := zfr_tr hFm5 hfm7 rfl
  have hRK10m7 := zR_K10_fr (zdis_fr hfm7 rfl) hRK10m5
  have hRK54m7 := zR_K54_fr (zdis_fr hfm7 rfl) hRK54m5
  refine zw_b (by omega) ?_
  generalize hmm9 : zu_up m7 a0 9 0 = m9
  have hIm9 := zi_up hmm9 hIm7 hc0 zb_2_9 (by omega) (by omega)
  have hFm9 := zfr_up hmm9 hFm7 hc0 rfl
  have hRK10m9 := zR_K10_fr (zdis_fr (zfr_up hmm9 (zfr_rf [(2, 10)] _) hc0 rfl) rfl) hRK10m7
  have hRK54m9 := zR_K54_fr (zdis_fr (zfr_up hmm9 (zfr_rf [(2, 10)] _) hc0 rfl) rfl) hRK54m7
  refine zw_bd (zw_mono (zk_27 n hIm9 zq_141) (fun v11 m10 hqm10 => ?_))
  obtain ⟨hIm10, hfm10, hvm10⟩ := hqm10
  have hFm10 := zfr_tr hFm9 hfm10 rfl
  have hRK10m10 := zR_K10_fr (zdis_fr hfm10 rfl) hRK10m9
  have hRK54m10 := zR_K54_fr (zdis_fr hfm10 rfl) hRK54m9
  refine zw_bd (zw_mono (zk_28 n hIm10 zq_148) (fun v13 m12 hqm12 => ?_))
  obtain ⟨hIm12, hfm12, hvm12⟩ := hqm12
  have hFm12 := zfr_tr hFm10 hfm12 rfl
  have hRK10m12 := zR_K10_fr (zdis_fr hfm12 rfl) hRK10m10
  have hRK54m12 := zR_K54_fr (zdis_fr hfm12 rfl) hRK54m10
  have r14 : 0 ≤ (m12 a0 9) ∧ (m12 a0 9) ≤ 1 := zi_rd hIm12 hc0 zb_2_9
  have e15 : (m12 a0 9) = 0 := (Eq.trans (zfr_ap hfm12 hc0 rfl) (Eq.trans (zfr_ap hfm10 hc0 rfl) (zs_eq hmm9)))
  exact zw_some ⟨hIm12, hFm12, hRK10m12, hRK54m12, trivial, ⟨by omega, by omega⟩⟩
set_option maxHeartbeats 4000000 in
theorem zk_37 (n : Nat) {a0 a1 : Int} {m0 : zu_m} (hIm0 : zi_I m0) (hc0 : zcls a0 = 28) (ha1 : 0 ≤ a1 ∧ a1 ≤ 47)     : zw (zu_call (zt_T n) 37 [(40, a0), (0, a1)] m0) (fun v m => zi_I m ∧ zfr [(28, 54), (122, 0), (123, 0)] m0 m ∧ ((-2147483648) ≤ v ∧ v ≤ 2147483647)) := by
  have hFm0 : zfr [(28, 54), (122, 0), (123, 0)] m0 m0 := zfr_rf _ _
  refine zw_eq (zr_37_0 n a0 a1 m0) ?_
  refine zw_bd (zw_mono (zk_38 n hIm0 hc0 ⟨by omega, by omega⟩ ⟨by omega, by omega⟩ ⟨by omega, by omega⟩ ⟨by omega, by omega⟩ ⟨by omega, by omega⟩ ⟨by omega, by omega⟩) (fun v2 m1 hqm1 => ?_))
  obtain ⟨hIm1, hfm1, hvm1⟩ := hqm1
  have hFm1 := zfr_tr hFm0 hfm1 rfl
  have b3 : 0 ≤ a1 ∧ a1 < 96 := by omega
  refine zw_if b3 ?_
  have r4 : (-2147483648) ≤ (m1 195 a1) ∧ (m1 195 a1) ≤ 2147483647 := zi_rd hIm1 zq_195 (zb_104 _)
  have w5 := zu_w32_rg (1 + (m1 195 a1))
  refine zw_bd (zw_mono (zk_39 n hIm1 hc0 ⟨by omega, by omega⟩ ⟨by omega, by omega⟩ ⟨by omega, by omega⟩) (fun v7 m6 hqm6 => ?_))
  obtain ⟨hIm6, hfm6, hvm6⟩ := hqm6
  have hFm6 := zfr_tr hFm1 hfm6 rfl
  exact zw_some ⟨hIm6, hFm6, ⟨by omega, by omega⟩⟩
set_option maxHeartbeats 4000000 in
theorem zk_48 (n : Nat) {a0 a1 a2 : Int} {m0 : zu_m} (hIm0 : zi_I m0) (hc0 : zcls a0 = 2) (ha1 : (-2147483648) ≤ a1 ∧ a1 ≤ 2147483647) (ha2 : (-2147483648) ≤ a2 ∧ a2 ≤ 2147483647)    (hRK54m0 : zR_K54 m0) : zw (zu_call (zt_T n) 48 [(5, a0), (0, a1), (0, a2)] m0) (fun v m => zi_I m ∧ zfr [(56, 0), (59, 1), (59, 2), (59, 3), (59, 4), (59, 5), (59, 6), (59, 7)] m0 m ∧ zR_K54 m ∧ ((-1) ≤ v ∧ v ≤ 100)) := by
  have hFm0 : zfr [(56, 0), (59, 1), (59, 2), (59, 3), (59, 4), (59, 5), (59, 6), (59, 7)] m0 m0 := zfr_rf _ _
  refine zw_eq (zr_48_0 n a0 a1 a2 m0) ?_
  refine zw_bd (zw_eq (zr_211_0 n 89 a1 m0) ?_)
  refine zw_ite (fun h1 => ?_) (fun h1 => ?_)
  · refine zw_b (by omega) ?_
    refine zw_some ?_
    refine zw_ite (fun h2 => ?_) (fun h2 => ?_)
    · exact zw_some ⟨hIm0, hFm0, hRK54m0, ⟨by omega, by omega⟩⟩
    · exfalso; omega
  · have r3 : 0 ≤ (m0 89 4) ∧ (m0 89 4) ≤ 4 := zi_rd hIm0 zq_89 zb_16_4
    refine zw_ite (fun h4 => ?_) (fun h4 => ?_)
    · refine zw_b (by omega) ?_
      refine zw_some ?_
      refine zw_ite (fun h5 => ?_) (fun h5 => ?_)
      · exact zw_some ⟨hIm0, hFm0, hRK54m0, ⟨by omega, by omega⟩⟩
      · exfalso; omega
    · refine zw_b (by omega) ?_
      refine zw_some ?_
      refine zw_ite (fun h6 => ?_) (fun h6 => ?_)
      · exfalso; omega
      · refine zw_bd (zw_eq (zr_210_0 n 89 a2 m0) ?_)
        refine zw_ite (fun h7 => ?_) (fun h7 => ?_)
        · refine zw_b (by omega) ?_
          refine zw_some ?_
          refine zw_ite (fun h8 => ?_) (fun h8 => ?_)
          · exfalso; omega
          · exact zw_some ⟨hIm0, hFm0, hRK54m0, ⟨by omega, by omega⟩⟩
        · have r9 : 0 ≤ (m0 89 2) ∧ (m0 89 2) ≤ 16 := zi_rd hIm0 zq_89 zb_16_2
          refine zw_ite (fun h10 => ?_) (fun h10 => ?_)
          · refine zw_b (by omega) ?_
            refine zw_some ?_
            refine zw_ite (fun h11 => ?_) (fun h11 => ?_)
            · exfalso; omega
            · exact zw_some ⟨hIm0, hFm0, hRK54m0, ⟨by omega, by omega⟩⟩
          · refine zw_b (by omega) ?_
            refine zw_some ?_
            refine zw_ite (fun h12 => ?_) (fun h12 => ?_)
            · refine zw_bd (zw_mono (zk_225 n hIm0 zq_89 ⟨by omega, by omega⟩ ⟨by omega, by omega⟩ hRK54m0) (fun v14 m13 hqm13 => ?_))
              obtain ⟨hIm13, hfm13, hvm13⟩ := hqm13
              have hFm13 := zfr_tr hFm0 hfm13 rfl
              obtain ⟨hRK54m13, hvm13⟩ := hvm13
              exact zw_some ⟨hIm13, hFm13, hRK54m13, ⟨by omega, by omega⟩⟩
            · exfalso; omega
set_option maxHeartbeats 4000000 in
theorem zk_49 (n : Nat) {a0 a1 a2 a3 : Int} {m0 : zu_m} (hIm0 : zi_I m0) (hc0 : zcls a0 = 2) (ha1 : (-2147483648) ≤ a1 ∧ a1 ≤ 2147483647) (ha2 : (-2147483648) ≤ a2 ∧ a2 ≤ 2147483647) (ha3 : (-2147483648) ≤ a3 ∧ a3 ≤ 2147483647)    (hRK54m0 : zR_K54 m0) : zw (zu_call (zt_T n) 49 [(5, a0), (0, a1), (0, a2), (0, a3)] m0) (fun v m => zi_I m ∧ zfr [(56, 0), (59, 1), (59, 2), (59, 3), (59, 4), (59, 5), (59, 6), (59, 7)] m0 m ∧ zR_K54 m ∧ ((-9223372036854775808) ≤ v ∧ v ≤ 9223372036854775807)) := by
  have hFm0 : zfr [(56, 0), (59, 1), (59, 2), (59, 3), (59, 4), (59, 5), (59, 6), (59, 7)] m0 m0 := zfr_rf _ _
  refine zw_eq (zr_49_0 n a0 a1 a2 a3 m0) ?_
  refine zw_ite (fun h1 => ?_) (fun h1 => ?_)
  · refine zw_bd (zw_mono (zk_227 n hIm0 zq_89 ⟨by omega, by omega⟩ ⟨by omega, by omega⟩ ⟨by omega, by omega⟩ hRK54m0) (fun v3 m2 hqm2 => ?_))
    obtain ⟨hIm2, hfm2, hvm2⟩ := hqm2
    have hFm2 := zfr_tr hFm0 hfm2 rfl
    obtain ⟨hRK54m2, hvm2⟩ := hvm2
    exact zw_some ⟨hIm2, hFm2, hRK54m2, ⟨by omega, by omega⟩⟩
  · refine zw_ite (fun h4 => ?_) (fun h4 => ?_)
    · refine zw_bd (zw_mono (zk_227 n hIm0 zq_89 ⟨by omega, by omega⟩ ⟨by omega, by omega⟩ ⟨by omega, by omega⟩ hRK54m0) (fun v6 m5 hqm5 => ?_))
      obtain ⟨hIm5, hfm5, hvm5⟩ := hqm5
      have hFm5 := zfr_tr hFm0 hfm5 rfl
      obtain ⟨hRK54m5, hvm5⟩ := hvm5
      exact zw_some ⟨hIm5, hFm5, hRK54m5, ⟨by omega, by omega⟩⟩
    · refine zw_ite (fun h7 => ?_) (fun h7 => ?_)
      · refine zw_bd (zw_eq (zr_244_0 n 50 a2 m0) ?_)
        refine zw_ite (fun h8 => ?_) (fun h8 => ?_)
        · refine zw_b (by omega) ?_
          refine zw_some ?_
          refine zw_ite (fun h9 => ?_) (fun h9 => ?_)
          · exact zw_some ⟨hIm0, hFm0, hRK54m0, ⟨by omega, by omega⟩⟩
          · exfalso; omega
        · have r10 : 1 ≤ (m0 50 2) ∧ (m0 50 2) ≤ 48 := zi_rd hIm0 zq_50 zb_11_2
          refine zw_ite (fun h11 => ?_) (fun h11 => ?_)
          · refine zw_b (by omega) ?_
            refine zw_some ?_
            refine zw_ite (fun h12 => ?_) (fun h12 => ?_)
            · exact zw_some ⟨hIm0, hFm0, hRK54m0, ⟨by omega, by omega⟩⟩
            · exfalso; omega
          · refine zw_b (by omega) ?_
            refine zw_some ?_
            refine zw_ite (fun h13 => ?_) (fun h13 => ?_)
            · exfalso; omega
            · refine zw_bd (zw_mono (zk_24 n hIm0 zq_50 ⟨by omega, by omega⟩ hRK54m0) (fun v15 m14 hqm14 => ?_))
              obtain ⟨hIm14, hfm14, hvm14⟩ := hqm14
              have hFm14 := zfr_tr hFm0 hfm14 rfl
              obtain ⟨hRK54m14, hvm14⟩ := hvm14
              exact zw_some ⟨hIm14, hFm14, hRK54m14, ⟨by omega, by omega⟩⟩
      · refine zw_ite (fun h16 => ?_) (fun h16 => ?_)
        · refine zw_bd (zw_eq (zr_210_0 n 89 a2 m0) ?_)
          refine zw_ite (fun h17 => ?_) (fun h17 => ?_)
          · refine zw_b (by omega) ?_
            refine zw_some ?_
            refine zw_ite (fun h18 => ?_) (fun h18 => ?_)
            · exact zw_some ⟨hIm0, hFm0, hRK54m0, ⟨by omega, by omega⟩⟩
            · exfalso; omega
          · have r19 : 0 ≤ (m0 89 2) ∧ (m0 89 2) ≤ 16 := zi_rd hIm0 zq_89 zb_16_2
            refine zw_ite (fun h20 => ?_) (fun h20 => ?_)
            · refine zw_b (by omega) ?_
              refine zw_some ?_
              refine zw_ite (fun h21 => ?_) (fun h21 => ?_)
              · exact zw_some ⟨hIm0, hFm0, hRK54m0, ⟨by omega, by omega⟩⟩
              · exfalso; omega
            · refine zw_b (by omega) ?_
              refine zw_some ?_
              refine zw_ite (fun h22 => ?_) (fun h22 => ?_)
              · exfalso; omega
              · refine zw_bd (zw_mono (zk_229 n hIm0 zq_89 ⟨by omega, by omega⟩ hRK54m0) (fun v24 m23 hqm23 => ?_))
                obtain ⟨hIm23, hfm23, hvm23⟩ := hqm23
                have hFm23 := zfr_tr hFm0 hfm23 rfl
                obtain ⟨hRK54m23, hvm23⟩ := hvm23
                exact zw_some ⟨hIm23, hFm23, hRK54m23, ⟨by omega, by omega⟩⟩
        · exact zw_some ⟨hIm0, hFm0, hRK54m0, ⟨by omega, by omega⟩⟩
set_option maxHeartbeats 4000000 in
theorem zk_68 (n : Nat) {a0 : Int} {m0 : zu_m} (hIm0 : zi_I m0) (hc0 : zcls a0 = 2)     (hRK54m0 : zR_K54 m0) : zw (zu_call (zt_T n) 68 [(5, a0)] m0) (fun v m => zi_I m ∧ zfr [(56, 0), (59, 1), (59, 2), (59, 3), (59, 4), (59, 5), (59, 6), (59, 7)] m0 m ∧ zR_K54 m ∧ ((-2147483648) ≤ v ∧ v ≤ 2147483647)) := by
  have hFm0 : zfr [(56, 0), (59, 1), (59, 2), (59, 3), (59, 4), (59, 5), (59, 6), (59, 7)] m0 m0 := zfr_rf _ _
  refine zw_eq (zr_68_0 n a0 m0) ?_
  refine zw_bd (zw_mono (zk_230 n hIm0 zq_89 hRK54m0) (fun v2 m1 hqm1 => ?_))
  obtain ⟨hIm1, hfm1, hvm1⟩ := hqm1
  have hFm1 := zfr_tr hFm0 hfm1 rfl
  obtain ⟨hRK54m1, hvm1⟩ := hvm1
  exact zw_some ⟨hIm1, hFm1, hRK54m1, ⟨by omega, by omega⟩⟩
set_option maxHeartbeats 4000000 in
theorem zk_69 (n : Nat) {a0 a1 a2 : Int} {m0 : zu_m} (hIm0 : zi_I m0) (hc0 : zcls a0 = 2) (ha1 : (-2147483648) ≤ a1 ∧ a1 ≤ 2147483647) (ha2 : (-2147483648) ≤ a2 ∧ a2 ≤ 2147483647)    (hRK54m0 : zR_K54 m0) : zw (zu_call (zt_T n) 69 [(5, a0), (0, a1), (0, a2)] m0) (fun v m => zi_I m ∧ zfr [(56, 0), (59, 1), (59, 2), (59, 3), (59, 4), (59, 5), (59, 6), (59, 7)] m0 m ∧ zR_K54 m ∧ ((-1) ≤ v ∧ v ≤ 999)) := by
  have hFm0 : zfr [(56, 0), (59, 1), (59, 2), (59, 3), (59, 4), (59, 5), (59, 6), (59, 7)] m0 m0 := zfr_rf _ _
  refine zw_eq (zr_69_0 n a0 a1 a2 m0) ?_
  refine zw_bd (zw_eq (zr_211_0 n 89 a1 m0) ?_)
  refine zw_ite (fun h1 => ?_) (fun h1 => ?_)
  · refine zw_b (by omega) ?_
    refine zw_some ?_
    refine zw_ite (fun h2 => ?_) (fun h2 => ?_)
    · exact zw_some ⟨hIm0, hFm0, hRK54m0, ⟨by omega, by omega⟩⟩
    · exfalso; omega
  · have r3 : 0 ≤ (m0 89 4) ∧ (m0 89 4) ≤ 4 := zi_rd hIm0 zq_89 zb_16_4
    refine zw_ite (fun h4 => ?_) (fun h4 => ?_)
    · refine zw_b (by omega) ?_
      refine zw_some ?_
      refine zw_ite (fun h5 => ?_) (fun h5 => ?_)
      · exact zw_some ⟨hIm0, hFm0, hRK54m0, ⟨by omega, by omega⟩⟩
      · exfalso; omega
    · refine zw_b (by omega) ?_
      refine zw_some ?_
      refine zw_ite (fun h6 => ?_) (fun h6 => ?_)
      · exfalso; omega
      · refine zw_bd (zw_eq (zr_210_0 n 89 a2 m0) ?_)
        refine zw_ite (fun h7 => ?_) (fun h7 => ?_)
        · refine zw_b (by omega) ?_
          refine zw_some ?_
          refine zw_ite (fun h8 => ?_) (fun h8 => ?_)
          · exfalso; omega
          · exact zw_some ⟨hIm0, hFm0, hRK54m0, ⟨by omega, by omega⟩⟩
        · have r9 : 0 ≤ (m0 89 2) ∧ (m0 89 2) ≤ 16 := zi_rd hIm0 zq_89 zb_16_2
          refine zw_ite (fun h10 => ?_) (fun h10 => ?_)
          · refine zw_b (by omega) ?_
            refine zw_some ?_
            refine zw_ite (fun h11 => ?_) (fun h11 => ?_)
            · exfalso; omega
            · exact zw_some ⟨hIm0, hFm0, hRK54m0, ⟨by omega, by omega⟩⟩
          · refine zw_b (by omega) ?_
            refine zw_some ?_
            refine zw_ite (fun h12 => ?_) (fun h12 => ?_)
            · refine zw_bd (zw_mono (zk_226 n hIm0 zq_89 ⟨by omega, by omega⟩ ⟨by omega, by omega⟩ hRK54m0) (fun v14 m13 hqm13 => ?_))
              obtain ⟨hIm13, hfm13, hvm13⟩ := hqm13
              have hFm13 := zfr_tr hFm0 hfm13 rfl
              obtain ⟨hRK54m13, hvm13⟩ := hvm13
              exact zw_some ⟨hIm13, hFm13, hRK54m13, ⟨by omega, by omega⟩⟩
            · exfalso; omega
set_option maxHeartbeats 4000000 in
theorem zk_100 (n : Nat) {a0 a1 : Int} {m0 : zu_m} (hIm0 : zi_I m0) (hc0 : zcls a0 = 28) (ha1 : (-2147483648) ≤ a1 ∧ a1 ≤ 2147483647)  (he0 : 1 ≤ m0 a0 8 ∧ m0 a0 8 ≤ 1) (he1 : (-2147483648) ≤ m0 a0 9 ∧ m0 a0 9 ≤ 3)  (hRNSm0 : zR_NS m0) (hRWDm0 : zR_WD m0) : zw (zu_call (zt_T n) 100 [(40, a0), (0, a1)] m0) (fun v m => zi_I m ∧ zfr [(28, 5), (28, 6), (28, 8), (28, 9), (28, 10), (28, 11), (28, 12), (28, 23), (28, 24), (28, 43), (104, 0), (105, 0)] m0 m ∧ zR_NS m ∧ zR_WD m ∧ (0 ≤ v ∧ v ≤ 1) ∧ ((m0 a0 7) ≤ (m a0 7)) ∧ (v = 1 → ((m a0 8) = 0 ∨ (m0 a0 7) < (m a0 7)))) := by
  have hFm0 : zfr [(28, 5), (28, 6), (28, 8), (28, 9), (28, 10), (28, 11), (28, 12), (28, 23), (28, 24), (28, 43), (104, 0), (105, 0)] m0 m0 := zfr_rf _ _
  have s1 := hRNSm0 a0 hc0
  refine zw_eq (zr_100_0 n a0 a1 m0) ?_
  have r2 : 0 ≤ (m0 a0 22) ∧ (m0 a0 22) ≤ 16 := zi_rd hIm0 hc0 zb_28_22
  refine zw_ite (fun h3 => ?_) (fun h3 => ?_)
  · refine zw_bd (zw_mono (zk_89 n hIm0 hc0 hRNSm0 hRWDm0) (fun v5 m4 hqm4 => ?_))
    obtain ⟨hIm4, hfm4, hvm4⟩ := hqm4
    have hFm4 := zfr_tr hFm0 hfm4 rfl
    obtain ⟨hRNSm4, hRWDm4, hvm4⟩ := hvm4
    have s6 := hRNSm4 a0 hc0
    refine zw_bd (zw_eq (zr_96_0 n a0 m4) ?_)
    refine zw_b (by omega) ?_
    generalize hmm7 : zu_up m4 a0 23 1 = m7
    have hIm7 := zi_up hmm7 hIm4 hc0 zb_28_23 (by omega) (by omega)
    have hFm7 := zfr_up hmm7 hFm4 hc0 rfl
    have hRNSm7 := zR_NS_fr (zdis_fr (zfr_up hmm7 (zfr_rf [(28, 24)] _) hc0 rfl) rfl) hRNSm4
    have hRWDm7 := zR_WD_fr (zdis_fr (zfr_up hmm7 (zfr_rf [(28, 24)] _) hc0 rfl) rfl) hRWDm4
    have r8 : 1 ≤ (m7 a0 17) ∧ (m7 a0 17) ≤ 8 := zi_rd hIm7 hc0 zb_28_17
    have w9 := zu_w32_id (z := (m7 a0 17) - 1) (by omega) (by omega)
    refine zw_bd (zw_eq (zr_94_0 n a0 0 (zu_w32 ((m7 a0 17) - 1)) m7) ?_)
    have r10 : 0 ≤ (m7 a0 8) ∧ (m7 a0 8) ≤ 6 := zi_rd hIm7 hc0 zb_28_8
    refine zw_ite (fun h11 => ?_) (fun h11 => ?_)
    · have r12 : (-2147483648) ≤ (m7 a0 9) ∧ (m7 a0 9) ≤ 2147483647 := zi_rd hIm7 hc0 zb_28_9
      refine zw_bd (zw_eq (zr_83_0 n (m7 a0 9) 0 (zu_w32 ((m7 a0 17) - 1)) m7) ?_)
      refine zw_ite (fun h13 => ?_) (fun h13 => ?_)
      · refine zw_b (by omega) ?_
        refine zw_some ?_
        refine zw_ite (fun h14 => ?_) (fun h14 => ?_)
        · exfalso; omega
        · refine zw_bd (zw_eq (zr_85_0 n a0 2 m7) ?_)
          generalize hmm15 : zu_up m7 a0 4 2 = m15
          have hIm15 := zi_up hmm15 hIm7 hc0 zb_28_4 (by omega) (by omega)
          have hFm15 := zfr_up hmm15 hFm7 hc0 rfl
          have hRNSm15 := zR_NS_fr (zdis_fr (zfr_up hmm15 (zfr_rf [(28, 5)] _) hc0 rfl) rfl) hRNSm7
          have hRWDm15 := zR_WD_fr (zdis_fr (zfr_up hmm15 (zfr_rf [(28, 5)] _) hc0 rfl) rfl) hRWDm7
          have r16 : 0 ≤ (m15 a0 10) ∧ (m15 a0 10) ≤ 700 := zi_rd hIm15 hc0 zb_28_10
          generalize hmm17 : zu_up m15 a0 5 (m15 a0 10) = m17
          have hIm17 := zi_up hmm17 hIm15 hc0 zb_28_5 (by omega) (by omega)
          have hFm17 := zfr_up hmm17 hFm15 hc0 rfl
          have hRNSm17 := zR_NS_fr (zdis_fr (zfr_up hmm17 (zfr_rf [(28, 6)] _) hc0 rfl) rfl) hRNSm15
          have hRWDm17 := zR_WD_fr (zdis_fr (zfr_up hmm17 (zfr_rf [(28, 6)] _) hc0 rfl) rfl) hRWDm15
          refine zw_b (by omega) ?_
          refine zw_some ?_
          refine zw_b (by omega) ?_
          refine zw_some ?_
          refine zw_ite (fun h18 => ?_) (fun h18 => ?_)
          · exfalso; omega
          · refine zw_b (by omega) ?_
            refine zw_some ?_
            refine zw_ite (fun h19 => ?_) (fun h19 => ?_)
            · exfalso; omega
            · refine zw_b (by omega) ?_
              have r20 : 0 ≤ (m17 a0 7) ∧ (m17 a0 7) ≤ 700 := zi_rd hIm17 hc0 zb_28_7
              have r21 : 0 ≤ (m17 a0 8) ∧ (m17 a0 8) ≤ 6 := zi_rd hIm17 hc0 zb_28_8
              have e22 : (m17 a0 8) = (m7 a0 8) := (Eq.trans (zs_ne hmm17 (Or.inr (by decide))) (zs_ne hmm15 (Or.inr (by decide))))
              exact zw_some ⟨hIm17, hFm17, hRNSm17, hRWDm17, ⟨by omega, by omega⟩, by omega, by omega⟩
      · refine zw_ite (fun h23 => ?_) (fun h23 => ?_)
        · refine zw_b (by omega) ?_
          refine zw_some ?_
          refine zw_ite (fun h24 => ?_) (fun h24 => ?_)
          · exfalso; omega
          · refine zw_bd (zw_eq (zr_85_0 n a0 2 m7) ?_)
            generalize hmm25 : zu_up m7 a0 4 2 = m25
            have hIm25 := zi_up hmm25 hIm7 hc0 zb_28_4 (by omega) (by omega)
            have hFm25 := zfr_up hmm25 hFm7 hc0 rfl
            have hRNSm25 := zR_NS_fr (zdis_fr (zfr_up hmm25 (zfr_rf [(28, 5)] _) hc0 rfl) rfl) hRNSm7
            have hRWDm25 := zR_WD_fr (zdis_fr (zfr_up hmm25 (zfr_rf [(28, 5)] _) hc0 rfl) rfl) hRWDm7
            have r26 : 0 ≤ (m25 a0 10) ∧ (m25 a0 10) ≤ 700 := zi_rd hIm25 hc0 zb_28_10
            generalize hmm27 : zu_up m25 a0 5 (m25 a0 10) = m27
            have hIm27 := zi_up hmm27 hIm25 hc0 zb_28_5 (by omega) (by omega)
            have hFm27 := zfr_up hmm27 hFm25 hc0 rfl
            have hRNSm27 := zR_NS_fr (zdis_fr (zfr_up hmm27 (zfr_rf [(28, 6)] _) hc0 rfl) rfl) hRNSm25
            have hRWDm27 := zR_WD_fr (zdis_fr (zfr_up hmm27 (zfr_rf [(28, 6)] _) hc0 rfl) rfl) hRWDm25
            refine zw_b (by omega) ?_
            refine zw_some ?_
            refine zw_b (by omega) ?_
            refine zw_some ?_
            refine zw_ite (fun h28 => ?_) (fun h28 => ?_)
            · exfalso; omega
            · refine zw_b (by omega) ?_
              refine zw_some ?_
              refine zw_ite (fun h29 => ?_) (fun h29 => ?_)
              · exfalso; omega
              · refine zw_b (by omega) ?_
                have r30 : 0 ≤ (m27 a0 7) ∧ (m27 a0 7) ≤ 700 := zi_rd hIm27 hc0 zb_28_7
                have r31 : 0 ≤ (m27 a0 8) ∧ (m27 a0 8) ≤ 6 := zi_rd hIm27 hc0 zb_28_8
                have e32 : (m27 a0 8) = (m7 a0 8) := (Eq.trans (zs_ne hmm27 (Or.inr (by decide))) (zs_ne hmm25 (Or.inr (by decide))))
                exact zw_some ⟨hIm27, hFm27, hRNSm27, hRWDm27, ⟨by omega, by omega⟩, by omega, by omega⟩
        · refine zw_b (by omega) ?_
          refine zw_some ?_
          refine zw_ite (fun h33 => ?_) (fun h33 => ?_)
          · generalize hmm34 : zu_up m7 a0 11 (m7 a0 9) = m34
            have hIm34 := zi_up hmm34 hIm7 hc0 zb_28_11 (by omega) (by omega)
            have hFm34 := zfr_up hmm34 hFm7 hc0 rfl
            have hRNSm34 := zR_NS_fr (zdis_fr (zfr_up hmm34 (zfr_rf [(28, 12)] _) hc0 rfl) rfl) hRNSm7
            have hRWDm34 := zR_WD_fr (zdis_fr (zfr_up hmm34 (zfr_rf [(28, 12)] _) hc0 rfl) rfl) hRWDm7
            refine zw_bd (zw_mono (zk_89 n hIm34 hc0 hRNSm34 hRWDm34) (fun v36 m35 hqm35 => ?_))
            obtain ⟨hIm35, hfm35, hvm35⟩ := hqm35
            have hFm35 := zfr_tr hFm34 hfm35 rfl
            obtain ⟨hRNSm35, hRWDm35, hvm35⟩ := hvm35
            have s37 := hRNSm35 a0 hc0
            refine zw_b (by omega) ?_
            refine zw_some ?_
            refine zw_ite (fun h38 => ?_) (fun h38 => ?_)
            · have r39 : (-2147483648) ≤ (m35 a0 11) ∧ (m35 a0 11) ≤ 2147483647 := zi_rd hIm35 hc0 zb_28_11
              have e40 : (m35 a0 11) = (m7 a0 9) := (Eq.trans (zfr_ap hfm35 hc0 rfl) (zs_eq hmm34))
              have r41 : 0 ≤ (m35 a0 10) ∧ (m35 a0 10) ≤ 700 := zi_rd hIm35 hc0 zb_28_10
              generalize hmm42 : zu_up m35 a0 42 (m35 a0 10) = m42
              have hIm42 := zi_up hmm42 hIm35 hc0 zb_28_42 (by omega) (by omega)
              have hFm42 := zfr_up hmm42 hFm35 hc0 rfl
              have hRNSm42 := zR_NS_fr (zdis_fr (zfr_up hmm42 (zfr_rf [(28, 43)] _) hc0 rfl) rfl) hRNSm35
              have hRWDm42 := zR_WD_fr (zdis_fr (zfr_up hmm42 (zfr_rf [(28, 43)] _) hc0 rfl) rfl) hRWDm35
              have r43 : 1 ≤ (m42 a0 18) ∧ (m42 a0 18) ≤ 6 := zi_rd hIm42 hc0 zb_28_18
              have w44 := zu_w32_id (z := (m42 a0 18) - 1) (by omega) (by omega)
              refine zw_bd (zw_eq (zr_94_0 n a0 0 (zu_w32 ((m42 a0 18) - 1)) m42) ?_)
              have r45 : 0 ≤ (m42 a0 8) ∧ (m42 a0 8) ≤ 6 := zi_rd hIm42 hc0 zb_28_8
              refine zw_ite (fun h46 => ?_) (fun h46 => ?_)
              · have r47 : (-2147483648) ≤ (m42 a0 9) ∧ (m42 a0 9) ≤ 2147483647 := zi_rd hIm42 hc0 zb_28_9
                refine zw_bd (zw_eq (zr_83_0 n (m42 a0 9) 0 (zu_w32 ((m42 a0 18) - 1)) m42) ?_)
                refine zw_ite (fun h48 => ?_) (fun h48 => ?_)
                · refine zw_b (by omega) ?_
                  refine zw_some ?_
                  refine zw_ite (fun h49 => ?_) (fun h49 => ?_)
                  · exfalso; omega
                  · refine zw_bd (zw_eq (zr_85_0 n a0 2 m42) ?_)
                    generalize hmm50 : zu_up m42 a0 4 2 = m50
                    have hIm50 := zi_up hmm50 hIm42 hc0 zb_28_4 (by omega) (by omega)
                    have hFm50 := zfr_up hmm50 hFm42 hc0 rfl
                    have hRNSm50 := zR_NS_fr (zdis_fr (zfr_up hmm50 (zfr_rf [(28, 5)] _) hc0 rfl) rfl) hRNSm42
                    have hRWDm50 := zR_WD_fr (zdis_fr (zfr_up hmm50 (zfr_rf [(28, 5)] _) hc0 rfl) rfl) hRWDm42
                    have r51 : 0 ≤ (m50 a0 10) ∧ (m50 a0 10) ≤ 700 := zi_rd hIm50 hc0 zb_28_10
                    have e52 : (m50 a0 10) = (m35 a0 10) := (Eq.trans (zs_ne hmm50 (Or.inr (by decide))) (zs_ne hmm42 (Or.inr (by decide))))
                    generalize hmm53 : zu_up m50 a0 5 (m50 a0 10) = m53
                    have hIm53 := zi_up hmm53 hIm50 hc0 zb_28_5 (by omega) (by omega)
                    have hFm53 := zfr_up hmm53 hFm50 hc0 rfl
                    have hRNSm53 := zR_NS_fr (zdis_fr (zfr_up hmm53 (zfr_rf [(28, 6)] _) hc0 rfl) rfl) hRNSm50
                    have hRWDm53 := zR_WD_fr (zdis_fr (zfr_up hmm53 (zfr_rf [(28, 6)] _) hc0 rfl) rfl) hRWDm50
                    refine zw_b (by omega) ?_
                    refine zw_some ?_
                    refine zw_b (by omega) ?_
                    refine zw_some ?_
                    refine zw_ite (fun h54 => ?_) (fun h54 => ?_)
                    · exfalso; omega
                    · refine zw_b (by omega) ?_
                      refine zw_some ?_
                      refine zw_ite (fun h55 => ?_) (fun h55 => ?_)
                      · exfalso; omega
                      · refine zw_b (by omega) ?_
                        have r56 : 0 ≤ (m53 a0 7) ∧ (m53 a0 7) ≤ 700 := zi_rd hIm53 hc0 zb_28_7
                        have r57 : 0 ≤ (m53 a0 8) ∧ (m53 a0 8) ≤ 6 := zi_rd hIm53 hc0 zb_28_8
                        have e58 : (m53 a0 8) = (m42 a0 8) := (Eq.trans (zs_ne hmm53 (Or.inr (by decide))) (zs_ne hmm50 (Or.inr (by decide))))
                        exact zw_some ⟨hIm53, hFm53, hRNSm53, hRWDm53, ⟨by omega, by omega⟩, by omega, by omega⟩
                · refine zw_ite (fun h59 => ?_) (fun h59 => ?_)
                  · refine zw_b (by omega) ?_
                    refine zw_some ?_
                    refine zw_ite (fun h60 => ?_) (fun h60 => ?_)
                    · exfalso; omega
                    · refine zw_bd (zw_eq (zr_85_0 n a0 2 m42) ?_)
                      generalize hmm61 : zu_up m42 a0 4 2 = m61
                      have hIm61 := zi_up hmm61 hIm42 hc0 zb_28_4 (by omega) (by omega)
                      have hFm61 := zfr_up hmm61 hFm42 hc0 rfl
                      have hRNSm61 := zR_NS_fr (zdis_fr (zfr_up hmm61 (zfr_rf [(28, 5)] _) hc0 rfl) rfl) hRNSm42
                      have hRWDm61 := zR_WD_fr (zdis_fr (zfr_up hmm61 (zfr_rf [(28, 5)] _) hc0 rfl) rfl) hRWDm42
                      have r62 : 0 ≤ (m61 a0 10) ∧ (m61 a0 10) ≤ 700 := zi_rd hIm61 hc0 zb_28_10
                      have e63 : (m61 a0 10) = (m35 a0 10) := (Eq.trans (zs_ne hmm61 (Or.inr (by decide))) (zs_ne hmm42 (Or.inr (by decide))))
                      generalize hmm64 : zu_up m61 a0 5 (m61 a0 10) = m64
                      have hIm64 := zi_up hmm64 hIm61 hc0 zb_28_5 (by omega) (by omega)
                      have hFm64 := zfr_up hmm64 hFm61 hc0 rfl
                      have hRNSm64 := zR_NS_fr (zdis_fr (zfr_up hmm64 (zfr_rf [(28, 6)] _) hc0 rfl) rfl) hRNSm61
                      have hRWDm64 := zR_WD_fr (zdis_fr (zfr_up hmm64 (zfr_rf [(28, 6)] _) hc0 rfl) rfl) hRWDm61
                      refine zw_b (by omega) ?_
                      refine zw_some ?_
                      refine zw_b (by omega) ?_
                      refine zw_some ?_
                      refine zw_ite (fun h65 => ?_) (fun h65 => ?_)
                      · exfalso; omega
                      · refine zw_b (by omega) ?_
                        refine zw_some ?_
                        refine zw_ite (fun h66 => ?_) (fun h66 => ?_)
                        · exfalso; omega
                        · refine zw_b (by omega) ?_
                          have r67 : 0 ≤ (m64 a0 7) ∧ (m64 a0 7) ≤ 700 := zi_rd hIm64 hc0 zb_28_7
                          have r68 : 0 ≤ (m64 a0 8) ∧ (m64 a0 8) ≤ 6 := zi_rd hIm64 hc0 zb_28_8
                          have e69 : (m64 a0 8) = (m42 a0 8) := (Eq.trans (zs_ne hmm64 (Or.inr (by decide))) (zs_ne hmm61 (Or.inr (by decide))))
                          exact zw_some ⟨hIm64, hFm64, hRNSm64, hRWDm64, ⟨by omega, by omega⟩, by omega, by omega⟩
                  · refine zw_b (by omega) ?_
                    refine zw_some ?_
                    refine zw_ite (fun h70 => ?_) (fun h70 => ?_)
                    · generalize hmm71 : zu_up m42 a0 11 (m42 a0 9) = m71
                      have hIm71 := zi_up hmm71 hIm42 hc0 zb_28_11 (by omega) (by omega)
                      have hFm71 := zfr_up hmm71 hFm42 hc0 rfl
                      have hRNSm71 := zR_NS_fr (zdis_fr (zfr_up hmm71 (zfr_rf [(28, 12)] _) hc0 rfl) rfl) hRNSm42
                      have hRWDm71 := zR_WD_fr (zdis_fr (zfr_up hmm71 (zfr_rf [(28, 12)] _) hc0 rfl) rfl) hRWDm42
                      refine zw_bd (zw_mono (zk_89 n hIm71 hc0 hRNSm71 hRWDm71) (fun v73 m72 hqm72 => ?_))
                      obtain ⟨hIm72, hfm72, hvm72⟩ := hqm72
                      have hFm72 := zfr_tr hFm71 hfm72 rfl
                      obtain ⟨hRNSm72, hRWDm72, hvm72⟩ := hvm72
                      have s74 := hRNSm72 a0 hc0
                      refine zw_b (by omega) ?_
                      refine zw_some ?_
                      refine zw_ite (fun h75 => ?_) (fun h75 => ?_)
                      · have r76 : 1 ≤ (m72 a0 17) ∧ (m72 a0 17) ≤ 8 := zi_rd hIm72 hc0 zb_28_17
                        have e77 : (m72 a0 17) = (m7 a0 17) := (Eq.trans (zfr_ap hfm72 hc0 rfl) (Eq.trans (zs_ne hmm71 (Or.inr (by decide))) (Eq.trans (zs_ne hmm42 (Or.inr (by decide))) (Eq.trans (zfr_ap hfm35 hc0 rfl) (zs_ne hmm34 (Or.inr (by decide)))))))
                        have r78 : (-2147483648) ≤ (m72 a0 11) ∧ (m72 a0 11) ≤ 2147483647 := zi_rd hIm72 hc0 zb_28_11
                        have e79 : (m72 a0 11) = (m42 a0 9) := (Eq.trans (zfr_ap hfm72 hc0 rfl) (zs_eq hmm71))
                        have p80 := zmul_bd (x := (m72 a0 17)) (y := (m72 a0 11)) (a := 1) (b := 0) (A := 8) (B := 5) (by omega) (by omega) (by omega) (by omega) (by omega) (by omega)
                        have w81 := zu_w32_id (z := (m72 a0 17) * (m72 a0 11)) (by omega) (by omega)
                        have w82 := zu_w32_id (z := (zu_w32 ((m72 a0 17) * (m72 a0 11))) + (m35 a0 11)) (by omega) (by omega)
                        generalize hmm83 : zu_up m72 a0 11 (zu_w32 ((zu_w32 ((m72 a0 17) * (m72 a0 11))) + (m35 a0 11))) = m83
                        have hIm83 := zi_up hmm83 hIm72 hc0 zb_28_11 (by omega) (by omega)
                        have hFm83 := zfr_up hmm83 hFm72 hc0 rfl
                        have hRNSm83 := zR_NS_fr (zdis_fr (zfr_up hmm83 (zfr_rf [(28, 12)] _) hc0 rfl) rfl) hRNSm72
                        have hRWDm83 := zR_WD_fr (zdis_fr (zfr_up hmm83 (zfr_rf [(28, 12)] _) hc0 rfl) rfl) hRWDm72
                        refine zw_b (by omega) ?_
                        refine zw_some ?_
                        refine zw_ite (fun h84 => ?_) (fun h84 => ?_)
                        · have r85 : (-2147483648) ≤ (m83 a0 11) ∧ (m83 a0 11) ≤ 2147483647 := zi_rd hIm83 hc0 zb_28_11
                          have e86 : (m83 a0 11) = (zu_w32 ((zu_w32 ((m72 a0 17) * (m72 a0 11))) + (m35 a0 11))) := (zs_eq hmm83)
                          have b87 : 0 ≤ (m83 a0 11) ∧ (m83 a0 11) < 48 := by omega
                          refine zw_if b87 ?_
                          have r88 : 0 ≤ (m83 196 (m83 a0 11)) ∧ (m83 196 (m83 a0 11)) ≤ 1 := zi_rd hIm83 zq_196 (zb_105 _)
                          refine zw_ite (fun h89 => ?_) (fun h89 => ?_)
                          · refine zw_b (by omega) ?_
                            have b90 : 0 ≤ (m83 a0 11) ∧ (m83 a0 11) < 48 := by omega
                            refine zw_if b90 ?_
                            generalize hmm91 : zu_up m83 196 (m83 a0 11) 1 = m91
                            have hIm91 := zi_up hmm91 hIm83 zq_196 (zb_105 _) (by omega) (by omega)
                            have hFm91 := zfr_up hmm91 hFm83 zq_196 rfl
                            have hRNSm91 := zR_NS_fr (zdis_fr (zfr_up hmm91 (zfr_rf [(105, 0)] _) zq_196 rfl) rfl) hRNSm83
                            have hRWDm91 := zR_WD_fr (zdis_fr (zfr_up hmm91 (zfr_rf [(105, 0)] _) zq_196 rfl) rfl) hRWDm83
                            have r92 : (-2147483648) ≤ (m91 a0 11) ∧ (m91 a0 11) ≤ 2147483647 := zi_rd hIm91 hc0 zb_28_11
                            have e93 : (m91 a0 11) = (m83 a0 11) := (zs_ne hmm91 (Or.inl (zc_ne hc0 zq_196 (by decide))))
                            have w94 := zu_w32_id (z := 48 + (m91 a0 11)) (by omega) (by omega)
                            have b95 : 0 ≤ (zu_w32 (48 + (m91 a0 11))) ∧ (zu_w32 (48 + (m91 a0 11))) < 96 := by omega
                            refine zw_if b95 ?_
                            generalize hmm96 : zu_up m91 195 (zu_w32 (48 + (m91 a0 11))) a1 = m96
                            have hIm96 := zi_up hmm96 hIm91 zq_195 (zb_104 _) (by omega) (by omega)
                            have hFm96 := zfr_up hmm96 hFm91 zq_195 rfl
                            have hRNSm96 := zR_NS_fr (zdis_fr (zfr_up hmm96 (zfr_rf [(104, 0)] _) zq_195 rfl) rfl) hRNSm91
                            have hRWDm96 := zR_WD_fr (zdis_fr (zfr_up hmm96 (zfr_rf [(104, 0)] _) zq_195 rfl) rfl) hRWDm91
                            have r97 : 0 ≤ (m96 a0 22) ∧ (m96 a0 22) ≤ 16 := zi_rd hIm96 hc0 zb_28_22
                            have e98 : (m96 a0 22) = (m0 a0 22) := (Eq.trans (zs_ne hmm96 (Or.inl (zc_ne hc0 zq_195 (by decide)))) (Eq.trans (zs_ne hmm91 (Or.inl (zc_ne hc0 zq_196 (by decide)))) (Eq.trans (zs_ne hmm83 (Or.inr (by decide))) (Eq.trans (zfr_ap hfm72 hc0 rfl) (Eq.trans (zs_ne hmm71 (Or.inr (by decide))) (Eq.trans (zs_ne hmm42 (Or.inr (by decide))) (Eq.trans (zfr_ap hfm35 hc0 rfl) (Eq.trans (zs_ne hmm34 (Or.inr (by decide))) (Eq.trans (zs_ne hmm7 (Or.inr (by decide))) (zfr_ap hfm4 hc0 rfl))))))))))
                            have w99 := zu_w32_id (z := (m96 a0 22) + 1) (by omega) (by omega)
                            generalize hmm100 : zu_up m96 a0 22 (zu_w32 ((m96 a0 22) + 1)) = m100
                            have hIm100 := zi_up hmm100 hIm96 hc0 zb_28_22 (by omega) (by omega)
                            have hFm100 := zfr_up hmm100 hFm96 hc0 rfl
                            have hRNSm100 := zR_NS_fr (zdis_fr (zfr_up hmm100 (zfr_rf [(28, 23)] _) hc0 rfl) rfl) hRNSm96
                            have hRWDm100 := zR_WD_fr (zdis_fr (zfr_up hmm100 (zfr_rf [(28, 23)] _) hc0 rfl) rfl) hRWDm96
                            refine zw_b (by omega) ?_
                            have r101 : 0 ≤ (m100 a0 7) ∧ (m100 a0 7) ≤ 700 := zi_rd hIm100 hc0 zb_28_7
                            have r102 : 0 ≤ (m100 a0 8) ∧ (m100 a0 8) ≤ 6 := zi_rd hIm100 hc0 zb_28_8
                            exact zw_some ⟨hIm100, hFm100, hRNSm100, hRWDm100, ⟨by omega, by omega⟩, by omega, by omega⟩
                          · have r103 : (-2147483648) ≤ (m83 a0 42) ∧ (m83 a0 42) ≤ 2147483647 := zi_rd hIm83 hc0 zb_28_42
                            have e104 : (m83 a0 42) = (m35 a0 10) := (Eq.trans (zs_ne hmm83 (Or.inr (by decide))) (Eq.trans (zfr_ap hfm72 hc0 rfl) (Eq.trans (zs_ne hmm71 (Or.inr (by decide))) (zs_eq hmm42))))
                            generalize hmm105 : zu_up m83 a0 10 (m83 a0 42) = m105
                            have hIm105 := zi_up hmm105 hIm83 hc0 zb_28_10 (by omega) (by omega)
                            have hFm105 := zfr_up hmm105 hFm83 hc0 rfl
                            have hRNSm105 := zR_NS_fr (zdis_fr (zfr_up hmm105 (zfr_rf [(28, 11)] _) hc0 rfl) rfl) hRNSm83
                            have hRWDm105 := zR_WD_fr (zdis_fr (zfr_up hmm105 (zfr_rf [(28, 11)] _) hc0 rfl) rfl) hRWDm83
                            refine zw_bd (zw_eq (zr_85_0 n a0 3 m105) ?_)
                            generalize hmm106 : zu_up m105 a0 4 3 = m106
                            have hIm106 := zi_up hmm106 hIm105 hc0 zb_28_4 (by omega) (by omega)
                            have hFm106 := zfr_up hmm106 hFm105 hc0 rfl
                            have hRNSm106 := zR_NS_fr (zdis_fr (zfr_up hmm106 (zfr_rf [(28, 5)] _) hc0 rfl) rfl) hRNSm105
                            have hRWDm106 := zR_WD_fr (zdis_fr (zfr_up hmm106 (zfr_rf [(28, 5)] _) hc0 rfl) rfl) hRWDm105
                            have r107 : 0 ≤ (m106 a0 10) ∧ (m106 a0 10) ≤ 700 := zi_rd hIm106 hc0 zb_28_10
                            have e108 : (m106 a0 10) = (m83 a0 42) := (Eq.trans (zs_ne hmm106 (Or.inr (by decide))) (zs_eq hmm105))
                            generalize hmm109 : zu_up m106 a0 5 (m106 a0 10) = m109
                            have hIm109 := zi_up hmm109 hIm106 hc0 zb_28_5 (by omega) (by omega)
                            have hFm109 := zfr_up hmm109 hFm106 hc0 rfl
                            have hRNSm109 := zR_NS_fr (zdis_fr (zfr_up hmm109 (zfr_rf [(28, 6)] _) hc0 rfl) rfl) hRNSm106
                            have hRWDm109 := zR_WD_fr (zdis_fr (zfr_up hmm109 (zfr_rf [(28, 6)] _) hc0 rfl) rfl) hRWDm106
                            refine zw_b (by omega) ?_
                            refine zw_some ?_
                            refine zw_b (by omega) ?_
                            have r110 : 0 ≤ (m109 a0 7) ∧ (m109 a0 7) ≤ 700 := zi_rd hIm109 hc0 zb_28_7
                            have r111 : 0 ≤ (m109 a0 8) ∧ (m109 a0 8) ≤ 6 := zi_rd hIm109 hc0 zb_28_8
                            exact zw_some ⟨hIm109, hFm109, hRNSm109, hRWDm109, ⟨by omega, by omega⟩, by omega, by omega⟩
                        · exfalso; omega
                      · exfalso; omega
                    · exfalso; omega
              · refine zw_bd (zw_eq (zr_85_0 n a0 1 m42) ?_)
                generalize hmm112 : zu_up m42 a0 4 1 = m112
                have hIm112 := zi_up hmm112 hIm42 hc0 zb_28_4 (by omega) (by omega)
                have hFm112 := zfr_up hmm112 hFm42 hc0 rfl
                have hRNSm112 := zR_NS_fr (zdis_fr (zfr_up hmm112 (zfr_rf [(28, 5)] _) hc0 rfl) rfl) hRNSm42
                have hRWDm112 := zR_WD_fr (zdis_fr (zfr_up hmm112 (zfr_rf [(28, 5)] _) hc0 rfl) rfl) hRWDm42
                have r113 : 0 ≤ (m112 a0 10) ∧ (m112 a0 10) ≤ 700 := zi_rd hIm112 hc0 zb_28_10
                have e114 : (m112 a0 10) = (m35 a0 10) := (Eq.trans (zs_ne hmm112 (Or.inr (by decide))) (zs_ne hmm42 (Or.inr (by decide))))
                generalize hmm115 : zu_up m112 a0 5 (m112 a0 10) = m115
                have hIm115 := zi_up hmm115 hIm112 hc0 zb_28_5 (by omega) (by omega)
                have hFm115 := zfr_up hmm115 hFm112 hc0 rfl
                have hRNSm115 := zR_NS_fr (zdis_fr (zfr_up hmm115 (zfr_rf [(28, 6)] _) hc0 rfl) rfl) hRNSm112
                have hRWDm115 := zR_WD_fr (zdis_fr (zfr_up hmm115 (zfr_rf [(28, 6)] _) hc0 rfl) rfl) hRWDm112
                refine zw_b (by omega) ?_
                refine zw_some ?_
                refine zw_b (by omega) ?_
                refine zw_some ?_
                refine zw_ite (fun h116 => ?_) (fun h116 => ?_)
                · exfalso; omega
                · refine zw_b (by omega) ?_
                  refine zw_some ?_
                  refine zw_ite (fun h117 => ?_) (fun h117 => ?_)
                  · exfalso; omega
                  · refine zw_b (by omega) ?_
                    have r118 : 0 ≤ (m115 a0 7) ∧ (m115 a0 7) ≤ 700 := zi_rd hIm115 hc0 zb_28_7
                    have r119 : 0 ≤ (m115 a0 8) ∧ (m115 a0 8) ≤ 6 := zi_rd hIm115 hc0 zb_28_8
                    have e120 : (m115 a0 8) = (m42 a0 8) := (Eq.trans (zs_ne hmm115 (Or.inr (by decide))) (zs_ne hmm112 (Or.inr (by decide))))
                    exact zw_some ⟨hIm115, hFm115, hRNSm115, hRWDm115, ⟨by omega, by omega⟩, by omega, by omega⟩
            · exfalso; omega
          · exfalso; omega
    · refine zw_bd (zw_eq (zr_85_0 n a0 1 m7) ?_)
      generalize hmm121 : zu_up m7 a0 4 1 = m121
      have hIm121 := zi_up hmm121 hIm7 hc0 zb_28_4 (by omega) (by omega)
      have hFm121 := zfr_up hmm121 hFm7 hc0 rfl
      have hRNSm121 := zR_NS_fr (zdis_fr (zfr_up hmm121 (zfr_rf [(28, 5)] _) hc0 rfl) rfl) hRNSm7
      have hRWDm121 := zR_WD_fr (zdis_fr (zfr_up hmm121 (zfr_rf [(28, 5)] _) hc0 rfl) rfl) hRWDm7
      have r122 : 0 ≤ (m121 a0 10) ∧ (m121 a0 10) ≤ 700 := zi_rd hIm121 hc0 zb_28_10
      generalize hmm123 : zu_up m121 a0 5 (m121 a0 10) = m123
      have hIm123 := zi_up hmm123 hIm121 hc0 zb_28_5 (by omega) (by omega)
      have hFm123 := zfr_up hmm123 hFm121 hc0 rfl
      have hRNSm123 := zR_NS_fr (zdis_fr (zfr_up hmm123 (zfr_rf [(28, 6)] _) hc0 rfl) rfl) hRNSm121
      have hRWDm123 := zR_WD_fr (zdis_fr (zfr_up hmm123 (zfr_rf [(28, 6)] _) hc0 rfl) rfl) hRWDm121
      refine zw_b (by omega) ?_
      refine zw_some ?_
      refine zw_b (by omega) ?_
      refine zw_some ?_
      refine zw_ite (fun h124 => ?_) (fun h124 => ?_)
      · exfalso; omega
      · refine zw_b (by omega) ?_
        refine zw_some ?_
        refine zw_ite (fun h125 => ?_) (fun h125 => ?_)
        · exfalso; omega
        · refine zw_b (by omega) ?_
          have r126 : 0 ≤ (m123 a0 7) ∧ (m123 a0 7) ≤ 700 := zi_rd hIm123 hc0 zb_28_7
          have r127 : 0 ≤ (m123 a0 8) ∧ (m123 a0 8) ≤ 6 := zi_rd hIm123 hc0 zb_28_8
          have e128 : (m123 a0 8) = (m7 a0 8) := (Eq.trans (zs_ne hmm123 (Or.inr (by decide))) (zs_ne hmm121 (Or.inr (by decide))))
          exact zw_some ⟨hIm123, hFm123, hRNSm123, hRWDm123, ⟨by omega, by omega⟩, by omega, by omega⟩
  · refine zw_bd (zw_eq (zr_85_0 n a0 2 m0) ?_)
    generalize hmm129 : zu_up m0 a0 4 2 = m129
    have hIm129 := zi_up hmm129 hIm0 hc0 zb_28_4 (by omega) (by omega)
    have hFm129 := zfr_up hmm129 hFm0 hc0 rfl
    have hRNSm129 := zR_NS_fr (zdis_fr (zfr_up hmm129 (zfr_rf [(28, 5)] _) hc0 rfl) rfl) hRNSm0
    have hRWDm129 := zR_WD_fr (zdis_fr (zfr_up hmm129 (zfr_rf [(28, 5)] _) hc0 rfl) rfl) hRWDm0
    have r130 : 0 ≤ (m129 a0 10) ∧ (m129 a0 10) ≤ 700 := zi_rd hIm129 hc0 zb_28_10
    generalize hmm131 : zu_up m129 a0 5 (m129 a0 10) = m131
    have hIm131 := zi_up hmm131 hIm129 hc0 zb_28_5 (by omega) (by omega)
    have hFm131 := zfr_up hmm131 hFm129 hc0 rfl
    have hRNSm131 := zR_NS_fr (zdis_fr (zfr_up hmm131 (zfr_rf [(28, 6)] _) hc0 rfl) rfl) hRNSm129
    have hRWDm131 := zR_WD_fr (zdis_fr (zfr_up hmm131 (zfr_rf [(28, 6)] _) hc0 rfl) rfl) hRWDm129
    refine zw_b (by omega) ?_
    refine zw_some ?_
    refine zw_b (by omega) ?_
    have r132 : 0 ≤ (m131 a0 7) ∧ (m131 a0 7) ≤ 700 := zi_rd hIm131 hc0 zb_28_7
    have r133 : 0 ≤ (m131 a0 8) ∧ (m131 a0 8) ≤ 6 := zi_rd hIm131 hc0 zb_28_8
    have e134 : (m131 a0 8) = (m0 a0 8) := (Eq.trans (zs_ne hmm131 (Or.inr (by decide))) (zs_ne hmm129 (Or.inr (by decide))))
    exact zw_some ⟨hIm131, hFm131, hRNSm131, hRWDm131, ⟨by omega, by omega⟩, by omega, by omega⟩
set_option maxHeartbeats 4000000 in
theorem zk_101 (n : Nat) {a0 : Int} {m0 : zu_m} (hIm0 : zi_I m0) (hc0 : zcls a0 = 28)   (he0 : 1 ≤ m0 a0 8 ∧ m0 a0 8 ≤ 1) (he1 : 4 ≤ m0 a0 9 ∧ m0 a0 9 ≤ 4)  (hRNSm0 : zR_NS m0) (hRWDm0 : zR_WD m0) : zw (zu_call (zt_T n) 101 [(40, a0)] m0) (fun v m => zi_I m ∧ zfr [(28, 5), (28, 6), (28, 8), (28, 9), (28, 10), (28, 11), (28, 12), (28, 20), (28, 24), (28, 43), (106, 0), (107, 0), (108, 0)] m0 m ∧ zR_NS m ∧ zR_WD m ∧ (0 ≤ v ∧ v ≤ 1) ∧ ((m0 a0 7) ≤ (m a0 7)) ∧ (v = 1 → ((m a0 8) = 0 ∨ (m0 a0 7) < (m a0 7)))) := by
  have hFm0 : zfr [(28, 5), (28, 6), (28, 8), (28, 9), (28, 10), (28, 11), (28, 12), (28, 20), (28, 24), (28, 43), (106, 0), (107, 0), (108, 0)] m0 m0 := zfr_rf _ _
  have s1 := hRNSm0 a0 hc0
  refine zw_eq (zr_101_0 n a0 m0) ?_
  have r2 : 0 ≤ (m0 a0 19) ∧ (m0 a0 19) ≤ 12 := zi_rd hIm0 hc0 zb_28_19
  refine zw_ite (fun h3 => ?_) (fun h3 => ?_)
  · refine zw_bd (zw_mono (zk_89 n hIm0 hc0 hRNSm0 hRWDm0) (fun v5 m4 hqm4 => ?_))
    obtain ⟨hIm4, hfm4, hvm4⟩ := hqm4
    have hFm4 := zfr_tr hFm0 hfm4 rfl
    obtain ⟨hRNSm4, hRWDm4, hvm4⟩ := hvm4
    have s6 := hRNSm4 a0 hc0
    have r7 : 0 ≤ (m4 a0 19) ∧ (m4 a0 19) ≤ 12 := zi_rd hIm4 hc0 zb_28_19
    have e8 : (m4 a0 19) = (m0 a0 19) := (zfr_ap hfm4 hc0 rfl)
    have w9 := zu_w32_id (z := 18 + (m4 a0 19)) (by omega) (by omega)
    refine zw_bd (zw_eq (zr_97_0 n a0 12 15 m4) ?_)
    have r10 : 0 ≤ (m4 a0 8) ∧ (m4 a0 8) ≤ 6 := zi_rd hIm4 hc0 zb_28_8
    refine zw_ite (fun h11 => ?_) (fun h11 => ?_)
    · refine zw_bd (zw_eq (zr_85_0 n a0 1 m4) ?_)
      generalize hmm12 : zu_up m4 a0 4 1 = m12
      have hIm12 := zi_up hmm12 hIm4 hc0 zb_28_4 (by omega) (by omega)
      have hFm12 := zfr_up hmm12 hFm4 hc0 rfl
      have hRNSm12 := zR_NS_fr (zdis_fr (zfr_up hmm12 (zfr_rf [(28, 5)] _) hc0 rfl) rfl) hRNSm4
      have hRWDm12 := zR_WD_fr (zdis_fr (zfr_up hmm12 (zfr_rf [(28, 5)] _) hc0 rfl) rfl) hRWDm4
      have r13 : 0 ≤ (m12 a0 10) ∧ (m12 a0 10) ≤ 700 := zi_rd hIm12 hc0 zb_28_10
      generalize hmm14 : zu_up m12 a0 5 (m12 a0 10) = m14
      have hIm14 := zi_up hmm14 hIm12 hc0 zb_28_5 (by omega) (by omega)
      have hFm14 := zfr_up hmm14 hFm12 hc0 rfl
      have hRNSm14 := zR_NS_fr (zdis_fr (zfr_up hmm14 (zfr_rf [(28, 6)] _) hc0 rfl) rfl) hRNSm12
      have hRWDm14 := zR_WD_fr (zdis_fr (zfr_up hmm14 (zfr_rf [(28, 6)] _) hc0 rfl) rfl) hRWDm12
      refine zw_b (by omega) ?_
      refine zw_some ?_
      refine zw_b (by omega) ?_
      refine zw_some ?_
      refine zw_ite (fun h15 => ?_) (fun h15 => ?_)
      · exfalso; omega
      · refine zw_b (by omega) ?_
        have r16 : 0 ≤ (m14 a0 7) ∧ (m14 a0 7) ≤ 700 := zi_rd hIm14 hc0 zb_28_7
        have r17 : 0 ≤ (m14 a0 8) ∧ (m14 a0 8) ≤ 6 := zi_rd hIm14 hc0 zb_28_8
        have e18 : (m14 a0 8) = (m4 a0 8) := (Eq.trans (zs_ne hmm14 (Or.inr (by decide))) (zs_ne hmm12 (Or.inr (by decide))))
        exact zw_some ⟨hIm14, hFm14, hRNSm14, hRWDm14, ⟨by omega, by omega⟩, by omega, by omega⟩
    · have r19 : (-2147483648) ≤ (m4 a0 9) ∧ (m4 a0 9) ≤ 2147483647 := zi_rd hIm4 hc0 zb_28_9
      refine zw_ite (fun h20 => ?_) (fun h20 => ?_)
      · refine zw_bd (zw_eq (zr_85_0 n a0 1 m4) ?_)
        generalize hmm21 : zu_up m4 a0 4 1 = m21
        have hIm21 := zi_up hmm21 hIm4 hc0 zb_28_4 (by omega) (by omega)
        have hFm21 := zfr_up hmm21 hFm4 hc0 rfl
        have hRNSm21 := zR_NS_fr (zdis_fr (zfr_up hmm21 (zfr_rf [(28, 5)] _) hc0 rfl) rfl) hRNSm4
        have hRWDm21 := zR_WD_fr (zdis_fr (zfr_up hmm21 (zfr_rf [(28, 5)] _) hc0 rfl) rfl) hRWDm4
        have r22 : 0 ≤ (m21 a0 10) ∧ (m21 a0 10) ≤ 700 := zi_rd hIm21 hc0 zb_28_10
        generalize hmm23 : zu_up m21 a0 5 (m21 a0 10) = m23
        have hIm23 := zi_up hmm23 hIm21 hc0 zb_28_5 (by omega) (by omega)
        have hFm23 := zfr_up hmm23 hFm21 hc0 rfl
        have hRNSm23 := zR_NS_fr (zdis_fr (zfr_up hmm23 (zfr_rf [(28, 6)] _) hc0 rfl) rfl) hRNSm21
        have hRWDm23 := zR_WD_fr (zdis_fr (zfr_up hmm23 (zfr_rf [(28, 6)] _) hc0 rfl) rfl) hRWDm21
        refine zw_b (by omega) ?_
        refine zw_some ?_
        refine zw_b (by omega) ?_
        refine zw_some ?_
        refine zw_ite (fun h24 => ?_) (fun h24 => ?_)
        · exfalso; omega
        · refine zw_b (by omega) ?_
          have r25 : 0 ≤ (m23 a0 7) ∧ (m23 a0 7) ≤ 700 := zi_rd hIm23 hc0 zb_28_7
          have r26 : 0 ≤ (m23 a0 8) ∧ (m23 a0 8) ≤ 6 := zi_rd hIm23 hc0 zb_28_8
          have e27 : (m23 a0 8) = (m4 a0 8) := (Eq.trans (zs_ne hmm23 (Or.inr (by decide))) (zs_ne hmm21 (Or.inr (by decide))))
          exact zw_some ⟨hIm23, hFm23, hRNSm23, hRWDm23, ⟨by omega, by omega⟩, by omega, by omega⟩
      · refine zw_ite (fun h28 => ?_) (fun h28 => ?_)
        · have w29 := zu_w32_id (z := (m4 a0 9) - 12) (by omega) (by omega)
          refine zw_bd (zw_mono (zk_89 n hIm4 hc0 hRNSm4 hRWDm4) (fun v31 m30 hqm30 => ?_))
          obtain ⟨hIm30, hfm30, hvm30⟩ := hqm30
          have hFm30 := zfr_tr hFm4 hfm30 rfl
          obtain ⟨hRNSm30, hRWDm30, hvm30⟩ := hvm30
          have s32 := hRNSm30 a0 hc0
          generalize hmm33 : zu_up m30 a0 11 (zu_w32 ((m4 a0 9) - 12)) = m33
          have hIm33 := zi_up hmm33 hIm30 hc0 zb_28_11 (by omega) (by omega)
          have hFm33 := zfr_up hmm33 hFm30 hc0 rfl
          have hRNSm33 := zR_NS_fr (zdis_fr (zfr_up hmm33 (zfr_rf [(28, 12)] _) hc0 rfl) rfl) hRNSm30
          have hRWDm33 := zR_WD_fr (zdis_fr (zfr_up hmm33 (zfr_rf [(28, 12)] _) hc0 rfl) rfl) hRWDm30
          refine zw_b (by omega) ?_
          refine zw_some ?_
          refine zw_ite (fun h34 => ?_) (fun h34 => ?_)
          · have r35 : (-2147483648) ≤ (m33 a0 11) ∧ (m33 a0 11) ≤ 2147483647 := zi_rd hIm33 hc0 zb_28_11
            have e36 : (m33 a0 11) = (zu_w32 ((m4 a0 9) - 12)) := (zs_eq hmm33)
            have b37 : 0 ≤ (zu_w32 (18 + (m4 a0 19))) ∧ (zu_w32 (18 + (m4 a0 19))) < 36 := by omega
            refine zw_if b37 ?_
            generalize hmm38 : zu_up m33 198 (zu_w32 (18 + (m4 a0 19))) (m33 a0 11) = m38
            have hIm38 := zi_up hmm38 hIm33 zq_198 (zb_107 _) (by omega) (by omega)
            have hFm38 := zfr_up hmm38 hFm33 zq_198 rfl
            have hRNSm38 := zR_NS_fr (zdis_fr (zfr_up hmm38 (zfr_rf [(107, 0)] _) zq_198 rfl) rfl) hRNSm33
            have hRWDm38 := zR_WD_fr (zdis_fr (zfr_up hmm38 (zfr_rf [(107, 0)] _) zq_198 rfl) rfl) hRWDm33
            refine zw_bd (zw_eq (zr_96_0 n a0 m38) ?_)
            refine zw_b (by omega) ?_
            generalize hmm39 : zu_up m38 a0 23 1 = m39
            have hIm39 := zi_up hmm39 hIm38 hc0 zb_28_23 (by omega) (by omega)
            have hFm39 := zfr_up hmm39 hFm38 hc0 rfl
            have hRNSm39 := zR_NS_fr (zdis_fr (zfr_up hmm39 (zfr_rf [(28, 24)] _) hc0 rfl) rfl) hRNSm38
            have hRWDm39 := zR_WD_fr (zdis_fr (zfr_up hmm39 (zfr_rf [(28, 24)] _) hc0 rfl) rfl) hRWDm38
            have r40 : 1 ≤ (m39 a0 17) ∧ (m39 a0 17) ≤ 8 := zi_rd hIm39 hc0 zb_28_17
            have w41 := zu_w32_id (z := (m39 a0 17) - 1) (by omega) (by omega)
            refine zw_bd (zw_eq (zr_94_0 n a0 0 (zu_w32 ((m39 a0 17) - 1)) m39) ?_)
            have r42 : 0 ≤ (m39 a0 8) ∧ (m39 a0 8) ≤ 6 := zi_rd hIm39 hc0 zb_28_8
            refine zw_ite (fun h43 => ?_) (fun h43 => ?_)
            · have r44 : (-2147483648) ≤ (m39 a0 9) ∧ (m39 a0 9) ≤ 2147483647 := zi_rd hIm39 hc0 zb_28_9
              refine zw_bd (zw_eq (zr_83_0 n (m39 a0 9) 0 (zu_w32 ((m39 a0 17) - 1)) m39) ?_)
              refine zw_ite (fun h45 => ?_) (fun h45 => ?_)
              · refine zw_b (by omega) ?_
                refine zw_some ?_
                refine zw_ite (fun h46 => ?_) (fun h46 => ?_)
                · exfalso; omega
                · refine zw_bd (zw_eq (zr_85_0 n a0 2 m39) ?_)
                  generalize hmm47 : zu_up m39 a0 4 2 = m47
                  have hIm47 := zi_up hmm47 hIm39 hc0 zb_28_4 (by omega) (by omega)
                  have hFm47 := zfr_up hmm47 hFm39 hc0 rfl
                  have hRNSm47 := zR_NS_fr (zdis_fr (zfr_up hmm47 (zfr_rf [(28, 5)] _) hc0 rfl) rfl) hRNSm39
                  have hRWDm47 := zR_WD_fr (zdis_fr (zfr_up hmm47 (zfr_rf [(28, 5)] _) hc0 rfl) rfl) hRWDm39
                  have r48 : 0 ≤ (m47 a0 10) ∧ (m47 a0 10) ≤ 700 := zi_rd hIm47 hc0 zb_28_10
                  generalize hmm49 : zu_up m47 a0 5 (m47 a0 10) = m49
                  have hIm49 := zi_up hmm49 hIm47 hc0 zb_28_5 (by omega) (by omega)
                  have hFm49 := zfr_up hmm49 hFm47 hc0 rfl
                  have hRNSm49 := zR_NS_fr (zdis_fr (zfr_up hmm49 (zfr_rf [(28, 6)] _) hc0 rfl) rfl) hRNSm47
                  have hRWDm49 := zR_WD_fr (zdis_fr (zfr_up hmm49 (zfr_rf [(28, 6)] _) hc0 rfl) rfl) hRWDm47
                  refine zw_b (by omega) ?_
                  refine zw_some ?_
                  refine zw_b (by omega) ?_
                  refine zw_some ?_
                  refine zw_ite (fun h50 => ?_) (fun h50 => ?_)
                  · exfalso; omega
                  · refine zw_b (by omega) ?_
                    refine zw_some ?_
                    refine zw_ite (fun h51 => ?_) (fun h51 => ?_)
                    · exfalso; omega
                    · refine zw_b (by omega) ?_
                      have r52 : 0 ≤ (m49 a0 7) ∧ (m49 a0 7) ≤ 700 := zi_rd hIm49 hc0 zb_28_7
                      have r53 : 0 ≤ (m49 a0 8) ∧ (m49 a0 8) ≤ 6 := zi_rd hIm49 hc0 zb_28_8
                      have e54 : (m49 a0 8) = (m39 a0 8) := (Eq.trans (zs_ne hmm49 (Or.inr (by decide))) (zs_ne hmm47 (Or.inr (by decide))))
                      exact zw_some ⟨hIm49, hFm49, hRNSm49, hRWDm49, ⟨by omega, by omega⟩, by omega, by omega⟩
              · refine zw_ite (fun h55 => ?_) (fun h55 => ?_)
                · refine zw_b (by omega) ?_
                  refine zw_some ?_
                  refine zw_ite (fun h56 => ?_) (fun h56 => ?_)
                  · exfalso; omega
                  · refine zw_bd (zw_eq (zr_85_0 n a0 2 m39) ?_)
                    generalize hmm57 : zu_up m39 a0 4 2 = m57
                    have hIm57 := zi_up hmm57 hIm39 hc0 zb_28_4 (by omega) (by omega)
                    have hFm57 := zfr_up hmm57 hFm39 hc0 rfl
                    have hRNSm57 := zR_NS_fr (zdis_fr (zfr_up hmm57 (zfr_rf [(28, 5)] _) hc0 rfl) rfl) hRNSm39
                    have hRWDm57 := zR_WD_fr (zdis_fr (zfr_up hmm57 (zfr_rf [(28, 5)] _) hc0 rfl) rfl) hRWDm39
                    have r58 : 0 ≤ (m57 a0 10) ∧ (m57 a0 10) ≤ 700 := zi_rd hIm57 hc0 zb_28_10
                    generalize hmm59 : zu_up m57 a0 5 (m57 a0 10) = m59
                    have hIm59 := zi_up hmm59 hIm57 hc0 zb_28_5 (by omega) (by omega)
                    have hFm59 := zfr_up hmm59 hFm57 hc0 rfl
                    have hRNSm59 := zR_NS_fr (zdis_fr (zfr_up hmm59 (zfr_rf [(28, 6)] _) hc0 rfl) rfl) hRNSm57
                    have hRWDm59 := zR_WD_fr (zdis_fr (zfr_up hmm59 (zfr_rf [(28, 6)] _) hc0 rfl) rfl) hRWDm57
                    refine zw_b (by omega) ?_
                    refine zw_some ?_
                    refine zw_b (by omega) ?_
                    refine zw_some ?_
                    refine zw_ite (fun h60 => ?_) (fun h60 => ?_)
                    · exfalso; omega
                    · refine zw_b (by omega) ?_
                      refine zw_some ?_
                      refine zw_ite (fun h61 => ?_) (fun h61 => ?_)
                      · exfalso; omega
                      · refine zw_b (by omega) ?_
                        have r62 : 0 ≤ (m59 a0 7) ∧ (m59 a0 7) ≤ 700 := zi_rd hIm59 hc0 zb_28_7
                        have r63 : 0 ≤ (m59 a0 8) ∧ (m59 a0 8) ≤ 6 := zi_rd hIm59 hc0 zb_28_8
                        have e64 : (m59 a0 8) = (m39 a0 8) := (Eq.trans (zs_ne hmm59 (Or.inr (by decide))) (zs_ne hmm57 (Or.inr (by decide))))
                        exact zw_some ⟨hIm59, hFm59, hRNSm59, hRWDm59, ⟨by omega, by omega⟩, by omega, by omega⟩
                · refine zw_b (by omega) ?_
                  refine zw_some ?_
                  refine zw_ite (fun h65 => ?_) (fun h65 => ?_)
                  · generalize hmm66 : zu_up m39 a0 11 (m39 a0 9) = m66
                    have hIm66 := zi_up hmm66 hIm39 hc0 zb_28_11 (by omega) (by omega)
                    have hFm66 := zfr_up hmm66 hFm39 hc0 rfl
                    have hRNSm66 := zR_NS_fr (zdis_fr (zfr_up hmm66 (zfr_rf [(28, 12)] _) hc0 rfl) rfl) hRNSm39
                    have hRWDm66 := zR_WD_fr (zdis_fr (zfr_up hmm66 (zfr_rf [(28, 12)] _) hc0 rfl) rfl) hRWDm39
                    refine zw_bd (zw_mono (zk_89 n hIm66 hc0 hRNSm66 hRWDm66) (fun v68 m67 hqm67 => ?_))
                    obtain ⟨hIm67, hfm67, hvm67⟩ := hqm67
                    have hFm67 := zfr_tr hFm66 hfm67 rfl
                    obtain ⟨hRNSm67, hRWDm67, hvm67⟩ := hvm67
                    have s69 := hRNSm67 a0 hc0
                    refine zw_b (by omega) ?_
                    refine zw_some ?_
                    refine zw_ite (fun h70 => ?_) (fun h70 => ?_)
                    · have r71 : (-2147483648) ≤ (m67 a0 11) ∧ (m67 a0 11) ≤ 2147483647 := zi_rd hIm67 hc0 zb_28_11
                      have e72 : (m67 a0 11) = (m39 a0 9) := (Eq.trans (zfr_ap hfm67 hc0 rfl) (zs_eq hmm66))
                      have r73 : 0 ≤ (m67 a0 10) ∧ (m67 a0 10) ≤ 700 := zi_rd hIm67 hc0 zb_28_10
                      generalize hmm74 : zu_up m67 a0 42 (m67 a0 10) = m74
                      have hIm74 := zi_up hmm74 hIm67 hc0 zb_28_42 (by omega) (by omega)
                      have hFm74 := zfr_up hmm74 hFm67 hc0 rfl
                      have hRNSm74 := zR_NS_fr (zdis_fr (zfr_up hmm74 (zfr_rf [(28, 43)] _) hc0 rfl) rfl) hRNSm67
                      have hRWDm74 := zR_WD_fr (zdis_fr (zfr_up hmm74 (zfr_rf [(28, 43)] _) hc0 rfl) rfl) hRWDm67
                      have r75 : 1 ≤ (m74 a0 18) ∧ (m74 a0 18) ≤ 6 := zi_rd hIm74 hc0 zb_28_18
                      have w76 := zu_w32_id (z := (m74 a0 18) - 1) (by omega) (by omega)
                      refine zw_bd (zw_eq (zr_94_0 n a0 0 (zu_w32 ((m74 a0 18) - 1)) m74) ?_)
                      have r77 : 0 ≤ (m74 a0 8) ∧ (m74 a0 8) ≤ 6 := zi_rd hIm74 hc0 zb_28_8
                      refine zw_ite (fun h78 => ?_) (fun h78 => ?_)
                      · have r79 : (-2147483648) ≤ (m74 a0 9) ∧ (m74 a0 9) ≤ 2147483647 := zi_rd hIm74 hc0 zb_28_9
                        refine zw_bd (zw_eq (zr_83_0 n (m74 a0 9) 0 (zu_w32 ((m74 a0 18) - 1)) m74) ?_)
                        refine zw_ite (fun h80 => ?_) (fun h80 => ?_)
                        · refine zw_b (by omega) ?_
                          refine zw_some ?_
                          refine zw_ite (fun h81 => ?_) (fun h81 => ?_)
                          · exfalso; omega
                          · refine zw_bd (zw_eq (zr_85_0 n a0 2 m74) ?_)
                            generalize hmm82 : zu_up m74 a0 4 2 = m82
                            have hIm82 := zi_up hmm82 hIm74 hc0 zb_28_4 (by omega) (by omega)
                            have hFm82 := zfr_up hmm82 hFm74 hc0 rfl
                            have hRNSm82 := zR_NS_fr (zdis_fr (zfr_up hmm82 (zfr_rf [(28, 5)] _) hc0 rfl) rfl) hRNSm74
                            have hRWDm82 := zR_WD_fr (zdis_fr (zfr_up hmm82 (zfr_rf [(28, 5)] _) hc0 rfl) rfl) hRWDm74
                            have r83 : 0 ≤ (m82 a0 10) ∧ (m82 a0 10) ≤ 700 := zi_rd hIm82 hc0 zb_28_10
                            have e84 : (m82 a0 10) = (m67 a0 10) := (Eq.trans (zs_ne hmm82 (Or.inr (by decide))) (zs_ne hmm74 (Or.inr (by decide))))
                            generalize hmm85 : zu_up m82 a0 5 (m82 a0 10) = m85
                            have hIm85 := zi_up hmm85 hIm82 hc0 zb_28_5 (by omega) (by omega)
                            have hFm85 := zfr_up hmm85 hFm82 hc0 rfl
                            have hRNSm85 := zR_NS_fr (zdis_fr (zfr_up hmm85 (zfr_rf [(28, 6)] _) hc0 rfl) rfl) hRNSm82
                            have hRWDm85 := zR_WD_fr (zdis_fr (zfr_up hmm85 (zfr_rf [(28, 6)] _) hc0 rfl) rfl) hRWDm82
                            refine zw_b (by omega) ?_
                            refine zw_some ?_
                            refine zw_b (by omega) ?_
                            refine zw_some ?_
                            refine zw_ite (fun h86 => ?_) (fun h86 => ?_)
                            · exfalso; omega
                            · refine zw_b (by omega) ?_
                              refine zw_some ?_
                              refine zw_ite (fun h87 => ?_) (fun h87 => ?_)
                              · exfalso; omega
                              · refine zw_b (by omega) ?_
                                have r88 : 0 ≤ (m85 a0 7) ∧ (m85 a0 7) ≤ 700 := zi_rd hIm85 hc0 zb_28_7
                                have r89 : 0 ≤ (m85 a0 8) ∧ (m85 a0 8) ≤ 6 := zi_rd hIm85 hc0 zb_28_8
                                have e90 : (m85 a0 8) = (m74 a0 8) := (Eq.trans (zs_ne hmm85 (Or.inr (by decide))) (zs_ne hmm82 (Or.inr (by decide))))
                                exact zw_some ⟨hIm85, hFm85, hRNSm85, hRWDm85, ⟨by omega, by omega⟩, by omega, by omega⟩
                        · refine zw_ite (fun h91 => ?_) (fun h91 => ?_)
                          · refine zw_b (by omega) ?_
                            refine zw_some ?_
                            refine zw_ite (fun h92 => ?_) (fun h92 => ?_)
                            · exfalso; omega
                            · refine zw_bd (zw_eq (zr_85_0 n a0 2 m74) ?_)
                              generalize hmm93 : zu_up m74 a0 4 2 = m93
                              have hIm93 := zi_up hmm93 hIm74 hc0 zb_28_4 (by omega) (by omega)
                              have hFm93 := zfr_up hmm93 hFm74 hc0 rfl
                              have hRNSm93 := zR_NS_fr (zdis_fr (zfr_up hmm93 (zfr_rf [(28, 5)] _) hc0 rfl) rfl) hRNSm74
                              have hRWDm93 := zR_WD_fr (zdis_fr (zfr_up hmm93 (zfr_rf [(28, 5)] _) hc0 rfl) rfl) hRWDm74
                              have r94 : 0 ≤ (m93 a0 10) ∧ (m93 a0 10) ≤ 700 := zi_rd hIm93 hc0 zb_28_10
                              have e95 : (m93 a0 10) = (m67 a0 10) := (Eq.trans (zs_ne hmm93 (Or.inr (by decide))) (zs_ne hmm74 (Or.inr (by decide))))
                              generalize hmm96 : zu_up m93 a0 5 (m93 a0 10) = m96
                              have hIm96 := zi_up hmm96 hIm93 hc0 zb_28_5 (by omega) (by omega)
                              have hFm96 := zfr_up hmm96 hFm93 hc0 rfl
                              have hRNSm96 := zR_NS_fr (zdis_fr (zfr_up hmm96 (zfr_rf [(28, 6)] _) hc0 rfl) rfl) hRNSm93
                              have hRWDm96 := zR_WD_fr (zdis_fr (zfr_up hmm96 (zfr_rf [(28, 6)] _) hc0 rfl) rfl) hRWDm93
                              refine zw_b (by omega) ?_
                              refine zw_some ?_
                              refine zw_b (by omega) ?_
                              refine zw_some ?_
                              refine zw_ite (fun h97 => ?_) (fun h97 => ?_)
                              · exfalso; omega
                              · refine zw_b (by omega) ?_
                                refine zw_some ?_
                                refine zw_ite (fun h98 => ?_) (fun h98 => ?_)
                                · exfalso; omega
                                · refine zw_b (by omega) ?_
                                  have r99 : 0 ≤ (m96 a0 7) ∧ (m96 a0 7) ≤ 700 := zi_rd hIm96 hc0 zb_28_7
                                  have r100 : 0 ≤ (m96 a0 8) ∧ (m96 a0 8) ≤ 6 := zi_rd hIm96 hc0 zb_28_8
                                  have e101 : (m96 a0 8) = (m74 a0 8) := (Eq.trans (zs_ne hmm96 (Or.inr (by decide))) (zs_ne hmm93 (Or.inr (by decide))))
                                  exact zw_some ⟨hIm96, hFm96, hRNSm96, hRWDm96, ⟨by omega, by omega⟩, by omega, by omega⟩
                          · refine zw_b (by omega) ?_
                            refine zw_some ?_
                            refine zw_ite (fun h102 => ?_) (fun h102 => ?_)
                            · generalize hmm103 : zu_up m74 a0 11 (m74 a0 9) = m103
                              have hIm103 := zi_up hmm103 hIm74 hc0 zb_28_11 (by omega) (by omega)
                              have hFm103 := zfr_up hmm103 hFm74 hc0 rfl
                              have hRNSm103 := zR_NS_fr (zdis_fr (zfr_up hmm103 (zfr_rf [(28, 12)] _) hc0 rfl) rfl) hRNSm74
                              have hRWDm103 := zR_WD_fr (zdis_fr (zfr_up hmm103 (zfr_rf [(28, 12)] _) hc0 rfl) rfl) hRWDm74
                              refine zw_bd (zw_mono (zk_89 n hIm103 hc0 hRNSm103 hRWDm103) (fun v105 m104 hqm104 => ?_))
                              obtain ⟨hIm104, hfm104, hvm104⟩ := hqm104
                              have hFm104 := zfr_tr hFm103 hfm104 rfl
                              obtain ⟨hRNSm104, hRWDm104, hvm104⟩ := hvm104
                              have s106 := hRNSm104 a0 hc0
                              refine zw_b (by omega) ?_
                              refine zw_some ?_
                              refine zw_ite (fun h107 => ?_) (fun h107 => ?_)
                              · have r108 : 1 ≤ (m104 a0 17) ∧ (m104 a0 17) ≤ 8 := zi_rd hIm104 hc0 zb_28_17
                                have e109 : (m104 a0 17) = (m39 a0 17) := (Eq.trans (zfr_ap hfm104 hc0 rfl) (Eq.trans (zs_ne hmm103 (Or.inr (by decide))) (Eq.trans (zs_ne hmm74 (Or.inr (by decide))) (Eq.trans (zfr_ap hfm67 hc0 rfl) (zs_ne hmm66 (Or.inr (by decide)))))))
                                have r110 : (-2147483648) ≤ (m104 a0 11) ∧ (m104 a0 11) ≤ 2147483647 := zi_rd hIm104 hc0 zb_28_11
                                have e111 : (m104 a0 11) = (m74 a0 9) := (Eq.trans (zfr_ap hfm104 hc0 rfl) (zs_eq hmm103))
                                have p112 := zmul_bd (x := (m104 a0 17)) (y := (m104 a0 11)) (a := 1) (b := 0) (A := 8) (B := 5) (by omega) (by omega) (by omega) (by omega) (by omega) (by omega)
                                have w113 := zu_w32_id (z := (m104 a0 17) * (m104 a0 11)) (by omega) (by omega)
                                have w114 := zu_w32_id (z := (zu_w32 ((m104 a0 17) * (m104 a0 11))) + (m67 a0 11)) (by omega) (by omega)
                                generalize hmm115 : zu_up m104 a0 11 (zu_w32 ((zu_w32 ((m104 a0 17) * (m104 a0 11))) + (m67 a0 11))) = m115
                                have hIm115 := zi_up hmm115 hIm104 hc0 zb_28_11 (by omega) (by omega)
                                have hFm115 := zfr_up hmm115 hFm104 hc0 rfl
                                have hRNSm115 := zR_NS_fr (zdis_fr (zfr_up hmm115 (zfr_rf [(28, 12)] _) hc0 rfl) rfl) hRNSm104
                                have hRWDm115 := zR_WD_fr (zdis_fr (zfr_up hmm115 (zfr_rf [(28, 12)] _) hc0 rfl) rfl) hRWDm104
                                refine zw_b (by omega) ?_
                                refine zw_some ?_
                                refine zw_ite (fun h116 => ?_) (fun h116 => ?_)
                                · have r117 : (-2147483648) ≤ (m115 a0 11) ∧ (m115 a0 11) ≤ 2147483647 := zi_rd hIm115 hc0 zb_28_11
                                  have e118 : (m115 a0 11) = (zu_w32 ((zu_w32 ((m104 a0 17) * (m104 a0 11))) + (m67 a0 11))) := (zs_eq hmm115)
                                  have b119 : 0 ≤ (zu_w32 (18 + (m4 a0 19))) ∧ (zu_w32 (18 + (m4 a0 19))) < 36 := by omega
                                  refine zw_if b119 ?_
                                  generalize hmm120 : zu_up m115 197 (zu_w32 (18 + (m4 a0 19))) (m115 a0 11) = m120
                                  have hIm120 := zi_up hmm120 hIm115 zq_197 (zb_106 _) (by omega) (by omega)
                                  have hFm120 := zfr_up hmm120 hFm115 zq_197 rfl
                                  have hRNSm120 := zR_NS_fr (zdis_fr (zfr_up hmm120 (zfr_rf [(106, 0)] _) zq_197 rfl) rfl) hRNSm115
                                  have hRWDm120 := zR_WD_fr (zdis_fr (zfr_up hmm120 (zfr_rf [(106, 0)] _) zq_197 rfl) rfl) hRWDm115
                                  refine zw_bd (zw_eq (zr_94_0 n a0 0 9 m120) ?_)
                                  have r121 : 0 ≤ (m120 a0 8) ∧ (m120 a0 8) ≤ 6 := zi_rd hIm120 hc0 zb_28_8
                                  refine zw_ite (fun h122 => ?_) (fun h122 => ?_)
                                  · have r123 : (-2147483648) ≤ (m120 a0 9) ∧ (m120 a0 9) ≤ 2147483647 := zi_rd hIm120 hc0 zb_28_9
                                    refine zw_bd (zw_eq (zr_83_0 n (m120 a0 9) 0 9 m120) ?_)
                                    refine zw_ite (fun h124 => ?_) (fun h124 => ?_)
                                    · refine zw_b (by omega) ?_
                                      refine zw_some ?_
                                      refine zw_ite (fun h125 => ?_) (fun h125 => ?_)
                                      · exfalso; omega
                                      · refine zw_bd (zw_eq (zr_85_0 n a0 2 m120) ?_)
                                        generalize hmm126 : zu_up m120 a0 4 2 = m126
                                        have hIm126 := zi_up hmm126 hIm120 hc0 zb_28_4 (by omega) (by omega)
                                        have hFm126 := zfr_up hmm126 hFm120 hc0 rfl
                                        have hRNSm126 := zR_NS_fr (zdis_fr (zfr_up hmm126 (zfr_rf [(28, 5)] _) hc0 rfl) rfl) hRNSm120
                                        have hRWDm126 := zR_WD_fr (zdis_fr (zfr_up hmm126 (zfr_rf [(28, 5)] _) hc0 rfl) rfl) hRWDm120
                                        have r127 : 0 ≤ (m126 a0 10) ∧ (m126 a0 10) ≤ 700 := zi_rd hIm126 hc0 zb_28_10
                                        generalize hmm128 : zu_up m126 a0 5 (m126 a0 10) = m128
                                        have hIm128 := zi_up hmm128 hIm126 hc0 zb_28_5 (by omega) (by omega)
                                        have hFm128 := zfr_up hmm128 hFm126 hc0 rfl
                                        have hRNSm128 := zR_NS_fr (zdis_fr (zfr_up hmm128 (zfr_rf [(28, 6)] _) hc0 rfl) rfl) hRNSm126
                                        have hRWDm128 := zR_WD_fr (zdis_fr (zfr_up hmm128 (zfr_rf [(28, 6)] _) hc0 rfl) rfl) hRWDm126
                                        refine zw_b (by omega) ?_
                                        refine zw_some ?_
                                        refine zw_b (by omega) ?_
                                        refine zw_some ?_
                                        refine zw_ite (fun h129 => ?_) (fun h129 => ?_)
                                        · exfalso; omega
                                        · refine zw_b (by omega) ?_
                                          have r130 : 0 ≤ (m128 a0 7) ∧ (m128 a0 7) ≤ 700 := zi_rd hIm128 hc0 zb_28_7
                                          have r131 : 0 ≤ (m128 a0 8) ∧ (m128 a0 8) ≤ 6 := zi_rd hIm128 hc0 zb_28_8
                                          have e132 : (m128 a0 8) = (m120 a0 8) := (Eq.trans (zs_ne hmm128 (Or.inr (by decide))) (zs_ne hmm126 (Or.inr (by decide))))
                                          exact zw_some ⟨hIm128, hFm128, hRNSm128, hRWDm128, ⟨by omega, by omega⟩, by omega, by omega⟩
                                    · refine zw_ite (fun h133 => ?_) (fun h133 => ?_)
                                      · refine zw_b (by omega) ?_
                                        refine zw_some ?_
                                        refine zw_ite (fun h134 => ?_) (fun h134 => ?_)
                                        · exfalso; omega
                                        · refine zw_bd (zw_eq (zr_85_0 n a0 2 m120) ?_)
                                          generalize hmm135 : zu_up m120 a0 4 2 = m135
                                          have hIm135 := zi_up hmm135 hIm120 hc0 zb_28_4 (by omega) (by omega)
                                          have hFm135 := zfr_up hmm135 hFm120 hc0 rfl
                                          have hRNSm135 := zR_NS_fr (zdis_fr (zfr_up hmm135 (zfr_rf [(28, 5)] _) hc0 rfl) rfl) hRNSm120
                                          have hRWDm135 := zR_WD_fr (zdis_fr (zfr_up hmm135 (zfr_rf [(28, 5)] _) hc0 rfl) rfl) hRWDm120
                                          have r136 : 0 ≤ (m135 a0 10) ∧ (m135 a0 10) ≤ 700 := zi_rd hIm135 hc0 zb_28_10
                                          generalize hmm137 : zu_up m135 a0 5 (m135 a0 10) = m137
                                          have hIm137 := zi_up hmm137 hIm135 hc0 zb_28_5 (by omega) (by omega)
                                          have hFm137 := zfr_up hmm137 hFm135 hc0 rfl
                                          have hRNSm137 := zR_NS_fr (zdis_fr (zfr_up hmm137 (zfr_rf [(28, 6)] _) hc0 rfl) rfl) hRNSm135
                                          have hRWDm137 := zR_WD_fr (zdis_fr (zfr_up hmm137 (zfr_rf [(28, 6)] _) hc0 rfl) rfl) hRWDm135
                                          refine zw_b (by omega) ?_
                                          refine zw_some ?_
                                          refine zw_b (by omega) ?_
                                          refine zw_some ?_
                                          refine zw_ite (fun h138 => ?_) (fun h138 => ?_)
                                          · exfalso; omega
                                          · refine zw_b (by omega) ?_
                                            have r139 : 0 ≤ (m137 a0 7) ∧ (m137 a0 7) ≤ 700 := zi_rd hIm137 hc0 zb_28_7
                                            have r140 : 0 ≤ (m137 a0 8) ∧ (m137 a0 8) ≤ 6 := zi_rd hIm137 hc0 zb_28_8
                                            have e141 : (m137 a0 8) = (m120 a0 8) := (Eq.trans (zs_ne hmm137 (Or.inr (by decide))) (zs_ne hmm135 (Or.inr (by decide))))
                                            exact zw_some ⟨hIm137, hFm137, hRNSm137, hRWDm137, ⟨by omega, by omega⟩, by omega, by omega⟩
                                      · refine zw_b (by omega) ?_
                                        refine zw_some ?_
                                        refine zw_ite (fun h142 => ?_) (fun h142 => ?_)
                                        · generalize hmm143 : zu_up m120 a0 11 (m120 a0 9) = m143
                                          have hIm143 := zi_up hmm143 hIm120 hc0 zb_28_11 (by omega) (by omega)
                                          have hFm143 := zfr_up hmm143 hFm120 hc0 rfl
                                          have hRNSm143 := zR_NS_fr (zdis_fr (zfr_up hmm143 (zfr_rf [(28, 12)] _) hc0 rfl) rfl) hRNSm120
                                          have hRWDm143 := zR_WD_fr (zdis_fr (zfr_up hmm143 (zfr_rf [(28, 12)] _) hc0 rfl) rfl) hRWDm120
                                          refine zw_bd (zw_mono (zk_89 n hIm143 hc0 hRNSm143 hRWDm143) (fun v145 m144 hqm144 => ?_))
                                          obtain ⟨hIm144, hfm144, hvm144⟩ := hqm144
                                          have hFm144 := zfr_tr hFm143 hfm144 rfl
                                          obtain ⟨hRNSm144, hRWDm144, hvm144⟩ := hvm144
                                          have s146 := hRNSm144 a0 hc0
                                          refine zw_b (by omega) ?_
                                          refine zw_some ?_
                                          refine zw_ite (fun h147 => ?_) (fun h147 => ?_)
                                          · have r148 : (-2147483648) ≤ (m144 a0 11) ∧ (m144 a0 11) ≤ 2147483647 := zi_rd hIm144 hc0 zb_28_11
                                            have e149 : (m144 a0 11) = (m120 a0 9) := (Eq.trans (zfr_ap hfm144 hc0 rfl) (zs_eq hmm143))
                                            have b150 : 0 ≤ (zu_w32 (18 + (m4 a0 19))) ∧ (zu_w32 (18 + (m4 a0 19))) < 36 := by omega
                                            refine zw_if b150 ?_
                                            generalize hmm151 : zu_up m144 199 (zu_w32 (18 + (m4 a0 19))) (m144 a0 11) = m151
                                            have hIm151 := zi_up hmm151 hIm144 zq_199 (zb_108 _) (by omega) (by omega)
                                            have hFm151 := zfr_up hmm151 hFm144 zq_199 rfl
                                            have hRNSm151 := zR_NS_fr (zdis_fr (zfr_up hmm151 (zfr_rf [(108, 0)] _) zq_199 rfl) rfl) hRNSm144
                                            have hRWDm151 := zR_WD_fr (zdis_fr (zfr_up hmm151 (zfr_rf [(108, 0)] _) zq_199 rfl) rfl) hRWDm144
                                            have r152 : 0 ≤ (m151 a0 19) ∧ (m151 a0 19) ≤ 12 := zi_rd hIm151 hc0 zb_28_19
                                            have e153 : (m151 a0 19) = (m4 a0 19) := (Eq.trans (zs_ne hmm151 (Or.inl (zc_ne hc0 zq_199 (by decide)))) (Eq.trans (zfr_ap hfm144 hc0 rfl) (Eq.trans (zs_ne hmm143 (Or.inr (by decide))) (Eq.trans (zs_ne hmm120 (Or.inl (zc_ne hc0 zq_197 (by decide)))) (Eq.trans (zs_ne hmm115 (Or.inr (by decide))) (Eq.trans (zfr_ap hfm104 hc0 rfl) (Eq.trans (zs_ne hmm103 (Or.inr (by decide))) (Eq.trans (zs_ne hmm74 (Or.inr (by decide))) (Eq.trans (zfr_ap hfm67 hc0 rfl) (Eq.trans (zs_ne hmm66 (Or.inr (by decide))) (Eq.trans (zs_ne hmm39 (Or.inr (by decide))) (Eq.trans (zs_ne hmm38 (Or.inl (zc_ne hc0 zq_198 (by decide)))) (Eq.trans (zs_ne hmm33 (Or.inr (by decide))) (zfr_ap hfm30 hc0 rfl))))))))))))))
                                            have w154 := zu_w32_id (z := (m151 a0 19) + 1) (by omega) (by omega)
                                            generalize hmm155 : zu_up m151 a0 19 (zu_w32 ((m151 a0 19) + 1)) = m155
                                            have hIm155 := zi_up hmm155 hIm151 hc0 zb_28_19 (by omega) (by omega)
                                            have hFm155 := zfr_up hmm155 hFm151 hc0 rfl
                                            have hRNSm155 := zR_NS_fr (zdis_fr (zfr_up hmm155 (zfr_rf [(28, 20)] _) hc0 rfl) rfl) hRNSm151
                                            have hRWDm155 := zR_WD_fr (zdis_fr (zfr_up hmm155 (zfr_rf [(28, 20)] _) hc0 rfl) rfl) hRWDm151
                                            refine zw_b (by omega) ?_
                                            have r156 : 0 ≤ (m155 a0 7) ∧ (m155 a0 7) ≤ 700 := zi_rd hIm155 hc0 zb_28_7
                                            have r157 : 0 ≤ (m155 a0 8) ∧ (m155 a0 8) ≤ 6 := zi_rd hIm155 hc0 zb_28_8
                                            exact zw_some ⟨hIm155, hFm155, hRNSm155, hRWDm155, ⟨by omega, by omega⟩, by omega, by omega⟩
                                          · exfalso; omega
                                        · exfalso; omega
                                  · refine zw_bd (zw_eq (zr_85_0 n a0 1 m120) ?_)
                                    generalize hmm158 : zu_up m120 a0 4 1 = m158
                                    have hIm158 := zi_up hmm158 hIm120 hc0 zb_28_4 (by omega) (by omega)
                                    have hFm158 := zfr_up hmm158 hFm120 hc0 rfl
                                    have hRNSm158 := zR_NS_fr (zdis_fr (zfr_up hmm158 (zfr_rf [(28, 5)] _) hc0 rfl) rfl) hRNSm120
                                    have hRWDm158 := zR_WD_fr (zdis_fr (zfr_up hmm158 (zfr_rf [(28, 5)] _) hc0 rfl) rfl) hRWDm120
                                    have r159 : 0 ≤ (m158 a0 10) ∧ (m158 a0 10) ≤ 700 := zi_rd hIm158 hc0 zb_28_10
                                    generalize hmm160 : zu_up m158 a0 5 (m158 a0 10) = m160
                                    have hIm160 := zi_up hmm160 hIm158 hc0 zb_28_5 (by omega) (by omega)
                                    have hFm160 := zfr_up hmm160 hFm158 hc0 rfl
                                    have hRNSm160 := zR_NS_fr (zdis_fr (zfr_up hmm160 (zfr_rf [(28, 6)] _) hc0 rfl) rfl) hRNSm158
                                    have hRWDm160 := zR_WD_fr (zdis_fr (zfr_up hmm160 (zfr_rf [(28, 6)] _) hc0 rfl) rfl) hRWDm158
                                    refine zw_b (by omega) ?_
                                    refine zw_some ?_
                                    refine zw_b (by omega) ?_
                                    refine zw_some ?_
                                    refine zw_ite (fun h161 => ?_) (fun h161 => ?_)
                                    · exfalso; omega
                                    · refine zw_b (by omega) ?_
                                      have r162 : 0 ≤ (m160 a0 7) ∧ (m160 a0 7) ≤ 700 := zi_rd hIm160 hc0 zb_28_7
                                      have r163 : 0 ≤ (m160 a0 8) ∧ (m160 a0 8) ≤ 6 := zi_rd hIm160 hc0 zb_28_8
                                      have e164 : (m160 a0 8) = (m120 a0 8) := (Eq.trans (zs_ne hmm160 (Or.inr (by decide))) (zs_ne hmm158 (Or.inr (by decide))))
                                      exact zw_some ⟨hIm160, hFm160, hRNSm160, hRWDm160, ⟨by omega, by omega⟩, by omega, by omega⟩
                                · exfalso; omega
                              · exfalso; omega
                            · exfalso; omega
                      · refine zw_bd (zw_eq (zr_85_0 n a0 1 m74) ?_)
                        generalize hmm165 : zu_up m74 a0 4 1 = m165
                        have hIm165 := zi_up hmm165 hIm74 hc0 zb_28_4 (by omega) (by omega)
                        have hFm165 := zfr_up hmm165 hFm74 hc0 rfl
                        have hRNSm165 := zR_NS_fr (zdis_fr (zfr_up hmm165 (zfr_rf [(28, 5)] _) hc0 rfl) rfl) hRNSm74
                        have hRWDm165 := zR_WD_fr (zdis_fr (zfr_up hmm165 (zfr_rf [(28, 5)] _) hc0 rfl) rfl) hRWDm74
                        have r166 : 0 ≤ (m165 a0 10) ∧ (m165 a0 10) ≤ 700 := zi_rd hIm165 hc0 zb_28_10
                        have e167 : (m165 a0 10) = (m67 a0 10) := (Eq.trans (zs_ne hmm165 (Or.inr (by decide))) (zs_ne hmm74 (Or.inr (by decide))))
                        generalize hmm168 : zu_up m165 a0 5 (m165 a0 10) = m168
                        have hIm168 := zi_up hmm168 hIm165 hc0 zb_28_5 (by omega) (by omega)
                        have hFm168 := zfr_up hmm168 hFm165 hc0 rfl
                        have hRNSm168 := zR_NS_fr (zdis_fr (zfr_up hmm168 (zfr_rf [(28, 6)] _) hc0 rfl) rfl) hRNSm165
                        have hRWDm168 := zR_WD_fr (zdis_fr (zfr_up hmm168 (zfr_rf [(28, 6)] _) hc0 rfl) rfl) hRWDm165
                        refine zw_b (by omega) ?_
                        refine zw_some ?_
                        refine zw_b (by omega) ?_
                        refine zw_some ?_
                        refine zw_ite (fun h169 => ?_) (fun h169 => ?_)
                        · exfalso; omega
                        · refine zw_b (by omega) ?_
                          refine zw_some ?_
                          refine zw_ite (fun h170 => ?_) (fun h170 => ?_)
                          · exfalso; omega
                          · refine zw_b (by omega) ?_
                            have r171 : 0 ≤ (m168 a0 7) ∧ (m168 a0 7) ≤ 700 := zi_rd hIm168 hc0 zb_28_7
                            have r172 : 0 ≤ (m168 a0 8) ∧ (m168 a0 8) ≤ 6 := zi_rd hIm168 hc0 zb_28_8
                            have e173 : (m168 a0 8) = (m74 a0 8) := (Eq.trans (zs_ne hmm168 (Or.inr (by decide))) (zs_ne hmm165 (Or.inr (by decide))))
                            exact zw_some ⟨hIm168, hFm168, hRNSm168, hRWDm168, ⟨by omega, by omega⟩, by omega, by omega⟩
                    · exfalso; omega
                  · exfalso; omega
            · refine zw_bd (zw_eq (zr_85_0 n a0 1 m39) ?_)
              generalize hmm174 : zu_up m39 a0 4 1 = m174
              have hIm174 := zi_up hmm174 hIm39 hc0 zb_28_4 (by omega) (by omega)
              have hFm174 := zfr_up hmm174 hFm39 hc0 rfl
              have hRNSm174 := zR_NS_fr (zdis_fr (zfr_up hmm174 (zfr_rf [(28, 5)] _) hc0 rfl) rfl) hRNSm39
              have hRWDm174 := zR_WD_fr (zdis_fr (zfr_up hmm174 (zfr_rf [(28, 5)] _) hc0 rfl) rfl) hRWDm39
              have r175 : 0 ≤ (m174 a0 10) ∧ (m174 a0 10) ≤ 700 := zi_rd hIm174 hc0 zb_28_10
              generalize hmm176 : zu_up m174 a0 5 (m174 a0 10) = m176
              have hIm176 := zi_up hmm176 hIm174 hc0 zb_28_5 (by omega) (by omega)
              have hFm176 := zfr_up hmm176 hFm174 hc0 rfl
              have hRNSm176 := zR_NS_fr (zdis_fr (zfr_up hmm176 (zfr_rf [(28, 6)] _) hc0 rfl) rfl) hRNSm174
              have hRWDm176 := zR_WD_fr (zdis_fr (zfr_up hmm176 (zfr_rf [(28, 6)] _) hc0 rfl) rfl) hRWDm174
              refine zw_b (by omega) ?_
              refine zw_some ?_
              refine zw_b (by omega) ?_
              refine zw_some ?_
              refine zw_ite (fun h177 => ?_) (fun h177 => ?_)
              · exfalso; omega
              · refine zw_b (by omega) ?_
                refine zw_some ?_
                refine zw_ite (fun h178 => ?_) (fun h178 => ?_)
                · exfalso; omega
                · refine zw_b (by omega) ?_
                  have r179 : 0 ≤ (m176 a0 7) ∧ (m176 a0 7) ≤ 700 := zi_rd hIm176 hc0 zb_28_7
                  have r180 : 0 ≤ (m176 a0 8) ∧ (m176 a0 8) ≤ 6 := zi_rd hIm176 hc0 zb_28_8
                  have e181 : (m176 a0 8) = (m39 a0 8) := (Eq.trans (zs_ne hmm176 (Or.inr (by decide))) (zs_ne hmm174 (Or.inr (by decide))))
                  exact zw_some ⟨hIm176, hFm176, hRNSm176, hRWDm176, ⟨by omega, by omega⟩, by omega, by omega⟩
          · exfalso; omega
        · refine zw_bd (zw_eq (zr_85_0 n a0 1 m4) ?_)
          generalize hmm182 : zu_up m4 a0 4 1 = m182
          have hIm182 := zi_up hmm182 hIm4 hc0 zb_28_4 (by omega) (by omega)
          have hFm182 := zfr_up hmm182 hFm4 hc0 rfl
          have hRNSm182 := zR_NS_fr (zdis_fr (zfr_up hmm182 (zfr_rf [(28, 5)] _) hc0 rfl) rfl) hRNSm4
          have hRWDm182 := zR_WD_fr (zdis_fr (zfr_up hmm182 (zfr_rf [(28, 5)] _) hc0 rfl) rfl) hRWDm4
          have r183 : 0 ≤ (m182 a0 10) ∧ (m182 a0 10) ≤ 700 := zi_rd hIm182 hc0 zb_28_10
          generalize hmm184 : zu_up m182 a0 5 (m182 a0 10) = m184
          have hIm184 := zi_up hmm184 hIm182 hc0 zb_28_5 (by omega) (by omega)
          have hFm184 := zfr_up hmm184 hFm182 hc0 rfl
          have hRNSm184 := zR_NS_fr (zdis_fr (zfr_up hmm184 (zfr_rf [(28, 6)] _) hc0 rfl) rfl) hRNSm182
          have hRWDm184 := zR_WD_fr (zdis_fr (zfr_up hmm184 (zfr_rf [(28, 6)] _) hc0 rfl) rfl) hRWDm182
          refine zw_b (by omega) ?_
          refine zw_some ?_
          refine zw_b (by omega) ?_
          refine zw_some ?_
          refine zw_ite (fun h185 => ?_) (fun h185 => ?_)
          · exfalso; omega
          · refine zw_b (by omega) ?_
            have r186 : 0 ≤ (m184 a0 7) ∧ (m184 a0 7) ≤ 700 := zi_rd hIm184 hc0 zb_28_7
            have r187 : 0 ≤ (m184 a0 8) ∧ (m184 a0 8) ≤ 6 := zi_rd hIm184 hc0 zb_28_8
            have e188 : (m184 a0 8) = (m4 a0 8) := (Eq.trans (zs_ne hmm184 (Or.inr (by decide))) (zs_ne hmm182 (Or.inr (by decide))))
            exact zw_some ⟨hIm184, hFm184, hRNSm184, hRWDm184, ⟨by omega, by omega⟩, by omega, by omega⟩
  · refine zw_bd (zw_eq (zr_85_0 n a0 2 m0) ?_)
    generalize hmm189 : zu_up m0 a0 4 2 = m189
    have hIm189 := zi_up hmm189 hIm0 hc0 zb_28_4 (by omega) (by omega)
    have hFm189 := zfr_up hmm189 hFm0 hc0 rfl
    have hRNSm189 := zR_NS_fr (zdis_fr (zfr_up hmm189 (zfr_rf [(28, 5)] _) hc0 rfl) rfl) hRNSm0
    have hRWDm189 := zR_WD_fr (zdis_fr (zfr_up hmm189 (zfr_rf [(28, 5)] _) hc0 rfl) rfl) hRWDm0
    have r190 : 0 ≤ (m189 a0 10) ∧ (m189 a0 10) ≤ 700 := zi_rd hIm189 hc0 zb_28_10
    generalize hmm191 : zu_up m189 a0 5 (m189 a0 10) = m191
    have hIm191 := zi_up hmm191 hIm189 hc0 zb_28_5 (by omega) (by omega)
    have hFm191 := zfr_up hmm191 hFm189 hc0 rfl
    have hRNSm191 := zR_NS_fr (zdis_fr (zfr_up hmm191 (zfr_rf [(28, 6)] _) hc0 rfl) rfl) hRNSm189
    have hRWDm191 := zR_WD_fr (zdis_fr (zfr_up hmm191 (zfr_rf [(28, 6)] _) hc0 rfl) rfl) hRWDm189
    refine zw_b (by omega) ?_
    refine zw_some ?_
    refine zw_b (by omega) ?_
    have r192 : 0 ≤ (m191 a0 7) ∧ (m191 a0 7) ≤ 700 := zi_rd hIm191 hc0 zb_28_7
    have r193 : 0 ≤ (m191 a0 8) ∧ (m191 a0 8) ≤ 6 := zi_rd hIm191 hc0 zb_28_8
    have e194 : (m191 a0 8) = (m0 a0 8) := (Eq.trans (zs_ne hmm191 (Or.inr (by decide))) (zs_ne hmm189 (Or.inr (by decide))))
    exact zw_some ⟨hIm191, hFm191, hRNSm191, hRWDm191, ⟨by omega, by omega⟩, by omega, by omega⟩

set_option maxHeartbeats 4000000 in
theorem zk_291 (n : Nat) {a0 a1 a2 : Int} {m0 : zu_m} (hIm0 : zi_I m0) (hc0 : zcls a0 = 24) (ha1 : 0 ≤ a1 ∧ a1 ≤ 3) (ha2 : 0 ≤ a2 ∧ a2 ≤ 17)    (hRK54m0 : zR_K54 m0) : zw (zu_call (zt_T n) 291 [(33, a0), (0, a1), (0, a2)] m0) (fun v m => zi_I m ∧ zfr [(56, 0), (59, 1), (59, 2), (59, 3), (59, 4), (59, 5), (59, 6), (59, 7), (90, 0), (91, 0)] m0 m ∧ zR_K54 m ∧ (0 ≤ v ∧ v ≤ 1)) := by
  have hFm0 : zfr [(56, 0), (59, 1), (59, 2), (59, 3), (59, 4), (59, 5), (59, 6), (59, 7), (90, 0), (91, 0)] m0 m0 := zfr_rf _ _
  refine zw_eq (zu_call_at (zt_T n) (zm_291 n) (zdp_291 n) _ _ _ _ _ rfl (zr_291_0 n _ _ a0 a1 a2 m0)) ?_
  have r1 : 0 ≤ (m0 89 2) ∧ (m0 89 2) ≤ 16 := zi_rd hIm0 zq_89 zb_16_2
  refine zw_ite (fun h2 => ?_) (fun h2 => ?_)
  · have w3 := zu_w32_id (z := a1 * 64) (by omega) (by omega)
    refine zw_ite (fun h4 => ?_) (fun h4 => ?_)
    · have b5 : 0 ≤ a2 ∧ a2 < 18 := by omega
      refine zw_if b5 ?_
      have r6 : 0 ≤ (m0 155 a2) ∧ (m0 155 a2) ≤ 47 := zi_rd hIm0 zq_155 (zb_86 _)
      have w7 := zu_w32_id (z := 16 + (m0 155 a2)) (by omega) (by omega)
      have w8 := zu_w32_id (z := (zu_w32 (a1 * 64)) + (zu_w32 (16 + (m0 155 a2)))) (by omega) (by omega)
      have b9 : 0 ≤ a1 ∧ a1 < 4 := by omega
      refine zw_if b9 ?_
      have r10 : (-2147483648) ≤ (m0 158 a1) ∧ (m0 158 a1) ≤ 2147483647 := zi_rd hIm0 zq_158 (zb_89 _)
      have b11 := zu_i32_rg 5 1 (m0 158 a1)
      have b12 : 0 ≤ (zu_w32 ((zu_w32 (a1 * 64)) + (zu_w32 (16 + (m0 155 a2))))) ∧ (zu_w32 ((zu_w32 (a1 * 64)) + (zu_w32 (16 + (m0 155 a2))))) < 256 := by omega
      refine zw_if b12 ?_
      have r13 : (-2147483648) ≤ (m0 159 (zu_w32 ((zu_w32 (a1 * 64)) + (zu_w32 (16 + (m0 155 a2)))))) ∧ (m0 159 (zu_w32 ((zu_w32 (a1 * 64)) + (zu_w32 (16 + (m0 155 a2)))))) ≤ 2147483647 := zi_rd hIm0 zq_159 (zb_90 _)
      have b14 := zu_i32_rg 3 (m0 159 (zu_w32 ((zu_w32 (a1 * 64)) + (zu_w32 (16 + (m0 155 a2)))))) (zu_i32 5 1 (m0 158 a1))
      refine zw_ite (fun h15 => ?_) (fun h15 => ?_)
      · have b16 : 0 ≤ (zu_w32 ((zu_w32 (a1 * 64)) + (zu_w32 (16 + (m0 155 a2))))) ∧ (zu_w32 ((zu_w32 (a1 * 64)) + (zu_w32 (16 + (m0 155 a2))))) < 256 := by omega
        refine zw_if b16 ?_
        have r17 : (-2147483648) ≤ (m0 160 (zu_w32 ((zu_w32 (a1 * 64)) + (zu_w32 (16 + (m0 155 a2)))))) ∧ (m0 160 (zu_w32 ((zu_w32 (a1 * 64)) + (zu_w32 (16 + (m0 155 a2)))))) ≤ 2147483647 := zi_rd hIm0 zq_160 (zb_91 _)
        have b18 := zu_i32_rg 3 (m0 160 (zu_w32 ((zu_w32 (a1 * 64)) + (zu_w32 (16 + (m0 155 a2)))))) (zu_i32 5 1 (m0 158 a1))
        refine zw_ite (fun h19 => ?_) (fun h19 => ?_)
        · refine zw_b (by omega) ?_
          exact zw_some ⟨hIm0, hFm0, hRK54m0, ⟨by omega, by omega⟩⟩
        · refine zw_ite (fun h20 => ?_) (fun h20 => ?_)
          · have r21 : 0 ≤ (m0 a0 13) ∧ (m0 a0 13) ≤ 3 := zi_rd hIm0 hc0 zb_24_13
            refine zw_bd (zw_eq (zu_call_at (zt_T n) (zm_217 n) (zdp_217 n) _ _ _ _ _ rfl (zr_217_0 n _ _ 89 a1 (m0 a0 13) m0)) ?_)
            have r22 : 0 ≤ (m0 89 10) ∧ (m0 89 10) ≤ 3 := zi_rd hIm0 zq_89 zb_16_10
            refine zw_ite (fun h23 => ?_) (fun h23 => ?_)
            · refine zw_b (by omega) ?_
              refine zw_some ?_
              refine zw_ite (fun h24 => ?_) (fun h24 => ?_)
              · exfalso; omega
              · refine zw_b (by omega) ?_
                exact zw_some ⟨hIm0, hFm0, hRK54m0, ⟨by omega, by omega⟩⟩
            · refine zw_nif (by omega) ?_
              have d25 : Int.tmod a1 4 = a1 % 4 := Int.tmod_eq_emod_of_nonneg (by omega)
              refine zw_ite (fun h26 => ?_) (fun h26 => ?_)
              · refine zw_b (by omega) ?_
                refine zw_some ?_
                refine zw_ite (fun h27 => ?_) (fun h27 => ?_)
                · refine zw_b (by omega) ?_
                  exact zw_some ⟨hIm0, hFm0, hRK54m0, ⟨by omega, by omega⟩⟩
                · exfalso; omega
              · refine zw_b (by omega) ?_
                refine zw_some ?_
                refine zw_ite (fun h28 => ?_) (fun h28 => ?_)
                · exfalso; omega
                · refine zw_b (by omega) ?_
                  exact zw_some ⟨hIm0, hFm0, hRK54m0, ⟨by omega, by omega⟩⟩
          · exfalso; omega
      · have b29 : 0 ≤ (zu_w32 ((zu_w32 (a1 * 64)) + (zu_w32 (16 + (m0 155 a2))))) ∧ (zu_w32 ((zu_w32 (a1 * 64)) + (zu_w32 (16 + (m0 155 a2))))) < 256 := by omega
        refine zw_if b29 ?_
        have b30 := zu_i32_rg 4 (m0 159 (zu_w32 ((zu_w32 (a1 * 64)) + (zu_w32 (16 + (m0 155 a2)))))) (zu_i32 5 1 (m0 158 a1))
        have b31 : 0 ≤ (zu_w32 ((zu_w32 (a1 * 64)) + (zu_w32 (16 + (m0 155 a2))))) ∧ (zu_w32 ((zu_w32 (a1 * 64)) + (zu_w32 (16 + (m0 155 a2))))) < 256 := by omega
        refine zw_if b31 ?_
        generalize hmm32 : zu_up m0 159 (zu_w32 ((zu_w32 (a1 * 64)) + (zu_w32 (16 + (m0 155 a2))))) (zu_i32 4 (m0 159 (zu_w32 ((zu_w32 (a1 * 64)) + (zu_w32 (16 + (m0 155 a2)))))) (zu_i32 5 1 (m0 158 a1))) = m32
        have hIm32 := zi_up hmm32 hIm0 zq_159 (zb_90 _) (by omega) (by omega)
        have hFm32 := zfr_up hmm32 hFm0 zq_159 rfl
        have hRK54m32 := zR_K54_fr (zdis_fr (zfr_up hmm32 (zfr_rf [(90, 0)] _) zq_159 rfl) rfl) hRK54m0
        refine zw_bd (zw_mono (zk_292 n hIm32 hc0 ⟨by omega, by omega⟩ ⟨by omega, by omega⟩) (fun v34 m33 hqm33 => ?_))
        obtain ⟨hIm33, hfm33, hvm33⟩ := hqm33
        have hFm33 := zfr_tr hFm32 hfm33 rfl
        have hRK54m33 := zR_K54_fr (zdis_fr hfm33 rfl) hRK54m32
        refine zw_bd (zw_mono (zk_250 n hIm33 zq_50 hRK54m33) (fun v36 m35 hqm35 => ?_))
        obtain ⟨hIm35, hfm35, hvm35⟩ := hqm35
        have hFm35 := zfr_tr hFm33 hfm35 rfl
        obtain ⟨hRK54m35, hvm35⟩ := hvm35
        refine zw_ite (fun h37 => ?_) (fun h37 => ?_)
        · have b38 : 0 ≤ (zu_w32 ((zu_w32 (a1 * 64)) + (zu_w32 (16 + (m0 155 a2))))) ∧ (zu_w32 ((zu_w32 (a1 * 64)) + (zu_w32 (16 + (m0 155 a2))))) < 256 := by omega
          refine zw_if b38 ?_
          have r39 : (-2147483648) ≤ (m35 160 (zu_w32 ((zu_w32 (a1 * 64)) + (zu_w32 (16 + (m0 155 a2)))))) ∧ (m35 160 (zu_w32 ((zu_w32 (a1 * 64)) + (zu_w32 (16 + (m0 155 a2)))))) ≤ 2147483647 := zi_rd hIm35 zq_160 (zb_91 _)
          have b40 := zu_i32_rg 3 (m35 160 (zu_w32 ((zu_w32 (a1 * 64)) + (zu_w32 (16 + (m0 155 a2)))))) (zu_i32 5 1 (m0 158 a1))
          refine zw_ite (fun h41 => ?_) (fun h41 => ?_)
          · refine zw_b (by omega) ?_
            exact zw_some ⟨hIm35, hFm35, hRK54m35, ⟨by omega, by omega⟩⟩
          · refine zw_ite (fun h42 => ?_) (fun h42 => ?_)
            · have r43 : 0 ≤ (m35 a0 13) ∧ (m35 a0 13) ≤ 3 := zi_rd hIm35 hc0 zb_24_13
              refine zw_bd (zw_eq (zu_call_at (zt_T n) (zm_217 n) (zdp_217 n) _ _ _ _ _ rfl (zr_217_0 n _ _ 89 a1 (m35 a0 13) m35)) ?_)
              have r44 : 0 ≤ (m35 89 10) ∧ (m35 89 10) ≤ 3 := zi_rd hIm35 zq_89 zb_16_10
              refine zw_ite (fun h45 => ?_) (fun h45 => ?_)
              · refine zw_b (by omega) ?_
                refine zw_some ?_
                refine zw_ite (fun h46 => ?_) (fun h46 => ?_)
                · exfalso; omega
                · refine zw_b (by omega) ?_
                  exact zw_some ⟨hIm35, hFm35, hRK54m35, ⟨by omega, by omega⟩⟩
              · refine zw_nif (by omega) ?_
                have d47 : Int.tmod a1 4 = a1 % 4 := Int.tmod_eq_emod_of_nonneg (by omega)
                refine zw_ite (fun h48 => ?_) (fun h48 => ?_)
                · refine zw_b (by omega) ?_
                  refine zw_some ?_
                  refine zw_ite (fun h49 => ?_) (fun h49 => ?_)
                  · refine zw_b (by omega) ?_
                    exact zw_some ⟨hIm35, hFm35, hRK54m35, ⟨by omega, by omega⟩⟩
                  · exfalso; omega
                · refine zw_b (by omega) ?_
                  refine zw_some ?_
                  refine zw_ite (fun h50 => ?_) (fun h50 => ?_)
                  · exfalso; omega
                  · refine zw_b (by omega) ?_
                    exact zw_some ⟨hIm35, hFm35, hRK54m35, ⟨by omega, by omega⟩⟩
            · exfalso; omega
        · have b51 : 0 ≤ (zu_w32 ((zu_w32 (a1 * 64)) + (zu_w32 (16 + (m0 155 a2))))) ∧ (zu_w32 ((zu_w32 (a1 * 64)) + (zu_w32 (16 + (m0 155 a2))))) < 256 := by omega
          refine zw_if b51 ?_
          have r52 : (-2147483648) ≤ (m35 160 (zu_w32 ((zu_w32 (a1 * 64)) + (zu_w32 (16 + (m0 155 a2)))))) ∧ (m35 160 (zu_w32 ((zu_w32 (a1 * 64)) + (zu_w32 (16 + (m0 155 a2)))))) ≤ 2147483647 := zi_rd hIm35 zq_160 (zb_91 _)
          have b53 := zu_i32_rg 4 (m35 160 (zu_w32 ((zu_w32 (a1 * 64)) + (zu_w32 (16 + (m0 155 a2)))))) (zu_i32 5 1 (m0 158 a1))
          have b54 : 0 ≤ (zu_w32 ((zu_w32 (a1 * 64)) + (zu_w32 (16 + (m0 155 a2))))) ∧ (zu_w32 ((zu_w32 (a1 * 64)) + (zu_w32 (16 + (m0 155 a2))))) < 256 := by omega
          refine zw_if b54 ?_
          generalize hmm55 : zu_up m35 160 (zu_w32 ((zu_w32 (a1 * 64)) + (zu_w32 (16 + (m0 155 a2))))) (zu_i32 4 (m35 160 (zu_w32 ((zu_w32 (a1 * 64)) + (zu_w32 (16 + (m0 155 a2)))))) (zu_i32 5 1 (m0 158 a1))) = m55
          have hIm55 := zi_up hmm55 hIm35 zq_160 (zb_91 _) (by omega) (by omega)
          have hFm55 := zfr_up hmm55 hFm35 zq_160 rfl
          have hRK54m55 := zR_K54_fr (zdis_fr (zfr_up hmm55 (zfr_rf [(91, 0)] _) zq_160 rfl) rfl) hRK54m35
          have b56 : 0 ≤ (zu_w32 ((zu_w32 (a1 * 64)) + (zu_w32 (16 + (m0 155 a2))))) ∧ (zu_w32 ((zu_w32 (a1 * 64)) + (zu_w32 (16 + (m0 155 a2))))) < 256 := by omega
          refine zw_if b56 ?_
          have r57 : (-2147483648) ≤ (m55 160 (zu_w32 ((zu_w32 (a1 * 64)) + (zu_w32 (16 + (m0 155 a2)))))) ∧ (m55 160 (zu_w32 ((zu_w32 (a1 * 64)) + (zu_w32 (16 + (m0 155 a2)))))) ≤ 2147483647 := zi_rd hIm55 zq_160 (zb_91 _)
          have e58 : (m55 160 (zu_w32 ((zu_w32 (a1 * 64)) + (zu_w32 (16 + (m0 155 a2)))))) = (zu_i32 4 (m35 160 (zu_w32 ((zu_w32 (a1 * 64)) + (zu_w32 (16 + (m0 155 a2)))))) (zu_i32 5 1 (m0 158 a1))) := (zs_eq hmm55)
          have b59 := zu_i32_rg 3 (m55 160 (zu_w32 ((zu_w32 (a1 * 64)) + (zu_w32 (16 + (m0 155 a2)))))) (zu_i32 5 1 (m0 158 a1))
          refine zw_ite (fun h60 => ?_) (fun h60 => ?_)
          · refine zw_b (by omega) ?_
            exact zw_some ⟨hIm55, hFm55, hRK54m55, ⟨by omega, by omega⟩⟩
          · refine zw_ite (fun h61 => ?_) (fun h61 => ?_)
            · have r62 : 0 ≤ (m55 a0 13) ∧ (m55 a0 13) ≤ 3 := zi_rd hIm55 hc0 zb_24_13
              refine zw_bd (zw_eq (zu_call_at (zt_T n) (zm_217 n) (zdp_217 n) _ _ _ _ _ rfl (zr_217_0 n _ _ 89 a1 (m55 a0 13) m55)) ?_)
              have r63 : 0 ≤ (m55 89 10) ∧ (m55 89 10) ≤ 3 := zi_rd hIm55 zq_89 zb_16_10
              refine zw_ite (fun h64 => ?_) (fun h64 => ?_)
              · refine zw_b (by omega) ?_
                refine zw_some ?_
                refine zw_ite (fun h65 => ?_) (fun h65 => ?_)
                · exfalso; omega
                · refine zw_b (by omega) ?_
                  exact zw_some ⟨hIm55, hFm55, hRK54m55, ⟨by omega, by omega⟩⟩
              · refine zw_nif (by omega) ?_
                have d66 : Int.tmod a1 4 = a1 % 4 := Int.tmod_eq_emod_of_nonneg (by omega)
                refine zw_ite (fun h67 => ?_) (fun h67 => ?_)
                · refine zw_b (by omega) ?_
                  refine zw_some ?_
                  refine zw_ite (fun h68 => ?_) (fun h68 => ?_)
                  · refine zw_b (by omega) ?_
                    exact zw_some ⟨hIm55, hFm55, hRK54m55, ⟨by omega, by omega⟩⟩
                  · exfalso; omega
                · refine zw_b (by omega) ?_
                  refine zw_some ?_
                  refine zw_ite (fun h69 => ?_) (fun h69 => ?_)
                  · exfalso; omega
                  · refine zw_b (by omega) ?_
                    exact zw_some ⟨hIm55, hFm55, hRK54m55, ⟨by omega, by omega⟩⟩
            · exfalso; omega
    · exfalso; omega
  · have w70 := zu_w32_id (z := a1 * 64) (by omega) (by omega)
    refine zw_ite (fun h71 => ?_) (fun h71 => ?_)
    · exfalso; omega
    · have w72 := zu_w32_id (z := (zu_w32 (a1 * 64)) + a2) (by omega) (by omega)
      have b73 : 0 ≤ a1 ∧ a1 < 4 := by omega
      refine zw_if b73 ?_
      have r74 : (-2147483648) ≤ (m0 158 a1) ∧ (m0 158 a1) ≤ 2147483647 := zi_rd hIm0 zq_158 (zb_89 _)
      have b75 := zu_i32_rg 5 1 (m0 158 a1)
      have b76 : 0 ≤ (zu_w32 ((zu_w32 (a1 * 64)) + a2)) ∧ (zu_w32 ((zu_w32 (a1 * 64)) + a2)) < 256 := by omega
      refine zw_if b76 ?_
      have r77 : (-2147483648) ≤ (m0 159 (zu_w32 ((zu_w32 (a1 * 64)) + a2))) ∧ (m0 159 (zu_w32 ((zu_w32 (a1 * 64)) + a2))) ≤ 2147483647 := zi_rd hIm0 zq_159 (zb_90 _)
      have b78 := zu_i32_rg 3 (m0 159 (zu_w32 ((zu_w32 (a1 * 64)) + a2))) (zu_i32 5 1 (m0 158 a1))
      refine zw_ite (fun h79 => ?_) (fun h79 => ?_)
      · have b80 : 0 ≤ (zu_w32 ((zu_w32 (a1 * 64)) + a2)) ∧ (zu_w32 ((zu_w32 (a1 * 64)) + a2)) < 256 := by omega
        refine zw_if b80 ?_
        have r81 : (-2147483648) ≤ (m0 160 (zu_w32 ((zu_w32 (a1 * 64)) + a2))) ∧ (m0 160 (zu_w32 ((zu_w32 (a1 * 64)) + a2))) ≤ 2147483647 := zi_rd hIm0 zq_160 (zb_91 _)
        have b82 := zu_i32_rg 3 (m0 160 (zu_w32 ((zu_w32 (a1 * 64)) + a2))) (zu_i32 5 1 (m0 158 a1))
        refine zw_ite (fun h83 => ?_) (fun h83 => ?_)
        · refine zw_b (by omega) ?_
          exact zw_some ⟨hIm0, hFm0, hRK54m0, ⟨by omega, by omega⟩⟩
        · refine zw_ite (fun h84 => ?_) (fun h84 => ?_)
          · exfalso; omega
          · have b85 : 0 ≤ a2 ∧ a2 < 16 := by omega
            refine zw_if b85 ?_
            have r86 : 0 ≤ (m0 ((89 + 1) + 5 + a2) 1) ∧ (m0 ((89 + 1) + 5 + a2) 1) ≤ 3 := zi_rd hIm0 (zc_65_e (zc_16_1 zq_89) b85) zb_17_1
            refine zw_bd (zw_eq (zu_call_at (zt_T n) (zm_217 n) (zdp_217 n) _ _ _ _ _ rfl (zr_217_0 n _ _ 89 a1 (m0 ((89 + 1) + 5 + a2) 1) m0)) ?_)
            have r87 : 0 ≤ (m0 89 10) ∧ (m0 89 10) ≤ 3 := zi_rd hIm0 zq_89 zb_16_10
            refine zw_ite (fun h88 => ?_) (fun h88 => ?_)
            · refine zw_b (by omega) ?_
              refine zw_some ?_
              refine zw_ite (fun h89 => ?_) (fun h89 => ?_)
              · exfalso; omega
              · refine zw_b (by omega) ?_
                exact zw_some ⟨hIm0, hFm0, hRK54m0, ⟨by omega, by omega⟩⟩
            · refine zw_nif (by omega) ?_
              have d90 : Int.tmod a1 4 = a1 % 4 := Int.tmod_eq_emod_of_nonneg (by omega)
              refine zw_ite (fun h91 => ?_) (fun h91 => ?_)
              · refine zw_b (by omega) ?_
                refine zw_some ?_
                refine zw_ite (fun h92 => ?_) (fun h92 => ?_)
                · refine zw_b (by omega) ?_
                  exact zw_some ⟨hIm0, hFm0, hRK54m0, ⟨by omega, by omega⟩⟩
                · exfalso; omega
              · refine zw_b (by omega) ?_
                refine zw_some ?_
                refine zw_ite (fun h93 => ?_) (fun h93 => ?_)
                · exfalso; omega
                · refine zw_b (by omega) ?_
                  exact zw_some ⟨hIm0, hFm0, hRK54m0, ⟨by omega, by omega⟩⟩
      · have b94 : 0 ≤ (zu_w32 ((zu_w32 (a1 * 64)) + a2)) ∧ (zu_w32 ((zu_w32 (a1 * 64)) + a2)) < 256 := by omega
        refine zw_if b94 ?_
        have b95 := zu_i32_rg 4 (m0 159 (zu_w32 ((zu_w32 (a1 * 64)) + a2))) (zu_i32 5 1 (m0 158 a1))
        have b96 : 0 ≤ (zu_w32 ((zu_w32 (a1 * 64)) + a2)) ∧ (zu_w32 ((zu_w32 (a1 * 64)) + a2)) < 256 := by omega
        refine zw_if b96 ?_
        generalize hmm97 : zu_up m0 159 (zu_w32 ((zu_w32 (a1 * 64)) + a2)) (zu_i32 4 (m0 159 (zu_w32 ((zu_w32 (a1 * 64)) + a2))) (zu_i32 5 1 (m0 158 a1))) = m97
        have hIm97 := zi_up hmm97 hIm0 zq_159 (zb_90 _) (by omega) (by omega)
        have hFm97 := zfr_up hmm97 hFm0 zq_159 rfl
        have hRK54m97 := zR_K54_fr (zdis_fr (zfr_up hmm97 (zfr_rf [(90, 0)] _) zq_159 rfl) rfl) hRK54m0
        refine zw_bd (zw_mono (zk_292 n hIm97 hc0 ⟨by omega, by omega⟩ ⟨by omega, by omega⟩) (fun v99 m98 hqm98 => ?_))
        obtain ⟨hIm98, hfm98, hvm98⟩ := hqm98
        have hFm98 := zfr_tr hFm97 hfm98 rfl
        have hRK54m98 := zR_K54_fr (zdis_fr hfm98 rfl) hRK54m97
        refine zw_bd (zw_mono (zk_250 n hIm98 zq_50 hRK54m98) (fun v101 m100 hqm100 => ?_))
        obtain ⟨hIm100, hfm100, hvm100⟩ := hqm100
        have hFm100 := zfr_tr hFm98 hfm100 rfl
        obtain ⟨hRK54m100, hvm100⟩ := hvm100
        refine zw_ite (fun h102 => ?_) (fun h102 => ?_)
        · have b103 : 0 ≤ (zu_w32 ((zu_w32 (a1 * 64)) + a2)) ∧ (zu_w32 ((zu_w32 (a1 * 64)) + a2)) < 256 := by omega
          refine zw_if b103 ?_
          have r104 : (-2147483648) ≤ (m100 160 (zu_w32 ((zu_w32 (a1 * 64)) + a2))) ∧ (m100 160 (zu_w32 ((zu_w32 (a1 * 64)) + a2))) ≤ 2147483647 := zi_rd hIm100 zq_160 (zb_91 _)
          have b105 := zu_i32_rg 3 (m100 160 (zu_w32 ((zu_w32 (a1 * 64)) + a2))) (zu_i32 5 1 (m0 158 a1))
          refine zw_ite (fun h106 => ?_) (fun h106 => ?_)
          · refine zw_b (by omega) ?_
            exact zw_some ⟨hIm100, hFm100, hRK54m100, ⟨by omega, by omega⟩⟩
          · refine zw_ite (fun h107 => ?_) (fun h107 => ?_)
            · exfalso; omega
            · have b108 : 0 ≤ a2 ∧ a2 < 16 := by omega
              refine zw_if b108 ?_
              have r109 : 0 ≤ (m100 ((89 + 1) + 5 + a2) 1) ∧ (m100 ((89 + 1) + 5 + a2) 1) ≤ 3 := zi_rd hIm100 (zc_65_e (zc_16_1 zq_89) b108) zb_17_1
              refine zw_bd (zw_eq (zu_call_at (zt_T n) (zm_217 n) (zdp_217 n) _ _ _ _ _ rfl (zr_217_0 n _ _ 89 a1 (m100 ((89 + 1) + 5 + a2) 1) m100)) ?_)
              have r110 : 0 ≤ (m100 89 10) ∧ (m100 89 10) ≤ 3 := zi_rd hIm100 zq_89 zb_16_10
              refine zw_ite (fun h111 => ?_) (fun h111 => ?_)
              · refine zw_b (by omega) ?_
                refine zw_some ?_
                refine zw_ite (fun h112 => ?_) (fun h112 => ?_)
                · exfalso; omega
                · refine zw_b (by omega) ?_
                  exact zw_some ⟨hIm100, hFm100, hRK54m100, ⟨by omega, by omega⟩⟩
              · refine zw_nif (by omega) ?_
                have d113 : Int.tmod a1 4 = a1 % 4 := Int.tmod_eq_emod_of_nonneg (by omega)
                refine zw_ite (fun h114 => ?_) (fun h114 => ?_)
                · refine zw_b (by omega) ?_
                  refine zw_some ?_
                  refine zw_ite (fun h115 => ?_) (fun h115 => ?_)
                  · refine zw_b (by omega) ?_
                    exact zw_some ⟨hIm100, hFm100, hRK54m100, ⟨by omega, by omega⟩⟩
                  · exfalso; omega
                · refine zw_b (by omega) ?_
                  refine zw_some ?_
                  refine zw_ite (fun h116 => ?_) (fun h116 => ?_)
                  · exfalso; omega
                  · refine zw_b (by omega) ?_
                    exact zw_some ⟨hIm100, hFm100, hRK54m100, ⟨by omega, by omega⟩⟩
        · have b117 : 0 ≤ (zu_w32 ((zu_w32 (a1 * 64)) + a2)) ∧ (zu_w32 ((zu_w32 (a1 * 64)) + a2)) < 256 := by omega
          refine zw_if b117 ?_
          have r118 : (-2147483648) ≤ (m100 160 (zu_w32 ((zu_w32 (a1 * 64)) + a2))) ∧ (m100 160 (zu_w32 ((zu_w32 (a1 * 64)) + a2))) ≤ 2147483647 := zi_rd hIm100 zq_160 (zb_91 _)
          have b119 := zu_i32_rg 4 (m100 160 (zu_w32 ((zu_w32 (a1 * 64)) + a2))) (zu_i32 5 1 (m0 158 a1))
          have b120 : 0 ≤ (zu_w32 ((zu_w32 (a1 * 64)) + a2)) ∧ (zu_w32 ((zu_w32 (a1 * 64)) + a2)) < 256 := by omega
          refine zw_if b120 ?_
          generalize hmm121 : zu_up m100 160 (zu_w32 ((zu_w32 (a1 * 64)) + a2)) (zu_i32 4 (m100 160 (zu_w32 ((zu_w32 (a1 * 64)) + a2))) (zu_i32 5 1 (m0 158 a1))) = m121
          have hIm121 := zi_up hmm121 hIm100 zq_160 (zb_91 _) (by omega) (by omega)
          have hFm121 := zfr_up hmm121 hFm100 zq_160 rfl
          have hRK54m121 := zR_K54_fr (zdis_fr (zfr_up hmm121 (zfr_rf [(91, 0)] _) zq_160 rfl) rfl) hRK54m100
          have b122 : 0 ≤ (zu_w32 ((zu_w32 (a1 * 64)) + a2)) ∧ (zu_w32 ((zu_w32 (a1 * 64)) + a2)) < 256 := by omega
          refine zw_if b122 ?_
          have r123 : (-2147483648) ≤ (m121 160 (zu_w32 ((zu_w32 (a1 * 64)) + a2))) ∧ (m121 160 (zu_w32 ((zu_w32 (a1 * 64)) + a2))) ≤ 2147483647 := zi_rd hIm121 zq_160 (zb_91 _)
          have e124 : (m121 160 (zu_w32 ((zu_w32 (a1 * 64)) + a2))) = (zu_i32 4 (m100 160 (zu_w32 ((zu_w32 (a1 * 64)) + a2))) (zu_i32 5 1 (m0 158 a1))) := (zs_eq hmm121)
          have b125 := zu_i32_rg 3 (m121 160 (zu_w32 ((zu_w32 (a1 * 64)) + a2))) (zu_i32 5 1 (m0 158 a1))
          refine zw_ite (fun h126 => ?_) (fun h126 => ?_)
          · refine zw_b (by omega) ?_
            exact zw_some ⟨hIm121, hFm121, hRK54m121, ⟨by omega, by omega⟩⟩
          · refine zw_ite (fun h127 => ?_) (fun h127 => ?_)
            · exfalso; omega
            · have b128 : 0 ≤ a2 ∧ a2 < 16 := by omega
              refine zw_if b128 ?_
              have r129 : 0 ≤ (m121 ((89 + 1) + 5 + a2) 1) ∧ (m121 ((89 + 1) + 5 + a2) 1) ≤ 3 := zi_rd hIm121 (zc_65_e (zc_16_1 zq_89) b128) zb_17_1
              refine zw_bd (zw_eq (zu_call_at (zt_T n) (zm_217 n) (zdp_217 n) _ _ _ _ _ rfl (zr_217_0 n _ _ 89 a1 (m121 ((89 + 1) + 5 + a2) 1) m121)) ?_)
              have r130 : 0 ≤ (m121 89 10) ∧ (m121 89 10) ≤ 3 := zi_rd hIm121 zq_89 zb_16_10
              refine zw_ite (fun h131 => ?_) (fun h131 => ?_)
              · refine zw_b (by omega) ?_
                refine zw_some ?_
                refine zw_ite (fun h132 => ?_) (fun h132 => ?_)
                · exfalso; omega
                · refine zw_b (by omega) ?_
                  exact zw_some ⟨hIm121, hFm121, hRK54m121, ⟨by omega, by omega⟩⟩
              · refine zw_nif (by omega) ?_
                have d133 : Int.tmod a1 4 = a1 % 4 := Int.tmod_eq_emod_of_nonneg (by omega)
                refine zw_ite (fun h134 => ?_) (fun h134 => ?_)
                · refine zw_b (by omega) ?_
                  refine zw_some ?_
                  refine zw_ite (fun h135 => ?_) (fun h135 => ?_)
                  · refine zw_b (by omega) ?_
                    exact zw_some ⟨hIm121, hFm121, hRK54m121, ⟨by omega, by omega⟩⟩
                  · exfalso; omega
                · refine zw_b (by omega) ?_
                  refine zw_some ?_
                  refine zw_ite (fun h136 => ?_) (fun h136 => ?_)
                  · exfalso; omega
                  · refine zw_b (by omega) ?_
                    exact zw_some ⟨hIm121, hFm121, hRK54m121, ⟨by omega, by omega⟩⟩
set_option maxHeartbeats 4000000 in
theorem zk_19 (n : Nat) {a0 : Int} {m0 : zu_m} (hIm0 : zi_I m0) (hc0 : zcls a0 = 2)     (hRE19m0 : zE m0 19 6) (hRG6m0 : (m0 6 2 = m0 6 0 * m0 6 1)) (hRK10m0 : zR_K10 m0) : zw (zu_call (zt_T n) 19 [(5, a0)] m0) (fun v m => zi_I m ∧ zfr [(2, 10), (11, 1), (11, 2), (11, 3), (11, 4), (11, 5), (11, 6), (12, 6), (12, 7), (13, 3), (13, 5), (13, 9), (13, 10), (13, 11), (13, 12), (14, 1), (14, 2), (14, 3), (14, 4), (15, 1), (15, 2), (15, 3), (15, 4), (15, 5), (15, 6), (15, 7), (15, 8), (16, 3), (16, 5), (16, 9), (16, 10), (16, 11), (16, 12), (17, 1), (17, 2), (17, 3), (17, 4), (18, 1), (18, 2), (18, 3), (18, 4), (18, 5), (18, 6), (18, 7), (18, 8), (22, 7), (22, 8), (23, 5), (49, 0), (50, 0), (51, 0), (52, 0), (53, 0), (54, 0), (55, 0), (56, 0), (57, 0), (58, 0), (59, 1), (59, 2), (59, 3), (59, 4), (59, 5), (59, 6), (59, 7), (62, 0), (63, 0), (67, 0), (68, 0)] m0 m ∧ (m 3 9 = 1 → zE m 115 50) ∧ zE m 19 6 ∧ zE m 63 50 ∧ zE m 89 50 ∧ zgeo m 50 ∧ (m 6 2 = m 6 0 * m 6 1) ∧ zR_K10 m ∧ zR_K54 m ∧ zR_UN m ∧ zR_UW m ∧ True ∧ (0 ≤ m a0 9 ∧ m a0 9 ≤ 0)) := by
  have hFm0 : zfr [(2, 10), (11, 1), (11, 2), (11, 3), (11, 4), (11, 5), (11, 6), (12, 6), (12, 7), (13, 3), (13, 5), (13, 9), (13, 10), (13, 11), (13, 12), (14, 1), (14, 2), (14, 3), (14, 4), (15, 1), (15, 2), (15, 3), (15, 4), (15, 5), (15, 6), (15, 7), (15, 8), (16, 3), (16, 5), (16, 9), (16, 10), (16, 11), (16, 12), (17, 1), (17, 2), (17, 3), (17, 4), (18, 1), (18, 2), (18, 3), (18, 4), (18, 5), (18, 6), (18, 7), (18, 8), (22, 7), (22, 8), (23, 5), (49, 0), (50, 0), (51, 0), (52, 0), (53, 0), (54, 0), (55, 0), (56, 0), (57, 0), (58, 0), (59, 1), (59, 2), (59, 3), (59, 4), (59, 5), (59, 6), (59, 7), (62, 0), (63, 0), (67, 0), (68, 0)] m0 m0 := zfr_rf _ _
  refine zw_eq (zu_call_at (zt_T n) (zm_19 n) (zdp_19 n) _ _ _ _ _ rfl (zr_19_0 n _ _ a0 m0)) ?_
  refine zw_bd (zw_mono (zk_20 n hIm0 zq_50 zq_6 hRG6m0 hRK10m0) (fun v2 m1 hqm1 => ?_))
  obtain ⟨hIm1, hfm1, hvm1⟩ := hqm1
  have hFm1 := zfr_tr hFm0 hfm1 rfl
  obtain ⟨hRG5m1, hRG6m1, hRK10m1, hRK54m1, hvm1⟩ := hvm1
  have hRE19m1 := zR_E19_fr (zdis_fr hfm1 rfl) hRE19m0
  have hE1m1 : zE m1 19 50 := zE_P hRE19m1 (by omega)
  refine zw_bd (zw_mono (zk_22_13_6 n hIm1 zq_63 zq_19) (fun v4 m3 hqm3 => ?_))
  obtain ⟨hIm3, hfm3, hvm3⟩ := hqm3
  have hFm3 := zfr_tr hFm1 hfm3 rfl
  have hRE19m3 := zR_E19_fr (zdis_fr hfm3 rfl) hRE19m1
  have hRG5m3 := zR_G5_fr (zdis_fr hfm3 rfl) hRG5m1
  have hRG6m3 := zR_G6_fr (zdis_fr hfm3 rfl) hRG6m1
  have hRK10m3 := zR_K10_fr (zdis_fr hfm3 rfl) hRK10m1
  have hRK54m3 := zR_K54_fr (zdis_fr hfm3 rfl) hRK54m1
  have hRE63m3 : zE m3 63 50 := (hvm3.2) hE1m1
  refine zw_bd (zw_mono (zk_23 n hIm3 zq_50 zq_63 hRK54m3) (fun v6 m5 hqm5 => ?_))
  obtain ⟨hIm5, hfm5, hvm5⟩ := hqm5
  have hFm5 := zfr_tr hFm3 hfm5 rfl
  obtain ⟨hRK54m5, hvm5⟩ := hvm5
  have hRE19m5 := zR_E19_fr (zdis_fr hfm5 rfl) hRE19m3
  have hRE63m5 := zR_E63_fr (zdis_fr hfm5 rfl) hRE63m3
  have hRG5m5 := zR_G5_fr (zdis_fr hfm5 rfl) hRG5m3
  have hRG6m5 := zR_G6_fr (zdis_fr hfm5 rfl) hRG6m3
  have hRK10m5 := zR_K10_fr (zdis_fr hfm5 rfl) hRK10m3
  refine zw_bd (zw_mono (zk_22_16_13 n hIm5 zq_89 zq_63) (fun v8 m7 hqm7 => ?_))
  obtain ⟨hIm7, hfm7, hvm7⟩ := hqm7
  have hFm7 := zfr_tr hFm5 hfm7 rfl
  have hRE19m7 := zR_E19_fr (zdis_fr hfm7 rfl) hRE19m5
  have hRE63m7 := zR_E63_fr (zdis_fr hfm7 rfl) hRE63m5
  have hRG5m7 := zR_G5_fr (zdis_fr hfm7 rfl) hRG5m5
  have hRG6m7 := zR_G6_fr (zdis_fr hfm7 rfl) hRG6m5
  have hRK10m7 := zR_K10_fr (zdis_fr hfm7 rfl) hRK10m5
  have hRK54m7 := zR_K54_fr (zdis_fr hfm7 rfl) hRK54m5
  have hRE89m7 : zE m7 89 50 := (hvm7.2) hRE63m5
  refine zw_b (by omega) ?_
  generalize hmm9 : zu_up m7 a0 9 0 = m9
  have hIm9 := zi_up hmm9 hIm7 hc0 zb_2_9 (by omega) (by omega)
  have hFm9 := zfr_up hmm9 hFm7 hc0 rfl
  have hRE19m9 := zR_E19_fr (zdis_fr (zfr_up hmm9 (zfr_rf [(2, 10)] _) hc0 rfl) rfl) hRE19m7
  have hRE63m9 := zR_E63_fr (zdis_fr (zfr_up hmm9 (zfr_rf [(2, 10)] _) hc0 rfl) rfl) hRE63m7
  have hRE89m9 := zR_E89_fr (zdis_fr (zfr_up hmm9 (zfr_rf [(2, 10)] _) hc0 rfl) rfl) hRE89m7
  have hRG5m9 := zR_G5_fr (zdis_fr (zfr_up hmm9 (zfr_rf [(2, 10)] _) hc0 rfl) rfl) hRG5m7
  have hRG6m9 := zR_G6_fr (zdis_fr (zfr_up hmm9 (zfr_rf [(2, 10)] _) hc0 rfl) rfl) hRG6m7
  have hRK10m9 := zR_K10_fr (zdis_fr (zfr_up hmm9 (zfr_rf [(2, 10)] _) hc0 rfl) rfl) hRK10m7
  have hRK54m9 := zR_K54_fr (zdis_fr (zfr_up hmm9 (zfr_rf [(2, 10)] _) hc0 rfl) rfl) hRK54m7
  have hRE115m9 := zE5_z (zone_3 hc0) hmm9 rfl
  refine zw_bd (zw_mono (zk_27 n hIm9 zq_141) (fun v11 m10 hqm10 => ?_))
  obtain ⟨hIm10, hfm10, hvm10⟩ := hqm10
  have hFm10 := zfr_tr hFm9 hfm10 rfl
  have hRE115m10 := zR_E115_fr (zdis_fr hfm10 rfl) hRE115m9
  have hRE19m10 := zR_E19_fr (zdis_fr hfm10 rfl) hRE19m9
  have hRE63m10 := zR_E63_fr (zdis_fr hfm10 rfl) hRE63m9
  have hRE89m10 := zR_E89_fr (zdis_fr hfm10 rfl) hRE89m9
  have hRG5m10 := zR_G5_fr (zdis_fr hfm10 rfl) hRG5m9
  have hRG6m10 := zR_G6_fr (zdis_fr hfm10 rfl) hRG6m9
  have hRK10m10 := zR_K10_fr (zdis_fr hfm10 rfl) hRK10m9
  have hRK54m10 := zR_K54_fr (zdis_fr hfm10 rfl) hRK54m9
  refine zw_bd (zw_mono (zk_28 n hIm10 zq_148) (fun v13 m12 hqm12 => ?_))
  obtain ⟨hIm12, hfm12, hvm12⟩ := hqm12
  have hFm12 := zfr_tr hFm10 hfm12 rfl
  obtain ⟨hRUNm12, hRUWm12, hvm12⟩ := hvm12
  have hRE115m12 := zR_E115_fr (zdis_fr hfm12 rfl) hRE115m10
  have hRE19m12 := zR_E19_fr (zdis_fr hfm12 rfl) hRE19m10
  have hRE63m12 := zR_E63_fr (zdis_fr hfm12 rfl) hRE63m10
  have hRE89m12 := zR_E89_fr (zdis_fr hfm12 rfl) hRE89m10
  have hRG5m12 := zR_G5_fr (zdis_fr hfm12 rfl) hRG5m10
  have hRG6m12 := zR_G6_fr (zdis_fr hfm12 rfl) hRG6m10
  have hRK10m12 := zR_K10_fr (zdis_fr hfm12 rfl) hRK10m10
  have hRK54m12 := zR_K54_fr (zdis_fr hfm12 rfl) hRK54m10
  have r14 : 0 ≤ (m12 a0 9) ∧ (m12 a0 9) ≤ 1 := zi_rd hIm12 hc0 zb_2_9
  have e15 : (m12 a0 9) = 0 := (Eq.trans (zfr_ap hfm12 hc0 rfl) (Eq.trans (zfr_ap hfm10 hc0 rfl) (zs_eq hmm9)))
  exact zw_some ⟨hIm12, hFm12, hRE115m12, hRE19m12, hRE63m12, hRE89m12, hRG5m12, hRG6m12, hRK10m12, hRK54m12, hRUNm12, hRUWm12, trivial, ⟨by omega, by omega⟩⟩
set_option maxHeartbeats 4000000 in
theorem zk_37 (n : Nat) {a0 a1 : Int} {m0 : zu_m} (hIm0 : zi_I m0) (hc0 : zcls a0 = 28) (ha1 : 0 ≤ a1 ∧ a1 ≤ 47)    (hRKNm0 : zR_KN m0) (hRLTm0 : zR_LT m0) : zw (zu_call (zt_T n) 37 [(40, a0), (0, a1)] m0) (fun v m => zi_I m ∧ zfr [(28, 54), (122, 0), (123, 0)] m0 m ∧ zR_KN m ∧ zR_LT m ∧ ((-2147483648) ≤ v ∧ v ≤ 2147483647)) := by
  have hFm0 : zfr [(28, 54), (122, 0), (123, 0)] m0 m0 := zfr_rf _ _
  refine zw_eq (zu_call_at (zt_T n) (zm_37 n) (zdp_37 n) _ _ _ _ _ rfl (zr_37_0 n _ _ a0 a1 m0)) ?_
  refine zw_bd (zw_mono (zk_38 n hIm0 hc0 ⟨by omega, by omega⟩ ⟨by omega, by omega⟩ ⟨by omega, by omega⟩ ⟨by omega, by omega⟩ ⟨by omega, by omega⟩ ⟨by omega, by omega⟩) (fun v2 m1 hqm1 => ?_))
  obtain ⟨hIm1, hfm1, hvm1⟩ := hqm1
  have hFm1 := zfr_tr hFm0 hfm1 rfl
  have hRKNm1 := zR_KN_fr (zdis_fr hfm1 rfl) hRKNm0
  have hRLTm1 := zR_LT_fr (zdis_fr hfm1 rfl) hRLTm0
  have b3 : 0 ≤ a1 ∧ a1 < 96 := by omega
  refine zw_if b3 ?_
  have r4 : (-2147483648) ≤ (m1 195 a1) ∧ (m1 195 a1) ≤ 2147483647 := zi_rd hIm1 zq_195 (zb_104 _)
  have w5 := zu_w32_rg (1 + (m1 195 a1))
  refine zw_bd (zw_mono (zk_39 n hIm1 hc0 ⟨by omega, by omega⟩ ⟨by omega, by omega⟩ ⟨by omega, by omega⟩ hRKNm1 hRLTm1) (fun v7 m6 hqm6 => ?_))
  obtain ⟨hIm6, hfm6, hvm6⟩ := hqm6
  have hFm6 := zfr_tr hFm1 hfm6 rfl
  obtain ⟨hRKNm6, hRLTm6, hvm6⟩ := hvm6
  exact zw_some ⟨hIm6, hFm6, hRKNm6, hRLTm6, ⟨by omega, by omega⟩⟩
set_option maxHeartbeats 4000000 in
theorem zk_48 (n : Nat) {a0 a1 a2 : Int} {m0 : zu_m} (hIm0 : zi_I m0) (hc0 : zcls a0 = 2) (ha1 : (-2147483648) ≤ a1 ∧ a1 ≤ 2147483647) (ha2 : (-2147483648) ≤ a2 ∧ a2 ≤ 2147483647)    (hRK54m0 : zR_K54 m0) : zw (zu_call (zt_T n) 48 [(5, a0), (0, a1), (0, a2)] m0) (fun v m => zi_I m ∧ zfr [(56, 0), (59, 1), (59, 2), (59, 3), (59, 4), (59, 5), (59, 6), (59, 7)] m0 m ∧ zR_K54 m ∧ ((-1) ≤ v ∧ v ≤ 100)) := by
  have hFm0 : zfr [(56, 0), (59, 1), (59, 2), (59, 3), (59, 4), (59, 5), (59, 6), (59, 7)] m0 m0 := zfr_rf _ _
  refine zw_eq (zu_call_at (zt_T n) (zm_48 n) (zdp_48 n) _ _ _ _ _ rfl (zr_48_0 n _ _ a0 a1 a2 m0)) ?_
  refine zw_bd (zw_eq (zu_call_at (zt_T n) (zm_211 n) (zdp_211 n) _ _ _ _ _ rfl (zr_211_0 n _ _ 89 a1 m0)) ?_)
  refine zw_ite (fun h1 => ?_) (fun h1 => ?_)
  · refine zw_b (by omega) ?_
    refine zw_some ?_
    refine zw_ite (fun h2 => ?_) (fun h2 => ?_)
    · exact zw_some ⟨hIm0, hFm0, hRK54m0, ⟨by omega, by omega⟩⟩
    · exfalso; omega
  · have r3 : 0 ≤ (m0 89 4) ∧ (m0 89 4) ≤ 4 := zi_rd hIm0 zq_89 zb_16_4
    refine zw_ite (fun h4 => ?_) (fun h4 => ?_)
    · refine zw_b (by omega) ?_
      refine zw_some ?_
      refine zw_ite (fun h5 => ?_) (fun h5 => ?_)
      · exact zw_some ⟨hIm0, hFm0, hRK54m0, ⟨by omega, by omega⟩⟩
      · exfalso; omega
    · refine zw_b (by omega) ?_
      refine zw_some ?_
      refine zw_ite (fun h6 => ?_) (fun h6 => ?_)
      · exfalso; omega
      · refine zw_bd (zw_eq (zu_call_at (zt_T n) (zm_210 n) (zdp_210 n) _ _ _ _ _ rfl (zr_210_0 n _ _ 89 a2 m0)) ?_)
        refine zw_ite (fun h7 => ?_) (fun h7 => ?_)
        · refine zw_b (by omega) ?_
          refine zw_some ?_
          refine zw_ite (fun h8 => ?_) (fun h8 => ?_)
          · exfalso; omega
          · exact zw_some ⟨hIm0, hFm0, hRK54m0, ⟨by omega, by omega⟩⟩
        · have r9 : 0 ≤ (m0 89 2) ∧ (m0 89 2) ≤ 16 := zi_rd hIm0 zq_89 zb_16_2
          refine zw_ite (fun h10 => ?_) (fun h10 => ?_)
          · refine zw_b (by omega) ?_
            refine zw_some ?_
            refine zw_ite (fun h11 => ?_) (fun h11 => ?_)
            · exfalso; omega
            · exact zw_some ⟨hIm0, hFm0, hRK54m0, ⟨by omega, by omega⟩⟩
          · refine zw_b (by omega) ?_
            refine zw_some ?_
            refine zw_ite (fun h12 => ?_) (fun h12 => ?_)
            · refine zw_bd (zw_mono (zk_225 n hIm0 zq_89 ⟨by omega, by omega⟩ ⟨by omega, by omega⟩ hRK54m0) (fun v14 m13 hqm13 => ?_))
              obtain ⟨hIm13, hfm13, hvm13⟩ := hqm13
              have hFm13 := zfr_tr hFm0 hfm13 rfl
              obtain ⟨hRK54m13, hvm13⟩ := hvm13
              exact zw_some ⟨hIm13, hFm13, hRK54m13, ⟨by omega, by omega⟩⟩
            · exfalso; omega
set_option maxHeartbeats 4000000 in
theorem zk_49 (n : Nat) {a0 a1 a2 a3 : Int} {m0 : zu_m} (hIm0 : zi_I m0) (hc0 : zcls a0 = 2) (ha1 : (-2147483648) ≤ a1 ∧ a1 ≤ 2147483647) (ha2 : (-2147483648) ≤ a2 ∧ a2 ≤ 2147483647) (ha3 : (-2147483648) ≤ a3 ∧ a3 ≤ 2147483647)    (hRK54m0 : zR_K54 m0) : zw (zu_call (zt_T n) 49 [(5, a0), (0, a1), (0, a2), (0, a3)] m0) (fun v m => zi_I m ∧ zfr [(56, 0), (59, 1), (59, 2), (59, 3), (59, 4), (59, 5), (59, 6), (59, 7)] m0 m ∧ zR_K54 m ∧ ((-9223372036854775808) ≤ v ∧ v ≤ 9223372036854775807)) := by
  have hFm0 : zfr [(56, 0), (59, 1), (59, 2), (59, 3), (59, 4), (59, 5), (59, 6), (59, 7)] m0 m0 := zfr_rf _ _
  refine zw_eq (zu_call_at (zt_T n) (zm_49 n) (zdp_49 n) _ _ _ _ _ rfl (zr_49_0 n _ _ a0 a1 a2 a3 m0)) ?_
  refine zw_ite (fun h1 => ?_) (fun h1 => ?_)
  · refine zw_bd (zw_mono (zk_227 n hIm0 zq_89 ⟨by omega, by omega⟩ ⟨by omega, by omega⟩ ⟨by omega, by omega⟩ hRK54m0) (fun v3 m2 hqm2 => ?_))
    obtain ⟨hIm2, hfm2, hvm2⟩ := hqm2
    have hFm2 := zfr_tr hFm0 hfm2 rfl
    obtain ⟨hRK54m2, hvm2⟩ := hvm2
    exact zw_some ⟨hIm2, hFm2, hRK54m2, ⟨by omega, by omega⟩⟩
  · refine zw_ite (fun h4 => ?_) (fun h4 => ?_)
    · refine zw_bd (zw_mono (zk_227 n hIm0 zq_89 ⟨by omega, by omega⟩ ⟨by omega, by omega⟩ ⟨by omega, by omega⟩ hRK54m0) (fun v6 m5 hqm5 => ?_))
      obtain ⟨hIm5, hfm5, hvm5⟩ := hqm5
      have hFm5 := zfr_tr hFm0 hfm5 rfl
      obtain ⟨hRK54m5, hvm5⟩ := hvm5
      exact zw_some ⟨hIm5, hFm5, hRK54m5, ⟨by omega, by omega⟩⟩
    · refine zw_ite (fun h7 => ?_) (fun h7 => ?_)
      · refine zw_bd (zw_eq (zu_call_at (zt_T n) (zm_244 n) (zdp_244 n) _ _ _ _ _ rfl (zr_244_0 n _ _ 50 a2 m0)) ?_)
        refine zw_ite (fun h8 => ?_) (fun h8 => ?_)
        · refine zw_b (by omega) ?_
          refine zw_some ?_
          refine zw_ite (fun h9 => ?_) (fun h9 => ?_)
          · exact zw_some ⟨hIm0, hFm0, hRK54m0, ⟨by omega, by omega⟩⟩
          · exfalso; omega
        · have r10 : 1 ≤ (m0 50 2) ∧ (m0 50 2) ≤ 48 := zi_rd hIm0 zq_50 zb_11_2
          refine zw_ite (fun h11 => ?_) (fun h11 => ?_)
          · refine zw_b (by omega) ?_
            refine zw_some ?_
            refine zw_ite (fun h12 => ?_) (fun h12 => ?_)
            · exact zw_some ⟨hIm0, hFm0, hRK54m0, ⟨by omega, by omega⟩⟩
            · exfalso; omega
          · refine zw_b (by omega) ?_
            refine zw_some ?_
            refine zw_ite (fun h13 => ?_) (fun h13 => ?_)
            · exfalso; omega
            · refine zw_bd (zw_mono (zk_24 n hIm0 zq_50 ⟨by omega, by omega⟩ hRK54m0) (fun v15 m14 hqm14 => ?_))
              obtain ⟨hIm14, hfm14, hvm14⟩ := hqm14
              have hFm14 := zfr_tr hFm0 hfm14 rfl
              obtain ⟨hRK54m14, hvm14⟩ := hvm14
              exact zw_some ⟨hIm14, hFm14, hRK54m14, ⟨by omega, by omega⟩⟩
      · refine zw_ite (fun h16 => ?_) (fun h16 => ?_)
        · refine zw_bd (zw_eq (zu_call_at (zt_T n) (zm_210 n) (zdp_210 n) _ _ _ _ _ rfl (zr_210_0 n _ _ 89 a2 m0)) ?_)
          refine zw_ite (fun h17 => ?_) (fun h17 => ?_)
          · refine zw_b (by omega) ?_
            refine zw_some ?_
            refine zw_ite (fun h18 => ?_) (fun h18 => ?_)
            · exact zw_some ⟨hIm0, hFm0, hRK54m0, ⟨by omega, by omega⟩⟩
            · exfalso; omega
          · have r19 : 0 ≤ (m0 89 2) ∧ (m0 89 2) ≤ 16 := zi_rd hIm0 zq_89 zb_16_2
            refine zw_ite (fun h20 => ?_) (fun h20 => ?_)
            · refine zw_b (by omega) ?_
              refine zw_some ?_
              refine zw_ite (fun h21 => ?_) (fun h21 => ?_)
              · exact zw_some ⟨hIm0, hFm0, hRK54m0, ⟨by omega, by omega⟩⟩
              · exfalso; omega
            · refine zw_b (by omega) ?_
              refine zw_some ?_
              refine zw_ite (fun h22 => ?_) (fun h22 => ?_)
              · exfalso; omega
              · refine zw_bd (zw_mono (zk_229 n hIm0 zq_89 ⟨by omega, by omega⟩ hRK54m0) (fun v24 m23 hqm23 => ?_))
                obtain ⟨hIm23, hfm23, hvm23⟩ := hqm23
                have hFm23 := zfr_tr hFm0 hfm23 rfl
                obtain ⟨hRK54m23, hvm23⟩ := hvm23
                exact zw_some ⟨hIm23, hFm23, hRK54m23, ⟨by omega, by omega⟩⟩
        · exact zw_some ⟨hIm0, hFm0, hRK54m0, ⟨by omega, by omega⟩⟩
set_option maxHeartbeats 4000000 in
theorem zk_68 (n : Nat) {a0 : Int} {m0 : zu_m} (hIm0 : zi_I m0) (hc0 : zcls a0 = 2)     (hRK54m0 : zR_K54 m0) : zw (zu_call (zt_T n) 68 [(5, a0)] m0) (fun v m => zi_I m ∧ zfr [(56, 0), (59, 1), (59, 2), (59, 3), (59, 4), (59, 5), (59, 6), (59, 7)] m0 m ∧ zR_K54 m ∧ ((-2147483648) ≤ v ∧ v ≤ 2147483647)) := by
  have hFm0 : zfr [(56, 0), (59, 1), (59, 2), (59, 3), (59, 4), (59, 5), (59, 6), (59, 7)] m0 m0 := zfr_rf _ _
  refine zw_eq (zu_call_at (zt_T n) (zm_68 n) (zdp_68 n) _ _ _ _ _ rfl (zr_68_0 n _ _ a0 m0)) ?_
  refine zw_bd (zw_mono (zk_230 n hIm0 zq_89 hRK54m0) (fun v2 m1 hqm1 => ?_))
  obtain ⟨hIm1, hfm1, hvm1⟩ := hqm1
  have hFm1 := zfr_tr hFm0 hfm1 rfl
  obtain ⟨hRK54m1, hvm1⟩ := hvm1
  exact zw_some ⟨hIm1, hFm1, hRK54m1, ⟨by omega, by omega⟩⟩
set_option maxHeartbeats 4000000 in
theorem zk_69 (n : Nat) {a0 a1 a2 : Int} {m0 : zu_m} (hIm0 : zi_I m0) (hc0 : zcls a0 = 2) (ha1 : (-2147483648) ≤ a1 ∧ a1 ≤ 2147483647) (ha2 : (-2147483648) ≤ a2 ∧ a2 ≤ 2147483647)    (hRK54m0 : zR_K54 m0) : zw (zu_call (zt_T n) 69 [(5, a0), (0, a1), (0, a2)] m0) (fun v m => zi_I m ∧ zfr [(56, 0), (59, 1), (59, 2), (59, 3), (59, 4), (59, 5), (59, 6), (59, 7)] m0 m ∧ zR_K54 m ∧ ((-1) ≤ v ∧ v ≤ 999)) := by
  have hFm0 : zfr [(56, 0), (59, 1), (59, 2), (59, 3), (59, 4), (59, 5), (59, 6), (59, 7)] m0 m0 := zfr_rf _ _
  refine zw_eq (zu_call_at (zt_T n) (zm_69 n) (zdp_69 n) _ _ _ _ _ rfl (zr_69_0 n _ _ a0 a1 a2 m0)) ?_
  refine zw_bd (zw_eq (zu_call_at (zt_T n) (zm_211 n) (zdp_211 n) _ _ _ _ _ rfl (zr_211_0 n _ _ 89 a1 m0)) ?_)
  refine zw_ite (fun h1 => ?_) (fun h1 => ?_)
  · refine zw_b (by omega) ?_
    refine zw_some ?_
    refine zw_ite (fun h2 => ?_) (fun h2 => ?_)
    · exact zw_some ⟨hIm0, hFm0, hRK54m0, ⟨by omega, by omega⟩⟩
    · exfalso; omega
  · have r3 : 0 ≤ (m0 89 4) ∧ (m0 89 4) ≤ 4 := zi_rd hIm0 zq_89 zb_16_4
    refine zw_ite (fun h4 => ?_) (fun h4 => ?_)
    · refine zw_b (by omega) ?_
      refine zw_some ?_
      refine zw_ite (fun h5 => ?_) (fun h5 => ?_)
      · exact zw_some ⟨hIm0, hFm0, hRK54m0, ⟨by omega, by omega⟩⟩
      · exfalso; omega
    · refine zw_b (by omega) ?_
      refine zw_some ?_
      refine zw_ite (fun h6 => ?_) (fun h6 => ?_)
      · exfalso; omega
      · refine zw_bd (zw_eq (zu_call_at (zt_T n) (zm_210 n) (zdp_210 n) _ _ _ _ _ rfl (zr_210_0 n _ _ 89 a2 m0)) ?_)
        refine zw_ite (fun h7 => ?_) (fun h7 => ?_)
        · refine zw_b (by omega) ?_
          refine zw_some ?_
          refine zw_ite (fun h8 => ?_) (fun h8 => ?_)
          · exfalso; omega
          · exact zw_some ⟨hIm0, hFm0, hRK54m0, ⟨by omega, by omega⟩⟩
        · have r9 : 0 ≤ (m0 89 2) ∧ (m0 89 2) ≤ 16 := zi_rd hIm0 zq_89 zb_16_2
          refine zw_ite (fun h10 => ?_) (fun h10 => ?_)
          · refine zw_b (by omega) ?_
            refine zw_some ?_
            refine zw_ite (fun h11 => ?_) (fun h11 => ?_)
            · exfalso; omega
            · exact zw_some ⟨hIm0, hFm0, hRK54m0, ⟨by omega, by omega⟩⟩
          · refine zw_b (by omega) ?_
            refine zw_some ?_
            refine zw_ite (fun h12 => ?_) (fun h12 => ?_)
            · refine zw_bd (zw_mono (zk_226 n hIm0 zq_89 ⟨by omega, by omega⟩ ⟨by omega, by omega⟩ hRK54m0) (fun v14 m13 hqm13 => ?_))
              obtain ⟨hIm13, hfm13, hvm13⟩ := hqm13
              have hFm13 := zfr_tr hFm0 hfm13 rfl
              obtain ⟨hRK54m13, hvm13⟩ := hvm13
              exact zw_some ⟨hIm13, hFm13, hRK54m13, ⟨by omega, by omega⟩⟩
            · exfalso; omega
set_option maxHeartbeats 4000000 in
theorem zk_100 (n : Nat) {a0 a1 : Int} {m0 : zu_m} (hIm0 : zi_I m0) (hc0 : zcls a0 = 28) (ha1 : 1 ≤ a1 ∧ a1 ≤ 3)  (he0 : 1 ≤ m0 a0 8 ∧ m0 a0 8 ≤ 1) (he1 : 1 ≤ m0 a0 9 ∧ m0 a0 9 ≤ 3)  (hRCRm0 : zR_CR m0) (hRLRm0 : zR_LR m0) (hRNSm0 : zR_NS m0) (hRTRm0 : zR_TR m0) (hRWDm0 : zR_WD m0) : zw (zu_call (zt_T n) 100 [(40, a0), (0, a1)] m0) (fun v m => zi_I m ∧ zfr [(28, 5), (28, 6), (28, 8), (28, 9), (28, 10), (28, 11), (28, 12), (28, 23), (28, 24), (28, 43), (104, 0), (105, 0)] m0 m ∧ zR_CR m ∧ zR_LR m ∧ zR_NS m ∧ zR_TR m ∧ zR_WD m ∧ (0 ≤ v ∧ v ≤ 1) ∧ ((m0 a0 7) ≤ (m a0 7)) ∧ (v = 1 → ((m a0 8) = 0 ∨ (m0 a0 7) < (m a0 7))) ∧ (v = 1 → (m a0 4) = (m0 a0 4))) := by
  have hFm0 : zfr [(28, 5), (28, 6), (28, 8), (28, 9), (28, 10), (28, 11), (28, 12), (28, 23), (28, 24), (28, 43), (104, 0), (105, 0)] m0 m0 := zfr_rf _ _
  have s1 := hRNSm0 a0 hc0
  have s2 := hRTRm0 a0 hc0
  refine zw_eq (zu_call_at (zt_T n) (zm_100 n) (zdp_100 n) _ _ _ _ _ rfl (zr_100_0 n _ _ a0 a1 m0)) ?_
  have r3 : 0 ≤ (m0 a0 22) ∧ (m0 a0 22) ≤ 16 := zi_rd hIm0 hc0 zb_28_22
  refine zw_ite (fun h4 => ?_) (fun h4 => ?_)
  · refine zw_bd (zw_mono (zk_89 n hIm0 hc0 hRNSm0 hRWDm0) (fun v6 m5 hqm5 => ?_))
    obtain ⟨hIm5, hfm5, hvm5⟩ := hqm5
    have hFm5 := zfr_tr hFm0 hfm5 rfl
    obtain ⟨hRNSm5, hRTRm5, hRWDm5, hvm5⟩ := hvm5
    have hRCRm5 := zR_CR_fr (zdis_fr hfm5 rfl) hRCRm0
    have hRLRm5 := zR_LR_fr (zdis_fr hfm5 rfl) hRLRm0
    have s7 := hRNSm5 a0 hc0
    have s8 := hRTRm5 a0 hc0
    refine zw_bd (zw_eq (zu_call_at (zt_T n) (zm_96 n) (zdp_96 n) _ _ _ _ _ rfl (zr_96_0 n _ _ a0 m5)) ?_)
    refine zw_b (by omega) ?_
    generalize hmm9 : zu_up m5 a0 23 1 = m9
    have hIm9 := zi_up hmm9 hIm5 hc0 zb_28_23 (by omega) (by omega)
    have hFm9 := zfr_up hmm9 hFm5 hc0 rfl
    have hRLRm9 := zR_LR_fr (zdis_fr (zfr_up hmm9 (zfr_rf [(28, 24)] _) hc0 rfl) rfl) hRLRm5
    have hRNSm9 := zR_NS_fr (zdis_fr (zfr_up hmm9 (zfr_rf [(28, 24)] _) hc0 rfl) rfl) hRNSm5
    have hRTRm9 := zR_TR_fr (zdis_fr (zfr_up hmm9 (zfr_rf [(28, 24)] _) hc0 rfl) rfl) hRTRm5
    have hRWDm9 := zR_WD_fr (zdis_fr (zfr_up hmm9 (zfr_rf [(28, 24)] _) hc0 rfl) rfl) hRWDm5
    have hRCRm9 := zCR_cells (zone_190 hc0) hmm9 rfl hRCRm5
    have r10 : 1 ≤ (m9 a0 17) ∧ (m9 a0 17) ≤ 8 := zi_rd hIm9 hc0 zb_28_17
    have w11 := zu_w32_id (z := (m9 a0 17) - 1) (by omega) (by omega)
    refine zw_bd (zw_eq (zu_call_at (zt_T n) (zm_94 n) (zdp_94 n) _ _ _ _ _ rfl (zr_94_0 n _ _ a0 0 (zu_w32 ((m9 a0 17) - 1)) m9)) ?_)
    have r12 : 0 ≤ (m9 a0 8) ∧ (m9 a0 8) ≤ 6 := zi_rd hIm9 hc0 zb_28_8
    refine zw_ite (fun h13 => ?_) (fun h13 => ?_)
    · have r14 : (-2147483648) ≤ (m9 a0 9) ∧ (m9 a0 9) ≤ 2147483647 := zi_rd hIm9 hc0 zb_28_9
      refine zw_bd (zw_eq (zu_call_at (zt_T n) (zm_83 n) (zdp_83 n) _ _ _ _ _ rfl (zr_83_0 n _ _ (m9 a0 9) 0 (zu_w32 ((m9 a0 17) - 1)) m9)) ?_)
      refine zw_ite (fun h15 => ?_) (fun h15 => ?_)
      · refine zw_b (by omega) ?_
        refine zw_some ?_
        refine zw_ite (fun h16 => ?_) (fun h16 => ?_)
        · exfalso; omega
        · refine zw_bd (zw_eq (zu_call_at (zt_T n) (zm_85 n) (zdp_85 n) _ _ _ _ _ rfl (zr_85_0 n _ _ a0 2 m9)) ?_)
          generalize hmm17 : zu_up m9 a0 4 2 = m17
          have hIm17 := zi_up hmm17 hIm9 hc0 zb_28_4 (by omega) (by omega)
          have hFm17 := zfr_up hmm17 hFm9 hc0 rfl
          have hRCRm17 := zR_CR_fr (zdis_fr (zfr_up hmm17 (zfr_rf [(28, 5)] _) hc0 rfl) rfl) hRCRm9
          have hRNSm17 := zR_NS_fr (zdis_fr (zfr_up hmm17 (zfr_rf [(28, 5)] _) hc0 rfl) rfl) hRNSm9
          have hRTRm17 := zR_TR_fr (zdis_fr (zfr_up hmm17 (zfr_rf [(28, 5)] _) hc0 rfl) rfl) hRTRm9
          have hRWDm17 := zR_WD_fr (zdis_fr (zfr_up hmm17 (zfr_rf [(28, 5)] _) hc0 rfl) rfl) hRWDm9
          have hRLRm17 := zLR_wr (zone_190 hc0) hmm17 (by decide)
          have r18 : 0 ≤ (m17 a0 10) ∧ (m17 a0 10) ≤ 700 := zi_rd hIm17 hc0 zb_28_10
          generalize hmm19 : zu_up m17 a0 5 (m17 a0 10) = m19
          have hIm19 := zi_up hmm19 hIm17 hc0 zb_28_5 (by omega) (by omega)
          have hFm19 := zfr_up hmm19 hFm17 hc0 rfl
          have hRCRm19 := zR_CR_fr (zdis_fr (zfr_up hmm19 (zfr_rf [(28, 6)] _) hc0 rfl) rfl) hRCRm17
          have hRLRm19 := zR_LR_fr (zdis_fr (zfr_up hmm19 (zfr_rf [(28, 6)] _) hc0 rfl) rfl) hRLRm17
          have hRNSm19 := zR_NS_fr (zdis_fr (zfr_up hmm19 (zfr_rf [(28, 6)] _) hc0 rfl) rfl) hRNSm17
          have hRTRm19 := zR_TR_fr (zdis_fr (zfr_up hmm19 (zfr_rf [(28, 6)] _) hc0 rfl) rfl) hRTRm17
          have hRWDm19 := zR_WD_fr (zdis_fr (zfr_up hmm19 (zfr_rf [(28, 6)] _) hc0 rfl) rfl) hRWDm17
          refine zw_b (by omega) ?_
          refine zw_some ?_
          refine zw_b (by omega) ?_
          refine zw_some ?_
          refine zw_ite (fun h20 => ?_) (fun h20 => ?_)
          · exfalso; omega
          · refine zw_b (by omega) ?_
            refine zw_some ?_
            refine zw_ite (fun h21 => ?_) (fun h21 => ?_)
            · exfalso; omega
            · refine zw_b (by omega) ?_
              have r22 : 0 ≤ (m19 a0 7) ∧ (m19 a0 7) ≤ 700 := zi_rd hIm19 hc0 zb_28_7
              have r23 : 0 ≤ (m19 a0 8) ∧ (m19 a0 8) ≤ 6 := zi_rd hIm19 hc0 zb_28_8
              have e24 : (m19 a0 8) = (m9 a0 8) := (Eq.trans (zs_ne hmm19 (Or.inr (by decide))) (zs_ne hmm17 (Or.inr (by decide))))
              have r25 : (-2147483648) ≤ (m19 a0 4) ∧ (m19 a0 4) ≤ 2147483647 := zi_rd hIm19 hc0 zb_28_4
              have e26 : (m19 a0 4) = 2 := (Eq.trans (zs_ne hmm19 (Or.inr (by decide))) (zs_eq hmm17))
              exact zw_some ⟨hIm19, hFm19, hRCRm19, hRLRm19, hRNSm19, hRTRm19, hRWDm19, ⟨by omega, by omega⟩, by omega, by omega, by omega⟩
      · refine zw_ite (fun h27 => ?_) (fun h27 => ?_)
        · refine zw_b (by omega) ?_
          refine zw_some ?_
          refine zw_ite (fun h28 => ?_) (fun h28 => ?_)
          · exfalso; omega
          · refine zw_bd (zw_eq (zu_call_at (zt_T n) (zm_85 n) (zdp_85 n) _ _ _ _ _ rfl (zr_85_0 n _ _ a0 2 m9)) ?_)
            generalize hmm29 : zu_up m9 a0 4 2 = m29
            have hIm29 := zi_up hmm29 hIm9 hc0 zb_28_4 (by omega) (by omega)
            have hFm29 := zfr_up hmm29 hFm9 hc0 rfl
            have hRCRm29 := zR_CR_fr (zdis_fr (zfr_up hmm29 (zfr_rf [(28, 5)] _) hc0 rfl) rfl) hRCRm9
            have hRNSm29 := zR_NS_fr (zdis_fr (zfr_up hmm29 (zfr_rf [(28, 5)] _) hc0 rfl) rfl) hRNSm9
            have hRTRm29 := zR_TR_fr (zdis_fr (zfr_up hmm29 (zfr_rf [(28, 5)] _) hc0 rfl) rfl) hRTRm9
            have hRWDm29 := zR_WD_fr (zdis_fr (zfr_up hmm29 (zfr_rf [(28, 5)] _) hc0 rfl) rfl) hRWDm9
            have hRLRm29 := zLR_wr (zone_190 hc0) hmm29 (by decide)
            have r30 : 0 ≤ (m29 a0 10) ∧ (m29 a0 10) ≤ 700 := zi_rd hIm29 hc0 zb_28_10
            generalize hmm31 : zu_up m29 a0 5 (m29 a0 10) = m31
            have hIm31 := zi_up hmm31 hIm29 hc0 zb_28_5 (by omega) (by omega)
            have hFm31 := zfr_up hmm31 hFm29 hc0 rfl
            have hRCRm31 := zR_CR_fr (zdis_fr (zfr_up hmm31 (zfr_rf [(28, 6)] _) hc0 rfl) rfl) hRCRm29
            have hRLRm31 := zR_LR_fr (zdis_fr (zfr_up hmm31 (zfr_rf [(28, 6)] _) hc0 rfl) rfl) hRLRm29
            have hRNSm31 := zR_NS_fr (zdis_fr (zfr_up hmm31 (zfr_rf [(28, 6)] _) hc0 rfl) rfl) hRNSm29
            have hRTRm31 := zR_TR_fr (zdis_fr (zfr_up hmm31 (zfr_rf [(28, 6)] _) hc0 rfl) rfl) hRTRm29
            have hRWDm31 := zR_WD_fr (zdis_fr (zfr_up hmm31 (zfr_rf [(28, 6)] _) hc0 rfl) rfl) hRWDm29
            refine zw_b (by omega) ?_
            refine zw_some ?_
            refine zw_b (by omega) ?_
            refine zw_some ?_
            refine zw_ite (fun h32 => ?_) (fun h32 => ?_)
            · exfalso; omega
            · refine zw_b (by omega) ?_
              refine zw_some ?_
              refine zw_ite (fun h33 => ?_) (fun h33 => ?_)
              · exfalso; omega
              · refine zw_b (by omega) ?_
                have r34 : 0 ≤ (m31 a0 7) ∧ (m31 a0 7) ≤ 700 := zi_rd hIm31 hc0 zb_28_7
                have r35 : 0 ≤ (m31 a0 8) ∧ (m31 a0 8) ≤ 6 := zi_rd hIm31 hc0 zb_28_8
                have e36 : (m31 a0 8) = (m9 a0 8) := (Eq.trans (zs_ne hmm31 (Or.inr (by decide))) (zs_ne hmm29 (Or.inr (by decide))))
                have r37 : (-2147483648) ≤ (m31 a0 4) ∧ (m31 a0 4) ≤ 2147483647 := zi_rd hIm31 hc0 zb_28_4
                have e38 : (m31 a0 4) = 2 := (Eq.trans (zs_ne hmm31 (Or.inr (by decide))) (zs_eq hmm29))
                exact zw_some ⟨hIm31, hFm31, hRCRm31, hRLRm31, hRNSm31, hRTRm31, hRWDm31, ⟨by omega, by omega⟩, by omega, by omega, by omega⟩
        · refine zw_b (by omega) ?_
          refine zw_some ?_
          refine zw_ite (fun h39 => ?_) (fun h39 => ?_)
          · generalize hmm40 : zu_up m9 a0 11 (m9 a0 9) = m40
            have hIm40 := zi_up hmm40 hIm9 hc0 zb_28_11 (by omega) (by omega)
            have hFm40 := zfr_up hmm40 hFm9 hc0 rfl
            have hRCRm40 := zR_CR_fr (zdis_fr (zfr_up hmm40 (zfr_rf [(28, 12)] _) hc0 rfl) rfl) hRCRm9
            have hRLRm40 := zR_LR_fr (zdis_fr (zfr_up hmm40 (zfr_rf [(28, 12)] _) hc0 rfl) rfl) hRLRm9
            have hRNSm40 := zR_NS_fr (zdis_fr (zfr_up hmm40 (zfr_rf [(28, 12)] _) hc0 rfl) rfl) hRNSm9
            have hRTRm40 := zR_TR_fr (zdis_fr (zfr_up hmm40 (zfr_rf [(28, 12)] _) hc0 rfl) rfl) hRTRm9
            have hRWDm40 := zR_WD_fr (zdis_fr (zfr_up hmm40 (zfr_rf [(28, 12)] _) hc0 rfl) rfl) hRWDm9
            refine zw_bd (zw_mono (zk_89 n hIm40 hc0 hRNSm40 hRWDm40) (fun v42 m41 hqm41 => ?_))
            obtain ⟨hIm41, hfm41, hvm41⟩ := hqm41
            have hFm41 := zfr_tr hFm40 hfm41 rfl
            obtain ⟨hRNSm41, hRTRm41, hRWDm41, hvm41⟩ := hvm41
            have hRCRm41 := zR_CR_fr (zdis_fr hfm41 rfl) hRCRm40
            have hRLRm41 := zR_LR_fr (zdis_fr hfm41 rfl) hRLRm40
            have s43 := hRNSm41 a0 hc0
            have s44 := hRTRm41 a0 hc0
            refine zw_b (by omega) ?_
            refine zw_some ?_
            refine zw_ite (fun h45 => ?_) (fun h45 => ?_)
            · have r46 : (-2147483648) ≤ (m41 a0 11) ∧ (m41 a0 11) ≤ 2147483647 := zi_rd hIm41 hc0 zb_28_11
              have e47 : (m41 a0 11) = (m9 a0 9) := (Eq.trans (zfr_ap hfm41 hc0 rfl) (zs_eq hmm40))
              have r48 : 0 ≤ (m41 a0 10) ∧ (m41 a0 10) ≤ 700 := zi_rd hIm41 hc0 zb_28_10
              generalize hmm49 : zu_up m41 a0 42 (m41 a0 10) = m49
              have hIm49 := zi_up hmm49 hIm41 hc0 zb_28_42 (by omega) (by omega)
              have hFm49 := zfr_up hmm49 hFm41 hc0 rfl
              have hRCRm49 := zR_CR_fr (zdis_fr (zfr_up hmm49 (zfr_rf [(28, 43)] _) hc0 rfl) rfl) hRCRm41
              have hRLRm49 := zR_LR_fr (zdis_fr (zfr_up hmm49 (zfr_rf [(28, 43)] _) hc0 rfl) rfl) hRLRm41
              have hRNSm49 := zR_NS_fr (zdis_fr (zfr_up hmm49 (zfr_rf [(28, 43)] _) hc0 rfl) rfl) hRNSm41
              have hRTRm49 := zR_TR_fr (zdis_fr (zfr_up hmm49 (zfr_rf [(28, 43)] _) hc0 rfl) rfl) hRTRm41
              have hRWDm49 := zR_WD_fr (zdis_fr (zfr_up hmm49 (zfr_rf [(28, 43)] _) hc0 rfl) rfl) hRWDm41
              have r50 : 1 ≤ (m49 a0 18) ∧ (m49 a0 18) ≤ 6 := zi_rd hIm49 hc0 zb_28_18
              have w51 := zu_w32_id (z := (m49 a0 18) - 1) (by omega) (by omega)
              refine zw_bd (zw_eq (zu_call_at (zt_T n) (zm_94 n) (zdp_94 n) _ _ _ _ _ rfl (zr_94_0 n _ _ a0 0 (zu_w32 ((m49 a0 18) - 1)) m49)) ?_)
              have r52 : 0 ≤ (m49 a0 8) ∧ (m49 a0 8) ≤ 6 := zi_rd hIm49 hc0 zb_28_8
              refine zw_ite (fun h53 => ?_) (fun h53 => ?_)
              · have r54 : (-2147483648) ≤ (m49 a0 9) ∧ (m49 a0 9) ≤ 2147483647 := zi_rd hIm49 hc0 zb_28_9
                refine zw_bd (zw_eq (zu_call_at (zt_T n) (zm_83 n) (zdp_83 n) _ _ _ _ _ rfl (zr_83_0 n _ _ (m49 a0 9) 0 (zu_w32 ((m49 a0 18) - 1)) m49)) ?_)
                refine zw_ite (fun h55 => ?_) (fun h55 => ?_)
                · refine zw_b (by omega) ?_
                  refine zw_some ?_
                  refine zw_ite (fun h56 => ?_) (fun h56 => ?_)
                  · exfalso; omega
                  · refine zw_bd (zw_eq (zu_call_at (zt_T n) (zm_85 n) (zdp_85 n) _ _ _ _ _ rfl (zr_85_0 n _ _ a0 2 m49)) ?_)
                    generalize hmm57 : zu_up m49 a0 4 2 = m57
                    have hIm57 := zi_up hmm57 hIm49 hc0 zb_28_4 (by omega) (by omega)
                    have hFm57 := zfr_up hmm57 hFm49 hc0 rfl
                    have hRCRm57 := zR_CR_fr (zdis_fr (zfr_up hmm57 (zfr_rf [(28, 5)] _) hc0 rfl) rfl) hRCRm49
                    have hRNSm57 := zR_NS_fr (zdis_fr (zfr_up hmm57 (zfr_rf [(28, 5)] _) hc0 rfl) rfl) hRNSm49
                    have hRTRm57 := zR_TR_fr (zdis_fr (zfr_up hmm57 (zfr_rf [(28, 5)] _) hc0 rfl) rfl) hRTRm49
                    have hRWDm57 := zR_WD_fr (zdis_fr (zfr_up hmm57 (zfr_rf [(28, 5)] _) hc0 rfl) rfl) hRWDm49
                    have hRLRm57 := zLR_wr (zone_190 hc0) hmm57 (by decide)
                    have r58 : 0 ≤ (m57 a0 10) ∧ (m57 a0 10) ≤ 700 := zi_rd hIm57 hc0 zb_28_10
                    have e59 : (m57 a0 10) = (m41 a0 10) := (Eq.trans (zs_ne hmm57 (Or.inr (by decide))) (zs_ne hmm49 (Or.inr (by decide))))
                    generalize hmm60 : zu_up m57 a0 5 (m57 a0 10) = m60
                    have hIm60 := zi_up hmm60 hIm57 hc0 zb_28_5 (by omega) (by omega)
                    have hFm60 := zfr_up hmm60 hFm57 hc0 rfl
                    have hRCRm60 := zR_CR_fr (zdis_fr (zfr_up hmm60 (zfr_rf [(28, 6)] _) hc0 rfl) rfl) hRCRm57
                    have hRLRm60 := zR_LR_fr (zdis_fr (zfr_up hmm60 (zfr_rf [(28, 6)] _) hc0 rfl) rfl) hRLRm57
                    have hRNSm60 := zR_NS_fr (zdis_fr (zfr_up hmm60 (zfr_rf [(28, 6)] _) hc0 rfl) rfl) hRNSm57
                    have hRTRm60 := zR_TR_fr (zdis_fr (zfr_up hmm60 (zfr_rf [(28, 6)] _) hc0 rfl) rfl) hRTRm57
                    have hRWDm60 := zR_WD_fr (zdis_fr (zfr_up hmm60 (zfr_rf [(28, 6)] _) hc0 rfl) rfl) hRWDm57
                    refine zw_b (by omega) ?_
                    refine zw_some ?_
                    refine zw_b (by omega) ?_
                    refine zw_some ?_
                    refine zw_ite (fun h61 => ?_) (fun h61 => ?_)
                    · exfalso; omega
                    · refine zw_b (by omega) ?_
                      refine zw_some ?_
                      refine zw_ite (fun h62 => ?_) (fun h62 => ?_)
                      · exfalso; omega
                      · refine zw_b (by omega) ?_
                        have r63 : 0 ≤ (m60 a0 7) ∧ (m60 a0 7) ≤ 700 := zi_rd hIm60 hc0 zb_28_7
                        have r64 : 0 ≤ (m60 a0 8) ∧ (m60 a0 8) ≤ 6 := zi_rd hIm60 hc0 zb_28_8
                        have e65 : (m60 a0 8) = (m49 a0 8) := (Eq.trans (zs_ne hmm60 (Or.inr (by decide))) (zs_ne hmm57 (Or.inr (by decide))))
                        have r66 : (-2147483648) ≤ (m60 a0 4) ∧ (m60 a0 4) ≤ 2147483647 := zi_rd hIm60 hc0 zb_28_4
                        have e67 : (m60 a0 4) = 2 := (Eq.trans (zs_ne hmm60 (Or.inr (by decide))) (zs_eq hmm57))
                        exact zw_some ⟨hIm60, hFm60, hRCRm60, hRLRm60, hRNSm60, hRTRm60, hRWDm60, ⟨by omega, by omega⟩, by omega, by omega, by omega⟩
                · refine zw_ite (fun h68 => ?_) (fun h68 => ?_)
                  · refine zw_b (by omega) ?_
                    refine zw_some ?_
                    refine zw_ite (fun h69 => ?_) (fun h69 => ?_)
                    · exfalso; omega
                    · refine zw_bd (zw_eq (zu_call_at (zt_T n) (zm_85 n) (zdp_85 n) _ _ _ _ _ rfl (zr_85_0 n _ _ a0 2 m49)) ?_)
                      generalize hmm70 : zu_up m49 a0 4 2 = m70
                      have hIm70 := zi_up hmm70 hIm49 hc0 zb_28_4 (by omega) (by omega)
                      have hFm70 := zfr_up hmm70 hFm49 hc0 rfl
                      have hRCRm70 := zR_CR_fr (zdis_fr (zfr_up hmm70 (zfr_rf [(28, 5)] _) hc0 rfl) rfl) hRCRm49
                      have hRNSm70 := zR_NS_fr (zdis_fr (zfr_up hmm70 (zfr_rf [(28, 5)] _) hc0 rfl) rfl) hRNSm49
                      have hRTRm70 := zR_TR_fr (zdis_fr (zfr_up hmm70 (zfr_rf [(28, 5)] _) hc0 rfl) rfl) hRTRm49
                      have hRWDm70 := zR_WD_fr (zdis_fr (zfr_up hmm70 (zfr_rf [(28, 5)] _) hc0 rfl) rfl) hRWDm49
                      have hRLRm70 := zLR_wr (zone_190 hc0) hmm70 (by decide)
                      have r71 : 0 ≤ (m70 a0 10) ∧ (m70 a0 10) ≤ 700 := zi_rd hIm70 hc0 zb_28_10
                      have e72 : (m70 a0 10) = (m41 a0 10) := (Eq.trans (zs_ne hmm70 (Or.inr (by decide))) (zs_ne hmm49 (Or.inr (by decide))))
                      generalize hmm73 : zu_up m70 a0 5 (m70 a0 10) = m73
                      have hIm73 := zi_up hmm73 hIm70 hc0 zb_28_5 (by omega) (by omega)
                      have hFm73 := zfr_up hmm73 hFm70 hc0 rfl
                      have hRCRm73 := zR_CR_fr (zdis_fr (zfr_up hmm73 (zfr_rf [(28, 6)] _) hc0 rfl) rfl) hRCRm70
                      have hRLRm73 := zR_LR_fr (zdis_fr (zfr_up hmm73 (zfr_rf [(28, 6)] _) hc0 rfl) rfl) hRLRm70
                      have hRNSm73 := zR_NS_fr (zdis_fr (zfr_up hmm73 (zfr_rf [(28, 6)] _) hc0 rfl) rfl) hRNSm70
                      have hRTRm73 := zR_TR_fr (zdis_fr (zfr_up hmm73 (zfr_rf [(28, 6)] _) hc0 rfl) rfl) hRTRm70
                      have hRWDm73 := zR_WD_fr (zdis_fr (zfr_up hmm73 (zfr_rf [(28, 6)] _) hc0 rfl) rfl) hRWDm70
                      refine zw_b (by omega) ?_
                      refine zw_some ?_
                      refine zw_b (by omega) ?_
                      refine zw_some ?_
                      refine zw_ite (fun h74 => ?_) (fun h74 => ?_)
                      · exfalso; omega
                      · refine zw_b (by omega) ?_
                        refine zw_some ?_
                        refine zw_ite (fun h75 => ?_) (fun h75 => ?_)
                        · exfalso; omega
                        · refine zw_b (by omega) ?_
                          have r76 : 0 ≤ (m73 a0 7) ∧ (m73 a0 7) ≤ 700 := zi_rd hIm73 hc0 zb_28_7
                          have r77 : 0 ≤ (m73 a0 8) ∧ (m73 a0 8) ≤ 6 := zi_rd hIm73 hc0 zb_28_8
                          have e78 : (m73 a0 8) = (m49 a0 8) := (Eq.trans (zs_ne hmm73 (Or.inr (by decide))) (zs_ne hmm70 (Or.inr (by decide))))
                          have r79 : (-2147483648) ≤ (m73 a0 4) ∧ (m73 a0 4) ≤ 2147483647 := zi_rd hIm73 hc0 zb_28_4
                          have e80 : (m73 a0 4) = 2 := (Eq.trans (zs_ne hmm73 (Or.inr (by decide))) (zs_eq hmm70))
                          exact zw_some ⟨hIm73, hFm73, hRCRm73, hRLRm73, hRNSm73, hRTRm73, hRWDm73, ⟨by omega, by omega⟩, by omega, by omega, by omega⟩
                  · refine zw_b (by omega) ?_
                    refine zw_some ?_
                    refine zw_ite (fun h81 => ?_) (fun h81 => ?_)
                    · generalize hmm82 : zu_up m49 a0 11 (m49 a0 9) = m82
                      have hIm82 := zi_up hmm82 hIm49 hc0 zb_28_11 (by omega) (by omega)
                      have hFm82 := zfr_up hmm82 hFm49 hc0 rfl
                      have hRCRm82 := zR_CR_fr (zdis_fr (zfr_up hmm82 (zfr_rf [(28, 12)] _) hc0 rfl) rfl) hRCRm49
                      have hRLRm82 := zR_LR_fr (zdis_fr (zfr_up hmm82 (zfr_rf [(28, 12)] _) hc0 rfl) rfl) hRLRm49
                      have hRNSm82 := zR_NS_fr (zdis_fr (zfr_up hmm82 (zfr_rf [(28, 12)] _) hc0 rfl) rfl) hRNSm49
                      have hRTRm82 := zR_TR_fr (zdis_fr (zfr_up hmm82 (zfr_rf [(28, 12)] _) hc0 rfl) rfl) hRTRm49
                      have hRWDm82 := zR_WD_fr (zdis_fr (zfr_up hmm82 (zfr_rf [(28, 12)] _) hc0 rfl) rfl) hRWDm49
                      refine zw_bd (zw_mono (zk_89 n hIm82 hc0 hRNSm82 hRWDm82) (fun v84 m83 hqm83 => ?_))
                      obtain ⟨hIm83, hfm83, hvm83⟩ := hqm83
                      have hFm83 := zfr_tr hFm82 hfm83 rfl
                      obtain ⟨hRNSm83, hRTRm83, hRWDm83, hvm83⟩ := hvm83
                      have hRCRm83 := zR_CR_fr (zdis_fr hfm83 rfl) hRCRm82
                      have hRLRm83 := zR_LR_fr (zdis_fr hfm83 rfl) hRLRm82
                      have s85 := hRNSm83 a0 hc0
                      have s86 := hRTRm83 a0 hc0
                      refine zw_b (by omega) ?_
                      refine zw_some ?_
                      refine zw_ite (fun h87 => ?_) (fun h87 => ?_)
                      · have r88 : 1 ≤ (m83 a0 17) ∧ (m83 a0 17) ≤ 8 := zi_rd hIm83 hc0 zb_28_17
                        have e89 : (m83 a0 17) = (m9 a0 17) := (Eq.trans (zfr_ap hfm83 hc0 rfl) (Eq.trans (zs_ne hmm82 (Or.inr (by decide))) (Eq.trans (zs_ne hmm49 (Or.inr (by decide))) (Eq.trans (zfr_ap hfm41 hc0 rfl) (zs_ne hmm40 (Or.inr (by decide)))))))
                        have r90 : (-2147483648) ≤ (m83 a0 11) ∧ (m83 a0 11) ≤ 2147483647 := zi_rd hIm83 hc0 zb_28_11
                        have e91 : (m83 a0 11) = (m49 a0 9) := (Eq.trans (zfr_ap hfm83 hc0 rfl) (zs_eq hmm82))
                        have p92 := zmul_bd (x := (m83 a0 17)) (y := (m83 a0 11)) (a := 1) (b := 0) (A := 8) (B := 5) (by omega) (by omega) (by omega) (by omega) (by omega) (by omega)
                        have w93 := zu_w32_id (z := (m83 a0 17) * (m83 a0 11)) (by omega) (by omega)
                        have w94 := zu_w32_id (z := (zu_w32 ((m83 a0 17) * (m83 a0 11))) + (m41 a0 11)) (by omega) (by omega)
                        generalize hmm95 : zu_up m83 a0 11 (zu_w32 ((zu_w32 ((m83 a0 17) * (m83 a0 11))) + (m41 a0 11))) = m95
                        have hIm95 := zi_up hmm95 hIm83 hc0 zb_28_11 (by omega) (by omega)
                        have hFm95 := zfr_up hmm95 hFm83 hc0 rfl
                        have hRCRm95 := zR_CR_fr (zdis_fr (zfr_up hmm95 (zfr_rf [(28, 12)] _) hc0 rfl) rfl) hRCRm83
                        have hRLRm95 := zR_LR_fr (zdis_fr (zfr_up hmm95 (zfr_rf [(28, 12)] _) hc0 rfl) rfl) hRLRm83
                        have hRNSm95 := zR_NS_fr (zdis_fr (zfr_up hmm95 (zfr_rf [(28, 12)] _) hc0 rfl) rfl) hRNSm83
                        have hRTRm95 := zR_TR_fr (zdis_fr (zfr_up hmm95 (zfr_rf [(28, 12)] _) hc0 rfl) rfl) hRTRm83
                        have hRWDm95 := zR_WD_fr (zdis_fr (zfr_up hmm95 (zfr_rf [(28, 12)] _) hc0 rfl) rfl) hRWDm83
                        refine zw_b (by omega) ?_
                        refine zw_some ?_
                        refine zw_ite (fun h96 => ?_) (fun h96 => ?_)
                        · have r97 : (-2147483648) ≤ (m95 a0 11) ∧ (m95 a0 11) ≤ 2147483647 := zi_rd hIm95 hc0 zb_28_11
                          have e98 : (m95 a0 11) = (zu_w32 ((zu_w32 ((m83 a0 17) * (m83 a0 11))) + (m41 a0 11))) := (zs_eq hmm95)
                          have b99 : 0 ≤ (m95 a0 11) ∧ (m95 a0 11) < 48 := by omega
                          refine zw_if b99 ?_
                          have r100 : 0 ≤ (m95 196 (m95 a0 11)) ∧ (m95 196 (m95 a0 11)) ≤ 1 := zi_rd hIm95 zq_196 (zb_105 _)
                          refine zw_ite (fun h101 => ?_) (fun h101 => ?_)
                          · refine zw_b (by omega) ?_
                            have b102 : 0 ≤ (m95 a0 11) ∧ (m95 a0 11) < 48 := by omega
                            refine zw_if b102 ?_
                            generalize hmm103 : zu_up m95 196 (m95 a0 11) 1 = m103
                            have hIm103 := zi_up hmm103 hIm95 zq_196 (zb_105 _) (by omega) (by omega)
                            have hFm103 := zfr_up hmm103 hFm95 zq_196 rfl
                            have hRCRm103 := zR_CR_fr (zdis_fr (zfr_up hmm103 (zfr_rf [(105, 0)] _) zq_196 rfl) rfl) hRCRm95
                            have hRLRm103 := zR_LR_fr (zdis_fr (zfr_up hmm103 (zfr_rf [(105, 0)] _) zq_196 rfl) rfl) hRLRm95
                            have hRNSm103 := zR_NS_fr (zdis_fr (zfr_up hmm103 (zfr_rf [(105, 0)] _) zq_196 rfl) rfl) hRNSm95
                            have hRTRm103 := zR_TR_fr (zdis_fr (zfr_up hmm103 (zfr_rf [(105, 0)] _) zq_196 rfl) rfl) hRTRm95
                            have hRWDm103 := zR_WD_fr (zdis_fr (zfr_up hmm103 (zfr_rf [(105, 0)] _) zq_196 rfl) rfl) hRWDm95
                            have r104 : (-2147483648) ≤ (m103 a0 11) ∧ (m103 a0 11) ≤ 2147483647 := zi_rd hIm103 hc0 zb_28_11
                            have e105 : (m103 a0 11) = (m95 a0 11) := (zs_ne hmm103 (Or.inl (zc_ne hc0 zq_196 (by decide))))
                            have w106 := zu_w32_id (z := 48 + (m103 a0 11)) (by omega) (by omega)
                            have b107 : 0 ≤ (zu_w32 (48 + (m103 a0 11))) ∧ (zu_w32 (48 + (m103 a0 11))) < 96 := by omega
                            refine zw_if b107 ?_
                            generalize hmm108 : zu_up m103 195 (zu_w32 (48 + (m103 a0 11))) a1 = m108
                            have hIm108 := zi_up hmm108 hIm103 zq_195 (zb_104 _) (by omega) (by omega)
                            have hFm108 := zfr_up hmm108 hFm103 zq_195 rfl
                            have hRCRm108 := zR_CR_fr (zdis_fr (zfr_up hmm108 (zfr_rf [(104, 0)] _) zq_195 rfl) rfl) hRCRm103
                            have hRLRm108 := zR_LR_fr (zdis_fr (zfr_up hmm108 (zfr_rf [(104, 0)] _) zq_195 rfl) rfl) hRLRm103
                            have hRNSm108 := zR_NS_fr (zdis_fr (zfr_up hmm108 (zfr_rf [(104, 0)] _) zq_195 rfl) rfl) hRNSm103
                            have hRTRm108 := zR_TR_fr (zdis_fr (zfr_up hmm108 (zfr_rf [(104, 0)] _) zq_195 rfl) rfl) hRTRm103
                            have hRWDm108 := zR_WD_fr (zdis_fr (zfr_up hmm108 (zfr_rf [(104, 0)] _) zq_195 rfl) rfl) hRWDm103
                            have r109 : 0 ≤ (m108 a0 22) ∧ (m108 a0 22) ≤ 16 := zi_rd hIm108 hc0 zb_28_22
                            have e110 : (m108 a0 22) = (m0 a0 22) := (Eq.trans (zs_ne hmm108 (Or.inl (zc_ne hc0 zq_195 (by decide)))) (Eq.trans (zs_ne hmm103 (Or.inl (zc_ne hc0 zq_196 (by decide)))) (Eq.trans (zs_ne hmm95 (Or.inr (by decide))) (Eq.trans (zfr_ap hfm83 hc0 rfl) (Eq.trans (zs_ne hmm82 (Or.inr (by decide))) (Eq.trans (zs_ne hmm49 (Or.inr (by decide))) (Eq.trans (zfr_ap hfm41 hc0 rfl) (Eq.trans (zs_ne hmm40 (Or.inr (by decide))) (Eq.trans (zs_ne hmm9 (Or.inr (by decide))) (zfr_ap hfm5 hc0 rfl))))))))))
                            have w111 := zu_w32_id (z := (m108 a0 22) + 1) (by omega) (by omega)
                            generalize hmm112 : zu_up m108 a0 22 (zu_w32 ((m108 a0 22) + 1)) = m112
                            have hIm112 := zi_up hmm112 hIm108 hc0 zb_28_22 (by omega) (by omega)
                            have hFm112 := zfr_up hmm112 hFm108 hc0 rfl
                            have hRCRm112 := zR_CR_fr (zdis_fr (zfr_up hmm112 (zfr_rf [(28, 23)] _) hc0 rfl) rfl) hRCRm108
                            have hRLRm112 := zR_LR_fr (zdis_fr (zfr_up hmm112 (zfr_rf [(28, 23)] _) hc0 rfl) rfl) hRLRm108
                            have hRNSm112 := zR_NS_fr (zdis_fr (zfr_up hmm112 (zfr_rf [(28, 23)] _) hc0 rfl) rfl) hRNSm108
                            have hRTRm112 := zR_TR_fr (zdis_fr (zfr_up hmm112 (zfr_rf [(28, 23)] _) hc0 rfl) rfl) hRTRm108
                            have hRWDm112 := zR_WD_fr (zdis_fr (zfr_up hmm112 (zfr_rf [(28, 23)] _) hc0 rfl) rfl) hRWDm108
                            refine zw_b (by omega) ?_
                            have r113 : 0 ≤ (m112 a0 7) ∧ (m112 a0 7) ≤ 700 := zi_rd hIm112 hc0 zb_28_7
                            have r114 : 0 ≤ (m112 a0 8) ∧ (m112 a0 8) ≤ 6 := zi_rd hIm112 hc0 zb_28_8
                            have r115 : (-2147483648) ≤ (m112 a0 4) ∧ (m112 a0 4) ≤ 2147483647 := zi_rd hIm112 hc0 zb_28_4
                            exact zw_some ⟨hIm112, hFm112, hRCRm112, hRLRm112, hRNSm112, hRTRm112, hRWDm112, ⟨by omega, by omega⟩, by omega, by omega, by omega⟩
                          · have r116 : (-2147483648) ≤ (m95 a0 42) ∧ (m95 a0 42) ≤ 2147483647 := zi_rd hIm95 hc0 zb_28_42
                            have e117 : (m95 a0 42) = (m41 a0 10) := (Eq.trans (zs_ne hmm95 (Or.inr (by decide))) (Eq.trans (zfr_ap hfm83 hc0 rfl) (Eq.trans (zs_ne hmm82 (Or.inr (by decide))) (zs_eq hmm49))))
                            generalize hmm118 : zu_up m95 a0 10 (m95 a0 42) = m118
                            have hIm118 := zi_up hmm118 hIm95 hc0 zb_28_10 (by omega) (by omega)
                            have hFm118 := zfr_up hmm118 hFm95 hc0 rfl
                            have hRCRm118 := zR_CR_fr (zdis_fr (zfr_up hmm118 (zfr_rf [(28, 11)] _) hc0 rfl) rfl) hRCRm95
                            have hRLRm118 := zR_LR_fr (zdis_fr (zfr_up hmm118 (zfr_rf [(28, 11)] _) hc0 rfl) rfl) hRLRm95
                            have hRNSm118 := zR_NS_fr (zdis_fr (zfr_up hmm118 (zfr_rf [(28, 11)] _) hc0 rfl) rfl) hRNSm95
                            have hRTRm118 := zR_TR_fr (zdis_fr (zfr_up hmm118 (zfr_rf [(28, 11)] _) hc0 rfl) rfl) hRTRm95
                            have hRWDm118 := zR_WD_fr (zdis_fr (zfr_up hmm118 (zfr_rf [(28, 11)] _) hc0 rfl) rfl) hRWDm95
                            refine zw_bd (zw_eq (zu_call_at (zt_T n) (zm_85 n) (zdp_85 n) _ _ _ _ _ rfl (zr_85_0 n _ _ a0 3 m118)) ?_)
                            generalize hmm119 : zu_up m118 a0 4 3 = m119
                            have hIm119 := zi_up hmm119 hIm118 hc0 zb_28_4 (by omega) (by omega)
                            have hFm119 := zfr_up hmm119 hFm118 hc0 rfl
                            have hRCRm119 := zR_CR_fr (zdis_fr (zfr_up hmm119 (zfr_rf [(28, 5)] _) hc0 rfl) rfl) hRCRm118
                            have hRNSm119 := zR_NS_fr (zdis_fr (zfr_up hmm119 (zfr_rf [(28, 5)] _) hc0 rfl) rfl) hRNSm118
                            have hRTRm119 := zR_TR_fr (zdis_fr (zfr_up hmm119 (zfr_rf [(28, 5)] _) hc0 rfl) rfl) hRTRm118
                            have hRWDm119 := zR_WD_fr (zdis_fr (zfr_up hmm119 (zfr_rf [(28, 5)] _) hc0 rfl) rfl) hRWDm118
                            have hRLRm119 := zLR_wr (zone_190 hc0) hmm119 (by decide)
                            have r120 : 0 ≤ (m119 a0 10) ∧ (m119 a0 10) ≤ 700 := zi_rd hIm119 hc0 zb_28_10
                            have e121 : (m119 a0 10) = (m95 a0 42) := (Eq.trans (zs_ne hmm119 (Or.inr (by decide))) (zs_eq hmm118))
                            generalize hmm122 : zu_up m119 a0 5 (m119 a0 10) = m122
                            have hIm122 := zi_up hmm122 hIm119 hc0 zb_28_5 (by omega) (by omega)
                            have hFm122 := zfr_up hmm122 hFm119 hc0 rfl
                            have hRCRm122 := zR_CR_fr (zdis_fr (zfr_up hmm122 (zfr_rf [(28, 6)] _) hc0 rfl) rfl) hRCRm119
                            have hRLRm122 := zR_LR_fr (zdis_fr (zfr_up hmm122 (zfr_rf [(28, 6)] _) hc0 rfl) rfl) hRLRm119
                            have hRNSm122 := zR_NS_fr (zdis_fr (zfr_up hmm122 (zfr_rf [(28, 6)] _) hc0 rfl) rfl) hRNSm119
                            have hRTRm122 := zR_TR_fr (zdis_fr (zfr_up hmm122 (zfr_rf [(28, 6)] _) hc0 rfl) rfl) hRTRm119
                            have hRWDm122 := zR_WD_fr (zdis_fr (zfr_up hmm122 (zfr_rf [(28, 6)] _) hc0 rfl) rfl) hRWDm119
                            refine zw_b (by omega) ?_
                            refine zw_some ?_
                            refine zw_b (by omega) ?_
                            have r123 : 0 ≤ (m122 a0 7) ∧ (m122 a0 7) ≤ 700 := zi_rd hIm122 hc0 zb_28_7
                            have r124 : 0 ≤ (m122 a0 8) ∧ (m122 a0 8) ≤ 6 := zi_rd hIm122 hc0 zb_28_8
                            have r125 : (-2147483648) ≤ (m122 a0 4) ∧ (m122 a0 4) ≤ 2147483647 := zi_rd hIm122 hc0 zb_28_4
                            have e126 : (m122 a0 4) = 3 := (Eq.trans (zs_ne hmm122 (Or.inr (by decide))) (zs_eq hmm119))
                            exact zw_some ⟨hIm122, hFm122, hRCRm122, hRLRm122, hRNSm122, hRTRm122, hRWDm122, ⟨by omega, by omega⟩, by omega, by omega, by omega⟩
                        · exfalso; omega
                      · exfalso; omega
                    · exfalso; omega
              · refine zw_bd (zw_eq (zu_call_at (zt_T n) (zm_85 n) (zdp_85 n) _ _ _ _ _ rfl (zr_85_0 n _ _ a0 1 m49)) ?_)
                generalize hmm127 : zu_up m49 a0 4 1 = m127
                have hIm127 := zi_up hmm127 hIm49 hc0 zb_28_4 (by omega) (by omega)
                have hFm127 := zfr_up hmm127 hFm49 hc0 rfl
                have hRCRm127 := zR_CR_fr (zdis_fr (zfr_up hmm127 (zfr_rf [(28, 5)] _) hc0 rfl) rfl) hRCRm49
                have hRNSm127 := zR_NS_fr (zdis_fr (zfr_up hmm127 (zfr_rf [(28, 5)] _) hc0 rfl) rfl) hRNSm49
                have hRTRm127 := zR_TR_fr (zdis_fr (zfr_up hmm127 (zfr_rf [(28, 5)] _) hc0 rfl) rfl) hRTRm49
                have hRWDm127 := zR_WD_fr (zdis_fr (zfr_up hmm127 (zfr_rf [(28, 5)] _) hc0 rfl) rfl) hRWDm49
                have hRLRm127 := zLR_wr (zone_190 hc0) hmm127 (by decide)
                have r128 : 0 ≤ (m127 a0 10) ∧ (m127 a0 10) ≤ 700 := zi_rd hIm127 hc0 zb_28_10
                have e129 : (m127 a0 10) = (m41 a0 10) := (Eq.trans (zs_ne hmm127 (Or.inr (by decide))) (zs_ne hmm49 (Or.inr (by decide))))
                generalize hmm130 : zu_up m127 a0 5 (m127 a0 10) = m130
                have hIm130 := zi_up hmm130 hIm127 hc0 zb_28_5 (by omega) (by omega)
                have hFm130 := zfr_up hmm130 hFm127 hc0 rfl
                have hRCRm130 := zR_CR_fr (zdis_fr (zfr_up hmm130 (zfr_rf [(28, 6)] _) hc0 rfl) rfl) hRCRm127
                have hRLRm130 := zR_LR_fr (zdis_fr (zfr_up hmm130 (zfr_rf [(28, 6)] _) hc0 rfl) rfl) hRLRm127
                have hRNSm130 := zR_NS_fr (zdis_fr (zfr_up hmm130 (zfr_rf [(28, 6)] _) hc0 rfl) rfl) hRNSm127
                have hRTRm130 := zR_TR_fr (zdis_fr (zfr_up hmm130 (zfr_rf [(28, 6)] _) hc0 rfl) rfl) hRTRm127
                have hRWDm130 := zR_WD_fr (zdis_fr (zfr_up hmm130 (zfr_rf [(28, 6)] _) hc0 rfl) rfl) hRWDm127
                refine zw_b (by omega) ?_
                refine zw_some ?_
                refine zw_b (by omega) ?_
                refine zw_some ?_
                refine zw_ite (fun h131 => ?_) (fun h131 => ?_)
                · exfalso; omega
                · refine zw_b (by omega) ?_
                  refine zw_some ?_
                  refine zw_ite (fun h132 => ?_) (fun h132 => ?_)
                  · exfalso; omega
                  · refine zw_b (by omega) ?_
                    have r133 : 0 ≤ (m130 a0 7) ∧ (m130 a0 7) ≤ 700 := zi_rd hIm130 hc0 zb_28_7
                    have r134 : 0 ≤ (m130 a0 8) ∧ (m130 a0 8) ≤ 6 := zi_rd hIm130 hc0 zb_28_8
                    have e135 : (m130 a0 8) = (m49 a0 8) := (Eq.trans (zs_ne hmm130 (Or.inr (by decide))) (zs_ne hmm127 (Or.inr (by decide))))
                    have r136 : (-2147483648) ≤ (m130 a0 4) ∧ (m130 a0 4) ≤ 2147483647 := zi_rd hIm130 hc0 zb_28_4
                    have e137 : (m130 a0 4) = 1 := (Eq.trans (zs_ne hmm130 (Or.inr (by decide))) (zs_eq hmm127))
                    exact zw_some ⟨hIm130, hFm130, hRCRm130, hRLRm130, hRNSm130, hRTRm130, hRWDm130, ⟨by omega, by omega⟩, by omega, by omega, by omega⟩
            · exfalso; omega
          · exfalso; omega
    · refine zw_bd (zw_eq (zu_call_at (zt_T n) (zm_85 n) (zdp_85 n) _ _ _ _ _ rfl (zr_85_0 n _ _ a0 1 m9)) ?_)
      generalize hmm138 : zu_up m9 a0 4 1 = m138
      have hIm138 := zi_up hmm138 hIm9 hc0 zb_28_4 (by omega) (by omega)
      have hFm138 := zfr_up hmm138 hFm9 hc0 rfl
      have hRCRm138 := zR_CR_fr (zdis_fr (zfr_up hmm138 (zfr_rf [(28, 5)] _) hc0 rfl) rfl) hRCRm9
      have hRNSm138 := zR_NS_fr (zdis_fr (zfr_up hmm138 (zfr_rf [(28, 5)] _) hc0 rfl) rfl) hRNSm9
      have hRTRm138 := zR_TR_fr (zdis_fr (zfr_up hmm138 (zfr_rf [(28, 5)] _) hc0 rfl) rfl) hRTRm9
      have hRWDm138 := zR_WD_fr (zdis_fr (zfr_up hmm138 (zfr_rf [(28, 5)] _) hc0 rfl) rfl) hRWDm9
      have hRLRm138 := zLR_wr (zone_190 hc0) hmm138 (by decide)
      have r139 : 0 ≤ (m138 a0 10) ∧ (m138 a0 10) ≤ 700 := zi_rd hIm138 hc0 zb_28_10
      generalize hmm140 : zu_up m138 a0 5 (m138 a0 10) = m140
      have hIm140 := zi_up hmm140 hIm138 hc0 zb_28_5 (by omega) (by omega)
      have hFm140 := zfr_up hmm140 hFm138 hc0 rfl
      have hRCRm140 := zR_CR_fr (zdis_fr (zfr_up hmm140 (zfr_rf [(28, 6)] _) hc0 rfl) rfl) hRCRm138
      have hRLRm140 := zR_LR_fr (zdis_fr (zfr_up hmm140 (zfr_rf [(28, 6)] _) hc0 rfl) rfl) hRLRm138
      have hRNSm140 := zR_NS_fr (zdis_fr (zfr_up hmm140 (zfr_rf [(28, 6)] _) hc0 rfl) rfl) hRNSm138
      have hRTRm140 := zR_TR_fr (zdis_fr (zfr_up hmm140 (zfr_rf [(28, 6)] _) hc0 rfl) rfl) hRTRm138
      have hRWDm140 := zR_WD_fr (zdis_fr (zfr_up hmm140 (zfr_rf [(28, 6)] _) hc0 rfl) rfl) hRWDm138
      refine zw_b (by omega) ?_
      refine zw_some ?_
      refine zw_b (by omega) ?_
      refine zw_some ?_
      refine zw_ite (fun h141 => ?_) (fun h141 => ?_)
      · exfalso; omega
      · refine zw_b (by omega) ?_
        refine zw_some ?_
        refine zw_ite (fun h142 => ?_) (fun h142 => ?_)
        · exfalso; omega
        · refine zw_b (by omega) ?_
          have r143 : 0 ≤ (m140 a0 7) ∧ (m140 a0 7) ≤ 700 := zi_rd hIm140 hc0 zb_28_7
          have r144 : 0 ≤ (m140 a0 8) ∧ (m140 a0 8) ≤ 6 := zi_rd hIm140 hc0 zb_28_8
          have e145 : (m140 a0 8) = (m9 a0 8) := (Eq.trans (zs_ne hmm140 (Or.inr (by decide))) (zs_ne hmm138 (Or.inr (by decide))))
          have r146 : (-2147483648) ≤ (m140 a0 4) ∧ (m140 a0 4) ≤ 2147483647 := zi_rd hIm140 hc0 zb_28_4
          have e147 : (m140 a0 4) = 1 := (Eq.trans (zs_ne hmm140 (Or.inr (by decide))) (zs_eq hmm138))
          exact zw_some ⟨hIm140, hFm140, hRCRm140, hRLRm140, hRNSm140, hRTRm140, hRWDm140, ⟨by omega, by omega⟩, by omega, by omega, by omega⟩
  · refine zw_bd (zw_eq (zu_call_at (zt_T n) (zm_85 n) (zdp_85 n) _ _ _ _ _ rfl (zr_85_0 n _ _ a0 2 m0)) ?_)
    generalize hmm148 : zu_up m0 a0 4 2 = m148
    have hIm148 := zi_up hmm148 hIm0 hc0 zb_28_4 (by omega) (by omega)
    have hFm148 := zfr_up hmm148 hFm0 hc0 rfl
    have hRCRm148 := zR_CR_fr (zdis_fr (zfr_up hmm148 (zfr_rf [(28, 5)] _) hc0 rfl) rfl) hRCRm0
    have hRNSm148 := zR_NS_fr (zdis_fr (zfr_up hmm148 (zfr_rf [(28, 5)] _) hc0 rfl) rfl) hRNSm0
    have hRTRm148 := zR_TR_fr (zdis_fr (zfr_up hmm148 (zfr_rf [(28, 5)] _) hc0 rfl) rfl) hRTRm0
    have hRWDm148 := zR_WD_fr (zdis_fr (zfr_up hmm148 (zfr_rf [(28, 5)] _) hc0 rfl) rfl) hRWDm0
    have hRLRm148 := zLR_wr (zone_190 hc0) hmm148 (by decide)
    have r149 : 0 ≤ (m148 a0 10) ∧ (m148 a0 10) ≤ 700 := zi_rd hIm148 hc0 zb_28_10
    generalize hmm150 : zu_up m148 a0 5 (m148 a0 10) = m150
    have hIm150 := zi_up hmm150 hIm148 hc0 zb_28_5 (by omega) (by omega)
    have hFm150 := zfr_up hmm150 hFm148 hc0 rfl
    have hRCRm150 := zR_CR_fr (zdis_fr (zfr_up hmm150 (zfr_rf [(28, 6)] _) hc0 rfl) rfl) hRCRm148
    have hRLRm150 := zR_LR_fr (zdis_fr (zfr_up hmm150 (zfr_rf [(28, 6)] _) hc0 rfl) rfl) hRLRm148
    have hRNSm150 := zR_NS_fr (zdis_fr (zfr_up hmm150 (zfr_rf [(28, 6)] _) hc0 rfl) rfl) hRNSm148
    have hRTRm150 := zR_TR_fr (zdis_fr (zfr_up hmm150 (zfr_rf [(28, 6)] _) hc0 rfl) rfl) hRTRm148
    have hRWDm150 := zR_WD_fr (zdis_fr (zfr_up hmm150 (zfr_rf [(28, 6)] _) hc0 rfl) rfl) hRWDm148
    refine zw_b (by omega) ?_
    refine zw_some ?_
    refine zw_b (by omega) ?_
    have r151 : 0 ≤ (m150 a0 7) ∧ (m150 a0 7) ≤ 700 := zi_rd hIm150 hc0 zb_28_7
    have r152 : 0 ≤ (m150 a0 8) ∧ (m150 a0 8) ≤ 6 := zi_rd hIm150 hc0 zb_28_8
    have e153 : (m150 a0 8) = (m0 a0 8) := (Eq.trans (zs_ne hmm150 (Or.inr (by decide))) (zs_ne hmm148 (Or.inr (by decide))))
    have r154 : (-2147483648) ≤ (m150 a0 4) ∧ (m150 a0 4) ≤ 2147483647 := zi_rd hIm150 hc0 zb_28_4
    have e155 : (m150 a0 4) = 2 := (Eq.trans (zs_ne hmm150 (Or.inr (by decide))) (zs_eq hmm148))
    exact zw_some ⟨hIm150, hFm150, hRCRm150, hRLRm150, hRNSm150, hRTRm150, hRWDm150, ⟨by omega, by omega⟩, by omega, by omega, by omega⟩

set_option maxHeartbeats 4000000 in
theorem zk_265 (n : Nat) {a0 : Int} {m0 : zu_m} (hIm0 : zi_I m0) (hc0 : zcls a0 = 3)   (he0 : 1 ≤ m0 45 5 ∧ m0 45 5 ≤ 3)  : zw (zu_call (zt_T n) 265 [(7, a0)] m0) (fun v m => zi_I m ∧ zfr [(3, 6), (3, 7), (3, 8), (3, 9), (3, 10), (3, 11), (9, 4), (9, 5), (9, 6), (9, 7), (19, 0)] m0 m ∧ (0 ≤ v ∧ v ≤ 1)) := by
  have hFm0 : zfr [(3, 6), (3, 7), (3, 8), (3, 9), (3, 10), (3, 11), (9, 4), (9, 5), (9, 6), (9, 7), (19, 0)] m0 m0 := zfr_rf _ _
  refine zw_eq (zr_265_0 n a0 m0) ?_
  have r1 : 0 ≤ (m0 a0 5) ∧ (m0 a0 5) ≤ 16 := zi_rd hIm0 hc0 zb_3_5
  refine zw_ite (fun h2 => ?_) (fun h2 => ?_)
  · refine zw_bd (zw_eq (zr_262_0 n a0 m0) ?_)
    refine zw_b (by omega) ?_
    generalize hmm3 : zu_up m0 a0 6 1 = m3
    have hIm3 := zi_up hmm3 hIm0 hc0 zb_3_6 (by omega) (by omega)
    have hFm3 := zfr_up hmm3 hFm0 hc0 rfl
    have r4 : 1 ≤ (m3 6 0) ∧ (m3 6 0) ≤ 8 := zi_rd hIm3 zq_6 zb_4_0
    have w5 := zu_w32_id (z := (m3 6 0) - 1) (by omega) (by omega)
    refine zw_bd (zw_eq (zr_260_0 n a0 0 (zu_w32 ((m3 6 0) - 1)) m3) ?_)
    refine zw_bd (zw_mono (zk_18 n hIm3 zq_45) (fun v7 m6 hqm6 => ?_))
    obtain ⟨hIm6, hfm6, hvm6⟩ := hqm6
    have hFm6 := zfr_tr hFm3 hfm6 rfl
    have r8 : 0 ≤ (m6 45 4) ∧ (m6 45 4) ≤ 5 := zi_rd hIm6 zq_45 zb_9_4
    refine zw_ite (fun h9 => ?_) (fun h9 => ?_)
    · have r10 : (-2147483648) ≤ (m6 45 5) ∧ (m6 45 5) ≤ 2147483647 := zi_rd hIm6 zq_45 zb_9_5
      generalize hmm11 : zu_up m6 a0 7 (m6 45 5) = m11
      have hIm11 := zi_up hmm11 hIm6 hc0 zb_3_7 (by omega) (by omega)
      have hFm11 := zfr_up hmm11 hFm6 hc0 rfl
      have r12 : (-2147483648) ≤ (m11 a0 7) ∧ (m11 a0 7) ≤ 2147483647 := zi_rd hIm11 hc0 zb_3_7
      have e13 : (m11 a0 7) = (m6 45 5) := (zs_eq hmm11)
      refine zw_ite (fun h14 => ?_) (fun h14 => ?_)
      · refine zw_bd (zw_eq (zr_257_0 n a0 2 m11) ?_)
        generalize hmm15 : zu_up m11 a0 9 2 = m15
        have hIm15 := zi_up hmm15 hIm11 hc0 zb_3_9 (by omega) (by omega)
        have hFm15 := zfr_up hmm15 hFm11 hc0 rfl
        have r16 : 0 ≤ (m15 45 6) ∧ (m15 45 6) ≤ 700 := zi_rd hIm15 zq_45 zb_9_6
        generalize hmm17 : zu_up m15 a0 10 (m15 45 6) = m17
        have hIm17 := zi_up hmm17 hIm15 hc0 zb_3_10 (by omega) (by omega)
        have hFm17 := zfr_up hmm17 hFm15 hc0 rfl
        refine zw_b (by omega) ?_
        refine zw_some ?_
        refine zw_ite (fun h18 => ?_) (fun h18 => ?_)
        · refine zw_b (by omega) ?_
          refine zw_some ?_
          refine zw_ite (fun h19 => ?_) (fun h19 => ?_)
          · exfalso; omega
          · refine zw_b (by omega) ?_
            refine zw_some ?_
            refine zw_ite (fun h20 => ?_) (fun h20 => ?_)
            · exfalso; omega
            · refine zw_b (by omega) ?_
              exact zw_some ⟨hIm17, hFm17, ⟨by omega, by omega⟩⟩
        · exfalso; omega
      · refine zw_ite (fun h21 => ?_) (fun h21 => ?_)
        · refine zw_b (by omega) ?_
          refine zw_some ?_
          refine zw_ite (fun h22 => ?_) (fun h22 => ?_)
          · have r23 : 1 ≤ (m11 6 1) ∧ (m11 6 1) ≤ 6 := zi_rd hIm11 zq_6 zb_4_1
            have w24 := zu_w32_id (z := (m11 6 1) - 1) (by omega) (by omega)
            refine zw_bd (zw_eq (zr_260_0 n a0 0 (zu_w32 ((m11 6 1) - 1)) m11) ?_)
            refine zw_bd (zw_mono (zk_18 n hIm11 zq_45) (fun v26 m25 hqm25 => ?_))
            obtain ⟨hIm25, hfm25, hvm25⟩ := hqm25
            have hFm25 := zfr_tr hFm11 hfm25 rfl
            have r27 : 0 ≤ (m25 45 4) ∧ (m25 45 4) ≤ 5 := zi_rd hIm25 zq_45 zb_9_4
            refine zw_ite (fun h28 => ?_) (fun h28 => ?_)
            · have r29 : (-2147483648) ≤ (m25 45 5) ∧ (m25 45 5) ≤ 2147483647 := zi_rd hIm25 zq_45 zb_9_5
              generalize hmm30 : zu_up m25 a0 7 (m25 45 5) = m30
              have hIm30 := zi_up hmm30 hIm25 hc0 zb_3_7 (by omega) (by omega)
              have hFm30 := zfr_up hmm30 hFm25 hc0 rfl
              have r31 : (-2147483648) ≤ (m30 a0 7) ∧ (m30 a0 7) ≤ 2147483647 := zi_rd hIm30 hc0 zb_3_7
              have e32 : (m30 a0 7) = (m25 45 5) := (zs_eq hmm30)
              refine zw_ite (fun h33 => ?_) (fun h33 => ?_)
              · refine zw_bd (zw_eq (zr_257_0 n a0 2 m30) ?_)
                generalize hmm34 : zu_up m30 a0 9 2 = m34
                have hIm34 := zi_up hmm34 hIm30 hc0 zb_3_9 (by omega) (by omega)
                have hFm34 := zfr_up hmm34 hFm30 hc0 rfl
                have r35 : 0 ≤ (m34 45 6) ∧ (m34 45 6) ≤ 700 := zi_rd hIm34 zq_45 zb_9_6
                generalize hmm36 : zu_up m34 a0 10 (m34 45 6) = m36
                have hIm36 := zi_up hmm36 hIm34 hc0 zb_3_10 (by omega) (by omega)
                have hFm36 := zfr_up hmm36 hFm34 hc0 rfl
                refine zw_b (by omega) ?_
                refine zw_some ?_
                refine zw_ite (fun h37 => ?_) (fun h37 => ?_)
                · refine zw_b (by omega) ?_
                  refine zw_some ?_
                  refine zw_ite (fun h38 => ?_) (fun h38 => ?_)
                  · exfalso; omega
                  · refine zw_b (by omega) ?_
                    refine zw_some ?_
                    refine zw_ite (fun h39 => ?_) (fun h39 => ?_)
                    · exfalso; omega
                    · refine zw_b (by omega) ?_
                      exact zw_some ⟨hIm36, hFm36, ⟨by omega, by omega⟩⟩
                · exfalso; omega
              · refine zw_ite (fun h40 => ?_) (fun h40 => ?_)
                · refine zw_b (by omega) ?_
                  refine zw_some ?_
                  refine zw_ite (fun h41 => ?_) (fun h41 => ?_)
                  · have r42 : 1 ≤ (m30 6 0) ∧ (m30 6 0) ≤ 8 := zi_rd hIm30 zq_6 zb_4_0
                    have e43 : (m30 6 0) = (m3 6 0) := (Eq.trans (zs_ne hmm30 (Or.inl (zc_ne zq_6 hc0 (by decide)))) (Eq.trans (zfr_ap hfm25 zq_6 rfl) (Eq.trans (zs_ne hmm11 (Or.inl (zc_ne zq_6 hc0 (by decide)))) (zfr_ap hfm6 zq_6 rfl))))
                    have p44 := zmul_bd (x := (m30 a0 7)) (y := (m30 6 0)) (a := 0) (b := 1) (A := 5) (B := 8) (by omega) (by omega) (by omega) (by omega) (by omega) (by omega)
                    have w45 := zu_w32_id (z := (m30 a0 7) * (m30 6 0)) (by omega) (by omega)
                    have w46 := zu_w32_id (z := (zu_w32 ((m30 a0 7) * (m30 6 0))) + (m11 a0 7)) (by omega) (by omega)
                    generalize hmm47 : zu_up m30 a0 8 (zu_w32 ((zu_w32 ((m30 a0 7) * (m30 6 0))) + (m11 a0 7))) = m47
                    have hIm47 := zi_up hmm47 hIm30 hc0 zb_3_8 (by omega) (by omega)
                    have hFm47 := zfr_up hmm47 hFm30 hc0 rfl
                    refine zw_b (by omega) ?_
                    refine zw_some ?_
                    refine zw_ite (fun h48 => ?_) (fun h48 => ?_)
                    · have r49 : 0 ≤ (m47 a0 8) ∧ (m47 a0 8) ≤ 47 := zi_rd hIm47 hc0 zb_3_8
                      have e50 : (m47 a0 8) = (zu_w32 ((zu_w32 ((m30 a0 7) * (m30 6 0))) + (m11 a0 7))) := (zs_eq hmm47)
                      have b51 : 0 ≤ (m47 a0 8) ∧ (m47 a0 8) < 48 := by omega
                      refine zw_if b51 ?_
                      have r52 : 0 ≤ (m47 (6 + 3) (m47 a0 8)) ∧ (m47 (6 + 3) (m47 a0 8)) ≤ 3 := zi_rd hIm47 (zc_4_8 zq_6) (zb_19 _)
                      refine zw_ite (fun h53 => ?_) (fun h53 => ?_)
                      · have b54 : 0 ≤ (m47 a0 8) ∧ (m47 a0 8) < 48 := by omega
                        refine zw_if b54 ?_
                        generalize hmm55 : zu_up m47 (6 + 3) (m47 a0 8) (m0 45 5) = m55
                        have hIm55 := zi_up hmm55 hIm47 (zc_4_8 zq_6) (zb_19 _) (by omega) (by omega)
                        have hFm55 := zfr_up hmm55 hFm47 (zc_4_8 zq_6) rfl
                        have r56 : 0 ≤ (m55 a0 5) ∧ (m55 a0 5) ≤ 16 := zi_rd hIm55 hc0 zb_3_5
                        have e57 : (m55 a0 5) = (m0 a0 5) := (Eq.trans (zs_ne hmm55 (Or.inl (zc_ne hc0 (zc_4_8 zq_6) (by decide)))) (Eq.trans (zs_ne hmm47 (Or.inr (by decide))) (Eq.trans (zs_ne hmm30 (Or.inr (by decide))) (Eq.trans (zfr_ap hfm25 hc0 rfl) (Eq.trans (zs_ne hmm11 (Or.inr (by decide))) (Eq.trans (zfr_ap hfm6 hc0 rfl) (zs_ne hmm3 (Or.inr (by decide)))))))))
                        have w58 := zu_w32_id (z := (m55 a0 5) + 1) (by omega) (by omega)
                        generalize hmm59 : zu_up m55 a0 5 (zu_w32 ((m55 a0 5) + 1)) = m59
                        have hIm59 := zi_up hmm59 hIm55 hc0 zb_3_5 (by omega) (by omega)
                        have hFm59 := zfr_up hmm59 hFm55 hc0 rfl
                        refine zw_b (by omega) ?_
                        exact zw_some ⟨hIm59, hFm59, ⟨by omega, by omega⟩⟩
                      · refine zw_bd (zw_eq (zr_257_0 n a0 3 m47) ?_)
                        generalize hmm60 : zu_up m47 a0 9 3 = m60
                        have hIm60 := zi_up hmm60 hIm47 hc0 zb_3_9 (by omega) (by omega)
                        have hFm60 := zfr_up hmm60 hFm47 hc0 rfl
                        have r61 : 0 ≤ (m60 45 6) ∧ (m60 45 6) ≤ 700 := zi_rd hIm60 zq_45 zb_9_6
                        generalize hmm62 : zu_up m60 a0 10 (m60 45 6) = m62
                        have hIm62 := zi_up hmm62 hIm60 hc0 zb_3_10 (by omega) (by omega)
                        have hFm62 := zfr_up hmm62 hFm60 hc0 rfl
                        refine zw_b (by omega) ?_
                        refine zw_some ?_
                        refine zw_b (by omega) ?_
                        exact zw_some ⟨hIm62, hFm62, ⟨by omega, by omega⟩⟩
                    · exfalso; omega
                  · exfalso; omega
                · refine zw_bd (zw_eq (zr_257_0 n a0 2 m30) ?_)
                  generalize hmm63 : zu_up m30 a0 9 2 = m63
                  have hIm63 := zi_up hmm63 hIm30 hc0 zb_3_9 (by omega) (by omega)
                  have hFm63 := zfr_up hmm63 hFm30 hc0 rfl
                  have r64 : 0 ≤ (m63 45 6) ∧ (m63 45 6) ≤ 700 := zi_rd hIm63 zq_45 zb_9_6
                  generalize hmm65 : zu_up m63 a0 10 (m63 45 6) = m65
                  have hIm65 := zi_up hmm65 hIm63 hc0 zb_3_10 (by omega) (by omega)
                  have hFm65 := zfr_up hmm65 hFm63 hc0 rfl
                  refine zw_b (by omega) ?_
                  refine zw_some ?_
                  refine zw_ite (fun h66 => ?_) (fun h66 => ?_)
                  · refine zw_b (by omega) ?_
                    refine zw_some ?_
                    refine zw_ite (fun h67 => ?_) (fun h67 => ?_)
                    · exfalso; omega
                    · refine zw_b (by omega) ?_
                      refine zw_some ?_
                      refine zw_ite (fun h68 => ?_) (fun h68 => ?_)
                      · exfalso; omega
                      · refine zw_b (by omega) ?_
                        exact zw_some ⟨hIm65, hFm65, ⟨by omega, by omega⟩⟩
                  · exfalso; omega
            · refine zw_bd (zw_eq (zr_257_0 n a0 1 m25) ?_)
              generalize hmm69 : zu_up m25 a0 9 1 = m69
              have hIm69 := zi_up hmm69 hIm25 hc0 zb_3_9 (by omega) (by omega)
              have hFm69 := zfr_up hmm69 hFm25 hc0 rfl
              have r70 : 0 ≤ (m69 45 6) ∧ (m69 45 6) ≤ 700 := zi_rd hIm69 zq_45 zb_9_6
              generalize hmm71 : zu_up m69 a0 10 (m69 45 6) = m71
              have hIm71 := zi_up hmm71 hIm69 hc0 zb_3_10 (by omega) (by omega)
              have hFm71 := zfr_up hmm71 hFm69 hc0 rfl
              refine zw_b (by omega) ?_
              refine zw_some ?_
              refine zw_b (by omega) ?_
              refine zw_some ?_
              refine zw_ite (fun h72 => ?_) (fun h72 => ?_)
              · exfalso; omega
              · refine zw_b (by omega) ?_
                refine zw_some ?_
                refine zw_ite (fun h73 => ?_) (fun h73 => ?_)
                · exfalso; omega
                · refine zw_b (by omega) ?_
                  exact zw_some ⟨hIm71, hFm71, ⟨by omega, by omega⟩⟩
          · exfalso; omega
        · refine zw_bd (zw_eq (zr_257_0 n a0 2 m11) ?_)
          generalize hmm74 : zu_up m11 a0 9 2 = m74
          have hIm74 := zi_up hmm74 hIm11 hc0 zb_3_9 (by omega) (by omega)
          have hFm74 := zfr_up hmm74 hFm11 hc0 rfl
          have r75 : 0 ≤ (m74 45 6) ∧ (m74 45 6) ≤ 700 := zi_rd hIm74 zq_45 zb_9_6
          generalize hmm76 : zu_up m74 a0 10 (m74 45 6) = m76
          have hIm76 := zi_up hmm76 hIm74 hc0 zb_3_10 (by omega) (by omega)
          have hFm76 := zfr_up hmm76 hFm74 hc0 rfl
          refine zw_b (by omega) ?_
          refine zw_some ?_
          refine zw_ite (fun h77 => ?_) (fun h77 => ?_)
          · refine zw_b (by omega) ?_
            refine zw_some ?_
            refine zw_ite (fun h78 => ?_) (fun h78 => ?_)
            · exfalso; omega
            · refine zw_b (by omega) ?_
              refine zw_some ?_
              refine zw_ite (fun h79 => ?_) (fun h79 => ?_)
              · exfalso; omega
              · refine zw_b (by omega) ?_
                exact zw_some ⟨hIm76, hFm76, ⟨by omega, by omega⟩⟩
          · exfalso; omega
    · refine zw_bd (zw_eq (zr_257_0 n a0 1 m6) ?_)
      generalize hmm80 : zu_up m6 a0 9 1 = m80
      have hIm80 := zi_up hmm80 hIm6 hc0 zb_3_9 (by omega) (by omega)
      have hFm80 := zfr_up hmm80 hFm6 hc0 rfl
      have r81 : 0 ≤ (m80 45 6) ∧ (m80 45 6) ≤ 700 := zi_rd hIm80 zq_45 zb_9_6
      generalize hmm82 : zu_up m80 a0 10 (m80 45 6) = m82
      have hIm82 := zi_up hmm82 hIm80 hc0 zb_3_10 (by omega) (by omega)
      have hFm82 := zfr_up hmm82 hFm80 hc0 rfl
      refine zw_b (by omega) ?_
      refine zw_some ?_
      refine zw_b (by omega) ?_
      refine zw_some ?_
      refine zw_ite (fun h83 => ?_) (fun h83 => ?_)
      · exfalso; omega
      · refine zw_b (by omega) ?_
        refine zw_some ?_
        refine zw_ite (fun h84 => ?_) (fun h84 => ?_)
        · exfalso; omega
        · refine zw_b (by omega) ?_
          exact zw_some ⟨hIm82, hFm82, ⟨by omega, by omega⟩⟩
  · refine zw_bd (zw_eq (zr_257_0 n a0 2 m0) ?_)
    generalize hmm85 : zu_up m0 a0 9 2 = m85
    have hIm85 := zi_up hmm85 hIm0 hc0 zb_3_9 (by omega) (by omega)
    have hFm85 := zfr_up hmm85 hFm0 hc0 rfl
    have r86 : 0 ≤ (m85 45 6) ∧ (m85 45 6) ≤ 700 := zi_rd hIm85 zq_45 zb_9_6
    generalize hmm87 : zu_up m85 a0 10 (m85 45 6) = m87
    have hIm87 := zi_up hmm87 hIm85 hc0 zb_3_10 (by omega) (by omega)
    have hFm87 := zfr_up hmm87 hFm85 hc0 rfl
    refine zw_b (by omega) ?_
    refine zw_some ?_
    refine zw_b (by omega) ?_
    exact zw_some ⟨hIm87, hFm87, ⟨by omega, by omega⟩⟩
set_option maxHeartbeats 4000000 in
theorem zk_266 (n : Nat) {a0 : Int} {m0 : zu_m} (hIm0 : zi_I m0) (hc0 : zcls a0 = 3)   (he0 : 1 ≤ m0 45 4 ∧ m0 45 4 ≤ 1) (he1 : 4 ≤ m0 45 5 ∧ m0 45 5 ≤ 4)  : zw (zu_call (zt_T n) 266 [(7, a0)] m0) (fun v m => zi_I m ∧ zfr [(3, 7), (3, 8), (3, 9), (3, 10), (3, 11), (6, 3), (7, 1), (7, 2), (7, 3), (7, 4), (9, 4), (9, 5), (9, 6), (9, 7)] m0 m ∧ (0 ≤ v ∧ v ≤ 1)) := by
  have hFm0 : zfr [(3, 7), (3, 8), (3, 9), (3, 10), (3, 11), (6, 3), (7, 1), (7, 2), (7, 3), (7, 4), (9, 4), (9, 5), (9, 6), (9, 7)] m0 m0 := zfr_rf _ _
  refine zw_eq (zr_266_0 n a0 m0) ?_
  have r1 : 0 ≤ (m0 19 2) ∧ (m0 19 2) ≤ 16 := zi_rd hIm0 zq_19 zb_6_2
  refine zw_ite (fun h2 => ?_) (fun h2 => ?_)
  · refine zw_bd (zw_eq (zr_261_0 n a0 12 4 m0) ?_)
    refine zw_bd (zw_mono (zk_18 n hIm0 zq_45) (fun v4 m3 hqm3 => ?_))
    obtain ⟨hIm3, hfm3, hvm3⟩ := hqm3
    have hFm3 := zfr_tr hFm0 hfm3 rfl
    refine zw_bd (zw_eq (zr_279_0 n 45 12 4 m3) ?_)
    have r5 : 0 ≤ (m3 45 4) ∧ (m3 45 4) ≤ 5 := zi_rd hIm3 zq_45 zb_9_4
    refine zw_ite (fun h6 => ?_) (fun h6 => ?_)
    · refine zw_b (by omega) ?_
      refine zw_some ?_
      refine zw_ite (fun h7 => ?_) (fun h7 => ?_)
      · exfalso; omega
      · refine zw_bd (zw_eq (zr_257_0 n a0 1 m3) ?_)
        generalize hmm8 : zu_up m3 a0 9 1 = m8
        have hIm8 := zi_up hmm8 hIm3 hc0 zb_3_9 (by omega) (by omega)
        have hFm8 := zfr_up hmm8 hFm3 hc0 rfl
        have r9 : 0 ≤ (m8 45 6) ∧ (m8 45 6) ≤ 700 := zi_rd hIm8 zq_45 zb_9_6
        generalize hmm10 : zu_up m8 a0 10 (m8 45 6) = m10
        have hIm10 := zi_up hmm10 hIm8 hc0 zb_3_10 (by omega) (by omega)
        have hFm10 := zfr_up hmm10 hFm8 hc0 rfl
        refine zw_b (by omega) ?_
        refine zw_some ?_
        refine zw_b (by omega) ?_
        refine zw_some ?_
        refine zw_ite (fun h11 => ?_) (fun h11 => ?_)
        · exfalso; omega
        · refine zw_b (by omega) ?_
          exact zw_some ⟨hIm10, hFm10, ⟨by omega, by omega⟩⟩
    · have r12 : (-2147483648) ≤ (m3 45 5) ∧ (m3 45 5) ≤ 2147483647 := zi_rd hIm3 zq_45 zb_9_5
      refine zw_ite (fun h13 => ?_) (fun h13 => ?_)
      · refine zw_b (by omega) ?_
        refine zw_some ?_
        refine zw_ite (fun h14 => ?_) (fun h14 => ?_)
        · exfalso; omega
        · refine zw_bd (zw_eq (zr_257_0 n a0 1 m3) ?_)
          generalize hmm15 : zu_up m3 a0 9 1 = m15
          have hIm15 := zi_up hmm15 hIm3 hc0 zb_3_9 (by omega) (by omega)
          have hFm15 := zfr_up hmm15 hFm3 hc0 rfl
          have r16 : 0 ≤ (m15 45 6) ∧ (m15 45 6) ≤ 700 := zi_rd hIm15 zq_45 zb_9_6
          generalize hmm17 : zu_up m15 a0 10 (m15 45 6) = m17
          have hIm17 := zi_up hmm17 hIm15 hc0 zb_3_10 (by omega) (by omega)
          have hFm17 := zfr_up hmm17 hFm15 hc0 rfl
          refine zw_b (by omega) ?_
          refine zw_some ?_
          refine zw_b (by omega) ?_
          refine zw_some ?_
          refine zw_ite (fun h18 => ?_) (fun h18 => ?_)
          · exfalso; omega
          · refine zw_b (by omega) ?_
            exact zw_some ⟨hIm17, hFm17, ⟨by omega, by omega⟩⟩
      · have w19 := zu_w32_id (z := 12 + 4) (by omega) (by omega)
        refine zw_ite (fun h20 => ?_) (fun h20 => ?_)
        · refine zw_b (by omega) ?_
          refine zw_some ?_
          refine zw_ite (fun h21 => ?_) (fun h21 => ?_)
          · exfalso; omega
          · refine zw_bd (zw_eq (zr_257_0 n a0 1 m3) ?_)
            generalize hmm22 : zu_up m3 a0 9 1 = m22
            have hIm22 := zi_up hmm22 hIm3 hc0 zb_3_9 (by omega) (by omega)
            have hFm22 := zfr_up hmm22 hFm3 hc0 rfl
            have r23 : 0 ≤ (m22 45 6) ∧ (m22 45 6) ≤ 700 := zi_rd hIm22 zq_45 zb_9_6
            generalize hmm24 : zu_up m22 a0 10 (m22 45 6) = m24
            have hIm24 := zi_up hmm24 hIm22 hc0 zb_3_10 (by omega) (by omega)
            have hFm24 := zfr_up hmm24 hFm22 hc0 rfl
            refine zw_b (by omega) ?_
            refine zw_some ?_
            refine zw_b (by omega) ?_
            refine zw_some ?_
            refine zw_ite (fun h25 => ?_) (fun h25 => ?_)
            · exfalso; omega
            · refine zw_b (by omega) ?_
              exact zw_some ⟨hIm24, hFm24, ⟨by omega, by omega⟩⟩
        · refine zw_b (by omega) ?_
          refine zw_some ?_
          refine zw_ite (fun h26 => ?_) (fun h26 => ?_)
          · have w27 := zu_w32_id (z := (m3 45 5) - 12) (by omega) (by omega)
            generalize hmm28 : zu_up m3 a0 7 (zu_w32 ((m3 45 5) - 12)) = m28
            have hIm28 := zi_up hmm28 hIm3 hc0 zb_3_7 (by omega) (by omega)
            have hFm28 := zfr_up hmm28 hFm3 hc0 rfl
            refine zw_b (by omega) ?_
            refine zw_some ?_
            refine zw_ite (fun h29 => ?_) (fun h29 => ?_)
            · have r30 : (-2147483648) ≤ (m28 a0 7) ∧ (m28 a0 7) ≤ 2147483647 := zi_rd hIm28 hc0 zb_3_7
              have e31 : (m28 a0 7) = (zu_w32 ((m3 45 5) - 12)) := (zs_eq hmm28)
              refine zw_bd (zw_eq (zr_262_0 n a0 m28) ?_)
              refine zw_b (by omega) ?_
              generalize hmm32 : zu_up m28 a0 6 1 = m32
              have hIm32 := zi_up hmm32 hIm28 hc0 zb_3_6 (by omega) (by omega)
              have hFm32 := zfr_up hmm32 hFm28 hc0 rfl
              have r33 : 1 ≤ (m32 6 0) ∧ (m32 6 0) ≤ 8 := zi_rd hIm32 zq_6 zb_4_0
              have w34 := zu_w32_id (z := (m32 6 0) - 1) (by omega) (by omega)
              refine zw_bd (zw_eq (zr_260_0 n a0 0 (zu_w32 ((m32 6 0) - 1)) m32) ?_)
              refine zw_bd (zw_mono (zk_18 n hIm32 zq_45) (fun v36 m35 hqm35 => ?_))
              obtain ⟨hIm35, hfm35, hvm35⟩ := hqm35
              have hFm35 := zfr_tr hFm32 hfm35 rfl
              have r37 : 0 ≤ (m35 45 4) ∧ (m35 45 4) ≤ 5 := zi_rd hIm35 zq_45 zb_9_4
              refine zw_ite (fun h38 => ?_) (fun h38 => ?_)
              · have r39 : (-2147483648) ≤ (m35 45 5) ∧ (m35 45 5) ≤ 2147483647 := zi_rd hIm35 zq_45 zb_9_5
                generalize hmm40 : zu_up m35 a0 7 (m35 45 5) = m40
                have hIm40 := zi_up hmm40 hIm35 hc0 zb_3_7 (by omega) (by omega)
                have hFm40 := zfr_up hmm40 hFm35 hc0 rfl
                have r41 : (-2147483648) ≤ (m40 a0 7) ∧ (m40 a0 7) ≤ 2147483647 := zi_rd hIm40 hc0 zb_3_7
                have e42 : (m40 a0 7) = (m35 45 5) := (zs_eq hmm40)
                refine zw_ite (fun h43 => ?_) (fun h43 => ?_)
                · refine zw_bd (zw_eq (zr_257_0 n a0 2 m40) ?_)
                  generalize hmm44 : zu_up m40 a0 9 2 = m44
                  have hIm44 := zi_up hmm44 hIm40 hc0 zb_3_9 (by omega) (by omega)
                  have hFm44 := zfr_up hmm44 hFm40 hc0 rfl
                  have r45 : 0 ≤ (m44 45 6) ∧ (m44 45 6) ≤ 700 := zi_rd hIm44 zq_45 zb_9_6
                  generalize hmm46 : zu_up m44 a0 10 (m44 45 6) = m46
                  have hIm46 := zi_up hmm46 hIm44 hc0 zb_3_10 (by omega) (by omega)
                  have hFm46 := zfr_up hmm46 hFm44 hc0 rfl
                  refine zw_b (by omega) ?_
                  refine zw_some ?_
                  refine zw_ite (fun h47 => ?_) (fun h47 => ?_)
                  · refine zw_b (by omega) ?_
                    refine zw_some ?_
                    refine zw_ite (fun h48 => ?_) (fun h48 => ?_)
                    · exfalso; omega
                    · refine zw_b (by omega) ?_
                      refine zw_some ?_
                      refine zw_ite (fun h49 => ?_) (fun h49 => ?_)
                      · refine zw_b (by omega) ?_
                        exact zw_some ⟨hIm46, hFm46, ⟨by omega, by omega⟩⟩
                      · exfalso; omega
                  · exfalso; omega
                · refine zw_ite (fun h50 => ?_) (fun h50 => ?_)
                  · refine zw_b (by omega) ?_
                    refine zw_some ?_
                    refine zw_ite (fun h51 => ?_) (fun h51 => ?_)
                    · have r52 : 1 ≤ (m40 6 1) ∧ (m40 6 1) ≤ 6 := zi_rd hIm40 zq_6 zb_4_1
                      have w53 := zu_w32_id (z := (m40 6 1) - 1) (by omega) (by omega)
                      refine zw_bd (zw_eq (zr_260_0 n a0 0 (zu_w32 ((m40 6 1) - 1)) m40) ?_)
                      refine zw_bd (zw_mono (zk_18 n hIm40 zq_45) (fun v55 m54 hqm54 => ?_))
                      obtain ⟨hIm54, hfm54, hvm54⟩ := hqm54
                      have hFm54 := zfr_tr hFm40 hfm54 rfl
                      have r56 : 0 ≤ (m54 45 4) ∧ (m54 45 4) ≤ 5 := zi_rd hIm54 zq_45 zb_9_4
                      refine zw_ite (fun h57 => ?_) (fun h57 => ?_)
                      · have r58 : (-2147483648) ≤ (m54 45 5) ∧ (m54 45 5) ≤ 2147483647 := zi_rd hIm54 zq_45 zb_9_5
                        generalize hmm59 : zu_up m54 a0 7 (m54 45 5) = m59
                        have hIm59 := zi_up hmm59 hIm54 hc0 zb_3_7 (by omega) (by omega)
                        have hFm59 := zfr_up hmm59 hFm54 hc0 rfl
                        have r60 : (-2147483648) ≤ (m59 a0 7) ∧ (m59 a0 7) ≤ 2147483647 := zi_rd hIm59 hc0 zb_3_7
                        have e61 : (m59 a0 7) = (m54 45 5) := (zs_eq hmm59)
                        refine zw_ite (fun h62 => ?_) (fun h62 => ?_)
                        · refine zw_bd (zw_eq (zr_257_0 n a0 2 m59) ?_)
                          generalize hmm63 : zu_up m59 a0 9 2 = m63
                          have hIm63 := zi_up hmm63 hIm59 hc0 zb_3_9 (by omega) (by omega)
                          have hFm63 := zfr_up hmm63 hFm59 hc0 rfl
                          have r64 : 0 ≤ (m63 45 6) ∧ (m63 45 6) ≤ 700 := zi_rd hIm63 zq_45 zb_9_6
                          generalize hmm65 : zu_up m63 a0 10 (m63 45 6) = m65
                          have hIm65 := zi_up hmm65 hIm63 hc0 zb_3_10 (by omega) (by omega)
                          have hFm65 := zfr_up hmm65 hFm63 hc0 rfl
                          refine zw_b (by omega) ?_
                          refine zw_some ?_
                          refine zw_ite (fun h66 => ?_) (fun h66 => ?_)
                          · refine zw_b (by omega) ?_
                            refine zw_some ?_
                            refine zw_ite (fun h67 => ?_) (fun h67 => ?_)
                            · exfalso; omega
                            · refine zw_b (by omega) ?_
                              refine zw_some ?_
                              refine zw_ite (fun h68 => ?_) (fun h68 => ?_)
                              · refine zw_b (by omega) ?_
                                exact zw_some ⟨hIm65, hFm65, ⟨by omega, by omega⟩⟩
                              · exfalso; omega
                          · exfalso; omega
                        · refine zw_ite (fun h69 => ?_) (fun h69 => ?_)
                          · refine zw_b (by omega) ?_
                            refine zw_some ?_
                            refine zw_ite (fun h70 => ?_) (fun h70 => ?_)
                            · have r71 : 1 ≤ (m59 6 0) ∧ (m59 6 0) ≤ 8 := zi_rd hIm59 zq_6 zb_4_0
                              have e72 : (m59 6 0) = (m32 6 0) := (Eq.trans (zs_ne hmm59 (Or.inl (zc_ne zq_6 hc0 (by decide)))) (Eq.trans (zfr_ap hfm54 zq_6 rfl) (Eq.trans (zs_ne hmm40 (Or.inl (zc_ne zq_6 hc0 (by decide)))) (zfr_ap hfm35 zq_6 rfl))))
                              have p73 := zmul_bd (x := (m59 a0 7)) (y := (m59 6 0)) (a := 0) (b := 1) (A := 5) (B := 8) (by omega) (by omega) (by omega) (by omega) (by omega) (by omega)
                              have w74 := zu_w32_id (z := (m59 a0 7) * (m59 6 0)) (by omega) (by omega)
                              have w75 := zu_w32_id (z := (zu_w32 ((m59 a0 7) * (m59 6 0))) + (m40 a0 7)) (by omega) (by omega)
                              generalize hmm76 : zu_up m59 a0 8 (zu_w32 ((zu_w32 ((m59 a0 7) * (m59 6 0))) + (m40 a0 7))) = m76
                              have hIm76 := zi_up hmm76 hIm59 hc0 zb_3_8 (by omega) (by omega)
                              have hFm76 := zfr_up hmm76 hFm59 hc0 rfl
                              refine zw_b (by omega) ?_
                              refine zw_some ?_
                              refine zw_ite (fun h77 => ?_) (fun h77 => ?_)
                              · exfalso; omega
                              · refine zw_bd (zw_eq (zr_260_0 n a0 0 9 m76) ?_)
                                refine zw_bd (zw_mono (zk_18 n hIm76 zq_45) (fun v79 m78 hqm78 => ?_))
                                obtain ⟨hIm78, hfm78, hvm78⟩ := hqm78
                                have hFm78 := zfr_tr hFm76 hfm78 rfl
                                have r80 : 0 ≤ (m78 45 4) ∧ (m78 45 4) ≤ 5 := zi_rd hIm78 zq_45 zb_9_4
                                refine zw_ite (fun h81 => ?_) (fun h81 => ?_)
                                · have r82 : (-2147483648) ≤ (m78 45 5) ∧ (m78 45 5) ≤ 2147483647 := zi_rd hIm78 zq_45 zb_9_5
                                  generalize hmm83 : zu_up m78 a0 7 (m78 45 5) = m83
                                  have hIm83 := zi_up hmm83 hIm78 hc0 zb_3_7 (by omega) (by omega)
                                  have hFm83 := zfr_up hmm83 hFm78 hc0 rfl
                                  have r84 : (-2147483648) ≤ (m83 a0 7) ∧ (m83 a0 7) ≤ 2147483647 := zi_rd hIm83 hc0 zb_3_7
                                  have e85 : (m83 a0 7) = (m78 45 5) := (zs_eq hmm83)
                                  refine zw_ite (fun h86 => ?_) (fun h86 => ?_)
                                  · refine zw_bd (zw_eq (zr_257_0 n a0 2 m83) ?_)
                                    generalize hmm87 : zu_up m83 a0 9 2 = m87
                                    have hIm87 := zi_up hmm87 hIm83 hc0 zb_3_9 (by omega) (by omega)
                                    have hFm87 := zfr_up hmm87 hFm83 hc0 rfl
                                    have r88 : 0 ≤ (m87 45 6) ∧ (m87 45 6) ≤ 700 := zi_rd hIm87 zq_45 zb_9_6
                                    generalize hmm89 : zu_up m87 a0 10 (m87 45 6) = m89
                                    have hIm89 := zi_up hmm89 hIm87 hc0 zb_3_10 (by omega) (by omega)
                                    have hFm89 := zfr_up hmm89 hFm87 hc0 rfl
                                    refine zw_b (by omega) ?_
                                    refine zw_some ?_
                                    refine zw_ite (fun h90 => ?_) (fun h90 => ?_)
                                    · refine zw_b (by omega) ?_
                                      refine zw_some ?_
                                      refine zw_ite (fun h91 => ?_) (fun h91 => ?_)
                                      · exfalso; omega
                                      · refine zw_b (by omega) ?_
                                        exact zw_some ⟨hIm89, hFm89, ⟨by omega, by omega⟩⟩
                                    · exfalso; omega
                                  · refine zw_ite (fun h92 => ?_) (fun h92 => ?_)
                                    · refine zw_b (by omega) ?_
                                      refine zw_some ?_
                                      refine zw_ite (fun h93 => ?_) (fun h93 => ?_)
                                      · have r94 : 0 ≤ (m83 a0 8) ∧ (m83 a0 8) ≤ 47 := zi_rd hIm83 hc0 zb_3_8
                                        have e95 : (m83 a0 8) = (zu_w32 ((zu_w32 ((m59 a0 7) * (m59 6 0))) + (m40 a0 7))) := (Eq.trans (zs_ne hmm83 (Or.inr (by decide))) (Eq.trans (zfr_ap hfm78 hc0 rfl) (zs_eq hmm76)))
                                        refine zw_bd (zw_eq (zr_213b_0 n 19 (m83 a0 8) (m28 a0 7) (m83 a0 7) m83) ?_)
                                        have r96 : 0 ≤ (m83 19 2) ∧ (m83 19 2) ≤ 16 := zi_rd hIm83 zq_19 zb_6_2
                                        have e97 : (m83 19 2) = (m0 19 2) := (Eq.trans (zs_ne hmm83 (Or.inl (zc_ne zq_19 hc0 (by decide)))) (Eq.trans (zfr_ap hfm78 zq_19 rfl) (Eq.trans (zs_ne hmm76 (Or.inl (zc_ne zq_19 hc0 (by decide)))) (Eq.trans (zs_ne hmm59 (Or.inl (zc_ne zq_19 hc0 (by decide)))) (Eq.trans (zfr_ap hfm54 zq_19 rfl) (Eq.trans (zs_ne hmm40 (Or.inl (zc_ne zq_19 hc0 (by decide)))) (Eq.trans (zfr_ap hfm35 zq_19 rfl) (Eq.trans (zs_ne hmm32 (Or.inl (zc_ne zq_19 hc0 (by decide)))) (Eq.trans (zs_ne hmm28 (Or.inl (zc_ne zq_19 hc0 (by decide)))) (zfr_ap hfm3 zq_19 rfl))))))))))
                                        refine zw_ite (fun h98 => ?_) (fun h98 => ?_)
                                        · exfalso; omega
                                        · have b99 : 0 ≤ (m83 19 2) ∧ (m83 19 2) < 16 := by omega
                                          refine zw_if b99 ?_
                                          generalize hmm100 : zu_up m83 (20 + 5 + (m83 19 2)) 0 (m83 a0 8) = m100
                                          have hIm100 := zi_up hmm100 hIm83 (zc_28_e zq_20 b99) zb_7_0 (by omega) (by omega)
                                          have hFm100 := zfr_up hmm100 hFm83 (zc_28_e zq_20 b99) rfl
                                          generalize hmm101 : zu_up m100 (20 + 5 + (m83 19 2)) 1 (m28 a0 7) = m101
                                          have hIm101 := zi_up hmm101 hIm100 (zc_28_e zq_20 b99) zb_7_1 (by omega) (by omega)
                                          have hFm101 := zfr_up hmm101 hFm100 (zc_28_e zq_20 b99) rfl
                                          generalize hmm102 : zu_up m101 (20 + 5 + (m83 19 2)) 2 (m83 a0 7) = m102
                                          have hIm102 := zi_up hmm102 hIm101 (zc_28_e zq_20 b99) zb_7_2 (by omega) (by omega)
                                          have hFm102 := zfr_up hmm102 hFm101 (zc_28_e zq_20 b99) rfl
                                          generalize hmm103 : zu_up m102 (20 + 5 + (m83 19 2)) 3 (-1) = m103
                                          have hIm103 := zi_up hmm103 hIm102 (zc_28_e zq_20 b99) zb_7_3 (by omega) (by omega)
                                          have hFm103 := zfr_up hmm103 hFm102 (zc_28_e zq_20 b99) rfl
                                          have r104 : 0 ≤ (m103 19 2) ∧ (m103 19 2) ≤ 16 := zi_rd hIm103 zq_19 zb_6_2
                                          have e105 : (m103 19 2) = (m83 19 2) := (Eq.trans (zs_ne hmm103 (Or.inl (zc_ne zq_19 (zc_28_e zq_20 b99) (by decide)))) (Eq.trans (zs_ne hmm102 (Or.inl (zc_ne zq_19 (zc_28_e zq_20 b99) (by decide)))) (Eq.trans (zs_ne hmm101 (Or.inl (zc_ne zq_19 (zc_28_e zq_20 b99) (by decide)))) (zs_ne hmm100 (Or.inl (zc_ne zq_19 (zc_28_e zq_20 b99) (by decide)))))))
                                          have w106 := zu_w32_id (z := (m103 19 2) + 1) (by omega) (by omega)
                                          generalize hmm107 : zu_up m103 19 2 (zu_w32 ((m103 19 2) + 1)) = m107
                                          have hIm107 := zi_up hmm107 hIm103 zq_19 zb_6_2 (by omega) (by omega)
                                          have hFm107 := zfr_up hmm107 hFm103 zq_19 rfl
                                          refine zw_some ?_
                                          refine zw_b (by omega) ?_
                                          exact zw_some ⟨hIm107, hFm107, ⟨by omega, by omega⟩⟩
                                      · exfalso; omega
                                    · refine zw_bd (zw_eq (zr_257_0 n a0 2 m83) ?_)
                                      generalize hmm108 : zu_up m83 a0 9 2 = m108
                                      have hIm108 := zi_up hmm108 hIm83 hc0 zb_3_9 (by omega) (by omega)
                                      have hFm108 := zfr_up hmm108 hFm83 hc0 rfl
                                      have r109 : 0 ≤ (m108 45 6) ∧ (m108 45 6) ≤ 700 := zi_rd hIm108 zq_45 zb_9_6
                                      generalize hmm110 : zu_up m108 a0 10 (m108 45 6) = m110
                                      have hIm110 := zi_up hmm110 hIm108 hc0 zb_3_10 (by omega) (by omega)
                                      have hFm110 := zfr_up hmm110 hFm108 hc0 rfl
                                      refine zw_b (by omega) ?_
                                      refine zw_some ?_
                                      refine zw_ite (fun h111 => ?_) (fun h111 => ?_)
                                      · refine zw_b (by omega) ?_
                                        refine zw_some ?_
                                        refine zw_ite (fun h112 => ?_) (fun h112 => ?_)
                                        · exfalso; omega
                                        · refine zw_b (by omega) ?_
                                          exact zw_some ⟨hIm110, hFm110, ⟨by omega, by omega⟩⟩
                                      · exfalso; omega
                                · refine zw_bd (zw_eq (zr_257_0 n a0 1 m78) ?_)
                                  generalize hmm113 : zu_up m78 a0 9 1 = m113
                                  have hIm113 := zi_up hmm113 hIm78 hc0 zb_3_9 (by omega) (by omega)
                                  have hFm113 := zfr_up hmm113 hFm78 hc0 rfl
                                  have r114 : 0 ≤ (m113 45 6) ∧ (m113 45 6) ≤ 700 := zi_rd hIm113 zq_45 zb_9_6
                                  generalize hmm115 : zu_up m113 a0 10 (m113 45 6) = m115
                                  have hIm115 := zi_up hmm115 hIm113 hc0 zb_3_10 (by omega) (by omega)
                                  have hFm115 := zfr_up hmm115 hFm113 hc0 rfl
                                  refine zw_b (by omega) ?_
                                  refine zw_some ?_
                                  refine zw_b (by omega) ?_
                                  refine zw_some ?_
                                  refine zw_ite (fun h116 => ?_) (fun h116 => ?_)
                                  · exfalso; omega
                                  · refine zw_b (by omega) ?_
                                    exact zw_some ⟨hIm115, hFm115, ⟨by omega, by omega⟩⟩
                            · exfalso; omega
                          · refine zw_bd (zw_eq (zr_257_0 n a0 2 m59) ?_)
                            generalize hmm117 : zu_up m59 a0 9 2 = m117
                            have hIm117 := zi_up hmm117 hIm59 hc0 zb_3_9 (by omega) (by omega)
                            have hFm117 := zfr_up hmm117 hFm59 hc0 rfl
                            have r118 : 0 ≤ (m117 45 6) ∧ (m117 45 6) ≤ 700 := zi_rd hIm117 zq_45 zb_9_6
                            generalize hmm119 : zu_up m117 a0 10 (m117 45 6) = m119
                            have hIm119 := zi_up hmm119 hIm117 hc0 zb_3_10 (by omega) (by omega)
                            have hFm119 := zfr_up hmm119 hFm117 hc0 rfl
                            refine zw_b (by omega) ?_
                            refine zw_some ?_
                            refine zw_ite (fun h120 => ?_) (fun h120 => ?_)
                            · refine zw_b (by omega) ?_
                              refine zw_some ?_
                              refine zw_ite (fun h121 => ?_) (fun h121 => ?_)
                              · exfalso; omega
                              · refine zw_b (by omega) ?_
                                refine zw_some ?_
                                refine zw_ite (fun h122 => ?_) (fun h122 => ?_)
                                · refine zw_b (by omega) ?_
                                  exact zw_some ⟨hIm119, hFm119, ⟨by omega, by omega⟩⟩
                                · exfalso; omega
                            · exfalso; omega
                      · refine zw_bd (zw_eq (zr_257_0 n a0 1 m54) ?_)
                        generalize hmm123 : zu_up m54 a0 9 1 = m123
                        have hIm123 := zi_up hmm123 hIm54 hc0 zb_3_9 (by omega) (by omega)
                        have hFm123 := zfr_up hmm123 hFm54 hc0 rfl
                        have r124 : 0 ≤ (m123 45 6) ∧ (m123 45 6) ≤ 700 := zi_rd hIm123 zq_45 zb_9_6
                        generalize hmm125 : zu_up m123 a0 10 (m123 45 6) = m125
                        have hIm125 := zi_up hmm125 hIm123 hc0 zb_3_10 (by omega) (by omega)
                        have hFm125 := zfr_up hmm125 hFm123 hc0 rfl
                        refine zw_b (by omega) ?_
                        refine zw_some ?_
                        refine zw_b (by omega) ?_
                        refine zw_some ?_
                        refine zw_ite (fun h126 => ?_) (fun h126 => ?_)
                        · exfalso; omega
                        · refine zw_b (by omega) ?_
                          refine zw_some ?_
                          refine zw_ite (fun h127 => ?_) (fun h127 => ?_)
                          · refine zw_b (by omega) ?_
                            exact zw_some ⟨hIm125, hFm125, ⟨by omega, by omega⟩⟩
                          · exfalso; omega
                    · exfalso; omega
                  · refine zw_bd (zw_eq (zr_257_0 n a0 2 m40) ?_)
                    generalize hmm128 : zu_up m40 a0 9 2 = m128
                    have hIm128 := zi_up hmm128 hIm40 hc0 zb_3_9 (by omega) (by omega)
                    have hFm128 := zfr_up hmm128 hFm40 hc0 rfl
                    have r129 : 0 ≤ (m128 45 6) ∧ (m128 45 6) ≤ 700 := zi_rd hIm128 zq_45 zb_9_6
                    generalize hmm130 : zu_up m128 a0 10 (m128 45 6) = m130
                    have hIm130 := zi_up hmm130 hIm128 hc0 zb_3_10 (by omega) (by omega)
                    have hFm130 := zfr_up hmm130 hFm128 hc0 rfl
                    refine zw_b (by omega) ?_
                    refine zw_some ?_
                    refine zw_ite (fun h131 => ?_) (fun h131 => ?_)
                    · refine zw_b (by omega) ?_
                      refine zw_some ?_
                      refine zw_ite (fun h132 => ?_) (fun h132 => ?_)
                      · exfalso; omega
                      · refine zw_b (by omega) ?_
                        refine zw_some ?_
                        refine zw_ite (fun h133 => ?_) (fun h133 => ?_)
                        · refine zw_b (by omega) ?_
                          exact zw_some ⟨hIm130, hFm130, ⟨by omega, by omega⟩⟩
                        · exfalso; omega
                    · exfalso; omega
              · refine zw_bd (zw_eq (zr_257_0 n a0 1 m35) ?_)
                generalize hmm134 : zu_up m35 a0 9 1 = m134
                have hIm134 := zi_up hmm134 hIm35 hc0 zb_3_9 (by omega) (by omega)
                have hFm134 := zfr_up hmm134 hFm35 hc0 rfl
                have r135 : 0 ≤ (m134 45 6) ∧ (m134 45 6) ≤ 700 := zi_rd hIm134 zq_45 zb_9_6
                generalize hmm136 : zu_up m134 a0 10 (m134 45 6) = m136
                have hIm136 := zi_up hmm136 hIm134 hc0 zb_3_10 (by omega) (by omega)
                have hFm136 := zfr_up hmm136 hFm134 hc0 rfl
                refine zw_b (by omega) ?_
                refine zw_some ?_
                refine zw_b (by omega) ?_
                refine zw_some ?_
                refine zw_ite (fun h137 => ?_) (fun h137 => ?_)
                · exfalso; omega
                · refine zw_b (by omega) ?_
                  refine zw_some ?_
                  refine zw_ite (fun h138 => ?_) (fun h138 => ?_)
                  · refine zw_b (by omega) ?_
                    exact zw_some ⟨hIm136, hFm136, ⟨by omega, by omega⟩⟩
                  · exfalso; omega
            · exfalso; omega
          · exfalso; omega
  · refine zw_bd (zw_eq (zr_257_0 n a0 2 m0) ?_)
    generalize hmm139 : zu_up m0 a0 9 2 = m139
    have hIm139 := zi_up hmm139 hIm0 hc0 zb_3_9 (by omega) (by omega)
    have hFm139 := zfr_up hmm139 hFm0 hc0 rfl
    have r140 : 0 ≤ (m139 45 6) ∧ (m139 45 6) ≤ 700 := zi_rd hIm139 zq_45 zb_9_6
    generalize hmm141 : zu_up m139 a0 10 (m139 45 6) = m141
    have hIm141 := zi_up hmm141 hIm139 hc0 zb_3_10 (by omega) (by omega)
    have hFm141 := zfr_up hmm141 hFm139 hc0 rfl
    refine zw_b (by omega) ?_
    refine zw_some ?_
    refine zw_b (by omega) ?_
    exact zw_some ⟨hIm141, hFm141, ⟨by omega, by omega⟩⟩
set_option maxHeartbeats 4000000 in
theorem zk_267 (n : Nat) {a0 : Int} {m0 : zu_m} (hIm0 : zi_I m0) (hc0 : zcls a0 = 3)   (he0 : 1 ≤ m0 45 4 ∧ m0 45 4 ≤ 1) (he1 : 5 ≤ m0 45 5 ∧ m0 45 5 ≤ 5)  : zw (zu_call (zt_T n) 267 [(7, a0)] m0) (fun v m => zi_I m ∧ zfr [(3, 7), (3, 8), (3, 9), (3, 10), (3, 11), (6, 5), (8, 1), (8, 2), (8, 3), (8, 4), (8, 5), (8, 6), (8, 7), (9, 4), (9, 5), (9, 6), (9, 7)] m0 m ∧ (0 ≤ v ∧ v ≤ 1)) := by
  have hFm0 : zfr [(3, 7), (3, 8), (3, 9), (3, 10), (3, 11), (6, 5), (8, 1), (8, 2), (8, 3), (8, 4), (8, 5), (8, 6), (8, 7), (9, 4), (9, 5), (9, 6), (9, 7)] m0 m0 := zfr_rf _ _
  refine zw_eq (zr_267_0 n a0 m0) ?_
  have r1 : 0 ≤ (m0 19 4) ∧ (m0 19 4) ≤ 4 := zi_rd hIm0 zq_19 zb_6_4
  refine zw_ite (fun h2 => ?_) (fun h2 => ?_)
  · refine zw_bd (zw_mono (zk_18 n hIm0 zq_45) (fun v4 m3 hqm3 => ?_))
    obtain ⟨hIm3, hfm3, hvm3⟩ := hqm3
    have hFm3 := zfr_tr hFm0 hfm3 rfl
    have r5 : 0 ≤ (m3 45 4) ∧ (m3 45 4) ≤ 5 := zi_rd hIm3 zq_45 zb_9_4
    refine zw_ite (fun h6 => ?_) (fun h6 => ?_)
    · have r7 : (-2147483648) ≤ (m3 45 5) ∧ (m3 45 5) ≤ 2147483647 := zi_rd hIm3 zq_45 zb_9_5
      have r8 : 0 ≤ (m3 19 4) ∧ (m3 19 4) ≤ 4 := zi_rd hIm3 zq_19 zb_6_4
      have e9 : (m3 19 4) = (m0 19 4) := (zfr_ap hfm3 zq_19 rfl)
      refine zw_bd (zw_mono (zk_212_6 n hIm3 zq_19 ⟨by omega, by omega⟩ ⟨by omega, by omega⟩) (fun v11 m10 hqm10 => ?_))
      obtain ⟨hIm10, hfm10, hvm10⟩ := hqm10
      have hFm10 := zfr_tr hFm3 hfm10 rfl
      refine zw_ite (fun h12 => ?_) (fun h12 => ?_)
      · have r13 : 0 ≤ (m10 19 4) ∧ (m10 19 4) ≤ 4 := zi_rd hIm10 zq_19 zb_6_4
        have e14 : (m10 19 4) = (m3 19 4) := (zfr_ap hfm10 zq_19 rfl)
        have b15 : 0 ≤ (m10 19 4) ∧ (m10 19 4) < 4 := by omega
        refine zw_if b15 ?_
        have r16 : (-2147483648) ≤ (m10 45 5) ∧ (m10 45 5) ≤ 2147483647 := zi_rd hIm10 zq_45 zb_9_5
        have e17 : (m10 45 5) = (m3 45 5) := (zfr_ap hfm10 zq_45 rfl)
        generalize hmm18 : zu_up m10 (21 + 20 + (m10 19 4)) 0 (m10 45 5) = m18
        have hIm18 := zi_up hmm18 hIm10 (zc_29_e zq_21 b15) zb_8_0 (by omega) (by omega)
        have hFm18 := zfr_up hmm18 hFm10 (zc_29_e zq_21 b15) rfl
        generalize hmm19 : zu_up m18 (21 + 20 + (m10 19 4)) 5 0 = m19
        have hIm19 := zi_up hmm19 hIm18 (zc_29_e zq_21 b15) zb_8_5 (by omega) (by omega)
        have hFm19 := zfr_up hmm19 hFm18 (zc_29_e zq_21 b15) rfl
        generalize hmm20 : zu_up m19 (21 + 20 + (m10 19 4)) 6 0 = m20
        have hIm20 := zi_up hmm20 hIm19 (zc_29_e zq_21 b15) zb_8_6 (by omega) (by omega)
        have hFm20 := zfr_up hmm20 hFm19 (zc_29_e zq_21 b15) rfl
        refine zw_bd (zw_eq (zr_262_0 n a0 m20) ?_)
        refine zw_b (by omega) ?_
        generalize hmm21 : zu_up m20 a0 6 1 = m21
        have hIm21 := zi_up hmm21 hIm20 hc0 zb_3_6 (by omega) (by omega)
        have hFm21 := zfr_up hmm21 hFm20 hc0 rfl
        have r22 : 1 ≤ (m21 6 0) ∧ (m21 6 0) ≤ 8 := zi_rd hIm21 zq_6 zb_4_0
        have w23 := zu_w32_id (z := (m21 6 0) - 1) (by omega) (by omega)
        refine zw_bd (zw_eq (zr_260_0 n a0 0 (zu_w32 ((m21 6 0) - 1)) m21) ?_)
        refine zw_bd (zw_mono (zk_18 n hIm21 zq_45) (fun v25 m24 hqm24 => ?_))
        obtain ⟨hIm24, hfm24, hvm24⟩ := hqm24
        have hFm24 := zfr_tr hFm21 hfm24 rfl
        have r26 : 0 ≤ (m24 45 4) ∧ (m24 45 4) ≤ 5 := zi_rd hIm24 zq_45 zb_9_4
        refine zw_ite (fun h27 => ?_) (fun h27 => ?_)
        · have r28 : (-2147483648) ≤ (m24 45 5) ∧ (m24 45 5) ≤ 2147483647 := zi_rd hIm24 zq_45 zb_9_5
          generalize hmm29 : zu_up m24 a0 7 (m24 45 5) = m29
          have hIm29 := zi_up hmm29 hIm24 hc0 zb_3_7 (by omega) (by omega)
          have hFm29 := zfr_up hmm29 hFm24 hc0 rfl
          have r30 : (-2147483648) ≤ (m29 a0 7) ∧ (m29 a0 7) ≤ 2147483647 := zi_rd hIm29 hc0 zb_3_7
          have e31 : (m29 a0 7) = (m24 45 5) := (zs_eq hmm29)
          refine zw_ite (fun h32 => ?_) (fun h32 => ?_)
          · refine zw_bd (zw_eq (zr_257_0 n a0 2 m29) ?_)
            generalize hmm33 : zu_up m29 a0 9 2 = m33
            have hIm33 := zi_up hmm33 hIm29 hc0 zb_3_9 (by omega) (by omega)
            have hFm33 := zfr_up hmm33 hFm29 hc0 rfl
            have r34 : 0 ≤ (m33 45 6) ∧ (m33 45 6) ≤ 700 := zi_rd hIm33 zq_45 zb_9_6
            generalize hmm35 : zu_up m33 a0 10 (m33 45 6) = m35
            have hIm35 := zi_up hmm35 hIm33 hc0 zb_3_10 (by omega) (by omega)
            have hFm35 := zfr_up hmm35 hFm33 hc0 rfl
            refine zw_b (by omega) ?_
            refine zw_some ?_
            refine zw_ite (fun h36 => ?_) (fun h36 => ?_)
            · refine zw_b (by omega) ?_
              refine zw_some ?_
              refine zw_ite (fun h37 => ?_) (fun h37 => ?_)
              · exfalso; omega
              · refine zw_b (by omega) ?_
                refine zw_some ?_
                refine zw_ite (fun h38 => ?_) (fun h38 => ?_)
                · refine zw_b (by omega) ?_
                  exact zw_some ⟨hIm35, hFm35, ⟨by omega, by omega⟩⟩
                · exfalso; omega
            · exfalso; omega
          · refine zw_ite (fun h39 => ?_) (fun h39 => ?_)
            · refine zw_b (by omega) ?_
              refine zw_some ?_
              refine zw_ite (fun h40 => ?_) (fun h40 => ?_)
              · have r41 : 1 ≤ (m29 6 1) ∧ (m29 6 1) ≤ 6 := zi_rd hIm29 zq_6 zb_4_1
                have w42 := zu_w32_id (z := (m29 6 1) - 1) (by omega) (by omega)
                refine zw_bd (zw_eq (zr_260_0 n a0 0 (zu_w32 ((m29 6 1) - 1)) m29) ?_)
                refine zw_bd (zw_mono (zk_18 n hIm29 zq_45) (fun v44 m43 hqm43 => ?_))
                obtain ⟨hIm43, hfm43, hvm43⟩ := hqm43
                have hFm43 := zfr_tr hFm29 hfm43 rfl
                have r45 : 0 ≤ (m43 45 4) ∧ (m43 45 4) ≤ 5 := zi_rd hIm43 zq_45 zb_9_4
                refine zw_ite (fun h46 => ?_) (fun h46 => ?_)
                · have r47 : (-2147483648) ≤ (m43 45 5) ∧ (m43 45 5) ≤ 2147483647 := zi_rd hIm43 zq_45 zb_9_5
                  generalize hmm48 : zu_up m43 a0 7 (m43 45 5) = m48
                  have hIm48 := zi_up hmm48 hIm43 hc0 zb_3_7 (by omega) (by omega)
                  have hFm48 := zfr_up hmm48 hFm43 hc0 rfl
                  have r49 : (-2147483648) ≤ (m48 a0 7) ∧ (m48 a0 7) ≤ 2147483647 := zi_rd hIm48 hc0 zb_3_7
                  have e50 : (m48 a0 7) = (m43 45 5) := (zs_eq hmm48)
                  refine zw_ite (fun h51 => ?_) (fun h51 => ?_)
                  · refine zw_bd (zw_eq (zr_257_0 n a0 2 m48) ?_)
                    generalize hmm52 : zu_up m48 a0 9 2 = m52
                    have hIm52 := zi_up hmm52 hIm48 hc0 zb_3_9 (by omega) (by omega)
                    have hFm52 := zfr_up hmm52 hFm48 hc0 rfl
                    have r53 : 0 ≤ (m52 45 6) ∧ (m52 45 6) ≤ 700 := zi_rd hIm52 zq_45 zb_9_6
                    generalize hmm54 : zu_up m52 a0 10 (m52 45 6) = m54
                    have hIm54 := zi_up hmm54 hIm52 hc0 zb_3_10 (by omega) (by omega)
                    have hFm54 := zfr_up hmm54 hFm52 hc0 rfl
                    refine zw_b (by omega) ?_
                    refine zw_some ?_
                    refine zw_ite (fun h55 => ?_) (fun h55 => ?_)
                    · refine zw_b (by omega) ?_
                      refine zw_some ?_
                      refine zw_ite (fun h56 => ?_) (fun h56 => ?_)
                      · exfalso; omega
                      · refine zw_b (by omega) ?_
                        refine zw_some ?_
                        refine zw_ite (fun h57 => ?_) (fun h57 => ?_)
                        · refine zw_b (by omega) ?_
                          exact zw_some ⟨hIm54, hFm54, ⟨by omega, by omega⟩⟩
                        · exfalso; omega
                    · exfalso; omega
                  · refine zw_ite (fun h58 => ?_) (fun h58 => ?_)
                    · refine zw_b (by omega) ?_
                      refine zw_some ?_
                      refine zw_ite (fun h59 => ?_) (fun h59 => ?_)
                      · have r60 : 1 ≤ (m48 6 0) ∧ (m48 6 0) ≤ 8 := zi_rd hIm48 zq_6 zb_4_0
                        have e61 : (m48 6 0) = (m21 6 0) := (Eq.trans (zs_ne hmm48 (Or.inl (zc_ne zq_6 hc0 (by decide)))) (Eq.trans (zfr_ap hfm43 zq_6 rfl) (Eq.trans (zs_ne hmm29 (Or.inl (zc_ne zq_6 hc0 (by decide)))) (zfr_ap hfm24 zq_6 rfl))))
                        have p62 := zmul_bd (x := (m48 a0 7)) (y := (m48 6 0)) (a := 0) (b := 1) (A := 5) (B := 8) (by omega) (by omega) (by omega) (by omega) (by omega) (by omega)
                        have w63 := zu_w32_id (z := (m48 a0 7) * (m48 6 0)) (by omega) (by omega)
                        have w64 := zu_w32_id (z := (zu_w32 ((m48 a0 7) * (m48 6 0))) + (m29 a0 7)) (by omega) (by omega)
                        generalize hmm65 : zu_up m48 a0 8 (zu_w32 ((zu_w32 ((m48 a0 7) * (m48 6 0))) + (m29 a0 7))) = m65
                        have hIm65 := zi_up hmm65 hIm48 hc0 zb_3_8 (by omega) (by omega)
                        have hFm65 := zfr_up hmm65 hFm48 hc0 rfl
                        refine zw_b (by omega) ?_
                        refine zw_some ?_
                        refine zw_ite (fun h66 => ?_) (fun h66 => ?_)
                        · exfalso; omega
                        · refine zw_bd (zw_eq (zr_260_0 n a0 1 15 m65) ?_)
                          refine zw_bd (zw_mono (zk_18 n hIm65 zq_45) (fun v68 m67 hqm67 => ?_))
                          obtain ⟨hIm67, hfm67, hvm67⟩ := hqm67
                          have hFm67 := zfr_tr hFm65 hfm67 rfl
                          have r69 : 0 ≤ (m67 45 4) ∧ (m67 45 4) ≤ 5 := zi_rd hIm67 zq_45 zb_9_4
                          refine zw_ite (fun h70 => ?_) (fun h70 => ?_)
                          · have r71 : (-2147483648) ≤ (m67 45 5) ∧ (m67 45 5) ≤ 2147483647 := zi_rd hIm67 zq_45 zb_9_5
                            generalize hmm72 : zu_up m67 a0 7 (m67 45 5) = m72
                            have hIm72 := zi_up hmm72 hIm67 hc0 zb_3_7 (by omega) (by omega)
                            have hFm72 := zfr_up hmm72 hFm67 hc0 rfl
                            have r73 : (-2147483648) ≤ (m72 a0 7) ∧ (m72 a0 7) ≤ 2147483647 := zi_rd hIm72 hc0 zb_3_7
                            have e74 : (m72 a0 7) = (m67 45 5) := (zs_eq hmm72)
                            refine zw_ite (fun h75 => ?_) (fun h75 => ?_)
                            · refine zw_bd (zw_eq (zr_257_0 n a0 2 m72) ?_)
                              generalize hmm76 : zu_up m72 a0 9 2 = m76
                              have hIm76 := zi_up hmm76 hIm72 hc0 zb_3_9 (by omega) (by omega)
                              have hFm76 := zfr_up hmm76 hFm72 hc0 rfl
                              have r77 : 0 ≤ (m76 45 6) ∧ (m76 45 6) ≤ 700 := zi_rd hIm76 zq_45 zb_9_6
                              generalize hmm78 : zu_up m76 a0 10 (m76 45 6) = m78
                              have hIm78 := zi_up hmm78 hIm76 hc0 zb_3_10 (by omega) (by omega)
                              have hFm78 := zfr_up hmm78 hFm76 hc0 rfl
                              refine zw_b (by omega) ?_
                              refine zw_some ?_
                              refine zw_ite (fun h79 => ?_) (fun h79 => ?_)
                              · refine zw_b (by omega) ?_
                                refine zw_some ?_
                                refine zw_ite (fun h80 => ?_) (fun h80 => ?_)
                                · exfalso; omega
                                · refine zw_b (by omega) ?_
                                  exact zw_some ⟨hIm78, hFm78, ⟨by omega, by omega⟩⟩
                              · exfalso; omega
                            · refine zw_ite (fun h81 => ?_) (fun h81 => ?_)
                              · refine zw_b (by omega) ?_
                                refine zw_some ?_
                                refine zw_ite (fun h82 => ?_) (fun h82 => ?_)
                                · have r83 : 0 ≤ (m72 a0 8) ∧ (m72 a0 8) ≤ 47 := zi_rd hIm72 hc0 zb_3_8
                                  have e84 : (m72 a0 8) = (zu_w32 ((zu_w32 ((m48 a0 7) * (m48 6 0))) + (m29 a0 7))) := (Eq.trans (zs_ne hmm72 (Or.inr (by decide))) (Eq.trans (zfr_ap hfm67 hc0 rfl) (zs_eq hmm65)))
                                  generalize hmm85 : zu_up m72 (21 + 20 + (m10 19 4)) 1 (m72 a0 8) = m85
                                  have hIm85 := zi_up hmm85 hIm72 (zc_29_e zq_21 b15) zb_8_1 (by omega) (by omega)
                                  have hFm85 := zfr_up hmm85 hFm72 (zc_29_e zq_21 b15) rfl
                                  have r86 : (-2147483648) ≤ (m85 a0 7) ∧ (m85 a0 7) ≤ 2147483647 := zi_rd hIm85 hc0 zb_3_7
                                  have e87 : (m85 a0 7) = (m72 a0 7) := (zs_ne hmm85 (Or.inl (zc_ne hc0 (zc_29_e zq_21 b15) (by decide))))
                                  generalize hmm88 : zu_up m85 (21 + 20 + (m10 19 4)) 2 (m85 a0 7) = m88
                                  have hIm88 := zi_up hmm88 hIm85 (zc_29_e zq_21 b15) zb_8_2 (by omega) (by omega)
                                  have hFm88 := zfr_up hmm88 hFm85 (zc_29_e zq_21 b15) rfl
                                  refine zw_bd (zw_eq (zr_260_0 n a0 0 3 m88) ?_)
                                  refine zw_bd (zw_mono (zk_18 n hIm88 zq_45) (fun v90 m89 hqm89 => ?_))
                                  obtain ⟨hIm89, hfm89, hvm89⟩ := hqm89
                                  have hFm89 := zfr_tr hFm88 hfm89 rfl
                                  have r91 : 0 ≤ (m89 45 4) ∧ (m89 45 4) ≤ 5 := zi_rd hIm89 zq_45 zb_9_4
                                  refine zw_ite (fun h92 => ?_) (fun h92 => ?_)
                                  · have r93 : (-2147483648) ≤ (m89 45 5) ∧ (m89 45 5) ≤ 2147483647 := zi_rd hIm89 zq_45 zb_9_5
                                    generalize hmm94 : zu_up m89 a0 7 (m89 45 5) = m94
                                    have hIm94 := zi_up hmm94 hIm89 hc0 zb_3_7 (by omega) (by omega)
                                    have hFm94 := zfr_up hmm94 hFm89 hc0 rfl
                                    have r95 : (-2147483648) ≤ (m94 a0 7) ∧ (m94 a0 7) ≤ 2147483647 := zi_rd hIm94 hc0 zb_3_7
                                    have e96 : (m94 a0 7) = (m89 45 5) := (zs_eq hmm94)
                                    refine zw_ite (fun h97 => ?_) (fun h97 => ?_)
                                    · refine zw_bd (zw_eq (zr_257_0 n a0 2 m94) ?_)
                                      generalize hmm98 : zu_up m94 a0 9 2 = m98
                                      have hIm98 := zi_up hmm98 hIm94 hc0 zb_3_9 (by omega) (by omega)
                                      have hFm98 := zfr_up hmm98 hFm94 hc0 rfl
                                      have r99 : 0 ≤ (m98 45 6) ∧ (m98 45 6) ≤ 700 := zi_rd hIm98 zq_45 zb_9_6
                                      generalize hmm100 : zu_up m98 a0 10 (m98 45 6) = m100
                                      have hIm100 := zi_up hmm100 hIm98 hc0 zb_3_10 (by omega) (by omega)
                                      have hFm100 := zfr_up hmm100 hFm98 hc0 rfl
                                      refine zw_b (by omega) ?_
                                      refine zw_some ?_
                                      refine zw_ite (fun h101 => ?_) (fun h101 => ?_)
                                      · refine zw_b (by omega) ?_
                                        refine zw_some ?_
                                        refine zw_ite (fun h102 => ?_) (fun h102 => ?_)
                                        · exfalso; omega
                                        · refine zw_b (by omega) ?_
                                          exact zw_some ⟨hIm100, hFm100, ⟨by omega, by omega⟩⟩
                                      · exfalso; omega
                                    · refine zw_ite (fun h103 => ?_) (fun h103 => ?_)
                                      · refine zw_b (by omega) ?_
                                        refine zw_some ?_
                                        refine zw_ite (fun h104 => ?_) (fun h104 => ?_)
                                        · generalize hmm105 : zu_up m94 (21 + 20 + (m10 19 4)) 3 (m94 a0 7) = m105
                                          have hIm105 := zi_up hmm105 hIm94 (zc_29_e zq_21 b15) zb_8_3 (by omega) (by omega)
                                          have hFm105 := zfr_up hmm105 hFm94 (zc_29_e zq_21 b15) rfl
                                          refine zw_bd (zw_eq (zr_260_0 n a0 0 99 m105) ?_)
                                          refine zw_bd (zw_mono (zk_18 n hIm105 zq_45) (fun v107 m106 hqm106 => ?_))
                                          obtain ⟨hIm106, hfm106, hvm106⟩ := hqm106
                                          have hFm106 := zfr_tr hFm105 hfm106 rfl
                                          have r108 : 0 ≤ (m106 45 4) ∧ (m106 45 4) ≤ 5 := zi_rd hIm106 zq_45 zb_9_4
                                          refine zw_ite (fun h109 => ?_) (fun h109 => ?_)
                                          · have r110 : (-2147483648) ≤ (m106 45 5) ∧ (m106 45 5) ≤ 2147483647 := zi_rd hIm106 zq_45 zb_9_5
                                            generalize hmm111 : zu_up m106 a0 7 (m106 45 5) = m111
                                            have hIm111 := zi_up hmm111 hIm106 hc0 zb_3_7 (by omega) (by omega)
                                            have hFm111 := zfr_up hmm111 hFm106 hc0 rfl
                                            have r112 : (-2147483648) ≤ (m111 a0 7) ∧ (m111 a0 7) ≤ 2147483647 := zi_rd hIm111 hc0 zb_3_7
                                            have e113 : (m111 a0 7) = (m106 45 5) := (zs_eq hmm111)
                                            refine zw_ite (fun h114 => ?_) (fun h114 => ?_)
                                            · refine zw_bd (zw_eq (zr_257_0 n a0 2 m111) ?_)
                                              generalize hmm115 : zu_up m111 a0 9 2 = m115
                                              have hIm115 := zi_up hmm115 hIm111 hc0 zb_3_9 (by omega) (by omega)
                                              have hFm115 := zfr_up hmm115 hFm111 hc0 rfl
                                              have r116 : 0 ≤ (m115 45 6) ∧ (m115 45 6) ≤ 700 := zi_rd hIm115 zq_45 zb_9_6
                                              generalize hmm117 : zu_up m115 a0 10 (m115 45 6) = m117
                                              have hIm117 := zi_up hmm117 hIm115 hc0 zb_3_10 (by omega) (by omega)
                                              have hFm117 := zfr_up hmm117 hFm115 hc0 rfl
                                              refine zw_b (by omega) ?_
                                              refine zw_some ?_
                                              refine zw_ite (fun h118 => ?_) (fun h118 => ?_)
                                              · refine zw_b (by omega) ?_
                                                refine zw_some ?_
                                                refine zw_ite (fun h119 => ?_) (fun h119 => ?_)
                                                · exfalso; omega
                                                · refine zw_b (by omega) ?_
                                                  exact zw_some ⟨hIm117, hFm117, ⟨by omega, by omega⟩⟩
                                              · exfalso; omega
                                            · refine zw_ite (fun h120 => ?_) (fun h120 => ?_)
                                              · refine zw_b (by omega) ?_
                                                refine zw_some ?_
                                                refine zw_ite (fun h121 => ?_) (fun h121 => ?_)
                                                · generalize hmm122 : zu_up m111 (21 + 20 + (m10 19 4)) 4 (m111 a0 7) = m122
                                                  have hIm122 := zi_up hmm122 hIm111 (zc_29_e zq_21 b15) zb_8_4 (by omega) (by omega)
                                                  have hFm122 := zfr_up hmm122 hFm111 (zc_29_e zq_21 b15) rfl
                                                  have r123 : 0 ≤ (m122 19 4) ∧ (m122 19 4) ≤ 4 := zi_rd hIm122 zq_19 zb_6_4
                                                  have e124 : (m122 19 4) = (m10 19 4) := (Eq.trans (zs_ne hmm122 (Or.inl (zc_ne zq_19 (zc_29_e zq_21 b15) (by decide)))) (Eq.trans (zs_ne hmm111 (Or.inl (zc_ne zq_19 hc0 (by decide)))) (Eq.trans (zfr_ap hfm106 zq_19 rfl) (Eq.trans (zs_ne hmm105 (Or.inl (zc_ne zq_19 (zc_29_e zq_21 b15) (by decide)))) (Eq.trans (zs_ne hmm94 (Or.inl (zc_ne zq_19 hc0 (by decide)))) (Eq.trans (zfr_ap hfm89 zq_19 rfl) (Eq.trans (zs_ne hmm88 (Or.inl (zc_ne zq_19 (zc_29_e zq_21 b15) (by decide)))) (Eq.trans (zs_ne hmm85 (Or.inl (zc_ne zq_19 (zc_29_e zq_21 b15) (by decide)))) (Eq.trans (zs_ne hmm72 (Or.inl (zc_ne zq_19 hc0 (by decide)))) (Eq.trans (zfr_ap hfm67 zq_19 rfl) (Eq.trans (zs_ne hmm65 (Or.inl (zc_ne zq_19 hc0 (by decide)))) (Eq.trans (zs_ne hmm48 (Or.inl (zc_ne zq_19 hc0 (by decide)))) (Eq.trans (zfr_ap hfm43 zq_19 rfl) (Eq.trans (zs_ne hmm29 (Or.inl (zc_ne zq_19 hc0 (by decide)))) (Eq.trans (zfr_ap hfm24 zq_19 rfl) (Eq.trans (zs_ne hmm21 (Or.inl (zc_ne zq_19 hc0 (by decide)))) (Eq.trans (zs_ne hmm20 (Or.inl (zc_ne zq_19 (zc_29_e zq_21 b15) (by decide)))) (Eq.trans (zs_ne hmm19 (Or.inl (zc_ne zq_19 (zc_29_e zq_21 b15) (by decide)))) (zs_ne hmm18 (Or.inl (zc_ne zq_19 (zc_29_e zq_21 b15) (by decide))))))))))))))))))))))
                                                  have w125 := zu_w32_id (z := (m122 19 4) + 1) (by omega) (by omega)
                                                  generalize hmm126 : zu_up m122 19 4 (zu_w32 ((m122 19 4) + 1)) = m126
                                                  have hIm126 := zi_up hmm126 hIm122 zq_19 zb_6_4 (by omega) (by omega)
                                                  have hFm126 := zfr_up hmm126 hFm122 zq_19 rfl
                                                  refine zw_b (by omega) ?_
                                                  exact zw_some ⟨hIm126, hFm126, ⟨by omega, by omega⟩⟩
                                                · exfalso; omega
                                              · refine zw_bd (zw_eq (zr_257_0 n a0 2 m111) ?_)
                                                generalize hmm127 : zu_up m111 a0 9 2 = m127
                                                have hIm127 := zi_up hmm127 hIm111 hc0 zb_3_9 (by omega) (by omega)
                                                have hFm127 := zfr_up hmm127 hFm111 hc0 rfl
                                                have r128 : 0 ≤ (m127 45 6) ∧ (m127 45 6) ≤ 700 := zi_rd hIm127 zq_45 zb_9_6
                                                generalize hmm129 : zu_up m127 a0 10 (m127 45 6) = m129
                                                have hIm129 := zi_up hmm129 hIm127 hc0 zb_3_10 (by omega) (by omega)
                                                have hFm129 := zfr_up hmm129 hFm127 hc0 rfl
                                                refine zw_b (by omega) ?_
                                                refine zw_some ?_
                                                refine zw_ite (fun h130 => ?_) (fun h130 => ?_)
                                                · refine zw_b (by omega) ?_
                                                  refine zw_some ?_
                                                  refine zw_ite (fun h131 => ?_) (fun h131 => ?_)
                                                  · exfalso; omega
                                                  · refine zw_b (by omega) ?_
                                                    exact zw_some ⟨hIm129, hFm129, ⟨by omega, by omega⟩⟩
                                                · exfalso; omega
                                          · refine zw_bd (zw_eq (zr_257_0 n a0 1 m106) ?_)
                                            generalize hmm132 : zu_up m106 a0 9 1 = m132
                                            have hIm132 := zi_up hmm132 hIm106 hc0 zb_3_9 (by omega) (by omega)
                                            have hFm132 := zfr_up hmm132 hFm106 hc0 rfl
                                            have r133 : 0 ≤ (m132 45 6) ∧ (m132 45 6) ≤ 700 := zi_rd hIm132 zq_45 zb_9_6
                                            generalize hmm134 : zu_up m132 a0 10 (m132 45 6) = m134
                                            have hIm134 := zi_up hmm134 hIm132 hc0 zb_3_10 (by omega) (by omega)
                                            have hFm134 := zfr_up hmm134 hFm132 hc0 rfl
                                            refine zw_b (by omega) ?_
                                            refine zw_some ?_
                                            refine zw_b (by omega) ?_
                                            refine zw_some ?_
                                            refine zw_ite (fun h135 => ?_) (fun h135 => ?_)
                                            · exfalso; omega
                                            · refine zw_b (by omega) ?_
                                              exact zw_some ⟨hIm134, hFm134, ⟨by omega, by omega⟩⟩
                                        · exfalso; omega
                                      · refine zw_bd (zw_eq (zr_257_0 n a0 2 m94) ?_)
                                        generalize hmm136 : zu_up m94 a0 9 2 = m136
                                        have hIm136 := zi_up hmm136 hIm94 hc0 zb_3_9 (by omega) (by omega)
                                        have hFm136 := zfr_up hmm136 hFm94 hc0 rfl
                                        have r137 : 0 ≤ (m136 45 6) ∧ (m136 45 6) ≤ 700 := zi_rd hIm136 zq_45 zb_9_6
                                        generalize hmm138 : zu_up m136 a0 10 (m136 45 6) = m138
                                        have hIm138 := zi_up hmm138 hIm136 hc0 zb_3_10 (by omega) (by omega)
                                        have hFm138 := zfr_up hmm138 hFm136 hc0 rfl
                                        refine zw_b (by omega) ?_
                                        refine zw_some ?_
                                        refine zw_ite (fun h139 => ?_) (fun h139 => ?_)
                                        · refine zw_b (by omega) ?_
                                          refine zw_some ?_
                                          refine zw_ite (fun h140 => ?_) (fun h140 => ?_)
                                          · exfalso; omega
                                          · refine zw_b (by omega) ?_
                                            exact zw_some ⟨hIm138, hFm138, ⟨by omega, by omega⟩⟩
                                        · exfalso; omega
                                  · refine zw_bd (zw_eq (zr_257_0 n a0 1 m89) ?_)
                                    generalize hmm141 : zu_up m89 a0 9 1 = m141
                                    have hIm141 := zi_up hmm141 hIm89 hc0 zb_3_9 (by omega) (by omega)
                                    have hFm141 := zfr_up hmm141 hFm89 hc0 rfl
                                    have r142 : 0 ≤ (m141 45 6) ∧ (m141 45 6) ≤ 700 := zi_rd hIm141 zq_45 zb_9_6
                                    generalize hmm143 : zu_up m141 a0 10 (m141 45 6) = m143
                                    have hIm143 := zi_up hmm143 hIm141 hc0 zb_3_10 (by omega) (by omega)
                                    have hFm143 := zfr_up hmm143 hFm141 hc0 rfl
                                    refine zw_b (by omega) ?_
                                    refine zw_some ?_
                                    refine zw_b (by omega) ?_
                                    refine zw_some ?_
                                    refine zw_ite (fun h144 => ?_) (fun h144 => ?_)
                                    · exfalso; omega
                                    · refine zw_b (by omega) ?_
                                      exact zw_some ⟨hIm143, hFm143, ⟨by omega, by omega⟩⟩
                                · exfalso; omega
                              · refine zw_bd (zw_eq (zr_257_0 n a0 2 m72) ?_)
                                generalize hmm145 : zu_up m72 a0 9 2 = m145
                                have hIm145 := zi_up hmm145 hIm72 hc0 zb_3_9 (by omega) (by omega)
                                have hFm145 := zfr_up hmm145 hFm72 hc0 rfl
                                have r146 : 0 ≤ (m145 45 6) ∧ (m145 45 6) ≤ 700 := zi_rd hIm145 zq_45 zb_9_6
                                generalize hmm147 : zu_up m145 a0 10 (m145 45 6) = m147
                                have hIm147 := zi_up hmm147 hIm145 hc0 zb_3_10 (by omega) (by omega)
                                have hFm147 := zfr_up hmm147 hFm145 hc0 rfl
                                refine zw_b (by omega) ?_
                                refine zw_some ?_
                                refine zw_ite (fun h148 => ?_) (fun h148 => ?_)
                                · refine zw_b (by omega) ?_
                                  refine zw_some ?_
                                  refine zw_ite (fun h149 => ?_) (fun h149 => ?_)
                                  · exfalso; omega
                                  · refine zw_b (by omega) ?_
                                    exact zw_some ⟨hIm147, hFm147, ⟨by omega, by omega⟩⟩
                                · exfalso; omega
                          · refine zw_bd (zw_eq (zr_257_0 n a0 1 m67) ?_)
                            generalize hmm150 : zu_up m67 a0 9 1 = m150
                            have hIm150 := zi_up hmm150 hIm67 hc0 zb_3_9 (by omega) (by omega)
                            have hFm150 := zfr_up hmm150 hFm67 hc0 rfl
                            have r151 : 0 ≤ (m150 45 6) ∧ (m150 45 6) ≤ 700 := zi_rd hIm150 zq_45 zb_9_6
                            generalize hmm152 : zu_up m150 a0 10 (m150 45 6) = m152
                            have hIm152 := zi_up hmm152 hIm150 hc0 zb_3_10 (by omega) (by omega)
                            have hFm152 := zfr_up hmm152 hFm150 hc0 rfl
                            refine zw_b (by omega) ?_
                            refine zw_some ?_
                            refine zw_b (by omega) ?_
                            refine zw_some ?_
                            refine zw_ite (fun h153 => ?_) (fun h153 => ?_)
                            · exfalso; omega
                            · refine zw_b (by omega) ?_
                              exact zw_some ⟨hIm152, hFm152, ⟨by omega, by omega⟩⟩
                      · exfalso; omega
                    · refine zw_bd (zw_eq (zr_257_0 n a0 2 m48) ?_)
                      generalize hmm154 : zu_up m48 a0 9 2 = m154
                      have hIm154 := zi_up hmm154 hIm48 hc0 zb_3_9 (by omega) (by omega)
                      have hFm154 := zfr_up hmm154 hFm48 hc0 rfl
                      have r155 : 0 ≤ (m154 45 6) ∧ (m154 45 6) ≤ 700 := zi_rd hIm154 zq_45 zb_9_6
                      generalize hmm156 : zu_up m154 a0 10 (m154 45 6) = m156
                      have hIm156 := zi_up hmm156 hIm154 hc0 zb_3_10 (by omega) (by omega)
                      have hFm156 := zfr_up hmm156 hFm154 hc0 rfl
                      refine zw_b (by omega) ?_
                      refine zw_some ?_
                      refine zw_ite (fun h157 => ?_) (fun h157 => ?_)
                      · refine zw_b (by omega) ?_
                        refine zw_some ?_
                        refine zw_ite (fun h158 => ?_) (fun h158 => ?_)
                        · exfalso; omega
                        · refine zw_b (by omega) ?_
                          refine zw_some ?_
                          refine zw_ite (fun h159 => ?_) (fun h159 => ?_)
                          · refine zw_b (by omega) ?_
                            exact zw_some ⟨hIm156, hFm156, ⟨by omega, by omega⟩⟩
                          · exfalso; omega
                      · exfalso; omega
                · refine zw_bd (zw_eq (zr_257_0 n a0 1 m43) ?_)
                  generalize hmm160 : zu_up m43 a0 9 1 = m160
                  have hIm160 := zi_up hmm160 hIm43 hc0 zb_3_9 (by omega) (by omega)
                  have hFm160 := zfr_up hmm160 hFm43 hc0 rfl
                  have r161 : 0 ≤ (m160 45 6) ∧ (m160 45 6) ≤ 700 := zi_rd hIm160 zq_45 zb_9_6
                  generalize hmm162 : zu_up m160 a0 10 (m160 45 6) = m162
                  have hIm162 := zi_up hmm162 hIm160 hc0 zb_3_10 (by omega) (by omega)
                  have hFm162 := zfr_up hmm162 hFm160 hc0 rfl
                  refine zw_b (by omega) ?_
                  refine zw_some ?_
                  refine zw_b (by omega) ?_
                  refine zw_some ?_
                  refine zw_ite (fun h163 => ?_) (fun h163 => ?_)
                  · exfalso; omega
                  · refine zw_b (by omega) ?_
                    refine zw_some ?_
                    refine zw_ite (fun h164 => ?_) (fun h164 => ?_)
                    · refine zw_b (by omega) ?_
                      exact zw_some ⟨hIm162, hFm162, ⟨by omega, by omega⟩⟩
                    · exfalso; omega
              · exfalso; omega
            · refine zw_bd (zw_eq (zr_257_0 n a0 2 m29) ?_)
              generalize hmm165 : zu_up m29 a0 9 2 = m165
              have hIm165 := zi_up hmm165 hIm29 hc0 zb_3_9 (by omega) (by omega)
              have hFm165 := zfr_up hmm165 hFm29 hc0 rfl
              have r166 : 0 ≤ (m165 45 6) ∧ (m165 45 6) ≤ 700 := zi_rd hIm165 zq_45 zb_9_6
              generalize hmm167 : zu_up m165 a0 10 (m165 45 6) = m167
              have hIm167 := zi_up hmm167 hIm165 hc0 zb_3_10 (by omega) (by omega)
              have hFm167 := zfr_up hmm167 hFm165 hc0 rfl
              refine zw_b (by omega) ?_
              refine zw_some ?_
              refine zw_ite (fun h168 => ?_) (fun h168 => ?_)
              · refine zw_b (by omega) ?_
                refine zw_some ?_
                refine zw_ite (fun h169 => ?_) (fun h169 => ?_)
                · exfalso; omega
                · refine zw_b (by omega) ?_
                  refine zw_some ?_
                  refine zw_ite (fun h170 => ?_) (fun h170 => ?_)
                  · refine zw_b (by omega) ?_
                    exact zw_some ⟨hIm167, hFm167, ⟨by omega, by omega⟩⟩
                  · exfalso; omega
              · exfalso; omega
        · refine zw_bd (zw_eq (zr_257_0 n a0 1 m24) ?_)
          generalize hmm171 : zu_up m24 a0 9 1 = m171
          have hIm171 := zi_up hmm171 hIm24 hc0 zb_3_9 (by omega) (by omega)
          have hFm171 := zfr_up hmm171 hFm24 hc0 rfl
          have r172 : 0 ≤ (m171 45 6) ∧ (m171 45 6) ≤ 700 := zi_rd hIm171 zq_45 zb_9_6
          generalize hmm173 : zu_up m171 a0 10 (m171 45 6) = m173
          have hIm173 := zi_up hmm173 hIm171 hc0 zb_3_10 (by omega) (by omega)
          have hFm173 := zfr_up hmm173 hFm171 hc0 rfl
          refine zw_b (by omega) ?_
          refine zw_some ?_
          refine zw_b (by omega) ?_
          refine zw_some ?_
          refine zw_ite (fun h174 => ?_) (fun h174 => ?_)
          · exfalso; omega
          · refine zw_b (by omega) ?_
            refine zw_some ?_
            refine zw_ite (fun h175 => ?_) (fun h175 => ?_)
            · refine zw_b (by omega) ?_
              exact zw_some ⟨hIm173, hFm173, ⟨by omega, by omega⟩⟩
            · exfalso; omega
      · refine zw_bd (zw_eq (zr_257_0 n a0 3 m10) ?_)
        generalize hmm176 : zu_up m10 a0 9 3 = m176
        have hIm176 := zi_up hmm176 hIm10 hc0 zb_3_9 (by omega) (by omega)
        have hFm176 := zfr_up hmm176 hFm10 hc0 rfl
        have r177 : 0 ≤ (m176 45 6) ∧ (m176 45 6) ≤ 700 := zi_rd hIm176 zq_45 zb_9_6
        generalize hmm178 : zu_up m176 a0 10 (m176 45 6) = m178
        have hIm178 := zi_up hmm178 hIm176 hc0 zb_3_10 (by omega) (by omega)
        have hFm178 := zfr_up hmm178 hFm176 hc0 rfl
        refine zw_b (by omega) ?_
        refine zw_some ?_
        refine zw_b (by omega) ?_
        exact zw_some ⟨hIm178, hFm178, ⟨by omega, by omega⟩⟩
    · refine zw_bd (zw_eq (zr_257_0 n a0 1 m3) ?_)
      generalize hmm179 : zu_up m3 a0 9 1 = m179
      have hIm179 := zi_up hmm179 hIm3 hc0 zb_3_9 (by omega) (by omega)
      have hFm179 := zfr_up hmm179 hFm3 hc0 rfl
      have r180 : 0 ≤ (m179 45 6) ∧ (m179 45 6) ≤ 700 := zi_rd hIm179 zq_45 zb_9_6
      generalize hmm181 : zu_up m179 a0 10 (m179 45 6) = m181
      have hIm181 := zi_up hmm181 hIm179 hc0 zb_3_10 (by omega) (by omega)
      have hFm181 := zfr_up hmm181 hFm179 hc0 rfl
      refine zw_b (by omega) ?_
      refine zw_some ?_
      refine zw_b (by omega) ?_
      exact zw_some ⟨hIm181, hFm181, ⟨by omega, by omega⟩⟩
  · refine zw_bd (zw_eq (zr_257_0 n a0 2 m0) ?_)
    generalize hmm182 : zu_up m0 a0 9 2 = m182
    have hIm182 := zi_up hmm182 hIm0 hc0 zb_3_9 (by omega) (by omega)
    have hFm182 := zfr_up hmm182 hFm0 hc0 rfl
    have r183 : 0 ≤ (m182 45 6) ∧ (m182 45 6) ≤ 700 := zi_rd hIm182 zq_45 zb_9_6
    generalize hmm184 : zu_up m182 a0 10 (m182 45 6) = m184
    have hIm184 := zi_up hmm184 hIm182 hc0 zb_3_10 (by omega) (by omega)
    have hFm184 := zfr_up hmm184 hFm182 hc0 rfl
    refine zw_b (by omega) ?_
    refine zw_some ?_
    refine zw_b (by omega) ?_
    exact zw_some ⟨hIm184, hFm184, ⟨by omega, by omega⟩⟩
set_option maxHeartbeats 4000000 in
theorem zk_270 (n : Nat) {a0 : Int} {m0 : zu_m} (hIm0 : zi_I m0) (hc0 : zcls a0 = 3)   (he0 : 1 ≤ m0 45 4 ∧ m0 45 4 ≤ 1) (he1 : 11 ≤ m0 45 5 ∧ m0 45 5 ≤ 11)  : zw (zu_call (zt_T n) 270 [(7, a0)] m0) (fun v m => zi_I m ∧ zfr [(3, 8), (3, 10), (3, 11), (5, 6), (5, 7), (9, 4), (9, 5), (9, 6), (9, 7), (10, 4), (10, 5), (10, 7), (10, 8), (20, 0), (21, 0), (22, 0), (23, 0), (34, 0), (35, 0)] m0 m ∧ (0 ≤ v ∧ v ≤ 1)) := by
  have hFm0 : zfr [(3, 8), (3, 10), (3, 11), (5, 6), (5, 7), (9, 4), (9, 5), (9, 6), (9, 7), (10, 4), (10, 5), (10, 7), (10, 8), (20, 0), (21, 0), (22, 0), (23, 0), (34, 0), (35, 0)] m0 m0 := zfr_rf _ _
  refine zw_eq (zr_270_0 n a0 m0) ?_
  refine zw_bd (zw_eq (zr_261_0 n a0 19 4 m0) ?_)
  refine zw_bd (zw_mono (zk_18 n hIm0 zq_45) (fun v2 m1 hqm1 => ?_))
  obtain ⟨hIm1, hfm1, hvm1⟩ := hqm1
  have hFm1 := zfr_tr hFm0 hfm1 rfl
  refine zw_bd (zw_eq (zr_279_0 n 45 19 4 m1) ?_)
  have r3 : 0 ≤ (m1 45 4) ∧ (m1 45 4) ≤ 5 := zi_rd hIm1 zq_45 zb_9_4
  refine zw_ite (fun h4 => ?_) (fun h4 => ?_)
  · refine zw_b (by omega) ?_
    refine zw_some ?_
    refine zw_ite (fun h5 => ?_) (fun h5 => ?_)
    · exfalso; omega
    · refine zw_bd (zw_eq (zr_257_0 n a0 1 m1) ?_)
      generalize hmm6 : zu_up m1 a0 9 1 = m6
      have hIm6 := zi_up hmm6 hIm1 hc0 zb_3_9 (by omega) (by omega)
      have hFm6 := zfr_up hmm6 hFm1 hc0 rfl
      have r7 : 0 ≤ (m6 45 6) ∧ (m6 45 6) ≤ 700 := zi_rd hIm6 zq_45 zb_9_6
      generalize hmm8 : zu_up m6 a0 10 (m6 45 6) = m8
      have hIm8 := zi_up hmm8 hIm6 hc0 zb_3_10 (by omega) (by omega)
      have hFm8 := zfr_up hmm8 hFm6 hc0 rfl
      refine zw_b (by omega) ?_
      refine zw_some ?_
      refine zw_b (by omega) ?_
      refine zw_some ?_
      refine zw_ite (fun h9 => ?_) (fun h9 => ?_)
      · exfalso; omega
      · refine zw_b (by omega) ?_
        exact zw_some ⟨hIm8, hFm8, ⟨by omega, by omega⟩⟩
  · have r10 : (-2147483648) ≤ (m1 45 5) ∧ (m1 45 5) ≤ 2147483647 := zi_rd hIm1 zq_45 zb_9_5
    refine zw_ite (fun h11 => ?_) (fun h11 => ?_)
    · refine zw_b (by omega) ?_
      refine zw_some ?_
      refine zw_ite (fun h12 => ?_) (fun h12 => ?_)
      · exfalso; omega
      · refine zw_bd (zw_eq (zr_257_0 n a0 1 m1) ?_)
        generalize hmm13 : zu_up m1 a0 9 1 = m13
        have hIm13 := zi_up hmm13 hIm1 hc0 zb_3_9 (by omega) (by omega)
        have hFm13 := zfr_up hmm13 hFm1 hc0 rfl
        have r14 : 0 ≤ (m13 45 6) ∧ (m13 45 6) ≤ 700 := zi_rd hIm13 zq_45 zb_9_6
        generalize hmm15 : zu_up m13 a0 10 (m13 45 6) = m15
        have hIm15 := zi_up hmm15 hIm13 hc0 zb_3_10 (by omega) (by omega)
        have hFm15 := zfr_up hmm15 hFm13 hc0 rfl
        refine zw_b (by omega) ?_
        refine zw_some ?_
        refine zw_b (by omega) ?_
        refine zw_some ?_
        refine zw_ite (fun h16 => ?_) (fun h16 => ?_)
        · exfalso; omega
        · refine zw_b (by omega) ?_
          exact zw_some ⟨hIm15, hFm15, ⟨by omega, by omega⟩⟩
    · have w17 := zu_w32_id (z := 19 + 4) (by omega) (by omega)
      refine zw_ite (fun h18 => ?_) (fun h18 => ?_)
      · refine zw_b (by omega) ?_
        refine zw_some ?_
        refine zw_ite (fun h19 => ?_) (fun h19 => ?_)
        · exfalso; omega
        · refine zw_bd (zw_eq (zr_257_0 n a0 1 m1) ?_)
          generalize hmm20 : zu_up m1 a0 9 1 = m20
          have hIm20 := zi_up hmm20 hIm1 hc0 zb_3_9 (by omega) (by omega)
          have hFm20 := zfr_up hmm20 hFm1 hc0 rfl
          have r21 : 0 ≤ (m20 45 6) ∧ (m20 45 6) ≤ 700 := zi_rd hIm20 zq_45 zb_9_6
          generalize hmm22 : zu_up m20 a0 10 (m20 45 6) = m22
          have hIm22 := zi_up hmm22 hIm20 hc0 zb_3_10 (by omega) (by omega)
          have hFm22 := zfr_up hmm22 hFm20 hc0 rfl
          refine zw_b (by omega) ?_
          refine zw_some ?_
          refine zw_b (by omega) ?_
          refine zw_some ?_
          refine zw_ite (fun h23 => ?_) (fun h23 => ?_)
          · exfalso; omega
          · refine zw_b (by omega) ?_
            exact zw_some ⟨hIm22, hFm22, ⟨by omega, by omega⟩⟩
      · refine zw_b (by omega) ?_
        refine zw_some ?_
        refine zw_ite (fun h24 => ?_) (fun h24 => ?_)
        · have w25 := zu_w32_id (z := (m1 45 5) - 19) (by omega) (by omega)
          generalize hmm26 : zu_up m1 a0 7 (zu_w32 ((m1 45 5) - 19)) = m26
          have hIm26 := zi_up hmm26 hIm1 hc0 zb_3_7 (by omega) (by omega)
          have hFm26 := zfr_up hmm26 hFm1 hc0 rfl
          refine zw_b (by omega) ?_
          refine zw_some ?_
          refine zw_ite (fun h27 => ?_) (fun h27 => ?_)
          · have r28 : (-2147483648) ≤ (m26 a0 7) ∧ (m26 a0 7) ≤ 2147483647 := zi_rd hIm26 hc0 zb_3_7
            have e29 : (m26 a0 7) = (zu_w32 ((m1 45 5) - 19)) := (zs_eq hmm26)
            have b30 : 0 ≤ (m26 a0 7) ∧ (m26 a0 7) < 4 := by omega
            refine zw_if b30 ?_
            have r31 : (-1) ≤ (m26 ((6 + 4) + 3) (m26 a0 7)) ∧ (m26 ((6 + 4) + 3) (m26 a0 7)) ≤ 64 := zi_rd hIm26 (zc_5_2 (zc_4_9 zq_6)) (zb_22 _)
            refine zw_ite (fun h32 => ?_) (fun h32 => ?_)
            · refine zw_bd (zw_mono (zk_198 n hIm26 zq_47 ⟨by omega, by omega⟩) (fun v34 m33 hqm33 => ?_))
              obtain ⟨hIm33, hfm33, hvm33⟩ := hqm33
              have hFm33 := zfr_tr hFm26 hfm33 rfl
              refine zw_ite (fun h35 => ?_) (fun h35 => ?_)
              · refine zw_b (by omega) ?_
                exact zw_some ⟨hIm33, hFm33, ⟨by omega, by omega⟩⟩
              · refine zw_bd (zw_eq (zr_257_0 n a0 v34 m33) ?_)
                generalize hmm36 : zu_up m33 a0 9 v34 = m36
                have hIm36 := zi_up hmm36 hIm33 hc0 zb_3_9 (by omega) (by omega)
                have hFm36 := zfr_up hmm36 hFm33 hc0 rfl
                have r37 : 0 ≤ (m36 45 6) ∧ (m36 45 6) ≤ 700 := zi_rd hIm36 zq_45 zb_9_6
                generalize hmm38 : zu_up m36 a0 10 (m36 45 6) = m38
                have hIm38 := zi_up hmm38 hIm36 hc0 zb_3_10 (by omega) (by omega)
                have hFm38 := zfr_up hmm38 hFm36 hc0 rfl
                refine zw_b (by omega) ?_
                refine zw_some ?_
                refine zw_ite (fun h39 => ?_) (fun h39 => ?_)
                · refine zw_b (by omega) ?_
                  exact zw_some ⟨hIm38, hFm38, ⟨by omega, by omega⟩⟩
                · exfalso; omega
            · refine zw_bd (zw_eq (zr_257_0 n a0 3 m26) ?_)
              generalize hmm40 : zu_up m26 a0 9 3 = m40
              have hIm40 := zi_up hmm40 hIm26 hc0 zb_3_9 (by omega) (by omega)
              have hFm40 := zfr_up hmm40 hFm26 hc0 rfl
              have r41 : 0 ≤ (m40 45 6) ∧ (m40 45 6) ≤ 700 := zi_rd hIm40 zq_45 zb_9_6
              generalize hmm42 : zu_up m40 a0 10 (m40 45 6) = m42
              have hIm42 := zi_up hmm42 hIm40 hc0 zb_3_10 (by omega) (by omega)
              have hFm42 := zfr_up hmm42 hFm40 hc0 rfl
              refine zw_b (by omega) ?_
              refine zw_some ?_
              refine zw_b (by omega) ?_
              exact zw_some ⟨hIm42, hFm42, ⟨by omega, by omega⟩⟩
          · exfalso; omega
        · exfalso; omega
set_option maxHeartbeats 4000000 in
theorem zl_290 (n : Nat) {a0 a1 a2 a3 : Int} {m0 : zu_m} (hc0 : zcls a0 = 14)  : ∀ k : Nat, (∀ (x4 : Int) (mh : zu_m), zi_I mh → zfr [(24, 0), (27, 0), (53, 0), (54, 0), (55, 0), (56, 0), (57, 0)] m0 mh → (0 ≤ a1 ∧ a1 ≤ 3) → (0 ≤ a2 ∧ a2 ≤ 47) → (1 ≤ a3 ∧ a3 ≤ 18) → (0 ≤ x4 ∧ x4 ≤ 18) → (18 - x4) * 1 + 0 < (k : Int) → zw (zu_ex (zt_T n) 290 3 [(33, a0), (0, a1), (0, a2), (0, a3), (0, x4)] [] mh) (fun v m => zi_I m ∧ zfr [(24, 0), (27, 0), (53, 0), (54, 0), (55, 0), (56, 0), (57, 0)] m0 m ∧ True)) := by
  intro k
  induction k with
  | zero => exact fun x4 mh hImh hFmh hba1 hba2 hba3 hbx4 hM => by exfalso; omega
  | succ k ih =>
    intro x4 mh hImh hFmh hba1 hba2 hba3 hbx4 hM
    refine zw_eq (zr_290_3 n a0 a1 a2 a3 x4 mh) ?_
    refine zw_ite (fun h1 => ?_) (fun h1 => ?_)
    · exact zw_some ⟨hImh, hFmh, trivial⟩
    · refine zw_ite (fun h2 => ?_) (fun h2 => ?_)
      · exfalso; omega
      · have b3 : 0 ≤ a2 ∧ a2 < 48 := by omega
        refine zw_if b3 ?_
        have r4 : (-2147483648) ≤ (mh 157 a2) ∧ (mh 157 a2) ≤ 2147483647 := zi_rd hImh zq_157 (zb_54 _)
        refine zw_ite (fun h5 => ?_) (fun h5 => ?_)
        · exact zw_some ⟨hImh, hFmh, trivial⟩
        · have b6 : 0 ≤ x4 ∧ x4 < 18 := by omega
          refine zw_if b6 ?_
          have r7 : 0 ≤ (mh 156 x4) ∧ (mh 156 x4) ≤ 1 := zi_rd hImh zq_156 (zb_53 _)
          refine zw_ite (fun h8 => ?_) (fun h8 => ?_)
          · have w9 := zu_w32_id (z := x4 + 1) (by omega) (by omega)
            have hM : (18 - (zu_w32 (x4 + 1))) * 1 + 0 < (k : Int) := by omega
            exact ih (zu_w32 (x4 + 1)) mh hImh hFmh ⟨by omega, by omega⟩ ⟨by omega, by omega⟩ ⟨by omega, by omega⟩ ⟨by omega, by omega⟩ hM
          · have b10 : 0 ≤ x4 ∧ x4 < 18 := by omega
            refine zw_if b10 ?_
            have r11 : 0 ≤ (mh 155 x4) ∧ (mh 155 x4) ≤ 47 := zi_rd hImh zq_155 (zb_52 _)
            refine zw_ite (fun h12 => ?_) (fun h12 => ?_)
            · have w13 := zu_w32_id (z := x4 + 1) (by omega) (by omega)
              have hM : (18 - (zu_w32 (x4 + 1))) * 1 + 0 < (k : Int) := by omega
              exact ih (zu_w32 (x4 + 1)) mh hImh hFmh ⟨by omega, by omega⟩ ⟨by omega, by omega⟩ ⟨by omega, by omega⟩ ⟨by omega, by omega⟩ hM
            · refine zw_bd (zw_mono (zk_291 n hImh hc0 ⟨by omega, by omega⟩ ⟨by omega, by omega⟩) (fun v15 m14 hqm14 => ?_))
              obtain ⟨hIm14, hfm14, hvm14⟩ := hqm14
              have hFm14 := zfr_tr hFmh hfm14 rfl
              refine zw_ite (fun h16 => ?_) (fun h16 => ?_)
              · have w17 := zu_w32_id (z := x4 + 1) (by omega) (by omega)
                have hM : (18 - (zu_w32 (x4 + 1))) * 1 + 0 < (k : Int) := by omega
                exact ih (zu_w32 (x4 + 1)) m14 hIm14 hFm14 ⟨by omega, by omega⟩ ⟨by omega, by omega⟩ ⟨by omega, by omega⟩ ⟨by omega, by omega⟩ hM
              · refine zw_b (by omega) ?_
                have b18 : 0 ≤ x4 ∧ x4 < 18 := by omega
                refine zw_if b18 ?_
                generalize hmm19 : zu_up m14 156 x4 1 = m19
                have hIm19 := zi_up hmm19 hIm14 zq_156 (zb_53 _) (by omega) (by omega)
                have hFm19 := zfr_up hmm19 hFm14 zq_156 rfl
                have b20 : 0 ≤ a2 ∧ a2 < 48 := by omega
                refine zw_if b20 ?_
                have r21 : (-2147483648) ≤ (m19 157 a2) ∧ (m19 157 a2) ≤ 2147483647 := zi_rd hIm19 zq_157 (zb_54 _)
                have e22 : (m19 157 a2) = (mh 157 a2) := (Eq.trans (zs_ne hmm19 (Or.inl (zc_ne zq_157 zq_156 (by decide)))) (zfr_ap hfm14 zq_157 rfl))
                have w23 := zu_w32_id (z := (m19 157 a2) - 1) (by omega) (by omega)
                have b24 : 0 ≤ a2 ∧ a2 < 48 := by omega
                refine zw_if b24 ?_
                generalize hmm25 : zu_up m19 157 a2 (zu_w32 ((m19 157 a2) - 1)) = m25
                have hIm25 := zi_up hmm25 hIm19 zq_157 (zb_54 _) (by omega) (by omega)
                have hFm25 := zfr_up hmm25 hFm19 zq_157 rfl
                have b26 : 0 ≤ a1 ∧ a1 < 4 := by omega
                refine zw_if b26 ?_
                have r27 : (-2147483648) ≤ (m25 158 a1) ∧ (m25 158 a1) ≤ 2147483647 := zi_rd hIm25 zq_158 (zb_55 _)
                have w28 := zu_w32_rg ((m25 158 a1) + 1)
                have b29 : 0 ≤ a1 ∧ a1 < 4 := by omega
                refine zw_if b29 ?_
                generalize hmm30 : zu_up m25 158 a1 (zu_w32 ((m25 158 a1) + 1)) = m30
                have hIm30 := zi_up hmm30 hIm25 zq_158 (zb_55 _) (by omega) (by omega)
                have hFm30 := zfr_up hmm30 hFm25 zq_158 rfl
                have w31 := zu_w32_id (z := x4 + 1) (by omega) (by omega)
                have hM : (18 - (zu_w32 (x4 + 1))) * 1 + 0 < (k : Int) := by omega
                exact ih (zu_w32 (x4 + 1)) m30 hIm30 hFm30 ⟨by omega, by omega⟩ ⟨by omega, by omega⟩ ⟨by omega, by omega⟩ ⟨by omega, by omega⟩ hM
set_option maxHeartbeats 4000000 in
theorem zk_290 (n : Nat) {a0 a1 a2 a3 : Int} {m0 : zu_m} (hIm0 : zi_I m0) (hc0 : zcls a0 = 14) (ha1 : 0 ≤ a1 ∧ a1 ≤ 3) (ha2 : 0 ≤ a2 ∧ a2 ≤ 47) (ha3 : 1 ≤ a3 ∧ a3 ≤ 18)    : zw (zu_call (zt_T n) 290 [(33, a0), (0, a1), (0, a2), (0, a3)] m0) (fun v m => zi_I m ∧ zfr [(24, 0), (27, 0), (53, 0), (54, 0), (55, 0), (56, 0), (57, 0)] m0 m ∧ True) := by
  have hFm0 : zfr [(24, 0), (27, 0), (53, 0), (54, 0), (55, 0), (56, 0), (57, 0)] m0 m0 := zfr_rf _ _
  refine zw_eq (zr_290_0 n a0 a1 a2 a3 m0) ?_
  have hM : (18 - 0) * 1 + 0 < ((19 : Nat) : Int) := by omega
  exact (zl_290 n (m0 := m0) hc0 19) 0 m0 hIm0 hFm0 ⟨by omega, by omega⟩ ⟨by omega, by omega⟩ ⟨by omega, by omega⟩ ⟨by omega, by omega⟩ hM
set_option maxHeartbeats 4000000 in
theorem zl_33 (n : Nat) {a0 : Int} {m0 : zu_m} (hc0 : zcls a0 = 15)  : ∀ k : Nat, (∀ (x1 : Int) (mh : zu_m), zi_I mh → zfr [(15, 54), (15, 63), (15, 64), (15, 65), (15, 66), (15, 67), (15, 68), (15, 69), (15, 70), (15, 78), (15, 79), (15, 82), (15, 84), (83, 0), (84, 0), (85, 0), (86, 0), (87, 0), (88, 0), (89, 0), (90, 0), (91, 0), (92, 0)] m0 mh → (0 ≤ x1 ∧ x1 ≤ 4) → ((-1) ≤ mh a0 62 ∧ mh a0 62 ≤ 99999) → ((-1) ≤ mh a0 63 ∧ mh a0 63 ≤ 99999) → (4 - x1) * 1 + 49 < (k : Int) → zw (zu_ex (zt_T n) 33 32 [(40, a0), (0, x1)] [] mh) (fun v m => zi_I m ∧ zfr [(15, 54), (15, 63), (15, 64), (15, 65), (15, 66), (15, 67), (15, 68), (15, 69), (15, 70), (15, 78), (15, 79), (15, 82), (15, 84), (83, 0), (84, 0), (85, 0), (86, 0), (87, 0), (88, 0), (89, 0), (90, 0), (91, 0), (92, 0)] m0 m ∧ True ∧ ((-1) ≤ m a0 62 ∧ m a0 62 ≤ 99999) ∧ ((-1) ≤ m a0 63 ∧ m a0 63 ≤ 99999) ∧ (0 ≤ m a0 77 ∧ m a0 77 ≤ 0) ∧ ((-1) ≤ m a0 78 ∧ m a0 78 ≤ (-1)) ∧ (0 ≤ m a0 81 ∧ m a0 81 ≤ 0) ∧ (0 ≤ m a0 83 ∧ m a0 83 ≤ 0))) ∧ (∀ (x1 : Int) (mh : zu_m), zi_I mh → zfr [(15, 54), (15, 63), (15, 64), (15, 65), (15, 66), (15, 67), (15, 68), (15, 69), (15, 70), (15, 78), (15, 79), (15, 82), (15, 84), (83, 0), (84, 0), (85, 0), (86, 0), (87, 0), (88, 0), (89, 0), (90, 0), (91, 0), (92, 0)] m0 mh → (0 ≤ x1 ∧ x1 ≤ 48) → ((-1) ≤ mh a0 62 ∧ mh a0 62 ≤ 99999) → ((-1) ≤ mh a0 63 ∧ mh a0 63 ≤ 99999) → (48 - x1) * 1 + 0 < (k : Int) → zw (zu_ex (zt_T n) 33 52 [(40, a0), (0, x1)] [] mh) (fun v m => zi_I m ∧ zfr [(15, 54), (15, 63), (15, 64), (15, 65), (15, 66), (15, 67), (15, 68), (15, 69), (15, 70), (15, 78), (15, 79), (15, 82), (15, 84), (83, 0), (84, 0), (85, 0), (86, 0), (87, 0), (88, 0), (89, 0), (90, 0), (91, 0), (92, 0)] m0 m ∧ True ∧ ((-1) ≤ m a0 62 ∧ m a0 62 ≤ 99999) ∧ ((-1) ≤ m a0 63 ∧ m a0 63 ≤ 99999) ∧ (0 ≤ m a0 77 ∧ m a0 77 ≤ 0) ∧ ((-1) ≤ m a0 78 ∧ m a0 78 ≤ (-1)) ∧ (0 ≤ m a0 81 ∧ m a0 81 ≤ 0) ∧ (0 ≤ m a0 83 ∧ m a0 83 ≤ 0))) := by
  intro k
  induction k with
  | zero => exact ⟨fun x1 mh hImh hFmh hbx1 hg1 hg2 hM => by exfalso; omega, fun x1 mh hImh hFmh hbx1 hg1 hg2 hM => by exfalso; omega⟩
  | succ k ih =>
    refine ⟨?_, ?_⟩
    · intro x1 mh hImh hFmh hbx1 hg1 hg2 hM
      refine zw_eq (zr_33_32 n a0 x1 mh) ?_
      refine zw_ite (fun h1 => ?_) (fun h1 => ?_)
      · have hM : (48 - 0) * 1 + 0 < (k : Int) := by omega
        exact ih.2 0 mh hImh hFmh ⟨by omega, by omega⟩ ⟨by omega, by omega⟩ ⟨by omega, by omega⟩ hM
      · have b2 : 0 ≤ x1 ∧ x1 < 4 := by omega
        refine zw_if b2 ?_
        generalize hmm3 : zu_up mh 219 x1 0 = m3
        have hIm3 := zi_up hmm3 hImh zq_219 (zb_89 _) (by omega) (by omega)
        have hFm3 := zfr_up hmm3 hFmh zq_219 rfl
        have w4 := zu_w32_id (z := x1 + 1) (by omega) (by omega)
        have r5 : (-2147483648) ≤ (m3 a0 62) ∧ (m3 a0 62) ≤ 2147483647 := zi_rd hIm3 hc0 zb_15_62
        have e6 : (m3 a0 62) = (mh a0 62) := (zs_ne hmm3 (Or.inl (zc_ne hc0 zq_219 (by decide))))
        have r7 : (-9223372036854775808) ≤ (m3 a0 63) ∧ (m3 a0 63) ≤ 9223372036854775807 := zi_rd hIm3 hc0 zb_15_63
        have e8 : (m3 a0 63) = (mh a0 63) := (zs_ne hmm3 (Or.inl (zc_ne hc0 zq_219 (by decide))))
        have hM : (4 - (zu_w32 (x1 + 1))) * 1 + 49 < (k : Int) := by omega
        exact ih.1 (zu_w32 (x1 + 1)) m3 hIm3 hFm3 ⟨by omega, by omega⟩ ⟨by omega, by omega⟩ ⟨by omega, by omega⟩ hM
    · intro x1 mh hImh hFmh hbx1 hg1 hg2 hM
      refine zw_eq (zr_33_52 n a0 x1 mh) ?_
      refine zw_ite (fun h9 => ?_) (fun h9 => ?_)
      · generalize hmm10 : zu_up mh a0 77 0 = m10
        have hIm10 := zi_up hmm10 hImh hc0 zb_15_77 (by omega) (by omega)
        have hFm10 := zfr_up hmm10 hFmh hc0 rfl
        generalize hmm11 : zu_up m10 a0 78 (-1) = m11
        have hIm11 := zi_up hmm11 hIm10 hc0 zb_15_78 (by omega) (by omega)
        have hFm11 := zfr_up hmm11 hFm10 hc0 rfl
        generalize hmm12 : zu_up m11 a0 81 0 = m12
        have hIm12 := zi_up hmm12 hIm11 hc0 zb_15_81 (by omega) (by omega)
        have hFm12 := zfr_up hmm12 hFm11 hc0 rfl
        refine zw_b (by omega) ?_
        generalize hmm13 : zu_up m12 a0 83 0 = m13
        have hIm13 := zi_up hmm13 hIm12 hc0 zb_15_83 (by omega) (by omega)
        have hFm13 := zfr_up hmm13 hFm12 hc0 rfl
        have r14 : (-2147483648) ≤ (m13 a0 62) ∧ (m13 a0 62) ≤ 2147483647 := zi_rd hIm13 hc0 zb_15_62
        have e15 : (m13 a0 62) = (mh a0 62) := (Eq.trans (zs_ne hmm13 (Or.inr (by decide))) (Eq.trans (zs_ne hmm12 (Or.inr (by decide))) (Eq.trans (zs_ne hmm11 (Or.inr (by decide))) (zs_ne hmm10 (Or.inr (by decide))))))
        have r16 : (-9223372036854775808) ≤ (m13 a0 63) ∧ (m13 a0 63) ≤ 9223372036854775807 := zi_rd hIm13 hc0 zb_15_63
        have e17 : (m13 a0 63) = (mh a0 63) := (Eq.trans (zs_ne hmm13 (Or.inr (by decide))) (Eq.trans (zs_ne hmm12 (Or.inr (by decide))) (Eq.trans (zs_ne hmm11 (Or.inr (by decide))) (zs_ne hmm10 (Or.inr (by decide))))))
        have r18 : 0 ≤ (m13 a0 77) ∧ (m13 a0 77) ≤ 24 := zi_rd hIm13 hc0 zb_15_77
        have e19 : (m13 a0 77) = 0 := (Eq.trans (zs_ne hmm13 (Or.inr (by decide))) (Eq.trans (zs_ne hmm12 (Or.inr (by decide))) (Eq.trans (zs_ne hmm11 (Or.inr (by decide))) (zs_eq hmm10))))
        have r20 : (-1) ≤ (m13 a0 78) ∧ (m13 a0 78) ≤ 24 := zi_rd hIm13 hc0 zb_15_78
        have e21 : (m13 a0 78) = (-1) := (Eq.trans (zs_ne hmm13 (Or.inr (by decide))) (Eq.trans (zs_ne hmm12 (Or.inr (by decide))) (zs_eq hmm11)))
        have r22 : 0 ≤ (m13 a0 81) ∧ (m13 a0 81) ≤ 20 := zi_rd hIm13 hc0 zb_15_81
        have e23 : (m13 a0 81) = 0 := (Eq.trans (zs_ne hmm13 (Or.inr (by decide))) (zs_eq hmm12))
        have r24 : 0 ≤ (m13 a0 83) ∧ (m13 a0 83) ≤ 1 := zi_rd hIm13 hc0 zb_15_83
        have e25 : (m13 a0 83) = 0 := (zs_eq hmm13)
        exact zw_some ⟨hIm13, hFm13, trivial, ⟨by omega, by omega⟩, ⟨by omega, by omega⟩, ⟨by omega, by omega⟩, ⟨by omega, by omega⟩, ⟨by omega, by omega⟩, ⟨by omega, by omega⟩⟩
      · refine zw_bd (zw_eq (zr_36_0 n a0 mh) ?_)
        have r26 : 1 ≤ (mh a0 12) ∧ (mh a0 12) ≤ 8 := zi_rd hImh hc0 zb_15_12
        have r27 : 1 ≤ (mh a0 13) ∧ (mh a0 13) ≤ 6 := zi_rd hImh hc0 zb_15_13
        have p28 := zmul_bd (x := (mh a0 12)) (y := (mh a0 13)) (a := 1) (b := 1) (A := 8) (B := 6) (by omega) (by omega) (by omega) (by omega) (by omega) (by omega)
        have w29 := zu_w32_id (z := (mh a0 12) * (mh a0 13)) (by omega) (by omega)
        refine zw_some ?_
        refine zw_ite (fun h30 => ?_) (fun h30 => ?_)
        · have b31 : 0 ≤ x1 ∧ x1 < 48 := by omega
          refine zw_if b31 ?_
          generalize hmm32 : zu_up mh 222 x1 0 = m32
          have hIm32 := zi_up hmm32 hImh zq_222 (zb_92 _) (by omega) (by omega)
          have hFm32 := zfr_up hmm32 hFmh zq_222 rfl
          have w33 := zu_w32_id (z := x1 + 1) (by omega) (by omega)
          have r34 : (-2147483648) ≤ (m32 a0 62) ∧ (m32 a0 62) ≤ 2147483647 := zi_rd hIm32 hc0 zb_15_62
          have e35 : (m32 a0 62) = (mh a0 62) := (zs_ne hmm32 (Or.inl (zc_ne hc0 zq_222 (by decide))))
          have r36 : (-9223372036854775808) ≤ (m32 a0 63) ∧ (m32 a0 63) ≤ 9223372036854775807 := zi_rd hIm32 hc0 zb_15_63
          have e37 : (m32 a0 63) = (mh a0 63) := (zs_ne hmm32 (Or.inl (zc_ne hc0 zq_222 (by decide))))
          have hM : (48 - (zu_w32 (x1 + 1))) * 1 + 0 < (k : Int) := by omega
          exact ih.2 (zu_w32 (x1 + 1)) m32 hIm32 hFm32 ⟨by omega, by omega⟩ ⟨by omega, by omega⟩ ⟨by omega, by omega⟩ hM
        · refine zw_bd (zw_mono (zk_37 n hImh hc0 ⟨by omega, by omega⟩) (fun v39 m38 hqm38 => ?_))
          obtain ⟨hIm38, hfm38, hvm38⟩ := hqm38
          have hFm38 := zfr_tr hFmh hfm38 rfl
          have w40 := zu_w32_rg (1000 * v39)
          have b41 : 0 ≤ x1 ∧ x1 < 48 := by omega
          refine zw_if b41 ?_
          generalize hmm42 : zu_up m38 222 x1 (zu_w32 (1000 * v39)) = m42
          have hIm42 := zi_up hmm42 hIm38 zq_222 (zb_92 _) (by omega) (by omega)
          have hFm42 := zfr_up hmm42 hFm38 zq_222 rfl
          have w43 := zu_w32_id (z := x1 + 1) (by omega) (by omega)
          have r44 : (-2147483648) ≤ (m42 a0 62) ∧ (m42 a0 62) ≤ 2147483647 := zi_rd hIm42 hc0 zb_15_62
          have e45 : (m42 a0 62) = (mh a0 62) := (Eq.trans (zs_ne hmm42 (Or.inl (zc_ne hc0 zq_222 (by decide)))) (zfr_ap hfm38 hc0 rfl))
          have r46 : (-9223372036854775808) ≤ (m42 a0 63) ∧ (m42 a0 63) ≤ 9223372036854775807 := zi_rd hIm42 hc0 zb_15_63
          have e47 : (m42 a0 63) = (mh a0 63) := (Eq.trans (zs_ne hmm42 (Or.inl (zc_ne hc0 zq_222 (by decide)))) (zfr_ap hfm38 hc0 rfl))
          have hM : (48 - (zu_w32 (x1 + 1))) * 1 + 0 < (k : Int) := by omega
          exact ih.2 (zu_w32 (x1 + 1)) m42 hIm42 hFm42 ⟨by omega, by omega⟩ ⟨by omega, by omega⟩ ⟨by omega, by omega⟩ hM
set_option maxHeartbeats 4000000 in
theorem zk_33 (n : Nat) {a0 : Int} {m0 : zu_m} (hIm0 : zi_I m0) (hc0 : zcls a0 = 15)     : zw (zu_call (zt_T n) 33 [(40, a0)] m0) (fun v m => zi_I m ∧ zfr [(15, 54), (15, 63), (15, 64), (15, 65), (15, 66), (15, 67), (15, 68), (15, 69), (15, 70), (15, 78), (15, 79), (15, 82), (15, 84), (83, 0), (84, 0), (85, 0), (86, 0), (87, 0), (88, 0), (89, 0), (90, 0), (91, 0), (92, 0)] m0 m ∧ True ∧ ((-1) ≤ m a0 62 ∧ m a0 62 ≤ 99999) ∧ ((-1) ≤ m a0 63 ∧ m a0 63 ≤ 99999) ∧ (0 ≤ m a0 77 ∧ m a0 77 ≤ 0) ∧ ((-1) ≤ m a0 78 ∧ m a0 78 ≤ (-1)) ∧ (0 ≤ m a0 81 ∧ m a0 81 ≤ 0) ∧ (0 ≤ m a0 83 ∧ m a0 83 ≤ 0)) := by
  have hFm0 : zfr [(15, 54), (15, 63), (15, 64), (15, 65), (15, 66), (15, 67), (15, 68), (15, 69), (15, 70), (15, 78), (15, 79), (15, 82), (15, 84), (83, 0), (84, 0), (85, 0), (86, 0), (87, 0), (88, 0), (89, 0), (90, 0), (91, 0), (92, 0)] m0 m0 := zfr_rf _ _
  refine zw_eq (zr_33_0 n a0 m0) ?_
  refine zw_bd (zw_mono (zk_34 n hIm0 hc0 ⟨by omega, by omega⟩) (fun v49 m48 hqm48 => ?_))
  obtain ⟨hIm48, hfm48, hvm48⟩ := hqm48
  have hFm48 := zfr_tr hFm0 hfm48 rfl
  have b50 : 0 ≤ (0 : Int) ∧ (0 : Int) < 10 := by omega
  refine zw_if b50 ?_
  have r51 : (-1) ≤ (m48 194 0) ∧ (m48 194 0) ≤ 99999 := zi_rd hIm48 zq_194 (zb_64 _)
  generalize hmm52 : zu_up m48 a0 62 (m48 194 0) = m52
  have hIm52 := zi_up hmm52 hIm48 hc0 zb_15_62 (by omega) (by omega)
  have hFm52 := zfr_up hmm52 hFm48 hc0 rfl
  have b53 : 0 ≤ (4 : Int) ∧ (4 : Int) < 10 := by omega
  refine zw_if b53 ?_
  have r54 : (-1) ≤ (m52 194 4) ∧ (m52 194 4) ≤ 99999 := zi_rd hIm52 zq_194 (zb_64 _)
  generalize hmm55 : zu_up m52 a0 63 (m52 194 4) = m55
  have hIm55 := zi_up hmm55 hIm52 hc0 zb_15_63 (by omega) (by omega)
  have hFm55 := zfr_up hmm55 hFm52 hc0 rfl
  refine zw_bd (zw_mono (zk_35 n hIm55 hc0) (fun v57 m56 hqm56 => ?_))
  obtain ⟨hIm56, hfm56, hvm56⟩ := hqm56
  have hFm56 := zfr_tr hFm55 hfm56 rfl
  have r58 : (-2147483648) ≤ (m56 a0 62) ∧ (m56 a0 62) ≤ 2147483647 := zi_rd hIm56 hc0 zb_15_62
  have e59 : (m56 a0 62) = (m48 194 0) := (Eq.trans (zfr_ap hfm56 hc0 rfl) (Eq.trans (zs_ne hmm55 (Or.inr (by decide))) (zs_eq hmm52)))
  have r60 : (-9223372036854775808) ≤ (m56 a0 63) ∧ (m56 a0 63) ≤ 9223372036854775807 := zi_rd hIm56 hc0 zb_15_63
  have e61 : (m56 a0 63) = (m52 194 4) := (Eq.trans (zfr_ap hfm56 hc0 rfl) (zs_eq hmm55))
  have hM : (4 - 0) * 1 + 49 < ((54 : Nat) : Int) := by omega
  exact (zl_33 n (m0 := m0) hc0 54).1 0 m56 hIm56 hFm56 ⟨by omega, by omega⟩ ⟨by omega, by omega⟩ ⟨by omega, by omega⟩ hM
set_option maxHeartbeats 4000000 in
theorem zk_47 (n : Nat) {a0 a1 a2 : Int} {m0 : zu_m} (hIm0 : zi_I m0) (hc0 : zcls a0 = 2) (ha1 : (-2147483648) ≤ a1 ∧ a1 ≤ 2147483647) (ha2 : (-2147483648) ≤ a2 ∧ a2 ≤ 2147483647)    : zw (zu_call (zt_T n) 47 [(5, a0), (0, a1), (0, a2)] m0) (fun v m => zi_I m ∧ zfr [(24, 0), (27, 0)] m0 m ∧ ((-2147483648) ≤ v ∧ v ≤ 2147483647)) := by
  have hFm0 : zfr [(24, 0), (27, 0)] m0 m0 := zfr_rf _ _
  refine zw_eq (zr_47_0 n a0 a1 a2 m0) ?_
  refine zw_bd (zw_eq (zr_211_0 n 89 a1 m0) ?_)
  refine zw_ite (fun h1 => ?_) (fun h1 => ?_)
  · refine zw_b (by omega) ?_
    refine zw_some ?_
    refine zw_ite (fun h2 => ?_) (fun h2 => ?_)
    · exfalso; omega
    · exact zw_some ⟨hIm0, hFm0, ⟨by omega, by omega⟩⟩
  · have r3 : 0 ≤ (m0 89 4) ∧ (m0 89 4) ≤ 4 := zi_rd hIm0 zq_89 zb_11_4
    refine zw_ite (fun h4 => ?_) (fun h4 => ?_)
    · refine zw_b (by omega) ?_
      refine zw_some ?_
      refine zw_ite (fun h5 => ?_) (fun h5 => ?_)
      · exfalso; omega
      · exact zw_some ⟨hIm0, hFm0, ⟨by omega, by omega⟩⟩
    · refine zw_b (by omega) ?_
      refine zw_some ?_
      refine zw_ite (fun h6 => ?_) (fun h6 => ?_)
      · have b7 : 0 ≤ a1 ∧ a1 < 4 := by omega
        refine zw_if b7 ?_
        refine zw_ite (fun h8 => ?_) (fun h8 => ?_)
        · have r9 : 0 ≤ (m0 ((89 + 2) + 20 + a1) 1) ∧ (m0 ((89 + 2) + 20 + a1) 1) ≤ 47 := zi_rd hIm0 (zc_37_e (zc_11_3 zq_89) b7) zb_8_1
          exact zw_some ⟨hIm0, hFm0, ⟨by omega, by omega⟩⟩
        · refine zw_ite (fun h10 => ?_) (fun h10 => ?_)
          · have r11 : (-2147483648) ≤ (m0 ((89 + 2) + 20 + a1) 6) ∧ (m0 ((89 + 2) + 20 + a1) 6) ≤ 2147483647 := zi_rd hIm0 (zc_37_e (zc_11_3 zq_89) b7) zb_8_6
            exact zw_some ⟨hIm0, hFm0, ⟨by omega, by omega⟩⟩
          · refine zw_ite (fun h12 => ?_) (fun h12 => ?_)
            · refine zw_bd (zw_mono (zk_236 n hIm0 zq_89 ⟨by omega, by omega⟩) (fun v14 m13 hqm13 => ?_))
              obtain ⟨hIm13, hfm13, hvm13⟩ := hqm13
              have hFm13 := zfr_tr hFm0 hfm13 rfl
              exact zw_some ⟨hIm13, hFm13, ⟨by omega, by omega⟩⟩
            · refine zw_ite (fun h15 => ?_) (fun h15 => ?_)
              · have r16 : (-2147483648) ≤ (m0 ((89 + 2) + 20 + a1) 5) ∧ (m0 ((89 + 2) + 20 + a1) 5) ≤ 2147483647 := zi_rd hIm0 (zc_37_e (zc_11_3 zq_89) b7) zb_8_5
                exact zw_some ⟨hIm0, hFm0, ⟨by omega, by omega⟩⟩
              · refine zw_ite (fun h17 => ?_) (fun h17 => ?_)
                · refine zw_bd (zw_mono (zk_237 n hIm0 zq_89 ⟨by omega, by omega⟩) (fun v19 m18 hqm18 => ?_))
                  obtain ⟨hIm18, hfm18, hvm18⟩ := hqm18
                  have hFm18 := zfr_tr hFm0 hfm18 rfl
                  exact zw_some ⟨hIm18, hFm18, ⟨by omega, by omega⟩⟩
                · exact zw_some ⟨hIm0, hFm0, ⟨by omega, by omega⟩⟩
      · exfalso; omega
set_option maxHeartbeats 4000000 in
theorem zk_57 (n : Nat) {a0 a1 : Int} {m0 : zu_m} (hIm0 : zi_I m0) (hc0 : zcls a0 = 2) (ha1 : (-2147483648) ≤ a1 ∧ a1 ≤ 2147483647)    : zw (zu_call (zt_T n) 57 [(5, a0), (0, a1)] m0) (fun v m => zi_I m ∧ zfr [(7, 4), (8, 2), (8, 6), (8, 7), (8, 8), (11, 9), (11, 10), (13, 5), (24, 0), (27, 0), (38, 0), (39, 0)] m0 m ∧ ((-2147483648) ≤ v ∧ v ≤ 2147483647)) := by
  have hFm0 : zfr [(7, 4), (8, 2), (8, 6), (8, 7), (8, 8), (11, 9), (11, 10), (13, 5), (24, 0), (27, 0), (38, 0), (39, 0)] m0 m0 := zfr_rf _ _
  refine zw_eq (zr_57_0 n a0 a1 m0) ?_
  refine zw_ite (fun h1 => ?_) (fun h1 => ?_)
  · exact zw_some ⟨hIm0, hFm0, ⟨by omega, by omega⟩⟩
  · refine zw_ite (fun h2 => ?_) (fun h2 => ?_)
    · exact zw_some ⟨hIm0, hFm0, ⟨by omega, by omega⟩⟩
    · have r3 : (-2147483648) ≤ (m0 89 8) ∧ (m0 89 8) ≤ 2147483647 := zi_rd hIm0 zq_89 zb_11_8
      have w4 := zu_w32_rg ((m0 89 8) + a1)
      refine zw_ite (fun h5 => ?_) (fun h5 => ?_)
      · refine zw_bd (zw_mono (zk_214 n hIm0 zq_89 ⟨by omega, by omega⟩ ⟨by omega, by omega⟩) (fun v7 m6 hqm6 => ?_))
        obtain ⟨hIm6, hfm6, hvm6⟩ := hqm6
        have hFm6 := zfr_tr hFm0 hfm6 rfl
        refine zw_ite (fun h8 => ?_) (fun h8 => ?_)
        · have r9 : (-2147483648) ≤ (m6 89 8) ∧ (m6 89 8) ≤ 2147483647 := zi_rd hIm6 zq_89 zb_11_8
          exact zw_some ⟨hIm6, hFm6, ⟨by omega, by omega⟩⟩
        · refine zw_bd (zw_mono (zk_28 n hIm6 zq_148) (fun v11 m10 hqm10 => ?_))
          obtain ⟨hIm10, hfm10, hvm10⟩ := hqm10
          have hFm10 := zfr_tr hFm6 hfm10 rfl
          have r12 : (-2147483648) ≤ (m10 89 8) ∧ (m10 89 8) ≤ 2147483647 := zi_rd hIm10 zq_89 zb_11_8
          exact zw_some ⟨hIm10, hFm10, ⟨by omega, by omega⟩⟩
      · exact zw_some ⟨hIm0, hFm0, ⟨by omega, by omega⟩⟩
set_option maxHeartbeats 4000000 in
theorem zk_71 (n : Nat) {a0 a1 : Int} {m0 : zu_m} (hIm0 : zi_I m0) (hc0 : zcls a0 = 2) (ha1 : (-2147483648) ≤ a1 ∧ a1 ≤ 2147483647)    : zw (zu_call (zt_T n) 71 [(5, a0), (0, a1)] m0) (fun v m => zi_I m ∧ zfr [(24, 0), (27, 0), (40, 0)] m0 m ∧ ((-8) ≤ v ∧ v ≤ 3)) := by
  have hFm0 : zfr [(24, 0), (27, 0), (40, 0)] m0 m0 := zfr_rf _ _
  refine zw_eq (zr_71_0 n a0 a1 m0) ?_
  refine zw_bd (zw_eq (zr_210_0 n 89 a1 m0) ?_)
  refine zw_ite (fun h1 => ?_) (fun h1 => ?_)
  · refine zw_b (by omega) ?_
    refine zw_some ?_
    refine zw_ite (fun h2 => ?_) (fun h2 => ?_)
    · exact zw_some ⟨hIm0, hFm0, ⟨by omega, by omega⟩⟩
    · exfalso; omega
  · have r3 : 0 ≤ (m0 89 2) ∧ (m0 89 2) ≤ 16 := zi_rd hIm0 zq_89 zb_11_2
    refine zw_ite (fun h4 => ?_) (fun h4 => ?_)
    · refine zw_b (by omega) ?_
      refine zw_some ?_
      refine zw_ite (fun h5 => ?_) (fun h5 => ?_)
      · exact zw_some ⟨hIm0, hFm0, ⟨by omega, by omega⟩⟩
      · exfalso; omega
    · refine zw_b (by omega) ?_
      refine zw_some ?_
      refine zw_ite (fun h6 => ?_) (fun h6 => ?_)
      · exfalso; omega
      · refine zw_bd (zw_mono (zk_243 n hIm0 zq_89 ⟨by omega, by omega⟩ ⟨by omega, by omega⟩) (fun v8 m7 hqm7 => ?_))
        obtain ⟨hIm7, hfm7, hvm7⟩ := hqm7
        have hFm7 := zfr_tr hFm0 hfm7 rfl
        exact zw_some ⟨hIm7, hFm7, ⟨by omega, by omega⟩⟩

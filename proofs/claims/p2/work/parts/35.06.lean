set_option maxHeartbeats 4000000 in
theorem zk_148 (n : Nat) {a0 a1 a2 a3 : Int} {m0 : zu_m} (hIm0 : zi_I m0) (hc0 : zcls a0 = 28) (ha1 : (-2147483648) ≤ a1 ∧ a1 ≤ 2147483647) (ha2 : (-2147483648) ≤ a2 ∧ a2 ≤ 2147483647) (ha3 : (-2147483648) ≤ a3 ∧ a3 ≤ 2147483647)     : zw (zu_call (zt_T n) 148 [(40, a0), (0, a1), (0, a2), (0, a3)] m0) (fun v m => zi_I m ∧ zfr [(28, 3), (28, 82), (106, 0), (107, 0), (108, 0), (124, 0), (125, 1), (137, 0)] m0 m ∧ ((-1) ≤ v ∧ v ≤ 15) ∧ (0 ≤ m a0 2 ∧ m a0 2 ≤ 0)) := by
  have hFm0 : zfr [(28, 3), (28, 82), (106, 0), (107, 0), (108, 0), (124, 0), (125, 1), (137, 0)] m0 m0 := zfr_rf _ _
  refine zw_eq (zr_148_0 n a0 a1 a2 a3 m0) ?_
  generalize hmm1 : zu_up m0 a0 2 0 = m1
  have hIm1 := zi_up hmm1 hIm0 hc0 zb_28_2 (by omega) (by omega)
  have hFm1 := zfr_up hmm1 hFm0 hc0 rfl
  refine zw_bd (zw_eq (zr_123_0 n a0 a1 m1) ?_)
  refine zw_ite (fun h2 => ?_) (fun h2 => ?_)
  · refine zw_b (by omega) ?_
    refine zw_some ?_
    refine zw_ite (fun h3 => ?_) (fun h3 => ?_)
    · have r4 : (-2147483648) ≤ (m1 a0 2) ∧ (m1 a0 2) ≤ 2147483647 := zi_rd hIm1 hc0 zb_28_2
      have e5 : (m1 a0 2) = 0 := (zs_eq hmm1)
      exact zw_some ⟨hIm1, hFm1, ⟨by omega, by omega⟩, ⟨by omega, by omega⟩⟩
    · exfalso; omega
  · refine zw_bd (zw_eq (zr_36_0 n a0 m1) ?_)
    have r6 : 1 ≤ (m1 a0 12) ∧ (m1 a0 12) ≤ 8 := zi_rd hIm1 hc0 zb_28_12
    have r7 : 1 ≤ (m1 a0 13) ∧ (m1 a0 13) ≤ 6 := zi_rd hIm1 hc0 zb_28_13
    have p8 := zmul_bd (x := (m1 a0 12)) (y := (m1 a0 13)) (a := 1) (b := 1) (A := 8) (B := 6) (by omega) (by omega) (by omega) (by omega) (by omega) (by omega)
    have w9 := zu_w32_id (z := (m1 a0 12) * (m1 a0 13)) (by omega) (by omega)
    refine zw_some ?_
    refine zw_ite (fun h10 => ?_) (fun h10 => ?_)
    · refine zw_b (by omega) ?_
      refine zw_some ?_
      refine zw_ite (fun h11 => ?_) (fun h11 => ?_)
      · have r12 : (-2147483648) ≤ (m1 a0 2) ∧ (m1 a0 2) ≤ 2147483647 := zi_rd hIm1 hc0 zb_28_2
        have e13 : (m1 a0 2) = 0 := (zs_eq hmm1)
        exact zw_some ⟨hIm1, hFm1, ⟨by omega, by omega⟩, ⟨by omega, by omega⟩⟩
      · exfalso; omega
    · refine zw_b (by omega) ?_
      refine zw_some ?_
      refine zw_ite (fun h14 => ?_) (fun h14 => ?_)
      · exfalso; omega
      · refine zw_bd (zw_eq (zr_83_0 n a2 0 3 m1) ?_)
        refine zw_ite (fun h15 => ?_) (fun h15 => ?_)
        · refine zw_b (by omega) ?_
          refine zw_some ?_
          refine zw_ite (fun h16 => ?_) (fun h16 => ?_)
          · have r17 : (-2147483648) ≤ (m1 a0 2) ∧ (m1 a0 2) ≤ 2147483647 := zi_rd hIm1 hc0 zb_28_2
            have e18 : (m1 a0 2) = 0 := (zs_eq hmm1)
            exact zw_some ⟨hIm1, hFm1, ⟨by omega, by omega⟩, ⟨by omega, by omega⟩⟩
          · exfalso; omega
        · refine zw_ite (fun h19 => ?_) (fun h19 => ?_)
          · refine zw_b (by omega) ?_
            refine zw_some ?_
            refine zw_ite (fun h20 => ?_) (fun h20 => ?_)
            · have r21 : (-2147483648) ≤ (m1 a0 2) ∧ (m1 a0 2) ≤ 2147483647 := zi_rd hIm1 hc0 zb_28_2
              have e22 : (m1 a0 2) = 0 := (zs_eq hmm1)
              exact zw_some ⟨hIm1, hFm1, ⟨by omega, by omega⟩, ⟨by omega, by omega⟩⟩
            · exfalso; omega
          · refine zw_b (by omega) ?_
            refine zw_some ?_
            refine zw_ite (fun h23 => ?_) (fun h23 => ?_)
            · exfalso; omega
            · refine zw_bd (zw_eq (zr_83_0 n a3 0 9 m1) ?_)
              refine zw_ite (fun h24 => ?_) (fun h24 => ?_)
              · refine zw_b (by omega) ?_
                refine zw_some ?_
                refine zw_ite (fun h25 => ?_) (fun h25 => ?_)
                · have r26 : (-2147483648) ≤ (m1 a0 2) ∧ (m1 a0 2) ≤ 2147483647 := zi_rd hIm1 hc0 zb_28_2
                  have e27 : (m1 a0 2) = 0 := (zs_eq hmm1)
                  exact zw_some ⟨hIm1, hFm1, ⟨by omega, by omega⟩, ⟨by omega, by omega⟩⟩
                · exfalso; omega
              · refine zw_ite (fun h28 => ?_) (fun h28 => ?_)
                · refine zw_b (by omega) ?_
                  refine zw_some ?_
                  refine zw_ite (fun h29 => ?_) (fun h29 => ?_)
                  · have r30 : (-2147483648) ≤ (m1 a0 2) ∧ (m1 a0 2) ≤ 2147483647 := zi_rd hIm1 hc0 zb_28_2
                    have e31 : (m1 a0 2) = 0 := (zs_eq hmm1)
                    exact zw_some ⟨hIm1, hFm1, ⟨by omega, by omega⟩, ⟨by omega, by omega⟩⟩
                  · exfalso; omega
                · refine zw_b (by omega) ?_
                  refine zw_some ?_
                  refine zw_ite (fun h32 => ?_) (fun h32 => ?_)
                  · exfalso; omega
                  · have b33 : 0 ≤ (0 : Int) ∧ (0 : Int) < 2 := by omega
                    refine zw_if b33 ?_
                    have r34 : 0 ≤ (m1 216 0) ∧ (m1 216 0) ≤ 16 := zi_rdr (m := 2) (r0 := 0) (r1 := 0) hIm1 zq_216 (by omega) (by decide +kernel)
                    refine zw_ite (fun h35 => ?_) (fun h35 => ?_)
                    · refine zw_bd (zw_mono (zk_190 n hIm1 hc0) (fun v37 m36 hqm36 => ?_))
                      obtain ⟨hIm36, hfm36, hvm36⟩ := hqm36
                      have hFm36 := zfr_tr hFm1 hfm36 rfl
                      refine zw_bd (zw_eq (zr_149_0 n a0 0 a1 a2 a3 m36) ?_)
                      have b38 : 0 ≤ (0 : Int) ∧ (0 : Int) < 2 := by omega
                      refine zw_if b38 ?_
                      have r39 : 0 ≤ (m36 216 0) ∧ (m36 216 0) ≤ 16 := zi_rdr (m := 2) (r0 := 0) (r1 := 0) hIm36 zq_216 (by omega) (by decide +kernel)
                      have e40 : (m36 216 0) = (m1 216 0) := (zfr_ap hfm36 zq_216 rfl)
                      have b41 : 0 ≤ (m36 216 0) ∧ (m36 216 0) < 36 := by omega
                      refine zw_if b41 ?_
                      generalize hmm42 : zu_up m36 197 (m36 216 0) a1 = m42
                      have hIm42 := zi_up hmm42 hIm36 zq_197 (zb_106 _) (by omega) (by omega)
                      have hFm42 := zfr_up hmm42 hFm36 zq_197 rfl
                      have b43 : 0 ≤ (m36 216 0) ∧ (m36 216 0) < 36 := by omega
                      refine zw_if b43 ?_
                      generalize hmm44 : zu_up m42 198 (m36 216 0) a2 = m44
                      have hIm44 := zi_up hmm44 hIm42 zq_198 (zb_107 _) (by omega) (by omega)
                      have hFm44 := zfr_up hmm44 hFm42 zq_198 rfl
                      have b45 : 0 ≤ (m36 216 0) ∧ (m36 216 0) < 36 := by omega
                      refine zw_if b45 ?_
                      generalize hmm46 : zu_up m44 199 (m36 216 0) a3 = m46
                      have hIm46 := zi_up hmm46 hIm44 zq_199 (zb_108 _) (by omega) (by omega)
                      have hFm46 := zfr_up hmm46 hFm44 zq_199 rfl
                      have w47 := zu_w32_id (z := 18 * 0) (by omega) (by omega)
                      have w48 := zu_w32_id (z := (zu_w32 (18 * 0)) + (m36 216 0)) (by omega) (by omega)
                      have b49 : 0 ≤ (zu_w32 ((zu_w32 (18 * 0)) + (m36 216 0))) ∧ (zu_w32 ((zu_w32 (18 * 0)) + (m36 216 0))) < 36 := by omega
                      refine zw_if b49 ?_
                      generalize hmm50 : zu_up m46 215 (zu_w32 ((zu_w32 (18 * 0)) + (m36 216 0))) (-1) = m50
                      have hIm50 := zi_up hmm50 hIm46 zq_215 (zb_124 _) (by omega) (by omega)
                      have hFm50 := zfr_up hmm50 hFm46 zq_215 rfl
                      have b51 : 0 ≤ (0 : Int) ∧ (0 : Int) < 2 := by omega
                      refine zw_if b51 ?_
                      have r52 : 0 ≤ (m50 216 0) ∧ (m50 216 0) ≤ 16 := zi_rdr (m := 2) (r0 := 0) (r1 := 0) hIm50 zq_216 (by omega) (by decide +kernel)
                      have e53 : (m50 216 0) = (m36 216 0) := (Eq.trans (zs_ne hmm50 (Or.inl (zc_ne zq_216 zq_215 (by decide)))) (Eq.trans (zs_ne hmm46 (Or.inl (zc_ne zq_216 zq_199 (by decide)))) (Eq.trans (zs_ne hmm44 (Or.inl (zc_ne zq_216 zq_198 (by decide)))) (zs_ne hmm42 (Or.inl (zc_ne zq_216 zq_197 (by decide)))))))
                      have w54 := zu_w32_id (z := (m50 216 0) + 1) (by omega) (by omega)
                      have b55 : 0 ≤ (0 : Int) ∧ (0 : Int) < 2 := by omega
                      refine zw_if b55 ?_
                      generalize hmm56 : zu_up m50 216 0 (zu_w32 ((m50 216 0) + 1)) = m56
                      have hIm56 := zi_upr (m := 2) (r0 := 0) (r1 := 0) (lo := 0) (hi := 16) hmm56 hIm50 zq_216 (by omega) (by decide +kernel) (by omega) (by omega)
                      have hFm56 := zfr_up hmm56 hFm50 zq_216 rfl
                      refine zw_some ?_
                      have b57 : 0 ≤ (0 : Int) ∧ (0 : Int) < 2 := by omega
                      refine zw_if b57 ?_
                      have r58 : 0 ≤ (m56 216 0) ∧ (m56 216 0) ≤ 16 := zi_rdr (m := 2) (r0 := 0) (r1 := 0) hIm56 zq_216 (by omega) (by decide +kernel)
                      have e59 : (m56 216 0) = (zu_w32 ((m50 216 0) + 1)) := (zs_eq hmm56)
                      have w60 := zu_w32_id (z := (m56 216 0) - 1) (by omega) (by omega)
                      have r61 : (-2147483648) ≤ (m56 a0 2) ∧ (m56 a0 2) ≤ 2147483647 := zi_rd hIm56 hc0 zb_28_2
                      have e62 : (m56 a0 2) = 0 := (Eq.trans (zs_ne hmm56 (Or.inl (zc_ne hc0 zq_216 (by decide)))) (Eq.trans (zs_ne hmm50 (Or.inl (zc_ne hc0 zq_215 (by decide)))) (Eq.trans (zs_ne hmm46 (Or.inl (zc_ne hc0 zq_199 (by decide)))) (Eq.trans (zs_ne hmm44 (Or.inl (zc_ne hc0 zq_198 (by decide)))) (Eq.trans (zs_ne hmm42 (Or.inl (zc_ne hc0 zq_197 (by decide)))) (Eq.trans (zfr_ap hfm36 hc0 rfl) (zs_eq hmm1)))))))
                      exact zw_some ⟨hIm56, hFm56, ⟨by omega, by omega⟩, ⟨by omega, by omega⟩⟩
                    · have r63 : (-2147483648) ≤ (m1 a0 2) ∧ (m1 a0 2) ≤ 2147483647 := zi_rd hIm1 hc0 zb_28_2
                      have e64 : (m1 a0 2) = 0 := (zs_eq hmm1)
                      exact zw_some ⟨hIm1, hFm1, ⟨by omega, by omega⟩, ⟨by omega, by omega⟩⟩
set_option maxHeartbeats 4000000 in
theorem zk_150 (n : Nat) {a0 : Int} {m0 : zu_m} (hIm0 : zi_I m0) (hc0 : zcls a0 = 28)      : zw (zu_call (zt_T n) 150 [(40, a0)] m0) (fun v m => zi_I m ∧ zfr [(28, 3), (28, 82), (125, 1), (137, 0)] m0 m ∧ (0 ≤ v ∧ v ≤ 1) ∧ (0 ≤ m a0 2 ∧ m a0 2 ≤ 0)) := by
  sorry
set_option maxHeartbeats 4000000 in
theorem zk_151 (n : Nat) {a0 a1 a2 : Int} {m0 : zu_m} (hIm0 : zi_I m0) (hc0 : zcls a0 = 28) (ha1 : (-2147483648) ≤ a1 ∧ a1 ≤ 2147483647) (ha2 : (-2147483648) ≤ a2 ∧ a2 ≤ 2147483647)     : zw (zu_call (zt_T n) 151 [(40, a0), (0, a1), (0, a2)] m0) (fun v m => zi_I m ∧ zfr [(28, 3), (28, 82), (126, 0), (137, 0)] m0 m ∧ (0 ≤ v ∧ v ≤ 1) ∧ (0 ≤ m a0 2 ∧ m a0 2 ≤ 0)) := by
  have hFm0 : zfr [(28, 3), (28, 82), (126, 0), (137, 0)] m0 m0 := zfr_rf _ _
  refine zw_eq (zr_151_0 n a0 a1 a2 m0) ?_
  generalize hmm1 : zu_up m0 a0 2 0 = m1
  have hIm1 := zi_up hmm1 hIm0 hc0 zb_28_2 (by omega) (by omega)
  have hFm1 := zfr_up hmm1 hFm0 hc0 rfl
  refine zw_bd (zw_eq (zr_125_0 n a0 a1 m1) ?_)
  refine zw_ite (fun h2 => ?_) (fun h2 => ?_)
  · refine zw_b (by omega) ?_
    refine zw_some ?_
    refine zw_ite (fun h3 => ?_) (fun h3 => ?_)
    · refine zw_b (by omega) ?_
      have r4 : (-2147483648) ≤ (m1 a0 2) ∧ (m1 a0 2) ≤ 2147483647 := zi_rd hIm1 hc0 zb_28_2
      have e5 : (m1 a0 2) = 0 := (zs_eq hmm1)
      exact zw_some ⟨hIm1, hFm1, ⟨by omega, by omega⟩, ⟨by omega, by omega⟩⟩
    · exfalso; omega
  · have r6 : 0 ≤ (m1 a0 15) ∧ (m1 a0 15) ≤ 4 := zi_rd hIm1 hc0 zb_28_15
    refine zw_ite (fun h7 => ?_) (fun h7 => ?_)
    · refine zw_b (by omega) ?_
      refine zw_some ?_
      refine zw_ite (fun h8 => ?_) (fun h8 => ?_)
      · refine zw_b (by omega) ?_
        have r9 : (-2147483648) ≤ (m1 a0 2) ∧ (m1 a0 2) ≤ 2147483647 := zi_rd hIm1 hc0 zb_28_2
        have e10 : (m1 a0 2) = 0 := (zs_eq hmm1)
        exact zw_some ⟨hIm1, hFm1, ⟨by omega, by omega⟩, ⟨by omega, by omega⟩⟩
      · exfalso; omega
    · refine zw_b (by omega) ?_
      refine zw_some ?_
      refine zw_ite (fun h11 => ?_) (fun h11 => ?_)
      · exfalso; omega
      · refine zw_bd (zw_eq (zr_123_0 n a0 a2 m1) ?_)
        refine zw_ite (fun h12 => ?_) (fun h12 => ?_)
        · refine zw_b (by omega) ?_
          refine zw_some ?_
          refine zw_ite (fun h13 => ?_) (fun h13 => ?_)
          · refine zw_b (by omega) ?_
            have r14 : (-2147483648) ≤ (m1 a0 2) ∧ (m1 a0 2) ≤ 2147483647 := zi_rd hIm1 hc0 zb_28_2
            have e15 : (m1 a0 2) = 0 := (zs_eq hmm1)
            exact zw_some ⟨hIm1, hFm1, ⟨by omega, by omega⟩, ⟨by omega, by omega⟩⟩
          · exfalso; omega
        · refine zw_bd (zw_eq (zr_36_0 n a0 m1) ?_)
          have r16 : 1 ≤ (m1 a0 12) ∧ (m1 a0 12) ≤ 8 := zi_rd hIm1 hc0 zb_28_12
          have r17 : 1 ≤ (m1 a0 13) ∧ (m1 a0 13) ≤ 6 := zi_rd hIm1 hc0 zb_28_13
          have p18 := zmul_bd (x := (m1 a0 12)) (y := (m1 a0 13)) (a := 1) (b := 1) (A := 8) (B := 6) (by omega) (by omega) (by omega) (by omega) (by omega) (by omega)
          have w19 := zu_w32_id (z := (m1 a0 12) * (m1 a0 13)) (by omega) (by omega)
          refine zw_some ?_
          refine zw_ite (fun h20 => ?_) (fun h20 => ?_)
          · refine zw_b (by omega) ?_
            refine zw_some ?_
            refine zw_ite (fun h21 => ?_) (fun h21 => ?_)
            · refine zw_b (by omega) ?_
              have r22 : (-2147483648) ≤ (m1 a0 2) ∧ (m1 a0 2) ≤ 2147483647 := zi_rd hIm1 hc0 zb_28_2
              have e23 : (m1 a0 2) = 0 := (zs_eq hmm1)
              exact zw_some ⟨hIm1, hFm1, ⟨by omega, by omega⟩, ⟨by omega, by omega⟩⟩
            · exfalso; omega
          · refine zw_b (by omega) ?_
            refine zw_some ?_
            refine zw_ite (fun h24 => ?_) (fun h24 => ?_)
            · exfalso; omega
            · have b25 : 0 ≤ a1 ∧ a1 < 8 := by omega
              refine zw_if b25 ?_
              have r26 : 0 ≤ (m1 217 a1) ∧ (m1 217 a1) ≤ 47 := zi_rd hIm1 zq_217 (zb_126 _)
              refine zw_ite (fun h27 => ?_) (fun h27 => ?_)
              · refine zw_bd (zw_mono (zk_190 n hIm1 hc0) (fun v29 m28 hqm28 => ?_))
                obtain ⟨hIm28, hfm28, hvm28⟩ := hqm28
                have hFm28 := zfr_tr hFm1 hfm28 rfl
                have b30 : 0 ≤ a1 ∧ a1 < 8 := by omega
                refine zw_if b30 ?_
                generalize hmm31 : zu_up m28 217 a1 a2 = m31
                have hIm31 := zi_up hmm31 hIm28 zq_217 (zb_126 _) (by omega) (by omega)
                have hFm31 := zfr_up hmm31 hFm28 zq_217 rfl
                refine zw_b (by omega) ?_
                have r32 : (-2147483648) ≤ (m31 a0 2) ∧ (m31 a0 2) ≤ 2147483647 := zi_rd hIm31 hc0 zb_28_2
                have e33 : (m31 a0 2) = 0 := (Eq.trans (zs_ne hmm31 (Or.inl (zc_ne hc0 zq_217 (by decide)))) (Eq.trans (zfr_ap hfm28 hc0 rfl) (zs_eq hmm1)))
                exact zw_some ⟨hIm31, hFm31, ⟨by omega, by omega⟩, ⟨by omega, by omega⟩⟩
              · refine zw_b (by omega) ?_
                have r34 : (-2147483648) ≤ (m1 a0 2) ∧ (m1 a0 2) ≤ 2147483647 := zi_rd hIm1 hc0 zb_28_2
                have e35 : (m1 a0 2) = 0 := (zs_eq hmm1)
                exact zw_some ⟨hIm1, hFm1, ⟨by omega, by omega⟩, ⟨by omega, by omega⟩⟩
set_option maxHeartbeats 4000000 in
theorem zk_152 (n : Nat) {a0 a1 : Int} {m0 : zu_m} (hIm0 : zi_I m0) (hc0 : zcls a0 = 28) (ha1 : (-2147483648) ≤ a1 ∧ a1 ≤ 2147483647)     : zw (zu_call (zt_T n) 152 [(40, a0), (0, a1)] m0) (fun v m => zi_I m ∧ zfr [(28, 3), (28, 63), (28, 82), (137, 0)] m0 m ∧ (0 ≤ v ∧ v ≤ 1) ∧ (0 ≤ m a0 2 ∧ m a0 2 ≤ 0)) := by
  have hFm0 : zfr [(28, 3), (28, 63), (28, 82), (137, 0)] m0 m0 := zfr_rf _ _
  refine zw_eq (zr_152_0 n a0 a1 m0) ?_
  generalize hmm1 : zu_up m0 a0 2 0 = m1
  have hIm1 := zi_up hmm1 hIm0 hc0 zb_28_2 (by omega) (by omega)
  have hFm1 := zfr_up hmm1 hFm0 hc0 rfl
  refine zw_bd (zw_eq (zr_83_0 n a1 0 2 m1) ?_)
  refine zw_ite (fun h2 => ?_) (fun h2 => ?_)
  · refine zw_b (by omega) ?_
    refine zw_some ?_
    refine zw_ite (fun h3 => ?_) (fun h3 => ?_)
    · refine zw_b (by omega) ?_
      have r4 : (-2147483648) ≤ (m1 a0 2) ∧ (m1 a0 2) ≤ 2147483647 := zi_rd hIm1 hc0 zb_28_2
      have e5 : (m1 a0 2) = 0 := (zs_eq hmm1)
      exact zw_some ⟨hIm1, hFm1, ⟨by omega, by omega⟩, ⟨by omega, by omega⟩⟩
    · exfalso; omega
  · refine zw_ite (fun h6 => ?_) (fun h6 => ?_)
    · refine zw_b (by omega) ?_
      refine zw_some ?_
      refine zw_ite (fun h7 => ?_) (fun h7 => ?_)
      · refine zw_b (by omega) ?_
        have r8 : (-2147483648) ≤ (m1 a0 2) ∧ (m1 a0 2) ≤ 2147483647 := zi_rd hIm1 hc0 zb_28_2
        have e9 : (m1 a0 2) = 0 := (zs_eq hmm1)
        exact zw_some ⟨hIm1, hFm1, ⟨by omega, by omega⟩, ⟨by omega, by omega⟩⟩
      · exfalso; omega
    · refine zw_b (by omega) ?_
      refine zw_some ?_
      refine zw_ite (fun h10 => ?_) (fun h10 => ?_)
      · exfalso; omega
      · have r11 : (-2147483648) ≤ (m1 a0 62) ∧ (m1 a0 62) ≤ 2147483647 := zi_rd hIm1 hc0 zb_28_62
        refine zw_ite (fun h12 => ?_) (fun h12 => ?_)
        · refine zw_bd (zw_mono (zk_190 n hIm1 hc0) (fun v14 m13 hqm13 => ?_))
          obtain ⟨hIm13, hfm13, hvm13⟩ := hqm13
          have hFm13 := zfr_tr hFm1 hfm13 rfl
          generalize hmm15 : zu_up m13 a0 62 a1 = m15
          have hIm15 := zi_up hmm15 hIm13 hc0 zb_28_62 (by omega) (by omega)
          have hFm15 := zfr_up hmm15 hFm13 hc0 rfl
          refine zw_b (by omega) ?_
          have r16 : (-2147483648) ≤ (m15 a0 2) ∧ (m15 a0 2) ≤ 2147483647 := zi_rd hIm15 hc0 zb_28_2
          have e17 : (m15 a0 2) = 0 := (Eq.trans (zs_ne hmm15 (Or.inr (by decide))) (Eq.trans (zfr_ap hfm13 hc0 rfl) (zs_eq hmm1)))
          exact zw_some ⟨hIm15, hFm15, ⟨by omega, by omega⟩, ⟨by omega, by omega⟩⟩
        · refine zw_b (by omega) ?_
          have r18 : (-2147483648) ≤ (m1 a0 2) ∧ (m1 a0 2) ≤ 2147483647 := zi_rd hIm1 hc0 zb_28_2
          have e19 : (m1 a0 2) = 0 := (zs_eq hmm1)
          exact zw_some ⟨hIm1, hFm1, ⟨by omega, by omega⟩, ⟨by omega, by omega⟩⟩
set_option maxHeartbeats 4000000 in
theorem zk_154 (n : Nat) {a0 a1 : Int} {m0 : zu_m} (hIm0 : zi_I m0) (hc0 : zcls a0 = 28) (ha1 : (-2147483648) ≤ a1 ∧ a1 ≤ 2147483647)     : zw (zu_call (zt_T n) 154 [(40, a0), (0, a1)] m0) (fun v m => zi_I m ∧ zfr [(28, 3)] m0 m ∧ ((-2147483648) ≤ v ∧ v ≤ 2147483647) ∧ (0 ≤ m a0 2 ∧ m a0 2 ≤ 0)) := by
  have hFm0 : zfr [(28, 3)] m0 m0 := zfr_rf _ _
  refine zw_eq (zr_154_0 n a0 a1 m0) ?_
  generalize hmm1 : zu_up m0 a0 2 0 = m1
  have hIm1 := zi_up hmm1 hIm0 hc0 zb_28_2 (by omega) (by omega)
  have hFm1 := zfr_up hmm1 hFm0 hc0 rfl
  refine zw_bd (zw_eq (zr_123_0 n a0 a1 m1) ?_)
  refine zw_ite (fun h2 => ?_) (fun h2 => ?_)
  · refine zw_b (by omega) ?_
    refine zw_some ?_
    refine zw_ite (fun h3 => ?_) (fun h3 => ?_)
    · have r4 : (-2147483648) ≤ (m1 a0 2) ∧ (m1 a0 2) ≤ 2147483647 := zi_rd hIm1 hc0 zb_28_2
      have e5 : (m1 a0 2) = 0 := (zs_eq hmm1)
      exact zw_some ⟨hIm1, hFm1, ⟨by omega, by omega⟩, ⟨by omega, by omega⟩⟩
    · exfalso; omega
  · refine zw_bd (zw_eq (zr_36_0 n a0 m1) ?_)
    have r6 : 1 ≤ (m1 a0 12) ∧ (m1 a0 12) ≤ 8 := zi_rd hIm1 hc0 zb_28_12
    have r7 : 1 ≤ (m1 a0 13) ∧ (m1 a0 13) ≤ 6 := zi_rd hIm1 hc0 zb_28_13
    have p8 := zmul_bd (x := (m1 a0 12)) (y := (m1 a0 13)) (a := 1) (b := 1) (A := 8) (B := 6) (by omega) (by omega) (by omega) (by omega) (by omega) (by omega)
    have w9 := zu_w32_id (z := (m1 a0 12) * (m1 a0 13)) (by omega) (by omega)
    refine zw_some ?_
    refine zw_ite (fun h10 => ?_) (fun h10 => ?_)
    · refine zw_b (by omega) ?_
      refine zw_some ?_
      refine zw_ite (fun h11 => ?_) (fun h11 => ?_)
      · have r12 : (-2147483648) ≤ (m1 a0 2) ∧ (m1 a0 2) ≤ 2147483647 := zi_rd hIm1 hc0 zb_28_2
        have e13 : (m1 a0 2) = 0 := (zs_eq hmm1)
        exact zw_some ⟨hIm1, hFm1, ⟨by omega, by omega⟩, ⟨by omega, by omega⟩⟩
      · exfalso; omega
    · refine zw_b (by omega) ?_
      refine zw_some ?_
      refine zw_ite (fun h14 => ?_) (fun h14 => ?_)
      · exfalso; omega
      · have b15 : 0 ≤ a1 ∧ a1 < 48 := by omega
        refine zw_if b15 ?_
        have r16 : (-2147483648) ≤ (m1 222 a1) ∧ (m1 222 a1) ≤ 2147483647 := zi_rd hIm1 zq_222 (zb_131 _)
        have r17 : (-2147483648) ≤ (m1 a0 2) ∧ (m1 a0 2) ≤ 2147483647 := zi_rd hIm1 hc0 zb_28_2
        have e18 : (m1 a0 2) = 0 := (zs_eq hmm1)
        exact zw_some ⟨hIm1, hFm1, ⟨by omega, by omega⟩, ⟨by omega, by omega⟩⟩
set_option maxHeartbeats 4000000 in
theorem zl_155 (n : Nat) {a0 a1 a2 : Int} {m0 : zu_m} (hc0 : zcls a0 = 28)   : ∀ k : Nat, (∀ (x3 x4 : Int) (mh : zu_m), zi_I mh → zfr [] m0 mh → (0 ≤ a1 ∧ a1 ≤ 3) → (0 ≤ a2 ∧ a2 ≤ 47) → ((-1) ≤ x3 ∧ x3 ≤ 47) → (0 ≤ x4 ∧ x4 ≤ 48) → (48 - x4) * 1 + 0 < (k : Int) → zw (zu_ex (zt_T n) 155 5 [(40, a0), (0, a1), (0, a2), (0, x3), (0, x4)] [] mh) (fun v m => zi_I m ∧ zfr [] m0 m ∧ ((-1) ≤ v ∧ v ≤ 47))) := by
  intro k
  induction k with
  | zero => exact fun x3 x4 mh hImh hFmh hba1 hba2 hbx3 hbx4 hM => by exfalso; omega
  | succ k ih =>
    intro x3 x4 mh hImh hFmh hba1 hba2 hbx3 hbx4 hM
    refine zw_eq (zr_155_5 n a0 a1 a2 x3 x4 mh) ?_
    refine zw_bd (zw_eq (zr_36_0 n a0 mh) ?_)
    have r1 : 1 ≤ (mh a0 12) ∧ (mh a0 12) ≤ 8 := zi_rd hImh hc0 zb_28_12
    have r2 : 1 ≤ (mh a0 13) ∧ (mh a0 13) ≤ 6 := zi_rd hImh hc0 zb_28_13
    have p3 := zmul_bd (x := (mh a0 12)) (y := (mh a0 13)) (a := 1) (b := 1) (A := 8) (B := 6) (by omega) (by omega) (by omega) (by omega) (by omega) (by omega)
    have w4 := zu_w32_id (z := (mh a0 12) * (mh a0 13)) (by omega) (by omega)
    refine zw_some ?_
    refine zw_ite (fun h5 => ?_) (fun h5 => ?_)
    · exact zw_some ⟨hImh, hFmh, ⟨by omega, by omega⟩⟩
    · refine zw_bd (zw_mono (zk_134 n hImh hc0 ⟨by omega, by omega⟩ ⟨by omega, by omega⟩) (fun v7 m6 hqm6 => ?_))
      obtain ⟨hIm6, hfm6, hvm6⟩ := hqm6
      have hFm6 := zfr_tr hFmh hfm6 rfl
      refine zw_ite (fun h8 => ?_) (fun h8 => ?_)
      · refine zw_ite (fun h9 => ?_) (fun h9 => ?_)
        · have w10 := zu_w32_id (z := x4 + 1) (by omega) (by omega)
          have hM : (48 - (zu_w32 (x4 + 1))) * 1 + 0 < (k : Int) := by omega
          exact ih x4 (zu_w32 (x4 + 1)) m6 hIm6 hFm6 ⟨by omega, by omega⟩ ⟨by omega, by omega⟩ ⟨by omega, by omega⟩ ⟨by omega, by omega⟩ hM
        · have b11 : 0 ≤ x4 ∧ x4 < 48 := by omega
          refine zw_if b11 ?_
          have r12 : (-2147483648) ≤ (m6 223 x4) ∧ (m6 223 x4) ≤ 2147483647 := zi_rd hIm6 zq_223 (zb_132 _)
          refine zw_bd (zw_mono (zk_135 n hIm6 hc0 ⟨by omega, by omega⟩ ⟨by omega, by omega⟩) (fun v14 m13 hqm13 => ?_))
          obtain ⟨hIm13, hfm13, hvm13⟩ := hqm13
          have hFm13 := zfr_tr hFm6 hfm13 rfl
          have w15 := zu_w32_id (z := v14 + 1) (by omega) (by omega)
          have w16 := zu_w64_rg ((m6 223 x4) * (zu_w32 (v14 + 1)))
          have b17 : 0 ≤ x3 ∧ x3 < 48 := by omega
          refine zw_if b17 ?_
          have r18 : (-2147483648) ≤ (m13 223 x3) ∧ (m13 223 x3) ≤ 2147483647 := zi_rd hIm13 zq_223 (zb_132 _)
          refine zw_bd (zw_mono (zk_135 n hIm13 hc0 ⟨by omega, by omega⟩ ⟨by omega, by omega⟩) (fun v20 m19 hqm19 => ?_))
          obtain ⟨hIm19, hfm19, hvm19⟩ := hqm19
          have hFm19 := zfr_tr hFm13 hfm19 rfl
          have w21 := zu_w32_id (z := v20 + 1) (by omega) (by omega)
          have w22 := zu_w64_rg ((m13 223 x3) * (zu_w32 (v20 + 1)))
          have c23 := zu_lcmp_sp (zu_w64 ((m6 223 x4) * (zu_w32 (v14 + 1)))) (zu_w64 ((m13 223 x3) * (zu_w32 (v20 + 1))))
          refine zw_ite (fun h24 => ?_) (fun h24 => ?_)
          · have w25 := zu_w32_id (z := x4 + 1) (by omega) (by omega)
            have hM : (48 - (zu_w32 (x4 + 1))) * 1 + 0 < (k : Int) := by omega
            exact ih x3 (zu_w32 (x4 + 1)) m19 hIm19 hFm19 ⟨by omega, by omega⟩ ⟨by omega, by omega⟩ ⟨by omega, by omega⟩ ⟨by omega, by omega⟩ hM
          · have w26 := zu_w32_id (z := x4 + 1) (by omega) (by omega)
            have hM : (48 - (zu_w32 (x4 + 1))) * 1 + 0 < (k : Int) := by omega
            exact ih x4 (zu_w32 (x4 + 1)) m19 hIm19 hFm19 ⟨by omega, by omega⟩ ⟨by omega, by omega⟩ ⟨by omega, by omega⟩ ⟨by omega, by omega⟩ hM
      · have w27 := zu_w32_id (z := x4 + 1) (by omega) (by omega)
        have hM : (48 - (zu_w32 (x4 + 1))) * 1 + 0 < (k : Int) := by omega
        exact ih x3 (zu_w32 (x4 + 1)) m6 hIm6 hFm6 ⟨by omega, by omega⟩ ⟨by omega, by omega⟩ ⟨by omega, by omega⟩ ⟨by omega, by omega⟩ hM
set_option maxHeartbeats 4000000 in
theorem zk_155 (n : Nat) {a0 a1 a2 : Int} {m0 : zu_m} (hIm0 : zi_I m0) (hc0 : zcls a0 = 28) (ha1 : 0 ≤ a1 ∧ a1 ≤ 3) (ha2 : 0 ≤ a2 ∧ a2 ≤ 47)     : zw (zu_call (zt_T n) 155 [(40, a0), (0, a1), (0, a2)] m0) (fun v m => zi_I m ∧ zfr [] m0 m ∧ ((-1) ≤ v ∧ v ≤ 47)) := by
  have hFm0 : zfr [] m0 m0 := zfr_rf _ _
  refine zw_eq (zr_155_0 n a0 a1 a2 m0) ?_
  have hM : (48 - 0) * 1 + 0 < ((49 : Nat) : Int) := by omega
  exact (zl_155 n (m0 := m0) hc0 49) (-1) 0 m0 hIm0 hFm0 ⟨by omega, by omega⟩ ⟨by omega, by omega⟩ ⟨by omega, by omega⟩ ⟨by omega, by omega⟩ hM
set_option maxHeartbeats 4000000 in
theorem zl_169 (n : Nat) {a0 a1 : Int} {m0 : zu_m} (hc0 : zcls a0 = 28)   : ∀ k : Nat, (∀ (x2 x3 : Int) (mh : zu_m), zi_I mh → zfr [(28, 76), (133, 0)] m0 mh → ((-1) ≤ a1 ∧ a1 ≤ 2147483647) → ((-2147483648) ≤ x2 ∧ x2 ≤ 2147483647) → (0 ≤ x3 ∧ x3 ≤ 4) → (1 ≤ mh a0 75 ∧ mh a0 75 ≤ 4) → (4 - x3) * 6 + 5 < (k : Int) → zw (zu_ex (zt_T n) 169 8 [(40, a0), (0, a1), (0, x2), (0, x3), (2, 0)] [] mh) (fun v m => zi_I m ∧ zfr [(28, 76), (133, 0)] m0 m ∧ ((-2147483648) ≤ v ∧ v ≤ 2147483647))) ∧ (∀ (x2 x3 x4 : Int) (mh : zu_m), zi_I mh → zfr [(28, 76), (133, 0)] m0 mh → ((-1) ≤ a1 ∧ a1 ≤ 2147483647) → ((-2147483648) ≤ x2 ∧ x2 ≤ 2147483647) → (0 ≤ x3 ∧ x3 ≤ 3) → (0 ≤ x4 ∧ x4 ≤ 4) → (1 ≤ mh a0 75 ∧ mh a0 75 ≤ 4) → (4 - x4) * 1 + (4 - x3) * 6 + 0 < (k : Int) → zw (zu_ex (zt_T n) 169 19 [(40, a0), (0, a1), (0, x2), (0, x3), (0, x4)] [] mh) (fun v m => zi_I m ∧ zfr [(28, 76), (133, 0)] m0 m ∧ ((-2147483648) ≤ v ∧ v ≤ 2147483647))) := by
  intro k
  induction k with
  | zero => exact ⟨fun x2 x3 mh hImh hFmh hba1 hbx2 hbx3 hg3 hM => by exfalso; omega, fun x2 x3 x4 mh hImh hFmh hba1 hbx2 hbx3 hbx4 hg4 hM => by exfalso; omega⟩
  | succ k ih =>
    refine ⟨?_, ?_⟩
    · intro x2 x3 mh hImh hFmh hba1 hbx2 hbx3 hg3 hM
      refine zw_eq (zr_169_8 n a0 a1 x2 x3 mh) ?_
      refine zw_ite (fun h1 => ?_) (fun h1 => ?_)
      · refine zw_ite (fun h2 => ?_) (fun h2 => ?_)
        · exact zw_some ⟨hImh, hFmh, ⟨by omega, by omega⟩⟩
        · exact zw_some ⟨hImh, hFmh, ⟨by omega, by omega⟩⟩
      · have hM : (4 - 0) * 1 + (4 - x3) * 6 + 0 < (k : Int) := by omega
        exact ih.2 x2 x3 0 mh hImh hFmh ⟨by omega, by omega⟩ ⟨by omega, by omega⟩ ⟨by omega, by omega⟩ ⟨by omega, by omega⟩ ⟨by omega, by omega⟩ hM
    · intro x2 x3 x4 mh hImh hFmh hba1 hbx2 hbx3 hbx4 hg4 hM
      refine zw_eq (zr_169_19 n a0 a1 x2 x3 x4 mh) ?_
      refine zw_ite (fun h3 => ?_) (fun h3 => ?_)
      · have w4 := zu_w32_id (z := x3 + 1) (by omega) (by omega)
        have hM : (4 - (zu_w32 (x3 + 1))) * 6 + 5 < (k : Int) := by omega
        exact zw_le (zu_forget (zu_lr_same (zu_lr_same (zu_lr_same (zu_lr_same (zu_lr_drop zu_lr_nil)))))) (ih.1 x2 (zu_w32 (x3 + 1)) mh hImh hFmh ⟨by omega, by omega⟩ ⟨by omega, by omega⟩ ⟨by omega, by omega⟩ ⟨by omega, by omega⟩ hM)
      · refine zw_bd (zw_mono (zk_168 n hImh hc0 ⟨by omega, by omega⟩ ⟨by omega, by omega⟩ ⟨by omega, by omega⟩) (fun v6 m5 hqm5 => ?_))
        obtain ⟨hIm5, hfm5, hvm5⟩ := hqm5
        have hFm5 := zfr_tr hFmh hfm5 rfl
        refine zw_ite (fun h7 => ?_) (fun h7 => ?_)
        · refine zw_ite (fun h8 => ?_) (fun h8 => ?_)
          · have w9 := zu_w32_rg (x2 + 1)
            have w10 := zu_w32_id (z := x4 + 1) (by omega) (by omega)
            have r11 : 0 ≤ (m5 a0 75) ∧ (m5 a0 75) ≤ 4 := zi_rd hIm5 hc0 zb_28_75
            have e12 : (m5 a0 75) = (mh a0 75) := (zfr_ap hfm5 hc0 rfl)
            have hM : (4 - (zu_w32 (x4 + 1))) * 1 + (4 - x3) * 6 + 0 < (k : Int) := by omega
            exact ih.2 (zu_w32 (x2 + 1)) x3 (zu_w32 (x4 + 1)) m5 hIm5 hFm5 ⟨by omega, by omega⟩ ⟨by omega, by omega⟩ ⟨by omega, by omega⟩ ⟨by omega, by omega⟩ ⟨by omega, by omega⟩ hM
          · have w13 := zu_w32_id (z := 10 * x3) (by omega) (by omega)
            have w14 := zu_w32_id (z := (zu_w32 (10 * x3)) + x4) (by omega) (by omega)
            exact zw_some ⟨hIm5, hFm5, ⟨by omega, by omega⟩⟩
        · have w15 := zu_w32_id (z := x4 + 1) (by omega) (by omega)
          have r16 : 0 ≤ (m5 a0 75) ∧ (m5 a0 75) ≤ 4 := zi_rd hIm5 hc0 zb_28_75
          have e17 : (m5 a0 75) = (mh a0 75) := (zfr_ap hfm5 hc0 rfl)
          have hM : (4 - (zu_w32 (x4 + 1))) * 1 + (4 - x3) * 6 + 0 < (k : Int) := by omega
          exact ih.2 x2 x3 (zu_w32 (x4 + 1)) m5 hIm5 hFm5 ⟨by omega, by omega⟩ ⟨by omega, by omega⟩ ⟨by omega, by omega⟩ ⟨by omega, by omega⟩ ⟨by omega, by omega⟩ hM
set_option maxHeartbeats 4000000 in
theorem zk_169 (n : Nat) {a0 a1 : Int} {m0 : zu_m} (hIm0 : zi_I m0) (hc0 : zcls a0 = 28) (ha1 : (-1) ≤ a1 ∧ a1 ≤ 2147483647)     : zw (zu_call (zt_T n) 169 [(40, a0), (0, a1)] m0) (fun v m => zi_I m ∧ zfr [(28, 76), (133, 0)] m0 m ∧ ((-2147483648) ≤ v ∧ v ≤ 2147483647)) := by
  have hFm0 : zfr [(28, 76), (133, 0)] m0 m0 := zfr_rf _ _
  refine zw_eq (zr_169_0 n a0 a1 m0) ?_
  refine zw_bd (zw_mono (zk_166 n hIm0 hc0) (fun v19 m18 hqm18 => ?_))
  obtain ⟨hIm18, hfm18, hvm18⟩ := hqm18
  have hFm18 := zfr_tr hFm0 hfm18 rfl
  have hM : (4 - 0) * 6 + 5 < ((30 : Nat) : Int) := by omega
  exact (zl_169 n (m0 := m0) hc0 30).1 0 0 m18 hIm18 hFm18 ⟨by omega, by omega⟩ ⟨by omega, by omega⟩ ⟨by omega, by omega⟩ ⟨by omega, by omega⟩ hM
set_option maxHeartbeats 4000000 in
theorem zl_195 (n : Nat) {a0 a1 : Int} {m0 : zu_m} (hc0 : zcls a0 = 28)   : ∀ k : Nat, (∀ (x2 x3 : Int) (mh : zu_m), zi_I mh → zfr [(28, 3)] m0 mh → (10 ≤ a1 ∧ a1 ≤ 10) → ((-2147483648) ≤ x2 ∧ x2 ≤ 2147483647) → (0 ≤ x3 ∧ x3 ≤ 48) → (0 ≤ mh a0 2 ∧ mh a0 2 ≤ 0) → (48 - x3) * 1 + 0 < (k : Int) → zw (zu_ex (zt_T n) 195 150 [(40, a0), (0, a1), (0, x2), (0, x3)] [] mh) (fun v m => zi_I m ∧ zfr [(28, 3)] m0 m ∧ ((-2147483648) ≤ v ∧ v ≤ 2147483647) ∧ (0 ≤ m a0 2 ∧ m a0 2 ≤ 0))) := by
  intro k
  induction k with
  | zero => exact fun x2 x3 mh hImh hFmh hba1 hbx2 hbx3 hg3 hM => by exfalso; omega
  | succ k ih =>
    intro x2 x3 mh hImh hFmh hba1 hbx2 hbx3 hg3 hM
    refine zw_eq (zr_195_150 n a0 a1 x2 x3 mh) ?_
    refine zw_bd (zw_eq (zr_36_0 n a0 mh) ?_)
    have r1 : 1 ≤ (mh a0 12) ∧ (mh a0 12) ≤ 8 := zi_rd hImh hc0 zb_28_12
    have r2 : 1 ≤ (mh a0 13) ∧ (mh a0 13) ≤ 6 := zi_rd hImh hc0 zb_28_13
    have p3 := zmul_bd (x := (mh a0 12)) (y := (mh a0 13)) (a := 1) (b := 1) (A := 8) (B := 6) (by omega) (by omega) (by omega) (by omega) (by omega) (by omega)
    have w4 := zu_w32_id (z := (mh a0 12) * (mh a0 13)) (by omega) (by omega)
    refine zw_some ?_
    refine zw_ite (fun h5 => ?_) (fun h5 => ?_)
    · exact zw_some ⟨hImh, hFmh, ⟨by omega, by omega⟩, ⟨by omega, by omega⟩⟩
    · have b6 : 0 ≤ (0 : Int) ∧ (0 : Int) < 2 := by omega
      refine zw_if b6 ?_
      have r7 : (-9223372036854775808) ≤ (mh 220 0) ∧ (mh 220 0) ≤ 9223372036854775807 := zi_rd hImh zq_220 (zb_129 _)
      refine zw_bd (zw_eq (zr_84_0 n (mh 220 0) x3 mh) ?_)
      have b8 := zu_shr_rg (mh 220 0) x3
      have b9 := zu_i64_rg 3 (zu_shr (mh 220 0) x3) 1
      have c10 := zu_lcmp_sp (zu_i64 3 (zu_shr (mh 220 0) x3) 1) 1
      refine zw_ite (fun h11 => ?_) (fun h11 => ?_)
      · refine zw_b (by omega) ?_
        refine zw_some ?_
        refine zw_ite (fun h12 => ?_) (fun h12 => ?_)
        · have w13 := zu_w32_id (z := x2 + 0) (by omega) (by omega)
          have w14 := zu_w32_id (z := x3 + 1) (by omega) (by omega)
          have hM : (48 - (zu_w32 (x3 + 1))) * 1 + 0 < (k : Int) := by omega
          exact ih (zu_w32 (x2 + 0)) (zu_w32 (x3 + 1)) mh hImh hFmh ⟨by omega, by omega⟩ ⟨by omega, by omega⟩ ⟨by omega, by omega⟩ ⟨by omega, by omega⟩ hM
        · exfalso; omega
      · refine zw_b (by omega) ?_
        refine zw_some ?_
        refine zw_ite (fun h15 => ?_) (fun h15 => ?_)
        · exfalso; omega
        · have w16 := zu_w32_rg (x2 + 1)
          have w17 := zu_w32_id (z := x3 + 1) (by omega) (by omega)
          have hM : (48 - (zu_w32 (x3 + 1))) * 1 + 0 < (k : Int) := by omega
          exact ih (zu_w32 (x2 + 1)) (zu_w32 (x3 + 1)) mh hImh hFmh ⟨by omega, by omega⟩ ⟨by omega, by omega⟩ ⟨by omega, by omega⟩ ⟨by omega, by omega⟩ hM
set_option maxHeartbeats 4000000 in
theorem zk_195 (n : Nat) {a0 a1 : Int} {m0 : zu_m} (hIm0 : zi_I m0) (hc0 : zcls a0 = 28) (ha1 : (-2147483648) ≤ a1 ∧ a1 ≤ 2147483647)     : zw (zu_call (zt_T n) 195 [(40, a0), (0, a1)] m0) (fun v m => zi_I m ∧ zfr [(28, 3)] m0 m ∧ ((-2147483648) ≤ v ∧ v ≤ 2147483647) ∧ (0 ≤ m a0 2 ∧ m a0 2 ≤ 0)) := by
  have hFm0 : zfr [(28, 3)] m0 m0 := zfr_rf _ _
  refine zw_eq (zr_195_0 n a0 a1 m0) ?_
  generalize hmm18 : zu_up m0 a0 2 0 = m18
  have hIm18 := zi_up hmm18 hIm0 hc0 zb_28_2 (by omega) (by omega)
  have hFm18 := zfr_up hmm18 hFm0 hc0 rfl
  refine zw_ite (fun h19 => ?_) (fun h19 => ?_)
  · have r20 : 1 ≤ (m18 a0 12) ∧ (m18 a0 12) ≤ 8 := zi_rd hIm18 hc0 zb_28_12
    have r21 : (-2147483648) ≤ (m18 a0 2) ∧ (m18 a0 2) ≤ 2147483647 := zi_rd hIm18 hc0 zb_28_2
    have e22 : (m18 a0 2) = 0 := (zs_eq hmm18)
    exact zw_some ⟨hIm18, hFm18, ⟨by omega, by omega⟩, ⟨by omega, by omega⟩⟩
  · refine zw_ite (fun h23 => ?_) (fun h23 => ?_)
    · have r24 : 1 ≤ (m18 a0 13) ∧ (m18 a0 13) ≤ 6 := zi_rd hIm18 hc0 zb_28_13
      have r25 : (-2147483648) ≤ (m18 a0 2) ∧ (m18 a0 2) ≤ 2147483647 := zi_rd hIm18 hc0 zb_28_2
      have e26 : (m18 a0 2) = 0 := (zs_eq hmm18)
      exact zw_some ⟨hIm18, hFm18, ⟨by omega, by omega⟩, ⟨by omega, by omega⟩⟩
    · refine zw_ite (fun h27 => ?_) (fun h27 => ?_)
      · have b28 : 0 ≤ (0 : Int) ∧ (0 : Int) < 2 := by omega
        refine zw_if b28 ?_
        have r29 : 0 ≤ (m18 216 0) ∧ (m18 216 0) ≤ 16 := zi_rdr (m := 2) (r0 := 0) (r1 := 0) hIm18 zq_216 (by omega) (by decide +kernel)
        have r30 : (-2147483648) ≤ (m18 a0 2) ∧ (m18 a0 2) ≤ 2147483647 := zi_rd hIm18 hc0 zb_28_2
        have e31 : (m18 a0 2) = 0 := (zs_eq hmm18)
        exact zw_some ⟨hIm18, hFm18, ⟨by omega, by omega⟩, ⟨by omega, by omega⟩⟩
      · refine zw_ite (fun h32 => ?_) (fun h32 => ?_)
        · have r33 : 0 ≤ (m18 a0 15) ∧ (m18 a0 15) ≤ 4 := zi_rd hIm18 hc0 zb_28_15
          have r34 : (-2147483648) ≤ (m18 a0 2) ∧ (m18 a0 2) ≤ 2147483647 := zi_rd hIm18 hc0 zb_28_2
          have e35 : (m18 a0 2) = 0 := (zs_eq hmm18)
          exact zw_some ⟨hIm18, hFm18, ⟨by omega, by omega⟩, ⟨by omega, by omega⟩⟩
        · refine zw_ite (fun h36 => ?_) (fun h36 => ?_)
          · have r37 : 0 ≤ (m18 a0 16) ∧ (m18 a0 16) ≤ 64 := zi_rd hIm18 hc0 zb_28_16
            have r38 : (-2147483648) ≤ (m18 a0 2) ∧ (m18 a0 2) ≤ 2147483647 := zi_rd hIm18 hc0 zb_28_2
            have e39 : (m18 a0 2) = 0 := (zs_eq hmm18)
            exact zw_some ⟨hIm18, hFm18, ⟨by omega, by omega⟩, ⟨by omega, by omega⟩⟩
          · refine zw_ite (fun h40 => ?_) (fun h40 => ?_)
            · have b41 : 0 ≤ (0 : Int) ∧ (0 : Int) < 2 := by omega
              refine zw_if b41 ?_
              have r42 : (-2147483648) ≤ (m18 221 0) ∧ (m18 221 0) ≤ 2147483647 := zi_rd hIm18 zq_221 (zb_130 _)
              have r43 : (-2147483648) ≤ (m18 a0 2) ∧ (m18 a0 2) ≤ 2147483647 := zi_rd hIm18 hc0 zb_28_2
              have e44 : (m18 a0 2) = 0 := (zs_eq hmm18)
              exact zw_some ⟨hIm18, hFm18, ⟨by omega, by omega⟩, ⟨by omega, by omega⟩⟩
            · refine zw_ite (fun h45 => ?_) (fun h45 => ?_)
              · refine zw_bd (zw_mono (zk_194 n hIm18 hc0 ⟨by omega, by omega⟩) (fun v47 m46 hqm46 => ?_))
                obtain ⟨hIm46, hfm46, hvm46⟩ := hqm46
                have hFm46 := zfr_tr hFm18 hfm46 rfl
                have r48 : (-2147483648) ≤ (m46 a0 2) ∧ (m46 a0 2) ≤ 2147483647 := zi_rd hIm46 hc0 zb_28_2
                have e49 : (m46 a0 2) = 0 := (Eq.trans (zfr_ap hfm46 hc0 rfl) (zs_eq hmm18))
                exact zw_some ⟨hIm46, hFm46, ⟨by omega, by omega⟩, ⟨by omega, by omega⟩⟩
              · refine zw_ite (fun h50 => ?_) (fun h50 => ?_)
                · refine zw_bd (zw_mono (zk_186 n hIm18 hc0 ⟨by omega, by omega⟩) (fun v52 m51 hqm51 => ?_))
                  obtain ⟨hIm51, hfm51, hvm51⟩ := hqm51
                  have hFm51 := zfr_tr hFm18 hfm51 rfl
                  have r53 : (-2147483648) ≤ (m51 a0 2) ∧ (m51 a0 2) ≤ 2147483647 := zi_rd hIm51 hc0 zb_28_2
                  have e54 : (m51 a0 2) = 0 := (Eq.trans (zfr_ap hfm51 hc0 rfl) (zs_eq hmm18))
                  exact zw_some ⟨hIm51, hFm51, ⟨by omega, by omega⟩, ⟨by omega, by omega⟩⟩
                · refine zw_ite (fun h55 => ?_) (fun h55 => ?_)
                  · refine zw_bd (zw_mono (zk_194 n hIm18 hc0 ⟨by omega, by omega⟩) (fun v57 m56 hqm56 => ?_))
                    obtain ⟨hIm56, hfm56, hvm56⟩ := hqm56
                    have hFm56 := zfr_tr hFm18 hfm56 rfl
                    have r58 : (-2147483648) ≤ (m56 a0 2) ∧ (m56 a0 2) ≤ 2147483647 := zi_rd hIm56 hc0 zb_28_2
                    have e59 : (m56 a0 2) = 0 := (Eq.trans (zfr_ap hfm56 hc0 rfl) (zs_eq hmm18))
                    exact zw_some ⟨hIm56, hFm56, ⟨by omega, by omega⟩, ⟨by omega, by omega⟩⟩
                  · refine zw_ite (fun h60 => ?_) (fun h60 => ?_)
                    · refine zw_bd (zw_mono (zk_194 n hIm18 hc0 ⟨by omega, by omega⟩) (fun v62 m61 hqm61 => ?_))
                      obtain ⟨hIm61, hfm61, hvm61⟩ := hqm61
                      have hFm61 := zfr_tr hFm18 hfm61 rfl
                      have r63 : (-2147483648) ≤ (m61 a0 2) ∧ (m61 a0 2) ≤ 2147483647 := zi_rd hIm61 hc0 zb_28_2
                      have e64 : (m61 a0 2) = 0 := (Eq.trans (zfr_ap hfm61 hc0 rfl) (zs_eq hmm18))
                      exact zw_some ⟨hIm61, hFm61, ⟨by omega, by omega⟩, ⟨by omega, by omega⟩⟩
                    · refine zw_ite (fun h65 => ?_) (fun h65 => ?_)
                      · have r66 : (-2147483648) ≤ (m18 a0 2) ∧ (m18 a0 2) ≤ 2147483647 := zi_rd hIm18 hc0 zb_28_2
                        have e67 : (m18 a0 2) = 0 := (zs_eq hmm18)
                        have hM : (48 - 0) * 1 + 0 < ((49 : Nat) : Int) := by omega
                        exact (zl_195 n (m0 := m0) hc0 49) 0 0 m18 hIm18 hFm18 ⟨by omega, by omega⟩ ⟨by omega, by omega⟩ ⟨by omega, by omega⟩ ⟨by omega, by omega⟩ hM
                      · refine zw_ite (fun h68 => ?_) (fun h68 => ?_)
                        · have r69 : (-2147483648) ≤ (m18 a0 62) ∧ (m18 a0 62) ≤ 2147483647 := zi_rd hIm18 hc0 zb_28_62
                          have r70 : (-2147483648) ≤ (m18 a0 2) ∧ (m18 a0 2) ≤ 2147483647 := zi_rd hIm18 hc0 zb_28_2
                          have e71 : (m18 a0 2) = 0 := (zs_eq hmm18)
                          exact zw_some ⟨hIm18, hFm18, ⟨by omega, by omega⟩, ⟨by omega, by omega⟩⟩
                        · refine zw_ite (fun h72 => ?_) (fun h72 => ?_)
                          · have r73 : 0 ≤ (m18 a0 77) ∧ (m18 a0 77) ≤ 24 := zi_rd hIm18 hc0 zb_28_77
                            have r74 : (-2147483648) ≤ (m18 a0 2) ∧ (m18 a0 2) ≤ 2147483647 := zi_rd hIm18 hc0 zb_28_2
                            have e75 : (m18 a0 2) = 0 := (zs_eq hmm18)
                            exact zw_some ⟨hIm18, hFm18, ⟨by omega, by omega⟩, ⟨by omega, by omega⟩⟩
                          · refine zw_ite (fun h76 => ?_) (fun h76 => ?_)
                            · refine zw_bd (zw_eq (zr_182_0 n a0 m18) ?_)
                              have r77 : (-1) ≤ (m18 a0 78) ∧ (m18 a0 78) ≤ 24 := zi_rd hIm18 hc0 zb_28_78
                              refine zw_ite (fun h78 => ?_) (fun h78 => ?_)
                              · refine zw_some ?_
                                have r79 : (-2147483648) ≤ (m18 a0 2) ∧ (m18 a0 2) ≤ 2147483647 := zi_rd hIm18 hc0 zb_28_2
                                have e80 : (m18 a0 2) = 0 := (zs_eq hmm18)
                                exact zw_some ⟨hIm18, hFm18, ⟨by omega, by omega⟩, ⟨by omega, by omega⟩⟩
                              · have r81 : 0 ≤ (m18 a0 77) ∧ (m18 a0 77) ≤ 24 := zi_rd hIm18 hc0 zb_28_77
                                refine zw_some ?_
                                have r82 : (-2147483648) ≤ (m18 a0 2) ∧ (m18 a0 2) ≤ 2147483647 := zi_rd hIm18 hc0 zb_28_2
                                have e83 : (m18 a0 2) = 0 := (zs_eq hmm18)
                                exact zw_some ⟨hIm18, hFm18, ⟨by omega, by omega⟩, ⟨by omega, by omega⟩⟩
                            · refine zw_ite (fun h84 => ?_) (fun h84 => ?_)
                              · have r85 : 0 ≤ (m18 a0 81) ∧ (m18 a0 81) ≤ 20 := zi_rd hIm18 hc0 zb_28_81
                                have r86 : (-2147483648) ≤ (m18 a0 2) ∧ (m18 a0 2) ≤ 2147483647 := zi_rd hIm18 hc0 zb_28_2
                                have e87 : (m18 a0 2) = 0 := (zs_eq hmm18)
                                exact zw_some ⟨hIm18, hFm18, ⟨by omega, by omega⟩, ⟨by omega, by omega⟩⟩
                              · refine zw_ite (fun h88 => ?_) (fun h88 => ?_)
                                · refine zw_bd (zw_mono (zk_141 n hIm18 hc0 ⟨by omega, by omega⟩) (fun v90 m89 hqm89 => ?_))
                                  obtain ⟨hIm89, hfm89, hvm89⟩ := hqm89
                                  have hFm89 := zfr_tr hFm18 hfm89 rfl
                                  have r91 : (-2147483648) ≤ (m89 a0 2) ∧ (m89 a0 2) ≤ 2147483647 := zi_rd hIm89 hc0 zb_28_2
                                  have e92 : (m89 a0 2) = 0 := (Eq.trans (zfr_ap hfm89 hc0 rfl) (zs_eq hmm18))
                                  exact zw_some ⟨hIm89, hFm89, ⟨by omega, by omega⟩, ⟨by omega, by omega⟩⟩
                                · have r93 : (-2147483648) ≤ (m18 a0 2) ∧ (m18 a0 2) ≤ 2147483647 := zi_rd hIm18 hc0 zb_28_2
                                  have e94 : (m18 a0 2) = 0 := (zs_eq hmm18)
                                  exact zw_some ⟨hIm18, hFm18, ⟨by omega, by omega⟩, ⟨by omega, by omega⟩⟩
set_option maxHeartbeats 4000000 in
theorem zk_199 (n : Nat) {a0 : Int} {m0 : zu_m} (hIm0 : zi_I m0) (hc0 : zcls a0 = 10)   (he0 : 1 ≤ m0 a0 6 ∧ m0 a0 6 ≤ 1)  (hRK10m0 : zR_K10 m0) : zw (zu_call (zt_T n) 199 [(24, a0)] m0) (fun v m => zi_I m ∧ zfr [(5, 6), (5, 7), (10, 4), (10, 5), (10, 7), (10, 8), (33, 0), (34, 0), (47, 0), (48, 0)] m0 m ∧ zR_K10 m ∧ (0 ≤ v ∧ v ≤ 2)) := by
  have hFm0 : zfr [(5, 6), (5, 7), (10, 4), (10, 5), (10, 7), (10, 8), (33, 0), (34, 0), (47, 0), (48, 0)] m0 m0 := zfr_rf _ _
  refine zw_eq (zr_199_0 n a0 m0) ?_
  have r1 : 0 ≤ (m0 45 4) ∧ (m0 45 4) ≤ 5 := zi_rd hIm0 zq_45 zb_9_4
  refine zw_ite (fun h2 => ?_) (fun h2 => ?_)
  · refine zw_bd (zw_eq (zr_279_0 n 45 26 7 m0) ?_)
    refine zw_ite (fun h3 => ?_) (fun h3 => ?_)
    · refine zw_b (by omega) ?_
      refine zw_some ?_
      refine zw_ite (fun h4 => ?_) (fun h4 => ?_)
      · refine zw_bd (zw_eq (zr_278_0 n 45 1 m0) ?_)
        refine zw_ite (fun h5 => ?_) (fun h5 => ?_)
        · refine zw_b (by omega) ?_
          refine zw_some ?_
          refine zw_ite (fun h6 => ?_) (fun h6 => ?_)
          · refine zw_bd (zw_eq (zr_279_0 n 45 25 1 m0) ?_)
            refine zw_ite (fun h7 => ?_) (fun h7 => ?_)
            · refine zw_b (by omega) ?_
              refine zw_some ?_
              refine zw_ite (fun h8 => ?_) (fun h8 => ?_)
              · exact zw_some ⟨hIm0, hFm0, hRK10m0, ⟨by omega, by omega⟩⟩
              · exfalso; omega
            · exfalso; omega
          · exfalso; omega
        · have r9 : (-2147483648) ≤ (m0 45 5) ∧ (m0 45 5) ≤ 2147483647 := zi_rd hIm0 zq_45 zb_9_5
          refine zw_ite (fun h10 => ?_) (fun h10 => ?_)
          · refine zw_b (by omega) ?_
            refine zw_some ?_
            refine zw_ite (fun h11 => ?_) (fun h11 => ?_)
            · refine zw_bd (zw_eq (zr_279_0 n 45 25 1 m0) ?_)
              refine zw_ite (fun h12 => ?_) (fun h12 => ?_)
              · refine zw_b (by omega) ?_
                refine zw_some ?_
                refine zw_ite (fun h13 => ?_) (fun h13 => ?_)
                · exact zw_some ⟨hIm0, hFm0, hRK10m0, ⟨by omega, by omega⟩⟩
                · exfalso; omega
              · exfalso; omega
            · exfalso; omega
          · refine zw_b (by omega) ?_
            refine zw_some ?_
            refine zw_ite (fun h14 => ?_) (fun h14 => ?_)
            · exfalso; omega
            · refine zw_bd (zw_eq (zr_201_0 n a0 m0) ?_)
              have r15 : 0 ≤ (m0 a0 4) ∧ (m0 a0 4) ≤ 8 := zi_rd hIm0 hc0 zb_10_4
              refine zw_ite (fun h16 => ?_) (fun h16 => ?_)
              · have w17 := zu_w32_id (z := (m0 a0 4) + 1) (by omega) (by omega)
                generalize hmm18 : zu_up m0 a0 4 (zu_w32 ((m0 a0 4) + 1)) = m18
                have hIm18 := zi_up hmm18 hIm0 hc0 zb_10_4 (by omega) (by omega)
                have hFm18 := zfr_up hmm18 hFm0 hc0 rfl
                have hRK10m18 := zR_K10_fr (zdis_fr (zfr_up hmm18 (zfr_rf [(10, 5)] _) hc0 rfl) rfl) hRK10m0
                have r19 : 0 ≤ (m18 a0 4) ∧ (m18 a0 4) ≤ 8 := zi_rd hIm18 hc0 zb_10_4
                have e20 : (m18 a0 4) = (zu_w32 ((m0 a0 4) + 1)) := (zs_eq hmm18)
                refine zw_b (by omega) ?_
                have b21 : 0 ≤ (m18 a0 4) ∧ (m18 a0 4) < 9 := by omega
                refine zw_if b21 ?_
                generalize hmm22 : zu_up m18 49 (m18 a0 4) 0 = m22
                have hIm22 := zi_up hmm22 hIm18 zq_49 (zb_48 _) (by omega) (by omega)
                have hFm22 := zfr_up hmm22 hFm18 zq_49 rfl
                have hRK10m22 := zR_K10_fr (zdis_fr (zfr_up hmm22 (zfr_rf [(48, 0)] _) zq_49 rfl) rfl) hRK10m18
                refine zw_b (by omega) ?_
                generalize hmm23 : zu_up m22 a0 7 1 = m23
                have hIm23 := zi_up hmm23 hIm22 hc0 zb_10_7 (by omega) (by omega)
                have hFm23 := zfr_up hmm23 hFm22 hc0 rfl
                have hRK10m23 := zR_K10_fr (zdis_fr (zfr_up hmm23 (zfr_rf [(10, 8)] _) hc0 rfl) rfl) hRK10m22
                refine zw_bd (zw_eq (zr_205_0 n a0 1 m23) ?_)
                have r24 : 0 ≤ (m23 a0 3) ∧ (m23 a0 3) ≤ 72 := zi_rd hIm23 hc0 zb_10_3
                refine zw_ite (fun h25 => ?_) (fun h25 => ?_)
                · have b26 : 0 ≤ (m23 a0 3) ∧ (m23 a0 3) < 72 := by omega
                  refine zw_if b26 ?_
                  generalize hmm27 : zu_up m23 48 (m23 a0 3) 1 = m27
                  have hIm27 := zi_up hmm27 hIm23 zq_48 (zb_47 _) (by omega) (by omega)
                  have hFm27 := zfr_up hmm27 hFm23 zq_48 rfl
                  have hRK10m27 := zR_K10_fr (zdis_fr (zfr_up hmm27 (zfr_rf [(47, 0)] _) zq_48 rfl) rfl) hRK10m23
                  have r28 : 0 ≤ (m27 a0 3) ∧ (m27 a0 3) ≤ 72 := zi_rd hIm27 hc0 zb_10_3
                  have e29 : (m27 a0 3) = (m23 a0 3) := (zs_ne hmm27 (Or.inl (zc_ne hc0 zq_48 (by decide))))
                  have w30 := zu_w32_id (z := (m27 a0 3) + 1) (by omega) (by omega)
                  generalize hmm31 : zu_up m27 a0 3 (zu_w32 ((m27 a0 3) + 1)) = m31
                  have hIm31 := zi_up hmm31 hIm27 hc0 zb_10_3 (by omega) (by omega)
                  have hFm31 := zfr_up hmm31 hFm27 hc0 rfl
                  have hRK10m31 := zR_K10_fr (zdis_fr (zfr_up hmm31 (zfr_rf [(10, 4)] _) hc0 rfl) rfl) hRK10m27
                  refine zw_some ?_
                  refine zw_some ?_
                  exact zw_some ⟨hIm31, hFm31, hRK10m31, ⟨by omega, by omega⟩⟩
                · refine zw_some ?_
                  refine zw_some ?_
                  exact zw_some ⟨hIm23, hFm23, hRK10m23, ⟨by omega, by omega⟩⟩
              · refine zw_some ?_
                exact zw_some ⟨hIm0, hFm0, hRK10m0, ⟨by omega, by omega⟩⟩
      · exfalso; omega
    · have r32 : (-2147483648) ≤ (m0 45 5) ∧ (m0 45 5) ≤ 2147483647 := zi_rd hIm0 zq_45 zb_9_5
      refine zw_ite (fun h33 => ?_) (fun h33 => ?_)
      · refine zw_b (by omega) ?_
        refine zw_some ?_
        refine zw_ite (fun h34 => ?_) (fun h34 => ?_)
        · refine zw_bd (zw_eq (zr_278_0 n 45 1 m0) ?_)
          refine zw_ite (fun h35 => ?_) (fun h35 => ?_)
          · refine zw_b (by omega) ?_
            refine zw_some ?_
            refine zw_ite (fun h36 => ?_) (fun h36 => ?_)
            · refine zw_bd (zw_eq (zr_279_0 n 45 25 1 m0) ?_)
              refine zw_ite (fun h37 => ?_) (fun h37 => ?_)
              · exfalso; omega
              · refine zw_ite (fun h38 => ?_) (fun h38 => ?_)
                · refine zw_b (by omega) ?_
                  refine zw_some ?_
                  refine zw_ite (fun h39 => ?_) (fun h39 => ?_)
                  · exact zw_some ⟨hIm0, hFm0, hRK10m0, ⟨by omega, by omega⟩⟩
                  · exfalso; omega
                · have w40 := zu_w32_id (z := 25 + 1) (by omega) (by omega)
                  refine zw_ite (fun h41 => ?_) (fun h41 => ?_)
                  · exfalso; omega
                  · refine zw_b (by omega) ?_
                    refine zw_some ?_
                    refine zw_ite (fun h42 => ?_) (fun h42 => ?_)
                    · exfalso; omega
                    · have r43 : 0 ≤ (m0 a0 7) ∧ (m0 a0 7) ≤ 1 := zi_rd hIm0 hc0 zb_10_7
                      refine zw_ite (fun h44 => ?_) (fun h44 => ?_)
                      · exact zw_some ⟨hIm0, hFm0, hRK10m0, ⟨by omega, by omega⟩⟩
                      · refine zw_bd (zw_eq (zr_204_0 n a0 m0) ?_)
                        have r45 : 0 ≤ (m0 10 5) ∧ (m0 10 5) ≤ 64 := zi_rd hIm0 zq_10 zb_5_5
                        refine zw_ite (fun h46 => ?_) (fun h46 => ?_)
                        · have w47 := zu_w32_id (z := (m0 10 5) + 1) (by omega) (by omega)
                          generalize hmm48 : zu_up m0 10 5 (zu_w32 ((m0 10 5) + 1)) = m48
                          have hIm48 := zi_up hmm48 hIm0 zq_10 zb_5_5 (by omega) (by omega)
                          have hFm48 := zfr_up hmm48 hFm0 zq_10 rfl
                          have hRK10m48 := zR_K10_fr (zdis_fr (zfr_up hmm48 (zfr_rf [(5, 6)] _) zq_10 rfl) rfl) hRK10m0
                          refine zw_b (by omega) ?_
                          refine zw_some ?_
                          refine zw_ite (fun h49 => ?_) (fun h49 => ?_)
                          · exfalso; omega
                          · refine zw_bd (zw_eq (zr_205_0 n a0 15 m48) ?_)
                            have r50 : 0 ≤ (m48 a0 3) ∧ (m48 a0 3) ≤ 72 := zi_rd hIm48 hc0 zb_10_3
                            refine zw_ite (fun h51 => ?_) (fun h51 => ?_)
                            · have b52 : 0 ≤ (m48 a0 3) ∧ (m48 a0 3) < 72 := by omega
                              refine zw_if b52 ?_
                              generalize hmm53 : zu_up m48 48 (m48 a0 3) 15 = m53
                              have hIm53 := zi_up hmm53 hIm48 zq_48 (zb_47 _) (by omega) (by omega)
                              have hFm53 := zfr_up hmm53 hFm48 zq_48 rfl
                              have hRK10m53 := zR_K10_fr (zdis_fr (zfr_up hmm53 (zfr_rf [(47, 0)] _) zq_48 rfl) rfl) hRK10m48
                              have r54 : 0 ≤ (m53 a0 3) ∧ (m53 a0 3) ≤ 72 := zi_rd hIm53 hc0 zb_10_3
                              have e55 : (m53 a0 3) = (m48 a0 3) := (zs_ne hmm53 (Or.inl (zc_ne hc0 zq_48 (by decide))))
                              have w56 := zu_w32_id (z := (m53 a0 3) + 1) (by omega) (by omega)
                              generalize hmm57 : zu_up m53 a0 3 (zu_w32 ((m53 a0 3) + 1)) = m57
                              have hIm57 := zi_up hmm57 hIm53 hc0 zb_10_3 (by omega) (by omega)
                              have hFm57 := zfr_up hmm57 hFm53 hc0 rfl
                              have hRK10m57 := zR_K10_fr (zdis_fr (zfr_up hmm57 (zfr_rf [(10, 4)] _) hc0 rfl) rfl) hRK10m53
                              refine zw_some ?_
                              exact zw_some ⟨hIm57, hFm57, hRK10m57, ⟨by omega, by omega⟩⟩
                            · refine zw_some ?_
                              exact zw_some ⟨hIm48, hFm48, hRK10m48, ⟨by omega, by omega⟩⟩
                        · refine zw_b (by omega) ?_
                          refine zw_some ?_
                          refine zw_ite (fun h58 => ?_) (fun h58 => ?_)
                          · exact zw_some ⟨hIm0, hFm0, hRK10m0, ⟨by omega, by omega⟩⟩
                          · exfalso; omega
            · exfalso; omega
          · exfalso; omega
        · exfalso; omega
      · have w59 := zu_w32_id (z := 26 + 7) (by omega) (by omega)
        refine zw_ite (fun h60 => ?_) (fun h60 => ?_)
        · refine zw_b (by omega) ?_
          refine zw_some ?_
          refine zw_ite (fun h61 => ?_) (fun h61 => ?_)
          · refine zw_bd (zw_eq (zr_278_0 n 45 1 m0) ?_)
            refine zw_ite (fun h62 => ?_) (fun h62 => ?_)
            · refine zw_b (by omega) ?_
              refine zw_some ?_
              refine zw_ite (fun h63 => ?_) (fun h63 => ?_)
              · refine zw_bd (zw_eq (zr_279_0 n 45 25 1 m0) ?_)
                refine zw_ite (fun h64 => ?_) (fun h64 => ?_)
                · exfalso; omega
                · refine zw_ite (fun h65 => ?_) (fun h65 => ?_)
                  · exfalso; omega
                  · have w66 := zu_w32_id (z := 25 + 1) (by omega) (by omega)
                    refine zw_ite (fun h67 => ?_) (fun h67 => ?_)
                    · refine zw_b (by omega) ?_
                      refine zw_some ?_
                      refine zw_ite (fun h68 => ?_) (fun h68 => ?_)
                      · exact zw_some ⟨hIm0, hFm0, hRK10m0, ⟨by omega, by omega⟩⟩
                      · exfalso; omega
                    · exfalso; omega
              · exfalso; omega
            · exfalso; omega
          · exfalso; omega
        · refine zw_b (by omega) ?_
          refine zw_some ?_
          refine zw_ite (fun h69 => ?_) (fun h69 => ?_)
          · exfalso; omega
          · have w70 := zu_w32_id (z := (m0 45 5) - 26) (by omega) (by omega)
            refine zw_bd (zw_eq (zr_200_0 n a0 17 (zu_w32 ((m0 45 5) - 26)) m0) ?_)
            refine zw_bd (zw_eq (zr_204_0 n a0 m0) ?_)
            have r71 : 0 ≤ (m0 10 5) ∧ (m0 10 5) ≤ 64 := zi_rd hIm0 zq_10 zb_5_5
            refine zw_ite (fun h72 => ?_) (fun h72 => ?_)
            · have w73 := zu_w32_id (z := (m0 10 5) + 1) (by omega) (by omega)
              generalize hmm74 : zu_up m0 10 5 (zu_w32 ((m0 10 5) + 1)) = m74
              have hIm74 := zi_up hmm74 hIm0 zq_10 zb_5_5 (by omega) (by omega)
              have hFm74 := zfr_up hmm74 hFm0 zq_10 rfl
              have hRK10m74 := zR_K10_fr (zdis_fr (zfr_up hmm74 (zfr_rf [(5, 6)] _) zq_10 rfl) rfl) hRK10m0
              refine zw_b (by omega) ?_
              refine zw_some ?_
              refine zw_ite (fun h75 => ?_) (fun h75 => ?_)
              · refine zw_bd (zw_mono (zk_207 n hIm74 zq_10 ⟨by omega, by omega⟩ ⟨by omega, by omega⟩ (by omega) hRK10m74) (fun v77 m76 hqm76 => ?_))
                obtain ⟨hIm76, hfm76, hvm76⟩ := hqm76
                have hFm76 := zfr_tr hFm74 hfm76 rfl
                obtain ⟨hRK10m76, hvm76⟩ := hvm76
                refine zw_b (by omega) ?_
                generalize hmm78 : zu_up m76 a0 6 0 = m78
                have hIm78 := zi_up hmm78 hIm76 hc0 zb_10_6 (by omega) (by omega)
                have hFm78 := zfr_up hmm78 hFm76 hc0 rfl
                have hRK10m78 := zR_K10_fr (zdis_fr (zfr_up hmm78 (zfr_rf [(10, 7)] _) hc0 rfl) rfl) hRK10m76
                refine zw_some ?_
                exact zw_some ⟨hIm78, hFm78, hRK10m78, ⟨by omega, by omega⟩⟩
              · exfalso; omega
            · refine zw_b (by omega) ?_
              refine zw_some ?_
              refine zw_ite (fun h79 => ?_) (fun h79 => ?_)
              · exfalso; omega
              · refine zw_some ?_
                exact zw_some ⟨hIm0, hFm0, hRK10m0, ⟨by omega, by omega⟩⟩
  · have r80 : (-2147483648) ≤ (m0 45 5) ∧ (m0 45 5) ≤ 2147483647 := zi_rd hIm0 zq_45 zb_9_5
    refine zw_ite (fun h81 => ?_) (fun h81 => ?_)
    · refine zw_bd (zw_eq (zr_200_0 n a0 16 (m0 45 5) m0) ?_)
      refine zw_bd (zw_eq (zr_204_0 n a0 m0) ?_)
      have r82 : 0 ≤ (m0 10 5) ∧ (m0 10 5) ≤ 64 := zi_rd hIm0 zq_10 zb_5_5
      refine zw_ite (fun h83 => ?_) (fun h83 => ?_)
      · have w84 := zu_w32_id (z := (m0 10 5) + 1) (by omega) (by omega)
        generalize hmm85 : zu_up m0 10 5 (zu_w32 ((m0 10 5) + 1)) = m85
        have hIm85 := zi_up hmm85 hIm0 zq_10 zb_5_5 (by omega) (by omega)
        have hFm85 := zfr_up hmm85 hFm0 zq_10 rfl
        have hRK10m85 := zR_K10_fr (zdis_fr (zfr_up hmm85 (zfr_rf [(5, 6)] _) zq_10 rfl) rfl) hRK10m0
        refine zw_b (by omega) ?_
        refine zw_some ?_
        refine zw_ite (fun h86 => ?_) (fun h86 => ?_)
        · refine zw_bd (zw_mono (zk_207 n hIm85 zq_10 ⟨by omega, by omega⟩ ⟨by omega, by omega⟩ (by omega) hRK10m85) (fun v88 m87 hqm87 => ?_))
          obtain ⟨hIm87, hfm87, hvm87⟩ := hqm87
          have hFm87 := zfr_tr hFm85 hfm87 rfl
          obtain ⟨hRK10m87, hvm87⟩ := hvm87
          refine zw_b (by omega) ?_
          generalize hmm89 : zu_up m87 a0 6 0 = m89
          have hIm89 := zi_up hmm89 hIm87 hc0 zb_10_6 (by omega) (by omega)
          have hFm89 := zfr_up hmm89 hFm87 hc0 rfl
          have hRK10m89 := zR_K10_fr (zdis_fr (zfr_up hmm89 (zfr_rf [(10, 7)] _) hc0 rfl) rfl) hRK10m87
          refine zw_some ?_
          exact zw_some ⟨hIm89, hFm89, hRK10m89, ⟨by omega, by omega⟩⟩
        · exfalso; omega
      · refine zw_b (by omega) ?_
        refine zw_some ?_
        refine zw_ite (fun h90 => ?_) (fun h90 => ?_)
        · exfalso; omega
        · refine zw_some ?_
          exact zw_some ⟨hIm0, hFm0, hRK10m0, ⟨by omega, by omega⟩⟩
    · exact zw_some ⟨hIm0, hFm0, hRK10m0, ⟨by omega, by omega⟩⟩
set_option maxHeartbeats 4000000 in
theorem zk_202 (n : Nat) {a0 : Int} {m0 : zu_m} (hIm0 : zi_I m0) (hc0 : zcls a0 = 10)   (he0 : 0 ≤ m0 a0 6 ∧ m0 a0 6 ≤ 0)  (hRK10m0 : zR_K10 m0) (hRTVm0 : zR_TV m0) : zw (zu_call (zt_T n) 202 [(24, a0)] m0) (fun v m => zi_I m ∧ zfr [(5, 6), (5, 7), (10, 4), (10, 5), (10, 7), (10, 8), (33, 0), (34, 0), (47, 0), (48, 0)] m0 m ∧ zR_K10 m ∧ zR_TV m ∧ (0 ≤ v ∧ v ≤ 2)) := by
  sorry
set_option maxHeartbeats 4000000 in
theorem zk_219_16 (n : Nat) {a0 a1 : Int} {m0 : zu_m} (hIm0 : zi_I m0) (hc0 : zcls a0 = 16) (ha1 : 0 ≤ a1 ∧ a1 ≤ 3)     : zw (zu_call (zt_T n) 219 [(27, a0), (0, a1)] m0) (fun v m => zi_I m ∧ zfr [(18, 2)] m0 m ∧ True) := by
  sorry
set_option maxHeartbeats 4000000 in
theorem zk_219_25 (n : Nat) {a0 a1 : Int} {m0 : zu_m} (hIm0 : zi_I m0) (hc0 : zcls a0 = 25) (ha1 : 0 ≤ a1 ∧ a1 ≤ 3)     : zw (zu_call (zt_T n) 219 [(27, a0), (0, a1)] m0) (fun v m => zi_I m ∧ zfr [(27, 2)] m0 m ∧ True) := by
  sorry
set_option maxHeartbeats 4000000 in
theorem zk_250 (n : Nat) {a0 : Int} {m0 : zu_m} (hIm0 : zi_I m0) (hc0 : zcls a0 = 11)     (hRK54m0 : zR_K54 m0) : zw (zu_call (zt_T n) 250 [(8, a0)] m0) (fun v m => zi_I m ∧ zfr [(56, 0)] m0 m ∧ zR_K54 m ∧ (0 ≤ v ∧ v ≤ 100)) := by
  have hFm0 : zfr [(56, 0)] m0 m0 := zfr_rf _ _
  refine zw_eq (zr_250_0 n a0 m0) ?_
  refine zw_bd (zw_mono (zk_26 n hIm0 (zc_11_9 hc0) (zc_11_12 hc0) ⟨by omega, by omega⟩ hRK54m0) (fun v2 m1 hqm1 => ?_))
  obtain ⟨hIm1, hfm1, hvm1⟩ := hqm1
  have hFm1 := zfr_tr hFm0 hfm1 rfl
  obtain ⟨hRK54m1, hvm1⟩ := hvm1
  have c3 := zu_lcmp_sp v2 (-9223372036854775808)
  refine zw_ite (fun h4 => ?_) (fun h4 => ?_)
  · have b5 : 0 ≤ (2 : Int) ∧ (2 : Int) < 7 := by omega
    refine zw_if b5 ?_
    have r6 : 0 ≤ (m1 (a0 + 12) 2) ∧ (m1 (a0 + 12) 2) ≤ 3 := zi_rdr (m := 7) (r0 := 2) (r1 := 2) hIm1 (zc_11_12 hc0) (by omega) (by decide +kernel)
    refine zw_ite (fun h7 => ?_) (fun h7 => ?_)
    · have b8 : 0 ≤ (1 : Int) ∧ (1 : Int) < 7 := by omega
      refine zw_if b8 ?_
      have r9 : 0 ≤ (m1 (a0 + 12) 1) ∧ (m1 (a0 + 12) 1) ≤ 9 := zi_rdr (m := 7) (r0 := 1) (r1 := 1) hIm1 (zc_11_12 hc0) (by omega) (by decide +kernel)
      have w10 := zu_w32_id (z := 10 * (m1 (a0 + 12) 1)) (by omega) (by omega)
      have w11 := zu_w32_id (z := 100 - (zu_w32 (10 * (m1 (a0 + 12) 1)))) (by omega) (by omega)
      refine zw_ite (fun h12 => ?_) (fun h12 => ?_)
      · have w13 := zu_w32_id (z := (zu_w32 (100 - (zu_w32 (10 * (m1 (a0 + 12) 1))))) - 0) (by omega) (by omega)
        have k14 := zmax_bd 0 (zu_w32 ((zu_w32 (100 - (zu_w32 (10 * (m1 (a0 + 12) 1))))) - 0))
        exact zw_some ⟨hIm1, hFm1, hRK54m1, ⟨by omega, by omega⟩⟩
      · exfalso; omega
    · have b15 : 0 ≤ (0 : Int) ∧ (0 : Int) < 7 := by omega
      refine zw_if b15 ?_
      have r16 : 0 ≤ (m1 (a0 + 12) 0) ∧ (m1 (a0 + 12) 0) ≤ 15 := zi_rdr (m := 7) (r0 := 0) (r1 := 0) hIm1 (zc_11_12 hc0) (by omega) (by decide +kernel)
      refine zw_ite (fun h17 => ?_) (fun h17 => ?_)
      · have b18 : 0 ≤ (1 : Int) ∧ (1 : Int) < 7 := by omega
        refine zw_if b18 ?_
        have r19 : 0 ≤ (m1 (a0 + 12) 1) ∧ (m1 (a0 + 12) 1) ≤ 9 := zi_rdr (m := 7) (r0 := 1) (r1 := 1) hIm1 (zc_11_12 hc0) (by omega) (by decide +kernel)
        have w20 := zu_w32_id (z := 10 * (m1 (a0 + 12) 1)) (by omega) (by omega)
        have w21 := zu_w32_id (z := 100 - (zu_w32 (10 * (m1 (a0 + 12) 1)))) (by omega) (by omega)
        refine zw_ite (fun h22 => ?_) (fun h22 => ?_)
        · have w23 := zu_w32_id (z := (zu_w32 (100 - (zu_w32 (10 * (m1 (a0 + 12) 1))))) - 0) (by omega) (by omega)
          have k24 := zmax_bd 0 (zu_w32 ((zu_w32 (100 - (zu_w32 (10 * (m1 (a0 + 12) 1))))) - 0))
          exact zw_some ⟨hIm1, hFm1, hRK54m1, ⟨by omega, by omega⟩⟩
        · exfalso; omega
      · have b25 : 0 ≤ (1 : Int) ∧ (1 : Int) < 7 := by omega
        refine zw_if b25 ?_
        have r26 : 0 ≤ (m1 (a0 + 12) 1) ∧ (m1 (a0 + 12) 1) ≤ 9 := zi_rdr (m := 7) (r0 := 1) (r1 := 1) hIm1 (zc_11_12 hc0) (by omega) (by decide +kernel)
        have w27 := zu_w32_id (z := 10 * (m1 (a0 + 12) 1)) (by omega) (by omega)
        have w28 := zu_w32_id (z := 100 - (zu_w32 (10 * (m1 (a0 + 12) 1)))) (by omega) (by omega)
        refine zw_ite (fun h29 => ?_) (fun h29 => ?_)
        · exfalso; omega
        · have w30 := zu_w32_id (z := (zu_w32 (100 - (zu_w32 (10 * (m1 (a0 + 12) 1))))) - 20) (by omega) (by omega)
          have k31 := zmax_bd 0 (zu_w32 ((zu_w32 (100 - (zu_w32 (10 * (m1 (a0 + 12) 1))))) - 20))
          exact zw_some ⟨hIm1, hFm1, hRK54m1, ⟨by omega, by omega⟩⟩
  · refine zw_bd (zw_eq (zr_253_0 n v2 100 m1) ?_)
    have k32 := zmin_bd 100 v2
    have k33 := zmax_bd 0 (zu_min 100 v2)
    have w34 := zu_w32_id (z := (zu_max 0 (zu_min 100 v2))) (by omega) (by omega)
    refine zw_some ?_
    exact zw_some ⟨hIm1, hFm1, hRK54m1, ⟨by omega, by omega⟩⟩
set_option maxHeartbeats 4000000 in
theorem zk_251 (n : Nat) {a0 : Int} {m0 : zu_m} (hIm0 : zi_I m0) (hc0 : zcls a0 = 11)     (hRK54m0 : zR_K54 m0) : zw (zu_call (zt_T n) 251 [(8, a0)] m0) (fun v m => zi_I m ∧ zfr [(56, 0)] m0 m ∧ zR_K54 m ∧ (0 ≤ v ∧ v ≤ 999)) := by
  have hFm0 : zfr [(56, 0)] m0 m0 := zfr_rf _ _
  refine zw_eq (zr_251_0 n a0 m0) ?_
  refine zw_bd (zw_mono (zk_26 n hIm0 (zc_11_9 hc0) (zc_11_12 hc0) ⟨by omega, by omega⟩ hRK54m0) (fun v2 m1 hqm1 => ?_))
  obtain ⟨hIm1, hfm1, hvm1⟩ := hqm1
  have hFm1 := zfr_tr hFm0 hfm1 rfl
  obtain ⟨hRK54m1, hvm1⟩ := hvm1
  have c3 := zu_lcmp_sp v2 (-9223372036854775808)
  refine zw_ite (fun h4 => ?_) (fun h4 => ?_)
  · refine zw_bd (zw_eq (zr_253_0 n v2 999 m1) ?_)
    have k5 := zmin_bd 999 v2
    have k6 := zmax_bd 0 (zu_min 999 v2)
    have w7 := zu_w32_id (z := (zu_max 0 (zu_min 999 v2))) (by omega) (by omega)
    refine zw_some ?_
    exact zw_some ⟨hIm1, hFm1, hRK54m1, ⟨by omega, by omega⟩⟩
  · have b8 : 0 ≤ (4 : Int) ∧ (4 : Int) < 7 := by omega
    refine zw_if b8 ?_
    have r9 : 0 ≤ (m1 (a0 + 12) 4) ∧ (m1 (a0 + 12) 4) ≤ 1 := zi_rdr (m := 7) (r0 := 4) (r1 := 4) hIm1 (zc_11_12 hc0) (by omega) (by decide +kernel)
    have w10 := zu_w32_id (z := 10 * (m1 (a0 + 12) 4)) (by omega) (by omega)
    have w11 := zu_w32_id (z := 10 + (zu_w32 (10 * (m1 (a0 + 12) 4)))) (by omega) (by omega)
    exact zw_some ⟨hIm1, hFm1, hRK54m1, ⟨by omega, by omega⟩⟩
set_option maxHeartbeats 4000000 in
theorem zk_252 (n : Nat) {a0 : Int} {m0 : zu_m} (hIm0 : zi_I m0) (hc0 : zcls a0 = 11)     (hRK54m0 : zR_K54 m0) : zw (zu_call (zt_T n) 252 [(8, a0)] m0) (fun v m => zi_I m ∧ zfr [(56, 0)] m0 m ∧ zR_K54 m ∧ (0 ≤ v ∧ v ≤ 100)) := by
  have hFm0 : zfr [(56, 0)] m0 m0 := zfr_rf _ _
  refine zw_eq (zr_252_0 n a0 m0) ?_
  refine zw_bd (zw_mono (zk_26 n hIm0 (zc_11_9 hc0) (zc_11_12 hc0) ⟨by omega, by omega⟩ hRK54m0) (fun v2 m1 hqm1 => ?_))
  obtain ⟨hIm1, hfm1, hvm1⟩ := hqm1
  have hFm1 := zfr_tr hFm0 hfm1 rfl
  obtain ⟨hRK54m1, hvm1⟩ := hvm1
  have c3 := zu_lcmp_sp v2 (-9223372036854775808)
  refine zw_ite (fun h4 => ?_) (fun h4 => ?_)
  · refine zw_bd (zw_eq (zr_253_0 n v2 100 m1) ?_)
    have k5 := zmin_bd 100 v2
    have k6 := zmax_bd 0 (zu_min 100 v2)
    have w7 := zu_w32_id (z := (zu_max 0 (zu_min 100 v2))) (by omega) (by omega)
    refine zw_some ?_
    exact zw_some ⟨hIm1, hFm1, hRK54m1, ⟨by omega, by omega⟩⟩
  · exact zw_some ⟨hIm1, hFm1, hRK54m1, ⟨by omega, by omega⟩⟩
set_option maxHeartbeats 4000000 in
theorem zk_259 (n : Nat) {a0 : Int} {m0 : zu_m} (hIm0 : zi_I m0) (hc0 : zcls a0 = 3)      : zw (zu_call (zt_T n) 259 [(7, a0)] m0) (fun v m => zi_I m ∧ zfr [(3, 10), (3, 11), (9, 4), (9, 5), (9, 6), (9, 7)] m0 m ∧ zR_TV m ∧ (0 ≤ v ∧ v ≤ 1)) := by
  have hFm0 : zfr [(3, 10), (3, 11), (9, 4), (9, 5), (9, 6), (9, 7)] m0 m0 := zfr_rf _ _
  refine zw_eq (zr_259_0 n a0 m0) ?_
  refine zw_bd (zw_mono (zk_18 n hIm0 zq_45) (fun v2 m1 hqm1 => ?_))
  obtain ⟨hIm1, hfm1, hvm1⟩ := hqm1
  have hFm1 := zfr_tr hFm0 hfm1 rfl
  obtain ⟨hRTVm1, hvm1⟩ := hvm1
  have s3 := hRTVm1 45 zq_45
  refine zw_bd (zw_eq (zr_278_0 n 45 0 m1) ?_)
  have r4 : 0 ≤ (m1 45 4) ∧ (m1 45 4) ≤ 5 := zi_rd hIm1 zq_45 zb_9_4
  refine zw_ite (fun h5 => ?_) (fun h5 => ?_)
  · refine zw_b (by omega) ?_
    refine zw_some ?_
    refine zw_ite (fun h6 => ?_) (fun h6 => ?_)
    · exfalso; omega
    · refine zw_bd (zw_eq (zr_257_0 n a0 1 m1) ?_)
      generalize hmm7 : zu_up m1 a0 9 1 = m7
      have hIm7 := zi_up hmm7 hIm1 hc0 zb_3_9 (by omega) (by omega)
      have hFm7 := zfr_up hmm7 hFm1 hc0 rfl
      have hRTVm7 := zR_TV_fr (zdis_fr (zfr_up hmm7 (zfr_rf [(3, 10)] _) hc0 rfl) rfl) hRTVm1
      have r8 : 0 ≤ (m7 45 6) ∧ (m7 45 6) ≤ 700 := zi_rd hIm7 zq_45 zb_9_6
      generalize hmm9 : zu_up m7 a0 10 (m7 45 6) = m9
      have hIm9 := zi_up hmm9 hIm7 hc0 zb_3_10 (by omega) (by omega)
      have hFm9 := zfr_up hmm9 hFm7 hc0 rfl
      have hRTVm9 := zR_TV_fr (zdis_fr (zfr_up hmm9 (zfr_rf [(3, 11)] _) hc0 rfl) rfl) hRTVm7
      refine zw_b (by omega) ?_
      refine zw_some ?_
      refine zw_ite (fun h10 => ?_) (fun h10 => ?_)
      · refine zw_b (by omega) ?_
        exact zw_some ⟨hIm9, hFm9, hRTVm9, ⟨by omega, by omega⟩⟩
      · exfalso; omega
  · refine zw_ite (fun h11 => ?_) (fun h11 => ?_)
    · refine zw_b (by omega) ?_
      refine zw_some ?_
      refine zw_ite (fun h12 => ?_) (fun h12 => ?_)
      · exfalso; omega
      · refine zw_bd (zw_eq (zr_257_0 n a0 1 m1) ?_)
        generalize hmm13 : zu_up m1 a0 9 1 = m13
        have hIm13 := zi_up hmm13 hIm1 hc0 zb_3_9 (by omega) (by omega)
        have hFm13 := zfr_up hmm13 hFm1 hc0 rfl
        have hRTVm13 := zR_TV_fr (zdis_fr (zfr_up hmm13 (zfr_rf [(3, 10)] _) hc0 rfl) rfl) hRTVm1
        have r14 : 0 ≤ (m13 45 6) ∧ (m13 45 6) ≤ 700 := zi_rd hIm13 zq_45 zb_9_6
        generalize hmm15 : zu_up m13 a0 10 (m13 45 6) = m15
        have hIm15 := zi_up hmm15 hIm13 hc0 zb_3_10 (by omega) (by omega)
        have hFm15 := zfr_up hmm15 hFm13 hc0 rfl
        have hRTVm15 := zR_TV_fr (zdis_fr (zfr_up hmm15 (zfr_rf [(3, 11)] _) hc0 rfl) rfl) hRTVm13
        refine zw_b (by omega) ?_
        refine zw_some ?_
        refine zw_ite (fun h16 => ?_) (fun h16 => ?_)
        · refine zw_b (by omega) ?_
          exact zw_some ⟨hIm15, hFm15, hRTVm15, ⟨by omega, by omega⟩⟩
        · exfalso; omega
    · refine zw_b (by omega) ?_
      refine zw_some ?_
      refine zw_ite (fun h17 => ?_) (fun h17 => ?_)
      · refine zw_b (by omega) ?_
        exact zw_some ⟨hIm1, hFm1, hRTVm1, ⟨by omega, by omega⟩⟩
      · exfalso; omega
set_option maxHeartbeats 4000000 in
theorem zl_284 (n : Nat) {a0 a1 a2 : Int} {m0 : zu_m} (hc0 : zcls a0 = 24)   : ∀ k : Nat, (∀ (x3 x4 : Int) (mh : zu_m), zi_I mh → zfr [(25, 3), (25, 5), (25, 9), (25, 10), (25, 11), (25, 12), (26, 1), (26, 2), (26, 3), (26, 4), (27, 1), (27, 2), (27, 3), (27, 4), (27, 5), (27, 6), (27, 7), (27, 8), (97, 0), (98, 0)] m0 mh → (0 ≤ a1 ∧ a1 ≤ 3) → (1 ≤ a2 ∧ a2 ≤ 99999) → (0 ≤ x3 ∧ x3 ≤ 47) → (0 ≤ x4 ∧ x4 ≤ 40) → (40 - x4) * 1 + 0 < (k : Int) → zw (zu_ex (zt_T n) 284 27 [(33, a0), (0, a1), (0, a2), (0, x3), (0, x4), (2, 0)] [] mh) (fun v m => zi_I m ∧ zfr [(25, 3), (25, 5), (25, 9), (25, 10), (25, 11), (25, 12), (26, 1), (26, 2), (26, 3), (26, 4), (27, 1), (27, 2), (27, 3), (27, 4), (27, 5), (27, 6), (27, 7), (27, 8), (97, 0), (98, 0)] m0 m ∧ (0 ≤ v ∧ v ≤ 40))) := by
  intro k
  induction k with
  | zero => exact fun x3 x4 mh hImh hFmh hba1 hba2 hbx3 hbx4 hM => by exfalso; omega
  | succ k ih =>
    intro x3 x4 mh hImh hFmh hba1 hba2 hbx3 hbx4 hM
    refine zw_eq (zr_284_27 n a0 a1 a2 x3 x4 mh) ?_
    refine zw_ite (fun h1 => ?_) (fun h1 => ?_)
    · exact zw_some ⟨hImh, hFmh, ⟨by omega, by omega⟩⟩
    · refine zw_bd (zw_mono (zk_223_25 n hImh zq_164 ⟨by omega, by omega⟩ ⟨by omega, by omega⟩) (fun v3 m2 hqm2 => ?_))
      obtain ⟨hIm2, hfm2, hvm2⟩ := hqm2
      have hFm2 := zfr_tr hFmh hfm2 rfl
      refine zw_ite (fun h4 => ?_) (fun h4 => ?_)
      · exact zw_some ⟨hIm2, hFm2, ⟨by omega, by omega⟩⟩
      · have b5 : 0 ≤ v3 ∧ v3 < 48 := by omega
        refine zw_if b5 ?_
        have r6 : 0 ≤ (m2 (164 + 4) v3) ∧ (m2 (164 + 4) v3) ≤ 999000 := zi_rd hIm2 (zc_25_6 zq_164) (zb_98 _)
        refine zw_bd (zw_mono (zk_245 n hIm2 zq_50 ⟨by omega, by omega⟩ ⟨by omega, by omega⟩) (fun v8 m7 hqm7 => ?_))
        obtain ⟨hIm7, hfm7, hvm7⟩ := hqm7
        have hFm7 := zfr_tr hFm2 hfm7 rfl
        have w9 := zu_w32_id (z := v8 + 1) (by omega) (by omega)
        have p10 := zmul_bd (x := a2) (y := (zu_w32 (v8 + 1))) (a := 1) (b := 1) (A := 99999) (B := 13) (by omega) (by omega) (by omega) (by omega) (by omega) (by omega)
        have w11 := zu_w32_id (z := a2 * (zu_w32 (v8 + 1))) (by omega) (by omega)
        refine zw_ite (fun h12 => ?_) (fun h12 => ?_)
        · have b13 : 0 ≤ v3 ∧ v3 < 48 := by omega
          refine zw_if b13 ?_
          have r14 : 0 ≤ (m7 (164 + 4) v3) ∧ (m7 (164 + 4) v3) ≤ 999000 := zi_rd hIm7 (zc_25_6 zq_164) (zb_98 _)
          have e15 : (m7 (164 + 4) v3) = (m2 (164 + 4) v3) := (zfr_ap hfm7 (zc_25_6 zq_164) rfl)
          refine zw_bd (zw_mono (zk_254 n hIm7 zq_50 ⟨by omega, by omega⟩ ⟨by omega, by omega⟩ ⟨by omega, by omega⟩) (fun v17 m16 hqm16 => ?_))
          obtain ⟨hIm16, hfm16, hvm16⟩ := hqm16
          have hFm16 := zfr_tr hFm7 hfm16 rfl
          have b18 : 0 ≤ v3 ∧ v3 < 48 := by omega
          refine zw_if b18 ?_
          generalize hmm19 : zu_up m16 (164 + 4) v3 v17 = m19
          have hIm19 := zi_up hmm19 hIm16 (zc_25_6 zq_164) (zb_98 _) (by omega) (by omega)
          have hFm19 := zfr_up hmm19 hFm16 (zc_25_6 zq_164) rfl
          have w20 := zu_w32_id (z := x4 + 1) (by omega) (by omega)
          have hM : (40 - (zu_w32 (x4 + 1))) * 1 + 0 < (k : Int) := by omega
          exact zw_le (zu_forget (zu_lr_same (zu_lr_same (zu_lr_same (zu_lr_same (zu_lr_same (zu_lr_drop zu_lr_nil))))))) (ih v3 (zu_w32 (x4 + 1)) m19 hIm19 hFm19 ⟨by omega, by omega⟩ ⟨by omega, by omega⟩ ⟨by omega, by omega⟩ ⟨by omega, by omega⟩ hM)
        · exact zw_some ⟨hIm7, hFm7, ⟨by omega, by omega⟩⟩
set_option maxHeartbeats 4000000 in
theorem zk_284 (n : Nat) {a0 a1 a2 : Int} {m0 : zu_m} (hIm0 : zi_I m0) (hc0 : zcls a0 = 24) (ha1 : 0 ≤ a1 ∧ a1 ≤ 3) (ha2 : 1 ≤ a2 ∧ a2 ≤ 99999)     : zw (zu_call (zt_T n) 284 [(33, a0), (0, a1), (0, a2)] m0) (fun v m => zi_I m ∧ zfr [(25, 3), (25, 5), (25, 9), (25, 10), (25, 11), (25, 12), (26, 1), (26, 2), (26, 3), (26, 4), (27, 1), (27, 2), (27, 3), (27, 4), (27, 5), (27, 6), (27, 7), (27, 8), (97, 0), (98, 0)] m0 m ∧ (0 ≤ v ∧ v ≤ 40)) := by
  have hFm0 : zfr [(25, 3), (25, 5), (25, 9), (25, 10), (25, 11), (25, 12), (26, 1), (26, 2), (26, 3), (26, 4), (27, 1), (27, 2), (27, 3), (27, 4), (27, 5), (27, 6), (27, 7), (27, 8), (97, 0), (98, 0)] m0 m0 := zfr_rf _ _
  refine zw_eq (zr_284_0 n a0 a1 a2 m0) ?_
  refine zw_bd (zw_mono (zk_22_25_16 n hIm0 zq_164 zq_89) (fun v22 m21 hqm21 => ?_))
  obtain ⟨hIm21, hfm21, hvm21⟩ := hqm21
  have hFm21 := zfr_tr hFm0 hfm21 rfl
  have b23 : 0 ≤ a1 ∧ a1 < 4 := by omega
  refine zw_if b23 ?_
  have r24 : 0 ≤ (m21 ((164 + 2) + 20 + a1) 1) ∧ (m21 ((164 + 2) + 20 + a1) 1) ≤ 47 := zi_rd hIm21 (zc_96_e (zc_25_3 zq_164) b23) zb_27_1
  have hM : (40 - 0) * 1 + 0 < ((41 : Nat) : Int) := by omega
  exact (zl_284 n (m0 := m0) hc0 41) (m21 ((164 + 2) + 20 + a1) 1) 0 m21 hIm21 hFm21 ⟨by omega, by omega⟩ ⟨by omega, by omega⟩ ⟨by omega, by omega⟩ ⟨by omega, by omega⟩ hM
set_option maxHeartbeats 4000000 in
theorem zl_294 (n : Nat) {a0 : Int} {m0 : zu_m} (hc0 : zcls a0 = 24)   : ∀ k : Nat, (∀ (x1 : Int) (mh : zu_m), zi_I mh → zfr [(24, 19), (93, 0), (94, 0)] m0 mh → (0 ≤ x1 ∧ x1 ≤ 48) → (48 - x1) * 1 + 30 < (k : Int) → zw (zu_ex (zt_T n) 294 7 [(33, a0), (0, x1), (2, 0), (2, 0)] [] mh) (fun v m => zi_I m ∧ zfr [(24, 19), (93, 0), (94, 0)] m0 m ∧ (0 ≤ v ∧ v ≤ 16))) ∧ (∀ (x1 x2 : Int) (mh : zu_m), zi_I mh → zfr [(24, 19), (93, 0), (94, 0)] m0 mh → (0 ≤ x1 ∧ x1 ≤ 16) → (0 ≤ x2 ∧ x2 ≤ 4) → (x1 ≤ 4 * x2) → (4 - x2) * 6 + 5 < (k : Int) → zw (zu_ex (zt_T n) 294 41 [(33, a0), (0, x1), (0, x2), (2, 0)] [] mh) (fun v m => zi_I m ∧ zfr [(24, 19), (93, 0), (94, 0)] m0 m ∧ (0 ≤ v ∧ v ≤ 16))) ∧ (∀ (x1 x2 x3 : Int) (mh : zu_m), zi_I mh → zfr [(24, 19), (93, 0), (94, 0)] m0 mh → (0 ≤ x1 ∧ x1 ≤ 16) → (0 ≤ x2 ∧ x2 ≤ 3) → (0 ≤ x3 ∧ x3 ≤ 4) → (1 ≤ mh a0 18 ∧ mh a0 18 ≤ 4) → (x1 ≤ 4 * x2 + x3) → (4 - x3) * 1 + (4 - x2) * 6 + 0 < (k : Int) → zw (zu_ex (zt_T n) 294 51 [(33, a0), (0, x1), (0, x2), (0, x3)] [] mh) (fun v m => zi_I m ∧ zfr [(24, 19), (93, 0), (94, 0)] m0 m ∧ (0 ≤ v ∧ v ≤ 16))) := by
  intro k
  induction k with
  | zero => exact ⟨fun x1 mh hImh hFmh hbx1 hM => by exfalso; omega, fun x1 x2 mh hImh hFmh hbx1 hbx2 hH0 hM => by exfalso; omega, fun x1 x2 x3 mh hImh hFmh hbx1 hbx2 hbx3 hg3 hH0 hM => by exfalso; omega⟩
  | succ k ih =>
    refine ⟨?_, ?_, ?_⟩
    · intro x1 mh hImh hFmh hbx1 hM
      refine zw_eq (zr_294_7 n a0 x1 mh) ?_
      have r1 : 1 ≤ (mh 50 2) ∧ (mh 50 2) ≤ 48 := zi_rd hImh zq_50 zb_11_2
      refine zw_ite (fun h2 => ?_) (fun h2 => ?_)
      · have hM : (4 - 0) * 6 + 5 < (k : Int) := by omega
        exact ih.2.1 0 0 mh hImh hFmh ⟨by omega, by omega⟩ ⟨by omega, by omega⟩ (by omega) hM
      · have b3 : 0 ≤ x1 ∧ x1 < 48 := by omega
        refine zw_if b3 ?_
        have r4 : 0 ≤ (mh (89 + 4) x1) ∧ (mh (89 + 4) x1) ≤ 999000 := zi_rd hImh (zc_16_6 zq_89) (zb_68 _)
        refine zw_bd (zw_mono (zk_295 n hImh hc0 ⟨by omega, by omega⟩) (fun v6 m5 hqm5 => ?_))
        obtain ⟨hIm5, hfm5, hvm5⟩ := hqm5
        have hFm5 := zfr_tr hFmh hfm5 rfl
        have w7 := zu_w32_id (z := x1 + 1) (by omega) (by omega)
        have hM : (48 - (zu_w32 (x1 + 1))) * 1 + 30 < (k : Int) := by omega
        exact ih.1 (zu_w32 (x1 + 1)) m5 hIm5 hFm5 ⟨by omega, by omega⟩ hM
    · intro x1 x2 mh hImh hFmh hbx1 hbx2 hH0 hM
      refine zw_eq (zr_294_41 n a0 x1 x2 mh) ?_
      have r8 : 0 ≤ (mh a0 18) ∧ (mh a0 18) ≤ 4 := zi_rd hImh hc0 zb_24_18
      refine zw_ite (fun h9 => ?_) (fun h9 => ?_)
      · exact zw_some ⟨hImh, hFmh, ⟨by omega, by omega⟩⟩
      · have hM : (4 - 0) * 1 + (4 - x2) * 6 + 0 < (k : Int) := by omega
        exact ih.2.2 x1 x2 0 mh hImh hFmh ⟨by omega, by omega⟩ ⟨by omega, by omega⟩ ⟨by omega, by omega⟩ ⟨by omega, by omega⟩ (by omega) hM
    · intro x1 x2 x3 mh hImh hFmh hbx1 hbx2 hbx3 hg3 hH0 hM
      refine zw_eq (zr_294_51 n a0 x1 x2 x3 mh) ?_
      refine zw_ite (fun h10 => ?_) (fun h10 => ?_)
      · have w11 := zu_w32_id (z := x2 + 1) (by omega) (by omega)
        have hM : (4 - (zu_w32 (x2 + 1))) * 6 + 5 < (k : Int) := by omega
        exact zw_le (zu_forget (zu_lr_same (zu_lr_same (zu_lr_same (zu_lr_drop zu_lr_nil))))) (ih.2.1 x1 (zu_w32 (x2 + 1)) mh hImh hFmh ⟨by omega, by omega⟩ ⟨by omega, by omega⟩ (by omega) hM)
      · refine zw_bd (zw_mono (zk_297 n hImh hc0 ⟨by omega, by omega⟩ ⟨by omega, by omega⟩ ⟨by omega, by omega⟩) (fun v13 m12 hqm12 => ?_))
        obtain ⟨hIm12, hfm12, hvm12⟩ := hqm12
        have hFm12 := zfr_tr hFmh hfm12 rfl
        refine zw_ite (fun h14 => ?_) (fun h14 => ?_)
        · have w15 := zu_w32_id (z := x3 + 1) (by omega) (by omega)
          have r16 : 0 ≤ (m12 a0 18) ∧ (m12 a0 18) ≤ 4 := zi_rd hIm12 hc0 zb_24_18
          have e17 : (m12 a0 18) = (mh a0 18) := (zfr_ap hfm12 hc0 rfl)
          have hM : (4 - (zu_w32 (x3 + 1))) * 1 + (4 - x2) * 6 + 0 < (k : Int) := by omega
          exact ih.2.2 x1 x2 (zu_w32 (x3 + 1)) m12 hIm12 hFm12 ⟨by omega, by omega⟩ ⟨by omega, by omega⟩ ⟨by omega, by omega⟩ ⟨by omega, by omega⟩ (by omega) hM
        · have r18 : 0 ≤ (m12 a0 18) ∧ (m12 a0 18) ≤ 4 := zi_rd hIm12 hc0 zb_24_18
          have e19 : (m12 a0 18) = (mh a0 18) := (zfr_ap hfm12 hc0 rfl)
          refine zw_bd (zw_mono (zk_297 n hIm12 hc0 ⟨by omega, by omega⟩ ⟨by omega, by omega⟩ ⟨by omega, by omega⟩) (fun v21 m20 hqm20 => ?_))
          obtain ⟨hIm20, hfm20, hvm20⟩ := hqm20
          have hFm20 := zfr_tr hFm12 hfm20 rfl
          refine zw_ite (fun h22 => ?_) (fun h22 => ?_)
          · have w23 := zu_w32_id (z := x3 + 1) (by omega) (by omega)
            have r24 : 0 ≤ (m20 a0 18) ∧ (m20 a0 18) ≤ 4 := zi_rd hIm20 hc0 zb_24_18
            have e25 : (m20 a0 18) = (m12 a0 18) := (zfr_ap hfm20 hc0 rfl)
            have hM : (4 - (zu_w32 (x3 + 1))) * 1 + (4 - x2) * 6 + 0 < (k : Int) := by omega
            exact ih.2.2 x1 x2 (zu_w32 (x3 + 1)) m20 hIm20 hFm20 ⟨by omega, by omega⟩ ⟨by omega, by omega⟩ ⟨by omega, by omega⟩ ⟨by omega, by omega⟩ (by omega) hM
          · have w26 := zu_w32_id (z := 10 * x2) (by omega) (by omega)
            have w27 := zu_w32_id (z := (zu_w32 (10 * x2)) + x3) (by omega) (by omega)
            have b28 : 0 ≤ x1 ∧ x1 < 16 := by omega
            refine zw_if b28 ?_
            generalize hmm29 : zu_up m20 163 x1 (zu_w32 ((zu_w32 (10 * x2)) + x3)) = m29
            have hIm29 := zi_up hmm29 hIm20 zq_163 (zb_94 _) (by omega) (by omega)
            have hFm29 := zfr_up hmm29 hFm20 zq_163 rfl
            have w30 := zu_w32_id (z := x1 + 1) (by omega) (by omega)
            have w31 := zu_w32_id (z := x3 + 1) (by omega) (by omega)
            have r32 : 0 ≤ (m29 a0 18) ∧ (m29 a0 18) ≤ 4 := zi_rd hIm29 hc0 zb_24_18
            have e33 : (m29 a0 18) = (m12 a0 18) := (Eq.trans (zs_ne hmm29 (Or.inl (zc_ne hc0 zq_163 (by decide)))) (zfr_ap hfm20 hc0 rfl))
            have hM : (4 - (zu_w32 (x3 + 1))) * 1 + (4 - x2) * 6 + 0 < (k : Int) := by omega
            exact ih.2.2 (zu_w32 (x1 + 1)) x2 (zu_w32 (x3 + 1)) m29 hIm29 hFm29 ⟨by omega, by omega⟩ ⟨by omega, by omega⟩ ⟨by omega, by omega⟩ ⟨by omega, by omega⟩ (by omega) hM
set_option maxHeartbeats 4000000 in
theorem zk_294 (n : Nat) {a0 : Int} {m0 : zu_m} (hIm0 : zi_I m0) (hc0 : zcls a0 = 24)      : zw (zu_call (zt_T n) 294 [(33, a0)] m0) (fun v m => zi_I m ∧ zfr [(24, 19), (93, 0), (94, 0)] m0 m ∧ (0 ≤ v ∧ v ≤ 16)) := by
  have hFm0 : zfr [(24, 19), (93, 0), (94, 0)] m0 m0 := zfr_rf _ _
  refine zw_eq (zr_294_0 n a0 m0) ?_
  generalize hmm34 : zu_up m0 a0 18 0 = m34
  have hIm34 := zi_up hmm34 hIm0 hc0 zb_24_18 (by omega) (by omega)
  have hFm34 := zfr_up hmm34 hFm0 hc0 rfl
  have hM : (48 - 0) * 1 + 30 < ((79 : Nat) : Int) := by omega
  exact (zl_294 n (m0 := m0) hc0 79).1 0 m34 hIm34 hFm34 ⟨by omega, by omega⟩ hM
set_option maxHeartbeats 4000000 in
theorem zk_307 (n : Nat) {a0 : Int} {m0 : zu_m} (hIm0 : zi_I m0) (hc0 : zcls a0 = 23)      : zw (zu_call (zt_T n) 307 [(31, a0)] m0) (fun v m => zi_I m ∧ zfr [(23, 5), (81, 0), (82, 0), (83, 0), (84, 0)] m0 m ∧ True) := by
  have hFm0 : zfr [(23, 5), (81, 0), (82, 0), (83, 0), (84, 0)] m0 m0 := zfr_rf _ _
  refine zw_eq (zr_307_0 n a0 m0) ?_
  refine zw_bd (zw_mono (zk_305 n hIm0 hc0 ⟨by omega, by omega⟩ ⟨by omega, by omega⟩ ⟨by omega, by omega⟩ ⟨by omega, by omega⟩) (fun v2 m1 hqm1 => ?_))
  obtain ⟨hIm1, hfm1, hvm1⟩ := hqm1
  have hFm1 := zfr_tr hFm0 hfm1 rfl
  exact zw_some ⟨hIm1, hFm1, trivial⟩
set_option maxHeartbeats 4000000 in
theorem zk_308 (n : Nat) {a0 a1 : Int} {m0 : zu_m} (hIm0 : zi_I m0) (hc0 : zcls a0 = 23) (hc1 : zcls a1 = 17)      : zw (zu_call (zt_T n) 308 [(31, a0), (20, a1)] m0) (fun v m => zi_I m ∧ zfr [(23, 5), (81, 0), (82, 0), (83, 0), (84, 0)] m0 m ∧ True) := by
  have hFm0 : zfr [(23, 5), (81, 0), (82, 0), (83, 0), (84, 0)] m0 m0 := zfr_rf _ _
  refine zw_eq (zr_308_0 n a0 a1 m0) ?_
  have r1 : 0 ≤ (m0 a1 1) ∧ (m0 a1 1) ≤ 3 := zi_rd hIm0 hc1 zb_17_1
  have r2 : 0 ≤ (m0 a1 0) ∧ (m0 a1 0) ≤ 47 := zi_rd hIm0 hc1 zb_17_0
  have r3 : 0 ≤ (m0 a1 2) ∧ (m0 a1 2) ≤ 9 := zi_rd hIm0 hc1 zb_17_2
  refine zw_bd (zw_mono (zk_305 n hIm0 hc0 ⟨by omega, by omega⟩ ⟨by omega, by omega⟩ ⟨by omega, by omega⟩ ⟨by omega, by omega⟩) (fun v5 m4 hqm4 => ?_))
  obtain ⟨hIm4, hfm4, hvm4⟩ := hqm4
  have hFm4 := zfr_tr hFm0 hfm4 rfl
  exact zw_some ⟨hIm4, hFm4, trivial⟩
set_option maxHeartbeats 4000000 in
theorem zk_309 (n : Nat) {a0 a1 a2 : Int} {m0 : zu_m} (hIm0 : zi_I m0) (hc0 : zcls a0 = 23) (ha1 : 0 ≤ a1 ∧ a1 ≤ 3) (ha2 : 0 ≤ a2 ∧ a2 ≤ 47)     : zw (zu_call (zt_T n) 309 [(31, a0), (0, a1), (0, a2)] m0) (fun v m => zi_I m ∧ zfr [(23, 5), (81, 0), (82, 0), (83, 0), (84, 0)] m0 m ∧ True) := by
  have hFm0 : zfr [(23, 5), (81, 0), (82, 0), (83, 0), (84, 0)] m0 m0 := zfr_rf _ _
  refine zw_eq (zr_309_0 n a0 a1 a2 m0) ?_
  refine zw_bd (zw_mono (zk_305 n hIm0 hc0 ⟨by omega, by omega⟩ ⟨by omega, by omega⟩ ⟨by omega, by omega⟩ ⟨by omega, by omega⟩) (fun v2 m1 hqm1 => ?_))
  obtain ⟨hIm1, hfm1, hvm1⟩ := hqm1
  have hFm1 := zfr_tr hFm0 hfm1 rfl
  exact zw_some ⟨hIm1, hFm1, trivial⟩
set_option maxHeartbeats 4000000 in
theorem zk_310 (n : Nat) {a0 a1 : Int} {m0 : zu_m} (hIm0 : zi_I m0) (hc0 : zcls a0 = 23) (ha1 : 0 ≤ a1 ∧ a1 ≤ 3)     : zw (zu_call (zt_T n) 310 [(31, a0), (0, a1)] m0) (fun v m => zi_I m ∧ zfr [(23, 5), (81, 0), (82, 0), (83, 0), (84, 0)] m0 m ∧ True) := by
  have hFm0 : zfr [(23, 5), (81, 0), (82, 0), (83, 0), (84, 0)] m0 m0 := zfr_rf _ _
  refine zw_eq (zr_310_0 n a0 a1 m0) ?_
  refine zw_bd (zw_mono (zk_305 n hIm0 hc0 ⟨by omega, by omega⟩ ⟨by omega, by omega⟩ ⟨by omega, by omega⟩ ⟨by omega, by omega⟩) (fun v2 m1 hqm1 => ?_))
  obtain ⟨hIm1, hfm1, hvm1⟩ := hqm1
  have hFm1 := zfr_tr hFm0 hfm1 rfl
  exact zw_some ⟨hIm1, hFm1, trivial⟩
set_option maxHeartbeats 4000000 in
theorem zl_23 (n : Nat) {a0 a1 : Int} {m0 : zu_m} (hc0 : zcls a0 = 11) (hc1 : zcls a1 = 13)   : ∀ k : Nat, (∀ (x2 : Int) (mh : zu_m), zi_I mh → zfr [(56, 0), (57, 0), (58, 0), (59, 1), (59, 2), (59, 3), (59, 4), (59, 5), (59, 6), (59, 7), (63, 0)] m0 mh → (0 ≤ x2 ∧ x2 ≤ 48) → (zR_K54 mh) → (48 - x2) * 1 + 250 < (k : Int) → zw (zu_ex (zt_T n) 23 2 [(8, a0), (27, a1), (0, x2), (2, 0), (2, 0)] [] mh) (fun v m => zi_I m ∧ zfr [(56, 0), (57, 0), (58, 0), (59, 1), (59, 2), (59, 3), (59, 4), (59, 5), (59, 6), (59, 7), (63, 0)] m0 m ∧ zR_K54 m ∧ True)) ∧ (∀ (x2 : Int) (mh : zu_m), zi_I mh → zfr [(56, 0), (57, 0), (58, 0), (59, 1), (59, 2), (59, 3), (59, 4), (59, 5), (59, 6), (59, 7), (63, 0)] m0 mh → (0 ≤ x2 ∧ x2 ≤ 4) → (zR_K54 mh) → (4 - x2) * 50 + 49 < (k : Int) → zw (zu_ex (zt_T n) 23 72 [(8, a0), (27, a1), (0, x2), (2, 0), (2, 0)] [] mh) (fun v m => zi_I m ∧ zfr [(56, 0), (57, 0), (58, 0), (59, 1), (59, 2), (59, 3), (59, 4), (59, 5), (59, 6), (59, 7), (63, 0)] m0 m ∧ zR_K54 m ∧ True)) ∧ (∀ (x2 x3 : Int) (mh : zu_m), zi_I mh → zfr [(56, 0), (57, 0), (58, 0), (59, 1), (59, 2), (59, 3), (59, 4), (59, 5), (59, 6), (59, 7), (63, 0)] m0 mh → (0 ≤ x2 ∧ x2 ≤ 3) → (0 ≤ x3 ∧ x3 ≤ 48) → (1 ≤ mh a1 4 ∧ mh a1 4 ≤ 4) → (zR_K54 mh) → (48 - x3) * 1 + (4 - x2) * 50 + 0 < (k : Int) → zw (zu_ex (zt_T n) 23 82 [(8, a0), (27, a1), (0, x2), (0, x3), (2, 0)] [] mh) (fun v m => zi_I m ∧ zfr [(56, 0), (57, 0), (58, 0), (59, 1), (59, 2), (59, 3), (59, 4), (59, 5), (59, 6), (59, 7), (63, 0)] m0 m ∧ zR_K54 m ∧ True)) := by
  intro k
  induction k with
  | zero => exact ⟨fun x2 mh hImh hFmh hbx2 hRK54mh hM => by exfalso; omega, fun x2 mh hImh hFmh hbx2 hRK54mh hM => by exfalso; omega, fun x2 x3 mh hImh hFmh hbx2 hbx3 hg2 hRK54mh hM => by exfalso; omega⟩
  | succ k ih =>
    refine ⟨?_, ?_, ?_⟩
    · intro x2 mh hImh hFmh hbx2 hRK54mh hM
      refine zw_eq (zr_23_2 n a0 a1 x2 mh) ?_
      have r1 : 1 ≤ (mh a0 2) ∧ (mh a0 2) ≤ 48 := zi_rd hImh hc0 zb_11_2
      refine zw_ite (fun h2 => ?_) (fun h2 => ?_)
      · have hM : (4 - 0) * 50 + 49 < (k : Int) := by omega
        exact ih.2.1 0 mh hImh hFmh ⟨by omega, by omega⟩ hRK54mh hM
      · refine zw_bd (zw_mono (zk_24 n hImh hc0 ⟨by omega, by omega⟩ hRK54mh) (fun v4 m3 hqm3 => ?_))
        obtain ⟨hIm3, hfm3, hvm3⟩ := hqm3
        have hFm3 := zfr_tr hFmh hfm3 rfl
        obtain ⟨hRK54m3, hvm3⟩ := hvm3
        have c5 := zu_lcmp_sp v4 (-9223372036854775808)
        refine zw_ite (fun h6 => ?_) (fun h6 => ?_)
        · refine zw_bd (zw_eq (zr_253_0 n v4 999 m3) ?_)
          have k7 := zmin_bd 999 v4
          have k8 := zmax_bd 0 (zu_min 999 v4)
          have w9 := zu_w32_id (z := (zu_max 0 (zu_min 999 v4))) (by omega) (by omega)
          refine zw_some ?_
          have b10 : 0 ≤ x2 ∧ x2 < 48 := by omega
          refine zw_if b10 ?_
          generalize hmm11 : zu_up m3 (a0 + 10) x2 (zu_w32 (zu_max 0 (zu_min 999 v4))) = m11
          have hIm11 := zi_up hmm11 hIm3 (zc_11_10 hc0) (zb_57 _) (by omega) (by omega)
          have hFm11 := zfr_up hmm11 hFm3 (zc_11_10 hc0) rfl
          have hRK54m11 := zR_K54_fr (zdis_fr (zfr_up hmm11 (zfr_rf [(57, 0)] _) (zc_11_10 hc0) rfl) rfl) hRK54m3
          have b12 : 0 ≤ x2 ∧ x2 < 48 := by omega
          refine zw_if b12 ?_
          have r13 : 0 ≤ (m11 (a0 + 10) x2) ∧ (m11 (a0 + 10) x2) ≤ 999 := zi_rd hIm11 (zc_11_10 hc0) (zb_57 _)
          have e14 : (m11 (a0 + 10) x2) = (zu_w32 (zu_max 0 (zu_min 999 v4))) := (zs_eq hmm11)
          have w15 := zu_w32_id (z := (m11 (a0 + 10) x2) * 1000) (by omega) (by omega)
          have b16 : 0 ≤ x2 ∧ x2 < 48 := by omega
          refine zw_if b16 ?_
          generalize hmm17 : zu_up m11 (a1 + 4) x2 (zu_w32 ((m11 (a0 + 10) x2) * 1000)) = m17
          have hIm17 := zi_up hmm17 hIm11 (zc_13_6 hc1) (zb_63 _) (by omega) (by omega)
          have hFm17 := zfr_up hmm17 hFm11 (zc_13_6 hc1) rfl
          have hRK54m17 := zR_K54_fr (zdis_fr (zfr_up hmm17 (zfr_rf [(63, 0)] _) (zc_13_6 hc1) rfl) rfl) hRK54m11
          have w18 := zu_w32_id (z := x2 + 1) (by omega) (by omega)
          have hM : (48 - (zu_w32 (x2 + 1))) * 1 + 250 < (k : Int) := by omega
          exact zw_le (zu_forget (zu_lr_same (zu_lr_same (zu_lr_same (zu_lr_drop (zu_lr_same zu_lr_nil)))))) (ih.1 (zu_w32 (x2 + 1)) m17 hIm17 hFm17 ⟨by omega, by omega⟩ hRK54m17 hM)
        · have b19 : 0 ≤ x2 ∧ x2 < 48 := by omega
          refine zw_if b19 ?_
          have r20 : 0 ≤ (m3 (a0 + 3) x2) ∧ (m3 (a0 + 3) x2) ≤ 3 := zi_rd hIm3 (zc_11_8 hc0) (zb_51 _)
          have w21 := zu_w32_id (z := 1 + (m3 (a0 + 3) x2)) (by omega) (by omega)
          have b22 : 0 ≤ x2 ∧ x2 < 48 := by omega
          refine zw_if b22 ?_
          generalize hmm23 : zu_up m3 (a0 + 10) x2 (zu_w32 (1 + (m3 (a0 + 3) x2))) = m23
          have hIm23 := zi_up hmm23 hIm3 (zc_11_10 hc0) (zb_57 _) (by omega) (by omega)
          have hFm23 := zfr_up hmm23 hFm3 (zc_11_10 hc0) rfl
          have hRK54m23 := zR_K54_fr (zdis_fr (zfr_up hmm23 (zfr_rf [(57, 0)] _) (zc_11_10 hc0) rfl) rfl) hRK54m3
          have b24 : 0 ≤ x2 ∧ x2 < 48 := by omega
          refine zw_if b24 ?_
          have r25 : 0 ≤ (m23 (a0 + 10) x2) ∧ (m23 (a0 + 10) x2) ≤ 999 := zi_rd hIm23 (zc_11_10 hc0) (zb_57 _)
          have e26 : (m23 (a0 + 10) x2) = (zu_w32 (1 + (m3 (a0 + 3) x2))) := (zs_eq hmm23)
          have w27 := zu_w32_id (z := (m23 (a0 + 10) x2) * 1000) (by omega) (by omega)
          have b28 : 0 ≤ x2 ∧ x2 < 48 := by omega
          refine zw_if b28 ?_
          generalize hmm29 : zu_up m23 (a1 + 4) x2 (zu_w32 ((m23 (a0 + 10) x2) * 1000)) = m29
          have hIm29 := zi_up hmm29 hIm23 (zc_13_6 hc1) (zb_63 _) (by omega) (by omega)
          have hFm29 := zfr_up hmm29 hFm23 (zc_13_6 hc1) rfl
          have hRK54m29 := zR_K54_fr (zdis_fr (zfr_up hmm29 (zfr_rf [(63, 0)] _) (zc_13_6 hc1) rfl) rfl) hRK54m23
          have w30 := zu_w32_id (z := x2 + 1) (by omega) (by omega)
          have hM : (48 - (zu_w32 (x2 + 1))) * 1 + 250 < (k : Int) := by omega
          exact zw_le (zu_forget (zu_lr_same (zu_lr_same (zu_lr_same (zu_lr_drop (zu_lr_same zu_lr_nil)))))) (ih.1 (zu_w32 (x2 + 1)) m29 hIm29 hFm29 ⟨by omega, by omega⟩ hRK54m29 hM)
    · intro x2 mh hImh hFmh hbx2 hRK54mh hM
      refine zw_eq (zr_23_72 n a0 a1 x2 mh) ?_
      have r31 : 0 ≤ (mh a1 4) ∧ (mh a1 4) ≤ 4 := zi_rd hImh hc1 zb_13_4
      refine zw_ite (fun h32 => ?_) (fun h32 => ?_)
      · exact zw_some ⟨hImh, hFmh, hRK54mh, trivial⟩
      · have hM : (48 - 0) * 1 + (4 - x2) * 50 + 0 < (k : Int) := by omega
        exact ih.2.2 x2 0 mh hImh hFmh ⟨by omega, by omega⟩ ⟨by omega, by omega⟩ ⟨by omega, by omega⟩ hRK54mh hM
    · intro x2 x3 mh hImh hFmh hbx2 hbx3 hg2 hRK54mh hM
      refine zw_eq (zr_23_82 n a0 a1 x2 x3 mh) ?_
      have r33 : 1 ≤ (mh a0 2) ∧ (mh a0 2) ≤ 48 := zi_rd hImh hc0 zb_11_2
      refine zw_ite (fun h34 => ?_) (fun h34 => ?_)
      · have w35 := zu_w32_id (z := x2 + 1) (by omega) (by omega)
        have hM : (4 - (zu_w32 (x2 + 1))) * 50 + 49 < (k : Int) := by omega
        exact zw_le (zu_forget (zu_lr_same (zu_lr_same (zu_lr_same (zu_lr_drop (zu_lr_same zu_lr_nil)))))) (ih.2.1 (zu_w32 (x2 + 1)) mh hImh hFmh ⟨by omega, by omega⟩ hRK54mh hM)
      · refine zw_bd (zw_mono (zk_25 n hImh hc0 ⟨by omega, by omega⟩ ⟨by omega, by omega⟩ ⟨by omega, by omega⟩) (fun v37 m36 hqm36 => ?_))
        obtain ⟨hIm36, hfm36, hvm36⟩ := hqm36
        have hFm36 := zfr_tr hFmh hfm36 rfl
        have hRK54m36 := zR_K54_fr (zdis_fr hfm36 rfl) hRK54mh
        have b38 : 0 ≤ x2 ∧ x2 < 4 := by omega
        refine zw_if b38 ?_
        have r39 : 0 ≤ (m36 ((a1 + 2) + 20 + x2) 2) ∧ (m36 ((a1 + 2) + 20 + x2) 2) ≤ 15 := zi_rd hIm36 (zc_61_e (zc_13_3 hc1) b38) zb_15_2
        refine zw_bd (zw_mono (zk_247 n hIm36 hc0 ⟨by omega, by omega⟩ ⟨by omega, by omega⟩ ⟨by omega, by omega⟩) (fun v41 m40 hqm40 => ?_))
        obtain ⟨hIm40, hfm40, hvm40⟩ := hqm40
        have hFm40 := zfr_tr hFm36 hfm40 rfl
        have hRK54m40 := zR_K54_fr (zdis_fr hfm40 rfl) hRK54m36
        have w42 := zu_w32_id (z := x2 * 48) (by omega) (by omega)
        have w43 := zu_w32_id (z := (zu_w32 (x2 * 48)) + x3) (by omega) (by omega)
        refine zw_bd (zw_mono (zk_250 n hIm40 hc0 hRK54m40) (fun v45 m44 hqm44 => ?_))
        obtain ⟨hIm44, hfm44, hvm44⟩ := hqm44
        have hFm44 := zfr_tr hFm40 hfm44 rfl
        obtain ⟨hRK54m44, hvm44⟩ := hvm44
        have w46 := zu_w32_id (z := 100 - v45) (by omega) (by omega)
        have b47 : 0 ≤ (zu_w32 ((zu_w32 (x2 * 48)) + x3)) ∧ (zu_w32 ((zu_w32 (x2 * 48)) + x3)) < 192 := by omega
        refine zw_if b47 ?_
        generalize hmm48 : zu_up m44 (a0 + 11) (zu_w32 ((zu_w32 (x2 * 48)) + x3)) (zu_w32 (100 - v45)) = m48
        have hIm48 := zi_up hmm48 hIm44 (zc_11_11 hc0) (zb_58 _) (by omega) (by omega)
        have hFm48 := zfr_up hmm48 hFm44 (zc_11_11 hc0) rfl
        have hRK54m48 := zR_K54_fr (zdis_fr (zfr_up hmm48 (zfr_rf [(58, 0)] _) (zc_11_11 hc0) rfl) rfl) hRK54m44
        have w49 := zu_w32_id (z := x3 + 1) (by omega) (by omega)
        have r50 : 0 ≤ (m48 a1 4) ∧ (m48 a1 4) ≤ 4 := zi_rd hIm48 hc1 zb_13_4
        have e51 : (m48 a1 4) = (mh a1 4) := (Eq.trans (zs_ne hmm48 (Or.inl (zc_ne hc1 (zc_11_11 hc0) (by decide)))) (Eq.trans (zfr_ap hfm44 hc1 rfl) (Eq.trans (zfr_ap hfm40 hc1 rfl) (zfr_ap hfm36 hc1 rfl))))
        have hM : (48 - (zu_w32 (x3 + 1))) * 1 + (4 - x2) * 50 + 0 < (k : Int) := by omega
        exact ih.2.2 x2 (zu_w32 (x3 + 1)) m48 hIm48 hFm48 ⟨by omega, by omega⟩ ⟨by omega, by omega⟩ ⟨by omega, by omega⟩ hRK54m48 hM
set_option maxHeartbeats 4000000 in
theorem zk_23 (n : Nat) {a0 a1 : Int} {m0 : zu_m} (hIm0 : zi_I m0) (hc0 : zcls a0 = 11) (hc1 : zcls a1 = 13)     (hRK54m0 : zR_K54 m0) : zw (zu_call (zt_T n) 23 [(8, a0), (27, a1)] m0) (fun v m => zi_I m ∧ zfr [(56, 0), (57, 0), (58, 0), (59, 1), (59, 2), (59, 3), (59, 4), (59, 5), (59, 6), (59, 7), (63, 0)] m0 m ∧ zR_K54 m ∧ True) := by
  have hFm0 : zfr [(56, 0), (57, 0), (58, 0), (59, 1), (59, 2), (59, 3), (59, 4), (59, 5), (59, 6), (59, 7), (63, 0)] m0 m0 := zfr_rf _ _
  refine zw_eq (zr_23_0 n a0 a1 m0) ?_
  have hM : (48 - 0) * 1 + 250 < ((299 : Nat) : Int) := by omega
  exact (zl_23 n (m0 := m0) hc0 hc1 299).1 0 m0 hIm0 hFm0 ⟨by omega, by omega⟩ hRK54m0 hM
set_option maxHeartbeats 4000000 in
theorem zk_39 (n : Nat) {a0 a1 a2 a3 : Int} {m0 : zu_m} (hIm0 : zi_I m0) (hc0 : zcls a0 = 28) (ha1 : 0 ≤ a1 ∧ a1 ≤ 3) (ha2 : (-2147483648) ≤ a2 ∧ a2 ≤ 2147483647) (ha3 : 100 ≤ a3 ∧ a3 ≤ 999)     : zw (zu_call (zt_T n) 39 [(40, a0), (0, a1), (0, a2), (0, a3)] m0) (fun v m => zi_I m ∧ zfr [(28, 54), (123, 0)] m0 m ∧ ((-2147483648) ≤ v ∧ v ≤ 2147483647)) := by
  have hFm0 : zfr [(28, 54), (123, 0)] m0 m0 := zfr_rf _ _
  refine zw_eq (zr_39_0 n a0 a1 a2 a3 m0) ?_
  have b1 : 0 ≤ a1 ∧ a1 < 8 := by omega
  refine zw_if b1 ?_
  have r2 : 0 ≤ (m0 205 a1) ∧ (m0 205 a1) ≤ 1 := zi_rd hIm0 zq_205 (zb_114 _)
  refine zw_ite (fun h3 => ?_) (fun h3 => ?_)
  · refine zw_bd (zw_mono (zk_127 n hIm0 hc0 ⟨by omega, by omega⟩) (fun v5 m4 hqm4 => ?_))
    obtain ⟨hIm4, hfm4, hvm4⟩ := hqm4
    have hFm4 := zfr_tr hFm0 hfm4 rfl
    have r6 : 0 ≤ (m4 a0 53) ∧ (m4 a0 53) ≤ 1 := zi_rd hIm4 hc0 zb_28_53
    refine zw_ite (fun h7 => ?_) (fun h7 => ?_)
    · have c8 := zu_lcmp_sp v5 0
      refine zw_ite (fun h9 => ?_) (fun h9 => ?_)
      · have c10 := zu_lcmp_sp v5 a3
        refine zw_ite (fun h11 => ?_) (fun h11 => ?_)
        · have w12 := zu_w32_id (z := v5) (by omega) (by omega)
          exact zw_some ⟨hIm4, hFm4, ⟨by omega, by omega⟩⟩
        · exact zw_some ⟨hIm4, hFm4, ⟨by omega, by omega⟩⟩
      · exact zw_some ⟨hIm4, hFm4, ⟨by omega, by omega⟩⟩
    · exact zw_some ⟨hIm4, hFm4, ⟨by omega, by omega⟩⟩
  · exact zw_some ⟨hIm0, hFm0, ⟨by omega, by omega⟩⟩
set_option maxHeartbeats 4000000 in
theorem zk_50 (n : Nat) {a0 a1 a2 a3 : Int} {m0 : zu_m} (hIm0 : zi_I m0) (hc0 : zcls a0 = 2) (ha1 : (-2147483648) ≤ a1 ∧ a1 ≤ 2147483647) (ha2 : (-2147483648) ≤ a2 ∧ a2 ≤ 2147483647) (ha3 : (-2147483648) ≤ a3 ∧ a3 ≤ 2147483647)     : zw (zu_call (zt_T n) 50 [(5, a0), (0, a1), (0, a2), (0, a3)] m0) (fun v m => zi_I m ∧ zfr [(16, 3), (17, 1), (17, 2), (17, 3), (17, 4), (23, 5), (81, 0), (82, 0), (83, 0), (84, 0)] m0 m ∧ ((-1) ≤ v ∧ v ≤ 15)) := by
  have hFm0 : zfr [(16, 3), (17, 1), (17, 2), (17, 3), (17, 4), (23, 5), (81, 0), (82, 0), (83, 0), (84, 0)] m0 m0 := zfr_rf _ _
  refine zw_eq (zr_50_0 n a0 a1 a2 a3 m0) ?_
  refine zw_bd (zw_eq (zr_244_0 n 50 a1 m0) ?_)
  refine zw_ite (fun h1 => ?_) (fun h1 => ?_)
  · refine zw_b (by omega) ?_
    refine zw_some ?_
    refine zw_ite (fun h2 => ?_) (fun h2 => ?_)
    · exact zw_some ⟨hIm0, hFm0, ⟨by omega, by omega⟩⟩
    · exfalso; omega
  · have r3 : 1 ≤ (m0 50 2) ∧ (m0 50 2) ≤ 48 := zi_rd hIm0 zq_50 zb_11_2
    refine zw_ite (fun h4 => ?_) (fun h4 => ?_)
    · refine zw_b (by omega) ?_
      refine zw_some ?_
      refine zw_ite (fun h5 => ?_) (fun h5 => ?_)
      · exact zw_some ⟨hIm0, hFm0, ⟨by omega, by omega⟩⟩
      · exfalso; omega
    · refine zw_b (by omega) ?_
      refine zw_some ?_
      refine zw_ite (fun h6 => ?_) (fun h6 => ?_)
      · exfalso; omega
      · refine zw_bd (zw_eq (zr_51_0 n a2 m0) ?_)
        refine zw_ite (fun h7 => ?_) (fun h7 => ?_)
        · refine zw_b (by omega) ?_
          refine zw_some ?_
          refine zw_ite (fun h8 => ?_) (fun h8 => ?_)
          · exact zw_some ⟨hIm0, hFm0, ⟨by omega, by omega⟩⟩
          · exfalso; omega
        · refine zw_ite (fun h9 => ?_) (fun h9 => ?_)
          · refine zw_b (by omega) ?_
            refine zw_some ?_
            refine zw_ite (fun h10 => ?_) (fun h10 => ?_)
            · exact zw_some ⟨hIm0, hFm0, ⟨by omega, by omega⟩⟩
            · exfalso; omega
          · refine zw_b (by omega) ?_
            refine zw_some ?_
            refine zw_ite (fun h11 => ?_) (fun h11 => ?_)
            · exfalso; omega
            · refine zw_bd (zw_eq (zr_52_0 n a3 m0) ?_)
              refine zw_ite (fun h12 => ?_) (fun h12 => ?_)
              · refine zw_b (by omega) ?_
                refine zw_some ?_
                refine zw_ite (fun h13 => ?_) (fun h13 => ?_)
                · exact zw_some ⟨hIm0, hFm0, ⟨by omega, by omega⟩⟩
                · exfalso; omega
              · refine zw_ite (fun h14 => ?_) (fun h14 => ?_)
                · refine zw_b (by omega) ?_
                  refine zw_some ?_
                  refine zw_ite (fun h15 => ?_) (fun h15 => ?_)
                  · exact zw_some ⟨hIm0, hFm0, ⟨by omega, by omega⟩⟩
                  · exfalso; omega
                · refine zw_b (by omega) ?_
                  refine zw_some ?_
                  refine zw_ite (fun h16 => ?_) (fun h16 => ?_)
                  · exfalso; omega
                  · have r17 : 0 ≤ (m0 89 2) ∧ (m0 89 2) ≤ 16 := zi_rd hIm0 zq_89 zb_16_2
                    refine zw_ite (fun h18 => ?_) (fun h18 => ?_)
                    · refine zw_bd (zw_eq (zr_213_0 n 89 a1 a2 a3 m0) ?_)
                      refine zw_ite (fun h19 => ?_) (fun h19 => ?_)
                      · exfalso; omega
                      · have b20 : 0 ≤ (m0 89 2) ∧ (m0 89 2) < 16 := by omega
                        refine zw_if b20 ?_
                        generalize hmm21 : zu_up m0 ((89 + 1) + 5 + (m0 89 2)) 0 a1 = m21
                        have hIm21 := zi_up hmm21 hIm0 (zc_65_e (zc_16_1 zq_89) b20) zb_17_0 (by omega) (by omega)
                        have hFm21 := zfr_up hmm21 hFm0 (zc_65_e (zc_16_1 zq_89) b20) rfl
                        generalize hmm22 : zu_up m21 ((89 + 1) + 5 + (m0 89 2)) 1 a2 = m22
                        have hIm22 := zi_up hmm22 hIm21 (zc_65_e (zc_16_1 zq_89) b20) zb_17_1 (by omega) (by omega)
                        have hFm22 := zfr_up hmm22 hFm21 (zc_65_e (zc_16_1 zq_89) b20) rfl
                        generalize hmm23 : zu_up m22 ((89 + 1) + 5 + (m0 89 2)) 2 a3 = m23
                        have hIm23 := zi_up hmm23 hIm22 (zc_65_e (zc_16_1 zq_89) b20) zb_17_2 (by omega) (by omega)
                        have hFm23 := zfr_up hmm23 hFm22 (zc_65_e (zc_16_1 zq_89) b20) rfl
                        generalize hmm24 : zu_up m23 ((89 + 1) + 5 + (m0 89 2)) 3 (-1) = m24
                        have hIm24 := zi_up hmm24 hIm23 (zc_65_e (zc_16_1 zq_89) b20) zb_17_3 (by omega) (by omega)
                        have hFm24 := zfr_up hmm24 hFm23 (zc_65_e (zc_16_1 zq_89) b20) rfl
                        have r25 : 0 ≤ (m24 89 2) ∧ (m24 89 2) ≤ 16 := zi_rd hIm24 zq_89 zb_16_2
                        have e26 : (m24 89 2) = (m0 89 2) := (Eq.trans (zs_ne hmm24 (Or.inl (zc_ne zq_89 (zc_65_e (zc_16_1 zq_89) b20) (by decide)))) (Eq.trans (zs_ne hmm23 (Or.inl (zc_ne zq_89 (zc_65_e (zc_16_1 zq_89) b20) (by decide)))) (Eq.trans (zs_ne hmm22 (Or.inl (zc_ne zq_89 (zc_65_e (zc_16_1 zq_89) b20) (by decide)))) (zs_ne hmm21 (Or.inl (zc_ne zq_89 (zc_65_e (zc_16_1 zq_89) b20) (by decide)))))))
                        have w27 := zu_w32_id (z := (m24 89 2) + 1) (by omega) (by omega)
                        generalize hmm28 : zu_up m24 89 2 (zu_w32 ((m24 89 2) + 1)) = m28
                        have hIm28 := zi_up hmm28 hIm24 zq_89 zb_16_2 (by omega) (by omega)
                        have hFm28 := zfr_up hmm28 hFm24 zq_89 rfl
                        refine zw_some ?_
                        refine zw_bd (zw_mono (zk_307 n hIm28 zq_148) (fun v30 m29 hqm29 => ?_))
                        obtain ⟨hIm29, hfm29, hvm29⟩ := hqm29
                        have hFm29 := zfr_tr hFm28 hfm29 rfl
                        exact zw_some ⟨hIm29, hFm29, ⟨by omega, by omega⟩⟩
                    · exact zw_some ⟨hIm0, hFm0, ⟨by omega, by omega⟩⟩
set_option maxHeartbeats 4000000 in
theorem zk_54 (n : Nat) {a0 : Int} {m0 : zu_m} (hIm0 : zi_I m0) (hc0 : zcls a0 = 2)      : zw (zu_call (zt_T n) 54 [(5, a0)] m0) (fun v m => zi_I m ∧ zfr [(16, 3), (23, 5), (81, 0), (82, 0), (83, 0), (84, 0)] m0 m ∧ (0 ≤ v ∧ v ≤ 1)) := by
  have hFm0 : zfr [(16, 3), (23, 5), (81, 0), (82, 0), (83, 0), (84, 0)] m0 m0 := zfr_rf _ _
  refine zw_eq (zr_54_0 n a0 m0) ?_
  have r1 : 0 ≤ (m0 89 2) ∧ (m0 89 2) ≤ 16 := zi_rd hIm0 zq_89 zb_16_2
  have r2 : 0 ≤ (m0 63 2) ∧ (m0 63 2) ≤ 16 := zi_rd hIm0 zq_63 zb_13_2
  refine zw_ite (fun h3 => ?_) (fun h3 => ?_)
  · have w4 := zu_w32_id (z := (m0 89 2) - 1) (by omega) (by omega)
    have b5 : 0 ≤ (zu_w32 ((m0 89 2) - 1)) ∧ (zu_w32 ((m0 89 2) - 1)) < 16 := by omega
    refine zw_if b5 ?_
    have r6 : (-3) ≤ (m0 ((89 + 1) + 5 + (zu_w32 ((m0 89 2) - 1))) 3) ∧ (m0 ((89 + 1) + 5 + (zu_w32 ((m0 89 2) - 1))) 3) ≤ 3 := zi_rd hIm0 (zc_65_e (zc_16_1 zq_89) b5) zb_17_3
    refine zw_ite (fun h7 => ?_) (fun h7 => ?_)
    · refine zw_bd (zw_mono (zk_308 n hIm0 zq_148 (zc_65_e (zc_16_1 zq_89) b5)) (fun v9 m8 hqm8 => ?_))
      obtain ⟨hIm8, hfm8, hvm8⟩ := hqm8
      have hFm8 := zfr_tr hFm0 hfm8 rfl
      have r10 : 0 ≤ (m8 89 2) ∧ (m8 89 2) ≤ 16 := zi_rd hIm8 zq_89 zb_16_2
      have e11 : (m8 89 2) = (m0 89 2) := (zfr_ap hfm8 zq_89 rfl)
      have w12 := zu_w32_id (z := (m8 89 2) - 1) (by omega) (by omega)
      generalize hmm13 : zu_up m8 89 2 (zu_w32 ((m8 89 2) - 1)) = m13
      have hIm13 := zi_up hmm13 hIm8 zq_89 zb_16_2 (by omega) (by omega)
      have hFm13 := zfr_up hmm13 hFm8 zq_89 rfl
      refine zw_b (by omega) ?_
      exact zw_some ⟨hIm13, hFm13, ⟨by omega, by omega⟩⟩
    · refine zw_b (by omega) ?_
      exact zw_some ⟨hIm0, hFm0, ⟨by omega, by omega⟩⟩
  · refine zw_b (by omega) ?_
    exact zw_some ⟨hIm0, hFm0, ⟨by omega, by omega⟩⟩
set_option maxHeartbeats 4000000 in
theorem zk_55 (n : Nat) {a0 a1 a2 : Int} {m0 : zu_m} (hIm0 : zi_I m0) (hc0 : zcls a0 = 2) (ha1 : (-2147483648) ≤ a1 ∧ a1 ≤ 2147483647) (ha2 : (-2147483648) ≤ a2 ∧ a2 ≤ 2147483647)     : zw (zu_call (zt_T n) 55 [(5, a0), (0, a1), (0, a2)] m0) (fun v m => zi_I m ∧ zfr [(18, 2), (23, 5), (81, 0), (82, 0), (83, 0), (84, 0)] m0 m ∧ (0 ≤ v ∧ v ≤ 1)) := by
  have hFm0 : zfr [(18, 2), (23, 5), (81, 0), (82, 0), (83, 0), (84, 0)] m0 m0 := zfr_rf _ _
  refine zw_eq (zr_55_0 n a0 a1 a2 m0) ?_
  refine zw_bd (zw_eq (zr_211_0 n 89 a1 m0) ?_)
  refine zw_ite (fun h1 => ?_) (fun h1 => ?_)
  · refine zw_b (by omega) ?_
    refine zw_some ?_
    refine zw_ite (fun h2 => ?_) (fun h2 => ?_)
    · refine zw_b (by omega) ?_
      exact zw_some ⟨hIm0, hFm0, ⟨by omega, by omega⟩⟩
    · exfalso; omega
  · have r3 : 0 ≤ (m0 89 4) ∧ (m0 89 4) ≤ 4 := zi_rd hIm0 zq_89 zb_16_4
    refine zw_ite (fun h4 => ?_) (fun h4 => ?_)
    · refine zw_b (by omega) ?_
      refine zw_some ?_
      refine zw_ite (fun h5 => ?_) (fun h5 => ?_)
      · refine zw_b (by omega) ?_
        exact zw_some ⟨hIm0, hFm0, ⟨by omega, by omega⟩⟩
      · exfalso; omega
    · refine zw_b (by omega) ?_
      refine zw_some ?_
      refine zw_ite (fun h6 => ?_) (fun h6 => ?_)
      · exfalso; omega
      · refine zw_bd (zw_eq (zr_244_0 n 50 a2 m0) ?_)
        refine zw_ite (fun h7 => ?_) (fun h7 => ?_)
        · refine zw_b (by omega) ?_
          refine zw_some ?_
          refine zw_ite (fun h8 => ?_) (fun h8 => ?_)
          · exfalso; omega
          · refine zw_b (by omega) ?_
            exact zw_some ⟨hIm0, hFm0, ⟨by omega, by omega⟩⟩
        · have r9 : 1 ≤ (m0 50 2) ∧ (m0 50 2) ≤ 48 := zi_rd hIm0 zq_50 zb_11_2
          refine zw_ite (fun h10 => ?_) (fun h10 => ?_)
          · refine zw_b (by omega) ?_
            refine zw_some ?_
            refine zw_ite (fun h11 => ?_) (fun h11 => ?_)
            · exfalso; omega
            · refine zw_b (by omega) ?_
              exact zw_some ⟨hIm0, hFm0, ⟨by omega, by omega⟩⟩
          · refine zw_b (by omega) ?_
            refine zw_some ?_
            refine zw_ite (fun h12 => ?_) (fun h12 => ?_)
            · have b13 : 0 ≤ a1 ∧ a1 < 4 := by omega
              refine zw_if b13 ?_
              have r14 : 0 ≤ (m0 ((89 + 2) + 20 + a1) 1) ∧ (m0 ((89 + 2) + 20 + a1) 1) ≤ 47 := zi_rd hIm0 (zc_66_e (zc_16_3 zq_89) b13) zb_18_1
              refine zw_ite (fun h15 => ?_) (fun h15 => ?_)
              · refine zw_bd (zw_mono (zk_309 n hIm0 zq_148 ⟨by omega, by omega⟩ ⟨by omega, by omega⟩) (fun v17 m16 hqm16 => ?_))
                obtain ⟨hIm16, hfm16, hvm16⟩ := hqm16
                have hFm16 := zfr_tr hFm0 hfm16 rfl
                generalize hmm18 : zu_up m16 ((89 + 2) + 20 + a1) 1 a2 = m18
                have hIm18 := zi_up hmm18 hIm16 (zc_66_e (zc_16_3 zq_89) b13) zb_18_1 (by omega) (by omega)
                have hFm18 := zfr_up hmm18 hFm16 (zc_66_e (zc_16_3 zq_89) b13) rfl
                refine zw_b (by omega) ?_
                exact zw_some ⟨hIm18, hFm18, ⟨by omega, by omega⟩⟩
              · refine zw_b (by omega) ?_
                exact zw_some ⟨hIm0, hFm0, ⟨by omega, by omega⟩⟩
            · exfalso; omega
set_option maxHeartbeats 4000000 in
theorem zk_56 (n : Nat) {a0 a1 : Int} {m0 : zu_m} (hIm0 : zi_I m0) (hc0 : zcls a0 = 2) (ha1 : (-2147483648) ≤ a1 ∧ a1 ≤ 2147483647)     : zw (zu_call (zt_T n) 56 [(5, a0), (0, a1)] m0) (fun v m => zi_I m ∧ zfr [(16, 11), (23, 5), (81, 0), (82, 0), (83, 0), (84, 0)] m0 m ∧ (0 ≤ v ∧ v ≤ 1)) := by
  have hFm0 : zfr [(16, 11), (23, 5), (81, 0), (82, 0), (83, 0), (84, 0)] m0 m0 := zfr_rf _ _
  refine zw_eq (zr_56_0 n a0 a1 m0) ?_
  refine zw_ite (fun h1 => ?_) (fun h1 => ?_)
  · refine zw_b (by omega) ?_
    exact zw_some ⟨hIm0, hFm0, ⟨by omega, by omega⟩⟩
  · refine zw_ite (fun h2 => ?_) (fun h2 => ?_)
    · refine zw_b (by omega) ?_
      exact zw_some ⟨hIm0, hFm0, ⟨by omega, by omega⟩⟩
    · have r3 : 0 ≤ (m0 89 10) ∧ (m0 89 10) ≤ 3 := zi_rd hIm0 zq_89 zb_16_10
      refine zw_ite (fun h4 => ?_) (fun h4 => ?_)
      · refine zw_bd (zw_mono (zk_310 n hIm0 zq_148 ⟨by omega, by omega⟩) (fun v6 m5 hqm5 => ?_))
        obtain ⟨hIm5, hfm5, hvm5⟩ := hqm5
        have hFm5 := zfr_tr hFm0 hfm5 rfl
        generalize hmm7 : zu_up m5 89 10 a1 = m7
        have hIm7 := zi_up hmm7 hIm5 zq_89 zb_16_10 (by omega) (by omega)
        have hFm7 := zfr_up hmm7 hFm5 zq_89 rfl
        refine zw_b (by omega) ?_
        exact zw_some ⟨hIm7, hFm7, ⟨by omega, by omega⟩⟩
      · refine zw_b (by omega) ?_
        exact zw_some ⟨hIm0, hFm0, ⟨by omega, by omega⟩⟩
set_option maxHeartbeats 4000000 in
theorem zk_60 (n : Nat) {a0 a1 a2 : Int} {m0 : zu_m} (hIm0 : zi_I m0) (hc0 : zcls a0 = 2) (ha1 : (-2147483648) ≤ a1 ∧ a1 ≤ 2147483647) (ha2 : (-2147483648) ≤ a2 ∧ a2 ≤ 2147483647)     : zw (zu_call (zt_T n) 60 [(5, a0), (0, a1), (0, a2)] m0) (fun v m => zi_I m ∧ zfr [(25, 3), (25, 5), (25, 9), (25, 10), (25, 11), (25, 12), (26, 1), (26, 2), (26, 3), (26, 4), (27, 1), (27, 2), (27, 3), (27, 4), (27, 5), (27, 6), (27, 7), (27, 8), (97, 0), (98, 0)] m0 m ∧ ((-1) ≤ v ∧ v ≤ 40)) := by
  have hFm0 : zfr [(25, 3), (25, 5), (25, 9), (25, 10), (25, 11), (25, 12), (26, 1), (26, 2), (26, 3), (26, 4), (27, 1), (27, 2), (27, 3), (27, 4), (27, 5), (27, 6), (27, 7), (27, 8), (97, 0), (98, 0)] m0 m0 := zfr_rf _ _
  refine zw_eq (zr_60_0 n a0 a1 a2 m0) ?_
  refine zw_bd (zw_eq (zr_211_0 n 89 a1 m0) ?_)
  refine zw_ite (fun h1 => ?_) (fun h1 => ?_)
  · refine zw_b (by omega) ?_
    refine zw_some ?_
    refine zw_ite (fun h2 => ?_) (fun h2 => ?_)
    · exact zw_some ⟨hIm0, hFm0, ⟨by omega, by omega⟩⟩
    · exfalso; omega
  · have r3 : 0 ≤ (m0 89 4) ∧ (m0 89 4) ≤ 4 := zi_rd hIm0 zq_89 zb_16_4
    refine zw_ite (fun h4 => ?_) (fun h4 => ?_)
    · refine zw_b (by omega) ?_
      refine zw_some ?_
      refine zw_ite (fun h5 => ?_) (fun h5 => ?_)
      · exact zw_some ⟨hIm0, hFm0, ⟨by omega, by omega⟩⟩
      · exfalso; omega
    · refine zw_b (by omega) ?_
      refine zw_some ?_
      refine zw_ite (fun h6 => ?_) (fun h6 => ?_)
      · exfalso; omega
      · refine zw_ite (fun h7 => ?_) (fun h7 => ?_)
        · exact zw_some ⟨hIm0, hFm0, ⟨by omega, by omega⟩⟩
        · refine zw_ite (fun h8 => ?_) (fun h8 => ?_)
          · refine zw_bd (zw_mono (zk_284 n hIm0 zq_153 ⟨by omega, by omega⟩ ⟨by omega, by omega⟩) (fun v10 m9 hqm9 => ?_))
            obtain ⟨hIm9, hfm9, hvm9⟩ := hqm9
            have hFm9 := zfr_tr hFm0 hfm9 rfl
            exact zw_some ⟨hIm9, hFm9, ⟨by omega, by omega⟩⟩
          · exact zw_some ⟨hIm0, hFm0, ⟨by omega, by omega⟩⟩
set_option maxHeartbeats 4000000 in
theorem zk_65 (n : Nat) {a0 : Int} {m0 : zu_m} (hIm0 : zi_I m0) (hc0 : zcls a0 = 2)      : zw (zu_call (zt_T n) 65 [(5, a0)] m0) (fun v m => zi_I m ∧ zfr [(24, 19), (93, 0), (94, 0)] m0 m ∧ (0 ≤ v ∧ v ≤ 16)) := by
  have hFm0 : zfr [(24, 19), (93, 0), (94, 0)] m0 m0 := zfr_rf _ _
  refine zw_eq (zr_65_0 n a0 m0) ?_
  refine zw_bd (zw_mono (zk_294 n hIm0 zq_153) (fun v2 m1 hqm1 => ?_))
  obtain ⟨hIm1, hfm1, hvm1⟩ := hqm1
  have hFm1 := zfr_tr hFm0 hfm1 rfl
  exact zw_some ⟨hIm1, hFm1, ⟨by omega, by omega⟩⟩
set_option maxHeartbeats 4000000 in
theorem zk_66 (n : Nat) {a0 a1 : Int} {m0 : zu_m} (hIm0 : zi_I m0) (hc0 : zcls a0 = 2) (ha1 : (-2147483648) ≤ a1 ∧ a1 ≤ 2147483647)     : zw (zu_call (zt_T n) 66 [(5, a0), (0, a1)] m0) (fun v m => zi_I m ∧ zfr [(24, 19), (93, 0), (94, 0)] m0 m ∧ ((-2147483648) ≤ v ∧ v ≤ 2147483647)) := by
  have hFm0 : zfr [(24, 19), (93, 0), (94, 0)] m0 m0 := zfr_rf _ _
  refine zw_eq (zr_66_0 n a0 a1 m0) ?_
  refine zw_ite (fun h1 => ?_) (fun h1 => ?_)
  · refine zw_bd (zw_mono (zk_294 n hIm0 zq_153) (fun v3 m2 hqm2 => ?_))
    obtain ⟨hIm2, hfm2, hvm2⟩ := hqm2
    have hFm2 := zfr_tr hFm0 hfm2 rfl
    refine zw_ite (fun h4 => ?_) (fun h4 => ?_)
    · exact zw_some ⟨hIm2, hFm2, ⟨by omega, by omega⟩⟩
    · have b5 : 0 ≤ a1 ∧ a1 < 16 := by omega
      refine zw_if b5 ?_
      have r6 : (-2147483648) ≤ (m2 163 a1) ∧ (m2 163 a1) ≤ 2147483647 := zi_rd hIm2 zq_163 (zb_94 _)
      exact zw_some ⟨hIm2, hFm2, ⟨by omega, by omega⟩⟩
  · exact zw_some ⟨hIm0, hFm0, ⟨by omega, by omega⟩⟩

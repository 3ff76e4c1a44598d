set_option maxHeartbeats 4000000 in
theorem zk_55 (n : Nat) {a0 a1 a2 : Int} {m0 : zu_m} (hIm0 : zi_I m0) (hc0 : zcls a0 = 2) (ha1 : (-2147483648) ≤ a1 ∧ a1 ≤ 2147483647) (ha2 : (-2147483648) ≤ a2 ∧ a2 ≤ 2147483647)    (hRE89m0 : zE m0 89 50) (hRUNm0 : zR_UN m0) (hRUWm0 : zR_UW m0) : zw (zu_call (zt_T n) 55 [(5, a0), (0, a1), (0, a2)] m0) (fun v m => zi_I m ∧ zfr [(18, 2), (23, 5), (81, 0), (82, 0), (83, 0), (84, 0)] m0 m ∧ zE m 89 50 ∧ zR_UN m ∧ zR_UW m ∧ (0 ≤ v ∧ v ≤ 1)) := by
  have hFm0 : zfr [(18, 2), (23, 5), (81, 0), (82, 0), (83, 0), (84, 0)] m0 m0 := zfr_rf _ _
  refine zw_eq (zu_call_at (zt_T n) (zm_55 n) (zdp_55 n) _ _ _ _ _ rfl (zr_55_0 n _ _ a0 a1 a2 m0)) ?_
  refine zw_bd (zw_eq (zu_call_at (zt_T n) (zm_211 n) (zdp_211 n) _ _ _ _ _ rfl (zr_211_0 n _ _ 89 a1 m0)) ?_)
  refine zw_ite (fun h1 => ?_) (fun h1 => ?_)
  · refine zw_b (by omega) ?_
    refine zw_some ?_
    refine zw_ite (fun h2 => ?_) (fun h2 => ?_)
    · refine zw_b (by omega) ?_
      exact zw_some ⟨hIm0, hFm0, hRE89m0, hRUNm0, hRUWm0, ⟨by omega, by omega⟩⟩
    · exfalso; omega
  · have r3 : 0 ≤ (m0 89 4) ∧ (m0 89 4) ≤ 4 := zi_rd hIm0 zq_89 zb_16_4
    refine zw_ite (fun h4 => ?_) (fun h4 => ?_)
    · refine zw_b (by omega) ?_
      refine zw_some ?_
      refine zw_ite (fun h5 => ?_) (fun h5 => ?_)
      · refine zw_b (by omega) ?_
        exact zw_some ⟨hIm0, hFm0, hRE89m0, hRUNm0, hRUWm0, ⟨by omega, by omega⟩⟩
      · exfalso; omega
    · refine zw_b (by omega) ?_
      refine zw_some ?_
      refine zw_ite (fun h6 => ?_) (fun h6 => ?_)
      · exfalso; omega
      · refine zw_bd (zw_eq (zu_call_at (zt_T n) (zm_244 n) (zdp_244 n) _ _ _ _ _ rfl (zr_244_0 n _ _ 50 a2 m0)) ?_)
        refine zw_ite (fun h7 => ?_) (fun h7 => ?_)
        · refine zw_b (by omega) ?_
          refine zw_some ?_
          refine zw_ite (fun h8 => ?_) (fun h8 => ?_)
          · exfalso; omega
          · refine zw_b (by omega) ?_
            exact zw_some ⟨hIm0, hFm0, hRE89m0, hRUNm0, hRUWm0, ⟨by omega, by omega⟩⟩
        · have r9 : 1 ≤ (m0 50 2) ∧ (m0 50 2) ≤ 48 := zi_rd hIm0 zq_50 zb_11_2
          refine zw_ite (fun h10 => ?_) (fun h10 => ?_)
          · refine zw_b (by omega) ?_
            refine zw_some ?_
            refine zw_ite (fun h11 => ?_) (fun h11 => ?_)
            · exfalso; omega
            · refine zw_b (by omega) ?_
              exact zw_some ⟨hIm0, hFm0, hRE89m0, hRUNm0, hRUWm0, ⟨by omega, by omega⟩⟩
          · refine zw_b (by omega) ?_
            refine zw_some ?_
            refine zw_ite (fun h12 => ?_) (fun h12 => ?_)
            · have b13 : 0 ≤ a1 ∧ a1 < 4 := by omega
              refine zw_if b13 ?_
              have r14 : 0 ≤ (m0 ((89 + 2) + 20 + a1) 1) ∧ (m0 ((89 + 2) + 20 + a1) 1) ≤ 47 := zi_rd hIm0 (zc_66_e (zc_16_3 zq_89) b13) zb_18_1
              refine zw_ite (fun h15 => ?_) (fun h15 => ?_)
              · have s16 := zE_rd (A := ((89 + 2) + 20 + a1)) hRE89m0 rfl (c := a1) (by omega) (by omega) (by omega) (by omega)
                refine zw_bd (zw_eq (zu_call_at (zt_T n) (zm_309 n) (zdp_309 n) _ _ _ _ _ rfl (zr_309_0 n _ _ 148 a1 (m0 ((89 + 2) + 20 + a1) 1) m0)) ?_)
                have r17 : 0 ≤ (m0 89 2) ∧ (m0 89 2) ≤ 16 := zi_rd hIm0 zq_89 zb_16_2
                have hus : zUN m0 0 := hRUNm0
                refine zw_bd (zw_mono (zk_305 n hIm0 zq_148 ⟨by omega, by omega⟩ ⟨by omega, by omega⟩ ⟨by omega, by omega⟩ ⟨by omega, by omega⟩ (by omega) hRUWm0) (fun v19 m18 hqm18 => ?_))
                obtain ⟨hIm18, hfm18, hvm18⟩ := hqm18
                have hFm18 := zfr_tr hFm0 hfm18 rfl
                obtain ⟨hRUWm18, hvm18⟩ := hvm18
                have hRE89m18 := zR_E89_fr (zdis_fr hfm18 rfl) hRE89m0
                have z20 := zdl_v 2
                have hum18 := (hvm18.2.2) 0 hus (by omega) (by omega)
                have hRUNm18 : zR_UN m18 := zUN_cast hum18 (by omega)
                refine zw_some ?_
                generalize hmm21 : zu_up m18 ((89 + 2) + 20 + a1) 1 a2 = m21
                have hIm21 := zi_up hmm21 hIm18 (zc_66_e (zc_16_3 zq_89) b13) zb_18_1 (by omega) (by omega)
                have hFm21 := zfr_up hmm21 hFm18 (zc_66_e (zc_16_3 zq_89) b13) rfl
                have hRUNm21 := zR_UN_fr (zdis_fr (zfr_up hmm21 (zfr_rf [(18, 2)] _) (zc_66_e (zc_16_3 zq_89) b13) rfl) rfl) hRUNm18
                have hRUWm21 := zR_UW_fr (zdis_fr (zfr_up hmm21 (zfr_rf [(18, 2)] _) (zc_66_e (zc_16_3 zq_89) b13) rfl) rfl) hRUWm18
                have r22 : 1 ≤ (m18 50 2) ∧ (m18 50 2) ≤ 48 := zi_rd hIm18 zq_50 zb_11_2
                have e23 : (m18 50 2) = (m0 50 2) := (zfr_ap hfm18 zq_50 rfl)
                have hRE89m21 : zE m21 89 50 := zE_up hmm21 (by omega) hRE89m18
                refine zw_b (by omega) ?_
                exact zw_some ⟨hIm21, hFm21, hRE89m21, hRUNm21, hRUWm21, ⟨by omega, by omega⟩⟩
              · refine zw_b (by omega) ?_
                exact zw_some ⟨hIm0, hFm0, hRE89m0, hRUNm0, hRUWm0, ⟨by omega, by omega⟩⟩
            · exfalso; omega
set_option maxHeartbeats 4000000 in
theorem zk_56 (n : Nat) {a0 a1 : Int} {m0 : zu_m} (hIm0 : zi_I m0) (hc0 : zcls a0 = 2) (ha1 : (-2147483648) ≤ a1 ∧ a1 ≤ 2147483647)    (hRUNm0 : zR_UN m0) (hRUWm0 : zR_UW m0) : zw (zu_call (zt_T n) 56 [(5, a0), (0, a1)] m0) (fun v m => zi_I m ∧ zfr [(16, 11), (23, 5), (81, 0), (82, 0), (83, 0), (84, 0)] m0 m ∧ zR_UN m ∧ zR_UW m ∧ (0 ≤ v ∧ v ≤ 1)) := by
  have hFm0 : zfr [(16, 11), (23, 5), (81, 0), (82, 0), (83, 0), (84, 0)] m0 m0 := zfr_rf _ _
  refine zw_eq (zu_call_at (zt_T n) (zm_56 n) (zdp_56 n) _ _ _ _ _ rfl (zr_56_0 n _ _ a0 a1 m0)) ?_
  refine zw_ite (fun h1 => ?_) (fun h1 => ?_)
  · refine zw_b (by omega) ?_
    exact zw_some ⟨hIm0, hFm0, hRUNm0, hRUWm0, ⟨by omega, by omega⟩⟩
  · refine zw_ite (fun h2 => ?_) (fun h2 => ?_)
    · refine zw_b (by omega) ?_
      exact zw_some ⟨hIm0, hFm0, hRUNm0, hRUWm0, ⟨by omega, by omega⟩⟩
    · have r3 : 0 ≤ (m0 89 10) ∧ (m0 89 10) ≤ 3 := zi_rd hIm0 zq_89 zb_16_10
      refine zw_ite (fun h4 => ?_) (fun h4 => ?_)
      · refine zw_bd (zw_eq (zu_call_at (zt_T n) (zm_310 n) (zdp_310 n) _ _ _ _ _ rfl (zr_310_0 n _ _ 148 (m0 89 10) m0)) ?_)
        have r5 : 0 ≤ (m0 89 2) ∧ (m0 89 2) ≤ 16 := zi_rd hIm0 zq_89 zb_16_2
        have hus : zUN m0 0 := hRUNm0
        have r6 : 1 ≤ (m0 50 2) ∧ (m0 50 2) ≤ 48 := zi_rd hIm0 zq_50 zb_11_2
        refine zw_bd (zw_mono (zk_305 n hIm0 zq_148 ⟨by omega, by omega⟩ ⟨by omega, by omega⟩ ⟨by omega, by omega⟩ ⟨by omega, by omega⟩ (by omega) hRUWm0) (fun v8 m7 hqm7 => ?_))
        obtain ⟨hIm7, hfm7, hvm7⟩ := hqm7
        have hFm7 := zfr_tr hFm0 hfm7 rfl
        obtain ⟨hRUWm7, hvm7⟩ := hvm7
        have z9 := zdl_v 3
        have hum7 := (hvm7.2.2) 0 hus (by omega) (by omega)
        have hRUNm7 : zR_UN m7 := zUN_cast hum7 (by omega)
        refine zw_some ?_
        generalize hmm10 : zu_up m7 89 10 a1 = m10
        have hIm10 := zi_up hmm10 hIm7 zq_89 zb_16_10 (by omega) (by omega)
        have hFm10 := zfr_up hmm10 hFm7 zq_89 rfl
        have hRUNm10 := zR_UN_fr (zdis_fr (zfr_up hmm10 (zfr_rf [(16, 11)] _) zq_89 rfl) rfl) hRUNm7
        have hRUWm10 := zR_UW_fr (zdis_fr (zfr_up hmm10 (zfr_rf [(16, 11)] _) zq_89 rfl) rfl) hRUWm7
        refine zw_b (by omega) ?_
        exact zw_some ⟨hIm10, hFm10, hRUNm10, hRUWm10, ⟨by omega, by omega⟩⟩
      · refine zw_b (by omega) ?_
        exact zw_some ⟨hIm0, hFm0, hRUNm0, hRUWm0, ⟨by omega, by omega⟩⟩
set_option maxHeartbeats 4000000 in
theorem zk_60 (n : Nat) {a0 a1 a2 : Int} {m0 : zu_m} (hIm0 : zi_I m0) (hc0 : zcls a0 = 2) (ha1 : (-2147483648) ≤ a1 ∧ a1 ≤ 2147483647) (ha2 : (-2147483648) ≤ a2 ∧ a2 ≤ 2147483647)     : zw (zu_call (zt_T n) 60 [(5, a0), (0, a1), (0, a2)] m0) (fun v m => zi_I m ∧ zfr [(25, 3), (25, 5), (25, 9), (25, 10), (25, 11), (25, 12), (26, 1), (26, 2), (26, 3), (26, 4), (27, 1), (27, 2), (27, 3), (27, 4), (27, 5), (27, 6), (27, 7), (27, 8), (97, 0), (98, 0)] m0 m ∧ ((-1) ≤ v ∧ v ≤ 40)) := by
  have hFm0 : zfr [(25, 3), (25, 5), (25, 9), (25, 10), (25, 11), (25, 12), (26, 1), (26, 2), (26, 3), (26, 4), (27, 1), (27, 2), (27, 3), (27, 4), (27, 5), (27, 6), (27, 7), (27, 8), (97, 0), (98, 0)] m0 m0 := zfr_rf _ _
  refine zw_eq (zu_call_at (zt_T n) (zm_60 n) (zdp_60 n) _ _ _ _ _ rfl (zr_60_0 n _ _ a0 a1 a2 m0)) ?_
  refine zw_bd (zw_eq (zu_call_at (zt_T n) (zm_211 n) (zdp_211 n) _ _ _ _ _ rfl (zr_211_0 n _ _ 89 a1 m0)) ?_)
  refine zw_ite (fun h1 => ?_) (fun h1 => ?_)
  · refine zw_b (by omega) ?_
    refine zw_some ?_
    refine zw_ite (fun h2 => ?_) (fun h2 => ?_)
    · exact zw_some ⟨hIm0, hFm0, ⟨by omega, by omega⟩⟩
    · exfalso; omega
  · have r3 : 0 ≤ (m0 89 4) ∧ (m0 89 4) ≤ 4 := zi_rd hIm0 zq_89 zb_16_4
    refine zw_ite (fun h4 => ?_) (fun h4 => ?_)
    · refine zw_b (by omega) ?_
      refine zw_some ?_
      refine zw_ite (fun h5 => ?_) (fun h5 => ?_)
      · exact zw_some ⟨hIm0, hFm0, ⟨by omega, by omega⟩⟩
      · exfalso; omega
    · refine zw_b (by omega) ?_
      refine zw_some ?_
      refine zw_ite (fun h6 => ?_) (fun h6 => ?_)
      · exfalso; omega
      · refine zw_ite (fun h7 => ?_) (fun h7 => ?_)
        · exact zw_some ⟨hIm0, hFm0, ⟨by omega, by omega⟩⟩
        · refine zw_ite (fun h8 => ?_) (fun h8 => ?_)
          · refine zw_bd (zw_mono (zk_284 n hIm0 zq_153 ⟨by omega, by omega⟩ ⟨by omega, by omega⟩ ⟨by omega, by omega⟩) (fun v10 m9 hqm9 => ?_))
            obtain ⟨hIm9, hfm9, hvm9⟩ := hqm9
            have hFm9 := zfr_tr hFm0 hfm9 rfl
            exact zw_some ⟨hIm9, hFm9, ⟨by omega, by omega⟩⟩
          · exact zw_some ⟨hIm0, hFm0, ⟨by omega, by omega⟩⟩
set_option maxHeartbeats 4000000 in
theorem zk_65 (n : Nat) {a0 : Int} {m0 : zu_m} (hIm0 : zi_I m0) (hc0 : zcls a0 = 2)      : zw (zu_call (zt_T n) 65 [(5, a0)] m0) (fun v m => zi_I m ∧ zfr [(24, 19), (93, 0), (94, 0)] m0 m ∧ (0 ≤ v ∧ v ≤ 16)) := by
  have hFm0 : zfr [(24, 19), (93, 0), (94, 0)] m0 m0 := zfr_rf _ _
  refine zw_eq (zu_call_at (zt_T n) (zm_65 n) (zdp_65 n) _ _ _ _ _ rfl (zr_65_0 n _ _ a0 m0)) ?_
  refine zw_bd (zw_mono (zk_294 n hIm0 zq_153) (fun v2 m1 hqm1 => ?_))
  obtain ⟨hIm1, hfm1, hvm1⟩ := hqm1
  have hFm1 := zfr_tr hFm0 hfm1 rfl
  exact zw_some ⟨hIm1, hFm1, ⟨by omega, by omega⟩⟩
set_option maxHeartbeats 4000000 in
theorem zk_66 (n : Nat) {a0 a1 : Int} {m0 : zu_m} (hIm0 : zi_I m0) (hc0 : zcls a0 = 2) (ha1 : (-2147483648) ≤ a1 ∧ a1 ≤ 2147483647)     : zw (zu_call (zt_T n) 66 [(5, a0), (0, a1)] m0) (fun v m => zi_I m ∧ zfr [(24, 19), (93, 0), (94, 0)] m0 m ∧ ((-2147483648) ≤ v ∧ v ≤ 2147483647)) := by
  have hFm0 : zfr [(24, 19), (93, 0), (94, 0)] m0 m0 := zfr_rf _ _
  refine zw_eq (zu_call_at (zt_T n) (zm_66 n) (zdp_66 n) _ _ _ _ _ rfl (zr_66_0 n _ _ a0 a1 m0)) ?_
  refine zw_ite (fun h1 => ?_) (fun h1 => ?_)
  · refine zw_bd (zw_mono (zk_294 n hIm0 zq_153) (fun v3 m2 hqm2 => ?_))
    obtain ⟨hIm2, hfm2, hvm2⟩ := hqm2
    have hFm2 := zfr_tr hFm0 hfm2 rfl
    refine zw_ite (fun h4 => ?_) (fun h4 => ?_)
    · exact zw_some ⟨hIm2, hFm2, ⟨by omega, by omega⟩⟩
    · have b5 : 0 ≤ a1 ∧ a1 < 16 := by omega
      refine zw_if b5 ?_
      have r6 : (-2147483648) ≤ (m2 163 a1) ∧ (m2 163 a1) ≤ 2147483647 := zi_rd hIm2 zq_163 (zb_94 _)
      exact zw_some ⟨hIm2, hFm2, ⟨by omega, by omega⟩⟩
  · exact zw_some ⟨hIm0, hFm0, ⟨by omega, by omega⟩⟩
set_option maxHeartbeats 4000000 in
theorem zk_99 (n : Nat) {a0 : Int} {m0 : zu_m} (hIm0 : zi_I m0) (hc0 : zcls a0 = 28)     (hRCRm0 : zR_CR m0) (hRLRm0 : zR_LR m0) (hRNSm0 : zR_NS m0) (hRTRm0 : zR_TR m0) (hRWDm0 : zR_WD m0) : zw (zu_call (zt_T n) 99 [(40, a0)] m0) (fun v m => zi_I m ∧ zfr [(28, 5), (28, 6), (28, 8), (28, 9), (28, 10), (28, 11), (28, 12), (28, 18), (28, 19), (102, 0)] m0 m ∧ zR_CR m ∧ zR_LR m ∧ zR_NS m ∧ zR_TR m ∧ zR_WD m ∧ (0 ≤ v ∧ v ≤ 1) ∧ ((m0 a0 7) ≤ (m a0 7)) ∧ (v = 1 → ((m a0 8) = 0 ∨ (m0 a0 7) < (m a0 7))) ∧ (v = 1 → (m a0 4) = (m0 a0 4))) := by
  have hFm0 : zfr [(28, 5), (28, 6), (28, 8), (28, 9), (28, 10), (28, 11), (28, 12), (28, 18), (28, 19), (102, 0)] m0 m0 := zfr_rf _ _
  have r1 : 0 ≤ (m0 a0 7) ∧ (m0 a0 7) ≤ 700 := zi_rd hIm0 hc0 zb_28_7
  have r2 : (-2147483648) ≤ (m0 a0 4) ∧ (m0 a0 4) ≤ 2147483647 := zi_rd hIm0 hc0 zb_28_4
  have s3 := hRNSm0 a0 hc0
  have s4 := hRTRm0 a0 hc0
  refine zw_eq (zu_call_at (zt_T n) (zm_99 n) (zdp_99 n) _ _ _ _ _ rfl (zr_99_0 n _ _ a0 m0)) ?_
  have b5 : 0 ≤ (0 : Int) ∧ (0 : Int) < 6 := by omega
  refine zw_if b5 ?_
  have r6 : 0 ≤ (m0 193 0) ∧ (m0 193 0) ≤ 1 := zi_rd hIm0 zq_193 (zb_102 _)
  refine zw_ite (fun h7 => ?_) (fun h7 => ?_)
  · have r8 : 0 ≤ (m0 a0 23) ∧ (m0 a0 23) ≤ 1 := zi_rd hIm0 hc0 zb_28_23
    refine zw_ite (fun h9 => ?_) (fun h9 => ?_)
    · have r10 : 0 ≤ (m0 a0 20) ∧ (m0 a0 20) ≤ 4 := zi_rd hIm0 hc0 zb_28_20
      have s11 := zCR_ap (zone_190 hc0) hRCRm0
      refine zw_b (by omega) ?_
      have b12 : 0 ≤ (0 : Int) ∧ (0 : Int) < 6 := by omega
      refine zw_if b12 ?_
      generalize hmm13 : zu_up m0 193 0 1 = m13
      have hIm13 := zi_up hmm13 hIm0 zq_193 (zb_102 _) (by omega) (by omega)
      have hFm13 := zfr_up hmm13 hFm0 zq_193 rfl
      have hRCRm13 := zR_CR_fr (zdis_fr (zfr_up hmm13 (zfr_rf [(102, 0)] _) zq_193 rfl) rfl) hRCRm0
      have hRLRm13 := zR_LR_fr (zdis_fr (zfr_up hmm13 (zfr_rf [(102, 0)] _) zq_193 rfl) rfl) hRLRm0
      have hRNSm13 := zR_NS_fr (zdis_fr (zfr_up hmm13 (zfr_rf [(102, 0)] _) zq_193 rfl) rfl) hRNSm0
      have hRTRm13 := zR_TR_fr (zdis_fr (zfr_up hmm13 (zfr_rf [(102, 0)] _) zq_193 rfl) rfl) hRTRm0
      have hRWDm13 := zR_WD_fr (zdis_fr (zfr_up hmm13 (zfr_rf [(102, 0)] _) zq_193 rfl) rfl) hRWDm0
      refine zw_bd (zw_mono (zk_89 n hIm13 hc0 hRNSm13 hRWDm13) (fun v15 m14 hqm14 => ?_))
      obtain ⟨hIm14, hfm14, hvm14⟩ := hqm14
      have hFm14 := zfr_tr hFm13 hfm14 rfl
      obtain ⟨hRNSm14, hRTRm14, hRWDm14, hvm14⟩ := hvm14
      have hRCRm14 := zR_CR_fr (zdis_fr hfm14 rfl) hRCRm13
      have hRLRm14 := zR_LR_fr (zdis_fr hfm14 rfl) hRLRm13
      have s16 := hRNSm14 a0 hc0
      have s17 := hRTRm14 a0 hc0
      refine zw_bd (zw_eq (zu_call_at (zt_T n) (zm_94 n) (zdp_94 n) _ _ _ _ _ rfl (zr_94_0 n _ _ a0 1 8 m14)) ?_)
      have r18 : 0 ≤ (m14 a0 8) ∧ (m14 a0 8) ≤ 6 := zi_rd hIm14 hc0 zb_28_8
      refine zw_ite (fun h19 => ?_) (fun h19 => ?_)
      · refine zw_bd (zw_eq (zu_call_at (zt_T n) (zm_83 n) (zdp_83 n) _ _ _ _ _ rfl (zr_83_0 n _ _ (m14 a0 9) 1 8 m14)) ?_)
        refine zw_ite (fun h20 => ?_) (fun h20 => ?_)
        · refine zw_b (by omega) ?_
          refine zw_some ?_
          refine zw_ite (fun h21 => ?_) (fun h21 => ?_)
          · exfalso; omega
          · refine zw_bd (zw_eq (zu_call_at (zt_T n) (zm_85 n) (zdp_85 n) _ _ _ _ _ rfl (zr_85_0 n _ _ a0 2 m14)) ?_)
            generalize hmm22 : zu_up m14 a0 4 2 = m22
            have hIm22 := zi_up hmm22 hIm14 hc0 zb_28_4 (by omega) (by omega)
            have hFm22 := zfr_up hmm22 hFm14 hc0 rfl
            have hRCRm22 := zR_CR_fr (zdis_fr (zfr_up hmm22 (zfr_rf [(28, 5)] _) hc0 rfl) rfl) hRCRm14
            have hRNSm22 := zR_NS_fr (zdis_fr (zfr_up hmm22 (zfr_rf [(28, 5)] _) hc0 rfl) rfl) hRNSm14
            have hRTRm22 := zR_TR_fr (zdis_fr (zfr_up hmm22 (zfr_rf [(28, 5)] _) hc0 rfl) rfl) hRTRm14
            have hRWDm22 := zR_WD_fr (zdis_fr (zfr_up hmm22 (zfr_rf [(28, 5)] _) hc0 rfl) rfl) hRWDm14
            have hRLRm22 := zLR_wr (zone_190 hc0) hmm22 (by decide)
            have r23 : 0 ≤ (m22 a0 10) ∧ (m22 a0 10) ≤ 700 := zi_rd hIm22 hc0 zb_28_10
            generalize hmm24 : zu_up m22 a0 5 (m22 a0 10) = m24
            have hIm24 := zi_up hmm24 hIm22 hc0 zb_28_5 (by omega) (by omega)
            have hFm24 := zfr_up hmm24 hFm22 hc0 rfl
            have hRCRm24 := zR_CR_fr (zdis_fr (zfr_up hmm24 (zfr_rf [(28, 6)] _) hc0 rfl) rfl) hRCRm22
            have hRLRm24 := zR_LR_fr (zdis_fr (zfr_up hmm24 (zfr_rf [(28, 6)] _) hc0 rfl) rfl) hRLRm22
            have hRNSm24 := zR_NS_fr (zdis_fr (zfr_up hmm24 (zfr_rf [(28, 6)] _) hc0 rfl) rfl) hRNSm22
            have hRTRm24 := zR_TR_fr (zdis_fr (zfr_up hmm24 (zfr_rf [(28, 6)] _) hc0 rfl) rfl) hRTRm22
            have hRWDm24 := zR_WD_fr (zdis_fr (zfr_up hmm24 (zfr_rf [(28, 6)] _) hc0 rfl) rfl) hRWDm22
            refine zw_b (by omega) ?_
            refine zw_some ?_
            refine zw_b (by omega) ?_
            refine zw_some ?_
            refine zw_ite (fun h25 => ?_) (fun h25 => ?_)
            · exfalso; omega
            · refine zw_b (by omega) ?_
              have r26 : 0 ≤ (m24 a0 7) ∧ (m24 a0 7) ≤ 700 := zi_rd hIm24 hc0 zb_28_7
              have r27 : 0 ≤ (m24 a0 8) ∧ (m24 a0 8) ≤ 6 := zi_rd hIm24 hc0 zb_28_8
              have e28 : (m24 a0 8) = (m14 a0 8) := (Eq.trans (zs_ne hmm24 (Or.inr (by decide))) (zs_ne hmm22 (Or.inr (by decide))))
              have r29 : (-2147483648) ≤ (m24 a0 4) ∧ (m24 a0 4) ≤ 2147483647 := zi_rd hIm24 hc0 zb_28_4
              have e30 : (m24 a0 4) = 2 := (Eq.trans (zs_ne hmm24 (Or.inr (by decide))) (zs_eq hmm22))
              exact zw_some ⟨hIm24, hFm24, hRCRm24, hRLRm24, hRNSm24, hRTRm24, hRWDm24, ⟨by omega, by omega⟩, by omega, by omega, by omega⟩
        · refine zw_ite (fun h31 => ?_) (fun h31 => ?_)
          · refine zw_b (by omega) ?_
            refine zw_some ?_
            refine zw_ite (fun h32 => ?_) (fun h32 => ?_)
            · exfalso; omega
            · refine zw_bd (zw_eq (zu_call_at (zt_T n) (zm_85 n) (zdp_85 n) _ _ _ _ _ rfl (zr_85_0 n _ _ a0 2 m14)) ?_)
              generalize hmm33 : zu_up m14 a0 4 2 = m33
              have hIm33 := zi_up hmm33 hIm14 hc0 zb_28_4 (by omega) (by omega)
              have hFm33 := zfr_up hmm33 hFm14 hc0 rfl
              have hRCRm33 := zR_CR_fr (zdis_fr (zfr_up hmm33 (zfr_rf [(28, 5)] _) hc0 rfl) rfl) hRCRm14
              have hRNSm33 := zR_NS_fr (zdis_fr (zfr_up hmm33 (zfr_rf [(28, 5)] _) hc0 rfl) rfl) hRNSm14
              have hRTRm33 := zR_TR_fr (zdis_fr (zfr_up hmm33 (zfr_rf [(28, 5)] _) hc0 rfl) rfl) hRTRm14
              have hRWDm33 := zR_WD_fr (zdis_fr (zfr_up hmm33 (zfr_rf [(28, 5)] _) hc0 rfl) rfl) hRWDm14
              have hRLRm33 := zLR_wr (zone_190 hc0) hmm33 (by decide)
              have r34 : 0 ≤ (m33 a0 10) ∧ (m33 a0 10) ≤ 700 := zi_rd hIm33 hc0 zb_28_10
              generalize hmm35 : zu_up m33 a0 5 (m33 a0 10) = m35
              have hIm35 := zi_up hmm35 hIm33 hc0 zb_28_5 (by omega) (by omega)
              have hFm35 := zfr_up hmm35 hFm33 hc0 rfl
              have hRCRm35 := zR_CR_fr (zdis_fr (zfr_up hmm35 (zfr_rf [(28, 6)] _) hc0 rfl) rfl) hRCRm33
              have hRLRm35 := zR_LR_fr (zdis_fr (zfr_up hmm35 (zfr_rf [(28, 6)] _) hc0 rfl) rfl) hRLRm33
              have hRNSm35 := zR_NS_fr (zdis_fr (zfr_up hmm35 (zfr_rf [(28, 6)] _) hc0 rfl) rfl) hRNSm33
              have hRTRm35 := zR_TR_fr (zdis_fr (zfr_up hmm35 (zfr_rf [(28, 6)] _) hc0 rfl) rfl) hRTRm33
              have hRWDm35 := zR_WD_fr (zdis_fr (zfr_up hmm35 (zfr_rf [(28, 6)] _) hc0 rfl) rfl) hRWDm33
              refine zw_b (by omega) ?_
              refine zw_some ?_
              refine zw_b (by omega) ?_
              refine zw_some ?_
              refine zw_ite (fun h36 => ?_) (fun h36 => ?_)
              · exfalso; omega
              · refine zw_b (by omega) ?_
                have r37 : 0 ≤ (m35 a0 7) ∧ (m35 a0 7) ≤ 700 := zi_rd hIm35 hc0 zb_28_7
                have r38 : 0 ≤ (m35 a0 8) ∧ (m35 a0 8) ≤ 6 := zi_rd hIm35 hc0 zb_28_8
                have e39 : (m35 a0 8) = (m14 a0 8) := (Eq.trans (zs_ne hmm35 (Or.inr (by decide))) (zs_ne hmm33 (Or.inr (by decide))))
                have r40 : (-2147483648) ≤ (m35 a0 4) ∧ (m35 a0 4) ≤ 2147483647 := zi_rd hIm35 hc0 zb_28_4
                have e41 : (m35 a0 4) = 2 := (Eq.trans (zs_ne hmm35 (Or.inr (by decide))) (zs_eq hmm33))
                exact zw_some ⟨hIm35, hFm35, hRCRm35, hRLRm35, hRNSm35, hRTRm35, hRWDm35, ⟨by omega, by omega⟩, by omega, by omega, by omega⟩
          · refine zw_b (by omega) ?_
            refine zw_some ?_
            refine zw_ite (fun h42 => ?_) (fun h42 => ?_)
            · generalize hmm43 : zu_up m14 a0 11 (m14 a0 9) = m43
              have hIm43 := zi_up hmm43 hIm14 hc0 zb_28_11 (by omega) (by omega)
              have hFm43 := zfr_up hmm43 hFm14 hc0 rfl
              have hRCRm43 := zR_CR_fr (zdis_fr (zfr_up hmm43 (zfr_rf [(28, 12)] _) hc0 rfl) rfl) hRCRm14
              have hRLRm43 := zR_LR_fr (zdis_fr (zfr_up hmm43 (zfr_rf [(28, 12)] _) hc0 rfl) rfl) hRLRm14
              have hRNSm43 := zR_NS_fr (zdis_fr (zfr_up hmm43 (zfr_rf [(28, 12)] _) hc0 rfl) rfl) hRNSm14
              have hRTRm43 := zR_TR_fr (zdis_fr (zfr_up hmm43 (zfr_rf [(28, 12)] _) hc0 rfl) rfl) hRTRm14
              have hRWDm43 := zR_WD_fr (zdis_fr (zfr_up hmm43 (zfr_rf [(28, 12)] _) hc0 rfl) rfl) hRWDm14
              refine zw_bd (zw_mono (zk_89 n hIm43 hc0 hRNSm43 hRWDm43) (fun v45 m44 hqm44 => ?_))
              obtain ⟨hIm44, hfm44, hvm44⟩ := hqm44
              have hFm44 := zfr_tr hFm43 hfm44 rfl
              obtain ⟨hRNSm44, hRTRm44, hRWDm44, hvm44⟩ := hvm44
              have hRCRm44 := zR_CR_fr (zdis_fr hfm44 rfl) hRCRm43
              have hRLRm44 := zR_LR_fr (zdis_fr hfm44 rfl) hRLRm43
              have s46 := hRNSm44 a0 hc0
              have s47 := hRTRm44 a0 hc0
              refine zw_b (by omega) ?_
              refine zw_some ?_
              refine zw_ite (fun h48 => ?_) (fun h48 => ?_)
              · have r49 : (-2147483648) ≤ (m44 a0 11) ∧ (m44 a0 11) ≤ 2147483647 := zi_rd hIm44 hc0 zb_28_11
                have e50 : (m44 a0 11) = (m14 a0 9) := (Eq.trans (zfr_ap hfm44 hc0 rfl) (zs_eq hmm43))
                generalize hmm51 : zu_up m44 a0 17 (m44 a0 11) = m51
                have hIm51 := zi_up hmm51 hIm44 hc0 zb_28_17 (by omega) (by omega)
                have hFm51 := zfr_up hmm51 hFm44 hc0 rfl
                have hRLRm51 := zR_LR_fr (zdis_fr (zfr_up hmm51 (zfr_rf [(28, 18)] _) hc0 rfl) rfl) hRLRm44
                have hRNSm51 := zR_NS_fr (zdis_fr (zfr_up hmm51 (zfr_rf [(28, 18)] _) hc0 rfl) rfl) hRNSm44
                have hRTRm51 := zR_TR_fr (zdis_fr (zfr_up hmm51 (zfr_rf [(28, 18)] _) hc0 rfl) rfl) hRTRm44
                have hRWDm51 := zR_WD_fr (zdis_fr (zfr_up hmm51 (zfr_rf [(28, 18)] _) hc0 rfl) rfl) hRWDm44
                have r52 : 0 ≤ (m51 a0 20) ∧ (m51 a0 20) ≤ 4 := zi_rd hIm51 hc0 zb_28_20
                have e53 : (m51 a0 20) = (m0 a0 20) := (Eq.trans (zs_ne hmm51 (Or.inr (by decide))) (Eq.trans (zfr_ap hfm44 hc0 rfl) (Eq.trans (zs_ne hmm43 (Or.inr (by decide))) (Eq.trans (zfr_ap hfm14 hc0 rfl) (zs_ne hmm13 (Or.inl (zc_ne hc0 zq_193 (by decide))))))))
                have hRCRm51 := zCR_zero (m := m51) (zone_190 hc0) (by omega) (by omega)
                refine zw_bd (zw_eq (zu_call_at (zt_T n) (zm_94 n) (zdp_94 n) _ _ _ _ _ rfl (zr_94_0 n _ _ a0 1 6 m51)) ?_)
                have r54 : 0 ≤ (m51 a0 8) ∧ (m51 a0 8) ≤ 6 := zi_rd hIm51 hc0 zb_28_8
                refine zw_ite (fun h55 => ?_) (fun h55 => ?_)
                · have r56 : (-2147483648) ≤ (m51 a0 9) ∧ (m51 a0 9) ≤ 2147483647 := zi_rd hIm51 hc0 zb_28_9
                  refine zw_bd (zw_eq (zu_call_at (zt_T n) (zm_83 n) (zdp_83 n) _ _ _ _ _ rfl (zr_83_0 n _ _ (m51 a0 9) 1 6 m51)) ?_)
                  refine zw_ite (fun h57 => ?_) (fun h57 => ?_)
                  · refine zw_b (by omega) ?_
                    refine zw_some ?_
                    refine zw_ite (fun h58 => ?_) (fun h58 => ?_)
                    · exfalso; omega
                    · refine zw_bd (zw_eq (zu_call_at (zt_T n) (zm_85 n) (zdp_85 n) _ _ _ _ _ rfl (zr_85_0 n _ _ a0 2 m51)) ?_)
                      generalize hmm59 : zu_up m51 a0 4 2 = m59
                      have hIm59 := zi_up hmm59 hIm51 hc0 zb_28_4 (by omega) (by omega)
                      have hFm59 := zfr_up hmm59 hFm51 hc0 rfl
                      have hRCRm59 := zR_CR_fr (zdis_fr (zfr_up hmm59 (zfr_rf [(28, 5)] _) hc0 rfl) rfl) hRCRm51
                      have hRNSm59 := zR_NS_fr (zdis_fr (zfr_up hmm59 (zfr_rf [(28, 5)] _) hc0 rfl) rfl) hRNSm51
                      have hRTRm59 := zR_TR_fr (zdis_fr (zfr_up hmm59 (zfr_rf [(28, 5)] _) hc0 rfl) rfl) hRTRm51
                      have hRWDm59 := zR_WD_fr (zdis_fr (zfr_up hmm59 (zfr_rf [(28, 5)] _) hc0 rfl) rfl) hRWDm51
                      have hRLRm59 := zLR_wr (zone_190 hc0) hmm59 (by decide)
                      have r60 : 0 ≤ (m59 a0 10) ∧ (m59 a0 10) ≤ 700 := zi_rd hIm59 hc0 zb_28_10
                      generalize hmm61 : zu_up m59 a0 5 (m59 a0 10) = m61
                      have hIm61 := zi_up hmm61 hIm59 hc0 zb_28_5 (by omega) (by omega)
                      have hFm61 := zfr_up hmm61 hFm59 hc0 rfl
                      have hRCRm61 := zR_CR_fr (zdis_fr (zfr_up hmm61 (zfr_rf [(28, 6)] _) hc0 rfl) rfl) hRCRm59
                      have hRLRm61 := zR_LR_fr (zdis_fr (zfr_up hmm61 (zfr_rf [(28, 6)] _) hc0 rfl) rfl) hRLRm59
                      have hRNSm61 := zR_NS_fr (zdis_fr (zfr_up hmm61 (zfr_rf [(28, 6)] _) hc0 rfl) rfl) hRNSm59
                      have hRTRm61 := zR_TR_fr (zdis_fr (zfr_up hmm61 (zfr_rf [(28, 6)] _) hc0 rfl) rfl) hRTRm59
                      have hRWDm61 := zR_WD_fr (zdis_fr (zfr_up hmm61 (zfr_rf [(28, 6)] _) hc0 rfl) rfl) hRWDm59
                      refine zw_b (by omega) ?_
                      refine zw_some ?_
                      refine zw_b (by omega) ?_
                      refine zw_some ?_
                      refine zw_ite (fun h62 => ?_) (fun h62 => ?_)
                      · exfalso; omega
                      · refine zw_b (by omega) ?_
                        have r63 : 0 ≤ (m61 a0 7) ∧ (m61 a0 7) ≤ 700 := zi_rd hIm61 hc0 zb_28_7
                        have r64 : 0 ≤ (m61 a0 8) ∧ (m61 a0 8) ≤ 6 := zi_rd hIm61 hc0 zb_28_8
                        have e65 : (m61 a0 8) = (m51 a0 8) := (Eq.trans (zs_ne hmm61 (Or.inr (by decide))) (zs_ne hmm59 (Or.inr (by decide))))
                        have r66 : (-2147483648) ≤ (m61 a0 4) ∧ (m61 a0 4) ≤ 2147483647 := zi_rd hIm61 hc0 zb_28_4
                        have e67 : (m61 a0 4) = 2 := (Eq.trans (zs_ne hmm61 (Or.inr (by decide))) (zs_eq hmm59))
                        exact zw_some ⟨hIm61, hFm61, hRCRm61, hRLRm61, hRNSm61, hRTRm61, hRWDm61, ⟨by omega, by omega⟩, by omega, by omega, by omega⟩
                  · refine zw_ite (fun h68 => ?_) (fun h68 => ?_)
                    · refine zw_b (by omega) ?_
                      refine zw_some ?_
                      refine zw_ite (fun h69 => ?_) (fun h69 => ?_)
                      · exfalso; omega
                      · refine zw_bd (zw_eq (zu_call_at (zt_T n) (zm_85 n) (zdp_85 n) _ _ _ _ _ rfl (zr_85_0 n _ _ a0 2 m51)) ?_)
                        generalize hmm70 : zu_up m51 a0 4 2 = m70
                        have hIm70 := zi_up hmm70 hIm51 hc0 zb_28_4 (by omega) (by omega)
                        have hFm70 := zfr_up hmm70 hFm51 hc0 rfl
                        have hRCRm70 := zR_CR_fr (zdis_fr (zfr_up hmm70 (zfr_rf [(28, 5)] _) hc0 rfl) rfl) hRCRm51
                        have hRNSm70 := zR_NS_fr (zdis_fr (zfr_up hmm70 (zfr_rf [(28, 5)] _) hc0 rfl) rfl) hRNSm51
                        have hRTRm70 := zR_TR_fr (zdis_fr (zfr_up hmm70 (zfr_rf [(28, 5)] _) hc0 rfl) rfl) hRTRm51
                        have hRWDm70 := zR_WD_fr (zdis_fr (zfr_up hmm70 (zfr_rf [(28, 5)] _) hc0 rfl) rfl) hRWDm51
                        have hRLRm70 := zLR_wr (zone_190 hc0) hmm70 (by decide)
                        have r71 : 0 ≤ (m70 a0 10) ∧ (m70 a0 10) ≤ 700 := zi_rd hIm70 hc0 zb_28_10
                        generalize hmm72 : zu_up m70 a0 5 (m70 a0 10) = m72
                        have hIm72 := zi_up hmm72 hIm70 hc0 zb_28_5 (by omega) (by omega)
                        have hFm72 := zfr_up hmm72 hFm70 hc0 rfl
                        have hRCRm72 := zR_CR_fr (zdis_fr (zfr_up hmm72 (zfr_rf [(28, 6)] _) hc0 rfl) rfl) hRCRm70
                        have hRLRm72 := zR_LR_fr (zdis_fr (zfr_up hmm72 (zfr_rf [(28, 6)] _) hc0 rfl) rfl) hRLRm70
                        have hRNSm72 := zR_NS_fr (zdis_fr (zfr_up hmm72 (zfr_rf [(28, 6)] _) hc0 rfl) rfl) hRNSm70
                        have hRTRm72 := zR_TR_fr (zdis_fr (zfr_up hmm72 (zfr_rf [(28, 6)] _) hc0 rfl) rfl) hRTRm70
                        have hRWDm72 := zR_WD_fr (zdis_fr (zfr_up hmm72 (zfr_rf [(28, 6)] _) hc0 rfl) rfl) hRWDm70
                        refine zw_b (by omega) ?_
                        refine zw_some ?_
                        refine zw_b (by omega) ?_
                        refine zw_some ?_
                        refine zw_ite (fun h73 => ?_) (fun h73 => ?_)
                        · exfalso; omega
                        · refine zw_b (by omega) ?_
                          have r74 : 0 ≤ (m72 a0 7) ∧ (m72 a0 7) ≤ 700 := zi_rd hIm72 hc0 zb_28_7
                          have r75 : 0 ≤ (m72 a0 8) ∧ (m72 a0 8) ≤ 6 := zi_rd hIm72 hc0 zb_28_8
                          have e76 : (m72 a0 8) = (m51 a0 8) := (Eq.trans (zs_ne hmm72 (Or.inr (by decide))) (zs_ne hmm70 (Or.inr (by decide))))
                          have r77 : (-2147483648) ≤ (m72 a0 4) ∧ (m72 a0 4) ≤ 2147483647 := zi_rd hIm72 hc0 zb_28_4
                          have e78 : (m72 a0 4) = 2 := (Eq.trans (zs_ne hmm72 (Or.inr (by decide))) (zs_eq hmm70))
                          exact zw_some ⟨hIm72, hFm72, hRCRm72, hRLRm72, hRNSm72, hRTRm72, hRWDm72, ⟨by omega, by omega⟩, by omega, by omega, by omega⟩
                    · refine zw_b (by omega) ?_
                      refine zw_some ?_
                      refine zw_ite (fun h79 => ?_) (fun h79 => ?_)
                      · generalize hmm80 : zu_up m51 a0 11 (m51 a0 9) = m80
                        have hIm80 := zi_up hmm80 hIm51 hc0 zb_28_11 (by omega) (by omega)
                        have hFm80 := zfr_up hmm80 hFm51 hc0 rfl
                        have hRCRm80 := zR_CR_fr (zdis_fr (zfr_up hmm80 (zfr_rf [(28, 12)] _) hc0 rfl) rfl) hRCRm51
                        have hRLRm80 := zR_LR_fr (zdis_fr (zfr_up hmm80 (zfr_rf [(28, 12)] _) hc0 rfl) rfl) hRLRm51
                        have hRNSm80 := zR_NS_fr (zdis_fr (zfr_up hmm80 (zfr_rf [(28, 12)] _) hc0 rfl) rfl) hRNSm51
                        have hRTRm80 := zR_TR_fr (zdis_fr (zfr_up hmm80 (zfr_rf [(28, 12)] _) hc0 rfl) rfl) hRTRm51
                        have hRWDm80 := zR_WD_fr (zdis_fr (zfr_up hmm80 (zfr_rf [(28, 12)] _) hc0 rfl) rfl) hRWDm51
                        refine zw_bd (zw_mono (zk_89 n hIm80 hc0 hRNSm80 hRWDm80) (fun v82 m81 hqm81 => ?_))
                        obtain ⟨hIm81, hfm81, hvm81⟩ := hqm81
                        have hFm81 := zfr_tr hFm80 hfm81 rfl
                        obtain ⟨hRNSm81, hRTRm81, hRWDm81, hvm81⟩ := hvm81
                        have hRCRm81 := zR_CR_fr (zdis_fr hfm81 rfl) hRCRm80
                        have hRLRm81 := zR_LR_fr (zdis_fr hfm81 rfl) hRLRm80
                        have s83 := hRNSm81 a0 hc0
                        have s84 := hRTRm81 a0 hc0
                        refine zw_b (by omega) ?_
                        refine zw_some ?_
                        refine zw_ite (fun h85 => ?_) (fun h85 => ?_)
                        · have r86 : (-2147483648) ≤ (m81 a0 11) ∧ (m81 a0 11) ≤ 2147483647 := zi_rd hIm81 hc0 zb_28_11
                          have e87 : (m81 a0 11) = (m51 a0 9) := (Eq.trans (zfr_ap hfm81 hc0 rfl) (zs_eq hmm80))
                          generalize hmm88 : zu_up m81 a0 18 (m81 a0 11) = m88
                          have hIm88 := zi_up hmm88 hIm81 hc0 zb_28_18 (by omega) (by omega)
                          have hFm88 := zfr_up hmm88 hFm81 hc0 rfl
                          have hRLRm88 := zR_LR_fr (zdis_fr (zfr_up hmm88 (zfr_rf [(28, 19)] _) hc0 rfl) rfl) hRLRm81
                          have hRNSm88 := zR_NS_fr (zdis_fr (zfr_up hmm88 (zfr_rf [(28, 19)] _) hc0 rfl) rfl) hRNSm81
                          have hRTRm88 := zR_TR_fr (zdis_fr (zfr_up hmm88 (zfr_rf [(28, 19)] _) hc0 rfl) rfl) hRTRm81
                          have hRWDm88 := zR_WD_fr (zdis_fr (zfr_up hmm88 (zfr_rf [(28, 19)] _) hc0 rfl) rfl) hRWDm81
                          have r89 : 0 ≤ (m88 a0 20) ∧ (m88 a0 20) ≤ 4 := zi_rd hIm88 hc0 zb_28_20
                          have e90 : (m88 a0 20) = (m51 a0 20) := (Eq.trans (zs_ne hmm88 (Or.inr (by decide))) (Eq.trans (zfr_ap hfm81 hc0 rfl) (zs_ne hmm80 (Or.inr (by decide)))))
                          have hRCRm88 := zCR_zero (m := m88) (zone_190 hc0) (by omega) (by omega)
                          refine zw_b (by omega) ?_
                          have r91 : 0 ≤ (m88 a0 7) ∧ (m88 a0 7) ≤ 700 := zi_rd hIm88 hc0 zb_28_7
                          have r92 : 0 ≤ (m88 a0 8) ∧ (m88 a0 8) ≤ 6 := zi_rd hIm88 hc0 zb_28_8
                          have r93 : (-2147483648) ≤ (m88 a0 4) ∧ (m88 a0 4) ≤ 2147483647 := zi_rd hIm88 hc0 zb_28_4
                          have e94 : (m88 a0 4) = (m0 a0 4) := (Eq.trans (zs_ne hmm88 (Or.inr (by decide))) (Eq.trans (zfr_ap hfm81 hc0 rfl) (Eq.trans (zs_ne hmm80 (Or.inr (by decide))) (Eq.trans (zs_ne hmm51 (Or.inr (by decide))) (Eq.trans (zfr_ap hfm44 hc0 rfl) (Eq.trans (zs_ne hmm43 (Or.inr (by decide))) (Eq.trans (zfr_ap hfm14 hc0 rfl) (zs_ne hmm13 (Or.inl (zc_ne hc0 zq_193 (by decide)))))))))))
                          exact zw_some ⟨hIm88, hFm88, hRCRm88, hRLRm88, hRNSm88, hRTRm88, hRWDm88, ⟨by omega, by omega⟩, by omega, by omega, by omega⟩
                        · exfalso; omega
                      · exfalso; omega
                · refine zw_bd (zw_eq (zu_call_at (zt_T n) (zm_85 n) (zdp_85 n) _ _ _ _ _ rfl (zr_85_0 n _ _ a0 1 m51)) ?_)
                  generalize hmm95 : zu_up m51 a0 4 1 = m95
                  have hIm95 := zi_up hmm95 hIm51 hc0 zb_28_4 (by omega) (by omega)
                  have hFm95 := zfr_up hmm95 hFm51 hc0 rfl
                  have hRCRm95 := zR_CR_fr (zdis_fr (zfr_up hmm95 (zfr_rf [(28, 5)] _) hc0 rfl) rfl) hRCRm51
                  have hRNSm95 := zR_NS_fr (zdis_fr (zfr_up hmm95 (zfr_rf [(28, 5)] _) hc0 rfl) rfl) hRNSm51
                  have hRTRm95 := zR_TR_fr (zdis_fr (zfr_up hmm95 (zfr_rf [(28, 5)] _) hc0 rfl) rfl) hRTRm51
                  have hRWDm95 := zR_WD_fr (zdis_fr (zfr_up hmm95 (zfr_rf [(28, 5)] _) hc0 rfl) rfl) hRWDm51
                  have hRLRm95 := zLR_wr (zone_190 hc0) hmm95 (by decide)
                  have r96 : 0 ≤ (m95 a0 10) ∧ (m95 a0 10) ≤ 700 := zi_rd hIm95 hc0 zb_28_10
                  generalize hmm97 : zu_up m95 a0 5 (m95 a0 10) = m97
                  have hIm97 := zi_up hmm97 hIm95 hc0 zb_28_5 (by omega) (by omega)
                  have hFm97 := zfr_up hmm97 hFm95 hc0 rfl
                  have hRCRm97 := zR_CR_fr (zdis_fr (zfr_up hmm97 (zfr_rf [(28, 6)] _) hc0 rfl) rfl) hRCRm95
                  have hRLRm97 := zR_LR_fr (zdis_fr (zfr_up hmm97 (zfr_rf [(28, 6)] _) hc0 rfl) rfl) hRLRm95
                  have hRNSm97 := zR_NS_fr (zdis_fr (zfr_up hmm97 (zfr_rf [(28, 6)] _) hc0 rfl) rfl) hRNSm95
                  have hRTRm97 := zR_TR_fr (zdis_fr (zfr_up hmm97 (zfr_rf [(28, 6)] _) hc0 rfl) rfl) hRTRm95
                  have hRWDm97 := zR_WD_fr (zdis_fr (zfr_up hmm97 (zfr_rf [(28, 6)] _) hc0 rfl) rfl) hRWDm95
                  refine zw_b (by omega) ?_
                  refine zw_some ?_
                  refine zw_b (by omega) ?_
                  refine zw_some ?_
                  refine zw_ite (fun h98 => ?_) (fun h98 => ?_)
                  · exfalso; omega
                  · refine zw_b (by omega) ?_
                    have r99 : 0 ≤ (m97 a0 7) ∧ (m97 a0 7) ≤ 700 := zi_rd hIm97 hc0 zb_28_7
                    have r100 : 0 ≤ (m97 a0 8) ∧ (m97 a0 8) ≤ 6 := zi_rd hIm97 hc0 zb_28_8
                    have e101 : (m97 a0 8) = (m51 a0 8) := (Eq.trans (zs_ne hmm97 (Or.inr (by decide))) (zs_ne hmm95 (Or.inr (by decide))))
                    have r102 : (-2147483648) ≤ (m97 a0 4) ∧ (m97 a0 4) ≤ 2147483647 := zi_rd hIm97 hc0 zb_28_4
                    have e103 : (m97 a0 4) = 1 := (Eq.trans (zs_ne hmm97 (Or.inr (by decide))) (zs_eq hmm95))
                    exact zw_some ⟨hIm97, hFm97, hRCRm97, hRLRm97, hRNSm97, hRTRm97, hRWDm97, ⟨by omega, by omega⟩, by omega, by omega, by omega⟩
              · exfalso; omega
            · exfalso; omega
      · refine zw_bd (zw_eq (zu_call_at (zt_T n) (zm_85 n) (zdp_85 n) _ _ _ _ _ rfl (zr_85_0 n _ _ a0 1 m14)) ?_)
        generalize hmm104 : zu_up m14 a0 4 1 = m104
        have hIm104 := zi_up hmm104 hIm14 hc0 zb_28_4 (by omega) (by omega)
        have hFm104 := zfr_up hmm104 hFm14 hc0 rfl
        have hRCRm104 := zR_CR_fr (zdis_fr (zfr_up hmm104 (zfr_rf [(28, 5)] _) hc0 rfl) rfl) hRCRm14
        have hRNSm104 := zR_NS_fr (zdis_fr (zfr_up hmm104 (zfr_rf [(28, 5)] _) hc0 rfl) rfl) hRNSm14
        have hRTRm104 := zR_TR_fr (zdis_fr (zfr_up hmm104 (zfr_rf [(28, 5)] _) hc0 rfl) rfl) hRTRm14
        have hRWDm104 := zR_WD_fr (zdis_fr (zfr_up hmm104 (zfr_rf [(28, 5)] _) hc0 rfl) rfl) hRWDm14
        have hRLRm104 := zLR_wr (zone_190 hc0) hmm104 (by decide)
        have r105 : 0 ≤ (m104 a0 10) ∧ (m104 a0 10) ≤ 700 := zi_rd hIm104 hc0 zb_28_10
        generalize hmm106 : zu_up m104 a0 5 (m104 a0 10) = m106
        have hIm106 := zi_up hmm106 hIm104 hc0 zb_28_5 (by omega) (by omega)
        have hFm106 := zfr_up hmm106 hFm104 hc0 rfl
        have hRCRm106 := zR_CR_fr (zdis_fr (zfr_up hmm106 (zfr_rf [(28, 6)] _) hc0 rfl) rfl) hRCRm104
        have hRLRm106 := zR_LR_fr (zdis_fr (zfr_up hmm106 (zfr_rf [(28, 6)] _) hc0 rfl) rfl) hRLRm104
        have hRNSm106 := zR_NS_fr (zdis_fr (zfr_up hmm106 (zfr_rf [(28, 6)] _) hc0 rfl) rfl) hRNSm104
        have hRTRm106 := zR_TR_fr (zdis_fr (zfr_up hmm106 (zfr_rf [(28, 6)] _) hc0 rfl) rfl) hRTRm104
        have hRWDm106 := zR_WD_fr (zdis_fr (zfr_up hmm106 (zfr_rf [(28, 6)] _) hc0 rfl) rfl) hRWDm104
        refine zw_b (by omega) ?_
        refine zw_some ?_
        refine zw_b (by omega) ?_
        refine zw_some ?_
        refine zw_ite (fun h107 => ?_) (fun h107 => ?_)
        · exfalso; omega
        · refine zw_b (by omega) ?_
          have r108 : 0 ≤ (m106 a0 7) ∧ (m106 a0 7) ≤ 700 := zi_rd hIm106 hc0 zb_28_7
          have r109 : 0 ≤ (m106 a0 8) ∧ (m106 a0 8) ≤ 6 := zi_rd hIm106 hc0 zb_28_8
          have e110 : (m106 a0 8) = (m14 a0 8) := (Eq.trans (zs_ne hmm106 (Or.inr (by decide))) (zs_ne hmm104 (Or.inr (by decide))))
          have r111 : (-2147483648) ≤ (m106 a0 4) ∧ (m106 a0 4) ≤ 2147483647 := zi_rd hIm106 hc0 zb_28_4
          have e112 : (m106 a0 4) = 1 := (Eq.trans (zs_ne hmm106 (Or.inr (by decide))) (zs_eq hmm104))
          exact zw_some ⟨hIm106, hFm106, hRCRm106, hRLRm106, hRNSm106, hRTRm106, hRWDm106, ⟨by omega, by omega⟩, by omega, by omega, by omega⟩
    · refine zw_bd (zw_eq (zu_call_at (zt_T n) (zm_85 n) (zdp_85 n) _ _ _ _ _ rfl (zr_85_0 n _ _ a0 4 m0)) ?_)
      generalize hmm113 : zu_up m0 a0 4 4 = m113
      have hIm113 := zi_up hmm113 hIm0 hc0 zb_28_4 (by omega) (by omega)
      have hFm113 := zfr_up hmm113 hFm0 hc0 rfl
      have hRCRm113 := zR_CR_fr (zdis_fr (zfr_up hmm113 (zfr_rf [(28, 5)] _) hc0 rfl) rfl) hRCRm0
      have hRNSm113 := zR_NS_fr (zdis_fr (zfr_up hmm113 (zfr_rf [(28, 5)] _) hc0 rfl) rfl) hRNSm0
      have hRTRm113 := zR_TR_fr (zdis_fr (zfr_up hmm113 (zfr_rf [(28, 5)] _) hc0 rfl) rfl) hRTRm0
      have hRWDm113 := zR_WD_fr (zdis_fr (zfr_up hmm113 (zfr_rf [(28, 5)] _) hc0 rfl) rfl) hRWDm0
      have hRLRm113 := zLR_wr (zone_190 hc0) hmm113 (by decide)
      have r114 : 0 ≤ (m113 a0 10) ∧ (m113 a0 10) ≤ 700 := zi_rd hIm113 hc0 zb_28_10
      generalize hmm115 : zu_up m113 a0 5 (m113 a0 10) = m115
      have hIm115 := zi_up hmm115 hIm113 hc0 zb_28_5 (by omega) (by omega)
      have hFm115 := zfr_up hmm115 hFm113 hc0 rfl
      have hRCRm115 := zR_CR_fr (zdis_fr (zfr_up hmm115 (zfr_rf [(28, 6)] _) hc0 rfl) rfl) hRCRm113
      have hRLRm115 := zR_LR_fr (zdis_fr (zfr_up hmm115 (zfr_rf [(28, 6)] _) hc0 rfl) rfl) hRLRm113
      have hRNSm115 := zR_NS_fr (zdis_fr (zfr_up hmm115 (zfr_rf [(28, 6)] _) hc0 rfl) rfl) hRNSm113
      have hRTRm115 := zR_TR_fr (zdis_fr (zfr_up hmm115 (zfr_rf [(28, 6)] _) hc0 rfl) rfl) hRTRm113
      have hRWDm115 := zR_WD_fr (zdis_fr (zfr_up hmm115 (zfr_rf [(28, 6)] _) hc0 rfl) rfl) hRWDm113
      refine zw_b (by omega) ?_
      refine zw_some ?_
      refine zw_b (by omega) ?_
      have r116 : 0 ≤ (m115 a0 7) ∧ (m115 a0 7) ≤ 700 := zi_rd hIm115 hc0 zb_28_7
      have e117 : (m115 a0 7) = (m0 a0 7) := (Eq.trans (zs_ne hmm115 (Or.inr (by decide))) (zs_ne hmm113 (Or.inr (by decide))))
      have r118 : 0 ≤ (m115 a0 8) ∧ (m115 a0 8) ≤ 6 := zi_rd hIm115 hc0 zb_28_8
      have r119 : (-2147483648) ≤ (m115 a0 4) ∧ (m115 a0 4) ≤ 2147483647 := zi_rd hIm115 hc0 zb_28_4
      have e120 : (m115 a0 4) = 4 := (Eq.trans (zs_ne hmm115 (Or.inr (by decide))) (zs_eq hmm113))
      exact zw_some ⟨hIm115, hFm115, hRCRm115, hRLRm115, hRNSm115, hRTRm115, hRWDm115, ⟨by omega, by omega⟩, by omega, by omega, by omega⟩
  · refine zw_bd (zw_eq (zu_call_at (zt_T n) (zm_85 n) (zdp_85 n) _ _ _ _ _ rfl (zr_85_0 n _ _ a0 3 m0)) ?_)
    generalize hmm121 : zu_up m0 a0 4 3 = m121
    have hIm121 := zi_up hmm121 hIm0 hc0 zb_28_4 (by omega) (by omega)
    have hFm121 := zfr_up hmm121 hFm0 hc0 rfl
    have hRCRm121 := zR_CR_fr (zdis_fr (zfr_up hmm121 (zfr_rf [(28, 5)] _) hc0 rfl) rfl) hRCRm0
    have hRNSm121 := zR_NS_fr (zdis_fr (zfr_up hmm121 (zfr_rf [(28, 5)] _) hc0 rfl) rfl) hRNSm0
    have hRTRm121 := zR_TR_fr (zdis_fr (zfr_up hmm121 (zfr_rf [(28, 5)] _) hc0 rfl) rfl) hRTRm0
    have hRWDm121 := zR_WD_fr (zdis_fr (zfr_up hmm121 (zfr_rf [(28, 5)] _) hc0 rfl) rfl) hRWDm0
    have hRLRm121 := zLR_wr (zone_190 hc0) hmm121 (by decide)
    have r122 : 0 ≤ (m121 a0 10) ∧ (m121 a0 10) ≤ 700 := zi_rd hIm121 hc0 zb_28_10
    generalize hmm123 : zu_up m121 a0 5 (m121 a0 10) = m123
    have hIm123 := zi_up hmm123 hIm121 hc0 zb_28_5 (by omega) (by omega)
    have hFm123 := zfr_up hmm123 hFm121 hc0 rfl
    have hRCRm123 := zR_CR_fr (zdis_fr (zfr_up hmm123 (zfr_rf [(28, 6)] _) hc0 rfl) rfl) hRCRm121
    have hRLRm123 := zR_LR_fr (zdis_fr (zfr_up hmm123 (zfr_rf [(28, 6)] _) hc0 rfl) rfl) hRLRm121
    have hRNSm123 := zR_NS_fr (zdis_fr (zfr_up hmm123 (zfr_rf [(28, 6)] _) hc0 rfl) rfl) hRNSm121
    have hRTRm123 := zR_TR_fr (zdis_fr (zfr_up hmm123 (zfr_rf [(28, 6)] _) hc0 rfl) rfl) hRTRm121
    have hRWDm123 := zR_WD_fr (zdis_fr (zfr_up hmm123 (zfr_rf [(28, 6)] _) hc0 rfl) rfl) hRWDm121
    refine zw_b (by omega) ?_
    refine zw_some ?_
    refine zw_b (by omega) ?_
    have r124 : 0 ≤ (m123 a0 7) ∧ (m123 a0 7) ≤ 700 := zi_rd hIm123 hc0 zb_28_7
    have e125 : (m123 a0 7) = (m0 a0 7) := (Eq.trans (zs_ne hmm123 (Or.inr (by decide))) (zs_ne hmm121 (Or.inr (by decide))))
    have r126 : 0 ≤ (m123 a0 8) ∧ (m123 a0 8) ≤ 6 := zi_rd hIm123 hc0 zb_28_8
    have r127 : (-2147483648) ≤ (m123 a0 4) ∧ (m123 a0 4) ≤ 2147483647 := zi_rd hIm123 hc0 zb_28_4
    have e128 : (m123 a0 4) = 3 := (Eq.trans (zs_ne hmm123 (Or.inr (by decide))) (zs_eq hmm121))
    exact zw_some ⟨hIm123, hFm123, hRCRm123, hRLRm123, hRNSm123, hRTRm123, hRWDm123, ⟨by omega, by omega⟩, by omega, by omega, by omega⟩

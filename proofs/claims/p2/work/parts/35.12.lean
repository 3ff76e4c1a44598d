set_option maxHeartbeats 4000000 in
theorem zk_55 (n : Nat) {a0 a1 a2 : Int} {m0 : zu_m} (hIm0 : zi_I m0) (hc0 : zcls a0 = 2) (ha1 : (-2147483648) ≤ a1 ∧ a1 ≤ 2147483647) (ha2 : (-2147483648) ≤ a2 ∧ a2 ≤ 2147483647)    (hRE89m0 : zE m0 89 50) (hRUNm0 : zR_UN m0) (hRUWm0 : zR_UW m0) : zw (zu_call (zt_T n) 55 [(5, a0), (0, a1), (0, a2)] m0) (fun v m => zi_I m ∧ zfr [(18, 2), (23, 5), (81, 0), (82, 0), (83, 0), (84, 0)] m0 m ∧ zE m 89 50 ∧ zR_UN m ∧ zR_UW m ∧ (0 ≤ v ∧ v ≤ 1)) := by
  have hFm0 : zfr [(18, 2), (23, 5), (81, 0), (82, 0), (83, 0), (84, 0)] m0 m0 := zfr_rf _ _
  refine zw_eq (zu_call_at (zt_T n) (zm_55 n) (zdp_55 n) _ _ _ _ _ rfl (zr_55_0 n _ _ a0 a1 a2 m0)) ?_
  refine zw_bd (zw_eq (zu_call_at (zt_T n) (zm_211 n) (zdp_211 n) _ _ _ _ _ rfl (zr_211_0 n _ _ 89 a1 m0)) ?_)
  refine zw_ite (fun h1 => ?_) (fun h1 => ?_)
  · refine zw_b (by omega) ?_
    refine zw_some ?_
    refine zw_ite (fun h2 => ?_) (fun h2 => ?_)
    · refine zw_b (by omega) ?_
      exact zw_some ⟨hIm0, hFm0, hRE89m0, hRUNm0, hRUWm0, ⟨by omega, by omega⟩⟩
    · exfalso; omega
  · have r3 : 0 ≤ (m0 89 4) ∧ (m0 89 4) ≤ 4 := zi_rd hIm0 zq_89 zb_16_4
    refine zw_ite (fun h4 => ?_) (fun h4 => ?_)
    · refine zw_b (by omega) ?_
      refine zw_some ?_
      refine zw_ite (fun h5 => ?_) (fun h5 => ?_)
      · refine zw_b (by omega) ?_
        exact zw_some ⟨hIm0, hFm0, hRE89m0, hRUNm0, hRUWm0, ⟨by omega, by omega⟩⟩
      · exfalso; omega
    · refine zw_b (by omega) ?_
      refine zw_some ?_
      refine zw_ite (fun h6 => ?_) (fun h6 => ?_)
      · exfalso; omega
      · refine zw_bd (zw_eq (zu_call_at (zt_T n) (zm_244 n) (zdp_244 n) _ _ _ _ _ rfl (zr_244_0 n _ _ 50 a2 m0)) ?_)
        refine zw_ite (fun h7 => ?_) (fun h7 => ?_)
        · refine zw_b (by omega) ?_
          refine zw_some ?_
          refine zw_ite (fun h8 => ?_) (fun h8 => ?_)
          · exfalso; omega
          · refine zw_b (by omega) ?_
            exact zw_some ⟨hIm0, hFm0, hRE89m0, hRUNm0, hRUWm0, ⟨by omega, by omega⟩⟩
        · have r9 : 1 ≤ (m0 50 2) ∧ (m0 50 2) ≤ 48 := zi_rd hIm0 zq_50 zb_11_2
          refine zw_ite (fun h10 => ?_) (fun h10 => ?_)
          · refine zw_b (by omega) ?_
            refine zw_some ?_
            refine zw_ite (fun h11 => ?_) (fun h11 => ?_)
            · exfalso; omega
            · refine zw_b (by omega) ?_
              exact zw_some ⟨hIm0, hFm0, hRE89m0, hRUNm0, hRUWm0, ⟨by omega, by omega⟩⟩
          · refine zw_b (by omega) ?_
            refine zw_some ?_
            refine zw_ite (fun h12 => ?_) (fun h12 => ?_)
            · have b13 : 0 ≤ a1 ∧ a1 < 4 := by omega
              refine zw_if b13 ?_
              have r14 : 0 ≤ (m0 ((89 + 2) + 20 + a1) 1) ∧ (m0 ((89 + 2) + 20 + a1) 1) ≤ 47 := zi_rd hIm0 (zc_66_e (zc_16_3 zq_89) b13) zb_18_1
              refine zw_ite (fun h15 => ?_) (fun h15 => ?_)
              · have s16 := zE_rd (A := ((89 + 2) + 20 + a1)) hRE89m0 rfl (c := a1) (by omega) (by omega) (by omega) (by omega)
                refine zw_bd (zw_eq (zu_call_at (zt_T n) (zm_309 n) (zdp_309 n) _ _ _ _ _ rfl (zr_309_0 n _ _ 148 a1 (m0 ((89 + 2) + 20 + a1) 1) m0)) ?_)
                have r17 : 0 ≤ (m0 89 2) ∧ (m0 89 2) ≤ 16 := zi_rd hIm0 zq_89 zb_16_2
                have hus : zUN m0 0 := hRUNm0
                refine zw_bd (zw_mono (zk_305 n hIm0 zq_148 ⟨by omega, by omega⟩ ⟨by omega, by omega⟩ ⟨by omega, by omega⟩ ⟨by omega, by omega⟩ (by omega) hRUWm0) (fun v19 m18 hqm18 => ?_))
                obtain ⟨hIm18, hfm18, hvm18⟩ := hqm18
                have hFm18 := zfr_tr hFm0 hfm18 rfl
                obtain ⟨hRUWm18, hvm18⟩ := hvm18
                have hRE89m18 := zR_E89_fr (zdis_fr hfm18 rfl) hRE89m0
                have z20 := zdl_v 2
                have hum18 := (hvm18.2.2) 0 hus (by omega) (by omega)
                have hRUNm18 : zR_UN m18 := zUN_cast hum18 (by omega)
                refine zw_some ?_
                generalize hmm21 : zu_up m18 ((89 + 2) + 20 + a1) 1 a2 = m21
                have hIm21 := zi_up hmm21 hIm18 (zc_66_e (zc_16_3 zq_89) b13) zb_18_1 (by omega) (by omega)
                have hFm21 := zfr_up hmm21 hFm18 (zc_66_e (zc_16_3 zq_89) b13) rfl
                have hRUNm21 := zR_UN_fr (zdis_fr (zfr_up hmm21 (zfr_rf [(18, 2)] _) (zc_66_e (zc_16_3 zq_89) b13) rfl) rfl) hRUNm18
                have hRUWm21 := zR_UW_fr (zdis_fr (zfr_up hmm21 (zfr_rf [(18, 2)] _) (zc_66_e (zc_16_3 zq_89) b13) rfl) rfl) hRUWm18
                have r22 : 1 ≤ (m18 50 2) ∧ (m18 50 2) ≤ 48 := zi_rd hIm18 zq_50 zb_11_2
                have e23 : (m18 50 2) = (m0 50 2) := (zfr_ap hfm18 zq_50 rfl)
                have hRE89m21 : zE m21 89 50 := zE_up hmm21 (by omega) hRE89m18
                refine zw_b (by omega) ?_
                exact zw_some ⟨hIm21, hFm21, hRE89m21, hRUNm21, hRUWm21, ⟨by omega, by omega⟩⟩
              · refine zw_b (by omega) ?_
                exact zw_some ⟨hIm0, hFm0, hRE89m0, hRUNm0, hRUWm0, ⟨by omega, by omega⟩⟩
            · exfalso; omega
set_option maxHeartbeats 4000000 in
theorem zk_56 (n : Nat) {a0 a1 : Int} {m0 : zu_m} (hIm0 : zi_I m0) (hc0 : zcls a0 = 2) (ha1 : (-2147483648) ≤ a1 ∧ a1 ≤ 2147483647)    (hRUNm0 : zR_UN m0) (hRUWm0 : zR_UW m0) : zw (zu_call (zt_T n) 56 [(5, a0), (0, a1)] m0) (fun v m => zi_I m ∧ zfr [(16, 11), (23, 5), (81, 0), (82, 0), (83, 0), (84, 0)] m0 m ∧ zR_UN m ∧ zR_UW m ∧ (0 ≤ v ∧ v ≤ 1)) := by
  have hFm0 : zfr [(16, 11), (23, 5), (81, 0), (82, 0), (83, 0), (84, 0)] m0 m0 := zfr_rf _ _
  refine zw_eq (zu_call_at (zt_T n) (zm_56 n) (zdp_56 n) _ _ _ _ _ rfl (zr_56_0 n _ _ a0 a1 m0)) ?_
  refine zw_ite (fun h1 => ?_) (fun h1 => ?_)
  · refine zw_b (by omega) ?_
    exact zw_some ⟨hIm0, hFm0, hRUNm0, hRUWm0, ⟨by omega, by omega⟩⟩
  · refine zw_ite (fun h2 => ?_) (fun h2 => ?_)
    · refine zw_b (by omega) ?_
      exact zw_some ⟨hIm0, hFm0, hRUNm0, hRUWm0, ⟨by omega, by omega⟩⟩
    · have r3 : 0 ≤ (m0 89 10) ∧ (m0 89 10) ≤ 3 := zi_rd hIm0 zq_89 zb_16_10
      refine zw_ite (fun h4 => ?_) (fun h4 => ?_)
      · refine zw_bd (zw_eq (zu_call_at (zt_T n) (zm_310 n) (zdp_310 n) _ _ _ _ _ rfl (zr_310_0 n _ _ 148 (m0 89 10) m0)) ?_)
        have r5 : 0 ≤ (m0 89 2) ∧ (m0 89 2) ≤ 16 := zi_rd hIm0 zq_89 zb_16_2
        have hus : zUN m0 0 := hRUNm0
        have r6 : 1 ≤ (m0 50 2) ∧ (m0 50 2) ≤ 48 := zi_rd hIm0 zq_50 zb_11_2
        refine zw_bd (zw_mono (zk_305 n hIm0 zq_148 ⟨by omega, by omega⟩ ⟨by omega, by omega⟩ ⟨by omega, by omega⟩ ⟨by omega, by omega⟩ (by omega) hRUWm0) (fun v8 m7 hqm7 => ?_))
        obtain ⟨hIm7, hfm7, hvm7⟩ := hqm7
        have hFm7 := zfr_tr hFm0 hfm7 rfl
        obtain ⟨hRUWm7, hvm7⟩ := hvm7
        have z9 := zdl_v 3
        have hum7 := (hvm7.2.2) 0 hus (by omega) (by omega)
        have hRUNm7 : zR_UN m7 := zUN_cast hum7 (by omega)
        refine zw_some ?_
        generalize hmm10 : zu_up m7 89 10 a1 = m10
        have hIm10 := zi_up hmm10 hIm7 zq_89 zb_16_10 (by omega) (by omega)
        have hFm10 := zfr_up hmm10 hFm7 zq_89 rfl
        have hRUNm10 := zR_UN_fr (zdis_fr (zfr_up hmm10 (zfr_rf [(16, 11)] _) zq_89 rfl) rfl) hRUNm7
        have hRUWm10 := zR_UW_fr (zdis_fr (zfr_up hmm10 (zfr_rf [(16, 11)] _) zq_89 rfl) rfl) hRUWm7
        refine zw_b (by omega) ?_
        exact zw_some ⟨hIm10, hFm10, hRUNm10, hRUWm10, ⟨by omega, by omega⟩⟩
      · refine zw_b (by omega) ?_
        exact zw_some ⟨hIm0, hFm0, hRUNm0, hRUWm0, ⟨by omega, by omega⟩⟩
set_option maxHeartbeats 4000000 in
theorem zk_60 (n : Nat) {a0 a1 a2 : Int} {m0 : zu_m} (hIm0 : zi_I m0) (hc0 : zcls a0 = 2) (ha1 : (-2147483648) ≤ a1 ∧ a1 ≤ 2147483647) (ha2 : (-2147483648) ≤ a2 ∧ a2 ≤ 2147483647)     : zw (zu_call (zt_T n) 60 [(5, a0), (0, a1), (0, a2)] m0) (fun v m => zi_I m ∧ zfr [(25, 3), (25, 5), (25, 9), (25, 10), (25, 11), (25, 12), (26, 1), (26, 2), (26, 3), (26, 4), (27, 1), (27, 2), (27, 3), (27, 4), (27, 5), (27, 6), (27, 7), (27, 8), (97, 0), (98, 0)] m0 m ∧ ((-1) ≤ v ∧ v ≤ 40)) := by
  have hFm0 : zfr [(25, 3), (25, 5), (25, 9), (25, 10), (25, 11), (25, 12), (26, 1), (26, 2), (26, 3), (26, 4), (27, 1), (27, 2), (27, 3), (27, 4), (27, 5), (27, 6), (27, 7), (27, 8), (97, 0), (98, 0)] m0 m0 := zfr_rf _ _
  refine zw_eq (zu_call_at (zt_T n) (zm_60 n) (zdp_60 n) _ _ _ _ _ rfl (zr_60_0 n _ _ a0 a1 a2 m0)) ?_
  refine zw_bd (zw_eq (zu_call_at (zt_T n) (zm_211 n) (zdp_211 n) _ _ _ _ _ rfl (zr_211_0 n _ _ 89 a1 m0)) ?_)
  refine zw_ite (fun h1 => ?_) (fun h1 => ?_)
  · refine zw_b (by omega) ?_
    refine zw_some ?_
    refine zw_ite (fun h2 => ?_) (fun h2 => ?_)
    · exact zw_some ⟨hIm0, hFm0, ⟨by omega, by omega⟩⟩
    · exfalso; omega
  · have r3 : 0 ≤ (m0 89 4) ∧ (m0 89 4) ≤ 4 := zi_rd hIm0 zq_89 zb_16_4
    refine zw_ite (fun h4 => ?_) (fun h4 => ?_)
    · refine zw_b (by omega) ?_
      refine zw_some ?_
      refine zw_ite (fun h5 => ?_) (fun h5 => ?_)
      · exact zw_some ⟨hIm0, hFm0, ⟨by omega, by omega⟩⟩
      · exfalso; omega
    · refine zw_b (by omega) ?_
      refine zw_some ?_
      refine zw_ite (fun h6 => ?_) (fun h6 => ?_)
      · exfalso; omega
      · refine zw_ite (fun h7 => ?_) (fun h7 => ?_)
        · exact zw_some ⟨hIm0, hFm0, ⟨by omega, by omega⟩⟩
        · refine zw_ite (fun h8 => ?_) (fun h8 => ?_)
          · refine zw_bd (zw_mono (zk_284 n hIm0 zq_153 ⟨by omega, by omega⟩ ⟨by omega, by omega⟩ ⟨by omega, by omega⟩) (fun v10 m9 hqm9 => ?_))
            obtain ⟨hIm9, hfm9, hvm9⟩ := hqm9
            have hFm9 := zfr_tr hFm0 hfm9 rfl
            exact zw_some ⟨hIm9, hFm9, ⟨by omega, by omega⟩⟩
          · exact zw_some ⟨hIm0, hFm0, ⟨by omega, by omega⟩⟩
set_option maxHeartbeats 4000000 in
theorem zk_65 (n : Nat) {a0 : Int} {m0 : zu_m} (hIm0 : zi_I m0) (hc0 : zcls a0 = 2)      : zw (zu_call (zt_T n) 65 [(5, a0)] m0) (fun v m => zi_I m ∧ zfr [(24, 19), (93, 0), (94, 0)] m0 m ∧ (0 ≤ v ∧ v ≤ 16)) := by
  have hFm0 : zfr [(24, 19), (93, 0), (94, 0)] m0 m0 := zfr_rf _ _
  refine zw_eq (zu_call_at (zt_T n) (zm_65 n) (zdp_65 n) _ _ _ _ _ rfl (zr_65_0 n _ _ a0 m0)) ?_
  refine zw_bd (zw_mono (zk_294 n hIm0 zq_153) (fun v2 m1 hqm1 => ?_))
  obtain ⟨hIm1, hfm1, hvm1⟩ := hqm1
  have hFm1 := zfr_tr hFm0 hfm1 rfl
  exact zw_some ⟨hIm1, hFm1, ⟨by omega, by omega⟩⟩
set_option maxHeartbeats 4000000 in
theorem zk_66 (n : Nat) {a0 a1 : Int} {m0 : zu_m} (hIm0 : zi_I m0) (hc0 : zcls a0 = 2) (ha1 : (-2147483648) ≤ a1 ∧ a1 ≤ 2147483647)     : zw (zu_call (zt_T n) 66 [(5, a0), (0, a1)] m0) (fun v m => zi_I m ∧ zfr [(24, 19), (93, 0), (94, 0)] m0 m ∧ ((-2147483648) ≤ v ∧ v ≤ 2147483647)) := by
  have hFm0 : zfr [(24, 19), (93, 0), (94, 0)] m0 m0 := zfr_rf _ _
  refine zw_eq (zu_call_at (zt_T n) (zm_66 n) (zdp_66 n) _ _ _ _ _ rfl (zr_66_0 n _ _ a0 a1 m0)) ?_
  refine zw_ite (fun h1 => ?_) (fun h1 => ?_)
  · refine zw_bd (zw_mono (zk_294 n hIm0 zq_153) (fun v3 m2 hqm2 => ?_))
    obtain ⟨hIm2, hfm2, hvm2⟩ := hqm2
    have hFm2 := zfr_tr hFm0 hfm2 rfl
    refine zw_ite (fun h4 => ?_) (fun h4 => ?_)
    · exact zw_some ⟨hIm2, hFm2, ⟨by omega, by omega⟩⟩
    · have b5 : 0 ≤ a1 ∧ a1 < 16 := by omega
      refine zw_if b5 ?_
      have r6 : (-2147483648) ≤ (m2 163 a1) ∧ (m2 163 a1) ≤ 2147483647 := zi_rd hIm2 zq_163 (zb_94 _)
      exact zw_some ⟨hIm2, hFm2, ⟨by omega, by omega⟩⟩
  · exact zw_some ⟨hIm0, hFm0, ⟨by omega, by omega⟩⟩
set_option maxHeartbeats 4000000 in
theorem zk_99 (n : Nat) {a0 : Int} {m0 : zu_m} (hIm0 : zi_I m0) (hc0 : zcls a0 = 28)     (hRCRm0 : zR_CR m0) (hRLRm0 : zR_LR m0) (hRNSm0 : zR_NS m0) (hRTRm0 : zR_TR m0) (hRWDm0 : zR_WD m0) : zw (zu_call (zt_T n) 99 [(40, a0)] m0) (fun v m => zi_I m ∧ zfr [(28, 5), (28, 6), (28, 8), (28, 9), (28, 10), (28, 11), (28, 12), (28, 18), (28, 19), (102, 0)] m0 m ∧ zR_CR m ∧ zR_LR m ∧ zR_NS m ∧ zR_TR m ∧ zR_WD m ∧ (0 ≤ v ∧ v ≤ 1) ∧ ((m0 a0 7) ≤ (m a0 7)) ∧ (v = 1 → ((m a0 8) = 0 ∨ (m0 a0 7) < (m a0 7))) ∧ (v = 1 → (m a0 4) = (m0 a0 4))) := by
  have hFm0 : zfr [(28, 5), (28, 6), (28, 8), (28, 9), (28, 10), (28, 11), (28, 12), (28, 18), (28, 19), (102, 0)] m0 m0 := zfr_rf _ _
  have r1 : 0 ≤ (m0 a0 7) ∧ (m0 a0 7) ≤ 700 := zi_rd hIm0 hc0 zb_28_7
  have r2 : (-2147483648) ≤ (m0 a0 4) ∧ (m0 a0 4) ≤ 2147483647 := zi_rd hIm0 hc0 zb_28_4
  have s3 := hRNSm0 a0 hc0
  have s4 := hRTRm0 a0 hc0
  refine zw_eq (zu_call_at (zt_T n) (zm_99 n) (zdp_99 n) _ _ _ _ _ rfl (zr_99_0 n _ _ a0 m0)) ?_
  have b5 : 0 ≤ (0 : Int) ∧ (0 : Int) < 6 := by omega
  refine zw_if b5 ?_
  have r6 : 0 ≤ (m0 193 0) ∧ (m0 193 0) ≤ 1 := zi_rd hIm0 zq_193 (zb_102 _)
  refine zw_ite (fun h7 => ?_) (fun h7 => ?_)
  · have r8 : 0 ≤ (m0 a0 23) ∧ (m0 a0 23) ≤ 1 := zi_rd hIm0 hc0 zb_28_23
    refine zw_ite (fun h9 => ?_) (fun h9 => ?_)
    · have r10 : 0 ≤ (m0 a0 20) ∧ (m0 a0 20) ≤ 4 := zi_rd hIm0 hc0 zb_28_20
      have s11 := zCR_ap (zone_190 hc0) hRCRm0
      refine zw_b (by omega) ?_
      have b12 : 0 ≤ (0 : Int) ∧ (0 : Int) < 6 := by omega
      refine zw_if b12 ?_
      generalize hmm13 : zu_up m0 193 0 1 = m13
      have hIm13 := zi_up hmm13 hIm0 zq_193 (zb_102 _) (by omega) (by omega)
      have hFm13 := zfr_up hmm13 hFm0 zq_193 rfl
      have hRCRm13 := zR_CR_fr (zdis_fr (zfr_up hmm13 (zfr_rf [(102, 0)] _) zq_193 rfl) rfl) hRCRm0
      have hRLRm13 := zR_LR_fr (zdis_fr (zfr_up hmm13 (zfr_rf [(102, 0)] _) zq_193 rfl) rfl) hRLRm0
      have hRNSm13 := zR_NS_fr (zdis_fr (zfr_up hmm13 (zfr_rf [(102, 0)] _) zq_193 rfl) rfl) hRNSm0
      have hRTRm13 := zR_TR_fr (zdis_fr (zfr_up hmm13 (zfr_rf [(102, 0)] _) zq_193 rfl) rfl) hRTRm0
      have hRWDm13 := zR_WD_fr (zdis_fr (zfr_up hmm13 (zfr_rf [(102, 0)] _) zq_193 rfl) rfl) hRWDm0
      have r16 : 0 ≤ (m13 a0 7) ∧ (m13 a0 7) ≤ 700 := zi_rd hIm13 hc0 zb_28_7
      have e17 : (m13 a0 7) = (m0 a0 7) := (zs_ne hmm13 (Or.inl (zc_ne hc0 zq_193 (by decide))))
      refine zw_bd (zw_mono (zk_89 n hIm13 hc0 hRNSm13 hRWDm13) (fun v15 m14 hqm14 => ?_))
      obtain ⟨hIm14, hfm14, hvm14⟩ := hqm14
      have hFm14 := zfr_tr hFm13 hfm14 rfl
      obtain ⟨hRNSm14, hRTRm14, hRWDm14, hvm14⟩ := hvm14
      have hRCRm14 := zR_CR_fr (zdis_fr hfm14 rfl) hRCRm13
      have hRLRm14 := zR_LR_fr (zdis_fr hfm14 rfl) hRLRm13
      have s18 := hRNSm14 a0 hc0
      have s19 := hRTRm14 a0 hc0
      have r20 : 0 ≤ (m14 a0 7) ∧ (m14 a0 7) ≤ 700 := zi_rd hIm14 hc0 zb_28_7
      have r21 : 0 ≤ (m14 a0 8) ∧ (m14 a0 8) ≤ 6 := zi_rd hIm14 hc0 zb_28_8
      refine zw_bd (zw_eq (zu_call_at (zt_T n) (zm_94 n) (zdp_94 n) _ _ _ _ _ rfl (zr_94_0 n _ _ a0 1 8 m14)) ?_)
      refine zw_ite (fun h22 => ?_) (fun h22 => ?_)
      · refine zw_bd (zw_eq (zu_call_at (zt_T n) (zm_83 n) (zdp_83 n) _ _ _ _ _ rfl (zr_83_0 n _ _ (m14 a0 9) 1 8 m14)) ?_)
        refine zw_ite (fun h23 => ?_) (fun h23 => ?_)
        · refine zw_b (by omega) ?_
          refine zw_some ?_
          refine zw_ite (fun h24 => ?_) (fun h24 => ?_)
          · exfalso; omega
          · refine zw_bd (zw_eq (zu_call_at (zt_T n) (zm_85 n) (zdp_85 n) _ _ _ _ _ rfl (zr_85_0 n _ _ a0 2 m14)) ?_)
            generalize hmm25 : zu_up m14 a0 4 2 = m25
            have hIm25 := zi_up hmm25 hIm14 hc0 zb_28_4 (by omega) (by omega)
            have hFm25 := zfr_up hmm25 hFm14 hc0 rfl
            have hRCRm25 := zR_CR_fr (zdis_fr (zfr_up hmm25 (zfr_rf [(28, 5)] _) hc0 rfl) rfl) hRCRm14
            have hRNSm25 := zR_NS_fr (zdis_fr (zfr_up hmm25 (zfr_rf [(28, 5)] _) hc0 rfl) rfl) hRNSm14
            have hRTRm25 := zR_TR_fr (zdis_fr (zfr_up hmm25 (zfr_rf [(28, 5)] _) hc0 rfl) rfl) hRTRm14
            have hRWDm25 := zR_WD_fr (zdis_fr (zfr_up hmm25 (zfr_rf [(28, 5)] _) hc0 rfl) rfl) hRWDm14
            have hRLRm25 := zLR_wr (zone_190 hc0) hmm25 (by decide)
            have r26 : 0 ≤ (m25 a0 10) ∧ (m25 a0 10) ≤ 700 := zi_rd hIm25 hc0 zb_28_10
            generalize hmm27 : zu_up m25 a0 5 (m25 a0 10) = m27
            have hIm27 := zi_up hmm27 hIm25 hc0 zb_28_5 (by omega) (by omega)
            have hFm27 := zfr_up hmm27 hFm25 hc0 rfl
            have hRCRm27 := zR_CR_fr (zdis_fr (zfr_up hmm27 (zfr_rf [(28, 6)] _) hc0 rfl) rfl) hRCRm25
            have hRLRm27 := zR_LR_fr (zdis_fr (zfr_up hmm27 (zfr_rf [(28, 6)] _) hc0 rfl) rfl) hRLRm25
            have hRNSm27 := zR_NS_fr (zdis_fr (zfr_up hmm27 (zfr_rf [(28, 6)] _) hc0 rfl) rfl) hRNSm25
            have hRTRm27 := zR_TR_fr (zdis_fr (zfr_up hmm27 (zfr_rf [(28, 6)] _) hc0 rfl) rfl) hRTRm25
            have hRWDm27 := zR_WD_fr (zdis_fr (zfr_up hmm27 (zfr_rf [(28, 6)] _) hc0 rfl) rfl) hRWDm25
            refine zw_b (by omega) ?_
            refine zw_some ?_
            refine zw_b (by omega) ?_
            refine zw_some ?_
            refine zw_ite (fun h28 => ?_) (fun h28 => ?_)
            · exfalso; omega
            · refine zw_b (by omega) ?_
              have r29 : 0 ≤ (m27 a0 7) ∧ (m27 a0 7) ≤ 700 := zi_rd hIm27 hc0 zb_28_7
              have e30 : (m27 a0 7) = (m14 a0 7) := (Eq.trans (zs_ne hmm27 (Or.inr (by decide))) (zs_ne hmm25 (Or.inr (by decide))))
              have r31 : 0 ≤ (m27 a0 8) ∧ (m27 a0 8) ≤ 6 := zi_rd hIm27 hc0 zb_28_8
              have e32 : (m27 a0 8) = (m14 a0 8) := (Eq.trans (zs_ne hmm27 (Or.inr (by decide))) (zs_ne hmm25 (Or.inr (by decide))))
              have r33 : (-2147483648) ≤ (m27 a0 4) ∧ (m27 a0 4) ≤ 2147483647 := zi_rd hIm27 hc0 zb_28_4
              have e34 : (m27 a0 4) = 2 := (Eq.trans (zs_ne hmm27 (Or.inr (by decide))) (zs_eq hmm25))
              exact zw_some ⟨hIm27, hFm27, hRCRm27, hRLRm27, hRNSm27, hRTRm27, hRWDm27, ⟨by omega, by omega⟩, by omega, by omega, by omega⟩
        · refine zw_ite (fun h35 => ?_) (fun h35 => ?_)
          · refine zw_b (by omega) ?_
            refine zw_some ?_
            refine zw_ite (fun h36 => ?_) (fun h36 => ?_)
            · exfalso; omega
            · refine zw_bd (zw_eq (zu_call_at (zt_T n) (zm_85 n) (zdp_85 n) _ _ _ _ _ rfl (zr_85_0 n _ _ a0 2 m14)) ?_)
              generalize hmm37 : zu_up m14 a0 4 2 = m37
              have hIm37 := zi_up hmm37 hIm14 hc0 zb_28_4 (by omega) (by omega)
              have hFm37 := zfr_up hmm37 hFm14 hc0 rfl
              have hRCRm37 := zR_CR_fr (zdis_fr (zfr_up hmm37 (zfr_rf [(28, 5)] _) hc0 rfl) rfl) hRCRm14
              have hRNSm37 := zR_NS_fr (zdis_fr (zfr_up hmm37 (zfr_rf [(28, 5)] _) hc0 rfl) rfl) hRNSm14
              have hRTRm37 := zR_TR_fr (zdis_fr (zfr_up hmm37 (zfr_rf [(28, 5)] _) hc0 rfl) rfl) hRTRm14
              have hRWDm37 := zR_WD_fr (zdis_fr (zfr_up hmm37 (zfr_rf [(28, 5)] _) hc0 rfl) rfl) hRWDm14
              have hRLRm37 := zLR_wr (zone_190 hc0) hmm37 (by decide)
              have r38 : 0 ≤ (m37 a0 10) ∧ (m37 a0 10) ≤ 700 := zi_rd hIm37 hc0 zb_28_10
              generalize hmm39 : zu_up m37 a0 5 (m37 a0 10) = m39
              have hIm39 := zi_up hmm39 hIm37 hc0 zb_28_5 (by omega) (by omega)
              have hFm39 := zfr_up hmm39 hFm37 hc0 rfl
              have hRCRm39 := zR_CR_fr (zdis_fr (zfr_up hmm39 (zfr_rf [(28, 6)] _) hc0 rfl) rfl) hRCRm37
              have hRLRm39 := zR_LR_fr (zdis_fr (zfr_up hmm39 (zfr_rf [(28, 6)] _) hc0 rfl) rfl) hRLRm37
              have hRNSm39 := zR_NS_fr (zdis_fr (zfr_up hmm39 (zfr_rf [(28, 6)] _) hc0 rfl) rfl) hRNSm37
              have hRTRm39 := zR_TR_fr (zdis_fr (zfr_up hmm39 (zfr_rf [(28, 6)] _) hc0 rfl) rfl) hRTRm37
              have hRWDm39 := zR_WD_fr (zdis_fr (zfr_up hmm39 (zfr_rf [(28, 6)] _) hc0 rfl) rfl) hRWDm37
              refine zw_b (by omega) ?_
              refine zw_some ?_
              refine zw_b (by omega) ?_
              refine zw_some ?_
              refine zw_ite (fun h40 => ?_) (fun h40 => ?_)
              · exfalso; omega
              · refine zw_b (by omega) ?_
                have r41 : 0 ≤ (m39 a0 7) ∧ (m39 a0 7) ≤ 700 := zi_rd hIm39 hc0 zb_28_7
                have e42 : (m39 a0 7) = (m14 a0 7) := (Eq.trans (zs_ne hmm39 (Or.inr (by decide))) (zs_ne hmm37 (Or.inr (by decide))))
                have r43 : 0 ≤ (m39 a0 8) ∧ (m39 a0 8) ≤ 6 := zi_rd hIm39 hc0 zb_28_8
                have e44 : (m39 a0 8) = (m14 a0 8) := (Eq.trans (zs_ne hmm39 (Or.inr (by decide))) (zs_ne hmm37 (Or.inr (by decide))))
                have r45 : (-2147483648) ≤ (m39 a0 4) ∧ (m39 a0 4) ≤ 2147483647 := zi_rd hIm39 hc0 zb_28_4
                have e46 : (m39 a0 4) = 2 := (Eq.trans (zs_ne hmm39 (Or.inr (by decide))) (zs_eq hmm37))
                exact zw_some ⟨hIm39, hFm39, hRCRm39, hRLRm39, hRNSm39, hRTRm39, hRWDm39, ⟨by omega, by omega⟩, by omega, by omega, by omega⟩
          · refine zw_b (by omega) ?_
            refine zw_some ?_
            refine zw_ite (fun h47 => ?_) (fun h47 => ?_)
            · generalize hmm48 : zu_up m14 a0 11 (m14 a0 9) = m48
              have hIm48 := zi_up hmm48 hIm14 hc0 zb_28_11 (by omega) (by omega)
              have hFm48 := zfr_up hmm48 hFm14 hc0 rfl
              have hRCRm48 := zR_CR_fr (zdis_fr (zfr_up hmm48 (zfr_rf [(28, 12)] _) hc0 rfl) rfl) hRCRm14
              have hRLRm48 := zR_LR_fr (zdis_fr (zfr_up hmm48 (zfr_rf [(28, 12)] _) hc0 rfl) rfl) hRLRm14
              have hRNSm48 := zR_NS_fr (zdis_fr (zfr_up hmm48 (zfr_rf [(28, 12)] _) hc0 rfl) rfl) hRNSm14
              have hRTRm48 := zR_TR_fr (zdis_fr (zfr_up hmm48 (zfr_rf [(28, 12)] _) hc0 rfl) rfl) hRTRm14
              have hRWDm48 := zR_WD_fr (zdis_fr (zfr_up hmm48 (zfr_rf [(28, 12)] _) hc0 rfl) rfl) hRWDm14
              have r51 : 0 ≤ (m48 a0 7) ∧ (m48 a0 7) ≤ 700 := zi_rd hIm48 hc0 zb_28_7
              have e52 : (m48 a0 7) = (m14 a0 7) := (zs_ne hmm48 (Or.inr (by decide)))
              refine zw_bd (zw_mono (zk_89 n hIm48 hc0 hRNSm48 hRWDm48) (fun v50 m49 hqm49 => ?_))
              obtain ⟨hIm49, hfm49, hvm49⟩ := hqm49
              have hFm49 := zfr_tr hFm48 hfm49 rfl
              obtain ⟨hRNSm49, hRTRm49, hRWDm49, hvm49⟩ := hvm49
              have hRCRm49 := zR_CR_fr (zdis_fr hfm49 rfl) hRCRm48
              have hRLRm49 := zR_LR_fr (zdis_fr hfm49 rfl) hRLRm48
              have s53 := hRNSm49 a0 hc0
              have s54 := hRTRm49 a0 hc0
              have r55 : 0 ≤ (m49 a0 7) ∧ (m49 a0 7) ≤ 700 := zi_rd hIm49 hc0 zb_28_7
              have r56 : 0 ≤ (m49 a0 8) ∧ (m49 a0 8) ≤ 6 := zi_rd hIm49 hc0 zb_28_8
              refine zw_b (by omega) ?_
              refine zw_some ?_
              refine zw_ite (fun h57 => ?_) (fun h57 => ?_)
              · have r58 : (-2147483648) ≤ (m49 a0 11) ∧ (m49 a0 11) ≤ 2147483647 := zi_rd hIm49 hc0 zb_28_11
                have e59 : (m49 a0 11) = (m14 a0 9) := (Eq.trans (zfr_ap hfm49 hc0 rfl) (zs_eq hmm48))
                generalize hmm60 : zu_up m49 a0 17 (m49 a0 11) = m60
                have hIm60 := zi_up hmm60 hIm49 hc0 zb_28_17 (by omega) (by omega)
                have hFm60 := zfr_up hmm60 hFm49 hc0 rfl
                have hRLRm60 := zR_LR_fr (zdis_fr (zfr_up hmm60 (zfr_rf [(28, 18)] _) hc0 rfl) rfl) hRLRm49
                have hRNSm60 := zR_NS_fr (zdis_fr (zfr_up hmm60 (zfr_rf [(28, 18)] _) hc0 rfl) rfl) hRNSm49
                have hRTRm60 := zR_TR_fr (zdis_fr (zfr_up hmm60 (zfr_rf [(28, 18)] _) hc0 rfl) rfl) hRTRm49
                have hRWDm60 := zR_WD_fr (zdis_fr (zfr_up hmm60 (zfr_rf [(28, 18)] _) hc0 rfl) rfl) hRWDm49
                have r61 : 0 ≤ (m60 a0 20) ∧ (m60 a0 20) ≤ 4 := zi_rd hIm60 hc0 zb_28_20
                have e62 : (m60 a0 20) = (m0 a0 20) := (Eq.trans (zs_ne hmm60 (Or.inr (by decide))) (Eq.trans (zfr_ap hfm49 hc0 rfl) (Eq.trans (zs_ne hmm48 (Or.inr (by decide))) (Eq.trans (zfr_ap hfm14 hc0 rfl) (zs_ne hmm13 (Or.inl (zc_ne hc0 zq_193 (by decide))))))))
                have hRCRm60 := zCR_zero (m := m60) (zone_190 hc0) (by omega) (by omega)
                refine zw_bd (zw_eq (zu_call_at (zt_T n) (zm_94 n) (zdp_94 n) _ _ _ _ _ rfl (zr_94_0 n _ _ a0 1 6 m60)) ?_)
                have r63 : 0 ≤ (m60 a0 8) ∧ (m60 a0 8) ≤ 6 := zi_rd hIm60 hc0 zb_28_8
                have e64 : (m60 a0 8) = (m49 a0 8) := (zs_ne hmm60 (Or.inr (by decide)))
                refine zw_ite (fun h65 => ?_) (fun h65 => ?_)
                · have r66 : (-2147483648) ≤ (m60 a0 9) ∧ (m60 a0 9) ≤ 2147483647 := zi_rd hIm60 hc0 zb_28_9
                  have e67 : (m60 a0 9) = (m49 a0 9) := (zs_ne hmm60 (Or.inr (by decide)))
                  refine zw_bd (zw_eq (zu_call_at (zt_T n) (zm_83 n) (zdp_83 n) _ _ _ _ _ rfl (zr_83_0 n _ _ (m60 a0 9) 1 6 m60)) ?_)
                  refine zw_ite (fun h68 => ?_) (fun h68 => ?_)
                  · refine zw_b (by omega) ?_
                    refine zw_some ?_
                    refine zw_ite (fun h69 => ?_) (fun h69 => ?_)
                    · exfalso; omega
                    · refine zw_bd (zw_eq (zu_call_at (zt_T n) (zm_85 n) (zdp_85 n) _ _ _ _ _ rfl (zr_85_0 n _ _ a0 2 m60)) ?_)
                      generalize hmm70 : zu_up m60 a0 4 2 = m70
                      have hIm70 := zi_up hmm70 hIm60 hc0 zb_28_4 (by omega) (by omega)
                      have hFm70 := zfr_up hmm70 hFm60 hc0 rfl
                      have hRCRm70 := zR_CR_fr (zdis_fr (zfr_up hmm70 (zfr_rf [(28, 5)] _) hc0 rfl) rfl) hRCRm60
                      have hRNSm70 := zR_NS_fr (zdis_fr (zfr_up hmm70 (zfr_rf [(28, 5)] _) hc0 rfl) rfl) hRNSm60
                      have hRTRm70 := zR_TR_fr (zdis_fr (zfr_up hmm70 (zfr_rf [(28, 5)] _) hc0 rfl) rfl) hRTRm60
                      have hRWDm70 := zR_WD_fr (zdis_fr (zfr_up hmm70 (zfr_rf [(28, 5)] _) hc0 rfl) rfl) hRWDm60
                      have hRLRm70 := zLR_wr (zone_190 hc0) hmm70 (by decide)
                      have r71 : 0 ≤ (m70 a0 10) ∧ (m70 a0 10) ≤ 700 := zi_rd hIm70 hc0 zb_28_10
                      generalize hmm72 : zu_up m70 a0 5 (m70 a0 10) = m72
                      have hIm72 := zi_up hmm72 hIm70 hc0 zb_28_5 (by omega) (by omega)
                      have hFm72 := zfr_up hmm72 hFm70 hc0 rfl
                      have hRCRm72 := zR_CR_fr (zdis_fr (zfr_up hmm72 (zfr_rf [(28, 6)] _) hc0 rfl) rfl) hRCRm70
                      have hRLRm72 := zR_LR_fr (zdis_fr (zfr_up hmm72 (zfr_rf [(28, 6)] _) hc0 rfl) rfl) hRLRm70
                      have hRNSm72 := zR_NS_fr (zdis_fr (zfr_up hmm72 (zfr_rf [(28, 6)] _) hc0 rfl) rfl) hRNSm70
                      have hRTRm72 := zR_TR_fr (zdis_fr (zfr_up hmm72 (zfr_rf [(28, 6)] _) hc0 rfl) rfl) hRTRm70
                      have hRWDm72 := zR_WD_fr (zdis_fr (zfr_up hmm72 (zfr_rf [(28, 6)] _) hc0 rfl) rfl) hRWDm70
                      refine zw_b (by omega) ?_
                      refine zw_some ?_
                      refine zw_b (by omega) ?_
                      refine zw_some ?_
                      refine zw_ite (fun h73 => ?_) (fun h73 => ?_)
                      · exfalso; omega
                      · refine zw_b (by omega) ?_
                        have r74 : 0 ≤ (m72 a0 7) ∧ (m72 a0 7) ≤ 700 := zi_rd hIm72 hc0 zb_28_7
                        have e75 : (m72 a0 7) = (m49 a0 7) := (Eq.trans (zs_ne hmm72 (Or.inr (by decide))) (Eq.trans (zs_ne hmm70 (Or.inr (by decide))) (zs_ne hmm60 (Or.inr (by decide)))))
                        have r76 : 0 ≤ (m72 a0 8) ∧ (m72 a0 8) ≤ 6 := zi_rd hIm72 hc0 zb_28_8
                        have e77 : (m72 a0 8) = (m60 a0 8) := (Eq.trans (zs_ne hmm72 (Or.inr (by decide))) (zs_ne hmm70 (Or.inr (by decide))))
                        have r78 : (-2147483648) ≤ (m72 a0 4) ∧ (m72 a0 4) ≤ 2147483647 := zi_rd hIm72 hc0 zb_28_4
                        have e79 : (m72 a0 4) = 2 := (Eq.trans (zs_ne hmm72 (Or.inr (by decide))) (zs_eq hmm70))
                        exact zw_some ⟨hIm72, hFm72, hRCRm72, hRLRm72, hRNSm72, hRTRm72, hRWDm72, ⟨by omega, by omega⟩, by omega, by omega, by omega⟩
                  · refine zw_ite (fun h80 => ?_) (fun h80 => ?_)
                    · refine zw_b (by omega) ?_
                      refine zw_some ?_
                      refine zw_ite (fun h81 => ?_) (fun h81 => ?_)
                      · exfalso; omega
                      · refine zw_bd (zw_eq (zu_call_at (zt_T n) (zm_85 n) (zdp_85 n) _ _ _ _ _ rfl (zr_85_0 n _ _ a0 2 m60)) ?_)
                        generalize hmm82 : zu_up m60 a0 4 2 = m82
                        have hIm82 := zi_up hmm82 hIm60 hc0 zb_28_4 (by omega) (by omega)
                        have hFm82 := zfr_up hmm82 hFm60 hc0 rfl
                        have hRCRm82 := zR_CR_fr (zdis_fr (zfr_up hmm82 (zfr_rf [(28, 5)] _) hc0 rfl) rfl) hRCRm60
                        have hRNSm82 := zR_NS_fr (zdis_fr (zfr_up hmm82 (zfr_rf [(28, 5)] _) hc0 rfl) rfl) hRNSm60
                        have hRTRm82 := zR_TR_fr (zdis_fr (zfr_up hmm82 (zfr_rf [(28, 5)] _) hc0 rfl) rfl) hRTRm60
                        have hRWDm82 := zR_WD_fr (zdis_fr (zfr_up hmm82 (zfr_rf [(28, 5)] _) hc0 rfl) rfl) hRWDm60
                        have hRLRm82 := zLR_wr (zone_190 hc0) hmm82 (by decide)
                        have r83 : 0 ≤ (m82 a0 10) ∧ (m82 a0 10) ≤ 700 := zi_rd hIm82 hc0 zb_28_10
                        generalize hmm84 : zu_up m82 a0 5 (m82 a0 10) = m84
                        have hIm84 := zi_up hmm84 hIm82 hc0 zb_28_5 (by omega) (by omega)
                        have hFm84 := zfr_up hmm84 hFm82 hc0 rfl
                        have hRCRm84 := zR_CR_fr (zdis_fr (zfr_up hmm84 (zfr_rf [(28, 6)] _) hc0 rfl) rfl) hRCRm82
                        have hRLRm84 := zR_LR_fr (zdis_fr (zfr_up hmm84 (zfr_rf [(28, 6)] _) hc0 rfl) rfl) hRLRm82
                        have hRNSm84 := zR_NS_fr (zdis_fr (zfr_up hmm84 (zfr_rf [(28, 6)] _) hc0 rfl) rfl) hRNSm82
                        have hRTRm84 := zR_TR_fr (zdis_fr (zfr_up hmm84 (zfr_rf [(28, 6)] _) hc0 rfl) rfl) hRTRm82
                        have hRWDm84 := zR_WD_fr (zdis_fr (zfr_up hmm84 (zfr_rf [(28, 6)] _) hc0 rfl) rfl) hRWDm82
                        refine zw_b (by omega) ?_
                        refine zw_some ?_
                        refine zw_b (by omega) ?_
                        refine zw_some ?_
                        refine zw_ite (fun h85 => ?_) (fun h85 => ?_)
                        · exfalso; omega
                        · refine zw_b (by omega) ?_
                          have r86 : 0 ≤ (m84 a0 7) ∧ (m84 a0 7) ≤ 700 := zi_rd hIm84 hc0 zb_28_7
                          have e87 : (m84 a0 7) = (m49 a0 7) := (Eq.trans (zs_ne hmm84 (Or.inr (by decide))) (Eq.trans (zs_ne hmm82 (Or.inr (by decide))) (zs_ne hmm60 (Or.inr (by decide)))))
                          have r88 : 0 ≤ (m84 a0 8) ∧ (m84 a0 8) ≤ 6 := zi_rd hIm84 hc0 zb_28_8
                          have e89 : (m84 a0 8) = (m60 a0 8) := (Eq.trans (zs_ne hmm84 (Or.inr (by decide))) (zs_ne hmm82 (Or.inr (by decide))))
                          have r90 : (-2147483648) ≤ (m84 a0 4) ∧ (m84 a0 4) ≤ 2147483647 := zi_rd hIm84 hc0 zb_28_4
                          have e91 : (m84 a0 4) = 2 := (Eq.trans (zs_ne hmm84 (Or.inr (by decide))) (zs_eq hmm82))
                          exact zw_some ⟨hIm84, hFm84, hRCRm84, hRLRm84, hRNSm84, hRTRm84, hRWDm84, ⟨by omega, by omega⟩, by omega, by omega, by omega⟩
                    · refine zw_b (by omega) ?_
                      refine zw_some ?_
                      refine zw_ite (fun h92 => ?_) (fun h92 => ?_)
                      · generalize hmm93 : zu_up m60 a0 11 (m60 a0 9) = m93
                        have hIm93 := zi_up hmm93 hIm60 hc0 zb_28_11 (by omega) (by omega)
                        have hFm93 := zfr_up hmm93 hFm60 hc0 rfl
                        have hRCRm93 := zR_CR_fr (zdis_fr (zfr_up hmm93 (zfr_rf [(28, 12)] _) hc0 rfl) rfl) hRCRm60
                        have hRLRm93 := zR_LR_fr (zdis_fr (zfr_up hmm93 (zfr_rf [(28, 12)] _) hc0 rfl) rfl) hRLRm60
                        have hRNSm93 := zR_NS_fr (zdis_fr (zfr_up hmm93 (zfr_rf [(28, 12)] _) hc0 rfl) rfl) hRNSm60
                        have hRTRm93 := zR_TR_fr (zdis_fr (zfr_up hmm93 (zfr_rf [(28, 12)] _) hc0 rfl) rfl) hRTRm60
                        have hRWDm93 := zR_WD_fr (zdis_fr (zfr_up hmm93 (zfr_rf [(28, 12)] _) hc0 rfl) rfl) hRWDm60
                        have r96 : 0 ≤ (m93 a0 7) ∧ (m93 a0 7) ≤ 700 := zi_rd hIm93 hc0 zb_28_7
                        have e97 : (m93 a0 7) = (m49 a0 7) := (Eq.trans (zs_ne hmm93 (Or.inr (by decide))) (zs_ne hmm60 (Or.inr (by decide))))
                        refine zw_bd (zw_mono (zk_89 n hIm93 hc0 hRNSm93 hRWDm93) (fun v95 m94 hqm94 => ?_))
                        obtain ⟨hIm94, hfm94, hvm94⟩ := hqm94
                        have hFm94 := zfr_tr hFm93 hfm94 rfl
                        obtain ⟨hRNSm94, hRTRm94, hRWDm94, hvm94⟩ := hvm94
                        have hRCRm94 := zR_CR_fr (zdis_fr hfm94 rfl) hRCRm93
                        have hRLRm94 := zR_LR_fr (zdis_fr hfm94 rfl) hRLRm93
                        have s98 := hRNSm94 a0 hc0
                        have s99 := hRTRm94 a0 hc0
                        have r100 : 0 ≤ (m94 a0 7) ∧ (m94 a0 7) ≤ 700 := zi_rd hIm94 hc0 zb_28_7
                        have r101 : 0 ≤ (m94 a0 8) ∧ (m94 a0 8) ≤ 6 := zi_rd hIm94 hc0 zb_28_8
                        refine zw_b (by omega) ?_
                        refine zw_some ?_
                        refine zw_ite (fun h102 => ?_) (fun h102 => ?_)
                        · have r103 : (-2147483648) ≤ (m94 a0 11) ∧ (m94 a0 11) ≤ 2147483647 := zi_rd hIm94 hc0 zb_28_11
                          have e104 : (m94 a0 11) = (m60 a0 9) := (Eq.trans (zfr_ap hfm94 hc0 rfl) (zs_eq hmm93))
                          generalize hmm105 : zu_up m94 a0 18 (m94 a0 11) = m105
                          have hIm105 := zi_up hmm105 hIm94 hc0 zb_28_18 (by omega) (by omega)
                          have hFm105 := zfr_up hmm105 hFm94 hc0 rfl
                          have hRLRm105 := zR_LR_fr (zdis_fr (zfr_up hmm105 (zfr_rf [(28, 19)] _) hc0 rfl) rfl) hRLRm94
                          have hRNSm105 := zR_NS_fr (zdis_fr (zfr_up hmm105 (zfr_rf [(28, 19)] _) hc0 rfl) rfl) hRNSm94
                          have hRTRm105 := zR_TR_fr (zdis_fr (zfr_up hmm105 (zfr_rf [(28, 19)] _) hc0 rfl) rfl) hRTRm94
                          have hRWDm105 := zR_WD_fr (zdis_fr (zfr_up hmm105 (zfr_rf [(28, 19)] _) hc0 rfl) rfl) hRWDm94
                          have r106 : 0 ≤ (m105 a0 20) ∧ (m105 a0 20) ≤ 4 := zi_rd hIm105 hc0 zb_28_20
                          have e107 : (m105 a0 20) = (m60 a0 20) := (Eq.trans (zs_ne hmm105 (Or.inr (by decide))) (Eq.trans (zfr_ap hfm94 hc0 rfl) (zs_ne hmm93 (Or.inr (by decide)))))
                          have hRCRm105 := zCR_zero (m := m105) (zone_190 hc0) (by omega) (by omega)
                          refine zw_b (by omega) ?_
                          have r108 : 0 ≤ (m105 a0 7) ∧ (m105 a0 7) ≤ 700 := zi_rd hIm105 hc0 zb_28_7
                          have e109 : (m105 a0 7) = (m94 a0 7) := (zs_ne hmm105 (Or.inr (by decide)))
                          have r110 : 0 ≤ (m105 a0 8) ∧ (m105 a0 8) ≤ 6 := zi_rd hIm105 hc0 zb_28_8
                          have e111 : (m105 a0 8) = (m94 a0 8) := (zs_ne hmm105 (Or.inr (by decide)))
                          have r112 : (-2147483648) ≤ (m105 a0 4) ∧ (m105 a0 4) ≤ 2147483647 := zi_rd hIm105 hc0 zb_28_4
                          have e113 : (m105 a0 4) = (m0 a0 4) := (Eq.trans (zs_ne hmm105 (Or.inr (by decide))) (Eq.trans (zfr_ap hfm94 hc0 rfl) (Eq.trans (zs_ne hmm93 (Or.inr (by decide))) (Eq.trans (zs_ne hmm60 (Or.inr (by decide))) (Eq.trans (zfr_ap hfm49 hc0 rfl) (Eq.trans (zs_ne hmm48 (Or.inr (by decide))) (Eq.trans (zfr_ap hfm14 hc0 rfl) (zs_ne hmm13 (Or.inl (zc_ne hc0 zq_193 (by decide)))))))))))
                          exact zw_some ⟨hIm105, hFm105, hRCRm105, hRLRm105, hRNSm105, hRTRm105, hRWDm105, ⟨by omega, by omega⟩, by omega, by omega, by omega⟩
                        · exfalso; omega
                      · exfalso; omega
                · refine zw_bd (zw_eq (zu_call_at (zt_T n) (zm_85 n) (zdp_85 n) _ _ _ _ _ rfl (zr_85_0 n _ _ a0 1 m60)) ?_)
                  generalize hmm114 : zu_up m60 a0 4 1 = m114
                  have hIm114 := zi_up hmm114 hIm60 hc0 zb_28_4 (by omega) (by omega)
                  have hFm114 := zfr_up hmm114 hFm60 hc0 rfl
                  have hRCRm114 := zR_CR_fr (zdis_fr (zfr_up hmm114 (zfr_rf [(28, 5)] _) hc0 rfl) rfl) hRCRm60
                  have hRNSm114 := zR_NS_fr (zdis_fr (zfr_up hmm114 (zfr_rf [(28, 5)] _) hc0 rfl) rfl) hRNSm60
                  have hRTRm114 := zR_TR_fr (zdis_fr (zfr_up hmm114 (zfr_rf [(28, 5)] _) hc0 rfl) rfl) hRTRm60
                  have hRWDm114 := zR_WD_fr (zdis_fr (zfr_up hmm114 (zfr_rf [(28, 5)] _) hc0 rfl) rfl) hRWDm60
                  have hRLRm114 := zLR_wr (zone_190 hc0) hmm114 (by decide)
                  have r115 : 0 ≤ (m114 a0 10) ∧ (m114 a0 10) ≤ 700 := zi_rd hIm114 hc0 zb_28_10
                  generalize hmm116 : zu_up m114 a0 5 (m114 a0 10) = m116
                  have hIm116 := zi_up hmm116 hIm114 hc0 zb_28_5 (by omega) (by omega)
                  have hFm116 := zfr_up hmm116 hFm114 hc0 rfl
                  have hRCRm116 := zR_CR_fr (zdis_fr (zfr_up hmm116 (zfr_rf [(28, 6)] _) hc0 rfl) rfl) hRCRm114
                  have hRLRm116 := zR_LR_fr (zdis_fr (zfr_up hmm116 (zfr_rf [(28, 6)] _) hc0 rfl) rfl) hRLRm114
                  have hRNSm116 := zR_NS_fr (zdis_fr (zfr_up hmm116 (zfr_rf [(28, 6)] _) hc0 rfl) rfl) hRNSm114
                  have hRTRm116 := zR_TR_fr (zdis_fr (zfr_up hmm116 (zfr_rf [(28, 6)] _) hc0 rfl) rfl) hRTRm114
                  have hRWDm116 := zR_WD_fr (zdis_fr (zfr_up hmm116 (zfr_rf [(28, 6)] _) hc0 rfl) rfl) hRWDm114
                  refine zw_b (by omega) ?_
                  refine zw_some ?_
                  refine zw_b (by omega) ?_
                  refine zw_some ?_
                  refine zw_ite (fun h117 => ?_) (fun h117 => ?_)
                  · exfalso; omega
                  · refine zw_b (by omega) ?_
                    have r118 : 0 ≤ (m116 a0 7) ∧ (m116 a0 7) ≤ 700 := zi_rd hIm116 hc0 zb_28_7
                    have e119 : (m116 a0 7) = (m49 a0 7) := (Eq.trans (zs_ne hmm116 (Or.inr (by decide))) (Eq.trans (zs_ne hmm114 (Or.inr (by decide))) (zs_ne hmm60 (Or.inr (by decide)))))
                    have r120 : 0 ≤ (m116 a0 8) ∧ (m116 a0 8) ≤ 6 := zi_rd hIm116 hc0 zb_28_8
                    have e121 : (m116 a0 8) = (m60 a0 8) := (Eq.trans (zs_ne hmm116 (Or.inr (by decide))) (zs_ne hmm114 (Or.inr (by decide))))
                    have r122 : (-2147483648) ≤ (m116 a0 4) ∧ (m116 a0 4) ≤ 2147483647 := zi_rd hIm116 hc0 zb_28_4
                    have e123 : (m116 a0 4) = 1 := (Eq.trans (zs_ne hmm116 (Or.inr (by decide))) (zs_eq hmm114))
                    exact zw_some ⟨hIm116, hFm116, hRCRm116, hRLRm116, hRNSm116, hRTRm116, hRWDm116, ⟨by omega, by omega⟩, by omega, by omega, by omega⟩
              · exfalso; omega
            · exfalso; omega
      · refine zw_bd (zw_eq (zu_call_at (zt_T n) (zm_85 n) (zdp_85 n) _ _ _ _ _ rfl (zr_85_0 n _ _ a0 1 m14)) ?_)
        generalize hmm124 : zu_up m14 a0 4 1 = m124
        have hIm124 := zi_up hmm124 hIm14 hc0 zb_28_4 (by omega) (by omega)
        have hFm124 := zfr_up hmm124 hFm14 hc0 rfl
        have hRCRm124 := zR_CR_fr (zdis_fr (zfr_up hmm124 (zfr_rf [(28, 5)] _) hc0 rfl) rfl) hRCRm14
        have hRNSm124 := zR_NS_fr (zdis_fr (zfr_up hmm124 (zfr_rf [(28, 5)] _) hc0 rfl) rfl) hRNSm14
        have hRTRm124 := zR_TR_fr (zdis_fr (zfr_up hmm124 (zfr_rf [(28, 5)] _) hc0 rfl) rfl) hRTRm14
        have hRWDm124 := zR_WD_fr (zdis_fr (zfr_up hmm124 (zfr_rf [(28, 5)] _) hc0 rfl) rfl) hRWDm14
        have hRLRm124 := zLR_wr (zone_190 hc0) hmm124 (by decide)
        have r125 : 0 ≤ (m124 a0 10) ∧ (m124 a0 10) ≤ 700 := zi_rd hIm124 hc0 zb_28_10
        generalize hmm126 : zu_up m124 a0 5 (m124 a0 10) = m126
        have hIm126 := zi_up hmm126 hIm124 hc0 zb_28_5 (by omega) (by omega)
        have hFm126 := zfr_up hmm126 hFm124 hc0 rfl
        have hRCRm126 := zR_CR_fr (zdis_fr (zfr_up hmm126 (zfr_rf [(28, 6)] _) hc0 rfl) rfl) hRCRm124
        have hRLRm126 := zR_LR_fr (zdis_fr (zfr_up hmm126 (zfr_rf [(28, 6)] _) hc0 rfl) rfl) hRLRm124
        have hRNSm126 := zR_NS_fr (zdis_fr (zfr_up hmm126 (zfr_rf [(28, 6)] _) hc0 rfl) rfl) hRNSm124
        have hRTRm126 := zR_TR_fr (zdis_fr (zfr_up hmm126 (zfr_rf [(28, 6)] _) hc0 rfl) rfl) hRTRm124
        have hRWDm126 := zR_WD_fr (zdis_fr (zfr_up hmm126 (zfr_rf [(28, 6)] _) hc0 rfl) rfl) hRWDm124
        refine zw_b (by omega) ?_
        refine zw_some ?_
        refine zw_b (by omega) ?_
        refine zw_some ?_
        refine zw_ite (fun h127 => ?_) (fun h127 => ?_)
        · exfalso; omega
        · refine zw_b (by omega) ?_
          have r128 : 0 ≤ (m126 a0 7) ∧ (m126 a0 7) ≤ 700 := zi_rd hIm126 hc0 zb_28_7
          have e129 : (m126 a0 7) = (m14 a0 7) := (Eq.trans (zs_ne hmm126 (Or.inr (by decide))) (zs_ne hmm124 (Or.inr (by decide))))
          have r130 : 0 ≤ (m126 a0 8) ∧ (m126 a0 8) ≤ 6 := zi_rd hIm126 hc0 zb_28_8
          have e131 : (m126 a0 8) = (m14 a0 8) := (Eq.trans (zs_ne hmm126 (Or.inr (by decide))) (zs_ne hmm124 (Or.inr (by decide))))
          have r132 : (-2147483648) ≤ (m126 a0 4) ∧ (m126 a0 4) ≤ 2147483647 := zi_rd hIm126 hc0 zb_28_4
          have e133 : (m126 a0 4) = 1 := (Eq.trans (zs_ne hmm126 (Or.inr (by decide))) (zs_eq hmm124))
          exact zw_some ⟨hIm126, hFm126, hRCRm126, hRLRm126, hRNSm126, hRTRm126, hRWDm126, ⟨by omega, by omega⟩, by omega, by omega, by omega⟩
    · refine zw_bd (zw_eq (zu_call_at (zt_T n) (zm_85 n) (zdp_85 n) _ _ _ _ _ rfl (zr_85_0 n _ _ a0 4 m0)) ?_)
      generalize hmm134 : zu_up m0 a0 4 4 = m134
      have hIm134 := zi_up hmm134 hIm0 hc0 zb_28_4 (by omega) (by omega)
      have hFm134 := zfr_up hmm134 hFm0 hc0 rfl
      have hRCRm134 := zR_CR_fr (zdis_fr (zfr_up hmm134 (zfr_rf [(28, 5)] _) hc0 rfl) rfl) hRCRm0
      have hRNSm134 := zR_NS_fr (zdis_fr (zfr_up hmm134 (zfr_rf [(28, 5)] _) hc0 rfl) rfl) hRNSm0
      have hRTRm134 := zR_TR_fr (zdis_fr (zfr_up hmm134 (zfr_rf [(28, 5)] _) hc0 rfl) rfl) hRTRm0
      have hRWDm134 := zR_WD_fr (zdis_fr (zfr_up hmm134 (zfr_rf [(28, 5)] _) hc0 rfl) rfl) hRWDm0
      have hRLRm134 := zLR_wr (zone_190 hc0) hmm134 (by decide)
      have r135 : 0 ≤ (m134 a0 10) ∧ (m134 a0 10) ≤ 700 := zi_rd hIm134 hc0 zb_28_10
      generalize hmm136 : zu_up m134 a0 5 (m134 a0 10) = m136
      have hIm136 := zi_up hmm136 hIm134 hc0 zb_28_5 (by omega) (by omega)
      have hFm136 := zfr_up hmm136 hFm134 hc0 rfl
      have hRCRm136 := zR_CR_fr (zdis_fr (zfr_up hmm136 (zfr_rf [(28, 6)] _) hc0 rfl) rfl) hRCRm134
      have hRLRm136 := zR_LR_fr (zdis_fr (zfr_up hmm136 (zfr_rf [(28, 6)] _) hc0 rfl) rfl) hRLRm134
      have hRNSm136 := zR_NS_fr (zdis_fr (zfr_up hmm136 (zfr_rf [(28, 6)] _) hc0 rfl) rfl) hRNSm134
      have hRTRm136 := zR_TR_fr (zdis_fr (zfr_up hmm136 (zfr_rf [(28, 6)] _) hc0 rfl) rfl) hRTRm134
      have hRWDm136 := zR_WD_fr (zdis_fr (zfr_up hmm136 (zfr_rf [(28, 6)] _) hc0 rfl) rfl) hRWDm134
      refine zw_b (by omega) ?_
      refine zw_some ?_
      refine zw_b (by omega) ?_
      have r137 : 0 ≤ (m136 a0 7) ∧ (m136 a0 7) ≤ 700 := zi_rd hIm136 hc0 zb_28_7
      have e138 : (m136 a0 7) = (m0 a0 7) := (Eq.trans (zs_ne hmm136 (Or.inr (by decide))) (zs_ne hmm134 (Or.inr (by decide))))
      have r139 : 0 ≤ (m136 a0 8) ∧ (m136 a0 8) ≤ 6 := zi_rd hIm136 hc0 zb_28_8
      have r140 : (-2147483648) ≤ (m136 a0 4) ∧ (m136 a0 4) ≤ 2147483647 := zi_rd hIm136 hc0 zb_28_4
      have e141 : (m136 a0 4) = 4 := (Eq.trans (zs_ne hmm136 (Or.inr (by decide))) (zs_eq hmm134))
      exact zw_some ⟨hIm136, hFm136, hRCRm136, hRLRm136, hRNSm136, hRTRm136, hRWDm136, ⟨by omega, by omega⟩, by omega, by omega, by omega⟩
  · refine zw_bd (zw_eq (zu_call_at (zt_T n) (zm_85 n) (zdp_85 n) _ _ _ _ _ rfl (zr_85_0 n _ _ a0 3 m0)) ?_)
    generalize hmm142 : zu_up m0 a0 4 3 = m142
    have hIm142 := zi_up hmm142 hIm0 hc0 zb_28_4 (by omega) (by omega)
    have hFm142 := zfr_up hmm142 hFm0 hc0 rfl
    have hRCRm142 := zR_CR_fr (zdis_fr (zfr_up hmm142 (zfr_rf [(28, 5)] _) hc0 rfl) rfl) hRCRm0
    have hRNSm142 := zR_NS_fr (zdis_fr (zfr_up hmm142 (zfr_rf [(28, 5)] _) hc0 rfl) rfl) hRNSm0
    have hRTRm142 := zR_TR_fr (zdis_fr (zfr_up hmm142 (zfr_rf [(28, 5)] _) hc0 rfl) rfl) hRTRm0
    have hRWDm142 := zR_WD_fr (zdis_fr (zfr_up hmm142 (zfr_rf [(28, 5)] _) hc0 rfl) rfl) hRWDm0
    have hRLRm142 := zLR_wr (zone_190 hc0) hmm142 (by decide)
    have r143 : 0 ≤ (m142 a0 10) ∧ (m142 a0 10) ≤ 700 := zi_rd hIm142 hc0 zb_28_10
    generalize hmm144 : zu_up m142 a0 5 (m142 a0 10) = m144
    have hIm144 := zi_up hmm144 hIm142 hc0 zb_28_5 (by omega) (by omega)
    have hFm144 := zfr_up hmm144 hFm142 hc0 rfl
    have hRCRm144 := zR_CR_fr (zdis_fr (zfr_up hmm144 (zfr_rf [(28, 6)] _) hc0 rfl) rfl) hRCRm142
    have hRLRm144 := zR_LR_fr (zdis_fr (zfr_up hmm144 (zfr_rf [(28, 6)] _) hc0 rfl) rfl) hRLRm142
    have hRNSm144 := zR_NS_fr (zdis_fr (zfr_up hmm144 (zfr_rf [(28, 6)] _) hc0 rfl) rfl) hRNSm142
    have hRTRm144 := zR_TR_fr (zdis_fr (zfr_up hmm144 (zfr_rf [(28, 6)] _) hc0 rfl) rfl) hRTRm142
    have hRWDm144 := zR_WD_fr (zdis_fr (zfr_up hmm144 (zfr_rf [(28, 6)] _) hc0 rfl) rfl) hRWDm142
    refine zw_b (by omega) ?_
    refine zw_some ?_
    refine zw_b (by omega) ?_
    have r145 : 0 ≤ (m144 a0 7) ∧ (m144 a0 7) ≤ 700 := zi_rd hIm144 hc0 zb_28_7
    have e146 : (m144 a0 7) = (m0 a0 7) := (Eq.trans (zs_ne hmm144 (Or.inr (by decide))) (zs_ne hmm142 (Or.inr (by decide))))
    have r147 : 0 ≤ (m144 a0 8) ∧ (m144 a0 8) ≤ 6 := zi_rd hIm144 hc0 zb_28_8
    have r148 : (-2147483648) ≤ (m144 a0 4) ∧ (m144 a0 4) ≤ 2147483647 := zi_rd hIm144 hc0 zb_28_4
    have e149 : (m144 a0 4) = 3 := (Eq.trans (zs_ne hmm144 (Or.inr (by decide))) (zs_eq hmm142))
    exact zw_some ⟨hIm144, hFm144, hRCRm144, hRLRm144, hRNSm144, hRTRm144, hRWDm144, ⟨by omega, by omega⟩, by omega, by omega, by omega⟩

set_option maxHeartbeats 4000000 in
theorem zk_55 (n : Nat) {a0 a1 a2 : Int} {m0 : zu_m} (hIm0 : zi_I m0) (hc0 : zcls a0 = 2) (ha1 : (-2147483648) ≤ a1 ∧ a1 ≤ 2147483647) (ha2 : (-2147483648) ≤ a2 ∧ a2 ≤ 2147483647)    (hRE89m0 : zE m0 89 50) (hRUNm0 : zR_UN m0) (hRUWm0 : zR_UW m0) : zw (zu_call (zt_T n) 55 [(5, a0), (0, a1), (0, a2)] m0) (fun v m => zi_I m ∧ zfr [(18, 2), (23, 5), (81, 0), (82, 0), (83, 0), (84, 0)] m0 m ∧ zE m 89 50 ∧ zR_UN m ∧ zR_UW m ∧ (0 ≤ v ∧ v ≤ 1)) := by
  have hFm0 : zfr [(18, 2), (23, 5), (81, 0), (82, 0), (83, 0), (84, 0)] m0 m0 := zfr_rf _ _
  refine zw_eq (zu_call_at (zt_T n) (zm_55 n) (zdp_55 n) _ _ _ _ _ rfl (zr_55_0 n _ _ a0 a1 a2 m0)) ?_
  refine zw_bd (zw_eq (zu_call_at (zt_T n) (zm_211 n) (zdp_211 n) _ _ _ _ _ rfl (zr_211_0 n _ _ 89 a1 m0)) ?_)
  refine zw_ite (fun h1 => ?_) (fun h1 => ?_)
  · refine zw_b (by omega) ?_
    refine zw_some ?_
    refine zw_ite (fun h2 => ?_) (fun h2 => ?_)
    · refine zw_b (by omega) ?_
      exact zw_some ⟨hIm0, hFm0, hRE89m0, hRUNm0, hRUWm0, ⟨by decide, by decide⟩⟩
    · exfalso; omega
  · have r3 : 0 ≤ (m0 89 4) ∧ (m0 89 4) ≤ 4 := zi_rd hIm0 zq_89 zb_16_4
    refine zw_ite (fun h4 => ?_) (fun h4 => ?_)
    · refine zw_b (by omega) ?_
      refine zw_some ?_
      refine zw_ite (fun h5 => ?_) (fun h5 => ?_)
      · refine zw_b (by omega) ?_
        exact zw_some ⟨hIm0, hFm0, hRE89m0, hRUNm0, hRUWm0, ⟨by decide, by decide⟩⟩
      · exfalso; omega
    · refine zw_b (by omega) ?_
      refine zw_some ?_
      refine zw_ite (fun h6 => ?_) (fun h6 => ?_)
      · exfalso; omega
      · refine zw_bd (zw_eq (zu_call_at (zt_T n) (zm_244 n) (zdp_244 n) _ _ _ _ _ rfl (zr_244_0 n _ _ 50 a2 m0)) ?_)
        refine zw_ite (fun h7 => ?_) (fun h7 => ?_)
        · refine zw_b (by omega) ?_
          refine zw_some ?_
          refine zw_ite (fun h8 => ?_) (fun h8 => ?_)
          · exfalso; omega
          · refine zw_b (by omega) ?_
            exact zw_some ⟨hIm0, hFm0, hRE89m0, hRUNm0, hRUWm0, ⟨by decide, by decide⟩⟩
        · have r9 : 1 ≤ (m0 50 2) ∧ (m0 50 2) ≤ 48 := zi_rd hIm0 zq_50 zb_11_2
          refine zw_ite (fun h10 => ?_) (fun h10 => ?_)
          · refine zw_b (by omega) ?_
            refine zw_some ?_
            refine zw_ite (fun h11 => ?_) (fun h11 => ?_)
            · exfalso; omega
            · refine zw_b (by omega) ?_
              exact zw_some ⟨hIm0, hFm0, hRE89m0, hRUNm0, hRUWm0, ⟨by decide, by decide⟩⟩
          · refine zw_b (by omega) ?_
            refine zw_some ?_
            refine zw_ite (fun h12 => ?_) (fun h12 => ?_)
            · have b13 : 0 ≤ a1 ∧ a1 < 4 := by omega
              refine zw_if b13 ?_
              have r14 : 0 ≤ (m0 ((89 + 2) + 20 + a1) 1) ∧ (m0 ((89 + 2) + 20 + a1) 1) ≤ 47 := zi_rd hIm0 (zc_66_e (zc_16_3 zq_89) b13) zb_18_1
              refine zw_ite (fun h15 => ?_) (fun h15 => ?_)
              · have s16 := zE_rd (A := ((89 + 2) + 20 + a1)) hRE89m0 rfl (c := a1) (by omega) (by omega) (by omega) (by omega)
                refine zw_bd (zw_eq (zu_call_at (zt_T n) (zm_309 n) (zdp_309 n) _ _ _ _ _ rfl (zr_309_0 n _ _ 148 a1 (m0 ((89 + 2) + 20 + a1) 1) m0)) ?_)
                have r17 : 0 ≤ (m0 89 2) ∧ (m0 89 2) ≤ 16 := zi_rd hIm0 zq_89 zb_16_2
                have hus : zUN m0 0 := hRUNm0
                refine zw_bd (zw_mono (zk_305 n hIm0 zq_148 ⟨by decide, by decide⟩ ⟨by omega, by omega⟩ ⟨by omega, by omega⟩ ⟨by decide, by decide⟩ (by omega) hRUWm0) (fun v19 m18 hqm18 => ?_))
                obtain ⟨hIm18, hfm18, hvm18⟩ := hqm18
                have hFm18 := zfr_tr hFm0 hfm18 rfl
                obtain ⟨hRUWm18, hvm18⟩ := hvm18
                have hRE89m18 := zR_E89_fr (zdis_fr hfm18 rfl) hRE89m0
                have z20 := zdl_v 2
                have hum18 := (hvm18.2.2) 0 hus (by omega) (by omega)
                have hRUNm18 : zR_UN m18 := zUN_cast hum18 (by omega)
                refine zw_some ?_
                generalize hmm21 : zu_up m18 ((89 + 2) + 20 + a1) 1 a2 = m21
                have hIm21 := zi_up hmm21 hIm18 (zc_66_e (zc_16_3 zq_89) b13) zb_18_1 (by omega) (by omega)
                have hFm21 := zfr_up hmm21 hFm18 (zc_66_e (zc_16_3 zq_89) b13) rfl
                have hRUNm21 := zR_UN_fr (zdis_fr (zfr_up hmm21 (zfr_rf [(18, 2)] _) (zc_66_e (zc_16_3 zq_89) b13) rfl) rfl) hRUNm18
                have hRUWm21 := zR_UW_fr (zdis_fr (zfr_up hmm21 (zfr_rf [(18, 2)] _) (zc_66_e (zc_16_3 zq_89) b13) rfl) rfl) hRUWm18
                have r22 : 1 ≤ (m18 50 2) ∧ (m18 50 2) ≤ 48 := zi_rd hIm18 zq_50 zb_11_2
                have e23 : (m18 50 2) = (m0 50 2) := (zfr_ap hfm18 zq_50 rfl)
                have hRE89m21 : zE m21 89 50 := zE_up hmm21 (by omega) hRE89m18
                refine zw_b (by omega) ?_
                exact zw_some ⟨hIm21, hFm21, hRE89m21, hRUNm21, hRUWm21, ⟨by decide, by decide⟩⟩
              · refine zw_b (by omega) ?_
                exact zw_some ⟨hIm0, hFm0, hRE89m0, hRUNm0, hRUWm0, ⟨by decide, by decide⟩⟩
            · exfalso; omega
set_option maxHeartbeats 4000000 in
theorem zk_56 (n : Nat) {a0 a1 : Int} {m0 : zu_m} (hIm0 : zi_I m0) (hc0 : zcls a0 = 2) (ha1 : (-2147483648) ≤ a1 ∧ a1 ≤ 2147483647)    (hRUNm0 : zR_UN m0) (hRUWm0 : zR_UW m0) : zw (zu_call (zt_T n) 56 [(5, a0), (0, a1)] m0) (fun v m => zi_I m ∧ zfr [(16, 11), (23, 5), (81, 0), (82, 0), (83, 0), (84, 0)] m0 m ∧ zR_UN m ∧ zR_UW m ∧ (0 ≤ v ∧ v ≤ 1)) := by
  have hFm0 : zfr [(16, 11), (23, 5), (81, 0), (82, 0), (83, 0), (84, 0)] m0 m0 := zfr_rf _ _
  refine zw_eq (zu_call_at (zt_T n) (zm_56 n) (zdp_56 n) _ _ _ _ _ rfl (zr_56_0 n _ _ a0 a1 m0)) ?_
  refine zw_ite (fun h1 => ?_) (fun h1 => ?_)
  · refine zw_b (by omega) ?_
    exact zw_some ⟨hIm0, hFm0, hRUNm0, hRUWm0, ⟨by decide, by decide⟩⟩
  · refine zw_ite (fun h2 => ?_) (fun h2 => ?_)
    · refine zw_b (by omega) ?_
      exact zw_some ⟨hIm0, hFm0, hRUNm0, hRUWm0, ⟨by decide, by decide⟩⟩
    · have r3 : 0 ≤ (m0 89 10) ∧ (m0 89 10) ≤ 3 := zi_rd hIm0 zq_89 zb_16_10
      refine zw_ite (fun h4 => ?_) (fun h4 => ?_)
      · refine zw_bd (zw_eq (zu_call_at (zt_T n) (zm_310 n) (zdp_310 n) _ _ _ _ _ rfl (zr_310_0 n _ _ 148 (m0 89 10) m0)) ?_)
        have r5 : 0 ≤ (m0 89 2) ∧ (m0 89 2) ≤ 16 := zi_rd hIm0 zq_89 zb_16_2
        have hus : zUN m0 0 := hRUNm0
        have r6 : 1 ≤ (m0 50 2) ∧ (m0 50 2) ≤ 48 := zi_rd hIm0 zq_50 zb_11_2
        refine zw_bd (zw_mono (zk_305 n hIm0 zq_148 ⟨by decide, by decide⟩ ⟨by omega, by omega⟩ ⟨by decide, by decide⟩ ⟨by decide, by decide⟩ (by omega) hRUWm0) (fun v8 m7 hqm7 => ?_))
        obtain ⟨hIm7, hfm7, hvm7⟩ := hqm7
        have hFm7 := zfr_tr hFm0 hfm7 rfl
        obtain ⟨hRUWm7, hvm7⟩ := hvm7
        have z9 := zdl_v 3
        have hum7 := (hvm7.2.2) 0 hus (by omega) (by omega)
        have hRUNm7 : zR_UN m7 := zUN_cast hum7 (by omega)
        refine zw_some ?_
        generalize hmm10 : zu_up m7 89 10 a1 = m10
        have hIm10 := zi_up hmm10 hIm7 zq_89 zb_16_10 (by omega) (by omega)
        have hFm10 := zfr_up hmm10 hFm7 zq_89 rfl
        have hRUNm10 := zR_UN_fr (zdis_fr (zfr_up hmm10 (zfr_rf [(16, 11)] _) zq_89 rfl) rfl) hRUNm7
        have hRUWm10 := zR_UW_fr (zdis_fr (zfr_up hmm10 (zfr_rf [(16, 11)] _) zq_89 rfl) rfl) hRUWm7
        refine zw_b (by omega) ?_
        exact zw_some ⟨hIm10, hFm10, hRUNm10, hRUWm10, ⟨by decide, by decide⟩⟩
      · refine zw_b (by omega) ?_
        exact zw_some ⟨hIm0, hFm0, hRUNm0, hRUWm0, ⟨by decide, by decide⟩⟩
set_option maxHeartbeats 4000000 in
theorem zk_60 (n : Nat) {a0 a1 a2 : Int} {m0 : zu_m} (hIm0 : zi_I m0) (hc0 : zcls a0 = 2) (ha1 : (-2147483648) ≤ a1 ∧ a1 ≤ 2147483647) (ha2 : (-2147483648) ≤ a2 ∧ a2 ≤ 2147483647)     : zw (zu_call (zt_T n) 60 [(5, a0), (0, a1), (0, a2)] m0) (fun v m => zi_I m ∧ zfr [(25, 3), (25, 5), (25, 9), (25, 10), (25, 11), (25, 12), (26, 1), (26, 2), (26, 3), (26, 4), (27, 1), (27, 2), (27, 3), (27, 4), (27, 5), (27, 6), (27, 7), (27, 8), (97, 0), (98, 0)] m0 m ∧ ((-1) ≤ v ∧ v ≤ 40)) := by
  have hFm0 : zfr [(25, 3), (25, 5), (25, 9), (25, 10), (25, 11), (25, 12), (26, 1), (26, 2), (26, 3), (26, 4), (27, 1), (27, 2), (27, 3), (27, 4), (27, 5), (27, 6), (27, 7), (27, 8), (97, 0), (98, 0)] m0 m0 := zfr_rf _ _
  refine zw_eq (zu_call_at (zt_T n) (zm_60 n) (zdp_60 n) _ _ _ _ _ rfl (zr_60_0 n _ _ a0 a1 a2 m0)) ?_
  refine zw_bd (zw_eq (zu_call_at (zt_T n) (zm_211 n) (zdp_211 n) _ _ _ _ _ rfl (zr_211_0 n _ _ 89 a1 m0)) ?_)
  refine zw_ite (fun h1 => ?_) (fun h1 => ?_)
  · refine zw_b (by omega) ?_
    refine zw_some ?_
    refine zw_ite (fun h2 => ?_) (fun h2 => ?_)
    · exact zw_some ⟨hIm0, hFm0, ⟨by decide, by decide⟩⟩
    · exfalso; omega
  · have r3 : 0 ≤ (m0 89 4) ∧ (m0 89 4) ≤ 4 := zi_rd hIm0 zq_89 zb_16_4
    refine zw_ite (fun h4 => ?_) (fun h4 => ?_)
    · refine zw_b (by omega) ?_
      refine zw_some ?_
      refine zw_ite (fun h5 => ?_) (fun h5 => ?_)
      · exact zw_some ⟨hIm0, hFm0, ⟨by decide, by decide⟩⟩
      · exfalso; omega
    · refine zw_b (by omega) ?_
      refine zw_some ?_
      refine zw_ite (fun h6 => ?_) (fun h6 => ?_)
      · exfalso; omega
      · refine zw_ite (fun h7 => ?_) (fun h7 => ?_)
        · exact zw_some ⟨hIm0, hFm0, ⟨by decide, by decide⟩⟩
        · refine zw_ite (fun h8 => ?_) (fun h8 => ?_)
          · refine zw_bd (zw_mono (zk_284 n hIm0 zq_153 ⟨by omega, by omega⟩ ⟨by omega, by omega⟩ ⟨by omega, by omega⟩) (fun v10 m9 hqm9 => ?_))
            obtain ⟨hIm9, hfm9, hvm9⟩ := hqm9
            have hFm9 := zfr_tr hFm0 hfm9 rfl
            exact zw_some ⟨hIm9, hFm9, ⟨by omega, by omega⟩⟩
          · exact zw_some ⟨hIm0, hFm0, ⟨by decide, by decide⟩⟩
set_option maxHeartbeats 4000000 in
theorem zk_65 (n : Nat) {a0 : Int} {m0 : zu_m} (hIm0 : zi_I m0) (hc0 : zcls a0 = 2)      : zw (zu_call (zt_T n) 65 [(5, a0)] m0) (fun v m => zi_I m ∧ zfr [(24, 19), (93, 0), (94, 0)] m0 m ∧ (0 ≤ v ∧ v ≤ 16)) := by
  have hFm0 : zfr [(24, 19), (93, 0), (94, 0)] m0 m0 := zfr_rf _ _
  refine zw_eq (zu_call_at (zt_T n) (zm_65 n) (zdp_65 n) _ _ _ _ _ rfl (zr_65_0 n _ _ a0 m0)) ?_
  refine zw_bd (zw_mono (zk_294 n hIm0 zq_153) (fun v2 m1 hqm1 => ?_))
  obtain ⟨hIm1, hfm1, hvm1⟩ := hqm1
  have hFm1 := zfr_tr hFm0 hfm1 rfl
  exact zw_some ⟨hIm1, hFm1, ⟨by omega, by omega⟩⟩
set_option maxHeartbeats 4000000 in
theorem zk_66 (n : Nat) {a0 a1 : Int} {m0 : zu_m} (hIm0 : zi_I m0) (hc0 : zcls a0 = 2) (ha1 : (-2147483648) ≤ a1 ∧ a1 ≤ 2147483647)     : zw (zu_call (zt_T n) 66 [(5, a0), (0, a1)] m0) (fun v m => zi_I m ∧ zfr [(24, 19), (93, 0), (94, 0)] m0 m ∧ ((-2147483648) ≤ v ∧ v ≤ 2147483647)) := by
  have hFm0 : zfr [(24, 19), (93, 0), (94, 0)] m0 m0 := zfr_rf _ _
  refine zw_eq (zu_call_at (zt_T n) (zm_66 n) (zdp_66 n) _ _ _ _ _ rfl (zr_66_0 n _ _ a0 a1 m0)) ?_
  refine zw_ite (fun h1 => ?_) (fun h1 => ?_)
  · refine zw_bd (zw_mono (zk_294 n hIm0 zq_153) (fun v3 m2 hqm2 => ?_))
    obtain ⟨hIm2, hfm2, hvm2⟩ := hqm2
    have hFm2 := zfr_tr hFm0 hfm2 rfl
    refine zw_ite (fun h4 => ?_) (fun h4 => ?_)
    · exact zw_some ⟨hIm2, hFm2, ⟨by decide, by decide⟩⟩
    · have b5 : 0 ≤ a1 ∧ a1 < 16 := by omega
      refine zw_if b5 ?_
      have r6 : (-2147483648) ≤ (m2 163 a1) ∧ (m2 163 a1) ≤ 2147483647 := zi_rd hIm2 zq_163 (zb_94 _)
      exact zw_some ⟨hIm2, hFm2, ⟨by omega, by omega⟩⟩
  · exact zw_some ⟨hIm0, hFm0, ⟨by decide, by decide⟩⟩
set_option maxHeartbeats 4000000 in
theorem zk_99 (n : Nat) {a0 : Int} {m0 : zu_m} (hIm0 : zi_I m0) (hc0 : zcls a0 = 28)     (hRCRm0 : zR_CR m0) (hRLRm0 : zR_LR m0) (hRNSm0 : zR_NS m0) (hRTRm0 : zR_TR m0) (hRWDm0 : zR_WD m0) : zw (zu_call (zt_T n) 99 [(40, a0)] m0) (fun v m => zi_I m ∧ zfr [(28, 5), (28, 6), (28, 8), (28, 9), (28, 10), (28, 11), (28, 12), (28, 18), (28, 19), (102, 0)] m0 m ∧ zR_CR m ∧ zR_LR m ∧ zR_NS m ∧ zR_TR m ∧ zR_WD m ∧ (0 ≤ v ∧ v ≤ 1) ∧ ((m0 a0 7) ≤ (m a0 7)) ∧ (v = 1 → ((m a0 8) = 0 ∨ (m0 a0 7) < (m a0 7))) ∧ (v = 1 → (m a0 4) = (m0 a0 4))) := by
  have hFm0 : zfr [(28, 5), (28, 6), (28, 8), (28, 9), (28, 10), (28, 11), (28, 12), (28, 18), (28, 19), (102, 0)] m0 m0 := zfr_rf _ _
  have r1 : 0 ≤ (m0 a0 7) ∧ (m0 a0 7) ≤ 700 := zi_rd hIm0 hc0 zb_28_7
  have r2 : (-2147483648) ≤ (m0 a0 4) ∧ (m0 a0 4) ≤ 2147483647 := zi_rd hIm0 hc0 zb_28_4
  have s3 := hRNSm0 a0 hc0
  refine zw_eq (zu_call_at (zt_T n) (zm_99 n) (zdp_99 n) _ _ _ _ _ rfl (zr_99_0 n _ _ a0 m0)) ?_
  have b4 : 0 ≤ (0 : Int) ∧ (0 : Int) < 6 := by omega
  refine zw_if b4 ?_
  have r5 : 0 ≤ (m0 193 0) ∧ (m0 193 0) ≤ 1 := zi_rd hIm0 zq_193 (zb_102 _)
  refine zw_ite (fun h6 => ?_) (fun h6 => ?_)
  · have r7 : 0 ≤ (m0 a0 23) ∧ (m0 a0 23) ≤ 1 := zi_rd hIm0 hc0 zb_28_23
    refine zw_ite (fun h8 => ?_) (fun h8 => ?_)
    · have r9 : 0 ≤ (m0 a0 20) ∧ (m0 a0 20) ≤ 4 := zi_rd hIm0 hc0 zb_28_20
      have s10 := zCR_ap (zone_190 hc0) hRCRm0
      refine zw_b (by omega) ?_
      have b11 : 0 ≤ (0 : Int) ∧ (0 : Int) < 6 := by omega
      refine zw_if b11 ?_
      generalize hmm12 : zu_up m0 193 0 1 = m12
      have hIm12 := zi_up hmm12 hIm0 zq_193 (zb_102 _) (by omega) (by omega)
      have hFm12 := zfr_up hmm12 hFm0 zq_193 rfl
      have hRCRm12 := zR_CR_fr (zdis_fr (zfr_up hmm12 (zfr_rf [(102, 0)] _) zq_193 rfl) rfl) hRCRm0
      have hRLRm12 := zR_LR_fr (zdis_fr (zfr_up hmm12 (zfr_rf [(102, 0)] _) zq_193 rfl) rfl) hRLRm0
      have hRNSm12 := zR_NS_fr (zdis_fr (zfr_up hmm12 (zfr_rf [(102, 0)] _) zq_193 rfl) rfl) hRNSm0
      have hRTRm12 := zR_TR_fr (zdis_fr (zfr_up hmm12 (zfr_rf [(102, 0)] _) zq_193 rfl) rfl) hRTRm0
      have hRWDm12 := zR_WD_fr (zdis_fr (zfr_up hmm12 (zfr_rf [(102, 0)] _) zq_193 rfl) rfl) hRWDm0
      have r15 : 0 ≤ (m12 a0 7) ∧ (m12 a0 7) ≤ 700 := zi_rd hIm12 hc0 zb_28_7
      have e16 : (m12 a0 7) = (m0 a0 7) := (zs_ne hmm12 (Or.inl (zc_ne hc0 zq_193 (by decide))))
      refine zw_bd (zw_mono (zk_89 n hIm12 hc0 hRNSm12 hRWDm12) (fun v14 m13 hqm13 => ?_))
      obtain ⟨hIm13, hfm13, hvm13⟩ := hqm13
      have hFm13 := zfr_tr hFm12 hfm13 rfl
      obtain ⟨hRNSm13, hRTRm13, hRWDm13, hvm13⟩ := hvm13
      have hRCRm13 := zR_CR_fr (zdis_fr hfm13 rfl) hRCRm12
      have hRLRm13 := zR_LR_fr (zdis_fr hfm13 rfl) hRLRm12
      have s17 := hRNSm13 a0 hc0
      have r18 : 0 ≤ (m13 a0 7) ∧ (m13 a0 7) ≤ 700 := zi_rd hIm13 hc0 zb_28_7
      have r19 : 0 ≤ (m13 a0 8) ∧ (m13 a0 8) ≤ 6 := zi_rd hIm13 hc0 zb_28_8
      refine zw_bd (zw_eq (zu_call_at (zt_T n) (zm_94 n) (zdp_94 n) _ _ _ _ _ rfl (zr_94_0 n _ _ a0 1 8 m13)) ?_)
      refine zw_ite (fun h20 => ?_) (fun h20 => ?_)
      · have s21 := (hRTRm13 a0 hc0).2.2 (by omega)
        refine zw_bd (zw_eq (zu_call_at (zt_T n) (zm_83 n) (zdp_83 n) _ _ _ _ _ rfl (zr_83_0 n _ _ (m13 a0 9) 1 8 m13)) ?_)
        refine zw_ite (fun h22 => ?_) (fun h22 => ?_)
        · refine zw_b (by omega) ?_
          refine zw_some ?_
          refine zw_ite (fun h23 => ?_) (fun h23 => ?_)
          · exfalso; omega
          · refine zw_bd (zw_eq (zu_call_at (zt_T n) (zm_85 n) (zdp_85 n) _ _ _ _ _ rfl (zr_85_0 n _ _ a0 2 m13)) ?_)
            generalize hmm24 : zu_up m13 a0 4 2 = m24
            have hIm24 := zi_up hmm24 hIm13 hc0 zb_28_4 (by omega) (by omega)
            have hFm24 := zfr_up hmm24 hFm13 hc0 rfl
            have hRCRm24 := zR_CR_fr (zdis_fr (zfr_up hmm24 (zfr_rf [(28, 5)] _) hc0 rfl) rfl) hRCRm13
            have hRNSm24 := zR_NS_fr (zdis_fr (zfr_up hmm24 (zfr_rf [(28, 5)] _) hc0 rfl) rfl) hRNSm13
            have hRTRm24 := zR_TR_fr (zdis_fr (zfr_up hmm24 (zfr_rf [(28, 5)] _) hc0 rfl) rfl) hRTRm13
            have hRWDm24 := zR_WD_fr (zdis_fr (zfr_up hmm24 (zfr_rf [(28, 5)] _) hc0 rfl) rfl) hRWDm13
            have hRLRm24 := zLR_wr (zone_190 hc0) hmm24 (by decide)
            have r25 : 0 ≤ (m24 a0 10) ∧ (m24 a0 10) ≤ 700 := zi_rd hIm24 hc0 zb_28_10
            generalize hmm26 : zu_up m24 a0 5 (m24 a0 10) = m26
            have hIm26 := zi_up hmm26 hIm24 hc0 zb_28_5 (by omega) (by omega)
            have hFm26 := zfr_up hmm26 hFm24 hc0 rfl
            have hRCRm26 := zR_CR_fr (zdis_fr (zfr_up hmm26 (zfr_rf [(28, 6)] _) hc0 rfl) rfl) hRCRm24
            have hRLRm26 := zR_LR_fr (zdis_fr (zfr_up hmm26 (zfr_rf [(28, 6)] _) hc0 rfl) rfl) hRLRm24
            have hRNSm26 := zR_NS_fr (zdis_fr (zfr_up hmm26 (zfr_rf [(28, 6)] _) hc0 rfl) rfl) hRNSm24
            have hRTRm26 := zR_TR_fr (zdis_fr (zfr_up hmm26 (zfr_rf [(28, 6)] _) hc0 rfl) rfl) hRTRm24
            have hRWDm26 := zR_WD_fr (zdis_fr (zfr_up hmm26 (zfr_rf [(28, 6)] _) hc0 rfl) rfl) hRWDm24
            refine zw_b (by omega) ?_
            refine zw_some ?_
            refine zw_b (by omega) ?_
            refine zw_some ?_
            refine zw_ite (fun h27 => ?_) (fun h27 => ?_)
            · exfalso; omega
            · refine zw_b (by omega) ?_
              have r28 : 0 ≤ (m26 a0 7) ∧ (m26 a0 7) ≤ 700 := zi_rd hIm26 hc0 zb_28_7
              have e29 : (m26 a0 7) = (m13 a0 7) := (Eq.trans (zs_ne hmm26 (Or.inr (by decide))) (zs_ne hmm24 (Or.inr (by decide))))
              have r30 : 0 ≤ (m26 a0 8) ∧ (m26 a0 8) ≤ 6 := zi_rd hIm26 hc0 zb_28_8
              have e31 : (m26 a0 8) = (m13 a0 8) := (Eq.trans (zs_ne hmm26 (Or.inr (by decide))) (zs_ne hmm24 (Or.inr (by decide))))
              have r32 : (-2147483648) ≤ (m26 a0 4) ∧ (m26 a0 4) ≤ 2147483647 := zi_rd hIm26 hc0 zb_28_4
              have e33 : (m26 a0 4) = 2 := (Eq.trans (zs_ne hmm26 (Or.inr (by decide))) (zs_eq hmm24))
              exact zw_some ⟨hIm26, hFm26, hRCRm26, hRLRm26, hRNSm26, hRTRm26, hRWDm26, ⟨by decide, by decide⟩, by omega, fun h => absurd h (by decide), fun h => absurd h (by decide)⟩
        · refine zw_ite (fun h34 => ?_) (fun h34 => ?_)
          · refine zw_b (by omega) ?_
            refine zw_some ?_
            refine zw_ite (fun h35 => ?_) (fun h35 => ?_)
            · exfalso; omega
            · refine zw_bd (zw_eq (zu_call_at (zt_T n) (zm_85 n) (zdp_85 n) _ _ _ _ _ rfl (zr_85_0 n _ _ a0 2 m13)) ?_)
              generalize hmm36 : zu_up m13 a0 4 2 = m36
              have hIm36 := zi_up hmm36 hIm13 hc0 zb_28_4 (by omega) (by omega)
              have hFm36 := zfr_up hmm36 hFm13 hc0 rfl
              have hRCRm36 := zR_CR_fr (zdis_fr (zfr_up hmm36 (zfr_rf [(28, 5)] _) hc0 rfl) rfl) hRCRm13
              have hRNSm36 := zR_NS_fr (zdis_fr (zfr_up hmm36 (zfr_rf [(28, 5)] _) hc0 rfl) rfl) hRNSm13
              have hRTRm36 := zR_TR_fr (zdis_fr (zfr_up hmm36 (zfr_rf [(28, 5)] _) hc0 rfl) rfl) hRTRm13
              have hRWDm36 := zR_WD_fr (zdis_fr (zfr_up hmm36 (zfr_rf [(28, 5)] _) hc0 rfl) rfl) hRWDm13
              have hRLRm36 := zLR_wr (zone_190 hc0) hmm36 (by decide)
              have r37 : 0 ≤ (m36 a0 10) ∧ (m36 a0 10) ≤ 700 := zi_rd hIm36 hc0 zb_28_10
              generalize hmm38 : zu_up m36 a0 5 (m36 a0 10) = m38
              have hIm38 := zi_up hmm38 hIm36 hc0 zb_28_5 (by omega) (by omega)
              have hFm38 := zfr_up hmm38 hFm36 hc0 rfl
              have hRCRm38 := zR_CR_fr (zdis_fr (zfr_up hmm38 (zfr_rf [(28, 6)] _) hc0 rfl) rfl) hRCRm36
              have hRLRm38 := zR_LR_fr (zdis_fr (zfr_up hmm38 (zfr_rf [(28, 6)] _) hc0 rfl) rfl) hRLRm36
              have hRNSm38 := zR_NS_fr (zdis_fr (zfr_up hmm38 (zfr_rf [(28, 6)] _) hc0 rfl) rfl) hRNSm36
              have hRTRm38 := zR_TR_fr (zdis_fr (zfr_up hmm38 (zfr_rf [(28, 6)] _) hc0 rfl) rfl) hRTRm36
              have hRWDm38 := zR_WD_fr (zdis_fr (zfr_up hmm38 (zfr_rf [(28, 6)] _) hc0 rfl) rfl) hRWDm36
              refine zw_b (by omega) ?_
              refine zw_some ?_
              refine zw_b (by omega) ?_
              refine zw_some ?_
              refine zw_ite (fun h39 => ?_) (fun h39 => ?_)
              · exfalso; omega
              · refine zw_b (by omega) ?_
                have r40 : 0 ≤ (m38 a0 7) ∧ (m38 a0 7) ≤ 700 := zi_rd hIm38 hc0 zb_28_7
                have e41 : (m38 a0 7) = (m13 a0 7) := (Eq.trans (zs_ne hmm38 (Or.inr (by decide))) (zs_ne hmm36 (Or.inr (by decide))))
                have r42 : 0 ≤ (m38 a0 8) ∧ (m38 a0 8) ≤ 6 := zi_rd hIm38 hc0 zb_28_8
                have e43 : (m38 a0 8) = (m13 a0 8) := (Eq.trans (zs_ne hmm38 (Or.inr (by decide))) (zs_ne hmm36 (Or.inr (by decide))))
                have r44 : (-2147483648) ≤ (m38 a0 4) ∧ (m38 a0 4) ≤ 2147483647 := zi_rd hIm38 hc0 zb_28_4
                have e45 : (m38 a0 4) = 2 := (Eq.trans (zs_ne hmm38 (Or.inr (by decide))) (zs_eq hmm36))
                exact zw_some ⟨hIm38, hFm38, hRCRm38, hRLRm38, hRNSm38, hRTRm38, hRWDm38, ⟨by decide, by decide⟩, by omega, fun h => absurd h (by decide), fun h => absurd h (by decide)⟩
          · refine zw_b (by omega) ?_
            refine zw_some ?_
            refine zw_ite (fun h46 => ?_) (fun h46 => ?_)
            · generalize hmm47 : zu_up m13 a0 11 (m13 a0 9) = m47
              have hIm47 := zi_up hmm47 hIm13 hc0 zb_28_11 (by omega) (by omega)
              have hFm47 := zfr_up hmm47 hFm13 hc0 rfl
              have hRCRm47 := zR_CR_fr (zdis_fr (zfr_up hmm47 (zfr_rf [(28, 12)] _) hc0 rfl) rfl) hRCRm13
              have hRLRm47 := zR_LR_fr (zdis_fr (zfr_up hmm47 (zfr_rf [(28, 12)] _) hc0 rfl) rfl) hRLRm13
              have hRNSm47 := zR_NS_fr (zdis_fr (zfr_up hmm47 (zfr_rf [(28, 12)] _) hc0 rfl) rfl) hRNSm13
              have hRTRm47 := zR_TR_fr (zdis_fr (zfr_up hmm47 (zfr_rf [(28, 12)] _) hc0 rfl) rfl) hRTRm13
              have hRWDm47 := zR_WD_fr (zdis_fr (zfr_up hmm47 (zfr_rf [(28, 12)] _) hc0 rfl) rfl) hRWDm13
              have r50 : 0 ≤ (m47 a0 7) ∧ (m47 a0 7) ≤ 700 := zi_rd hIm47 hc0 zb_28_7
              have e51 : (m47 a0 7) = (m13 a0 7) := (zs_ne hmm47 (Or.inr (by decide)))
              refine zw_bd (zw_mono (zk_89 n hIm47 hc0 hRNSm47 hRWDm47) (fun v49 m48 hqm48 => ?_))
              obtain ⟨hIm48, hfm48, hvm48⟩ := hqm48
              have hFm48 := zfr_tr hFm47 hfm48 rfl
              obtain ⟨hRNSm48, hRTRm48, hRWDm48, hvm48⟩ := hvm48
              have hRCRm48 := zR_CR_fr (zdis_fr hfm48 rfl) hRCRm47
              have hRLRm48 := zR_LR_fr (zdis_fr hfm48 rfl) hRLRm47
              have s52 := hRNSm48 a0 hc0
              have r53 : 0 ≤ (m48 a0 7) ∧ (m48 a0 7) ≤ 700 := zi_rd hIm48 hc0 zb_28_7
              have r54 : 0 ≤ (m48 a0 8) ∧ (m48 a0 8) ≤ 6 := zi_rd hIm48 hc0 zb_28_8
              refine zw_b (by omega) ?_
              refine zw_some ?_
              refine zw_ite (fun h55 => ?_) (fun h55 => ?_)
              · have r56 : (-2147483648) ≤ (m48 a0 11) ∧ (m48 a0 11) ≤ 2147483647 := zi_rd hIm48 hc0 zb_28_11
                have e57 : (m48 a0 11) = (m13 a0 9) := (Eq.trans (zfr_ap hfm48 hc0 rfl) (zs_eq hmm47))
                generalize hmm58 : zu_up m48 a0 17 (m48 a0 11) = m58
                have hIm58 := zi_up hmm58 hIm48 hc0 zb_28_17 (by omega) (by omega)
                have hFm58 := zfr_up hmm58 hFm48 hc0 rfl
                have hRLRm58 := zR_LR_fr (zdis_fr (zfr_up hmm58 (zfr_rf [(28, 18)] _) hc0 rfl) rfl) hRLRm48
                have hRNSm58 := zR_NS_fr (zdis_fr (zfr_up hmm58 (zfr_rf [(28, 18)] _) hc0 rfl) rfl) hRNSm48
                have hRTRm58 := zR_TR_fr (zdis_fr (zfr_up hmm58 (zfr_rf [(28, 18)] _) hc0 rfl) rfl) hRTRm48
                have hRWDm58 := zR_WD_fr (zdis_fr (zfr_up hmm58 (zfr_rf [(28, 18)] _) hc0 rfl) rfl) hRWDm48
                have r59 : 0 ≤ (m58 a0 20) ∧ (m58 a0 20) ≤ 4 := zi_rd hIm58 hc0 zb_28_20
                have e60 : (m58 a0 20) = (m0 a0 20) := (Eq.trans (zs_ne hmm58 (Or.inr (by decide))) (Eq.trans (zfr_ap hfm48 hc0 rfl) (Eq.trans (zs_ne hmm47 (Or.inr (by decide))) (Eq.trans (zfr_ap hfm13 hc0 rfl) (zs_ne hmm12 (Or.inl (zc_ne hc0 zq_193 (by decide))))))))
                have hRCRm58 := zCR_zero (m := m58) (zone_190 hc0) (by omega) (by omega)
                refine zw_bd (zw_eq (zu_call_at (zt_T n) (zm_94 n) (zdp_94 n) _ _ _ _ _ rfl (zr_94_0 n _ _ a0 1 6 m58)) ?_)
                have r61 : 0 ≤ (m58 a0 8) ∧ (m58 a0 8) ≤ 6 := zi_rd hIm58 hc0 zb_28_8
                have e62 : (m58 a0 8) = (m48 a0 8) := (zs_ne hmm58 (Or.inr (by decide)))
                refine zw_ite (fun h63 => ?_) (fun h63 => ?_)
                · have s64 := (hRTRm48 a0 hc0).2.2 (by omega)
                  have r65 : (-2147483648) ≤ (m58 a0 9) ∧ (m58 a0 9) ≤ 2147483647 := zi_rd hIm58 hc0 zb_28_9
                  have e66 : (m58 a0 9) = (m48 a0 9) := (zs_ne hmm58 (Or.inr (by decide)))
                  refine zw_bd (zw_eq (zu_call_at (zt_T n) (zm_83 n) (zdp_83 n) _ _ _ _ _ rfl (zr_83_0 n _ _ (m58 a0 9) 1 6 m58)) ?_)
                  refine zw_ite (fun h67 => ?_) (fun h67 => ?_)
                  · refine zw_b (by omega) ?_
                    refine zw_some ?_
                    refine zw_ite (fun h68 => ?_) (fun h68 => ?_)
                    · exfalso; omega
                    · refine zw_bd (zw_eq (zu_call_at (zt_T n) (zm_85 n) (zdp_85 n) _ _ _ _ _ rfl (zr_85_0 n _ _ a0 2 m58)) ?_)
                      generalize hmm69 : zu_up m58 a0 4 2 = m69
                      have hIm69 := zi_up hmm69 hIm58 hc0 zb_28_4 (by omega) (by omega)
                      have hFm69 := zfr_up hmm69 hFm58 hc0 rfl
                      have hRCRm69 := zR_CR_fr (zdis_fr (zfr_up hmm69 (zfr_rf [(28, 5)] _) hc0 rfl) rfl) hRCRm58
                      have hRNSm69 := zR_NS_fr (zdis_fr (zfr_up hmm69 (zfr_rf [(28, 5)] _) hc0 rfl) rfl) hRNSm58
                      have hRTRm69 := zR_TR_fr (zdis_fr (zfr_up hmm69 (zfr_rf [(28, 5)] _) hc0 rfl) rfl) hRTRm58
                      have hRWDm69 := zR_WD_fr (zdis_fr (zfr_up hmm69 (zfr_rf [(28, 5)] _) hc0 rfl) rfl) hRWDm58
                      have hRLRm69 := zLR_wr (zone_190 hc0) hmm69 (by decide)
                      have r70 : 0 ≤ (m69 a0 10) ∧ (m69 a0 10) ≤ 700 := zi_rd hIm69 hc0 zb_28_10
                      generalize hmm71 : zu_up m69 a0 5 (m69 a0 10) = m71
                      have hIm71 := zi_up hmm71 hIm69 hc0 zb_28_5 (by omega) (by omega)
                      have hFm71 := zfr_up hmm71 hFm69 hc0 rfl
                      have hRCRm71 := zR_CR_fr (zdis_fr (zfr_up hmm71 (zfr_rf [(28, 6)] _) hc0 rfl) rfl) hRCRm69
                      have hRLRm71 := zR_LR_fr (zdis_fr (zfr_up hmm71 (zfr_rf [(28, 6)] _) hc0 rfl) rfl) hRLRm69
                      have hRNSm71 := zR_NS_fr (zdis_fr (zfr_up hmm71 (zfr_rf [(28, 6)] _) hc0 rfl) rfl) hRNSm69
                      have hRTRm71 := zR_TR_fr (zdis_fr (zfr_up hmm71 (zfr_rf [(28, 6)] _) hc0 rfl) rfl) hRTRm69
                      have hRWDm71 := zR_WD_fr (zdis_fr (zfr_up hmm71 (zfr_rf [(28, 6)] _) hc0 rfl) rfl) hRWDm69
                      refine zw_b (by omega) ?_
                      refine zw_some ?_
                      refine zw_b (by omega) ?_
                      refine zw_some ?_
                      refine zw_ite (fun h72 => ?_) (fun h72 => ?_)
                      · exfalso; omega
                      · refine zw_b (by omega) ?_
                        have r73 : 0 ≤ (m71 a0 7) ∧ (m71 a0 7) ≤ 700 := zi_rd hIm71 hc0 zb_28_7
                        have e74 : (m71 a0 7) = (m48 a0 7) := (Eq.trans (zs_ne hmm71 (Or.inr (by decide))) (Eq.trans (zs_ne hmm69 (Or.inr (by decide))) (zs_ne hmm58 (Or.inr (by decide)))))
                        have r75 : 0 ≤ (m71 a0 8) ∧ (m71 a0 8) ≤ 6 := zi_rd hIm71 hc0 zb_28_8
                        have e76 : (m71 a0 8) = (m58 a0 8) := (Eq.trans (zs_ne hmm71 (Or.inr (by decide))) (zs_ne hmm69 (Or.inr (by decide))))
                        have r77 : (-2147483648) ≤ (m71 a0 4) ∧ (m71 a0 4) ≤ 2147483647 := zi_rd hIm71 hc0 zb_28_4
                        have e78 : (m71 a0 4) = 2 := (Eq.trans (zs_ne hmm71 (Or.inr (by decide))) (zs_eq hmm69))
                        exact zw_some ⟨hIm71, hFm71, hRCRm71, hRLRm71, hRNSm71, hRTRm71, hRWDm71, ⟨by decide, by decide⟩, by omega, fun h => absurd h (by decide), fun h => absurd h (by decide)⟩
                  · refine zw_ite (fun h79 => ?_) (fun h79 => ?_)
                    · refine zw_b (by omega) ?_
                      refine zw_some ?_
                      refine zw_ite (fun h80 => ?_) (fun h80 => ?_)
                      · exfalso; omega
                      · refine zw_bd (zw_eq (zu_call_at (zt_T n) (zm_85 n) (zdp_85 n) _ _ _ _ _ rfl (zr_85_0 n _ _ a0 2 m58)) ?_)
                        generalize hmm81 : zu_up m58 a0 4 2 = m81
                        have hIm81 := zi_up hmm81 hIm58 hc0 zb_28_4 (by omega) (by omega)
                        have hFm81 := zfr_up hmm81 hFm58 hc0 rfl
                        have hRCRm81 := zR_CR_fr (zdis_fr (zfr_up hmm81 (zfr_rf [(28, 5)] _) hc0 rfl) rfl) hRCRm58
                        have hRNSm81 := zR_NS_fr (zdis_fr (zfr_up hmm81 (zfr_rf [(28, 5)] _) hc0 rfl) rfl) hRNSm58
                        have hRTRm81 := zR_TR_fr (zdis_fr (zfr_up hmm81 (zfr_rf [(28, 5)] _) hc0 rfl) rfl) hRTRm58
                        have hRWDm81 := zR_WD_fr (zdis_fr (zfr_up hmm81 (zfr_rf [(28, 5)] _) hc0 rfl) rfl) hRWDm58
                        have hRLRm81 := zLR_wr (zone_190 hc0) hmm81 (by decide)
                        have r82 : 0 ≤ (m81 a0 10) ∧ (m81 a0 10) ≤ 700 := zi_rd hIm81 hc0 zb_28_10
                        generalize hmm83 : zu_up m81 a0 5 (m81 a0 10) = m83
                        have hIm83 := zi_up hmm83 hIm81 hc0 zb_28_5 (by omega) (by omega)
                        have hFm83 := zfr_up hmm83 hFm81 hc0 rfl
                        have hRCRm83 := zR_CR_fr (zdis_fr (zfr_up hmm83 (zfr_rf [(28, 6)] _) hc0 rfl) rfl) hRCRm81
                        have hRLRm83 := zR_LR_fr (zdis_fr (zfr_up hmm83 (zfr_rf [(28, 6)] _) hc0 rfl) rfl) hRLRm81
                        have hRNSm83 := zR_NS_fr (zdis_fr (zfr_up hmm83 (zfr_rf [(28, 6)] _) hc0 rfl) rfl) hRNSm81
                        have hRTRm83 := zR_TR_fr (zdis_fr (zfr_up hmm83 (zfr_rf [(28, 6)] _) hc0 rfl) rfl) hRTRm81
                        have hRWDm83 := zR_WD_fr (zdis_fr (zfr_up hmm83 (zfr_rf [(28, 6)] _) hc0 rfl) rfl) hRWDm81
                        refine zw_b (by omega) ?_
                        refine zw_some ?_
                        refine zw_b (by omega) ?_
                        refine zw_some ?_
                        refine zw_ite (fun h84 => ?_) (fun h84 => ?_)
                        · exfalso; omega
                        · refine zw_b (by omega) ?_
                          have r85 : 0 ≤ (m83 a0 7) ∧ (m83 a0 7) ≤ 700 := zi_rd hIm83 hc0 zb_28_7
                          have e86 : (m83 a0 7) = (m48 a0 7) := (Eq.trans (zs_ne hmm83 (Or.inr (by decide))) (Eq.trans (zs_ne hmm81 (Or.inr (by decide))) (zs_ne hmm58 (Or.inr (by decide)))))
                          have r87 : 0 ≤ (m83 a0 8) ∧ (m83 a0 8) ≤ 6 := zi_rd hIm83 hc0 zb_28_8
                          have e88 : (m83 a0 8) = (m58 a0 8) := (Eq.trans (zs_ne hmm83 (Or.inr (by decide))) (zs_ne hmm81 (Or.inr (by decide))))
                          have r89 : (-2147483648) ≤ (m83 a0 4) ∧ (m83 a0 4) ≤ 2147483647 := zi_rd hIm83 hc0 zb_28_4
                          have e90 : (m83 a0 4) = 2 := (Eq.trans (zs_ne hmm83 (Or.inr (by decide))) (zs_eq hmm81))
                          exact zw_some ⟨hIm83, hFm83, hRCRm83, hRLRm83, hRNSm83, hRTRm83, hRWDm83, ⟨by decide, by decide⟩, by omega, fun h => absurd h (by decide), fun h => absurd h (by decide)⟩
                    · refine zw_b (by omega) ?_
                      refine zw_some ?_
                      refine zw_ite (fun h91 => ?_) (fun h91 => ?_)
                      · generalize hmm92 : zu_up m58 a0 11 (m58 a0 9) = m92
                        have hIm92 := zi_up hmm92 hIm58 hc0 zb_28_11 (by omega) (by omega)
                        have hFm92 := zfr_up hmm92 hFm58 hc0 rfl
                        have hRCRm92 := zR_CR_fr (zdis_fr (zfr_up hmm92 (zfr_rf [(28, 12)] _) hc0 rfl) rfl) hRCRm58
                        have hRLRm92 := zR_LR_fr (zdis_fr (zfr_up hmm92 (zfr_rf [(28, 12)] _) hc0 rfl) rfl) hRLRm58
                        have hRNSm92 := zR_NS_fr (zdis_fr (zfr_up hmm92 (zfr_rf [(28, 12)] _) hc0 rfl) rfl) hRNSm58
                        have hRTRm92 := zR_TR_fr (zdis_fr (zfr_up hmm92 (zfr_rf [(28, 12)] _) hc0 rfl) rfl) hRTRm58
                        have hRWDm92 := zR_WD_fr (zdis_fr (zfr_up hmm92 (zfr_rf [(28, 12)] _) hc0 rfl) rfl) hRWDm58
                        have r95 : 0 ≤ (m92 a0 7) ∧ (m92 a0 7) ≤ 700 := zi_rd hIm92 hc0 zb_28_7
                        have e96 : (m92 a0 7) = (m48 a0 7) := (Eq.trans (zs_ne hmm92 (Or.inr (by decide))) (zs_ne hmm58 (Or.inr (by decide))))
                        refine zw_bd (zw_mono (zk_89 n hIm92 hc0 hRNSm92 hRWDm92) (fun v94 m93 hqm93 => ?_))
                        obtain ⟨hIm93, hfm93, hvm93⟩ := hqm93
                        have hFm93 := zfr_tr hFm92 hfm93 rfl
                        obtain ⟨hRNSm93, hRTRm93, hRWDm93, hvm93⟩ := hvm93
                        have hRCRm93 := zR_CR_fr (zdis_fr hfm93 rfl) hRCRm92
                        have hRLRm93 := zR_LR_fr (zdis_fr hfm93 rfl) hRLRm92
                        have s97 := hRNSm93 a0 hc0
                        have r98 : 0 ≤ (m93 a0 7) ∧ (m93 a0 7) ≤ 700 := zi_rd hIm93 hc0 zb_28_7
                        have r99 : 0 ≤ (m93 a0 8) ∧ (m93 a0 8) ≤ 6 := zi_rd hIm93 hc0 zb_28_8
                        refine zw_b (by omega) ?_
                        refine zw_some ?_
                        refine zw_ite (fun h100 => ?_) (fun h100 => ?_)
                        · have r101 : (-2147483648) ≤ (m93 a0 11) ∧ (m93 a0 11) ≤ 2147483647 := zi_rd hIm93 hc0 zb_28_11
                          have e102 : (m93 a0 11) = (m58 a0 9) := (Eq.trans (zfr_ap hfm93 hc0 rfl) (zs_eq hmm92))
                          generalize hmm103 : zu_up m93 a0 18 (m93 a0 11) = m103
                          have hIm103 := zi_up hmm103 hIm93 hc0 zb_28_18 (by omega) (by omega)
                          have hFm103 := zfr_up hmm103 hFm93 hc0 rfl
                          have hRLRm103 := zR_LR_fr (zdis_fr (zfr_up hmm103 (zfr_rf [(28, 19)] _) hc0 rfl) rfl) hRLRm93
                          have hRNSm103 := zR_NS_fr (zdis_fr (zfr_up hmm103 (zfr_rf [(28, 19)] _) hc0 rfl) rfl) hRNSm93
                          have hRTRm103 := zR_TR_fr (zdis_fr (zfr_up hmm103 (zfr_rf [(28, 19)] _) hc0 rfl) rfl) hRTRm93
                          have hRWDm103 := zR_WD_fr (zdis_fr (zfr_up hmm103 (zfr_rf [(28, 19)] _) hc0 rfl) rfl) hRWDm93
                          have r104 : 0 ≤ (m103 a0 20) ∧ (m103 a0 20) ≤ 4 := zi_rd hIm103 hc0 zb_28_20
                          have e105 : (m103 a0 20) = (m58 a0 20) := (Eq.trans (zs_ne hmm103 (Or.inr (by decide))) (Eq.trans (zfr_ap hfm93 hc0 rfl) (zs_ne hmm92 (Or.inr (by decide)))))
                          have hRCRm103 := zCR_zero (m := m103) (zone_190 hc0) (by omega) (by omega)
                          refine zw_b (by omega) ?_
                          have r106 : 0 ≤ (m103 a0 7) ∧ (m103 a0 7) ≤ 700 := zi_rd hIm103 hc0 zb_28_7
                          have e107 : (m103 a0 7) = (m93 a0 7) := (zs_ne hmm103 (Or.inr (by decide)))
                          have r108 : 0 ≤ (m103 a0 8) ∧ (m103 a0 8) ≤ 6 := zi_rd hIm103 hc0 zb_28_8
                          have e109 : (m103 a0 8) = (m93 a0 8) := (zs_ne hmm103 (Or.inr (by decide)))
                          have r110 : (-2147483648) ≤ (m103 a0 4) ∧ (m103 a0 4) ≤ 2147483647 := zi_rd hIm103 hc0 zb_28_4
                          have e111 : (m103 a0 4) = (m0 a0 4) := (Eq.trans (zs_ne hmm103 (Or.inr (by decide))) (Eq.trans (zfr_ap hfm93 hc0 rfl) (Eq.trans (zs_ne hmm92 (Or.inr (by decide))) (Eq.trans (zs_ne hmm58 (Or.inr (by decide))) (Eq.trans (zfr_ap hfm48 hc0 rfl) (Eq.trans (zs_ne hmm47 (Or.inr (by decide))) (Eq.trans (zfr_ap hfm13 hc0 rfl) (zs_ne hmm12 (Or.inl (zc_ne hc0 zq_193 (by decide)))))))))))
                          exact zw_some ⟨hIm103, hFm103, hRCRm103, hRLRm103, hRNSm103, hRTRm103, hRWDm103, ⟨by decide, by decide⟩, by omega, fun _ => by omega, fun _ => by omega⟩
                        · exfalso; omega
                      · exfalso; omega
                · refine zw_bd (zw_eq (zu_call_at (zt_T n) (zm_85 n) (zdp_85 n) _ _ _ _ _ rfl (zr_85_0 n _ _ a0 1 m58)) ?_)
                  generalize hmm112 : zu_up m58 a0 4 1 = m112
                  have hIm112 := zi_up hmm112 hIm58 hc0 zb_28_4 (by omega) (by omega)
                  have hFm112 := zfr_up hmm112 hFm58 hc0 rfl
                  have hRCRm112 := zR_CR_fr (zdis_fr (zfr_up hmm112 (zfr_rf [(28, 5)] _) hc0 rfl) rfl) hRCRm58
                  have hRNSm112 := zR_NS_fr (zdis_fr (zfr_up hmm112 (zfr_rf [(28, 5)] _) hc0 rfl) rfl) hRNSm58
                  have hRTRm112 := zR_TR_fr (zdis_fr (zfr_up hmm112 (zfr_rf [(28, 5)] _) hc0 rfl) rfl) hRTRm58
                  have hRWDm112 := zR_WD_fr (zdis_fr (zfr_up hmm112 (zfr_rf [(28, 5)] _) hc0 rfl) rfl) hRWDm58
                  have hRLRm112 := zLR_wr (zone_190 hc0) hmm112 (by decide)
                  have r113 : 0 ≤ (m112 a0 10) ∧ (m112 a0 10) ≤ 700 := zi_rd hIm112 hc0 zb_28_10
                  generalize hmm114 : zu_up m112 a0 5 (m112 a0 10) = m114
                  have hIm114 := zi_up hmm114 hIm112 hc0 zb_28_5 (by omega) (by omega)
                  have hFm114 := zfr_up hmm114 hFm112 hc0 rfl
                  have hRCRm114 := zR_CR_fr (zdis_fr (zfr_up hmm114 (zfr_rf [(28, 6)] _) hc0 rfl) rfl) hRCRm112
                  have hRLRm114 := zR_LR_fr (zdis_fr (zfr_up hmm114 (zfr_rf [(28, 6)] _) hc0 rfl) rfl) hRLRm112
                  have hRNSm114 := zR_NS_fr (zdis_fr (zfr_up hmm114 (zfr_rf [(28, 6)] _) hc0 rfl) rfl) hRNSm112
                  have hRTRm114 := zR_TR_fr (zdis_fr (zfr_up hmm114 (zfr_rf [(28, 6)] _) hc0 rfl) rfl) hRTRm112
                  have hRWDm114 := zR_WD_fr (zdis_fr (zfr_up hmm114 (zfr_rf [(28, 6)] _) hc0 rfl) rfl) hRWDm112
                  refine zw_b (by omega) ?_
                  refine zw_some ?_
                  refine zw_b (by omega) ?_
                  refine zw_some ?_
                  refine zw_ite (fun h115 => ?_) (fun h115 => ?_)
                  · exfalso; omega
                  · refine zw_b (by omega) ?_
                    have r116 : 0 ≤ (m114 a0 7) ∧ (m114 a0 7) ≤ 700 := zi_rd hIm114 hc0 zb_28_7
                    have e117 : (m114 a0 7) = (m48 a0 7) := (Eq.trans (zs_ne hmm114 (Or.inr (by decide))) (Eq.trans (zs_ne hmm112 (Or.inr (by decide))) (zs_ne hmm58 (Or.inr (by decide)))))
                    have r118 : 0 ≤ (m114 a0 8) ∧ (m114 a0 8) ≤ 6 := zi_rd hIm114 hc0 zb_28_8
                    have e119 : (m114 a0 8) = (m58 a0 8) := (Eq.trans (zs_ne hmm114 (Or.inr (by decide))) (zs_ne hmm112 (Or.inr (by decide))))
                    have r120 : (-2147483648) ≤ (m114 a0 4) ∧ (m114 a0 4) ≤ 2147483647 := zi_rd hIm114 hc0 zb_28_4
                    have e121 : (m114 a0 4) = 1 := (Eq.trans (zs_ne hmm114 (Or.inr (by decide))) (zs_eq hmm112))
                    exact zw_some ⟨hIm114, hFm114, hRCRm114, hRLRm114, hRNSm114, hRTRm114, hRWDm114, ⟨by decide, by decide⟩, by omega, fun h => absurd h (by decide), fun h => absurd h (by decide)⟩
              · exfalso; omega
            · exfalso; omega
      · refine zw_bd (zw_eq (zu_call_at (zt_T n) (zm_85 n) (zdp_85 n) _ _ _ _ _ rfl (zr_85_0 n _ _ a0 1 m13)) ?_)
        generalize hmm122 : zu_up m13 a0 4 1 = m122
        have hIm122 := zi_up hmm122 hIm13 hc0 zb_28_4 (by omega) (by omega)
        have hFm122 := zfr_up hmm122 hFm13 hc0 rfl
        have hRCRm122 := zR_CR_fr (zdis_fr (zfr_up hmm122 (zfr_rf [(28, 5)] _) hc0 rfl) rfl) hRCRm13
        have hRNSm122 := zR_NS_fr (zdis_fr (zfr_up hmm122 (zfr_rf [(28, 5)] _) hc0 rfl) rfl) hRNSm13
        have hRTRm122 := zR_TR_fr (zdis_fr (zfr_up hmm122 (zfr_rf [(28, 5)] _) hc0 rfl) rfl) hRTRm13
        have hRWDm122 := zR_WD_fr (zdis_fr (zfr_up hmm122 (zfr_rf [(28, 5)] _) hc0 rfl) rfl) hRWDm13
        have hRLRm122 := zLR_wr (zone_190 hc0) hmm122 (by decide)
        have r123 : 0 ≤ (m122 a0 10) ∧ (m122 a0 10) ≤ 700 := zi_rd hIm122 hc0 zb_28_10
        generalize hmm124 : zu_up m122 a0 5 (m122 a0 10) = m124
        have hIm124 := zi_up hmm124 hIm122 hc0 zb_28_5 (by omega) (by omega)
        have hFm124 := zfr_up hmm124 hFm122 hc0 rfl
        have hRCRm124 := zR_CR_fr (zdis_fr (zfr_up hmm124 (zfr_rf [(28, 6)] _) hc0 rfl) rfl) hRCRm122
        have hRLRm124 := zR_LR_fr (zdis_fr (zfr_up hmm124 (zfr_rf [(28, 6)] _) hc0 rfl) rfl) hRLRm122
        have hRNSm124 := zR_NS_fr (zdis_fr (zfr_up hmm124 (zfr_rf [(28, 6)] _) hc0 rfl) rfl) hRNSm122
        have hRTRm124 := zR_TR_fr (zdis_fr (zfr_up hmm124 (zfr_rf [(28, 6)] _) hc0 rfl) rfl) hRTRm122
        have hRWDm124 := zR_WD_fr (zdis_fr (zfr_up hmm124 (zfr_rf [(28, 6)] _) hc0 rfl) rfl) hRWDm122
        refine zw_b (by omega) ?_
        refine zw_some ?_
        refine zw_b (by omega) ?_
        refine zw_some ?_
        refine zw_ite (fun h125 => ?_) (fun h125 => ?_)
        · exfalso; omega
        · refine zw_b (by omega) ?_
          have r126 : 0 ≤ (m124 a0 7) ∧ (m124 a0 7) ≤ 700 := zi_rd hIm124 hc0 zb_28_7
          have e127 : (m124 a0 7) = (m13 a0 7) := (Eq.trans (zs_ne hmm124 (Or.inr (by decide))) (zs_ne hmm122 (Or.inr (by decide))))
          have r128 : 0 ≤ (m124 a0 8) ∧ (m124 a0 8) ≤ 6 := zi_rd hIm124 hc0 zb_28_8
          have e129 : (m124 a0 8) = (m13 a0 8) := (Eq.trans (zs_ne hmm124 (Or.inr (by decide))) (zs_ne hmm122 (Or.inr (by decide))))
          have r130 : (-2147483648) ≤ (m124 a0 4) ∧ (m124 a0 4) ≤ 2147483647 := zi_rd hIm124 hc0 zb_28_4
          have e131 : (m124 a0 4) = 1 := (Eq.trans (zs_ne hmm124 (Or.inr (by decide))) (zs_eq hmm122))
          exact zw_some ⟨hIm124, hFm124, hRCRm124, hRLRm124, hRNSm124, hRTRm124, hRWDm124, ⟨by decide, by decide⟩, by omega, fun h => absurd h (by decide), fun h => absurd h (by decide)⟩
    · refine zw_bd (zw_eq (zu_call_at (zt_T n) (zm_85 n) (zdp_85 n) _ _ _ _ _ rfl (zr_85_0 n _ _ a0 4 m0)) ?_)
      generalize hmm132 : zu_up m0 a0 4 4 = m132
      have hIm132 := zi_up hmm132 hIm0 hc0 zb_28_4 (by omega) (by omega)
      have hFm132 := zfr_up hmm132 hFm0 hc0 rfl
      have hRCRm132 := zR_CR_fr (zdis_fr (zfr_up hmm132 (zfr_rf [(28, 5)] _) hc0 rfl) rfl) hRCRm0
      have hRNSm132 := zR_NS_fr (zdis_fr (zfr_up hmm132 (zfr_rf [(28, 5)] _) hc0 rfl) rfl) hRNSm0
      have hRTRm132 := zR_TR_fr (zdis_fr (zfr_up hmm132 (zfr_rf [(28, 5)] _) hc0 rfl) rfl) hRTRm0
      have hRWDm132 := zR_WD_fr (zdis_fr (zfr_up hmm132 (zfr_rf [(28, 5)] _) hc0 rfl) rfl) hRWDm0
      have hRLRm132 := zLR_wr (zone_190 hc0) hmm132 (by decide)
      have r133 : 0 ≤ (m132 a0 10) ∧ (m132 a0 10) ≤ 700 := zi_rd hIm132 hc0 zb_28_10
      generalize hmm134 : zu_up m132 a0 5 (m132 a0 10) = m134
      have hIm134 := zi_up hmm134 hIm132 hc0 zb_28_5 (by omega) (by omega)
      have hFm134 := zfr_up hmm134 hFm132 hc0 rfl
      have hRCRm134 := zR_CR_fr (zdis_fr (zfr_up hmm134 (zfr_rf [(28, 6)] _) hc0 rfl) rfl) hRCRm132
      have hRLRm134 := zR_LR_fr (zdis_fr (zfr_up hmm134 (zfr_rf [(28, 6)] _) hc0 rfl) rfl) hRLRm132
      have hRNSm134 := zR_NS_fr (zdis_fr (zfr_up hmm134 (zfr_rf [(28, 6)] _) hc0 rfl) rfl) hRNSm132
      have hRTRm134 := zR_TR_fr (zdis_fr (zfr_up hmm134 (zfr_rf [(28, 6)] _) hc0 rfl) rfl) hRTRm132
      have hRWDm134 := zR_WD_fr (zdis_fr (zfr_up hmm134 (zfr_rf [(28, 6)] _) hc0 rfl) rfl) hRWDm132
      refine zw_b (by omega) ?_
      refine zw_some ?_
      refine zw_b (by omega) ?_
      have r135 : 0 ≤ (m134 a0 7) ∧ (m134 a0 7) ≤ 700 := zi_rd hIm134 hc0 zb_28_7
      have e136 : (m134 a0 7) = (m0 a0 7) := (Eq.trans (zs_ne hmm134 (Or.inr (by decide))) (zs_ne hmm132 (Or.inr (by decide))))
      have r137 : 0 ≤ (m134 a0 8) ∧ (m134 a0 8) ≤ 6 := zi_rd hIm134 hc0 zb_28_8
      have r138 : (-2147483648) ≤ (m134 a0 4) ∧ (m134 a0 4) ≤ 2147483647 := zi_rd hIm134 hc0 zb_28_4
      have e139 : (m134 a0 4) = 4 := (Eq.trans (zs_ne hmm134 (Or.inr (by decide))) (zs_eq hmm132))
      exact zw_some ⟨hIm134, hFm134, hRCRm134, hRLRm134, hRNSm134, hRTRm134, hRWDm134, ⟨by decide, by decide⟩, by omega, fun h => absurd h (by decide), fun h => absurd h (by decide)⟩
  · refine zw_bd (zw_eq (zu_call_at (zt_T n) (zm_85 n) (zdp_85 n) _ _ _ _ _ rfl (zr_85_0 n _ _ a0 3 m0)) ?_)
    generalize hmm140 : zu_up m0 a0 4 3 = m140
    have hIm140 := zi_up hmm140 hIm0 hc0 zb_28_4 (by omega) (by omega)
    have hFm140 := zfr_up hmm140 hFm0 hc0 rfl
    have hRCRm140 := zR_CR_fr (zdis_fr (zfr_up hmm140 (zfr_rf [(28, 5)] _) hc0 rfl) rfl) hRCRm0
    have hRNSm140 := zR_NS_fr (zdis_fr (zfr_up hmm140 (zfr_rf [(28, 5)] _) hc0 rfl) rfl) hRNSm0
    have hRTRm140 := zR_TR_fr (zdis_fr (zfr_up hmm140 (zfr_rf [(28, 5)] _) hc0 rfl) rfl) hRTRm0
    have hRWDm140 := zR_WD_fr (zdis_fr (zfr_up hmm140 (zfr_rf [(28, 5)] _) hc0 rfl) rfl) hRWDm0
    have hRLRm140 := zLR_wr (zone_190 hc0) hmm140 (by decide)
    have r141 : 0 ≤ (m140 a0 10) ∧ (m140 a0 10) ≤ 700 := zi_rd hIm140 hc0 zb_28_10
    generalize hmm142 : zu_up m140 a0 5 (m140 a0 10) = m142
    have hIm142 := zi_up hmm142 hIm140 hc0 zb_28_5 (by omega) (by omega)
    have hFm142 := zfr_up hmm142 hFm140 hc0 rfl
    have hRCRm142 := zR_CR_fr (zdis_fr (zfr_up hmm142 (zfr_rf [(28, 6)] _) hc0 rfl) rfl) hRCRm140
    have hRLRm142 := zR_LR_fr (zdis_fr (zfr_up hmm142 (zfr_rf [(28, 6)] _) hc0 rfl) rfl) hRLRm140
    have hRNSm142 := zR_NS_fr (zdis_fr (zfr_up hmm142 (zfr_rf [(28, 6)] _) hc0 rfl) rfl) hRNSm140
    have hRTRm142 := zR_TR_fr (zdis_fr (zfr_up hmm142 (zfr_rf [(28, 6)] _) hc0 rfl) rfl) hRTRm140
    have hRWDm142 := zR_WD_fr (zdis_fr (zfr_up hmm142 (zfr_rf [(28, 6)] _) hc0 rfl) rfl) hRWDm140
    refine zw_b (by omega) ?_
    refine zw_some ?_
    refine zw_b (by omega) ?_
    have r143 : 0 ≤ (m142 a0 7) ∧ (m142 a0 7) ≤ 700 := zi_rd hIm142 hc0 zb_28_7
    have e144 : (m142 a0 7) = (m0 a0 7) := (Eq.trans (zs_ne hmm142 (Or.inr (by decide))) (zs_ne hmm140 (Or.inr (by decide))))
    have r145 : 0 ≤ (m142 a0 8) ∧ (m142 a0 8) ≤ 6 := zi_rd hIm142 hc0 zb_28_8
    have r146 : (-2147483648) ≤ (m142 a0 4) ∧ (m142 a0 4) ≤ 2147483647 := zi_rd hIm142 hc0 zb_28_4
    have e147 : (m142 a0 4) = 3 := (Eq.trans (zs_ne hmm142 (Or.inr (by decide))) (zs_eq hmm140))
    exact zw_some ⟨hIm142, hFm142, hRCRm142, hRLRm142, hRNSm142, hRTRm142, hRWDm142, ⟨by decide, by decide⟩, by omega, fun h => absurd h (by decide), fun h => absurd h (by decide)⟩

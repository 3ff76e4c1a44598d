set_option maxHeartbeats 4000000 in
theorem zk_46 (n : Nat) {a0 a1 a2 : Int} {m0 : zu_m} (hIm0 : zi_I m0) (hc0 : zcls a0 = 2) (ha1 : (-2147483648) ≤ a1 ∧ a1 ≤ 2147483647) (ha2 : (-2147483648) ≤ a2 ∧ a2 ≤ 2147483647)     : zw (zu_call (zt_T n) 46 [(5, a0), (0, a1), (0, a2)] m0) (fun v m => zi_I m ∧ zfr [] m0 m ∧ ((-4) ≤ v ∧ v ≤ 47)) := by
  have hFm0 : zfr [] m0 m0 := zfr_rf _ _
  refine zw_eq (zu_call_at (zt_T n) (zm_46 n) (zdp_46 n) _ _ _ _ _ rfl (zr_46_0 n _ _ a0 a1 a2 m0)) ?_
  refine zw_bd (zw_eq (zu_call_at (zt_T n) (zm_210 n) (zdp_210 n) _ _ _ _ _ rfl (zr_210_0 n _ _ 89 a1 m0)) ?_)
  refine zw_ite (fun h1 => ?_) (fun h1 => ?_)
  · refine zw_b (by omega) ?_
    refine zw_some ?_
    refine zw_ite (fun h2 => ?_) (fun h2 => ?_)
    · exfalso; omega
    · exact zw_some ⟨hIm0, hFm0, ⟨by omega, by omega⟩⟩
  · have r3 : 0 ≤ (m0 89 2) ∧ (m0 89 2) ≤ 16 := zi_rd hIm0 zq_89 zb_16_2
    refine zw_ite (fun h4 => ?_) (fun h4 => ?_)
    · refine zw_b (by omega) ?_
      refine zw_some ?_
      refine zw_ite (fun h5 => ?_) (fun h5 => ?_)
      · exfalso; omega
      · exact zw_some ⟨hIm0, hFm0, ⟨by omega, by omega⟩⟩
    · refine zw_b (by omega) ?_
      refine zw_some ?_
      refine zw_ite (fun h6 => ?_) (fun h6 => ?_)
      · have b7 : 0 ≤ a1 ∧ a1 < 16 := by omega
        refine zw_if b7 ?_
        refine zw_ite (fun h8 => ?_) (fun h8 => ?_)
        · have r9 : 0 ≤ (m0 ((89 + 1) + 5 + a1) 0) ∧ (m0 ((89 + 1) + 5 + a1) 0) ≤ 47 := zi_rd hIm0 (zc_65_e (zc_16_1 zq_89) b7) zb_17_0
          exact zw_some ⟨hIm0, hFm0, ⟨by omega, by omega⟩⟩
        · refine zw_ite (fun h10 => ?_) (fun h10 => ?_)
          · have r11 : 0 ≤ (m0 ((89 + 1) + 5 + a1) 1) ∧ (m0 ((89 + 1) + 5 + a1) 1) ≤ 3 := zi_rd hIm0 (zc_65_e (zc_16_1 zq_89) b7) zb_17_1
            exact zw_some ⟨hIm0, hFm0, ⟨by omega, by omega⟩⟩
          · refine zw_ite (fun h12 => ?_) (fun h12 => ?_)
            · have r13 : 0 ≤ (m0 ((89 + 1) + 5 + a1) 2) ∧ (m0 ((89 + 1) + 5 + a1) 2) ≤ 9 := zi_rd hIm0 (zc_65_e (zc_16_1 zq_89) b7) zb_17_2
              exact zw_some ⟨hIm0, hFm0, ⟨by omega, by omega⟩⟩
            · refine zw_ite (fun h14 => ?_) (fun h14 => ?_)
              · have r15 : (-3) ≤ (m0 ((89 + 1) + 5 + a1) 3) ∧ (m0 ((89 + 1) + 5 + a1) 3) ≤ 3 := zi_rd hIm0 (zc_65_e (zc_16_1 zq_89) b7) zb_17_3
                exact zw_some ⟨hIm0, hFm0, ⟨by omega, by omega⟩⟩
              · exact zw_some ⟨hIm0, hFm0, ⟨by omega, by omega⟩⟩
      · exfalso; omega
set_option maxHeartbeats 4000000 in
theorem zk_58 (n : Nat) {a0 a1 : Int} {m0 : zu_m} (hIm0 : zi_I m0) (hc0 : zcls a0 = 2) (ha1 : (-2147483648) ≤ a1 ∧ a1 ≤ 2147483647)     : zw (zu_call (zt_T n) 58 [(5, a0), (0, a1)] m0) (fun v m => zi_I m ∧ zfr [] m0 m ∧ ((-1) ≤ v ∧ v ≤ 999000)) := by
  have hFm0 : zfr [] m0 m0 := zfr_rf _ _
  refine zw_eq (zu_call_at (zt_T n) (zm_58 n) (zdp_58 n) _ _ _ _ _ rfl (zr_58_0 n _ _ a0 a1 m0)) ?_
  refine zw_bd (zw_eq (zu_call_at (zt_T n) (zm_244 n) (zdp_244 n) _ _ _ _ _ rfl (zr_244_0 n _ _ 50 a1 m0)) ?_)
  refine zw_ite (fun h1 => ?_) (fun h1 => ?_)
  · refine zw_b (by omega) ?_
    refine zw_some ?_
    refine zw_ite (fun h2 => ?_) (fun h2 => ?_)
    · exact zw_some ⟨hIm0, hFm0, ⟨by omega, by omega⟩⟩
    · exfalso; omega
  · have r3 : 1 ≤ (m0 50 2) ∧ (m0 50 2) ≤ 48 := zi_rd hIm0 zq_50 zb_11_2
    refine zw_ite (fun h4 => ?_) (fun h4 => ?_)
    · refine zw_b (by omega) ?_
      refine zw_some ?_
      refine zw_ite (fun h5 => ?_) (fun h5 => ?_)
      · exact zw_some ⟨hIm0, hFm0, ⟨by omega, by omega⟩⟩
      · exfalso; omega
    · refine zw_b (by omega) ?_
      refine zw_some ?_
      refine zw_ite (fun h6 => ?_) (fun h6 => ?_)
      · exfalso; omega
      · have b7 : 0 ≤ a1 ∧ a1 < 48 := by omega
        refine zw_if b7 ?_
        have r8 : 0 ≤ (m0 (89 + 4) a1) ∧ (m0 (89 + 4) a1) ≤ 999000 := zi_rd hIm0 (zc_16_6 zq_89) (zb_68 _)
        exact zw_some ⟨hIm0, hFm0, ⟨by omega, by omega⟩⟩
set_option maxHeartbeats 4000000 in
theorem zk_72 (n : Nat) {a0 a1 a2 a3 a4 : Int} {m0 : zu_m} (hIm0 : zi_I m0) (hc0 : zcls a0 = 2) (ha1 : (-2147483648) ≤ a1 ∧ a1 ≤ 2147483647) (ha2 : (-2147483648) ≤ a2 ∧ a2 ≤ 2147483647) (ha3 : (-2147483648) ≤ a3 ∧ a3 ≤ 2147483647) (ha4 : 0 ≤ a4 ∧ a4 ≤ 1)     : zw (zu_call (zt_T n) 72 [(5, a0), (0, a1), (0, a2), (0, a3), (0, a4)] m0) (fun v m => zi_I m ∧ zfr [(22, 7), (75, 0), (76, 0), (77, 0), (78, 0), (79, 0)] m0 m ∧ ((-1) ≤ v ∧ v ≤ 23)) := by
  have hFm0 : zfr [(22, 7), (75, 0), (76, 0), (77, 0), (78, 0), (79, 0)] m0 m0 := zfr_rf _ _
  refine zw_eq (zu_call_at (zt_T n) (zm_72 n) (zdp_72 n) _ _ _ _ _ rfl (zr_72_0 n _ _ a0 a1 a2 a3 a4 m0)) ?_
  refine zw_bd (zw_eq (zu_call_at (zt_T n) (zm_53 n) (zdp_53 n) _ _ _ _ _ rfl (zr_53_0 n _ _ a1 m0)) ?_)
  refine zw_ite (fun h1 => ?_) (fun h1 => ?_)
  · refine zw_b (by omega) ?_
    refine zw_some ?_
    refine zw_ite (fun h2 => ?_) (fun h2 => ?_)
    · exact zw_some ⟨hIm0, hFm0, ⟨by omega, by omega⟩⟩
    · exfalso; omega
  · refine zw_ite (fun h3 => ?_) (fun h3 => ?_)
    · refine zw_b (by omega) ?_
      refine zw_some ?_
      refine zw_ite (fun h4 => ?_) (fun h4 => ?_)
      · exact zw_some ⟨hIm0, hFm0, ⟨by omega, by omega⟩⟩
      · exfalso; omega
    · refine zw_b (by omega) ?_
      refine zw_some ?_
      refine zw_ite (fun h5 => ?_) (fun h5 => ?_)
      · exfalso; omega
      · refine zw_bd (zw_eq (zu_call_at (zt_T n) (zm_211 n) (zdp_211 n) _ _ _ _ _ rfl (zr_211_0 n _ _ 89 a2 m0)) ?_)
        refine zw_ite (fun h6 => ?_) (fun h6 => ?_)
        · refine zw_b (by omega) ?_
          refine zw_some ?_
          refine zw_ite (fun h7 => ?_) (fun h7 => ?_)
          · exact zw_some ⟨hIm0, hFm0, ⟨by omega, by omega⟩⟩
          · exfalso; omega
        · have r8 : 0 ≤ (m0 89 4) ∧ (m0 89 4) ≤ 4 := zi_rd hIm0 zq_89 zb_16_4
          refine zw_ite (fun h9 => ?_) (fun h9 => ?_)
          · refine zw_b (by omega) ?_
            refine zw_some ?_
            refine zw_ite (fun h10 => ?_) (fun h10 => ?_)
            · exact zw_some ⟨hIm0, hFm0, ⟨by omega, by omega⟩⟩
            · exfalso; omega
          · refine zw_b (by omega) ?_
            refine zw_some ?_
            refine zw_ite (fun h11 => ?_) (fun h11 => ?_)
            · exfalso; omega
            · refine zw_ite (fun h12 => ?_) (fun h12 => ?_)
              · exact zw_some ⟨hIm0, hFm0, ⟨by omega, by omega⟩⟩
              · refine zw_ite (fun h13 => ?_) (fun h13 => ?_)
                · refine zw_bd (zw_mono (zk_272 n hIm0 zq_141 ⟨by omega, by omega⟩ ⟨by omega, by omega⟩ ⟨by omega, by omega⟩ ⟨by omega, by omega⟩) (fun v15 m14 hqm14 => ?_))
                  obtain ⟨hIm14, hfm14, hvm14⟩ := hqm14
                  have hFm14 := zfr_tr hFm0 hfm14 rfl
                  exact zw_some ⟨hIm14, hFm14, ⟨by omega, by omega⟩⟩
                · exact zw_some ⟨hIm0, hFm0, ⟨by omega, by omega⟩⟩
set_option maxHeartbeats 4000000 in
theorem zk_73 (n : Nat) {a0 a1 : Int} {m0 : zu_m} (hIm0 : zi_I m0) (hc0 : zcls a0 = 2) (ha1 : (-2147483648) ≤ a1 ∧ a1 ≤ 2147483647)     : zw (zu_call (zt_T n) 73 [(5, a0), (0, a1)] m0) (fun v m => zi_I m ∧ zfr [(22, 7), (79, 0)] m0 m ∧ ((-1) ≤ v ∧ v ≤ 23)) := by
  have hFm0 : zfr [(22, 7), (79, 0)] m0 m0 := zfr_rf _ _
  refine zw_eq (zu_call_at (zt_T n) (zm_73 n) (zdp_73 n) _ _ _ _ _ rfl (zr_73_0 n _ _ a0 a1 m0)) ?_
  refine zw_bd (zw_mono (zk_273 n hIm0 zq_141 ⟨by omega, by omega⟩) (fun v2 m1 hqm1 => ?_))
  obtain ⟨hIm1, hfm1, hvm1⟩ := hqm1
  have hFm1 := zfr_tr hFm0 hfm1 rfl
  exact zw_some ⟨hIm1, hFm1, ⟨by omega, by omega⟩⟩
set_option maxHeartbeats 4000000 in
theorem zk_89 (n : Nat) {a0 : Int} {m0 : zu_m} (hIm0 : zi_I m0) (hc0 : zcls a0 = 28)     (hRNSm0 : zR_NS m0) (hRWDm0 : zR_WD m0) : zw (zu_call (zt_T n) 89 [(40, a0)] m0) (fun v m => zi_I m ∧ zfr [(28, 8), (28, 9), (28, 10), (28, 11)] m0 m ∧ zR_NS m ∧ zR_TR m ∧ zR_WD m ∧ True ∧ ((m0 a0 7) ≤ (m a0 7)) ∧ ((m a0 8) = 0 ∨ (m0 a0 7) < (m a0 7))) := by
  sorry
set_option maxHeartbeats 4000000 in
theorem zk_108 (n : Nat) {a0 a1 : Int} {m0 : zu_m} (hIm0 : zi_I m0) (hc0 : zcls a0 = 28) (ha1 : (-2147483648) ≤ a1 ∧ a1 ≤ 2147483647)     : zw (zu_call (zt_T n) 108 [(40, a0), (0, a1)] m0) (fun v m => zi_I m ∧ zfr [(28, 3)] m0 m ∧ ((-1) ≤ v ∧ v ≤ 3) ∧ (0 ≤ m a0 2 ∧ m a0 2 ≤ 0)) := by
  have hFm0 : zfr [(28, 3)] m0 m0 := zfr_rf _ _
  refine zw_eq (zu_call_at (zt_T n) (zm_108 n) (zdp_108 n) _ _ _ _ _ rfl (zr_108_0 n _ _ a0 a1 m0)) ?_
  generalize hmm1 : zu_up m0 a0 2 0 = m1
  have hIm1 := zi_up hmm1 hIm0 hc0 zb_28_2 (by omega) (by omega)
  have hFm1 := zfr_up hmm1 hFm0 hc0 rfl
  have r2 : 0 ≤ (m1 a0 15) ∧ (m1 a0 15) ≤ 4 := zi_rd hIm1 hc0 zb_28_15
  refine zw_bd (zw_mono (zk_95 n hIm1 zq_200 ⟨by omega, by omega⟩ ⟨by omega, by omega⟩ ⟨by omega, by omega⟩) (fun v4 m3 hqm3 => ?_))
  obtain ⟨hIm3, hfm3, hvm3⟩ := hqm3
  have hFm3 := zfr_tr hFm1 hfm3 rfl
  have r5 : (-2147483648) ≤ (m3 a0 2) ∧ (m3 a0 2) ≤ 2147483647 := zi_rd hIm3 hc0 zb_28_2
  have e6 : (m3 a0 2) = 0 := (Eq.trans (zfr_ap hfm3 hc0 rfl) (zs_eq hmm1))
  exact zw_some ⟨hIm3, hFm3, ⟨by omega, by omega⟩, ⟨by omega, by omega⟩⟩
set_option maxHeartbeats 4000000 in
theorem zk_112 (n : Nat) {a0 a1 : Int} {m0 : zu_m} (hIm0 : zi_I m0) (hc0 : zcls a0 = 28) (ha1 : 0 ≤ a1 ∧ a1 ≤ 6)   (hxp0 : (m0 a0 46) = zbi m0 + 1) (hxp1 : (m0 a0 21) + znz m0 ≤ 64) (hxp2 : 1 ≤ a1) (hRKNm0 : zR_KN m0) : zw (zu_call (zt_T n) 112 [(40, a0), (0, a1)] m0) (fun v m => zi_I m ∧ zfr [(28, 22), (28, 46), (28, 47), (117, 0), (118, 0), (119, 0), (121, 0)] m0 m ∧ zR_KN m ∧ True ∧ ((m a0 21) + znz m = (m0 a0 21) + znz m0) ∧ ((m a0 46) - zbi m = (m0 a0 46) - zbi m0) ∧ ((m a0 45) - znz m = (m0 a0 45) - znz m0) ∧ ((m0 a0 21) ≤ (m a0 21)) ∧ (a1 = 1 → ((m a0 45) = 0 ∨ m 211 (zu_w32 ((m a0 45) - 1)) < 2))) := by
  sorry

set_option maxHeartbeats 4000000 in
theorem zk_46 (n : Nat) {a0 a1 a2 : Int} {m0 : zu_m} (hIm0 : zi_I m0) (hc0 : zcls a0 = 2) (ha1 : (-2147483648) ≤ a1 ∧ a1 ≤ 2147483647) (ha2 : (-2147483648) ≤ a2 ∧ a2 ≤ 2147483647)     : zw (zu_call (zt_T n) 46 [(5, a0), (0, a1), (0, a2)] m0) (fun v m => zi_I m ∧ zfr [] m0 m ∧ ((-4) ≤ v ∧ v ≤ 47)) := by
  have hFm0 : zfr [] m0 m0 := zfr_rf _ _
  refine zw_eq (zu_call_at (zt_T n) (zm_46 n) (zdp_46 n) _ _ _ _ _ rfl (zr_46_0 n _ _ a0 a1 a2 m0)) ?_
  refine zw_bd (zw_eq (zu_call_at (zt_T n) (zm_210 n) (zdp_210 n) _ _ _ _ _ rfl (zr_210_0 n _ _ 89 a1 m0)) ?_)
  refine zw_ite (fun h1 => ?_) (fun h1 => ?_)
  · refine zw_b (by omega) ?_
    refine zw_some ?_
    refine zw_ite (fun h2 => ?_) (fun h2 => ?_)
    · exfalso; omega
    · exact zw_some ⟨hIm0, hFm0, ⟨by omega, by omega⟩⟩
  · have r3 : 0 ≤ (m0 89 2) ∧ (m0 89 2) ≤ 16 := zi_rd hIm0 zq_89 zb_16_2
    refine zw_ite (fun h4 => ?_) (fun h4 => ?_)
    · refine zw_b (by omega) ?_
      refine zw_some ?_
      refine zw_ite (fun h5 => ?_) (fun h5 => ?_)
      · exfalso; omega
      · exact zw_some ⟨hIm0, hFm0, ⟨by omega, by omega⟩⟩
    · refine zw_b (by omega) ?_
      refine zw_some ?_
      refine zw_ite (fun h6 => ?_) (fun h6 => ?_)
      · have b7 : 0 ≤ a1 ∧ a1 < 16 := by omega
        refine zw_if b7 ?_
        refine zw_ite (fun h8 => ?_) (fun h8 => ?_)
        · have r9 : 0 ≤ (m0 ((89 + 1) + 5 + a1) 0) ∧ (m0 ((89 + 1) + 5 + a1) 0) ≤ 47 := zi_rd hIm0 (zc_65_e (zc_16_1 zq_89) b7) zb_17_0
          exact zw_some ⟨hIm0, hFm0, ⟨by omega, by omega⟩⟩
        · refine zw_ite (fun h10 => ?_) (fun h10 => ?_)
          · have r11 : 0 ≤ (m0 ((89 + 1) + 5 + a1) 1) ∧ (m0 ((89 + 1) + 5 + a1) 1) ≤ 3 := zi_rd hIm0 (zc_65_e (zc_16_1 zq_89) b7) zb_17_1
            exact zw_some ⟨hIm0, hFm0, ⟨by omega, by omega⟩⟩
          · refine zw_ite (fun h12 => ?_) (fun h12 => ?_)
            · have r13 : 0 ≤ (m0 ((89 + 1) + 5 + a1) 2) ∧ (m0 ((89 + 1) + 5 + a1) 2) ≤ 9 := zi_rd hIm0 (zc_65_e (zc_16_1 zq_89) b7) zb_17_2
              exact zw_some ⟨hIm0, hFm0, ⟨by omega, by omega⟩⟩
            · refine zw_ite (fun h14 => ?_) (fun h14 => ?_)
              · have r15 : (-3) ≤ (m0 ((89 + 1) + 5 + a1) 3) ∧ (m0 ((89 + 1) + 5 + a1) 3) ≤ 3 := zi_rd hIm0 (zc_65_e (zc_16_1 zq_89) b7) zb_17_3
                exact zw_some ⟨hIm0, hFm0, ⟨by omega, by omega⟩⟩
              · exact zw_some ⟨hIm0, hFm0, ⟨by omega, by omega⟩⟩
      · exfalso; omega
set_option maxHeartbeats 4000000 in
theorem zk_58 (n : Nat) {a0 a1 : Int} {m0 : zu_m} (hIm0 : zi_I m0) (hc0 : zcls a0 = 2) (ha1 : (-2147483648) ≤ a1 ∧ a1 ≤ 2147483647)     : zw (zu_call (zt_T n) 58 [(5, a0), (0, a1)] m0) (fun v m => zi_I m ∧ zfr [] m0 m ∧ ((-1) ≤ v ∧ v ≤ 999000)) := by
  have hFm0 : zfr [] m0 m0 := zfr_rf _ _
  refine zw_eq (zu_call_at (zt_T n) (zm_58 n) (zdp_58 n) _ _ _ _ _ rfl (zr_58_0 n _ _ a0 a1 m0)) ?_
  refine zw_bd (zw_eq (zu_call_at (zt_T n) (zm_244 n) (zdp_244 n) _ _ _ _ _ rfl (zr_244_0 n _ _ 50 a1 m0)) ?_)
  refine zw_ite (fun h1 => ?_) (fun h1 => ?_)
  · refine zw_b (by omega) ?_
    refine zw_some ?_
    refine zw_ite (fun h2 => ?_) (fun h2 => ?_)
    · exact zw_some ⟨hIm0, hFm0, ⟨by omega, by omega⟩⟩
    · exfalso; omega
  · have r3 : 1 ≤ (m0 50 2) ∧ (m0 50 2) ≤ 48 := zi_rd hIm0 zq_50 zb_11_2
    refine zw_ite (fun h4 => ?_) (fun h4 => ?_)
    · refine zw_b (by omega) ?_
      refine zw_some ?_
      refine zw_ite (fun h5 => ?_) (fun h5 => ?_)
      · exact zw_some ⟨hIm0, hFm0, ⟨by omega, by omega⟩⟩
      · exfalso; omega
    · refine zw_b (by omega) ?_
      refine zw_some ?_
      refine zw_ite (fun h6 => ?_) (fun h6 => ?_)
      · exfalso; omega
      · have b7 : 0 ≤ a1 ∧ a1 < 48 := by omega
        refine zw_if b7 ?_
        have r8 : 0 ≤ (m0 (89 + 4) a1) ∧ (m0 (89 + 4) a1) ≤ 999000 := zi_rd hIm0 (zc_16_6 zq_89) (zb_68 _)
        exact zw_some ⟨hIm0, hFm0, ⟨by omega, by omega⟩⟩
set_option maxHeartbeats 4000000 in
theorem zk_72 (n : Nat) {a0 a1 a2 a3 a4 : Int} {m0 : zu_m} (hIm0 : zi_I m0) (hc0 : zcls a0 = 2) (ha1 : (-2147483648) ≤ a1 ∧ a1 ≤ 2147483647) (ha2 : (-2147483648) ≤ a2 ∧ a2 ≤ 2147483647) (ha3 : (-2147483648) ≤ a3 ∧ a3 ≤ 2147483647) (ha4 : 0 ≤ a4 ∧ a4 ≤ 1)     : zw (zu_call (zt_T n) 72 [(5, a0), (0, a1), (0, a2), (0, a3), (0, a4)] m0) (fun v m => zi_I m ∧ zfr [(22, 7), (75, 0), (76, 0), (77, 0), (78, 0), (79, 0)] m0 m ∧ ((-1) ≤ v ∧ v ≤ 23)) := by
  have hFm0 : zfr [(22, 7), (75, 0), (76, 0), (77, 0), (78, 0), (79, 0)] m0 m0 := zfr_rf _ _
  refine zw_eq (zu_call_at (zt_T n) (zm_72 n) (zdp_72 n) _ _ _ _ _ rfl (zr_72_0 n _ _ a0 a1 a2 a3 a4 m0)) ?_
  refine zw_bd (zw_eq (zu_call_at (zt_T n) (zm_53 n) (zdp_53 n) _ _ _ _ _ rfl (zr_53_0 n _ _ a1 m0)) ?_)
  refine zw_ite (fun h1 => ?_) (fun h1 => ?_)
  · refine zw_b (by omega) ?_
    refine zw_some ?_
    refine zw_ite (fun h2 => ?_) (fun h2 => ?_)
    · exact zw_some ⟨hIm0, hFm0, ⟨by omega, by omega⟩⟩
    · exfalso; omega
  · refine zw_ite (fun h3 => ?_) (fun h3 => ?_)
    · refine zw_b (by omega) ?_
      refine zw_some ?_
      refine zw_ite (fun h4 => ?_) (fun h4 => ?_)
      · exact zw_some ⟨hIm0, hFm0, ⟨by omega, by omega⟩⟩
      · exfalso; omega
    · refine zw_b (by omega) ?_
      refine zw_some ?_
      refine zw_ite (fun h5 => ?_) (fun h5 => ?_)
      · exfalso; omega
      · refine zw_bd (zw_eq (zu_call_at (zt_T n) (zm_211 n) (zdp_211 n) _ _ _ _ _ rfl (zr_211_0 n _ _ 89 a2 m0)) ?_)
        refine zw_ite (fun h6 => ?_) (fun h6 => ?_)
        · refine zw_b (by omega) ?_
          refine zw_some ?_
          refine zw_ite (fun h7 => ?_) (fun h7 => ?_)
          · exact zw_some ⟨hIm0, hFm0, ⟨by omega, by omega⟩⟩
          · exfalso; omega
        · have r8 : 0 ≤ (m0 89 4) ∧ (m0 89 4) ≤ 4 := zi_rd hIm0 zq_89 zb_16_4
          refine zw_ite (fun h9 => ?_) (fun h9 => ?_)
          · refine zw_b (by omega) ?_
            refine zw_some ?_
            refine zw_ite (fun h10 => ?_) (fun h10 => ?_)
            · exact zw_some ⟨hIm0, hFm0, ⟨by omega, by omega⟩⟩
            · exfalso; omega
          · refine zw_b (by omega) ?_
            refine zw_some ?_
            refine zw_ite (fun h11 => ?_) (fun h11 => ?_)
            · exfalso; omega
            · refine zw_ite (fun h12 => ?_) (fun h12 => ?_)
              · exact zw_some ⟨hIm0, hFm0, ⟨by omega, by omega⟩⟩
              · refine zw_ite (fun h13 => ?_) (fun h13 => ?_)
                · refine zw_bd (zw_mono (zk_272 n hIm0 zq_141 ⟨by omega, by omega⟩ ⟨by omega, by omega⟩ ⟨by omega, by omega⟩ ⟨by omega, by omega⟩) (fun v15 m14 hqm14 => ?_))
                  obtain ⟨hIm14, hfm14, hvm14⟩ := hqm14
                  have hFm14 := zfr_tr hFm0 hfm14 rfl
                  exact zw_some ⟨hIm14, hFm14, ⟨by omega, by omega⟩⟩
                · exact zw_some ⟨hIm0, hFm0, ⟨by omega, by omega⟩⟩
set_option maxHeartbeats 4000000 in
theorem zk_73 (n : Nat) {a0 a1 : Int} {m0 : zu_m} (hIm0 : zi_I m0) (hc0 : zcls a0 = 2) (ha1 : (-2147483648) ≤ a1 ∧ a1 ≤ 2147483647)     : zw (zu_call (zt_T n) 73 [(5, a0), (0, a1)] m0) (fun v m => zi_I m ∧ zfr [(22, 7), (79, 0)] m0 m ∧ ((-1) ≤ v ∧ v ≤ 23)) := by
  have hFm0 : zfr [(22, 7), (79, 0)] m0 m0 := zfr_rf _ _
  refine zw_eq (zu_call_at (zt_T n) (zm_73 n) (zdp_73 n) _ _ _ _ _ rfl (zr_73_0 n _ _ a0 a1 m0)) ?_
  refine zw_bd (zw_mono (zk_273 n hIm0 zq_141 ⟨by omega, by omega⟩) (fun v2 m1 hqm1 => ?_))
  obtain ⟨hIm1, hfm1, hvm1⟩ := hqm1
  have hFm1 := zfr_tr hFm0 hfm1 rfl
  exact zw_some ⟨hIm1, hFm1, ⟨by omega, by omega⟩⟩
set_option maxHeartbeats 4000000 in
theorem zk_89 (n : Nat) {a0 : Int} {m0 : zu_m} (hIm0 : zi_I m0) (hc0 : zcls a0 = 28)     (hRNSm0 : zR_NS m0) (hRWDm0 : zR_WD m0) : zw (zu_call (zt_T n) 89 [(40, a0)] m0) (fun v m => zi_I m ∧ zfr [(28, 8), (28, 9), (28, 10), (28, 11)] m0 m ∧ zR_NS m ∧ zR_TR m ∧ zR_WD m ∧ True ∧ ((m0 a0 7) ≤ (m a0 7)) ∧ ((m a0 8) = 0 ∨ (m0 a0 7) < (m a0 7))) := by
  sorry
set_option maxHeartbeats 4000000 in
theorem zk_108 (n : Nat) {a0 a1 : Int} {m0 : zu_m} (hIm0 : zi_I m0) (hc0 : zcls a0 = 28) (ha1 : (-2147483648) ≤ a1 ∧ a1 ≤ 2147483647)     : zw (zu_call (zt_T n) 108 [(40, a0), (0, a1)] m0) (fun v m => zi_I m ∧ zfr [(28, 3)] m0 m ∧ ((-1) ≤ v ∧ v ≤ 3) ∧ (0 ≤ m a0 2 ∧ m a0 2 ≤ 0)) := by
  have hFm0 : zfr [(28, 3)] m0 m0 := zfr_rf _ _
  refine zw_eq (zu_call_at (zt_T n) (zm_108 n) (zdp_108 n) _ _ _ _ _ rfl (zr_108_0 n _ _ a0 a1 m0)) ?_
  generalize hmm1 : zu_up m0 a0 2 0 = m1
  have hIm1 := zi_up hmm1 hIm0 hc0 zb_28_2 (by omega) (by omega)
  have hFm1 := zfr_up hmm1 hFm0 hc0 rfl
  have r2 : 0 ≤ (m1 a0 15) ∧ (m1 a0 15) ≤ 4 := zi_rd hIm1 hc0 zb_28_15
  refine zw_bd (zw_mono (zk_95 n hIm1 zq_200 ⟨by omega, by omega⟩ ⟨by omega, by omega⟩ ⟨by omega, by omega⟩) (fun v4 m3 hqm3 => ?_))
  obtain ⟨hIm3, hfm3, hvm3⟩ := hqm3
  have hFm3 := zfr_tr hFm1 hfm3 rfl
  have r5 : (-2147483648) ≤ (m3 a0 2) ∧ (m3 a0 2) ≤ 2147483647 := zi_rd hIm3 hc0 zb_28_2
  have e6 : (m3 a0 2) = 0 := (Eq.trans (zfr_ap hfm3 hc0 rfl) (zs_eq hmm1))
  exact zw_some ⟨hIm3, hFm3, ⟨by omega, by omega⟩, ⟨by omega, by omega⟩⟩
set_option maxHeartbeats 4000000 in
theorem zl_112 (n : Nat) {a0 a1 : Int} {m0 : zu_m} (hc0 : zcls a0 = 28)  (hxp0 : (m0 a0 46) = zbi m0 + 1) (hxp1 : (m0 a0 21) + znz m0 ≤ 64) (hxp2 : 1 ≤ a1) : ∀ k : Nat, (∀ (mh : zu_m), zi_I mh → zfr [(28, 22), (28, 46), (28, 47), (117, 0), (118, 0), (119, 0), (121, 0)] m0 mh → (0 ≤ a1 ∧ a1 ≤ 6) → ((mh a0 21) + znz mh = (m0 a0 21) + znz m0) → ((mh a0 46) - zbi mh = (m0 a0 46) - zbi m0) → ((mh a0 45) - znz mh = (m0 a0 45) - znz m0) → ((m0 a0 21) ≤ (mh a0 21)) → (zR_KN mh) → (mh a0 45) * 1 + 0 < (k : Int) → zw (zu_ex (zt_T n) 112 0 [(40, a0), (0, a1), (2, 0), (2, 0), (2, 0)] [] mh) (fun v m => zi_I m ∧ zfr [(28, 22), (28, 46), (28, 47), (117, 0), (118, 0), (119, 0), (121, 0)] m0 m ∧ zR_KN m ∧ True ∧ ((m a0 21) + znz m = (m0 a0 21) + znz m0) ∧ ((m a0 46) - zbi m = (m0 a0 46) - zbi m0) ∧ ((m a0 45) - znz m = (m0 a0 45) - znz m0) ∧ ((m0 a0 21) ≤ (m a0 21)) ∧ (a1 = 1 → ((m a0 45) = 0 ∨ m 211 (zu_w32 ((m a0 45) - 1)) < 2)))) := by
  intro k
  induction k with
  | zero => exact fun mh hImh hFmh hba1 hH0 hH1 hH2 hH3 hRKNmh hM => by have zq0 := zi_rd hImh hc0 zb_28_45; exfalso; omega
  | succ k ih =>
    intro mh hImh hFmh hba1 hH0 hH1 hH2 hH3 hRKNmh hM
    refine zw_eq (zu_rega_at (zt_T n) (zm_112 n) (zdp_112 n) _ _ _ _ _ _ (zr_112_0 n _ _ a0 a1 mh)) ?_
    have r1 : 0 ≤ (mh a0 21) ∧ (mh a0 21) ≤ 64 := zi_rd hImh hc0 zb_28_21
    have r2 : 0 ≤ (mh a0 46) ∧ (mh a0 46) ≤ 96 := zi_rd hImh hc0 zb_28_46
    have r3 : 0 ≤ (mh a0 45) ∧ (mh a0 45) ≤ 96 := zi_rd hImh hc0 zb_28_45
    have g4 := zwt_bd hImh hc0
    refine zw_ite (fun h5 => ?_) (fun h5 => ?_)
    · exact zw_some ⟨hImh, hFmh, hRKNmh, trivial, by omega, by omega, by omega, by omega, by omega⟩
    · have w6 := zu_w32_id (z := (mh a0 45) - 1) (by omega) (by omega)
      have b7 : 0 ≤ (zu_w32 ((mh a0 45) - 1)) ∧ (zu_w32 ((mh a0 45) - 1)) < 96 := by omega
      refine zw_if b7 ?_
      have r8 : 0 ≤ (mh 211 (zu_w32 ((mh a0 45) - 1))) ∧ (mh 211 (zu_w32 ((mh a0 45) - 1))) ≤ 14 := zi_rd hImh zq_211 (zb_120 _)
      refine zw_bd (zw_eq (zu_call_at (zt_T n) (zm_109 n) (zdp_109 n) _ _ _ _ _ rfl (zr_109_0 n _ _ (mh 211 (zu_w32 ((mh a0 45) - 1))) mh)) ?_)
      refine zw_ite (fun h9 => ?_) (fun h9 => ?_)
      · refine zw_ite (fun h10 => ?_) (fun h10 => ?_)
        · refine zw_ite (fun h11 => ?_) (fun h11 => ?_)
          · refine zw_ite (fun h12 => ?_) (fun h12 => ?_)
            · refine zw_ite (fun h13 => ?_) (fun h13 => ?_)
              · refine zw_ite (fun h14 => ?_) (fun h14 => ?_)
                · refine zw_some ?_
                  refine zw_ite (fun h15 => ?_) (fun h15 => ?_)
                  · exact zw_some ⟨hImh, hFmh, hRKNmh, trivial, by omega, by omega, by omega, by omega, by omega⟩
                  · generalize hmm16 : zu_up mh a0 45 (zu_w32 ((mh a0 45) - 1)) = m16
                    have hIm16 := zi_up hmm16 hImh hc0 zb_28_45 (by omega) (by omega)
                    have hFm16 := zfr_up hmm16 hFmh hc0 rfl
                    have hRKNm16 := zR_KN_fr (zdis_fr (zfr_up hmm16 (zfr_rf [(28, 46)] _) hc0 rfl) rfl) hRKNmh
                    have g17 := zwt_pop hmm16 hc0 (by omega) (by omega)
                    have g18 := zwt_bd hIm16 hc0
                    have r19 : 0 ≤ (m16 a0 45) ∧ (m16 a0 45) ≤ 96 := zi_rd hIm16 hc0 zb_28_45
                    have e20 : (m16 a0 45) = (zu_w32 ((mh a0 45) - 1)) := (zs_eq hmm16)
                    have s21 : m16 211 (m16 a0 45) = mh 211 (zu_w32 ((mh a0 45) - 1)) := by rw [zs_eq hmm16]; exact zs_ne hmm16 (Or.inl (zc_ne zq_211 hc0 (by decide)))
                    have b22 : 0 ≤ (m16 a0 45) ∧ (m16 a0 45) < 96 := by omega
                    refine zw_if b22 ?_
                    refine zw_ite (fun h23 => ?_) (fun h23 => ?_)
                    · refine zw_bd (zw_eq (zu_call_at (zt_T n) (zm_111 n) (zdp_111 n) _ _ _ _ _ rfl (zr_111_0 n _ _ a0 m16)) ?_)
                      have r24 : 0 ≤ (m16 a0 46) ∧ (m16 a0 46) ≤ 96 := zi_rd hIm16 hc0 zb_28_46
                      have e25 : (m16 a0 46) = (mh a0 46) := (zs_ne hmm16 (Or.inr (by decide)))
                      have w26 := zu_w32_id (z := (m16 a0 46) - 1) (by omega) (by omega)
                      generalize hmm27 : zu_up m16 a0 46 (zu_w32 ((m16 a0 46) - 1)) = m27
                      have hIm27 := zi_up hmm27 hIm16 hc0 zb_28_46 (by omega) (by omega)
                      have hFm27 := zfr_up hmm27 hFm16 hc0 rfl
                      have g28 := zwt_fr (zdis_fr (zfr_up hmm27 (zfr_rf [(28, 47)] _) hc0 rfl) rfl)
                      have hRKNm27 := zR_KN_fr (zdis_fr (zfr_up hmm27 (zfr_rf [(28, 47)] _) hc0 rfl) rfl) hRKNm16
                      have r29 : 0 ≤ (m27 a0 46) ∧ (m27 a0 46) ≤ 96 := zi_rd hIm27 hc0 zb_28_46
                      have e30 : (m27 a0 46) = (zu_w32 ((m16 a0 46) - 1)) := (zs_eq hmm27)
                      have b31 : 0 ≤ (m27 a0 46) ∧ (m27 a0 46) < 96 := by omega
                      refine zw_if b31 ?_
                      have r32 : 0 ≤ (m27 212 (m27 a0 46)) ∧ (m27 212 (m27 a0 46)) ≤ 63 := zi_rd hIm27 zq_212 (zb_121 _)
                      refine zw_some ?_
                      refine zw_bd (zw_eq (zu_call_at (zt_T n) (zm_111 n) (zdp_111 n) _ _ _ _ _ rfl (zr_111_0 n _ _ a0 m27)) ?_)
                      have w33 := zu_w32_id (z := (m27 a0 46) - 1) (by omega) (by omega)
                      generalize hmm34 : zu_up m27 a0 46 (zu_w32 ((m27 a0 46) - 1)) = m34
                      have hIm34 := zi_up hmm34 hIm27 hc0 zb_28_46 (by omega) (by omega)
                      have hFm34 := zfr_up hmm34 hFm27 hc0 rfl
                      have g35 := zwt_fr (zdis_fr (zfr_up hmm34 (zfr_rf [(28, 47)] _) hc0 rfl) rfl)
                      have hRKNm34 := zR_KN_fr (zdis_fr (zfr_up hmm34 (zfr_rf [(28, 47)] _) hc0 rfl) rfl) hRKNm27
                      have r36 : 0 ≤ (m34 a0 46) ∧ (m34 a0 46) ≤ 96 := zi_rd hIm34 hc0 zb_28_46
                      have e37 : (m34 a0 46) = (zu_w32 ((m27 a0 46) - 1)) := (zs_eq hmm34)
                      have b38 : 0 ≤ (m34 a0 46) ∧ (m34 a0 46) < 96 := by omega
                      refine zw_if b38 ?_
                      have r39 : 0 ≤ (m34 212 (m34 a0 46)) ∧ (m34 212 (m34 a0 46)) ≤ 63 := zi_rd hIm34 zq_212 (zb_121 _)
                      refine zw_some ?_
                      have r40 : 0 ≤ (m34 a0 21) ∧ (m34 a0 21) ≤ 64 := zi_rd hIm34 hc0 zb_28_21
                      have e41 : (m34 a0 21) = (mh a0 21) := (Eq.trans (zs_ne hmm34 (Or.inr (by decide))) (Eq.trans (zs_ne hmm27 (Or.inr (by decide))) (zs_ne hmm16 (Or.inr (by decide)))))
                      refine zw_bd (zw_mono (zk_110 n hIm34 hc0 ⟨by omega, by omega⟩ ⟨by omega, by omega⟩ ⟨by omega, by omega⟩ (by omega) (by omega) (by omega) (by omega) (by omega) hRKNm34) (fun v43 m42 hqm42 => ?_))
                      obtain ⟨hIm42, hfm42, hvm42⟩ := hqm42
                      have hFm42 := zfr_tr hFm34 hfm42 rfl
                      obtain ⟨hRKNm42, hvm42⟩ := hvm42
                      have g44 := zwt_fr (zdis_fr hfm42 rfl)
                      have g45 := zwt_bd hIm42 hc0
                      have r46 : 0 ≤ (m42 a0 45) ∧ (m42 a0 45) ≤ 96 := zi_rd hIm42 hc0 zb_28_45
                      have e47 : (m42 a0 45) = (m16 a0 45) := (Eq.trans (zfr_ap hfm42 hc0 rfl) (Eq.trans (zs_ne hmm34 (Or.inr (by decide))) (zs_ne hmm27 (Or.inr (by decide)))))
                      have hM : (m42 a0 45) * 1 + 0 < (k : Int) := by omega
                      exact zw_le (zu_forget (zu_lr_same (zu_lr_same (zu_lr_drop (zu_lr_drop (zu_lr_drop zu_lr_nil)))))) (ih  m42 hIm42 hFm42 ⟨by omega, by omega⟩ (by omega) (by omega) (by omega) (by omega) hRKNm42 hM)
                    · refine zw_bd (zw_eq (zu_call_at (zt_T n) (zm_111 n) (zdp_111 n) _ _ _ _ _ rfl (zr_111_0 n _ _ a0 m16)) ?_)
                      have r48 : 0 ≤ (m16 a0 46) ∧ (m16 a0 46) ≤ 96 := zi_rd hIm16 hc0 zb_28_46
                      have e49 : (m16 a0 46) = (mh a0 46) := (zs_ne hmm16 (Or.inr (by decide)))
                      have w50 := zu_w32_id (z := (m16 a0 46) - 1) (by omega) (by omega)
                      generalize hmm51 : zu_up m16 a0 46 (zu_w32 ((m16 a0 46) - 1)) = m51
                      have hIm51 := zi_up hmm51 hIm16 hc0 zb_28_46 (by omega) (by omega)
                      have hFm51 := zfr_up hmm51 hFm16 hc0 rfl
                      have g52 := zwt_fr (zdis_fr (zfr_up hmm51 (zfr_rf [(28, 47)] _) hc0 rfl) rfl)
                      have hRKNm51 := zR_KN_fr (zdis_fr (zfr_up hmm51 (zfr_rf [(28, 47)] _) hc0 rfl) rfl) hRKNm16
                      have r53 : 0 ≤ (m51 a0 46) ∧ (m51 a0 46) ≤ 96 := zi_rd hIm51 hc0 zb_28_46
                      have e54 : (m51 a0 46) = (zu_w32 ((m16 a0 46) - 1)) := (zs_eq hmm51)
                      have b55 : 0 ≤ (m51 a0 46) ∧ (m51 a0 46) < 96 := by omega
                      refine zw_if b55 ?_
                      have r56 : 0 ≤ (m51 212 (m51 a0 46)) ∧ (m51 212 (m51 a0 46)) ≤ 63 := zi_rd hIm51 zq_212 (zb_121 _)
                      refine zw_some ?_
                      have r57 : 0 ≤ (m51 a0 21) ∧ (m51 a0 21) ≤ 64 := zi_rd hIm51 hc0 zb_28_21
                      have e58 : (m51 a0 21) = (mh a0 21) := (Eq.trans (zs_ne hmm51 (Or.inr (by decide))) (zs_ne hmm16 (Or.inr (by decide))))
                      refine zw_bd (zw_mono (zk_110 n hIm51 hc0 ⟨by omega, by omega⟩ ⟨by omega, by omega⟩ ⟨by omega, by omega⟩ (by omega) (by omega) (by omega) (by omega) (by omega) hRKNm51) (fun v60 m59 hqm59 => ?_))
                      obtain ⟨hIm59, hfm59, hvm59⟩ := hqm59
                      have hFm59 := zfr_tr hFm51 hfm59 rfl
                      obtain ⟨hRKNm59, hvm59⟩ := hvm59
                      have g61 := zwt_fr (zdis_fr hfm59 rfl)
                      have g62 := zwt_bd hIm59 hc0
                      have r63 : 0 ≤ (m59 a0 45) ∧ (m59 a0 45) ≤ 96 := zi_rd hIm59 hc0 zb_28_45
                      have e64 : (m59 a0 45) = (m16 a0 45) := (Eq.trans (zfr_ap hfm59 hc0 rfl) (zs_ne hmm51 (Or.inr (by decide))))
                      have hM : (m59 a0 45) * 1 + 0 < (k : Int) := by omega
                      exact zw_le (zu_forget (zu_lr_same (zu_lr_same (zu_lr_drop (zu_lr_drop (zu_lr_drop zu_lr_nil)))))) (ih  m59 hIm59 hFm59 ⟨by omega, by omega⟩ (by omega) (by omega) (by omega) (by omega) hRKNm59 hM)
                · refine zw_some ?_
                  refine zw_ite (fun h65 => ?_) (fun h65 => ?_)
                  · exact zw_some ⟨hImh, hFmh, hRKNmh, trivial, by omega, by omega, by omega, by omega, by omega⟩
                  · generalize hmm66 : zu_up mh a0 45 (zu_w32 ((mh a0 45) - 1)) = m66
                    have hIm66 := zi_up hmm66 hImh hc0 zb_28_45 (by omega) (by omega)
                    have hFm66 := zfr_up hmm66 hFmh hc0 rfl
                    have hRKNm66 := zR_KN_fr (zdis_fr (zfr_up hmm66 (zfr_rf [(28, 46)] _) hc0 rfl) rfl) hRKNmh
                    have g67 := zwt_pop hmm66 hc0 (by omega) (by omega)
                    have g68 := zwt_bd hIm66 hc0
                    have r69 : 0 ≤ (m66 a0 45) ∧ (m66 a0 45) ≤ 96 := zi_rd hIm66 hc0 zb_28_45
                    have e70 : (m66 a0 45) = (zu_w32 ((mh a0 45) - 1)) := (zs_eq hmm66)
                    have s71 : m66 211 (m66 a0 45) = mh 211 (zu_w32 ((mh a0 45) - 1)) := by rw [zs_eq hmm66]; exact zs_ne hmm66 (Or.inl (zc_ne zq_211 hc0 (by decide)))
                    have b72 : 0 ≤ (m66 a0 45) ∧ (m66 a0 45) < 96 := by omega
                    refine zw_if b72 ?_
                    refine zw_ite (fun h73 => ?_) (fun h73 => ?_)
                    · refine zw_bd (zw_eq (zu_call_at (zt_T n) (zm_111 n) (zdp_111 n) _ _ _ _ _ rfl (zr_111_0 n _ _ a0 m66)) ?_)
                      have r74 : 0 ≤ (m66 a0 46) ∧ (m66 a0 46) ≤ 96 := zi_rd hIm66 hc0 zb_28_46
                      have e75 : (m66 a0 46) = (mh a0 46) := (zs_ne hmm66 (Or.inr (by decide)))
                      have w76 := zu_w32_id (z := (m66 a0 46) - 1) (by omega) (by omega)
                      generalize hmm77 : zu_up m66 a0 46 (zu_w32 ((m66 a0 46) - 1)) = m77
                      have hIm77 := zi_up hmm77 hIm66 hc0 zb_28_46 (by omega) (by omega)
                      have hFm77 := zfr_up hmm77 hFm66 hc0 rfl
                      have g78 := zwt_fr (zdis_fr (zfr_up hmm77 (zfr_rf [(28, 47)] _) hc0 rfl) rfl)
                      have hRKNm77 := zR_KN_fr (zdis_fr (zfr_up hmm77 (zfr_rf [(28, 47)] _) hc0 rfl) rfl) hRKNm66
                      have r79 : 0 ≤ (m77 a0 46) ∧ (m77 a0 46) ≤ 96 := zi_rd hIm77 hc0 zb_28_46
                      have e80 : (m77 a0 46) = (zu_w32 ((m66 a0 46) - 1)) := (zs_eq hmm77)
                      have b81 : 0 ≤ (m77 a0 46) ∧ (m77 a0 46) < 96 := by omega
                      refine zw_if b81 ?_
                      have r82 : 0 ≤ (m77 212 (m77 a0 46)) ∧ (m77 212 (m77 a0 46)) ≤ 63 := zi_rd hIm77 zq_212 (zb_121 _)
                      refine zw_some ?_
                      refine zw_bd (zw_eq (zu_call_at (zt_T n) (zm_111 n) (zdp_111 n) _ _ _ _ _ rfl (zr_111_0 n _ _ a0 m77)) ?_)
                      have w83 := zu_w32_id (z := (m77 a0 46) - 1) (by omega) (by omega)
                      generalize hmm84 : zu_up m77 a0 46 (zu_w32 ((m77 a0 46) - 1)) = m84
                      have hIm84 := zi_up hmm84 hIm77 hc0 zb_28_46 (by omega) (by omega)
                      have hFm84 := zfr_up hmm84 hFm77 hc0 rfl
                      have g85 := zwt_fr (zdis_fr (zfr_up hmm84 (zfr_rf [(28, 47)] _) hc0 rfl) rfl)
                      have hRKNm84 := zR_KN_fr (zdis_fr (zfr_up hmm84 (zfr_rf [(28, 47)] _) hc0 rfl) rfl) hRKNm77
                      have r86 : 0 ≤ (m84 a0 46) ∧ (m84 a0 46) ≤ 96 := zi_rd hIm84 hc0 zb_28_46
                      have e87 : (m84 a0 46) = (zu_w32 ((m77 a0 46) - 1)) := (zs_eq hmm84)
                      have b88 : 0 ≤ (m84 a0 46) ∧ (m84 a0 46) < 96 := by omega
                      refine zw_if b88 ?_
                      have r89 : 0 ≤ (m84 212 (m84 a0 46)) ∧ (m84 212 (m84 a0 46)) ≤ 63 := zi_rd hIm84 zq_212 (zb_121 _)
                      refine zw_some ?_
                      have r90 : 0 ≤ (m84 a0 21) ∧ (m84 a0 21) ≤ 64 := zi_rd hIm84 hc0 zb_28_21
                      have e91 : (m84 a0 21) = (mh a0 21) := (Eq.trans (zs_ne hmm84 (Or.inr (by decide))) (Eq.trans (zs_ne hmm77 (Or.inr (by decide))) (zs_ne hmm66 (Or.inr (by decide)))))
                      refine zw_bd (zw_mono (zk_110 n hIm84 hc0 ⟨by omega, by omega⟩ ⟨by omega, by omega⟩ ⟨by omega, by omega⟩ (by omega) (by omega) (by omega) (by omega) (by omega) hRKNm84) (fun v93 m92 hqm92 => ?_))
                      obtain ⟨hIm92, hfm92, hvm92⟩ := hqm92
                      have hFm92 := zfr_tr hFm84 hfm92 rfl
                      obtain ⟨hRKNm92, hvm92⟩ := hvm92
                      have g94 := zwt_fr (zdis_fr hfm92 rfl)
                      have g95 := zwt_bd hIm92 hc0
                      have r96 : 0 ≤ (m92 a0 45) ∧ (m92 a0 45) ≤ 96 := zi_rd hIm92 hc0 zb_28_45
                      have e97 : (m92 a0 45) = (m66 a0 45) := (Eq.trans (zfr_ap hfm92 hc0 rfl) (Eq.trans (zs_ne hmm84 (Or.inr (by decide))) (zs_ne hmm77 (Or.inr (by decide)))))
                      have hM : (m92 a0 45) * 1 + 0 < (k : Int) := by omega
                      exact zw_le (zu_forget (zu_lr_same (zu_lr_same (zu_lr_drop (zu_lr_drop (zu_lr_drop zu_lr_nil)))))) (ih  m92 hIm92 hFm92 ⟨by omega, by omega⟩ (by omega) (by omega) (by omega) (by omega) hRKNm92 hM)
                    · exfalso; omega
              · refine zw_some ?_
                refine zw_ite (fun h98 => ?_) (fun h98 => ?_)
                · exact zw_some ⟨hImh, hFmh, hRKNmh, trivial, by omega, by omega, by omega, by omega, by omega⟩
                · generalize hmm99 : zu_up mh a0 45 (zu_w32 ((mh a0 45) - 1)) = m99
                  have hIm99 := zi_up hmm99 hImh hc0 zb_28_45 (by omega) (by omega)
                  have hFm99 := zfr_up hmm99 hFmh hc0 rfl
                  have hRKNm99 := zR_KN_fr (zdis_fr (zfr_up hmm99 (zfr_rf [(28, 46)] _) hc0 rfl) rfl) hRKNmh
                  have g100 := zwt_pop hmm99 hc0 (by omega) (by omega)
                  have g101 := zwt_bd hIm99 hc0
                  have r102 : 0 ≤ (m99 a0 45) ∧ (m99 a0 45) ≤ 96 := zi_rd hIm99 hc0 zb_28_45
                  have e103 : (m99 a0 45) = (zu_w32 ((mh a0 45) - 1)) := (zs_eq hmm99)
                  have s104 : m99 211 (m99 a0 45) = mh 211 (zu_w32 ((mh a0 45) - 1)) := by rw [zs_eq hmm99]; exact zs_ne hmm99 (Or.inl (zc_ne zq_211 hc0 (by decide)))
                  have b105 : 0 ≤ (m99 a0 45) ∧ (m99 a0 45) < 96 := by omega
                  refine zw_if b105 ?_
                  refine zw_ite (fun h106 => ?_) (fun h106 => ?_)
                  · refine zw_bd (zw_eq (zu_call_at (zt_T n) (zm_111 n) (zdp_111 n) _ _ _ _ _ rfl (zr_111_0 n _ _ a0 m99)) ?_)
                    have r107 : 0 ≤ (m99 a0 46) ∧ (m99 a0 46) ≤ 96 := zi_rd hIm99 hc0 zb_28_46
                    have e108 : (m99 a0 46) = (mh a0 46) := (zs_ne hmm99 (Or.inr (by decide)))
                    have w109 := zu_w32_id (z := (m99 a0 46) - 1) (by omega) (by omega)
                    generalize hmm110 : zu_up m99 a0 46 (zu_w32 ((m99 a0 46) - 1)) = m110
                    have hIm110 := zi_up hmm110 hIm99 hc0 zb_28_46 (by omega) (by omega)
                    have hFm110 := zfr_up hmm110 hFm99 hc0 rfl
                    have g111 := zwt_fr (zdis_fr (zfr_up hmm110 (zfr_rf [(28, 47)] _) hc0 rfl) rfl)
                    have hRKNm110 := zR_KN_fr (zdis_fr (zfr_up hmm110 (zfr_rf [(28, 47)] _) hc0 rfl) rfl) hRKNm99
                    have r112 : 0 ≤ (m110 a0 46) ∧ (m110 a0 46) ≤ 96 := zi_rd hIm110 hc0 zb_28_46
                    have e113 : (m110 a0 46) = (zu_w32 ((m99 a0 46) - 1)) := (zs_eq hmm110)
                    have b114 : 0 ≤ (m110 a0 46) ∧ (m110 a0 46) < 96 := by omega
                    refine zw_if b114 ?_
                    have r115 : 0 ≤ (m110 212 (m110 a0 46)) ∧ (m110 212 (m110 a0 46)) ≤ 63 := zi_rd hIm110 zq_212 (zb_121 _)
                    refine zw_some ?_
                    refine zw_bd (zw_eq (zu_call_at (zt_T n) (zm_111 n) (zdp_111 n) _ _ _ _ _ rfl (zr_111_0 n _ _ a0 m110)) ?_)
                    have w116 := zu_w32_id (z := (m110 a0 46) - 1) (by omega) (by omega)
                    generalize hmm117 : zu_up m110 a0 46 (zu_w32 ((m110 a0 46) - 1)) = m117
                    have hIm117 := zi_up hmm117 hIm110 hc0 zb_28_46 (by omega) (by omega)
                    have hFm117 := zfr_up hmm117 hFm110 hc0 rfl
                    have g118 := zwt_fr (zdis_fr (zfr_up hmm117 (zfr_rf [(28, 47)] _) hc0 rfl) rfl)
                    have hRKNm117 := zR_KN_fr (zdis_fr (zfr_up hmm117 (zfr_rf [(28, 47)] _) hc0 rfl) rfl) hRKNm110
                    have r119 : 0 ≤ (m117 a0 46) ∧ (m117 a0 46) ≤ 96 := zi_rd hIm117 hc0 zb_28_46
                    have e120 : (m117 a0 46) = (zu_w32 ((m110 a0 46) - 1)) := (zs_eq hmm117)
                    have b121 : 0 ≤ (m117 a0 46) ∧ (m117 a0 46) < 96 := by omega
                    refine zw_if b121 ?_
                    have r122 : 0 ≤ (m117 212 (m117 a0 46)) ∧ (m117 212 (m117 a0 46)) ≤ 63 := zi_rd hIm117 zq_212 (zb_121 _)
                    refine zw_some ?_
                    have r123 : 0 ≤ (m117 a0 21) ∧ (m117 a0 21) ≤ 64 := zi_rd hIm117 hc0 zb_28_21
                    have e124 : (m117 a0 21) = (mh a0 21) := (Eq.trans (zs_ne hmm117 (Or.inr (by decide))) (Eq.trans (zs_ne hmm110 (Or.inr (by decide))) (zs_ne hmm99 (Or.inr (by decide)))))
                    refine zw_bd (zw_mono (zk_110 n hIm117 hc0 ⟨by omega, by omega⟩ ⟨by omega, by omega⟩ ⟨by omega, by omega⟩ (by omega) (by omega) (by omega) (by omega) (by omega) hRKNm117) (fun v126 m125 hqm125 => ?_))
                    obtain ⟨hIm125, hfm125, hvm125⟩ := hqm125
                    have hFm125 := zfr_tr hFm117 hfm125 rfl
                    obtain ⟨hRKNm125, hvm125⟩ := hvm125
                    have g127 := zwt_fr (zdis_fr hfm125 rfl)
                    have g128 := zwt_bd hIm125 hc0
                    have r129 : 0 ≤ (m125 a0 45) ∧ (m125 a0 45) ≤ 96 := zi_rd hIm125 hc0 zb_28_45
                    have e130 : (m125 a0 45) = (m99 a0 45) := (Eq.trans (zfr_ap hfm125 hc0 rfl) (Eq.trans (zs_ne hmm117 (Or.inr (by decide))) (zs_ne hmm110 (Or.inr (by decide)))))
                    have hM : (m125 a0 45) * 1 + 0 < (k : Int) := by omega
                    exact zw_le (zu_forget (zu_lr_same (zu_lr_same (zu_lr_drop (zu_lr_drop (zu_lr_drop zu_lr_nil)))))) (ih  m125 hIm125 hFm125 ⟨by omega, by omega⟩ (by omega) (by omega) (by omega) (by omega) hRKNm125 hM)
                  · exfalso; omega
            · refine zw_some ?_
              refine zw_ite (fun h131 => ?_) (fun h131 => ?_)
              · exact zw_some ⟨hImh, hFmh, hRKNmh, trivial, by omega, by omega, by omega, by omega, by omega⟩
              · generalize hmm132 : zu_up mh a0 45 (zu_w32 ((mh a0 45) - 1)) = m132
                have hIm132 := zi_up hmm132 hImh hc0 zb_28_45 (by omega) (by omega)
                have hFm132 := zfr_up hmm132 hFmh hc0 rfl
                have hRKNm132 := zR_KN_fr (zdis_fr (zfr_up hmm132 (zfr_rf [(28, 46)] _) hc0 rfl) rfl) hRKNmh
                have g133 := zwt_pop hmm132 hc0 (by omega) (by omega)
                have g134 := zwt_bd hIm132 hc0
                have r135 : 0 ≤ (m132 a0 45) ∧ (m132 a0 45) ≤ 96 := zi_rd hIm132 hc0 zb_28_45
                have e136 : (m132 a0 45) = (zu_w32 ((mh a0 45) - 1)) := (zs_eq hmm132)
                have s137 : m132 211 (m132 a0 45) = mh 211 (zu_w32 ((mh a0 45) - 1)) := by rw [zs_eq hmm132]; exact zs_ne hmm132 (Or.inl (zc_ne zq_211 hc0 (by decide)))
                have b138 : 0 ≤ (m132 a0 45) ∧ (m132 a0 45) < 96 := by omega
                refine zw_if b138 ?_
                refine zw_ite (fun h139 => ?_) (fun h139 => ?_)
                · exfalso; omega
                · refine zw_bd (zw_eq (zu_call_at (zt_T n) (zm_111 n) (zdp_111 n) _ _ _ _ _ rfl (zr_111_0 n _ _ a0 m132)) ?_)
                  have r140 : 0 ≤ (m132 a0 46) ∧ (m132 a0 46) ≤ 96 := zi_rd hIm132 hc0 zb_28_46
                  have e141 : (m132 a0 46) = (mh a0 46) := (zs_ne hmm132 (Or.inr (by decide)))
                  have w142 := zu_w32_id (z := (m132 a0 46) - 1) (by omega) (by omega)
                  generalize hmm143 : zu_up m132 a0 46 (zu_w32 ((m132 a0 46) - 1)) = m143
                  have hIm143 := zi_up hmm143 hIm132 hc0 zb_28_46 (by omega) (by omega)
                  have hFm143 := zfr_up hmm143 hFm132 hc0 rfl
                  have g144 := zwt_fr (zdis_fr (zfr_up hmm143 (zfr_rf [(28, 47)] _) hc0 rfl) rfl)
                  have hRKNm143 := zR_KN_fr (zdis_fr (zfr_up hmm143 (zfr_rf [(28, 47)] _) hc0 rfl) rfl) hRKNm132
                  have r145 : 0 ≤ (m143 a0 46) ∧ (m143 a0 46) ≤ 96 := zi_rd hIm143 hc0 zb_28_46
                  have e146 : (m143 a0 46) = (zu_w32 ((m132 a0 46) - 1)) := (zs_eq hmm143)
                  have b147 : 0 ≤ (m143 a0 46) ∧ (m143 a0 46) < 96 := by omega
                  refine zw_if b147 ?_
                  have r148 : 0 ≤ (m143 212 (m143 a0 46)) ∧ (m143 212 (m143 a0 46)) ≤ 63 := zi_rd hIm143 zq_212 (zb_121 _)
                  refine zw_some ?_
                  have r149 : 0 ≤ (m143 a0 21) ∧ (m143 a0 21) ≤ 64 := zi_rd hIm143 hc0 zb_28_21
                  have e150 : (m143 a0 21) = (mh a0 21) := (Eq.trans (zs_ne hmm143 (Or.inr (by decide))) (zs_ne hmm132 (Or.inr (by decide))))
                  refine zw_bd (zw_mono (zk_110 n hIm143 hc0 ⟨by omega, by omega⟩ ⟨by omega, by omega⟩ ⟨by omega, by omega⟩ (by omega) (by omega) (by omega) (by omega) (by omega) hRKNm143) (fun v152 m151 hqm151 => ?_))
                  obtain ⟨hIm151, hfm151, hvm151⟩ := hqm151
                  have hFm151 := zfr_tr hFm143 hfm151 rfl
                  obtain ⟨hRKNm151, hvm151⟩ := hvm151
                  have g153 := zwt_fr (zdis_fr hfm151 rfl)
                  have g154 := zwt_bd hIm151 hc0
                  have r155 : 0 ≤ (m151 a0 45) ∧ (m151 a0 45) ≤ 96 := zi_rd hIm151 hc0 zb_28_45
                  have e156 : (m151 a0 45) = (m132 a0 45) := (Eq.trans (zfr_ap hfm151 hc0 rfl) (zs_ne hmm143 (Or.inr (by decide))))
                  have hM : (m151 a0 45) * 1 + 0 < (k : Int) := by omega
                  exact zw_le (zu_forget (zu_lr_same (zu_lr_same (zu_lr_drop (zu_lr_drop (zu_lr_drop zu_lr_nil)))))) (ih  m151 hIm151 hFm151 ⟨by omega, by omega⟩ (by omega) (by omega) (by omega) (by omega) hRKNm151 hM)
          · refine zw_some ?_
            refine zw_ite (fun h157 => ?_) (fun h157 => ?_)
            · exact zw_some ⟨hImh, hFmh, hRKNmh, trivial, by omega, by omega, by omega, by omega, by omega⟩
            · generalize hmm158 : zu_up mh a0 45 (zu_w32 ((mh a0 45) - 1)) = m158
              have hIm158 := zi_up hmm158 hImh hc0 zb_28_45 (by omega) (by omega)
              have hFm158 := zfr_up hmm158 hFmh hc0 rfl
              have hRKNm158 := zR_KN_fr (zdis_fr (zfr_up hmm158 (zfr_rf [(28, 46)] _) hc0 rfl) rfl) hRKNmh
              have g159 := zwt_pop hmm158 hc0 (by omega) (by omega)
              have g160 := zwt_bd hIm158 hc0
              have r161 : 0 ≤ (m158 a0 45) ∧ (m158 a0 45) ≤ 96 := zi_rd hIm158 hc0 zb_28_45
              have e162 : (m158 a0 45) = (zu_w32 ((mh a0 45) - 1)) := (zs_eq hmm158)
              have s163 : m158 211 (m158 a0 45) = mh 211 (zu_w32 ((mh a0 45) - 1)) := by rw [zs_eq hmm158]; exact zs_ne hmm158 (Or.inl (zc_ne zq_211 hc0 (by decide)))
              have b164 : 0 ≤ (m158 a0 45) ∧ (m158 a0 45) < 96 := by omega
              refine zw_if b164 ?_
              refine zw_ite (fun h165 => ?_) (fun h165 => ?_)
              · refine zw_bd (zw_eq (zu_call_at (zt_T n) (zm_111 n) (zdp_111 n) _ _ _ _ _ rfl (zr_111_0 n _ _ a0 m158)) ?_)
                have r166 : 0 ≤ (m158 a0 46) ∧ (m158 a0 46) ≤ 96 := zi_rd hIm158 hc0 zb_28_46
                have e167 : (m158 a0 46) = (mh a0 46) := (zs_ne hmm158 (Or.inr (by decide)))
                have w168 := zu_w32_id (z := (m158 a0 46) - 1) (by omega) (by omega)
                generalize hmm169 : zu_up m158 a0 46 (zu_w32 ((m158 a0 46) - 1)) = m169
                have hIm169 := zi_up hmm169 hIm158 hc0 zb_28_46 (by omega) (by omega)
                have hFm169 := zfr_up hmm169 hFm158 hc0 rfl
                have g170 := zwt_fr (zdis_fr (zfr_up hmm169 (zfr_rf [(28, 47)] _) hc0 rfl) rfl)
                have hRKNm169 := zR_KN_fr (zdis_fr (zfr_up hmm169 (zfr_rf [(28, 47)] _) hc0 rfl) rfl) hRKNm158
                have r171 : 0 ≤ (m169 a0 46) ∧ (m169 a0 46) ≤ 96 := zi_rd hIm169 hc0 zb_28_46
                have e172 : (m169 a0 46) = (zu_w32 ((m158 a0 46) - 1)) := (zs_eq hmm169)
                have b173 : 0 ≤ (m169 a0 46) ∧ (m169 a0 46) < 96 := by omega
                refine zw_if b173 ?_
                have r174 : 0 ≤ (m169 212 (m169 a0 46)) ∧ (m169 212 (m169 a0 46)) ≤ 63 := zi_rd hIm169 zq_212 (zb_121 _)
                refine zw_some ?_
                refine zw_bd (zw_eq (zu_call_at (zt_T n) (zm_111 n) (zdp_111 n) _ _ _ _ _ rfl (zr_111_0 n _ _ a0 m169)) ?_)
                have w175 := zu_w32_id (z := (m169 a0 46) - 1) (by omega) (by omega)
                generalize hmm176 : zu_up m169 a0 46 (zu_w32 ((m169 a0 46) - 1)) = m176
                have hIm176 := zi_up hmm176 hIm169 hc0 zb_28_46 (by omega) (by omega)
                have hFm176 := zfr_up hmm176 hFm169 hc0 rfl
                have g177 := zwt_fr (zdis_fr (zfr_up hmm176 (zfr_rf [(28, 47)] _) hc0 rfl) rfl)
                have hRKNm176 := zR_KN_fr (zdis_fr (zfr_up hmm176 (zfr_rf [(28, 47)] _) hc0 rfl) rfl) hRKNm169
                have r178 : 0 ≤ (m176 a0 46) ∧ (m176 a0 46) ≤ 96 := zi_rd hIm176 hc0 zb_28_46
                have e179 : (m176 a0 46) = (zu_w32 ((m169 a0 46) - 1)) := (zs_eq hmm176)
                have b180 : 0 ≤ (m176 a0 46) ∧ (m176 a0 46) < 96 := by omega
                refine zw_if b180 ?_
                have r181 : 0 ≤ (m176 212 (m176 a0 46)) ∧ (m176 212 (m176 a0 46)) ≤ 63 := zi_rd hIm176 zq_212 (zb_121 _)
                refine zw_some ?_
                have r182 : 0 ≤ (m176 a0 21) ∧ (m176 a0 21) ≤ 64 := zi_rd hIm176 hc0 zb_28_21
                have e183 : (m176 a0 21) = (mh a0 21) := (Eq.trans (zs_ne hmm176 (Or.inr (by decide))) (Eq.trans (zs_ne hmm169 (Or.inr (by decide))) (zs_ne hmm158 (Or.inr (by decide)))))
                refine zw_bd (zw_mono (zk_110 n hIm176 hc0 ⟨by omega, by omega⟩ ⟨by omega, by omega⟩ ⟨by omega, by omega⟩ (by omega) (by omega) (by omega) (by omega) (by omega) hRKNm176) (fun v185 m184 hqm184 => ?_))
                obtain ⟨hIm184, hfm184, hvm184⟩ := hqm184
                have hFm184 := zfr_tr hFm176 hfm184 rfl
                obtain ⟨hRKNm184, hvm184⟩ := hvm184
                have g186 := zwt_fr (zdis_fr hfm184 rfl)
                have g187 := zwt_bd hIm184 hc0
                have r188 : 0 ≤ (m184 a0 45) ∧ (m184 a0 45) ≤ 96 := zi_rd hIm184 hc0 zb_28_45
                have e189 : (m184 a0 45) = (m158 a0 45) := (Eq.trans (zfr_ap hfm184 hc0 rfl) (Eq.trans (zs_ne hmm176 (Or.inr (by decide))) (zs_ne hmm169 (Or.inr (by decide)))))
                have hM : (m184 a0 45) * 1 + 0 < (k : Int) := by omega
                exact zw_le (zu_forget (zu_lr_same (zu_lr_same (zu_lr_drop (zu_lr_drop (zu_lr_drop zu_lr_nil)))))) (ih  m184 hIm184 hFm184 ⟨by omega, by omega⟩ (by omega) (by omega) (by omega) (by omega) hRKNm184 hM)
              · exfalso; omega
        · refine zw_some ?_
          refine zw_ite (fun h190 => ?_) (fun h190 => ?_)
          · exact zw_some ⟨hImh, hFmh, hRKNmh, trivial, by omega, by omega, by omega, by omega, by omega⟩
          · generalize hmm191 : zu_up mh a0 45 (zu_w32 ((mh a0 45) - 1)) = m191
            have hIm191 := zi_up hmm191 hImh hc0 zb_28_45 (by omega) (by omega)
            have hFm191 := zfr_up hmm191 hFmh hc0 rfl
            have hRKNm191 := zR_KN_fr (zdis_fr (zfr_up hmm191 (zfr_rf [(28, 46)] _) hc0 rfl) rfl) hRKNmh
            have g192 := zwt_pop hmm191 hc0 (by omega) (by omega)
            have g193 := zwt_bd hIm191 hc0
            have r194 : 0 ≤ (m191 a0 45) ∧ (m191 a0 45) ≤ 96 := zi_rd hIm191 hc0 zb_28_45
            have e195 : (m191 a0 45) = (zu_w32 ((mh a0 45) - 1)) := (zs_eq hmm191)
            have s196 : m191 211 (m191 a0 45) = mh 211 (zu_w32 ((mh a0 45) - 1)) := by rw [zs_eq hmm191]; exact zs_ne hmm191 (Or.inl (zc_ne zq_211 hc0 (by decide)))
            have b197 : 0 ≤ (m191 a0 45) ∧ (m191 a0 45) < 96 := by omega
            refine zw_if b197 ?_
            refine zw_ite (fun h198 => ?_) (fun h198 => ?_)
            · refine zw_bd (zw_eq (zu_call_at (zt_T n) (zm_111 n) (zdp_111 n) _ _ _ _ _ rfl (zr_111_0 n _ _ a0 m191)) ?_)
              have r199 : 0 ≤ (m191 a0 46) ∧ (m191 a0 46) ≤ 96 := zi_rd hIm191 hc0 zb_28_46
              have e200 : (m191 a0 46) = (mh a0 46) := (zs_ne hmm191 (Or.inr (by decide)))
              have w201 := zu_w32_id (z := (m191 a0 46) - 1) (by omega) (by omega)
              generalize hmm202 : zu_up m191 a0 46 (zu_w32 ((m191 a0 46) - 1)) = m202
              have hIm202 := zi_up hmm202 hIm191 hc0 zb_28_46 (by omega) (by omega)
              have hFm202 := zfr_up hmm202 hFm191 hc0 rfl
              have g203 := zwt_fr (zdis_fr (zfr_up hmm202 (zfr_rf [(28, 47)] _) hc0 rfl) rfl)
              have hRKNm202 := zR_KN_fr (zdis_fr (zfr_up hmm202 (zfr_rf [(28, 47)] _) hc0 rfl) rfl) hRKNm191
              have r204 : 0 ≤ (m202 a0 46) ∧ (m202 a0 46) ≤ 96 := zi_rd hIm202 hc0 zb_28_46
              have e205 : (m202 a0 46) = (zu_w32 ((m191 a0 46) - 1)) := (zs_eq hmm202)
              have b206 : 0 ≤ (m202 a0 46) ∧ (m202 a0 46) < 96 := by omega
              refine zw_if b206 ?_
              have r207 : 0 ≤ (m202 212 (m202 a0 46)) ∧ (m202 212 (m202 a0 46)) ≤ 63 := zi_rd hIm202 zq_212 (zb_121 _)
              refine zw_some ?_
              refine zw_bd (zw_eq (zu_call_at (zt_T n) (zm_111 n) (zdp_111 n) _ _ _ _ _ rfl (zr_111_0 n _ _ a0 m202)) ?_)
              have w208 := zu_w32_id (z := (m202 a0 46) - 1) (by omega) (by omega)
              generalize hmm209 : zu_up m202 a0 46 (zu_w32 ((m202 a0 46) - 1)) = m209
              have hIm209 := zi_up hmm209 hIm202 hc0 zb_28_46 (by omega) (by omega)
              have hFm209 := zfr_up hmm209 hFm202 hc0 rfl
              have g210 := zwt_fr (zdis_fr (zfr_up hmm209 (zfr_rf [(28, 47)] _) hc0 rfl) rfl)
              have hRKNm209 := zR_KN_fr (zdis_fr (zfr_up hmm209 (zfr_rf [(28, 47)] _) hc0 rfl) rfl) hRKNm202
              have r211 : 0 ≤ (m209 a0 46) ∧ (m209 a0 46) ≤ 96 := zi_rd hIm209 hc0 zb_28_46
              have e212 : (m209 a0 46) = (zu_w32 ((m202 a0 46) - 1)) := (zs_eq hmm209)
              have b213 : 0 ≤ (m209 a0 46) ∧ (m209 a0 46) < 96 := by omega
              refine zw_if b213 ?_
              have r214 : 0 ≤ (m209 212 (m209 a0 46)) ∧ (m209 212 (m209 a0 46)) ≤ 63 := zi_rd hIm209 zq_212 (zb_121 _)
              refine zw_some ?_
              have r215 : 0 ≤ (m209 a0 21) ∧ (m209 a0 21) ≤ 64 := zi_rd hIm209 hc0 zb_28_21
              have e216 : (m209 a0 21) = (mh a0 21) := (Eq.trans (zs_ne hmm209 (Or.inr (by decide))) (Eq.trans (zs_ne hmm202 (Or.inr (by decide))) (zs_ne hmm191 (Or.inr (by decide)))))
              refine zw_bd (zw_mono (zk_110 n hIm209 hc0 ⟨by omega, by omega⟩ ⟨by omega, by omega⟩ ⟨by omega, by omega⟩ (by omega) (by omega) (by omega) (by omega) (by omega) hRKNm209) (fun v218 m217 hqm217 => ?_))
              obtain ⟨hIm217, hfm217, hvm217⟩ := hqm217
              have hFm217 := zfr_tr hFm209 hfm217 rfl
              obtain ⟨hRKNm217, hvm217⟩ := hvm217
              have g219 := zwt_fr (zdis_fr hfm217 rfl)
              have g220 := zwt_bd hIm217 hc0
              have r221 : 0 ≤ (m217 a0 45) ∧ (m217 a0 45) ≤ 96 := zi_rd hIm217 hc0 zb_28_45
              have e222 : (m217 a0 45) = (m191 a0 45) := (Eq.trans (zfr_ap hfm217 hc0 rfl) (Eq.trans (zs_ne hmm209 (Or.inr (by decide))) (zs_ne hmm202 (Or.inr (by decide)))))
              have hM : (m217 a0 45) * 1 + 0 < (k : Int) := by omega
              exact zw_le (zu_forget (zu_lr_same (zu_lr_same (zu_lr_drop (zu_lr_drop (zu_lr_drop zu_lr_nil)))))) (ih  m217 hIm217 hFm217 ⟨by omega, by omega⟩ (by omega) (by omega) (by omega) (by omega) hRKNm217 hM)
            · exfalso; omega
      · refine zw_some ?_
        refine zw_ite (fun h223 => ?_) (fun h223 => ?_)
        · exfalso; omega
        · generalize hmm224 : zu_up mh a0 45 (zu_w32 ((mh a0 45) - 1)) = m224
          have hIm224 := zi_up hmm224 hImh hc0 zb_28_45 (by omega) (by omega)
          have hFm224 := zfr_up hmm224 hFmh hc0 rfl
          have hRKNm224 := zR_KN_fr (zdis_fr (zfr_up hmm224 (zfr_rf [(28, 46)] _) hc0 rfl) rfl) hRKNmh
          have g225 := zwt_pop hmm224 hc0 (by omega) (by omega)
          have g226 := zwt_bd hIm224 hc0
          have r227 : 0 ≤ (m224 a0 45) ∧ (m224 a0 45) ≤ 96 := zi_rd hIm224 hc0 zb_28_45
          have e228 : (m224 a0 45) = (zu_w32 ((mh a0 45) - 1)) := (zs_eq hmm224)
          have s229 : m224 211 (m224 a0 45) = mh 211 (zu_w32 ((mh a0 45) - 1)) := by rw [zs_eq hmm224]; exact zs_ne hmm224 (Or.inl (zc_ne zq_211 hc0 (by decide)))
          have b230 : 0 ≤ (m224 a0 45) ∧ (m224 a0 45) < 96 := by omega
          refine zw_if b230 ?_
          refine zw_ite (fun h231 => ?_) (fun h231 => ?_)
          · refine zw_bd (zw_eq (zu_call_at (zt_T n) (zm_111 n) (zdp_111 n) _ _ _ _ _ rfl (zr_111_0 n _ _ a0 m224)) ?_)
            have r232 : 0 ≤ (m224 a0 46) ∧ (m224 a0 46) ≤ 96 := zi_rd hIm224 hc0 zb_28_46
            have e233 : (m224 a0 46) = (mh a0 46) := (zs_ne hmm224 (Or.inr (by decide)))
            have w234 := zu_w32_id (z := (m224 a0 46) - 1) (by omega) (by omega)
            generalize hmm235 : zu_up m224 a0 46 (zu_w32 ((m224 a0 46) - 1)) = m235
            have hIm235 := zi_up hmm235 hIm224 hc0 zb_28_46 (by omega) (by omega)
            have hFm235 := zfr_up hmm235 hFm224 hc0 rfl
            have g236 := zwt_fr (zdis_fr (zfr_up hmm235 (zfr_rf [(28, 47)] _) hc0 rfl) rfl)
            have hRKNm235 := zR_KN_fr (zdis_fr (zfr_up hmm235 (zfr_rf [(28, 47)] _) hc0 rfl) rfl) hRKNm224
            have r237 : 0 ≤ (m235 a0 46) ∧ (m235 a0 46) ≤ 96 := zi_rd hIm235 hc0 zb_28_46
            have e238 : (m235 a0 46) = (zu_w32 ((m224 a0 46) - 1)) := (zs_eq hmm235)
            have b239 : 0 ≤ (m235 a0 46) ∧ (m235 a0 46) < 96 := by omega
            refine zw_if b239 ?_
            have r240 : 0 ≤ (m235 212 (m235 a0 46)) ∧ (m235 212 (m235 a0 46)) ≤ 63 := zi_rd hIm235 zq_212 (zb_121 _)
            refine zw_some ?_
            refine zw_bd (zw_eq (zu_call_at (zt_T n) (zm_111 n) (zdp_111 n) _ _ _ _ _ rfl (zr_111_0 n _ _ a0 m235)) ?_)
            have w241 := zu_w32_id (z := (m235 a0 46) - 1) (by omega) (by omega)
            generalize hmm242 : zu_up m235 a0 46 (zu_w32 ((m235 a0 46) - 1)) = m242
            have hIm242 := zi_up hmm242 hIm235 hc0 zb_28_46 (by omega) (by omega)
            have hFm242 := zfr_up hmm242 hFm235 hc0 rfl
            have g243 := zwt_fr (zdis_fr (zfr_up hmm242 (zfr_rf [(28, 47)] _) hc0 rfl) rfl)
            have hRKNm242 := zR_KN_fr (zdis_fr (zfr_up hmm242 (zfr_rf [(28, 47)] _) hc0 rfl) rfl) hRKNm235
            have r244 : 0 ≤ (m242 a0 46) ∧ (m242 a0 46) ≤ 96 := zi_rd hIm242 hc0 zb_28_46
            have e245 : (m242 a0 46) = (zu_w32 ((m235 a0 46) - 1)) := (zs_eq hmm242)
            have b246 : 0 ≤ (m242 a0 46) ∧ (m242 a0 46) < 96 := by omega
            refine zw_if b246 ?_
            have r247 : 0 ≤ (m242 212 (m242 a0 46)) ∧ (m242 212 (m242 a0 46)) ≤ 63 := zi_rd hIm242 zq_212 (zb_121 _)
            refine zw_some ?_
            have r248 : 0 ≤ (m242 a0 21) ∧ (m242 a0 21) ≤ 64 := zi_rd hIm242 hc0 zb_28_21
            have e249 : (m242 a0 21) = (mh a0 21) := (Eq.trans (zs_ne hmm242 (Or.inr (by decide))) (Eq.trans (zs_ne hmm235 (Or.inr (by decide))) (zs_ne hmm224 (Or.inr (by decide)))))
            refine zw_bd (zw_mono (zk_110 n hIm242 hc0 ⟨by omega, by omega⟩ ⟨by omega, by omega⟩ ⟨by omega, by omega⟩ (by omega) (by omega) (by omega) (by omega) (by omega) hRKNm242) (fun v251 m250 hqm250 => ?_))
            obtain ⟨hIm250, hfm250, hvm250⟩ := hqm250
            have hFm250 := zfr_tr hFm242 hfm250 rfl
            obtain ⟨hRKNm250, hvm250⟩ := hvm250
            have g252 := zwt_fr (zdis_fr hfm250 rfl)
            have g253 := zwt_bd hIm250 hc0
            have r254 : 0 ≤ (m250 a0 45) ∧ (m250 a0 45) ≤ 96 := zi_rd hIm250 hc0 zb_28_45
            have e255 : (m250 a0 45) = (m224 a0 45) := (Eq.trans (zfr_ap hfm250 hc0 rfl) (Eq.trans (zs_ne hmm242 (Or.inr (by decide))) (zs_ne hmm235 (Or.inr (by decide)))))
            have hM : (m250 a0 45) * 1 + 0 < (k : Int) := by omega
            exact zw_le (zu_forget (zu_lr_same (zu_lr_same (zu_lr_drop (zu_lr_drop (zu_lr_drop zu_lr_nil)))))) (ih  m250 hIm250 hFm250 ⟨by omega, by omega⟩ (by omega) (by omega) (by omega) (by omega) hRKNm250 hM)
          · exfalso; omega
set_option maxHeartbeats 4000000 in
theorem zk_112 (n : Nat) {a0 a1 : Int} {m0 : zu_m} (hIm0 : zi_I m0) (hc0 : zcls a0 = 28) (ha1 : 0 ≤ a1 ∧ a1 ≤ 6)   (hxp0 : (m0 a0 46) = zbi m0 + 1) (hxp1 : (m0 a0 21) + znz m0 ≤ 64) (hxp2 : 1 ≤ a1) (hRKNm0 : zR_KN m0) : zw (zu_call (zt_T n) 112 [(40, a0), (0, a1)] m0) (fun v m => zi_I m ∧ zfr [(28, 22), (28, 46), (28, 47), (117, 0), (118, 0), (119, 0), (121, 0)] m0 m ∧ zR_KN m ∧ True ∧ ((m a0 21) + znz m = (m0 a0 21) + znz m0) ∧ ((m a0 46) - zbi m = (m0 a0 46) - zbi m0) ∧ ((m a0 45) - znz m = (m0 a0 45) - znz m0) ∧ ((m0 a0 21) ≤ (m a0 21)) ∧ (a1 = 1 → ((m a0 45) = 0 ∨ m 211 (zu_w32 ((m a0 45) - 1)) < 2))) := by
  have hFm0 : zfr [(28, 22), (28, 46), (28, 47), (117, 0), (118, 0), (119, 0), (121, 0)] m0 m0 := zfr_rf _ _
  have r256 : 0 ≤ (m0 a0 21) ∧ (m0 a0 21) ≤ 64 := zi_rd hIm0 hc0 zb_28_21
  have r257 : 0 ≤ (m0 a0 46) ∧ (m0 a0 46) ≤ 96 := zi_rd hIm0 hc0 zb_28_46
  have r258 : 0 ≤ (m0 a0 45) ∧ (m0 a0 45) ≤ 96 := zi_rd hIm0 hc0 zb_28_45
  have g259 := zwt_bd hIm0 hc0
  show zw (zu_ex (zt_T n) 112 0 [(40, a0), (0, a1), (2, 0), (2, 0), (2, 0)] [] m0) _
  have hM : (m0 a0 45) * 1 + 0 < ((97 : Nat) : Int) := by omega
  exact (zl_112 n (m0 := m0) hc0 hxp0 hxp1 hxp2 97)  m0 hIm0 hFm0 ⟨by omega, by omega⟩ (by omega) (by omega) (by omega) (by omega) hRKNm0 hM

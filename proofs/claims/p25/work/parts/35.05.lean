set_option maxHeartbeats 4000000 in
theorem zk_46 (n : Nat) {a0 a1 a2 : Int} {m0 : zu_m} (hIm0 : zi_I m0) (hc0 : zcls a0 = 2) (ha1 : (-2147483648) ≤ a1 ∧ a1 ≤ 2147483647) (ha2 : (-2147483648) ≤ a2 ∧ a2 ≤ 2147483647)     : zw (zu_call (zt_T n) 46 [(5, a0), (0, a1), (0, a2)] m0) (fun v m => zi_I m ∧ zfr [] m0 m ∧ ((-4) ≤ v ∧ v ≤ 47)) := by
  have hFm0 : zfr [] m0 m0 := zfr_rf _ _
  refine zw_eq (zu_call_at (zt_T n) (zm_46 n) (zdp_46 n) _ _ _ _ _ rfl (zr_46_0 n _ _ a0 a1 a2 m0)) ?_
  refine zw_bd (zw_eq (zu_call_at (zt_T n) (zm_210 n) (zdp_210 n) _ _ _ _ _ rfl (zr_210_0 n _ _ 89 a1 m0)) ?_)
  refine zw_ite (fun h1 => ?_) (fun h1 => ?_)
  · refine zw_b (by omega) ?_
    refine zw_some ?_
    refine zw_ite (fun h2 => ?_) (fun h2 => ?_)
    · exfalso; omega
    · exact zw_some ⟨hIm0, hFm0, ⟨by omega, by omega⟩⟩
  · have r3 : 0 ≤ (m0 89 2) ∧ (m0 89 2) ≤ 16 := zi_rd hIm0 zq_89 zb_16_2
    refine zw_ite (fun h4 => ?_) (fun h4 => ?_)
    · refine zw_b (by omega) ?_
      refine zw_some ?_
      refine zw_ite (fun h5 => ?_) (fun h5 => ?_)
      · exfalso; omega
      · exact zw_some ⟨hIm0, hFm0, ⟨by omega, by omega⟩⟩
    · refine zw_b (by omega) ?_
      refine zw_some ?_
      refine zw_ite (fun h6 => ?_) (fun h6 => ?_)
      · have b7 : 0 ≤ a1 ∧ a1 < 16 := by omega
        refine zw_if b7 ?_
        refine zw_ite (fun h8 => ?_) (fun h8 => ?_)
        · have r9 : 0 ≤ (m0 ((89 + 1) + 5 + a1) 0) ∧ (m0 ((89 + 1) + 5 + a1) 0) ≤ 47 := zi_rd hIm0 (zc_65_e (zc_16_1 zq_89) b7) zb_17_0
          exact zw_some ⟨hIm0, hFm0, ⟨by omega, by omega⟩⟩
        · refine zw_ite (fun h10 => ?_) (fun h10 => ?_)
          · have r11 : 0 ≤ (m0 ((89 + 1) + 5 + a1) 1) ∧ (m0 ((89 + 1) + 5 + a1) 1) ≤ 3 := zi_rd hIm0 (zc_65_e (zc_16_1 zq_89) b7) zb_17_1
            exact zw_some ⟨hIm0, hFm0, ⟨by omega, by omega⟩⟩
          · refine zw_ite (fun h12 => ?_) (fun h12 => ?_)
            · have r13 : 0 ≤ (m0 ((89 + 1) + 5 + a1) 2) ∧ (m0 ((89 + 1) + 5 + a1) 2) ≤ 9 := zi_rd hIm0 (zc_65_e (zc_16_1 zq_89) b7) zb_17_2
              exact zw_some ⟨hIm0, hFm0, ⟨by omega, by omega⟩⟩
            · refine zw_ite (fun h14 => ?_) (fun h14 => ?_)
              · have r15 : (-3) ≤ (m0 ((89 + 1) + 5 + a1) 3) ∧ (m0 ((89 + 1) + 5 + a1) 3) ≤ 3 := zi_rd hIm0 (zc_65_e (zc_16_1 zq_89) b7) zb_17_3
                exact zw_some ⟨hIm0, hFm0, ⟨by omega, by omega⟩⟩
              · exact zw_some ⟨hIm0, hFm0, ⟨by omega, by omega⟩⟩
      · exfalso; omega
set_option maxHeartbeats 4000000 in
theorem zk_58 (n : Nat) {a0 a1 : Int} {m0 : zu_m} (hIm0 : zi_I m0) (hc0 : zcls a0 = 2) (ha1 : (-2147483648) ≤ a1 ∧ a1 ≤ 2147483647)     : zw (zu_call (zt_T n) 58 [(5, a0), (0, a1)] m0) (fun v m => zi_I m ∧ zfr [] m0 m ∧ ((-1) ≤ v ∧ v ≤ 999000)) := by
  have hFm0 : zfr [] m0 m0 := zfr_rf _ _
  refine zw_eq (zu_call_at (zt_T n) (zm_58 n) (zdp_58 n) _ _ _ _ _ rfl (zr_58_0 n _ _ a0 a1 m0)) ?_
  refine zw_bd (zw_eq (zu_call_at (zt_T n) (zm_244 n) (zdp_244 n) _ _ _ _ _ rfl (zr_244_0 n _ _ 50 a1 m0)) ?_)
  refine zw_ite (fun h1 => ?_) (fun h1 => ?_)
  · refine zw_b (by omega) ?_
    refine zw_some ?_
    refine zw_ite (fun h2 => ?_) (fun h2 => ?_)
    · exact zw_some ⟨hIm0, hFm0, ⟨by omega, by omega⟩⟩
    · exfalso; omega
  · have r3 : 1 ≤ (m0 50 2) ∧ (m0 50 2) ≤ 48 := zi_rd hIm0 zq_50 zb_11_2
    refine zw_ite (fun h4 => ?_) (fun h4 => ?_)
    · refine zw_b (by omega) ?_
      refine zw_some ?_
      refine zw_ite (fun h5 => ?_) (fun h5 => ?_)
      · exact zw_some ⟨hIm0, hFm0, ⟨by omega, by omega⟩⟩
      · exfalso; omega
    · refine zw_b (by omega) ?_
      refine zw_some ?_
      refine zw_ite (fun h6 => ?_) (fun h6 => ?_)
      · exfalso; omega
      · have b7 : 0 ≤ a1 ∧ a1 < 48 := by omega
        refine zw_if b7 ?_
        have r8 : 0 ≤ (m0 (89 + 4) a1) ∧ (m0 (89 + 4) a1) ≤ 999000 := zi_rd hIm0 (zc_16_6 zq_89) (zb_68 _)
        exact zw_some ⟨hIm0, hFm0, ⟨by omega, by omega⟩⟩
set_option maxHeartbeats 4000000 in
theorem zk_72 (n : Nat) {a0 a1 a2 a3 a4 : Int} {m0 : zu_m} (hIm0 : zi_I m0) (hc0 : zcls a0 = 2) (ha1 : (-2147483648) ≤ a1 ∧ a1 ≤ 2147483647) (ha2 : (-2147483648) ≤ a2 ∧ a2 ≤ 2147483647) (ha3 : (-2147483648) ≤ a3 ∧ a3 ≤ 2147483647) (ha4 : 0 ≤ a4 ∧ a4 ≤ 1)     : zw (zu_call (zt_T n) 72 [(5, a0), (0, a1), (0, a2), (0, a3), (0, a4)] m0) (fun v m => zi_I m ∧ zfr [(22, 7), (75, 0), (76, 0), (77, 0), (78, 0), (79, 0)] m0 m ∧ ((-1) ≤ v ∧ v ≤ 23)) := by
  have hFm0 : zfr [(22, 7), (75, 0), (76, 0), (77, 0), (78, 0), (79, 0)] m0 m0 := zfr_rf _ _
  refine zw_eq (zu_call_at (zt_T n) (zm_72 n) (zdp_72 n) _ _ _ _ _ rfl (zr_72_0 n _ _ a0 a1 a2 a3 a4 m0)) ?_
  refine zw_bd (zw_eq (zu_call_at (zt_T n) (zm_53 n) (zdp_53 n) _ _ _ _ _ rfl (zr_53_0 n _ _ a1 m0)) ?_)
  refine zw_ite (fun h1 => ?_) (fun h1 => ?_)
  · refine zw_b (by omega) ?_
    refine zw_some ?_
    refine zw_ite (fun h2 => ?_) (fun h2 => ?_)
    · exact zw_some ⟨hIm0, hFm0, ⟨by omega, by omega⟩⟩
    · exfalso; omega
  · refine zw_ite (fun h3 => ?_) (fun h3 => ?_)
    · refine zw_b (by omega) ?_
      refine zw_some ?_
      refine zw_ite (fun h4 => ?_) (fun h4 => ?_)
      · exact zw_some ⟨hIm0, hFm0, ⟨by omega, by omega⟩⟩
      · exfalso; omega
    · refine zw_b (by omega) ?_
      refine zw_some ?_
      refine zw_ite (fun h5 => ?_) (fun h5 => ?_)
      · exfalso; omega
      · refine zw_bd (zw_eq (zu_call_at (zt_T n) (zm_211 n) (zdp_211 n) _ _ _ _ _ rfl (zr_211_0 n _ _ 89 a2 m0)) ?_)
        refine zw_ite (fun h6 => ?_) (fun h6 => ?_)
        · refine zw_b (by omega) ?_
          refine zw_some ?_
          refine zw_ite (fun h7 => ?_) (fun h7 => ?_)
          · exact zw_some ⟨hIm0, hFm0, ⟨by omega, by omega⟩⟩
          · exfalso; omega
        · have r8 : 0 ≤ (m0 89 4) ∧ (m0 89 4) ≤ 4 := zi_rd hIm0 zq_89 zb_16_4
          refine zw_ite (fun h9 => ?_) (fun h9 => ?_)
          · refine zw_b (by omega) ?_
            refine zw_some ?_
            refine zw_ite (fun h10 => ?_) (fun h10 => ?_)
            · exact zw_some ⟨hIm0, hFm0, ⟨by omega, by omega⟩⟩
            · exfalso; omega
          · refine zw_b (by omega) ?_
            refine zw_some ?_
            refine zw_ite (fun h11 => ?_) (fun h11 => ?_)
            · exfalso; omega
            · refine zw_ite (fun h12 => ?_) (fun h12 => ?_)
              · exact zw_some ⟨hIm0, hFm0, ⟨by omega, by omega⟩⟩
              · refine zw_ite (fun h13 => ?_) (fun h13 => ?_)
                · refine zw_bd (zw_mono (zk_272 n hIm0 zq_141 ⟨by omega, by omega⟩ ⟨by omega, by omega⟩ ⟨by omega, by omega⟩ ⟨by omega, by omega⟩) (fun v15 m14 hqm14 => ?_))
                  obtain ⟨hIm14, hfm14, hvm14⟩ := hqm14
                  have hFm14 := zfr_tr hFm0 hfm14 rfl
                  exact zw_some ⟨hIm14, hFm14, ⟨by omega, by omega⟩⟩
                · exact zw_some ⟨hIm0, hFm0, ⟨by omega, by omega⟩⟩
set_option maxHeartbeats 4000000 in
theorem zk_73 (n : Nat) {a0 a1 : Int} {m0 : zu_m} (hIm0 : zi_I m0) (hc0 : zcls a0 = 2) (ha1 : (-2147483648) ≤ a1 ∧ a1 ≤ 2147483647)     : zw (zu_call (zt_T n) 73 [(5, a0), (0, a1)] m0) (fun v m => zi_I m ∧ zfr [(22, 7), (79, 0)] m0 m ∧ ((-1) ≤ v ∧ v ≤ 23)) := by
  have hFm0 : zfr [(22, 7), (79, 0)] m0 m0 := zfr_rf _ _
  refine zw_eq (zu_call_at (zt_T n) (zm_73 n) (zdp_73 n) _ _ _ _ _ rfl (zr_73_0 n _ _ a0 a1 m0)) ?_
  refine zw_bd (zw_mono (zk_273 n hIm0 zq_141 ⟨by omega, by omega⟩) (fun v2 m1 hqm1 => ?_))
  obtain ⟨hIm1, hfm1, hvm1⟩ := hqm1
  have hFm1 := zfr_tr hFm0 hfm1 rfl
  exact zw_some ⟨hIm1, hFm1, ⟨by omega, by omega⟩⟩
set_option maxHeartbeats 4000000 in
theorem zl_89H0 (n : Nat) {a0 : Int} {m0 : zu_m} (hc0 : zcls a0 = 28)   (k : Nat) (ih : (∀ (mh : zu_m), zi_I mh → zfr [(28, 8), (28, 9), (28, 10), (28, 11)] m0 mh → ((m0 a0 7) ≤ (mh a0 7)) → (zR_NS mh) → (zR_WD mh) → (700 - (mh a0 7)) * 1 + 1402 < (k : Int) → zw (zu_ex (zt_T n) 89 0 [(40, a0)] [] mh) (fun v m => zi_I m ∧ zfr [(28, 8), (28, 9), (28, 10), (28, 11)] m0 m ∧ zR_NS m ∧ zR_TR m ∧ zR_WD m ∧ True ∧ ((m0 a0 7) ≤ (m a0 7)) ∧ ((m a0 8) = 0 ∨ (m0 a0 7) < (m a0 7)))) ∧ (∀ (mh : zu_m), zi_I mh → zfr [(28, 8), (28, 9), (28, 10), (28, 11)] m0 mh → (0 ≤ mh a0 10 ∧ mh a0 10 ≤ 699) → (1 ≤ mh a0 6 ∧ mh a0 6 ≤ 700) → ((m0 a0 7) ≤ (mh a0 7)) → ((mh a0 10) = (mh a0 7) → ((mh a0 7) < (mh a0 6))) → ((m0 a0 7) ≤ (mh a0 10)) → ((mh a0 10) ≤ (mh a0 7)) → ((mh a0 10) = (mh a0 7) → (97 ≤ mh 191 (mh a0 7) ∧ mh 191 (mh a0 7) ≤ 122 ∧ (mh a0 7) < (mh a0 6))) → (zR_NS mh) → (zR_WD mh) → (700 - (mh a0 7)) * 1 + 701 < (k : Int) → zw (zu_ex (zt_T n) 89 90 [(40, a0)] [] mh) (fun v m => zi_I m ∧ zfr [(28, 8), (28, 9), (28, 10), (28, 11)] m0 m ∧ zR_NS m ∧ zR_TR m ∧ zR_WD m ∧ True ∧ ((m0 a0 7) ≤ (m a0 7)) ∧ ((m a0 8) = 0 ∨ (m0 a0 7) < (m a0 7)))) ∧ (∀ (mh : zu_m), zi_I mh → zfr [(28, 8), (28, 9), (28, 10), (28, 11)] m0 mh → (0 ≤ mh a0 10 ∧ mh a0 10 ≤ 699) → (1 ≤ mh a0 6 ∧ mh a0 6 ≤ 700) → (3 ≤ mh a0 8 ∧ mh a0 8 ≤ 3) → (0 ≤ mh a0 9 ∧ mh a0 9 ≤ 999999) → ((m0 a0 7) ≤ (mh a0 7)) → ((mh a0 8) = 3) → (0 ≤ (mh a0 9)) → ((m0 a0 7) ≤ (mh a0 10)) → ((mh a0 10) ≤ (mh a0 7)) → ((mh a0 10) = (mh a0 7) → (48 ≤ mh 191 (mh a0 7) ∧ mh 191 (mh a0 7) ≤ 57 ∧ (mh a0 7) < (mh a0 6))) → (zR_NS mh) → (zR_WD mh) → (700 - (mh a0 7)) * 1 + 0 < (k : Int) → zw (zu_ex (zt_T n) 89 213 [(40, a0)] [] mh) (fun v m => zi_I m ∧ zfr [(28, 8), (28, 9), (28, 10), (28, 11)] m0 m ∧ zR_NS m ∧ zR_TR m ∧ zR_WD m ∧ True ∧ ((m0 a0 7) ≤ (m a0 7)) ∧ ((m a0 8) = 0 ∨ (m0 a0 7) < (m a0 7))))) : (∀ (mh : zu_m), zi_I mh → zfr [(28, 8), (28, 9), (28, 10), (28, 11)] m0 mh → ((m0 a0 7) ≤ (mh a0 7)) → (zR_NS mh) → (zR_WD mh) → (700 - (mh a0 7)) * 1 + 1402 < ((k + 1 : Nat) : Int) → zw (zu_ex (zt_T n) 89 0 [(40, a0)] [] mh) (fun v m => zi_I m ∧ zfr [(28, 8), (28, 9), (28, 10), (28, 11)] m0 m ∧ zR_NS m ∧ zR_TR m ∧ zR_WD m ∧ True ∧ ((m0 a0 7) ≤ (m a0 7)) ∧ ((m a0 8) = 0 ∨ (m0 a0 7) < (m a0 7)))) := by
      intro mh hImh hFmh hH0 hRNSmh hRWDmh hM
      refine zw_eq (zu_rega_at (zt_T n) (zm_89 n) (zdp_89 n) _ _ _ _ _ _ (zr_89_0 n _ _ a0 mh)) ?_
      have r1 : 0 ≤ (mh a0 7) ∧ (mh a0 7) ≤ 700 := zi_rd hImh hc0 zb_28_7
      have s2 := hRNSmh a0 hc0
      have r3 : 0 ≤ (mh a0 6) ∧ (mh a0 6) ≤ 700 := zi_rd hImh hc0 zb_28_6
      refine zw_ite (fun h4 => ?_) (fun h4 => ?_)
      · generalize hmm5 : zu_up mh a0 10 (mh a0 7) = m5
        have hIm5 := zi_up hmm5 hImh hc0 zb_28_10 (by omega) (by omega)
        have hFm5 := zfr_up hmm5 hFmh hc0 rfl
        have hRNSm5 := zR_NS_fr (zdis_fr (zfr_up hmm5 (zfr_rf [(28, 11)] _) hc0 rfl) rfl) hRNSmh
        have hRWDm5 := zR_WD_fr (zdis_fr (zfr_up hmm5 (zfr_rf [(28, 11)] _) hc0 rfl) rfl) hRWDmh
        have r6 : 0 ≤ (m5 a0 7) ∧ (m5 a0 7) ≤ 700 := zi_rd hIm5 hc0 zb_28_7
        have e7 : (m5 a0 7) = (mh a0 7) := (zs_ne hmm5 (Or.inr (by decide)))
        have r8 : 0 ≤ (m5 a0 6) ∧ (m5 a0 6) ≤ 700 := zi_rd hIm5 hc0 zb_28_6
        have e9 : (m5 a0 6) = (mh a0 6) := (zs_ne hmm5 (Or.inr (by decide)))
        refine zw_ite (fun h10 => ?_) (fun h10 => ?_)
        · exfalso; omega
        · generalize hmm11 : zu_up m5 a0 8 0 = m11
          have hIm11 := zi_up hmm11 hIm5 hc0 zb_28_8 (by omega) (by omega)
          have hFm11 := zfr_up hmm11 hFm5 hc0 rfl
          have hRNSm11 := zR_NS_fr (zdis_fr (zfr_up hmm11 (zfr_rf [(28, 9)] _) hc0 rfl) rfl) hRNSm5
          have hRWDm11 := zR_WD_fr (zdis_fr (zfr_up hmm11 (zfr_rf [(28, 9)] _) hc0 rfl) rfl) hRWDm5
          have r12 : 0 ≤ (m11 a0 8) ∧ (m11 a0 8) ≤ 6 := zi_rd hIm11 hc0 zb_28_8
          have e13 : (m11 a0 8) = 0 := (zs_eq hmm11)
          have r14 : (-2147483648) ≤ (m11 a0 9) ∧ (m11 a0 9) ≤ 2147483647 := zi_rd hIm11 hc0 zb_28_9
          have hRTRm11 := zR_TR_of hc0 (show (m11 a0 8 = 5 → (0 ≤ m11 a0 9 ∧ m11 a0 9 ≤ 5)) ∧ (m11 a0 8 = 1 → (0 ≤ m11 a0 9 ∧ m11 a0 9 ≤ 32)) ∧ (m11 a0 8 = 3 → 0 ≤ m11 a0 9) by omega)
          have r15 : 0 ≤ (m11 a0 7) ∧ (m11 a0 7) ≤ 700 := zi_rd hIm11 hc0 zb_28_7
          have e16 : (m11 a0 7) = (m5 a0 7) := (zs_ne hmm11 (Or.inr (by decide)))
          exact zw_some ⟨hIm11, hFm11, hRNSm11, hRTRm11, hRWDm11, trivial, by omega, by omega⟩
      · have b17 : 0 ≤ (mh a0 7) ∧ (mh a0 7) < 700 := by omega
        refine zw_if b17 ?_
        have r18 : (-2147483648) ≤ (mh 191 (mh a0 7)) ∧ (mh 191 (mh a0 7)) ≤ 2147483647 := zi_rd hImh zq_191 (zb_100 _)
        refine zw_ite (fun h19 => ?_) (fun h19 => ?_)
        · have w20 := zu_w32_id (z := (mh a0 7) + 1) (by omega) (by omega)
          generalize hmm21 : zu_up mh a0 7 (zu_w32 ((mh a0 7) + 1)) = m21
          have hIm21 := zi_up hmm21 hImh hc0 zb_28_7 (by omega) (by omega)
          have hFm21 := zfr_up hmm21 hFmh hc0 rfl
          have hRWDm21 := zR_WD_fr (zdis_fr (zfr_up hmm21 (zfr_rf [(28, 8)] _) hc0 rfl) rfl) hRWDmh
          have r22 : 0 ≤ (m21 a0 7) ∧ (m21 a0 7) ≤ 700 := zi_rd hIm21 hc0 zb_28_7
          have e23 : (m21 a0 7) = (zu_w32 ((mh a0 7) + 1)) := (zs_eq hmm21)
          have r24 : 0 ≤ (m21 a0 6) ∧ (m21 a0 6) ≤ 700 := zi_rd hIm21 hc0 zb_28_6
          have e25 : (m21 a0 6) = (mh a0 6) := (zs_ne hmm21 (Or.inr (by decide)))
          have hRNSm21 := zR_NS_of hc0 (show m21 a0 7 ≤ m21 a0 6 by omega)
          have hM : (700 - (m21 a0 7)) * 1 + 1402 < (k : Int) := by omega
          exact ih.1  m21 hIm21 hFm21 (by omega) hRNSm21 hRWDm21 hM
        · have b26 : 0 ≤ (mh a0 7) ∧ (mh a0 7) < 700 := by omega
          refine zw_if b26 ?_
          refine zw_ite (fun h27 => ?_) (fun h27 => ?_)
          · generalize hmm28 : zu_up mh a0 10 (mh a0 7) = m28
            have hIm28 := zi_up hmm28 hImh hc0 zb_28_10 (by omega) (by omega)
            have hFm28 := zfr_up hmm28 hFmh hc0 rfl
            have hRNSm28 := zR_NS_fr (zdis_fr (zfr_up hmm28 (zfr_rf [(28, 11)] _) hc0 rfl) rfl) hRNSmh
            have hRWDm28 := zR_WD_fr (zdis_fr (zfr_up hmm28 (zfr_rf [(28, 11)] _) hc0 rfl) rfl) hRWDmh
            have r29 : 0 ≤ (m28 a0 7) ∧ (m28 a0 7) ≤ 700 := zi_rd hIm28 hc0 zb_28_7
            have e30 : (m28 a0 7) = (mh a0 7) := (zs_ne hmm28 (Or.inr (by decide)))
            have r31 : 0 ≤ (m28 a0 6) ∧ (m28 a0 6) ≤ 700 := zi_rd hIm28 hc0 zb_28_6
            have e32 : (m28 a0 6) = (mh a0 6) := (zs_ne hmm28 (Or.inr (by decide)))
            refine zw_ite (fun h33 => ?_) (fun h33 => ?_)
            · refine zw_bd (zw_eq (zu_call_at (zt_T n) (zm_87 n) (zdp_87 n) _ _ _ _ _ rfl (zr_87_0 n _ _ a0 (m28 a0 7) m28)) ?_)
              refine zw_ite (fun h34 => ?_) (fun h34 => ?_)
              · refine zw_b (by omega) ?_
                refine zw_some ?_
                refine zw_ite (fun h35 => ?_) (fun h35 => ?_)
                · refine zw_bd (zw_eq (zu_call_at (zt_T n) (zm_88 n) (zdp_88 n) _ _ _ _ _ rfl (zr_88_0 n _ _ a0 (m28 a0 7) m28)) ?_)
                  refine zw_ite (fun h36 => ?_) (fun h36 => ?_)
                  · refine zw_b (by omega) ?_
                    refine zw_some ?_
                    refine zw_ite (fun h37 => ?_) (fun h37 => ?_)
                    · refine zw_bd (zw_mono (zk_90 n hIm28 hc0 ⟨by omega, by omega⟩ ⟨by omega, by omega⟩ (by omega) hRNSm28) (fun v39 m38 hqm38 => ?_))
                      obtain ⟨hIm38, hfm38, hvm38⟩ := hqm38
                      have hFm38 := zfr_tr hFm28 hfm38 rfl
                      obtain ⟨hRNSm38, hvm38⟩ := hvm38
                      have hRWDm38 := zR_WD_fr (zdis_fr hfm38 rfl) hRWDm28
                      have s40 := hRNSm38 a0 hc0
                      have r41 : (-2147483648) ≤ (m38 a0 9) ∧ (m38 a0 9) ≤ 2147483647 := zi_rd hIm38 hc0 zb_28_9
                      have hRTRm38 := zR_TR_of hc0 (show (m38 a0 8 = 5 → (0 ≤ m38 a0 9 ∧ m38 a0 9 ≤ 5)) ∧ (m38 a0 8 = 1 → (0 ≤ m38 a0 9 ∧ m38 a0 9 ≤ 32)) ∧ (m38 a0 8 = 3 → 0 ≤ m38 a0 9) by omega)
                      exact zw_some ⟨hIm38, hFm38, hRNSm38, hRTRm38, hRWDm38, trivial, by omega, by omega⟩
                    · exfalso; omega
                  · exfalso; omega
                · exfalso; omega
              · have b42 : 0 ≤ (m28 a0 7) ∧ (m28 a0 7) < 700 := by omega
                refine zw_if b42 ?_
                have r43 : (-2147483648) ≤ (m28 191 (m28 a0 7)) ∧ (m28 191 (m28 a0 7)) ≤ 2147483647 := zi_rd hIm28 zq_191 (zb_100 _)
                refine zw_ite (fun h44 => ?_) (fun h44 => ?_)
                · refine zw_b (by omega) ?_
                  refine zw_some ?_
                  refine zw_ite (fun h45 => ?_) (fun h45 => ?_)
                  · refine zw_bd (zw_eq (zu_call_at (zt_T n) (zm_88 n) (zdp_88 n) _ _ _ _ _ rfl (zr_88_0 n _ _ a0 (m28 a0 7) m28)) ?_)
                    refine zw_ite (fun h46 => ?_) (fun h46 => ?_)
                    · refine zw_b (by omega) ?_
                      refine zw_some ?_
                      refine zw_ite (fun h47 => ?_) (fun h47 => ?_)
                      · refine zw_bd (zw_mono (zk_90 n hIm28 hc0 ⟨by omega, by omega⟩ ⟨by omega, by omega⟩ (by omega) hRNSm28) (fun v49 m48 hqm48 => ?_))
                        obtain ⟨hIm48, hfm48, hvm48⟩ := hqm48
                        have hFm48 := zfr_tr hFm28 hfm48 rfl
                        obtain ⟨hRNSm48, hvm48⟩ := hvm48
                        have hRWDm48 := zR_WD_fr (zdis_fr hfm48 rfl) hRWDm28
                        have s50 := hRNSm48 a0 hc0
                        have r51 : (-2147483648) ≤ (m48 a0 9) ∧ (m48 a0 9) ≤ 2147483647 := zi_rd hIm48 hc0 zb_28_9
                        have hRTRm48 := zR_TR_of hc0 (show (m48 a0 8 = 5 → (0 ≤ m48 a0 9 ∧ m48 a0 9 ≤ 5)) ∧ (m48 a0 8 = 1 → (0 ≤ m48 a0 9 ∧ m48 a0 9 ≤ 32)) ∧ (m48 a0 8 = 3 → 0 ≤ m48 a0 9) by omega)
                        exact zw_some ⟨hIm48, hFm48, hRNSm48, hRTRm48, hRWDm48, trivial, by omega, by omega⟩
                      · exfalso; omega
                    · have b52 : 0 ≤ (m28 a0 7) ∧ (m28 a0 7) < 700 := by omega
                      refine zw_if b52 ?_
                      refine zw_ite (fun h53 => ?_) (fun h53 => ?_)
                      · refine zw_b (by omega) ?_
                        refine zw_some ?_
                        refine zw_ite (fun h54 => ?_) (fun h54 => ?_)
                        · refine zw_bd (zw_mono (zk_90 n hIm28 hc0 ⟨by omega, by omega⟩ ⟨by omega, by omega⟩ (by omega) hRNSm28) (fun v56 m55 hqm55 => ?_))
                          obtain ⟨hIm55, hfm55, hvm55⟩ := hqm55
                          have hFm55 := zfr_tr hFm28 hfm55 rfl
                          obtain ⟨hRNSm55, hvm55⟩ := hvm55
                          have hRWDm55 := zR_WD_fr (zdis_fr hfm55 rfl) hRWDm28
                          have s57 := hRNSm55 a0 hc0
                          have r58 : (-2147483648) ≤ (m55 a0 9) ∧ (m55 a0 9) ≤ 2147483647 := zi_rd hIm55 hc0 zb_28_9
                          have hRTRm55 := zR_TR_of hc0 (show (m55 a0 8 = 5 → (0 ≤ m55 a0 9 ∧ m55 a0 9 ≤ 5)) ∧ (m55 a0 8 = 1 → (0 ≤ m55 a0 9 ∧ m55 a0 9 ≤ 32)) ∧ (m55 a0 8 = 3 → 0 ≤ m55 a0 9) by omega)
                          exact zw_some ⟨hIm55, hFm55, hRNSm55, hRTRm55, hRWDm55, trivial, by omega, by omega⟩
                        · exfalso; omega
                      · have b59 : 0 ≤ (m28 a0 7) ∧ (m28 a0 7) < 700 := by omega
                        refine zw_if b59 ?_
                        refine zw_ite (fun h60 => ?_) (fun h60 => ?_)
                        · refine zw_b (by omega) ?_
                          refine zw_some ?_
                          refine zw_ite (fun h61 => ?_) (fun h61 => ?_)
                          · refine zw_bd (zw_mono (zk_90 n hIm28 hc0 ⟨by omega, by omega⟩ ⟨by omega, by omega⟩ (by omega) hRNSm28) (fun v63 m62 hqm62 => ?_))
                            obtain ⟨hIm62, hfm62, hvm62⟩ := hqm62
                            have hFm62 := zfr_tr hFm28 hfm62 rfl
                            obtain ⟨hRNSm62, hvm62⟩ := hvm62
                            have hRWDm62 := zR_WD_fr (zdis_fr hfm62 rfl) hRWDm28
                            have s64 := hRNSm62 a0 hc0
                            have r65 : (-2147483648) ≤ (m62 a0 9) ∧ (m62 a0 9) ≤ 2147483647 := zi_rd hIm62 hc0 zb_28_9
                            have hRTRm62 := zR_TR_of hc0 (show (m62 a0 8 = 5 → (0 ≤ m62 a0 9 ∧ m62 a0 9 ≤ 5)) ∧ (m62 a0 8 = 1 → (0 ≤ m62 a0 9 ∧ m62 a0 9 ≤ 32)) ∧ (m62 a0 8 = 3 → 0 ≤ m62 a0 9) by omega)
                            exact zw_some ⟨hIm62, hFm62, hRNSm62, hRTRm62, hRWDm62, trivial, by omega, by omega⟩
                          · exfalso; omega
                        · refine zw_b (by omega) ?_
                          refine zw_some ?_
                          refine zw_ite (fun h66 => ?_) (fun h66 => ?_)
                          · exfalso; omega
                          · generalize hmm67 : zu_up m28 a0 8 3 = m67
                            have hIm67 := zi_up hmm67 hIm28 hc0 zb_28_8 (by omega) (by omega)
                            have hFm67 := zfr_up hmm67 hFm28 hc0 rfl
                            have hRNSm67 := zR_NS_fr (zdis_fr (zfr_up hmm67 (zfr_rf [(28, 9)] _) hc0 rfl) rfl) hRNSm28
                            have hRWDm67 := zR_WD_fr (zdis_fr (zfr_up hmm67 (zfr_rf [(28, 9)] _) hc0 rfl) rfl) hRWDm28
                            generalize hmm68 : zu_up m67 a0 9 0 = m68
                            have hIm68 := zi_up hmm68 hIm67 hc0 zb_28_9 (by omega) (by omega)
                            have hFm68 := zfr_up hmm68 hFm67 hc0 rfl
                            have hRNSm68 := zR_NS_fr (zdis_fr (zfr_up hmm68 (zfr_rf [(28, 10)] _) hc0 rfl) rfl) hRNSm67
                            have hRWDm68 := zR_WD_fr (zdis_fr (zfr_up hmm68 (zfr_rf [(28, 10)] _) hc0 rfl) rfl) hRWDm67
                            have r69 : 0 ≤ (m68 a0 6) ∧ (m68 a0 6) ≤ 700 := zi_rd hIm68 hc0 zb_28_6
                            have e70 : (m68 a0 6) = (m28 a0 6) := (Eq.trans (zs_ne hmm68 (Or.inr (by decide))) (zs_ne hmm67 (Or.inr (by decide))))
                            have r71 : 0 ≤ (m68 a0 10) ∧ (m68 a0 10) ≤ 700 := zi_rd hIm68 hc0 zb_28_10
                            have e72 : (m68 a0 10) = (mh a0 7) := (Eq.trans (zs_ne hmm68 (Or.inr (by decide))) (Eq.trans (zs_ne hmm67 (Or.inr (by decide))) (zs_eq hmm28)))
                            have r73 : 0 ≤ (m68 a0 8) ∧ (m68 a0 8) ≤ 6 := zi_rd hIm68 hc0 zb_28_8
                            have e74 : (m68 a0 8) = 3 := (Eq.trans (zs_ne hmm68 (Or.inr (by decide))) (zs_eq hmm67))
                            have r75 : (-2147483648) ≤ (m68 a0 9) ∧ (m68 a0 9) ≤ 2147483647 := zi_rd hIm68 hc0 zb_28_9
                            have e76 : (m68 a0 9) = 0 := (zs_eq hmm68)
                            have r77 : 0 ≤ (m68 a0 7) ∧ (m68 a0 7) ≤ 700 := zi_rd hIm68 hc0 zb_28_7
                            have e78 : (m68 a0 7) = (m28 a0 7) := (Eq.trans (zs_ne hmm68 (Or.inr (by decide))) (zs_ne hmm67 (Or.inr (by decide))))
                            have hM : (700 - (m68 a0 7)) * 1 + 0 < (k : Int) := by omega
                            exact ih.2.2  m68 hIm68 hFm68 ⟨by omega, by omega⟩ ⟨by omega, by omega⟩ ⟨by omega, by omega⟩ ⟨by omega, by omega⟩ (by omega) (by omega) (by omega) (by omega) (by omega) (by have q := ztap (a := a0) (fun _ => (Eq.trans (zs_ne hmm68 (Or.inl (zc_ne zq_191 hc0 (by decide)))) (zs_ne hmm67 (Or.inl (zc_ne zq_191 hc0 (by decide)))))) (Eq.trans (zs_ne hmm68 (Or.inr (by decide))) (zs_ne hmm67 (Or.inr (by decide)))); omega) hRNSm68 hRWDm68 hM
                  · exfalso; omega
                · have b79 : 0 ≤ (m28 a0 7) ∧ (m28 a0 7) < 700 := by omega
                  refine zw_if b79 ?_
                  refine zw_ite (fun h80 => ?_) (fun h80 => ?_)
                  · refine zw_b (by omega) ?_
                    refine zw_some ?_
                    refine zw_ite (fun h81 => ?_) (fun h81 => ?_)
                    · refine zw_bd (zw_eq (zu_call_at (zt_T n) (zm_88 n) (zdp_88 n) _ _ _ _ _ rfl (zr_88_0 n _ _ a0 (m28 a0 7) m28)) ?_)
                      refine zw_ite (fun h82 => ?_) (fun h82 => ?_)
                      · refine zw_b (by omega) ?_
                        refine zw_some ?_
                        refine zw_ite (fun h83 => ?_) (fun h83 => ?_)
                        · refine zw_bd (zw_mono (zk_90 n hIm28 hc0 ⟨by omega, by omega⟩ ⟨by omega, by omega⟩ (by omega) hRNSm28) (fun v85 m84 hqm84 => ?_))
                          obtain ⟨hIm84, hfm84, hvm84⟩ := hqm84
                          have hFm84 := zfr_tr hFm28 hfm84 rfl
                          obtain ⟨hRNSm84, hvm84⟩ := hvm84
                          have hRWDm84 := zR_WD_fr (zdis_fr hfm84 rfl) hRWDm28
                          have s86 := hRNSm84 a0 hc0
                          have r87 : (-2147483648) ≤ (m84 a0 9) ∧ (m84 a0 9) ≤ 2147483647 := zi_rd hIm84 hc0 zb_28_9
                          have hRTRm84 := zR_TR_of hc0 (show (m84 a0 8 = 5 → (0 ≤ m84 a0 9 ∧ m84 a0 9 ≤ 5)) ∧ (m84 a0 8 = 1 → (0 ≤ m84 a0 9 ∧ m84 a0 9 ≤ 32)) ∧ (m84 a0 8 = 3 → 0 ≤ m84 a0 9) by omega)
                          exact zw_some ⟨hIm84, hFm84, hRNSm84, hRTRm84, hRWDm84, trivial, by omega, by omega⟩
                        · exfalso; omega
                      · have b88 : 0 ≤ (m28 a0 7) ∧ (m28 a0 7) < 700 := by omega
                        refine zw_if b88 ?_
                        refine zw_ite (fun h89 => ?_) (fun h89 => ?_)
                        · exfalso; omega
                        · have b90 : 0 ≤ (m28 a0 7) ∧ (m28 a0 7) < 700 := by omega
                          refine zw_if b90 ?_
                          refine zw_ite (fun h91 => ?_) (fun h91 => ?_)
                          · refine zw_b (by omega) ?_
                            refine zw_some ?_
                            refine zw_ite (fun h92 => ?_) (fun h92 => ?_)
                            · refine zw_bd (zw_mono (zk_90 n hIm28 hc0 ⟨by omega, by omega⟩ ⟨by omega, by omega⟩ (by omega) hRNSm28) (fun v94 m93 hqm93 => ?_))
                              obtain ⟨hIm93, hfm93, hvm93⟩ := hqm93
                              have hFm93 := zfr_tr hFm28 hfm93 rfl
                              obtain ⟨hRNSm93, hvm93⟩ := hvm93
                              have hRWDm93 := zR_WD_fr (zdis_fr hfm93 rfl) hRWDm28
                              have s95 := hRNSm93 a0 hc0
                              have r96 : (-2147483648) ≤ (m93 a0 9) ∧ (m93 a0 9) ≤ 2147483647 := zi_rd hIm93 hc0 zb_28_9
                              have hRTRm93 := zR_TR_of hc0 (show (m93 a0 8 = 5 → (0 ≤ m93 a0 9 ∧ m93 a0 9 ≤ 5)) ∧ (m93 a0 8 = 1 → (0 ≤ m93 a0 9 ∧ m93 a0 9 ≤ 32)) ∧ (m93 a0 8 = 3 → 0 ≤ m93 a0 9) by omega)
                              exact zw_some ⟨hIm93, hFm93, hRNSm93, hRTRm93, hRWDm93, trivial, by omega, by omega⟩
                            · exfalso; omega
                          · exfalso; omega
                    · exfalso; omega
                  · refine zw_b (by omega) ?_
                    refine zw_some ?_
                    refine zw_ite (fun h97 => ?_) (fun h97 => ?_)
                    · exfalso; omega
                    · have r98 : 0 ≤ (m28 a0 10) ∧ (m28 a0 10) ≤ 700 := zi_rd hIm28 hc0 zb_28_10
                      have e99 : (m28 a0 10) = (mh a0 7) := (zs_eq hmm28)
                      have hM : (700 - (m28 a0 7)) * 1 + 701 < (k : Int) := by omega
                      exact ih.2.1  m28 hIm28 hFm28 ⟨by omega, by omega⟩ ⟨by omega, by omega⟩ (by omega) (by omega) (by omega) (by omega) (by omega) hRNSm28 hRWDm28 hM
            · generalize hmm100 : zu_up m28 a0 8 0 = m100
              have hIm100 := zi_up hmm100 hIm28 hc0 zb_28_8 (by omega) (by omega)
              have hFm100 := zfr_up hmm100 hFm28 hc0 rfl
              have hRNSm100 := zR_NS_fr (zdis_fr (zfr_up hmm100 (zfr_rf [(28, 9)] _) hc0 rfl) rfl) hRNSm28
              have hRWDm100 := zR_WD_fr (zdis_fr (zfr_up hmm100 (zfr_rf [(28, 9)] _) hc0 rfl) rfl) hRWDm28
              have r101 : 0 ≤ (m100 a0 8) ∧ (m100 a0 8) ≤ 6 := zi_rd hIm100 hc0 zb_28_8
              have e102 : (m100 a0 8) = 0 := (zs_eq hmm100)
              have r103 : (-2147483648) ≤ (m100 a0 9) ∧ (m100 a0 9) ≤ 2147483647 := zi_rd hIm100 hc0 zb_28_9
              have hRTRm100 := zR_TR_of hc0 (show (m100 a0 8 = 5 → (0 ≤ m100 a0 9 ∧ m100 a0 9 ≤ 5)) ∧ (m100 a0 8 = 1 → (0 ≤ m100 a0 9 ∧ m100 a0 9 ≤ 32)) ∧ (m100 a0 8 = 3 → 0 ≤ m100 a0 9) by omega)
              have r104 : 0 ≤ (m100 a0 7) ∧ (m100 a0 7) ≤ 700 := zi_rd hIm100 hc0 zb_28_7
              have e105 : (m100 a0 7) = (m28 a0 7) := (zs_ne hmm100 (Or.inr (by decide)))
              exact zw_some ⟨hIm100, hFm100, hRNSm100, hRTRm100, hRWDm100, trivial, by omega, by omega⟩
          · have w106 := zu_w32_id (z := (mh a0 7) + 1) (by omega) (by omega)
            generalize hmm107 : zu_up mh a0 7 (zu_w32 ((mh a0 7) + 1)) = m107
            have hIm107 := zi_up hmm107 hImh hc0 zb_28_7 (by omega) (by omega)
            have hFm107 := zfr_up hmm107 hFmh hc0 rfl
            have hRWDm107 := zR_WD_fr (zdis_fr (zfr_up hmm107 (zfr_rf [(28, 8)] _) hc0 rfl) rfl) hRWDmh
            have r108 : 0 ≤ (m107 a0 7) ∧ (m107 a0 7) ≤ 700 := zi_rd hIm107 hc0 zb_28_7
            have e109 : (m107 a0 7) = (zu_w32 ((mh a0 7) + 1)) := (zs_eq hmm107)
            have r110 : 0 ≤ (m107 a0 6) ∧ (m107 a0 6) ≤ 700 := zi_rd hIm107 hc0 zb_28_6
            have e111 : (m107 a0 6) = (mh a0 6) := (zs_ne hmm107 (Or.inr (by decide)))
            have hRNSm107 := zR_NS_of hc0 (show m107 a0 7 ≤ m107 a0 6 by omega)
            have hM : (700 - (m107 a0 7)) * 1 + 1402 < (k : Int) := by omega
            exact ih.1  m107 hIm107 hFm107 (by omega) hRNSm107 hRWDm107 hM
set_option maxHeartbeats 4000000 in
theorem zl_89H1 (n : Nat) {a0 : Int} {m0 : zu_m} (hc0 : zcls a0 = 28)   (k : Nat) (ih : (∀ (mh : zu_m), zi_I mh → zfr [(28, 8), (28, 9), (28, 10), (28, 11)] m0 mh → ((m0 a0 7) ≤ (mh a0 7)) → (zR_NS mh) → (zR_WD mh) → (700 - (mh a0 7)) * 1 + 1402 < (k : Int) → zw (zu_ex (zt_T n) 89 0 [(40, a0)] [] mh) (fun v m => zi_I m ∧ zfr [(28, 8), (28, 9), (28, 10), (28, 11)] m0 m ∧ zR_NS m ∧ zR_TR m ∧ zR_WD m ∧ True ∧ ((m0 a0 7) ≤ (m a0 7)) ∧ ((m a0 8) = 0 ∨ (m0 a0 7) < (m a0 7)))) ∧ (∀ (mh : zu_m), zi_I mh → zfr [(28, 8), (28, 9), (28, 10), (28, 11)] m0 mh → (0 ≤ mh a0 10 ∧ mh a0 10 ≤ 699) → (1 ≤ mh a0 6 ∧ mh a0 6 ≤ 700) → ((m0 a0 7) ≤ (mh a0 7)) → ((mh a0 10) = (mh a0 7) → ((mh a0 7) < (mh a0 6))) → ((m0 a0 7) ≤ (mh a0 10)) → ((mh a0 10) ≤ (mh a0 7)) → ((mh a0 10) = (mh a0 7) → (97 ≤ mh 191 (mh a0 7) ∧ mh 191 (mh a0 7) ≤ 122 ∧ (mh a0 7) < (mh a0 6))) → (zR_NS mh) → (zR_WD mh) → (700 - (mh a0 7)) * 1 + 701 < (k : Int) → zw (zu_ex (zt_T n) 89 90 [(40, a0)] [] mh) (fun v m => zi_I m ∧ zfr [(28, 8), (28, 9), (28, 10), (28, 11)] m0 m ∧ zR_NS m ∧ zR_TR m ∧ zR_WD m ∧ True ∧ ((m0 a0 7) ≤ (m a0 7)) ∧ ((m a0 8) = 0 ∨ (m0 a0 7) < (m a0 7)))) ∧ (∀ (mh : zu_m), zi_I mh → zfr [(28, 8), (28, 9), (28, 10), (28, 11)] m0 mh → (0 ≤ mh a0 10 ∧ mh a0 10 ≤ 699) → (1 ≤ mh a0 6 ∧ mh a0 6 ≤ 700) → (3 ≤ mh a0 8 ∧ mh a0 8 ≤ 3) → (0 ≤ mh a0 9 ∧ mh a0 9 ≤ 999999) → ((m0 a0 7) ≤ (mh a0 7)) → ((mh a0 8) = 3) → (0 ≤ (mh a0 9)) → ((m0 a0 7) ≤ (mh a0 10)) → ((mh a0 10) ≤ (mh a0 7)) → ((mh a0 10) = (mh a0 7) → (48 ≤ mh 191 (mh a0 7) ∧ mh 191 (mh a0 7) ≤ 57 ∧ (mh a0 7) < (mh a0 6))) → (zR_NS mh) → (zR_WD mh) → (700 - (mh a0 7)) * 1 + 0 < (k : Int) → zw (zu_ex (zt_T n) 89 213 [(40, a0)] [] mh) (fun v m => zi_I m ∧ zfr [(28, 8), (28, 9), (28, 10), (28, 11)] m0 m ∧ zR_NS m ∧ zR_TR m ∧ zR_WD m ∧ True ∧ ((m0 a0 7) ≤ (m a0 7)) ∧ ((m a0 8) = 0 ∨ (m0 a0 7) < (m a0 7))))) : (∀ (mh : zu_m), zi_I mh → zfr [(28, 8), (28, 9), (28, 10), (28, 11)] m0 mh → (0 ≤ mh a0 10 ∧ mh a0 10 ≤ 699) → (1 ≤ mh a0 6 ∧ mh a0 6 ≤ 700) → ((m0 a0 7) ≤ (mh a0 7)) → ((mh a0 10) = (mh a0 7) → ((mh a0 7) < (mh a0 6))) → ((m0 a0 7) ≤ (mh a0 10)) → ((mh a0 10) ≤ (mh a0 7)) → ((mh a0 10) = (mh a0 7) → (97 ≤ mh 191 (mh a0 7) ∧ mh 191 (mh a0 7) ≤ 122 ∧ (mh a0 7) < (mh a0 6))) → (zR_NS mh) → (zR_WD mh) → (700 - (mh a0 7)) * 1 + 701 < ((k + 1 : Nat) : Int) → zw (zu_ex (zt_T n) 89 90 [(40, a0)] [] mh) (fun v m => zi_I m ∧ zfr [(28, 8), (28, 9), (28, 10), (28, 11)] m0 m ∧ zR_NS m ∧ zR_TR m ∧ zR_WD m ∧ True ∧ ((m0 a0 7) ≤ (m a0 7)) ∧ ((m a0 8) = 0 ∨ (m0 a0 7) < (m a0 7)))) := by
      intro mh hImh hFmh hg0 hg1 hH0 hH1 hH2 hH3 hH4 hRNSmh hRWDmh hM
      refine zw_eq (zu_rega_at (zt_T n) (zm_89 n) (zdp_89 n) _ _ _ _ _ _ (zr_89_90 n _ _ a0 mh)) ?_
      have r112 : 0 ≤ (mh a0 7) ∧ (mh a0 7) ≤ 700 := zi_rd hImh hc0 zb_28_7
      have s113 := hRNSmh a0 hc0
      refine zw_bd (zw_eq (zu_call_at (zt_T n) (zm_87 n) (zdp_87 n) _ _ _ _ _ rfl (zr_87_0 n _ _ a0 (mh a0 7) mh)) ?_)
      refine zw_ite (fun h114 => ?_) (fun h114 => ?_)
      · refine zw_b (by omega) ?_
        refine zw_some ?_
        refine zw_ite (fun h115 => ?_) (fun h115 => ?_)
        · refine zw_bd (zw_mono (zk_86 n hImh hc0 ⟨by omega, by omega⟩ ⟨by omega, by omega⟩ hRWDmh) (fun v117 m116 hqm116 => ?_))
          obtain ⟨hIm116, hfm116, hvm116⟩ := hqm116
          have hFm116 := zfr_tr hFmh hfm116 rfl
          obtain ⟨hRWDm116, hvm116⟩ := hvm116
          have hRNSm116 := zR_NS_fr (zdis_fr hfm116 rfl) hRNSmh
          have s118 := hRNSm116 a0 hc0
          generalize hmm119 : zu_up m116 a0 9 v117 = m119
          have hIm119 := zi_up hmm119 hIm116 hc0 zb_28_9 (by omega) (by omega)
          have hFm119 := zfr_up hmm119 hFm116 hc0 rfl
          have hRNSm119 := zR_NS_fr (zdis_fr (zfr_up hmm119 (zfr_rf [(28, 10)] _) hc0 rfl) rfl) hRNSm116
          have hRWDm119 := zR_WD_fr (zdis_fr (zfr_up hmm119 (zfr_rf [(28, 10)] _) hc0 rfl) rfl) hRWDm116
          have r120 : (-2147483648) ≤ (m119 a0 9) ∧ (m119 a0 9) ≤ 2147483647 := zi_rd hIm119 hc0 zb_28_9
          have e121 : (m119 a0 9) = v117 := (zs_eq hmm119)
          refine zw_ite (fun h122 => ?_) (fun h122 => ?_)
          · have r123 : 0 ≤ (m119 a0 7) ∧ (m119 a0 7) ≤ 700 := zi_rd hIm119 hc0 zb_28_7
            have e124 : (m119 a0 7) = (mh a0 7) := (Eq.trans (zs_ne hmm119 (Or.inr (by decide))) (zfr_ap hfm116 hc0 rfl))
            have r125 : 0 ≤ (m119 a0 10) ∧ (m119 a0 10) ≤ 700 := zi_rd hIm119 hc0 zb_28_10
            have e126 : (m119 a0 10) = (mh a0 10) := (Eq.trans (zs_ne hmm119 (Or.inr (by decide))) (zfr_ap hfm116 hc0 rfl))
            have w127 := zu_w32_id (z := (m119 a0 7) - (m119 a0 10)) (by omega) (by omega)
            refine zw_ite (fun h128 => ?_) (fun h128 => ?_)
            · generalize hmm129 : zu_up m119 a0 8 2 = m129
              have hIm129 := zi_up hmm129 hIm119 hc0 zb_28_8 (by omega) (by omega)
              have hFm129 := zfr_up hmm129 hFm119 hc0 rfl
              have hRNSm129 := zR_NS_fr (zdis_fr (zfr_up hmm129 (zfr_rf [(28, 9)] _) hc0 rfl) rfl) hRNSm119
              have hRWDm129 := zR_WD_fr (zdis_fr (zfr_up hmm129 (zfr_rf [(28, 9)] _) hc0 rfl) rfl) hRWDm119
              have r130 : 0 ≤ (m129 a0 8) ∧ (m129 a0 8) ≤ 6 := zi_rd hIm129 hc0 zb_28_8
              have e131 : (m129 a0 8) = 2 := (zs_eq hmm129)
              refine zw_ite (fun h132 => ?_) (fun h132 => ?_)
              · exfalso; omega
              · have r133 : 0 ≤ (m129 a0 10) ∧ (m129 a0 10) ≤ 700 := zi_rd hIm129 hc0 zb_28_10
                have e134 : (m129 a0 10) = (m119 a0 10) := (zs_ne hmm129 (Or.inr (by decide)))
                have r135 : 0 ≤ (m129 a0 7) ∧ (m129 a0 7) ≤ 700 := zi_rd hIm129 hc0 zb_28_7
                have e136 : (m129 a0 7) = (m119 a0 7) := (zs_ne hmm129 (Or.inr (by decide)))
                refine zw_bd (zw_mono (zk_91 n hIm129 hc0 ⟨by omega, by omega⟩ ⟨by omega, by omega⟩) (fun v138 m137 hqm137 => ?_))
                obtain ⟨hIm137, hfm137, hvm137⟩ := hqm137
                have hFm137 := zfr_tr hFm129 hfm137 rfl
                have hRNSm137 := zR_NS_fr (zdis_fr hfm137 rfl) hRNSm129
                have hRWDm137 := zR_WD_fr (zdis_fr hfm137 rfl) hRWDm129
                have s139 := hRNSm137 a0 hc0
                generalize hmm140 : zu_up m137 a0 9 v138 = m140
                have hIm140 := zi_up hmm140 hIm137 hc0 zb_28_9 (by omega) (by omega)
                have hFm140 := zfr_up hmm140 hFm137 hc0 rfl
                have hRNSm140 := zR_NS_fr (zdis_fr (zfr_up hmm140 (zfr_rf [(28, 10)] _) hc0 rfl) rfl) hRNSm137
                have hRWDm140 := zR_WD_fr (zdis_fr (zfr_up hmm140 (zfr_rf [(28, 10)] _) hc0 rfl) rfl) hRWDm137
                have r141 : 0 ≤ (m140 a0 8) ∧ (m140 a0 8) ≤ 6 := zi_rd hIm140 hc0 zb_28_8
                have e142 : (m140 a0 8) = (m129 a0 8) := (Eq.trans (zs_ne hmm140 (Or.inr (by decide))) (zfr_ap hfm137 hc0 rfl))
                have r143 : (-2147483648) ≤ (m140 a0 9) ∧ (m140 a0 9) ≤ 2147483647 := zi_rd hIm140 hc0 zb_28_9
                have e144 : (m140 a0 9) = v138 := (zs_eq hmm140)
                have hRTRm140 := zR_TR_of hc0 (show (m140 a0 8 = 5 → (0 ≤ m140 a0 9 ∧ m140 a0 9 ≤ 5)) ∧ (m140 a0 8 = 1 → (0 ≤ m140 a0 9 ∧ m140 a0 9 ≤ 32)) ∧ (m140 a0 8 = 3 → 0 ≤ m140 a0 9) by omega)
                have r145 : 0 ≤ (m140 a0 7) ∧ (m140 a0 7) ≤ 700 := zi_rd hIm140 hc0 zb_28_7
                have e146 : (m140 a0 7) = (m129 a0 7) := (Eq.trans (zs_ne hmm140 (Or.inr (by decide))) (zfr_ap hfm137 hc0 rfl))
                exact zw_some ⟨hIm140, hFm140, hRNSm140, hRTRm140, hRWDm140, trivial, by omega, by omega⟩
            · generalize hmm147 : zu_up m119 a0 8 6 = m147
              have hIm147 := zi_up hmm147 hIm119 hc0 zb_28_8 (by omega) (by omega)
              have hFm147 := zfr_up hmm147 hFm119 hc0 rfl
              have hRNSm147 := zR_NS_fr (zdis_fr (zfr_up hmm147 (zfr_rf [(28, 9)] _) hc0 rfl) rfl) hRNSm119
              have hRWDm147 := zR_WD_fr (zdis_fr (zfr_up hmm147 (zfr_rf [(28, 9)] _) hc0 rfl) rfl) hRWDm119
              have r148 : 0 ≤ (m147 a0 8) ∧ (m147 a0 8) ≤ 6 := zi_rd hIm147 hc0 zb_28_8
              have e149 : (m147 a0 8) = 6 := (zs_eq hmm147)
              refine zw_ite (fun h150 => ?_) (fun h150 => ?_)
              · have r151 : (-2147483648) ≤ (m147 a0 9) ∧ (m147 a0 9) ≤ 2147483647 := zi_rd hIm147 hc0 zb_28_9
                have e152 : (m147 a0 9) = (m119 a0 9) := (zs_ne hmm147 (Or.inr (by decide)))
                have hRTRm147 := zR_TR_of hc0 (show (m147 a0 8 = 5 → (0 ≤ m147 a0 9 ∧ m147 a0 9 ≤ 5)) ∧ (m147 a0 8 = 1 → (0 ≤ m147 a0 9 ∧ m147 a0 9 ≤ 32)) ∧ (m147 a0 8 = 3 → 0 ≤ m147 a0 9) by omega)
                have r153 : 0 ≤ (m147 a0 7) ∧ (m147 a0 7) ≤ 700 := zi_rd hIm147 hc0 zb_28_7
                have e154 : (m147 a0 7) = (m119 a0 7) := (zs_ne hmm147 (Or.inr (by decide)))
                exact zw_some ⟨hIm147, hFm147, hRNSm147, hRTRm147, hRWDm147, trivial, by omega, by omega⟩
              · exfalso; omega
          · generalize hmm155 : zu_up m119 a0 8 1 = m155
            have hIm155 := zi_up hmm155 hIm119 hc0 zb_28_8 (by omega) (by omega)
            have hFm155 := zfr_up hmm155 hFm119 hc0 rfl
            have hRNSm155 := zR_NS_fr (zdis_fr (zfr_up hmm155 (zfr_rf [(28, 9)] _) hc0 rfl) rfl) hRNSm119
            have hRWDm155 := zR_WD_fr (zdis_fr (zfr_up hmm155 (zfr_rf [(28, 9)] _) hc0 rfl) rfl) hRWDm119
            have r156 : 0 ≤ (m155 a0 8) ∧ (m155 a0 8) ≤ 6 := zi_rd hIm155 hc0 zb_28_8
            have e157 : (m155 a0 8) = 1 := (zs_eq hmm155)
            refine zw_ite (fun h158 => ?_) (fun h158 => ?_)
            · have r159 : (-2147483648) ≤ (m155 a0 9) ∧ (m155 a0 9) ≤ 2147483647 := zi_rd hIm155 hc0 zb_28_9
              have e160 : (m155 a0 9) = (m119 a0 9) := (zs_ne hmm155 (Or.inr (by decide)))
              have hRTRm155 := zR_TR_of hc0 (show (m155 a0 8 = 5 → (0 ≤ m155 a0 9 ∧ m155 a0 9 ≤ 5)) ∧ (m155 a0 8 = 1 → (0 ≤ m155 a0 9 ∧ m155 a0 9 ≤ 32)) ∧ (m155 a0 8 = 3 → 0 ≤ m155 a0 9) by omega)
              have r161 : 0 ≤ (m155 a0 7) ∧ (m155 a0 7) ≤ 700 := zi_rd hIm155 hc0 zb_28_7
              have e162 : (m155 a0 7) = (mh a0 7) := (Eq.trans (zs_ne hmm155 (Or.inr (by decide))) (Eq.trans (zs_ne hmm119 (Or.inr (by decide))) (zfr_ap hfm116 hc0 rfl)))
              exact zw_some ⟨hIm155, hFm155, hRNSm155, hRTRm155, hRWDm155, trivial, by omega, by omega⟩
            · exfalso; omega
        · exfalso; omega
      · have b163 : 0 ≤ (mh a0 7) ∧ (mh a0 7) < 700 := by omega
        refine zw_if b163 ?_
        have r164 : (-2147483648) ≤ (mh 191 (mh a0 7)) ∧ (mh 191 (mh a0 7)) ≤ 2147483647 := zi_rd hImh zq_191 (zb_100 _)
        refine zw_ite (fun h165 => ?_) (fun h165 => ?_)
        · refine zw_b (by omega) ?_
          refine zw_some ?_
          refine zw_ite (fun h166 => ?_) (fun h166 => ?_)
          · refine zw_bd (zw_mono (zk_86 n hImh hc0 ⟨by omega, by omega⟩ ⟨by omega, by omega⟩ hRWDmh) (fun v168 m167 hqm167 => ?_))
            obtain ⟨hIm167, hfm167, hvm167⟩ := hqm167
            have hFm167 := zfr_tr hFmh hfm167 rfl
            obtain ⟨hRWDm167, hvm167⟩ := hvm167
            have hRNSm167 := zR_NS_fr (zdis_fr hfm167 rfl) hRNSmh
            have s169 := hRNSm167 a0 hc0
            generalize hmm170 : zu_up m167 a0 9 v168 = m170
            have hIm170 := zi_up hmm170 hIm167 hc0 zb_28_9 (by omega) (by omega)
            have hFm170 := zfr_up hmm170 hFm167 hc0 rfl
            have hRNSm170 := zR_NS_fr (zdis_fr (zfr_up hmm170 (zfr_rf [(28, 10)] _) hc0 rfl) rfl) hRNSm167
            have hRWDm170 := zR_WD_fr (zdis_fr (zfr_up hmm170 (zfr_rf [(28, 10)] _) hc0 rfl) rfl) hRWDm167
            have r171 : (-2147483648) ≤ (m170 a0 9) ∧ (m170 a0 9) ≤ 2147483647 := zi_rd hIm170 hc0 zb_28_9
            have e172 : (m170 a0 9) = v168 := (zs_eq hmm170)
            refine zw_ite (fun h173 => ?_) (fun h173 => ?_)
            · have r174 : 0 ≤ (m170 a0 7) ∧ (m170 a0 7) ≤ 700 := zi_rd hIm170 hc0 zb_28_7
              have e175 : (m170 a0 7) = (mh a0 7) := (Eq.trans (zs_ne hmm170 (Or.inr (by decide))) (zfr_ap hfm167 hc0 rfl))
              have r176 : 0 ≤ (m170 a0 10) ∧ (m170 a0 10) ≤ 700 := zi_rd hIm170 hc0 zb_28_10
              have e177 : (m170 a0 10) = (mh a0 10) := (Eq.trans (zs_ne hmm170 (Or.inr (by decide))) (zfr_ap hfm167 hc0 rfl))
              have w178 := zu_w32_id (z := (m170 a0 7) - (m170 a0 10)) (by omega) (by omega)
              refine zw_ite (fun h179 => ?_) (fun h179 => ?_)
              · generalize hmm180 : zu_up m170 a0 8 2 = m180
                have hIm180 := zi_up hmm180 hIm170 hc0 zb_28_8 (by omega) (by omega)
                have hFm180 := zfr_up hmm180 hFm170 hc0 rfl
                have hRNSm180 := zR_NS_fr (zdis_fr (zfr_up hmm180 (zfr_rf [(28, 9)] _) hc0 rfl) rfl) hRNSm170
                have hRWDm180 := zR_WD_fr (zdis_fr (zfr_up hmm180 (zfr_rf [(28, 9)] _) hc0 rfl) rfl) hRWDm170
                have r181 : 0 ≤ (m180 a0 8) ∧ (m180 a0 8) ≤ 6 := zi_rd hIm180 hc0 zb_28_8
                have e182 : (m180 a0 8) = 2 := (zs_eq hmm180)
                refine zw_ite (fun h183 => ?_) (fun h183 => ?_)
                · exfalso; omega
                · have r184 : 0 ≤ (m180 a0 10) ∧ (m180 a0 10) ≤ 700 := zi_rd hIm180 hc0 zb_28_10
                  have e185 : (m180 a0 10) = (m170 a0 10) := (zs_ne hmm180 (Or.inr (by decide)))
                  have r186 : 0 ≤ (m180 a0 7) ∧ (m180 a0 7) ≤ 700 := zi_rd hIm180 hc0 zb_28_7
                  have e187 : (m180 a0 7) = (m170 a0 7) := (zs_ne hmm180 (Or.inr (by decide)))
                  refine zw_bd (zw_mono (zk_91 n hIm180 hc0 ⟨by omega, by omega⟩ ⟨by omega, by omega⟩) (fun v189 m188 hqm188 => ?_))
                  obtain ⟨hIm188, hfm188, hvm188⟩ := hqm188
                  have hFm188 := zfr_tr hFm180 hfm188 rfl
                  have hRNSm188 := zR_NS_fr (zdis_fr hfm188 rfl) hRNSm180
                  have hRWDm188 := zR_WD_fr (zdis_fr hfm188 rfl) hRWDm180
                  have s190 := hRNSm188 a0 hc0
                  generalize hmm191 : zu_up m188 a0 9 v189 = m191
                  have hIm191 := zi_up hmm191 hIm188 hc0 zb_28_9 (by omega) (by omega)
                  have hFm191 := zfr_up hmm191 hFm188 hc0 rfl
                  have hRNSm191 := zR_NS_fr (zdis_fr (zfr_up hmm191 (zfr_rf [(28, 10)] _) hc0 rfl) rfl) hRNSm188
                  have hRWDm191 := zR_WD_fr (zdis_fr (zfr_up hmm191 (zfr_rf [(28, 10)] _) hc0 rfl) rfl) hRWDm188
                  have r192 : 0 ≤ (m191 a0 8) ∧ (m191 a0 8) ≤ 6 := zi_rd hIm191 hc0 zb_28_8
                  have e193 : (m191 a0 8) = (m180 a0 8) := (Eq.trans (zs_ne hmm191 (Or.inr (by decide))) (zfr_ap hfm188 hc0 rfl))
                  have r194 : (-2147483648) ≤ (m191 a0 9) ∧ (m191 a0 9) ≤ 2147483647 := zi_rd hIm191 hc0 zb_28_9
                  have e195 : (m191 a0 9) = v189 := (zs_eq hmm191)
                  have hRTRm191 := zR_TR_of hc0 (show (m191 a0 8 = 5 → (0 ≤ m191 a0 9 ∧ m191 a0 9 ≤ 5)) ∧ (m191 a0 8 = 1 → (0 ≤ m191 a0 9 ∧ m191 a0 9 ≤ 32)) ∧ (m191 a0 8 = 3 → 0 ≤ m191 a0 9) by omega)
                  have r196 : 0 ≤ (m191 a0 7) ∧ (m191 a0 7) ≤ 700 := zi_rd hIm191 hc0 zb_28_7
                  have e197 : (m191 a0 7) = (m180 a0 7) := (Eq.trans (zs_ne hmm191 (Or.inr (by decide))) (zfr_ap hfm188 hc0 rfl))
                  exact zw_some ⟨hIm191, hFm191, hRNSm191, hRTRm191, hRWDm191, trivial, by omega, by omega⟩
              · generalize hmm198 : zu_up m170 a0 8 6 = m198
                have hIm198 := zi_up hmm198 hIm170 hc0 zb_28_8 (by omega) (by omega)
                have hFm198 := zfr_up hmm198 hFm170 hc0 rfl
                have hRNSm198 := zR_NS_fr (zdis_fr (zfr_up hmm198 (zfr_rf [(28, 9)] _) hc0 rfl) rfl) hRNSm170
                have hRWDm198 := zR_WD_fr (zdis_fr (zfr_up hmm198 (zfr_rf [(28, 9)] _) hc0 rfl) rfl) hRWDm170
                have r199 : 0 ≤ (m198 a0 8) ∧ (m198 a0 8) ≤ 6 := zi_rd hIm198 hc0 zb_28_8
                have e200 : (m198 a0 8) = 6 := (zs_eq hmm198)
                refine zw_ite (fun h201 => ?_) (fun h201 => ?_)
                · have r202 : (-2147483648) ≤ (m198 a0 9) ∧ (m198 a0 9) ≤ 2147483647 := zi_rd hIm198 hc0 zb_28_9
                  have e203 : (m198 a0 9) = (m170 a0 9) := (zs_ne hmm198 (Or.inr (by decide)))
                  have hRTRm198 := zR_TR_of hc0 (show (m198 a0 8 = 5 → (0 ≤ m198 a0 9 ∧ m198 a0 9 ≤ 5)) ∧ (m198 a0 8 = 1 → (0 ≤ m198 a0 9 ∧ m198 a0 9 ≤ 32)) ∧ (m198 a0 8 = 3 → 0 ≤ m198 a0 9) by omega)
                  have r204 : 0 ≤ (m198 a0 7) ∧ (m198 a0 7) ≤ 700 := zi_rd hIm198 hc0 zb_28_7
                  have e205 : (m198 a0 7) = (m170 a0 7) := (zs_ne hmm198 (Or.inr (by decide)))
                  exact zw_some ⟨hIm198, hFm198, hRNSm198, hRTRm198, hRWDm198, trivial, by omega, by omega⟩
                · exfalso; omega
            · generalize hmm206 : zu_up m170 a0 8 1 = m206
              have hIm206 := zi_up hmm206 hIm170 hc0 zb_28_8 (by omega) (by omega)
              have hFm206 := zfr_up hmm206 hFm170 hc0 rfl
              have hRNSm206 := zR_NS_fr (zdis_fr (zfr_up hmm206 (zfr_rf [(28, 9)] _) hc0 rfl) rfl) hRNSm170
              have hRWDm206 := zR_WD_fr (zdis_fr (zfr_up hmm206 (zfr_rf [(28, 9)] _) hc0 rfl) rfl) hRWDm170
              have r207 : 0 ≤ (m206 a0 8) ∧ (m206 a0 8) ≤ 6 := zi_rd hIm206 hc0 zb_28_8
              have e208 : (m206 a0 8) = 1 := (zs_eq hmm206)
              refine zw_ite (fun h209 => ?_) (fun h209 => ?_)
              · have r210 : (-2147483648) ≤ (m206 a0 9) ∧ (m206 a0 9) ≤ 2147483647 := zi_rd hIm206 hc0 zb_28_9
                have e211 : (m206 a0 9) = (m170 a0 9) := (zs_ne hmm206 (Or.inr (by decide)))
                have hRTRm206 := zR_TR_of hc0 (show (m206 a0 8 = 5 → (0 ≤ m206 a0 9 ∧ m206 a0 9 ≤ 5)) ∧ (m206 a0 8 = 1 → (0 ≤ m206 a0 9 ∧ m206 a0 9 ≤ 32)) ∧ (m206 a0 8 = 3 → 0 ≤ m206 a0 9) by omega)
                have r212 : 0 ≤ (m206 a0 7) ∧ (m206 a0 7) ≤ 700 := zi_rd hIm206 hc0 zb_28_7
                have e213 : (m206 a0 7) = (mh a0 7) := (Eq.trans (zs_ne hmm206 (Or.inr (by decide))) (Eq.trans (zs_ne hmm170 (Or.inr (by decide))) (zfr_ap hfm167 hc0 rfl)))
                exact zw_some ⟨hIm206, hFm206, hRNSm206, hRTRm206, hRWDm206, trivial, by omega, by omega⟩
              · exfalso; omega
          · exfalso; omega
        · have b214 : 0 ≤ (mh a0 7) ∧ (mh a0 7) < 700 := by omega
          refine zw_if b214 ?_
          refine zw_ite (fun h215 => ?_) (fun h215 => ?_)
          · refine zw_b (by omega) ?_
            refine zw_some ?_
            refine zw_ite (fun h216 => ?_) (fun h216 => ?_)
            · refine zw_bd (zw_mono (zk_86 n hImh hc0 ⟨by omega, by omega⟩ ⟨by omega, by omega⟩ hRWDmh) (fun v218 m217 hqm217 => ?_))
              obtain ⟨hIm217, hfm217, hvm217⟩ := hqm217
              have hFm217 := zfr_tr hFmh hfm217 rfl
              obtain ⟨hRWDm217, hvm217⟩ := hvm217
              have hRNSm217 := zR_NS_fr (zdis_fr hfm217 rfl) hRNSmh
              have s219 := hRNSm217 a0 hc0
              generalize hmm220 : zu_up m217 a0 9 v218 = m220
              have hIm220 := zi_up hmm220 hIm217 hc0 zb_28_9 (by omega) (by omega)
              have hFm220 := zfr_up hmm220 hFm217 hc0 rfl
              have hRNSm220 := zR_NS_fr (zdis_fr (zfr_up hmm220 (zfr_rf [(28, 10)] _) hc0 rfl) rfl) hRNSm217
              have hRWDm220 := zR_WD_fr (zdis_fr (zfr_up hmm220 (zfr_rf [(28, 10)] _) hc0 rfl) rfl) hRWDm217
              have r221 : (-2147483648) ≤ (m220 a0 9) ∧ (m220 a0 9) ≤ 2147483647 := zi_rd hIm220 hc0 zb_28_9
              have e222 : (m220 a0 9) = v218 := (zs_eq hmm220)
              refine zw_ite (fun h223 => ?_) (fun h223 => ?_)
              · have r224 : 0 ≤ (m220 a0 7) ∧ (m220 a0 7) ≤ 700 := zi_rd hIm220 hc0 zb_28_7
                have e225 : (m220 a0 7) = (mh a0 7) := (Eq.trans (zs_ne hmm220 (Or.inr (by decide))) (zfr_ap hfm217 hc0 rfl))
                have r226 : 0 ≤ (m220 a0 10) ∧ (m220 a0 10) ≤ 700 := zi_rd hIm220 hc0 zb_28_10
                have e227 : (m220 a0 10) = (mh a0 10) := (Eq.trans (zs_ne hmm220 (Or.inr (by decide))) (zfr_ap hfm217 hc0 rfl))
                have w228 := zu_w32_id (z := (m220 a0 7) - (m220 a0 10)) (by omega) (by omega)
                refine zw_ite (fun h229 => ?_) (fun h229 => ?_)
                · generalize hmm230 : zu_up m220 a0 8 2 = m230
                  have hIm230 := zi_up hmm230 hIm220 hc0 zb_28_8 (by omega) (by omega)
                  have hFm230 := zfr_up hmm230 hFm220 hc0 rfl
                  have hRNSm230 := zR_NS_fr (zdis_fr (zfr_up hmm230 (zfr_rf [(28, 9)] _) hc0 rfl) rfl) hRNSm220
                  have hRWDm230 := zR_WD_fr (zdis_fr (zfr_up hmm230 (zfr_rf [(28, 9)] _) hc0 rfl) rfl) hRWDm220
                  have r231 : 0 ≤ (m230 a0 8) ∧ (m230 a0 8) ≤ 6 := zi_rd hIm230 hc0 zb_28_8
                  have e232 : (m230 a0 8) = 2 := (zs_eq hmm230)
                  refine zw_ite (fun h233 => ?_) (fun h233 => ?_)
                  · exfalso; omega
                  · have r234 : 0 ≤ (m230 a0 10) ∧ (m230 a0 10) ≤ 700 := zi_rd hIm230 hc0 zb_28_10
                    have e235 : (m230 a0 10) = (m220 a0 10) := (zs_ne hmm230 (Or.inr (by decide)))
                    have r236 : 0 ≤ (m230 a0 7) ∧ (m230 a0 7) ≤ 700 := zi_rd hIm230 hc0 zb_28_7
                    have e237 : (m230 a0 7) = (m220 a0 7) := (zs_ne hmm230 (Or.inr (by decide)))
                    refine zw_bd (zw_mono (zk_91 n hIm230 hc0 ⟨by omega, by omega⟩ ⟨by omega, by omega⟩) (fun v239 m238 hqm238 => ?_))
                    obtain ⟨hIm238, hfm238, hvm238⟩ := hqm238
                    have hFm238 := zfr_tr hFm230 hfm238 rfl
                    have hRNSm238 := zR_NS_fr (zdis_fr hfm238 rfl) hRNSm230
                    have hRWDm238 := zR_WD_fr (zdis_fr hfm238 rfl) hRWDm230
                    have s240 := hRNSm238 a0 hc0
                    generalize hmm241 : zu_up m238 a0 9 v239 = m241
                    have hIm241 := zi_up hmm241 hIm238 hc0 zb_28_9 (by omega) (by omega)
                    have hFm241 := zfr_up hmm241 hFm238 hc0 rfl
                    have hRNSm241 := zR_NS_fr (zdis_fr (zfr_up hmm241 (zfr_rf [(28, 10)] _) hc0 rfl) rfl) hRNSm238
                    have hRWDm241 := zR_WD_fr (zdis_fr (zfr_up hmm241 (zfr_rf [(28, 10)] _) hc0 rfl) rfl) hRWDm238
                    have r242 : 0 ≤ (m241 a0 8) ∧ (m241 a0 8) ≤ 6 := zi_rd hIm241 hc0 zb_28_8
                    have e243 : (m241 a0 8) = (m230 a0 8) := (Eq.trans (zs_ne hmm241 (Or.inr (by decide))) (zfr_ap hfm238 hc0 rfl))
                    have r244 : (-2147483648) ≤ (m241 a0 9) ∧ (m241 a0 9) ≤ 2147483647 := zi_rd hIm241 hc0 zb_28_9
                    have e245 : (m241 a0 9) = v239 := (zs_eq hmm241)
                    have hRTRm241 := zR_TR_of hc0 (show (m241 a0 8 = 5 → (0 ≤ m241 a0 9 ∧ m241 a0 9 ≤ 5)) ∧ (m241 a0 8 = 1 → (0 ≤ m241 a0 9 ∧ m241 a0 9 ≤ 32)) ∧ (m241 a0 8 = 3 → 0 ≤ m241 a0 9) by omega)
                    have r246 : 0 ≤ (m241 a0 7) ∧ (m241 a0 7) ≤ 700 := zi_rd hIm241 hc0 zb_28_7
                    have e247 : (m241 a0 7) = (m230 a0 7) := (Eq.trans (zs_ne hmm241 (Or.inr (by decide))) (zfr_ap hfm238 hc0 rfl))
                    exact zw_some ⟨hIm241, hFm241, hRNSm241, hRTRm241, hRWDm241, trivial, by omega, by omega⟩
                · generalize hmm248 : zu_up m220 a0 8 6 = m248
                  have hIm248 := zi_up hmm248 hIm220 hc0 zb_28_8 (by omega) (by omega)
                  have hFm248 := zfr_up hmm248 hFm220 hc0 rfl
                  have hRNSm248 := zR_NS_fr (zdis_fr (zfr_up hmm248 (zfr_rf [(28, 9)] _) hc0 rfl) rfl) hRNSm220
                  have hRWDm248 := zR_WD_fr (zdis_fr (zfr_up hmm248 (zfr_rf [(28, 9)] _) hc0 rfl) rfl) hRWDm220
                  have r249 : 0 ≤ (m248 a0 8) ∧ (m248 a0 8) ≤ 6 := zi_rd hIm248 hc0 zb_28_8
                  have e250 : (m248 a0 8) = 6 := (zs_eq hmm248)
                  refine zw_ite (fun h251 => ?_) (fun h251 => ?_)
                  · have r252 : (-2147483648) ≤ (m248 a0 9) ∧ (m248 a0 9) ≤ 2147483647 := zi_rd hIm248 hc0 zb_28_9
                    have e253 : (m248 a0 9) = (m220 a0 9) := (zs_ne hmm248 (Or.inr (by decide)))
                    have hRTRm248 := zR_TR_of hc0 (show (m248 a0 8 = 5 → (0 ≤ m248 a0 9 ∧ m248 a0 9 ≤ 5)) ∧ (m248 a0 8 = 1 → (0 ≤ m248 a0 9 ∧ m248 a0 9 ≤ 32)) ∧ (m248 a0 8 = 3 → 0 ≤ m248 a0 9) by omega)
                    have r254 : 0 ≤ (m248 a0 7) ∧ (m248 a0 7) ≤ 700 := zi_rd hIm248 hc0 zb_28_7
                    have e255 : (m248 a0 7) = (m220 a0 7) := (zs_ne hmm248 (Or.inr (by decide)))
                    exact zw_some ⟨hIm248, hFm248, hRNSm248, hRTRm248, hRWDm248, trivial, by omega, by omega⟩
                  · exfalso; omega
              · generalize hmm256 : zu_up m220 a0 8 1 = m256
                have hIm256 := zi_up hmm256 hIm220 hc0 zb_28_8 (by omega) (by omega)
                have hFm256 := zfr_up hmm256 hFm220 hc0 rfl
                have hRNSm256 := zR_NS_fr (zdis_fr (zfr_up hmm256 (zfr_rf [(28, 9)] _) hc0 rfl) rfl) hRNSm220
                have hRWDm256 := zR_WD_fr (zdis_fr (zfr_up hmm256 (zfr_rf [(28, 9)] _) hc0 rfl) rfl) hRWDm220
                have r257 : 0 ≤ (m256 a0 8) ∧ (m256 a0 8) ≤ 6 := zi_rd hIm256 hc0 zb_28_8
                have e258 : (m256 a0 8) = 1 := (zs_eq hmm256)
                refine zw_ite (fun h259 => ?_) (fun h259 => ?_)
                · have r260 : (-2147483648) ≤ (m256 a0 9) ∧ (m256 a0 9) ≤ 2147483647 := zi_rd hIm256 hc0 zb_28_9
                  have e261 : (m256 a0 9) = (m220 a0 9) := (zs_ne hmm256 (Or.inr (by decide)))
                  have hRTRm256 := zR_TR_of hc0 (show (m256 a0 8 = 5 → (0 ≤ m256 a0 9 ∧ m256 a0 9 ≤ 5)) ∧ (m256 a0 8 = 1 → (0 ≤ m256 a0 9 ∧ m256 a0 9 ≤ 32)) ∧ (m256 a0 8 = 3 → 0 ≤ m256 a0 9) by omega)
                  have r262 : 0 ≤ (m256 a0 7) ∧ (m256 a0 7) ≤ 700 := zi_rd hIm256 hc0 zb_28_7
                  have e263 : (m256 a0 7) = (mh a0 7) := (Eq.trans (zs_ne hmm256 (Or.inr (by decide))) (Eq.trans (zs_ne hmm220 (Or.inr (by decide))) (zfr_ap hfm217 hc0 rfl)))
                  exact zw_some ⟨hIm256, hFm256, hRNSm256, hRTRm256, hRWDm256, trivial, by omega, by omega⟩
                · exfalso; omega
            · exfalso; omega
          · refine zw_b (by omega) ?_
            refine zw_some ?_
            refine zw_ite (fun h264 => ?_) (fun h264 => ?_)
            · exfalso; omega
            · have w265 := zu_w32_id (z := (mh a0 7) + 1) (by omega) (by omega)
              generalize hmm266 : zu_up mh a0 7 (zu_w32 ((mh a0 7) + 1)) = m266
              have hIm266 := zi_up hmm266 hImh hc0 zb_28_7 (by omega) (by omega)
              have hFm266 := zfr_up hmm266 hFmh hc0 rfl
              have hRWDm266 := zR_WD_fr (zdis_fr (zfr_up hmm266 (zfr_rf [(28, 8)] _) hc0 rfl) rfl) hRWDmh
              have r267 : 0 ≤ (m266 a0 7) ∧ (m266 a0 7) ≤ 700 := zi_rd hIm266 hc0 zb_28_7
              have e268 : (m266 a0 7) = (zu_w32 ((mh a0 7) + 1)) := (zs_eq hmm266)
              have r269 : 0 ≤ (m266 a0 6) ∧ (m266 a0 6) ≤ 700 := zi_rd hIm266 hc0 zb_28_6
              have e270 : (m266 a0 6) = (mh a0 6) := (zs_ne hmm266 (Or.inr (by decide)))
              have hRNSm266 := zR_NS_of hc0 (show m266 a0 7 ≤ m266 a0 6 by omega)
              have r271 : 0 ≤ (m266 a0 10) ∧ (m266 a0 10) ≤ 700 := zi_rd hIm266 hc0 zb_28_10
              have e272 : (m266 a0 10) = (mh a0 10) := (zs_ne hmm266 (Or.inr (by decide)))
              have hM : (700 - (m266 a0 7)) * 1 + 701 < (k : Int) := by omega
              exact ih.2.1  m266 hIm266 hFm266 ⟨by omega, by omega⟩ ⟨by omega, by omega⟩ (by omega) (by omega) (by omega) (by omega) (by omega) hRNSm266 hRWDm266 hM
set_option maxHeartbeats 4000000 in
theorem zl_89H2 (n : Nat) {a0 : Int} {m0 : zu_m} (hc0 : zcls a0 = 28)   (k : Nat) (ih : (∀ (mh : zu_m), zi_I mh → zfr [(28, 8), (28, 9), (28, 10), (28, 11)] m0 mh → ((m0 a0 7) ≤ (mh a0 7)) → (zR_NS mh) → (zR_WD mh) → (700 - (mh a0 7)) * 1 + 1402 < (k : Int) → zw (zu_ex (zt_T n) 89 0 [(40, a0)] [] mh) (fun v m => zi_I m ∧ zfr [(28, 8), (28, 9), (28, 10), (28, 11)] m0 m ∧ zR_NS m ∧ zR_TR m ∧ zR_WD m ∧ True ∧ ((m0 a0 7) ≤ (m a0 7)) ∧ ((m a0 8) = 0 ∨ (m0 a0 7) < (m a0 7)))) ∧ (∀ (mh : zu_m), zi_I mh → zfr [(28, 8), (28, 9), (28, 10), (28, 11)] m0 mh → (0 ≤ mh a0 10 ∧ mh a0 10 ≤ 699) → (1 ≤ mh a0 6 ∧ mh a0 6 ≤ 700) → ((m0 a0 7) ≤ (mh a0 7)) → ((mh a0 10) = (mh a0 7) → ((mh a0 7) < (mh a0 6))) → ((m0 a0 7) ≤ (mh a0 10)) → ((mh a0 10) ≤ (mh a0 7)) → ((mh a0 10) = (mh a0 7) → (97 ≤ mh 191 (mh a0 7) ∧ mh 191 (mh a0 7) ≤ 122 ∧ (mh a0 7) < (mh a0 6))) → (zR_NS mh) → (zR_WD mh) → (700 - (mh a0 7)) * 1 + 701 < (k : Int) → zw (zu_ex (zt_T n) 89 90 [(40, a0)] [] mh) (fun v m => zi_I m ∧ zfr [(28, 8), (28, 9), (28, 10), (28, 11)] m0 m ∧ zR_NS m ∧ zR_TR m ∧ zR_WD m ∧ True ∧ ((m0 a0 7) ≤ (m a0 7)) ∧ ((m a0 8) = 0 ∨ (m0 a0 7) < (m a0 7)))) ∧ (∀ (mh : zu_m), zi_I mh → zfr [(28, 8), (28, 9), (28, 10), (28, 11)] m0 mh → (0 ≤ mh a0 10 ∧ mh a0 10 ≤ 699) → (1 ≤ mh a0 6 ∧ mh a0 6 ≤ 700) → (3 ≤ mh a0 8 ∧ mh a0 8 ≤ 3) → (0 ≤ mh a0 9 ∧ mh a0 9 ≤ 999999) → ((m0 a0 7) ≤ (mh a0 7)) → ((mh a0 8) = 3) → (0 ≤ (mh a0 9)) → ((m0 a0 7) ≤ (mh a0 10)) → ((mh a0 10) ≤ (mh a0 7)) → ((mh a0 10) = (mh a0 7) → (48 ≤ mh 191 (mh a0 7) ∧ mh 191 (mh a0 7) ≤ 57 ∧ (mh a0 7) < (mh a0 6))) → (zR_NS mh) → (zR_WD mh) → (700 - (mh a0 7)) * 1 + 0 < (k : Int) → zw (zu_ex (zt_T n) 89 213 [(40, a0)] [] mh) (fun v m => zi_I m ∧ zfr [(28, 8), (28, 9), (28, 10), (28, 11)] m0 m ∧ zR_NS m ∧ zR_TR m ∧ zR_WD m ∧ True ∧ ((m0 a0 7) ≤ (m a0 7)) ∧ ((m a0 8) = 0 ∨ (m0 a0 7) < (m a0 7))))) : (∀ (mh : zu_m), zi_I mh → zfr [(28, 8), (28, 9), (28, 10), (28, 11)] m0 mh → (0 ≤ mh a0 10 ∧ mh a0 10 ≤ 699) → (1 ≤ mh a0 6 ∧ mh a0 6 ≤ 700) → (3 ≤ mh a0 8 ∧ mh a0 8 ≤ 3) → (0 ≤ mh a0 9 ∧ mh a0 9 ≤ 999999) → ((m0 a0 7) ≤ (mh a0 7)) → ((mh a0 8) = 3) → (0 ≤ (mh a0 9)) → ((m0 a0 7) ≤ (mh a0 10)) → ((mh a0 10) ≤ (mh a0 7)) → ((mh a0 10) = (mh a0 7) → (48 ≤ mh 191 (mh a0 7) ∧ mh 191 (mh a0 7) ≤ 57 ∧ (mh a0 7) < (mh a0 6))) → (zR_NS mh) → (zR_WD mh) → (700 - (mh a0 7)) * 1 + 0 < ((k + 1 : Nat) : Int) → zw (zu_ex (zt_T n) 89 213 [(40, a0)] [] mh) (fun v m => zi_I m ∧ zfr [(28, 8), (28, 9), (28, 10), (28, 11)] m0 m ∧ zR_NS m ∧ zR_TR m ∧ zR_WD m ∧ True ∧ ((m0 a0 7) ≤ (m a0 7)) ∧ ((m a0 8) = 0 ∨ (m0 a0 7) < (m a0 7)))) := by
      intro mh hImh hFmh hg0 hg1 hg2 hg3 hH0 hH1 hH2 hH3 hH4 hH5 hRNSmh hRWDmh hM
      refine zw_eq (zu_rega_at (zt_T n) (zm_89 n) (zdp_89 n) _ _ _ _ _ _ (zr_89_213 n _ _ a0 mh)) ?_
      have r273 : 0 ≤ (mh a0 7) ∧ (mh a0 7) ≤ 700 := zi_rd hImh hc0 zb_28_7
      have s274 := hRNSmh a0 hc0
      refine zw_bd (zw_eq (zu_call_at (zt_T n) (zm_88 n) (zdp_88 n) _ _ _ _ _ rfl (zr_88_0 n _ _ a0 (mh a0 7) mh)) ?_)
      refine zw_ite (fun h275 => ?_) (fun h275 => ?_)
      · refine zw_b (by omega) ?_
        refine zw_some ?_
        refine zw_ite (fun h276 => ?_) (fun h276 => ?_)
        · have hRTRmh := zR_TR_of hc0 (show (mh a0 8 = 5 → (0 ≤ mh a0 9 ∧ mh a0 9 ≤ 5)) ∧ (mh a0 8 = 1 → (0 ≤ mh a0 9 ∧ mh a0 9 ≤ 32)) ∧ (mh a0 8 = 3 → 0 ≤ mh a0 9) by omega)
          exact zw_some ⟨hImh, hFmh, hRNSmh, hRTRmh, hRWDmh, trivial, by omega, by omega⟩
        · exfalso; omega
      · have b277 : 0 ≤ (mh a0 7) ∧ (mh a0 7) < 700 := by omega
        refine zw_if b277 ?_
        have r278 : (-2147483648) ≤ (mh 191 (mh a0 7)) ∧ (mh 191 (mh a0 7)) ≤ 2147483647 := zi_rd hImh zq_191 (zb_100 _)
        refine zw_ite (fun h279 => ?_) (fun h279 => ?_)
        · refine zw_b (by omega) ?_
          refine zw_some ?_
          refine zw_ite (fun h280 => ?_) (fun h280 => ?_)
          · have hRTRmh := zR_TR_of hc0 (show (mh a0 8 = 5 → (0 ≤ mh a0 9 ∧ mh a0 9 ≤ 5)) ∧ (mh a0 8 = 1 → (0 ≤ mh a0 9 ∧ mh a0 9 ≤ 32)) ∧ (mh a0 8 = 3 → 0 ≤ mh a0 9) by omega)
            exact zw_some ⟨hImh, hFmh, hRNSmh, hRTRmh, hRWDmh, trivial, by omega, by omega⟩
          · exfalso; omega
        · have b281 : 0 ≤ (mh a0 7) ∧ (mh a0 7) < 700 := by omega
          refine zw_if b281 ?_
          refine zw_ite (fun h282 => ?_) (fun h282 => ?_)
          · refine zw_b (by omega) ?_
            refine zw_some ?_
            refine zw_ite (fun h283 => ?_) (fun h283 => ?_)
            · have hRTRmh := zR_TR_of hc0 (show (mh a0 8 = 5 → (0 ≤ mh a0 9 ∧ mh a0 9 ≤ 5)) ∧ (mh a0 8 = 1 → (0 ≤ mh a0 9 ∧ mh a0 9 ≤ 32)) ∧ (mh a0 8 = 3 → 0 ≤ mh a0 9) by omega)
              exact zw_some ⟨hImh, hFmh, hRNSmh, hRTRmh, hRWDmh, trivial, by omega, by omega⟩
            · exfalso; omega
          · refine zw_b (by omega) ?_
            refine zw_some ?_
            refine zw_ite (fun h284 => ?_) (fun h284 => ?_)
            · exfalso; omega
            · refine zw_ite (fun h285 => ?_) (fun h285 => ?_)
              · have w286 := zu_w32_id (z := 10 * (mh a0 9)) (by omega) (by omega)
                have b287 : 0 ≤ (mh a0 7) ∧ (mh a0 7) < 700 := by omega
                refine zw_if b287 ?_
                have w288 := zu_w32_id (z := (zu_w32 (10 * (mh a0 9))) + (mh 191 (mh a0 7))) (by omega) (by omega)
                have w289 := zu_w32_id (z := (zu_w32 ((zu_w32 (10 * (mh a0 9))) + (mh 191 (mh a0 7)))) - 48) (by omega) (by omega)
                generalize hmm290 : zu_up mh a0 9 (zu_w32 ((zu_w32 ((zu_w32 (10 * (mh a0 9))) + (mh 191 (mh a0 7)))) - 48)) = m290
                have hIm290 := zi_up hmm290 hImh hc0 zb_28_9 (by omega) (by omega)
                have hFm290 := zfr_up hmm290 hFmh hc0 rfl
                have hRNSm290 := zR_NS_fr (zdis_fr (zfr_up hmm290 (zfr_rf [(28, 10)] _) hc0 rfl) rfl) hRNSmh
                have hRWDm290 := zR_WD_fr (zdis_fr (zfr_up hmm290 (zfr_rf [(28, 10)] _) hc0 rfl) rfl) hRWDmh
                have r291 : 0 ≤ (m290 a0 7) ∧ (m290 a0 7) ≤ 700 := zi_rd hIm290 hc0 zb_28_7
                have e292 : (m290 a0 7) = (mh a0 7) := (zs_ne hmm290 (Or.inr (by decide)))
                have w293 := zu_w32_id (z := (m290 a0 7) + 1) (by omega) (by omega)
                generalize hmm294 : zu_up m290 a0 7 (zu_w32 ((m290 a0 7) + 1)) = m294
                have hIm294 := zi_up hmm294 hIm290 hc0 zb_28_7 (by omega) (by omega)
                have hFm294 := zfr_up hmm294 hFm290 hc0 rfl
                have hRWDm294 := zR_WD_fr (zdis_fr (zfr_up hmm294 (zfr_rf [(28, 8)] _) hc0 rfl) rfl) hRWDm290
                have r295 : 0 ≤ (m294 a0 7) ∧ (m294 a0 7) ≤ 700 := zi_rd hIm294 hc0 zb_28_7
                have e296 : (m294 a0 7) = (zu_w32 ((m290 a0 7) + 1)) := (zs_eq hmm294)
                have r297 : 0 ≤ (m294 a0 6) ∧ (m294 a0 6) ≤ 700 := zi_rd hIm294 hc0 zb_28_6
                have e298 : (m294 a0 6) = (mh a0 6) := (Eq.trans (zs_ne hmm294 (Or.inr (by decide))) (zs_ne hmm290 (Or.inr (by decide))))
                have hRNSm294 := zR_NS_of hc0 (show m294 a0 7 ≤ m294 a0 6 by omega)
                have r299 : 0 ≤ (m294 a0 10) ∧ (m294 a0 10) ≤ 700 := zi_rd hIm294 hc0 zb_28_10
                have e300 : (m294 a0 10) = (mh a0 10) := (Eq.trans (zs_ne hmm294 (Or.inr (by decide))) (zs_ne hmm290 (Or.inr (by decide))))
                have r301 : 0 ≤ (m294 a0 8) ∧ (m294 a0 8) ≤ 6 := zi_rd hIm294 hc0 zb_28_8
                have e302 : (m294 a0 8) = (mh a0 8) := (Eq.trans (zs_ne hmm294 (Or.inr (by decide))) (zs_ne hmm290 (Or.inr (by decide))))
                have r303 : (-2147483648) ≤ (m294 a0 9) ∧ (m294 a0 9) ≤ 2147483647 := zi_rd hIm294 hc0 zb_28_9
                have e304 : (m294 a0 9) = (zu_w32 ((zu_w32 ((zu_w32 (10 * (mh a0 9))) + (mh 191 (mh a0 7)))) - 48)) := (Eq.trans (zs_ne hmm294 (Or.inr (by decide))) (zs_eq hmm290))
                have hM : (700 - (m294 a0 7)) * 1 + 0 < (k : Int) := by omega
                exact ih.2.2  m294 hIm294 hFm294 ⟨by omega, by omega⟩ ⟨by omega, by omega⟩ ⟨by omega, by omega⟩ ⟨by omega, by omega⟩ (by omega) (by omega) (by omega) (by omega) (by omega) (by omega) hRNSm294 hRWDm294 hM
              · generalize hmm305 : zu_up mh a0 9 (mh a0 9) = m305
                have hIm305 := zi_up hmm305 hImh hc0 zb_28_9 (by omega) (by omega)
                have hFm305 := zfr_up hmm305 hFmh hc0 rfl
                have hRNSm305 := zR_NS_fr (zdis_fr (zfr_up hmm305 (zfr_rf [(28, 10)] _) hc0 rfl) rfl) hRNSmh
                have hRWDm305 := zR_WD_fr (zdis_fr (zfr_up hmm305 (zfr_rf [(28, 10)] _) hc0 rfl) rfl) hRWDmh
                have r306 : 0 ≤ (m305 a0 7) ∧ (m305 a0 7) ≤ 700 := zi_rd hIm305 hc0 zb_28_7
                have e307 : (m305 a0 7) = (mh a0 7) := (zs_ne hmm305 (Or.inr (by decide)))
                have w308 := zu_w32_id (z := (m305 a0 7) + 1) (by omega) (by omega)
                generalize hmm309 : zu_up m305 a0 7 (zu_w32 ((m305 a0 7) + 1)) = m309
                have hIm309 := zi_up hmm309 hIm305 hc0 zb_28_7 (by omega) (by omega)
                have hFm309 := zfr_up hmm309 hFm305 hc0 rfl
                have hRWDm309 := zR_WD_fr (zdis_fr (zfr_up hmm309 (zfr_rf [(28, 8)] _) hc0 rfl) rfl) hRWDm305
                have r310 : 0 ≤ (m309 a0 7) ∧ (m309 a0 7) ≤ 700 := zi_rd hIm309 hc0 zb_28_7
                have e311 : (m309 a0 7) = (zu_w32 ((m305 a0 7) + 1)) := (zs_eq hmm309)
                have r312 : 0 ≤ (m309 a0 6) ∧ (m309 a0 6) ≤ 700 := zi_rd hIm309 hc0 zb_28_6
                have e313 : (m309 a0 6) = (mh a0 6) := (Eq.trans (zs_ne hmm309 (Or.inr (by decide))) (zs_ne hmm305 (Or.inr (by decide))))
                have hRNSm309 := zR_NS_of hc0 (show m309 a0 7 ≤ m309 a0 6 by omega)
                have r314 : 0 ≤ (m309 a0 10) ∧ (m309 a0 10) ≤ 700 := zi_rd hIm309 hc0 zb_28_10
                have e315 : (m309 a0 10) = (mh a0 10) := (Eq.trans (zs_ne hmm309 (Or.inr (by decide))) (zs_ne hmm305 (Or.inr (by decide))))
                have r316 : 0 ≤ (m309 a0 8) ∧ (m309 a0 8) ≤ 6 := zi_rd hIm309 hc0 zb_28_8
                have e317 : (m309 a0 8) = (mh a0 8) := (Eq.trans (zs_ne hmm309 (Or.inr (by decide))) (zs_ne hmm305 (Or.inr (by decide))))
                have r318 : (-2147483648) ≤ (m309 a0 9) ∧ (m309 a0 9) ≤ 2147483647 := zi_rd hIm309 hc0 zb_28_9
                have e319 : (m309 a0 9) = (mh a0 9) := (Eq.trans (zs_ne hmm309 (Or.inr (by decide))) (zs_eq hmm305))
                have hM : (700 - (m309 a0 7)) * 1 + 0 < (k : Int) := by omega
                exact ih.2.2  m309 hIm309 hFm309 ⟨by omega, by omega⟩ ⟨by omega, by omega⟩ ⟨by omega, by omega⟩ ⟨by omega, by omega⟩ (by omega) (by omega) (by omega) (by omega) (by omega) (by omega) hRNSm309 hRWDm309 hM
set_option maxHeartbeats 4000000 in
theorem zl_89 (n : Nat) {a0 : Int} {m0 : zu_m} (hc0 : zcls a0 = 28)   : ∀ k : Nat, (∀ (mh : zu_m), zi_I mh → zfr [(28, 8), (28, 9), (28, 10), (28, 11)] m0 mh → ((m0 a0 7) ≤ (mh a0 7)) → (zR_NS mh) → (zR_WD mh) → (700 - (mh a0 7)) * 1 + 1402 < (k : Int) → zw (zu_ex (zt_T n) 89 0 [(40, a0)] [] mh) (fun v m => zi_I m ∧ zfr [(28, 8), (28, 9), (28, 10), (28, 11)] m0 m ∧ zR_NS m ∧ zR_TR m ∧ zR_WD m ∧ True ∧ ((m0 a0 7) ≤ (m a0 7)) ∧ ((m a0 8) = 0 ∨ (m0 a0 7) < (m a0 7)))) ∧ (∀ (mh : zu_m), zi_I mh → zfr [(28, 8), (28, 9), (28, 10), (28, 11)] m0 mh → (0 ≤ mh a0 10 ∧ mh a0 10 ≤ 699) → (1 ≤ mh a0 6 ∧ mh a0 6 ≤ 700) → ((m0 a0 7) ≤ (mh a0 7)) → ((mh a0 10) = (mh a0 7) → ((mh a0 7) < (mh a0 6))) → ((m0 a0 7) ≤ (mh a0 10)) → ((mh a0 10) ≤ (mh a0 7)) → ((mh a0 10) = (mh a0 7) → (97 ≤ mh 191 (mh a0 7) ∧ mh 191 (mh a0 7) ≤ 122 ∧ (mh a0 7) < (mh a0 6))) → (zR_NS mh) → (zR_WD mh) → (700 - (mh a0 7)) * 1 + 701 < (k : Int) → zw (zu_ex (zt_T n) 89 90 [(40, a0)] [] mh) (fun v m => zi_I m ∧ zfr [(28, 8), (28, 9), (28, 10), (28, 11)] m0 m ∧ zR_NS m ∧ zR_TR m ∧ zR_WD m ∧ True ∧ ((m0 a0 7) ≤ (m a0 7)) ∧ ((m a0 8) = 0 ∨ (m0 a0 7) < (m a0 7)))) ∧ (∀ (mh : zu_m), zi_I mh → zfr [(28, 8), (28, 9), (28, 10), (28, 11)] m0 mh → (0 ≤ mh a0 10 ∧ mh a0 10 ≤ 699) → (1 ≤ mh a0 6 ∧ mh a0 6 ≤ 700) → (3 ≤ mh a0 8 ∧ mh a0 8 ≤ 3) → (0 ≤ mh a0 9 ∧ mh a0 9 ≤ 999999) → ((m0 a0 7) ≤ (mh a0 7)) → ((mh a0 8) = 3) → (0 ≤ (mh a0 9)) → ((m0 a0 7) ≤ (mh a0 10)) → ((mh a0 10) ≤ (mh a0 7)) → ((mh a0 10) = (mh a0 7) → (48 ≤ mh 191 (mh a0 7) ∧ mh 191 (mh a0 7) ≤ 57 ∧ (mh a0 7) < (mh a0 6))) → (zR_NS mh) → (zR_WD mh) → (700 - (mh a0 7)) * 1 + 0 < (k : Int) → zw (zu_ex (zt_T n) 89 213 [(40, a0)] [] mh) (fun v m => zi_I m ∧ zfr [(28, 8), (28, 9), (28, 10), (28, 11)] m0 m ∧ zR_NS m ∧ zR_TR m ∧ zR_WD m ∧ True ∧ ((m0 a0 7) ≤ (m a0 7)) ∧ ((m a0 8) = 0 ∨ (m0 a0 7) < (m a0 7)))) := by
  intro k
  induction k with
  | zero => exact ⟨fun mh hImh hFmh hH0 hRNSmh hRWDmh hM => by have zq0 := zi_rd hImh hc0 zb_28_7; exfalso; omega, fun mh hImh hFmh hg0 hg1 hH0 hH1 hH2 hH3 hH4 hRNSmh hRWDmh hM => by have zq0 := zi_rd hImh hc0 zb_28_7; exfalso; omega, fun mh hImh hFmh hg0 hg1 hg2 hg3 hH0 hH1 hH2 hH3 hH4 hH5 hRNSmh hRWDmh hM => by have zq0 := zi_rd hImh hc0 zb_28_7; exfalso; omega⟩
  | succ k ih => exact ⟨zl_89H0 n (m0 := m0) hc0 k ih, zl_89H1 n (m0 := m0) hc0 k ih, zl_89H2 n (m0 := m0) hc0 k ih⟩
set_option maxHeartbeats 4000000 in
theorem zk_89 (n : Nat) {a0 : Int} {m0 : zu_m} (hIm0 : zi_I m0) (hc0 : zcls a0 = 28)     (hRNSm0 : zR_NS m0) (hRWDm0 : zR_WD m0) : zw (zu_call (zt_T n) 89 [(40, a0)] m0) (fun v m => zi_I m ∧ zfr [(28, 8), (28, 9), (28, 10), (28, 11)] m0 m ∧ zR_NS m ∧ zR_TR m ∧ zR_WD m ∧ True ∧ ((m0 a0 7) ≤ (m a0 7)) ∧ ((m a0 8) = 0 ∨ (m0 a0 7) < (m a0 7))) := by
  have hFm0 : zfr [(28, 8), (28, 9), (28, 10), (28, 11)] m0 m0 := zfr_rf _ _
  have r320 : 0 ≤ (m0 a0 7) ∧ (m0 a0 7) ≤ 700 := zi_rd hIm0 hc0 zb_28_7
  have s321 := hRNSm0 a0 hc0
  show zw (zu_ex (zt_T n) 89 0 [(40, a0)] [] m0) _
  have hM : (700 - (m0 a0 7)) * 1 + 1402 < ((2103 : Nat) : Int) := by omega
  exact (zl_89 n (m0 := m0) hc0 2103).1  m0 hIm0 hFm0 (by omega) hRNSm0 hRWDm0 hM
set_option maxHeartbeats 4000000 in
theorem zk_108 (n : Nat) {a0 a1 : Int} {m0 : zu_m} (hIm0 : zi_I m0) (hc0 : zcls a0 = 28) (ha1 : (-2147483648) ≤ a1 ∧ a1 ≤ 2147483647)     : zw (zu_call (zt_T n) 108 [(40, a0), (0, a1)] m0) (fun v m => zi_I m ∧ zfr [(28, 3)] m0 m ∧ ((-1) ≤ v ∧ v ≤ 3) ∧ (0 ≤ m a0 2 ∧ m a0 2 ≤ 0)) := by
  have hFm0 : zfr [(28, 3)] m0 m0 := zfr_rf _ _
  refine zw_eq (zu_call_at (zt_T n) (zm_108 n) (zdp_108 n) _ _ _ _ _ rfl (zr_108_0 n _ _ a0 a1 m0)) ?_
  generalize hmm1 : zu_up m0 a0 2 0 = m1
  have hIm1 := zi_up hmm1 hIm0 hc0 zb_28_2 (by omega) (by omega)
  have hFm1 := zfr_up hmm1 hFm0 hc0 rfl
  have r2 : 0 ≤ (m1 a0 15) ∧ (m1 a0 15) ≤ 4 := zi_rd hIm1 hc0 zb_28_15
  refine zw_bd (zw_mono (zk_95 n hIm1 zq_200 ⟨by omega, by omega⟩ ⟨by omega, by omega⟩ ⟨by omega, by omega⟩) (fun v4 m3 hqm3 => ?_))
  obtain ⟨hIm3, hfm3, hvm3⟩ := hqm3
  have hFm3 := zfr_tr hFm1 hfm3 rfl
  have r5 : (-2147483648) ≤ (m3 a0 2) ∧ (m3 a0 2) ≤ 2147483647 := zi_rd hIm3 hc0 zb_28_2
  have e6 : (m3 a0 2) = 0 := (Eq.trans (zfr_ap hfm3 hc0 rfl) (zs_eq hmm1))
  exact zw_some ⟨hIm3, hFm3, ⟨by omega, by omega⟩, ⟨by omega, by omega⟩⟩
set_option maxHeartbeats 4000000 in
theorem zl_112 (n : Nat) {a0 a1 : Int} {m0 : zu_m} (hc0 : zcls a0 = 28)  (hxp0 : (m0 a0 46) = zbi m0 + 1) (hxp1 : (m0 a0 21) + znz m0 ≤ 64) (hxp2 : 1 ≤ a1) : ∀ k : Nat, (∀ (mh : zu_m), zi_I mh → zfr [(28, 22), (28, 46), (28, 47), (117, 0), (118, 0), (119, 0), (121, 0)] m0 mh → (0 ≤ a1 ∧ a1 ≤ 6) → ((mh a0 21) + znz mh = (m0 a0 21) + znz m0) → ((mh a0 46) - zbi mh = (m0 a0 46) - zbi m0) → ((mh a0 45) - znz mh = (m0 a0 45) - znz m0) → ((m0 a0 21) ≤ (mh a0 21)) → (zR_KN mh) → (mh a0 45) * 1 + 0 < (k : Int) → zw (zu_ex (zt_T n) 112 0 [(40, a0), (0, a1), (2, 0), (2, 0), (2, 0)] [] mh) (fun v m => zi_I m ∧ zfr [(28, 22), (28, 46), (28, 47), (117, 0), (118, 0), (119, 0), (121, 0)] m0 m ∧ zR_KN m ∧ True ∧ ((m a0 21) + znz m = (m0 a0 21) + znz m0) ∧ ((m a0 46) - zbi m = (m0 a0 46) - zbi m0) ∧ ((m a0 45) - znz m = (m0 a0 45) - znz m0) ∧ ((m0 a0 21) ≤ (m a0 21)) ∧ (a1 = 1 → ((m a0 45) = 0 ∨ m 211 (zu_w32 ((m a0 45) - 1)) < 2)))) := by
  intro k
  induction k with
  | zero => exact fun mh hImh hFmh hba1 hH0 hH1 hH2 hH3 hRKNmh hM => by have zq0 := zi_rd hImh hc0 zb_28_45; exfalso; omega
  | succ k ih =>
    intro mh hImh hFmh hba1 hH0 hH1 hH2 hH3 hRKNmh hM
    refine zw_eq (zu_rega_at (zt_T n) (zm_112 n) (zdp_112 n) _ _ _ _ _ _ (zr_112_0 n _ _ a0 a1 mh)) ?_
    have r1 : 0 ≤ (mh a0 21) ∧ (mh a0 21) ≤ 64 := zi_rd hImh hc0 zb_28_21
    have r2 : 0 ≤ (mh a0 46) ∧ (mh a0 46) ≤ 96 := zi_rd hImh hc0 zb_28_46
    have r3 : 0 ≤ (mh a0 45) ∧ (mh a0 45) ≤ 96 := zi_rd hImh hc0 zb_28_45
    have g4 := zwt_bd hImh hc0
    refine zw_ite (fun h5 => ?_) (fun h5 => ?_)
    · exact zw_some ⟨hImh, hFmh, hRKNmh, trivial, by omega, by omega, by omega, by omega, by omega⟩
    · have w6 := zu_w32_id (z := (mh a0 45) - 1) (by omega) (by omega)
      have b7 : 0 ≤ (zu_w32 ((mh a0 45) - 1)) ∧ (zu_w32 ((mh a0 45) - 1)) < 96 := by omega
      refine zw_if b7 ?_
      have r8 : 0 ≤ (mh 211 (zu_w32 ((mh a0 45) - 1))) ∧ (mh 211 (zu_w32 ((mh a0 45) - 1))) ≤ 14 := zi_rd hImh zq_211 (zb_120 _)
      refine zw_bd (zw_eq (zu_call_at (zt_T n) (zm_109 n) (zdp_109 n) _ _ _ _ _ rfl (zr_109_0 n _ _ (mh 211 (zu_w32 ((mh a0 45) - 1))) mh)) ?_)
      refine zw_ite (fun h9 => ?_) (fun h9 => ?_)
      · refine zw_ite (fun h10 => ?_) (fun h10 => ?_)
        · refine zw_ite (fun h11 => ?_) (fun h11 => ?_)
          · refine zw_ite (fun h12 => ?_) (fun h12 => ?_)
            · refine zw_ite (fun h13 => ?_) (fun h13 => ?_)
              · refine zw_ite (fun h14 => ?_) (fun h14 => ?_)
                · refine zw_some ?_
                  refine zw_ite (fun h15 => ?_) (fun h15 => ?_)
                  · exact zw_some ⟨hImh, hFmh, hRKNmh, trivial, by omega, by omega, by omega, by omega, by omega⟩
                  · generalize hmm16 : zu_up mh a0 45 (zu_w32 ((mh a0 45) - 1)) = m16
                    have hIm16 := zi_up hmm16 hImh hc0 zb_28_45 (by omega) (by omega)
                    have hFm16 := zfr_up hmm16 hFmh hc0 rfl
                    have hRKNm16 := zR_KN_fr (zdis_fr (zfr_up hmm16 (zfr_rf [(28, 46)] _) hc0 rfl) rfl) hRKNmh
                    have g17 := zwt_pop hmm16 hc0 (by omega) (by omega)
                    have g18 := zwt_bd hIm16 hc0
                    have r19 : 0 ≤ (m16 a0 45) ∧ (m16 a0 45) ≤ 96 := zi_rd hIm16 hc0 zb_28_45
                    have e20 : (m16 a0 45) = (zu_w32 ((mh a0 45) - 1)) := (zs_eq hmm16)
                    have s21 : m16 211 (m16 a0 45) = mh 211 (zu_w32 ((mh a0 45) - 1)) := by rw [zs_eq hmm16]; exact zs_ne hmm16 (Or.inl (zc_ne zq_211 hc0 (by decide)))
                    have b22 : 0 ≤ (m16 a0 45) ∧ (m16 a0 45) < 96 := by omega
                    refine zw_if b22 ?_
                    refine zw_ite (fun h23 => ?_) (fun h23 => ?_)
                    · refine zw_bd (zw_eq (zu_call_at (zt_T n) (zm_111 n) (zdp_111 n) _ _ _ _ _ rfl (zr_111_0 n _ _ a0 m16)) ?_)
                      have r24 : 0 ≤ (m16 a0 46) ∧ (m16 a0 46) ≤ 96 := zi_rd hIm16 hc0 zb_28_46
                      have e25 : (m16 a0 46) = (mh a0 46) := (zs_ne hmm16 (Or.inr (by decide)))
                      have w26 := zu_w32_id (z := (m16 a0 46) - 1) (by omega) (by omega)
                      generalize hmm27 : zu_up m16 a0 46 (zu_w32 ((m16 a0 46) - 1)) = m27
                      have hIm27 := zi_up hmm27 hIm16 hc0 zb_28_46 (by omega) (by omega)
                      have hFm27 := zfr_up hmm27 hFm16 hc0 rfl
                      have g28 := zwt_fr (zdis_fr (zfr_up hmm27 (zfr_rf [(28, 47)] _) hc0 rfl) rfl)
                      have hRKNm27 := zR_KN_fr (zdis_fr (zfr_up hmm27 (zfr_rf [(28, 47)] _) hc0 rfl) rfl) hRKNm16
                      have r29 : 0 ≤ (m27 a0 46) ∧ (m27 a0 46) ≤ 96 := zi_rd hIm27 hc0 zb_28_46
                      have e30 : (m27 a0 46) = (zu_w32 ((m16 a0 46) - 1)) := (zs_eq hmm27)
                      have b31 : 0 ≤ (m27 a0 46) ∧ (m27 a0 46) < 96 := by omega
                      refine zw_if b31 ?_
                      have r32 : 0 ≤ (m27 212 (m27 a0 46)) ∧ (m27 212 (m27 a0 46)) ≤ 63 := zi_rd hIm27 zq_212 (zb_121 _)
                      refine zw_some ?_
                      refine zw_bd (zw_eq (zu_call_at (zt_T n) (zm_111 n) (zdp_111 n) _ _ _ _ _ rfl (zr_111_0 n _ _ a0 m27)) ?_)
                      have w33 := zu_w32_id (z := (m27 a0 46) - 1) (by omega) (by omega)
                      generalize hmm34 : zu_up m27 a0 46 (zu_w32 ((m27 a0 46) - 1)) = m34
                      have hIm34 := zi_up hmm34 hIm27 hc0 zb_28_46 (by omega) (by omega)
                      have hFm34 := zfr_up hmm34 hFm27 hc0 rfl
                      have g35 := zwt_fr (zdis_fr (zfr_up hmm34 (zfr_rf [(28, 47)] _) hc0 rfl) rfl)
                      have hRKNm34 := zR_KN_fr (zdis_fr (zfr_up hmm34 (zfr_rf [(28, 47)] _) hc0 rfl) rfl) hRKNm27
                      have r36 : 0 ≤ (m34 a0 46) ∧ (m34 a0 46) ≤ 96 := zi_rd hIm34 hc0 zb_28_46
                      have e37 : (m34 a0 46) = (zu_w32 ((m27 a0 46) - 1)) := (zs_eq hmm34)
                      have b38 : 0 ≤ (m34 a0 46) ∧ (m34 a0 46) < 96 := by omega
                      refine zw_if b38 ?_
                      have r39 : 0 ≤ (m34 212 (m34 a0 46)) ∧ (m34 212 (m34 a0 46)) ≤ 63 := zi_rd hIm34 zq_212 (zb_121 _)
                      refine zw_some ?_
                      have r40 : 0 ≤ (m34 a0 21) ∧ (m34 a0 21) ≤ 64 := zi_rd hIm34 hc0 zb_28_21
                      have e41 : (m34 a0 21) = (mh a0 21) := (Eq.trans (zs_ne hmm34 (Or.inr (by decide))) (Eq.trans (zs_ne hmm27 (Or.inr (by decide))) (zs_ne hmm16 (Or.inr (by decide)))))
                      refine zw_bd (zw_mono (zk_110 n hIm34 hc0 ⟨by omega, by omega⟩ ⟨by omega, by omega⟩ ⟨by omega, by omega⟩ (by omega) (by omega) (by omega) (by omega) (by omega) hRKNm34) (fun v43 m42 hqm42 => ?_))
                      obtain ⟨hIm42, hfm42, hvm42⟩ := hqm42
                      have hFm42 := zfr_tr hFm34 hfm42 rfl
                      obtain ⟨hRKNm42, hvm42⟩ := hvm42
                      have g44 := zwt_fr (zdis_fr hfm42 rfl)
                      have g45 := zwt_bd hIm42 hc0
                      have r46 : 0 ≤ (m42 a0 45) ∧ (m42 a0 45) ≤ 96 := zi_rd hIm42 hc0 zb_28_45
                      have e47 : (m42 a0 45) = (m16 a0 45) := (Eq.trans (zfr_ap hfm42 hc0 rfl) (Eq.trans (zs_ne hmm34 (Or.inr (by decide))) (zs_ne hmm27 (Or.inr (by decide)))))
                      have hM : (m42 a0 45) * 1 + 0 < (k : Int) := by omega
                      exact zw_le (zu_forget (zu_lr_same (zu_lr_same (zu_lr_drop (zu_lr_drop (zu_lr_drop zu_lr_nil)))))) (ih  m42 hIm42 hFm42 ⟨by omega, by omega⟩ (by omega) (by omega) (by omega) (by omega) hRKNm42 hM)
                    · refine zw_bd (zw_eq (zu_call_at (zt_T n) (zm_111 n) (zdp_111 n) _ _ _ _ _ rfl (zr_111_0 n _ _ a0 m16)) ?_)
                      have r48 : 0 ≤ (m16 a0 46) ∧ (m16 a0 46) ≤ 96 := zi_rd hIm16 hc0 zb_28_46
                      have e49 : (m16 a0 46) = (mh a0 46) := (zs_ne hmm16 (Or.inr (by decide)))
                      have w50 := zu_w32_id (z := (m16 a0 46) - 1) (by omega) (by omega)
                      generalize hmm51 : zu_up m16 a0 46 (zu_w32 ((m16 a0 46) - 1)) = m51
                      have hIm51 := zi_up hmm51 hIm16 hc0 zb_28_46 (by omega) (by omega)
                      have hFm51 := zfr_up hmm51 hFm16 hc0 rfl
                      have g52 := zwt_fr (zdis_fr (zfr_up hmm51 (zfr_rf [(28, 47)] _) hc0 rfl) rfl)
                      have hRKNm51 := zR_KN_fr (zdis_fr (zfr_up hmm51 (zfr_rf [(28, 47)] _) hc0 rfl) rfl) hRKNm16
                      have r53 : 0 ≤ (m51 a0 46) ∧ (m51 a0 46) ≤ 96 := zi_rd hIm51 hc0 zb_28_46
                      have e54 : (m51 a0 46) = (zu_w32 ((m16 a0 46) - 1)) := (zs_eq hmm51)
                      have b55 : 0 ≤ (m51 a0 46) ∧ (m51 a0 46) < 96 := by omega
                      refine zw_if b55 ?_
                      have r56 : 0 ≤ (m51 212 (m51 a0 46)) ∧ (m51 212 (m51 a0 46)) ≤ 63 := zi_rd hIm51 zq_212 (zb_121 _)
                      refine zw_some ?_
                      have r57 : 0 ≤ (m51 a0 21) ∧ (m51 a0 21) ≤ 64 := zi_rd hIm51 hc0 zb_28_21
                      have e58 : (m51 a0 21) = (mh a0 21) := (Eq.trans (zs_ne hmm51 (Or.inr (by decide))) (zs_ne hmm16 (Or.inr (by decide))))
                      refine zw_bd (zw_mono (zk_110 n hIm51 hc0 ⟨by omega, by omega⟩ ⟨by omega, by omega⟩ ⟨by omega, by omega⟩ (by omega) (by omega) (by omega) (by omega) (by omega) hRKNm51) (fun v60 m59 hqm59 => ?_))
                      obtain ⟨hIm59, hfm59, hvm59⟩ := hqm59
                      have hFm59 := zfr_tr hFm51 hfm59 rfl
                      obtain ⟨hRKNm59, hvm59⟩ := hvm59
                      have g61 := zwt_fr (zdis_fr hfm59 rfl)
                      have g62 := zwt_bd hIm59 hc0
                      have r63 : 0 ≤ (m59 a0 45) ∧ (m59 a0 45) ≤ 96 := zi_rd hIm59 hc0 zb_28_45
                      have e64 : (m59 a0 45) = (m16 a0 45) := (Eq.trans (zfr_ap hfm59 hc0 rfl) (zs_ne hmm51 (Or.inr (by decide))))
                      have hM : (m59 a0 45) * 1 + 0 < (k : Int) := by omega
                      exact zw_le (zu_forget (zu_lr_same (zu_lr_same (zu_lr_drop (zu_lr_drop (zu_lr_drop zu_lr_nil)))))) (ih  m59 hIm59 hFm59 ⟨by omega, by omega⟩ (by omega) (by omega) (by omega) (by omega) hRKNm59 hM)
                · refine zw_some ?_
                  refine zw_ite (fun h65 => ?_) (fun h65 => ?_)
                  · exact zw_some ⟨hImh, hFmh, hRKNmh, trivial, by omega, by omega, by omega, by omega, by omega⟩
                  · generalize hmm66 : zu_up mh a0 45 (zu_w32 ((mh a0 45) - 1)) = m66
                    have hIm66 := zi_up hmm66 hImh hc0 zb_28_45 (by omega) (by omega)
                    have hFm66 := zfr_up hmm66 hFmh hc0 rfl
                    have hRKNm66 := zR_KN_fr (zdis_fr (zfr_up hmm66 (zfr_rf [(28, 46)] _) hc0 rfl) rfl) hRKNmh
                    have g67 := zwt_pop hmm66 hc0 (by omega) (by omega)
                    have g68 := zwt_bd hIm66 hc0
                    have r69 : 0 ≤ (m66 a0 45) ∧ (m66 a0 45) ≤ 96 := zi_rd hIm66 hc0 zb_28_45
                    have e70 : (m66 a0 45) = (zu_w32 ((mh a0 45) - 1)) := (zs_eq hmm66)
                    have s71 : m66 211 (m66 a0 45) = mh 211 (zu_w32 ((mh a0 45) - 1)) := by rw [zs_eq hmm66]; exact zs_ne hmm66 (Or.inl (zc_ne zq_211 hc0 (by decide)))
                    have b72 : 0 ≤ (m66 a0 45) ∧ (m66 a0 45) < 96 := by omega
                    refine zw_if b72 ?_
                    refine zw_ite (fun h73 => ?_) (fun h73 => ?_)
                    · refine zw_bd (zw_eq (zu_call_at (zt_T n) (zm_111 n) (zdp_111 n) _ _ _ _ _ rfl (zr_111_0 n _ _ a0 m66)) ?_)
                      have r74 : 0 ≤ (m66 a0 46) ∧ (m66 a0 46) ≤ 96 := zi_rd hIm66 hc0 zb_28_46
                      have e75 : (m66 a0 46) = (mh a0 46) := (zs_ne hmm66 (Or.inr (by decide)))
                      have w76 := zu_w32_id (z := (m66 a0 46) - 1) (by omega) (by omega)
                      generalize hmm77 : zu_up m66 a0 46 (zu_w32 ((m66 a0 46) - 1)) = m77
                      have hIm77 := zi_up hmm77 hIm66 hc0 zb_28_46 (by omega) (by omega)
                      have hFm77 := zfr_up hmm77 hFm66 hc0 rfl
                      have g78 := zwt_fr (zdis_fr (zfr_up hmm77 (zfr_rf [(28, 47)] _) hc0 rfl) rfl)
                      have hRKNm77 := zR_KN_fr (zdis_fr (zfr_up hmm77 (zfr_rf [(28, 47)] _) hc0 rfl) rfl) hRKNm66
                      have r79 : 0 ≤ (m77 a0 46) ∧ (m77 a0 46) ≤ 96 := zi_rd hIm77 hc0 zb_28_46
                      have e80 : (m77 a0 46) = (zu_w32 ((m66 a0 46) - 1)) := (zs_eq hmm77)
                      have b81 : 0 ≤ (m77 a0 46) ∧ (m77 a0 46) < 96 := by omega
                      refine zw_if b81 ?_
                      have r82 : 0 ≤ (m77 212 (m77 a0 46)) ∧ (m77 212 (m77 a0 46)) ≤ 63 := zi_rd hIm77 zq_212 (zb_121 _)
                      refine zw_some ?_
                      refine zw_bd (zw_eq (zu_call_at (zt_T n) (zm_111 n) (zdp_111 n) _ _ _ _ _ rfl (zr_111_0 n _ _ a0 m77)) ?_)
                      have w83 := zu_w32_id (z := (m77 a0 46) - 1) (by omega) (by omega)
                      generalize hmm84 : zu_up m77 a0 46 (zu_w32 ((m77 a0 46) - 1)) = m84
                      have hIm84 := zi_up hmm84 hIm77 hc0 zb_28_46 (by omega) (by omega)
                      have hFm84 := zfr_up hmm84 hFm77 hc0 rfl
                      have g85 := zwt_fr (zdis_fr (zfr_up hmm84 (zfr_rf [(28, 47)] _) hc0 rfl) rfl)
                      have hRKNm84 := zR_KN_fr (zdis_fr (zfr_up hmm84 (zfr_rf [(28, 47)] _) hc0 rfl) rfl) hRKNm77
                      have r86 : 0 ≤ (m84 a0 46) ∧ (m84 a0 46) ≤ 96 := zi_rd hIm84 hc0 zb_28_46
                      have e87 : (m84 a0 46) = (zu_w32 ((m77 a0 46) - 1)) := (zs_eq hmm84)
                      have b88 : 0 ≤ (m84 a0 46) ∧ (m84 a0 46) < 96 := by omega
                      refine zw_if b88 ?_
                      have r89 : 0 ≤ (m84 212 (m84 a0 46)) ∧ (m84 212 (m84 a0 46)) ≤ 63 := zi_rd hIm84 zq_212 (zb_121 _)
                      refine zw_some ?_
                      have r90 : 0 ≤ (m84 a0 21) ∧ (m84 a0 21) ≤ 64 := zi_rd hIm84 hc0 zb_28_21
                      have e91 : (m84 a0 21) = (mh a0 21) := (Eq.trans (zs_ne hmm84 (Or.inr (by decide))) (Eq.trans (zs_ne hmm77 (Or.inr (by decide))) (zs_ne hmm66 (Or.inr (by decide)))))
                      refine zw_bd (zw_mono (zk_110 n hIm84 hc0 ⟨by omega, by omega⟩ ⟨by omega, by omega⟩ ⟨by omega, by omega⟩ (by omega) (by omega) (by omega) (by omega) (by omega) hRKNm84) (fun v93 m92 hqm92 => ?_))
                      obtain ⟨hIm92, hfm92, hvm92⟩ := hqm92
                      have hFm92 := zfr_tr hFm84 hfm92 rfl
                      obtain ⟨hRKNm92, hvm92⟩ := hvm92
                      have g94 := zwt_fr (zdis_fr hfm92 rfl)
                      have g95 := zwt_bd hIm92 hc0
                      have r96 : 0 ≤ (m92 a0 45) ∧ (m92 a0 45) ≤ 96 := zi_rd hIm92 hc0 zb_28_45
                      have e97 : (m92 a0 45) = (m66 a0 45) := (Eq.trans (zfr_ap hfm92 hc0 rfl) (Eq.trans (zs_ne hmm84 (Or.inr (by decide))) (zs_ne hmm77 (Or.inr (by decide)))))
                      have hM : (m92 a0 45) * 1 + 0 < (k : Int) := by omega
                      exact zw_le (zu_forget (zu_lr_same (zu_lr_same (zu_lr_drop (zu_lr_drop (zu_lr_drop zu_lr_nil)))))) (ih  m92 hIm92 hFm92 ⟨by omega, by omega⟩ (by omega) (by omega) (by omega) (by omega) hRKNm92 hM)
                    · exfalso; omega
              · refine zw_some ?_
                refine zw_ite (fun h98 => ?_) (fun h98 => ?_)
                · exact zw_some ⟨hImh, hFmh, hRKNmh, trivial, by omega, by omega, by omega, by omega, by omega⟩
                · generalize hmm99 : zu_up mh a0 45 (zu_w32 ((mh a0 45) - 1)) = m99
                  have hIm99 := zi_up hmm99 hImh hc0 zb_28_45 (by omega) (by omega)
                  have hFm99 := zfr_up hmm99 hFmh hc0 rfl
                  have hRKNm99 := zR_KN_fr (zdis_fr (zfr_up hmm99 (zfr_rf [(28, 46)] _) hc0 rfl) rfl) hRKNmh
                  have g100 := zwt_pop hmm99 hc0 (by omega) (by omega)
                  have g101 := zwt_bd hIm99 hc0
                  have r102 : 0 ≤ (m99 a0 45) ∧ (m99 a0 45) ≤ 96 := zi_rd hIm99 hc0 zb_28_45
                  have e103 : (m99 a0 45) = (zu_w32 ((mh a0 45) - 1)) := (zs_eq hmm99)
                  have s104 : m99 211 (m99 a0 45) = mh 211 (zu_w32 ((mh a0 45) - 1)) := by rw [zs_eq hmm99]; exact zs_ne hmm99 (Or.inl (zc_ne zq_211 hc0 (by decide)))
                  have b105 : 0 ≤ (m99 a0 45) ∧ (m99 a0 45) < 96 := by omega
                  refine zw_if b105 ?_
                  refine zw_ite (fun h106 => ?_) (fun h106 => ?_)
                  · refine zw_bd (zw_eq (zu_call_at (zt_T n) (zm_111 n) (zdp_111 n) _ _ _ _ _ rfl (zr_111_0 n _ _ a0 m99)) ?_)
                    have r107 : 0 ≤ (m99 a0 46) ∧ (m99 a0 46) ≤ 96 := zi_rd hIm99 hc0 zb_28_46
                    have e108 : (m99 a0 46) = (mh a0 46) := (zs_ne hmm99 (Or.inr (by decide)))
                    have w109 := zu_w32_id (z := (m99 a0 46) - 1) (by omega) (by omega)
                    generalize hmm110 : zu_up m99 a0 46 (zu_w32 ((m99 a0 46) - 1)) = m110
                    have hIm110 := zi_up hmm110 hIm99 hc0 zb_28_46 (by omega) (by omega)
                    have hFm110 := zfr_up hmm110 hFm99 hc0 rfl
                    have g111 := zwt_fr (zdis_fr (zfr_up hmm110 (zfr_rf [(28, 47)] _) hc0 rfl) rfl)
                    have hRKNm110 := zR_KN_fr (zdis_fr (zfr_up hmm110 (zfr_rf [(28, 47)] _) hc0 rfl) rfl) hRKNm99
                    have r112 : 0 ≤ (m110 a0 46) ∧ (m110 a0 46) ≤ 96 := zi_rd hIm110 hc0 zb_28_46
                    have e113 : (m110 a0 46) = (zu_w32 ((m99 a0 46) - 1)) := (zs_eq hmm110)
                    have b114 : 0 ≤ (m110 a0 46) ∧ (m110 a0 46) < 96 := by omega
                    refine zw_if b114 ?_
                    have r115 : 0 ≤ (m110 212 (m110 a0 46)) ∧ (m110 212 (m110 a0 46)) ≤ 63 := zi_rd hIm110 zq_212 (zb_121 _)
                    refine zw_some ?_
                    refine zw_bd (zw_eq (zu_call_at (zt_T n) (zm_111 n) (zdp_111 n) _ _ _ _ _ rfl (zr_111_0 n _ _ a0 m110)) ?_)
                    have w116 := zu_w32_id (z := (m110 a0 46) - 1) (by omega) (by omega)
                    generalize hmm117 : zu_up m110 a0 46 (zu_w32 ((m110 a0 46) - 1)) = m117
                    have hIm117 := zi_up hmm117 hIm110 hc0 zb_28_46 (by omega) (by omega)
                    have hFm117 := zfr_up hmm117 hFm110 hc0 rfl
                    have g118 := zwt_fr (zdis_fr (zfr_up hmm117 (zfr_rf [(28, 47)] _) hc0 rfl) rfl)
                    have hRKNm117 := zR_KN_fr (zdis_fr (zfr_up hmm117 (zfr_rf [(28, 47)] _) hc0 rfl) rfl) hRKNm110
                    have r119 : 0 ≤ (m117 a0 46) ∧ (m117 a0 46) ≤ 96 := zi_rd hIm117 hc0 zb_28_46
                    have e120 : (m117 a0 46) = (zu_w32 ((m110 a0 46) - 1)) := (zs_eq hmm117)
                    have b121 : 0 ≤ (m117 a0 46) ∧ (m117 a0 46) < 96 := by omega
                    refine zw_if b121 ?_
                    have r122 : 0 ≤ (m117 212 (m117 a0 46)) ∧ (m117 212 (m117 a0 46)) ≤ 63 := zi_rd hIm117 zq_212 (zb_121 _)
                    refine zw_some ?_
                    have r123 : 0 ≤ (m117 a0 21) ∧ (m117 a0 21) ≤ 64 := zi_rd hIm117 hc0 zb_28_21
                    have e124 : (m117 a0 21) = (mh a0 21) := (Eq.trans (zs_ne hmm117 (Or.inr (by decide))) (Eq.trans (zs_ne hmm110 (Or.inr (by decide))) (zs_ne hmm99 (Or.inr (by decide)))))
                    refine zw_bd (zw_mono (zk_110 n hIm117 hc0 ⟨by omega, by omega⟩ ⟨by omega, by omega⟩ ⟨by omega, by omega⟩ (by omega) (by omega) (by omega) (by omega) (by omega) hRKNm117) (fun v126 m125 hqm125 => ?_))
                    obtain ⟨hIm125, hfm125, hvm125⟩ := hqm125
                    have hFm125 := zfr_tr hFm117 hfm125 rfl
                    obtain ⟨hRKNm125, hvm125⟩ := hvm125
                    have g127 := zwt_fr (zdis_fr hfm125 rfl)
                    have g128 := zwt_bd hIm125 hc0
                    have r129 : 0 ≤ (m125 a0 45) ∧ (m125 a0 45) ≤ 96 := zi_rd hIm125 hc0 zb_28_45
                    have e130 : (m125 a0 45) = (m99 a0 45) := (Eq.trans (zfr_ap hfm125 hc0 rfl) (Eq.trans (zs_ne hmm117 (Or.inr (by decide))) (zs_ne hmm110 (Or.inr (by decide)))))
                    have hM : (m125 a0 45) * 1 + 0 < (k : Int) := by omega
                    exact zw_le (zu_forget (zu_lr_same (zu_lr_same (zu_lr_drop (zu_lr_drop (zu_lr_drop zu_lr_nil)))))) (ih  m125 hIm125 hFm125 ⟨by omega, by omega⟩ (by omega) (by omega) (by omega) (by omega) hRKNm125 hM)
                  · exfalso; omega
            · refine zw_some ?_
              refine zw_ite (fun h131 => ?_) (fun h131 => ?_)
              · exact zw_some ⟨hImh, hFmh, hRKNmh, trivial, by omega, by omega, by omega, by omega, by omega⟩
              · generalize hmm132 : zu_up mh a0 45 (zu_w32 ((mh a0 45) - 1)) = m132
                have hIm132 := zi_up hmm132 hImh hc0 zb_28_45 (by omega) (by omega)
                have hFm132 := zfr_up hmm132 hFmh hc0 rfl
                have hRKNm132 := zR_KN_fr (zdis_fr (zfr_up hmm132 (zfr_rf [(28, 46)] _) hc0 rfl) rfl) hRKNmh
                have g133 := zwt_pop hmm132 hc0 (by omega) (by omega)
                have g134 := zwt_bd hIm132 hc0
                have r135 : 0 ≤ (m132 a0 45) ∧ (m132 a0 45) ≤ 96 := zi_rd hIm132 hc0 zb_28_45
                have e136 : (m132 a0 45) = (zu_w32 ((mh a0 45) - 1)) := (zs_eq hmm132)
                have s137 : m132 211 (m132 a0 45) = mh 211 (zu_w32 ((mh a0 45) - 1)) := by rw [zs_eq hmm132]; exact zs_ne hmm132 (Or.inl (zc_ne zq_211 hc0 (by decide)))
                have b138 : 0 ≤ (m132 a0 45) ∧ (m132 a0 45) < 96 := by omega
                refine zw_if b138 ?_
                refine zw_ite (fun h139 => ?_) (fun h139 => ?_)
                · exfalso; omega
                · refine zw_bd (zw_eq (zu_call_at (zt_T n) (zm_111 n) (zdp_111 n) _ _ _ _ _ rfl (zr_111_0 n _ _ a0 m132)) ?_)
                  have r140 : 0 ≤ (m132 a0 46) ∧ (m132 a0 46) ≤ 96 := zi_rd hIm132 hc0 zb_28_46
                  have e141 : (m132 a0 46) = (mh a0 46) := (zs_ne hmm132 (Or.inr (by decide)))
                  have w142 := zu_w32_id (z := (m132 a0 46) - 1) (by omega) (by omega)
                  generalize hmm143 : zu_up m132 a0 46 (zu_w32 ((m132 a0 46) - 1)) = m143
                  have hIm143 := zi_up hmm143 hIm132 hc0 zb_28_46 (by omega) (by omega)
                  have hFm143 := zfr_up hmm143 hFm132 hc0 rfl
                  have g144 := zwt_fr (zdis_fr (zfr_up hmm143 (zfr_rf [(28, 47)] _) hc0 rfl) rfl)
                  have hRKNm143 := zR_KN_fr (zdis_fr (zfr_up hmm143 (zfr_rf [(28, 47)] _) hc0 rfl) rfl) hRKNm132
                  have r145 : 0 ≤ (m143 a0 46) ∧ (m143 a0 46) ≤ 96 := zi_rd hIm143 hc0 zb_28_46
                  have e146 : (m143 a0 46) = (zu_w32 ((m132 a0 46) - 1)) := (zs_eq hmm143)
                  have b147 : 0 ≤ (m143 a0 46) ∧ (m143 a0 46) < 96 := by omega
                  refine zw_if b147 ?_
                  have r148 : 0 ≤ (m143 212 (m143 a0 46)) ∧ (m143 212 (m143 a0 46)) ≤ 63 := zi_rd hIm143 zq_212 (zb_121 _)
                  refine zw_some ?_
                  have r149 : 0 ≤ (m143 a0 21) ∧ (m143 a0 21) ≤ 64 := zi_rd hIm143 hc0 zb_28_21
                  have e150 : (m143 a0 21) = (mh a0 21) := (Eq.trans (zs_ne hmm143 (Or.inr (by decide))) (zs_ne hmm132 (Or.inr (by decide))))
                  refine zw_bd (zw_mono (zk_110 n hIm143 hc0 ⟨by omega, by omega⟩ ⟨by omega, by omega⟩ ⟨by omega, by omega⟩ (by omega) (by omega) (by omega) (by omega) (by omega) hRKNm143) (fun v152 m151 hqm151 => ?_))
                  obtain ⟨hIm151, hfm151, hvm151⟩ := hqm151
                  have hFm151 := zfr_tr hFm143 hfm151 rfl
                  obtain ⟨hRKNm151, hvm151⟩ := hvm151
                  have g153 := zwt_fr (zdis_fr hfm151 rfl)
                  have g154 := zwt_bd hIm151 hc0
                  have r155 : 0 ≤ (m151 a0 45) ∧ (m151 a0 45) ≤ 96 := zi_rd hIm151 hc0 zb_28_45
                  have e156 : (m151 a0 45) = (m132 a0 45) := (Eq.trans (zfr_ap hfm151 hc0 rfl) (zs_ne hmm143 (Or.inr (by decide))))
                  have hM : (m151 a0 45) * 1 + 0 < (k : Int) := by omega
                  exact zw_le (zu_forget (zu_lr_same (zu_lr_same (zu_lr_drop (zu_lr_drop (zu_lr_drop zu_lr_nil)))))) (ih  m151 hIm151 hFm151 ⟨by omega, by omega⟩ (by omega) (by omega) (by omega) (by omega) hRKNm151 hM)
          · refine zw_some ?_
            refine zw_ite (fun h157 => ?_) (fun h157 => ?_)
            · exact zw_some ⟨hImh, hFmh, hRKNmh, trivial, by omega, by omega, by omega, by omega, by omega⟩
            · generalize hmm158 : zu_up mh a0 45 (zu_w32 ((mh a0 45) - 1)) = m158
              have hIm158 := zi_up hmm158 hImh hc0 zb_28_45 (by omega) (by omega)
              have hFm158 := zfr_up hmm158 hFmh hc0 rfl
              have hRKNm158 := zR_KN_fr (zdis_fr (zfr_up hmm158 (zfr_rf [(28, 46)] _) hc0 rfl) rfl) hRKNmh
              have g159 := zwt_pop hmm158 hc0 (by omega) (by omega)
              have g160 := zwt_bd hIm158 hc0
              have r161 : 0 ≤ (m158 a0 45) ∧ (m158 a0 45) ≤ 96 := zi_rd hIm158 hc0 zb_28_45
              have e162 : (m158 a0 45) = (zu_w32 ((mh a0 45) - 1)) := (zs_eq hmm158)
              have s163 : m158 211 (m158 a0 45) = mh 211 (zu_w32 ((mh a0 45) - 1)) := by rw [zs_eq hmm158]; exact zs_ne hmm158 (Or.inl (zc_ne zq_211 hc0 (by decide)))
              have b164 : 0 ≤ (m158 a0 45) ∧ (m158 a0 45) < 96 := by omega
              refine zw_if b164 ?_
              refine zw_ite (fun h165 => ?_) (fun h165 => ?_)
              · refine zw_bd (zw_eq (zu_call_at (zt_T n) (zm_111 n) (zdp_111 n) _ _ _ _ _ rfl (zr_111_0 n _ _ a0 m158)) ?_)
                have r166 : 0 ≤ (m158 a0 46) ∧ (m158 a0 46) ≤ 96 := zi_rd hIm158 hc0 zb_28_46
                have e167 : (m158 a0 46) = (mh a0 46) := (zs_ne hmm158 (Or.inr (by decide)))
                have w168 := zu_w32_id (z := (m158 a0 46) - 1) (by omega) (by omega)
                generalize hmm169 : zu_up m158 a0 46 (zu_w32 ((m158 a0 46) - 1)) = m169
                have hIm169 := zi_up hmm169 hIm158 hc0 zb_28_46 (by omega) (by omega)
                have hFm169 := zfr_up hmm169 hFm158 hc0 rfl
                have g170 := zwt_fr (zdis_fr (zfr_up hmm169 (zfr_rf [(28, 47)] _) hc0 rfl) rfl)
                have hRKNm169 := zR_KN_fr (zdis_fr (zfr_up hmm169 (zfr_rf [(28, 47)] _) hc0 rfl) rfl) hRKNm158
                have r171 : 0 ≤ (m169 a0 46) ∧ (m169 a0 46) ≤ 96 := zi_rd hIm169 hc0 zb_28_46
                have e172 : (m169 a0 46) = (zu_w32 ((m158 a0 46) - 1)) := (zs_eq hmm169)
                have b173 : 0 ≤ (m169 a0 46) ∧ (m169 a0 46) < 96 := by omega
                refine zw_if b173 ?_
                have r174 : 0 ≤ (m169 212 (m169 a0 46)) ∧ (m169 212 (m169 a0 46)) ≤ 63 := zi_rd hIm169 zq_212 (zb_121 _)
                refine zw_some ?_
                refine zw_bd (zw_eq (zu_call_at (zt_T n) (zm_111 n) (zdp_111 n) _ _ _ _ _ rfl (zr_111_0 n _ _ a0 m169)) ?_)
                have w175 := zu_w32_id (z := (m169 a0 46) - 1) (by omega) (by omega)
                generalize hmm176 : zu_up m169 a0 46 (zu_w32 ((m169 a0 46) - 1)) = m176
                have hIm176 := zi_up hmm176 hIm169 hc0 zb_28_46 (by omega) (by omega)
                have hFm176 := zfr_up hmm176 hFm169 hc0 rfl
                have g177 := zwt_fr (zdis_fr (zfr_up hmm176 (zfr_rf [(28, 47)] _) hc0 rfl) rfl)
                have hRKNm176 := zR_KN_fr (zdis_fr (zfr_up hmm176 (zfr_rf [(28, 47)] _) hc0 rfl) rfl) hRKNm169
                have r178 : 0 ≤ (m176 a0 46) ∧ (m176 a0 46) ≤ 96 := zi_rd hIm176 hc0 zb_28_46
                have e179 : (m176 a0 46) = (zu_w32 ((m169 a0 46) - 1)) := (zs_eq hmm176)
                have b180 : 0 ≤ (m176 a0 46) ∧ (m176 a0 46) < 96 := by omega
                refine zw_if b180 ?_
                have r181 : 0 ≤ (m176 212 (m176 a0 46)) ∧ (m176 212 (m176 a0 46)) ≤ 63 := zi_rd hIm176 zq_212 (zb_121 _)
                refine zw_some ?_
                have r182 : 0 ≤ (m176 a0 21) ∧ (m176 a0 21) ≤ 64 := zi_rd hIm176 hc0 zb_28_21
                have e183 : (m176 a0 21) = (mh a0 21) := (Eq.trans (zs_ne hmm176 (Or.inr (by decide))) (Eq.trans (zs_ne hmm169 (Or.inr (by decide))) (zs_ne hmm158 (Or.inr (by decide)))))
                refine zw_bd (zw_mono (zk_110 n hIm176 hc0 ⟨by omega, by omega⟩ ⟨by omega, by omega⟩ ⟨by omega, by omega⟩ (by omega) (by omega) (by omega) (by omega) (by omega) hRKNm176) (fun v185 m184 hqm184 => ?_))
                obtain ⟨hIm184, hfm184, hvm184⟩ := hqm184
                have hFm184 := zfr_tr hFm176 hfm184 rfl
                obtain ⟨hRKNm184, hvm184⟩ := hvm184
                have g186 := zwt_fr (zdis_fr hfm184 rfl)
                have g187 := zwt_bd hIm184 hc0
                have r188 : 0 ≤ (m184 a0 45) ∧ (m184 a0 45) ≤ 96 := zi_rd hIm184 hc0 zb_28_45
                have e189 : (m184 a0 45) = (m158 a0 45) := (Eq.trans (zfr_ap hfm184 hc0 rfl) (Eq.trans (zs_ne hmm176 (Or.inr (by decide))) (zs_ne hmm169 (Or.inr (by decide)))))
                have hM : (m184 a0 45) * 1 + 0 < (k : Int) := by omega
                exact zw_le (zu_forget (zu_lr_same (zu_lr_same (zu_lr_drop (zu_lr_drop (zu_lr_drop zu_lr_nil)))))) (ih  m184 hIm184 hFm184 ⟨by omega, by omega⟩ (by omega) (by omega) (by omega) (by omega) hRKNm184 hM)
              · exfalso; omega
        · refine zw_some ?_
          refine zw_ite (fun h190 => ?_) (fun h190 => ?_)
          · exact zw_some ⟨hImh, hFmh, hRKNmh, trivial, by omega, by omega, by omega, by omega, by omega⟩
          · generalize hmm191 : zu_up mh a0 45 (zu_w32 ((mh a0 45) - 1)) = m191
            have hIm191 := zi_up hmm191 hImh hc0 zb_28_45 (by omega) (by omega)
            have hFm191 := zfr_up hmm191 hFmh hc0 rfl
            have hRKNm191 := zR_KN_fr (zdis_fr (zfr_up hmm191 (zfr_rf [(28, 46)] _) hc0 rfl) rfl) hRKNmh
            have g192 := zwt_pop hmm191 hc0 (by omega) (by omega)
            have g193 := zwt_bd hIm191 hc0
            have r194 : 0 ≤ (m191 a0 45) ∧ (m191 a0 45) ≤ 96 := zi_rd hIm191 hc0 zb_28_45
            have e195 : (m191 a0 45) = (zu_w32 ((mh a0 45) - 1)) := (zs_eq hmm191)
            have s196 : m191 211 (m191 a0 45) = mh 211 (zu_w32 ((mh a0 45) - 1)) := by rw [zs_eq hmm191]; exact zs_ne hmm191 (Or.inl (zc_ne zq_211 hc0 (by decide)))
            have b197 : 0 ≤ (m191 a0 45) ∧ (m191 a0 45) < 96 := by omega
            refine zw_if b197 ?_
            refine zw_ite (fun h198 => ?_) (fun h198 => ?_)
            · refine zw_bd (zw_eq (zu_call_at (zt_T n) (zm_111 n) (zdp_111 n) _ _ _ _ _ rfl (zr_111_0 n _ _ a0 m191)) ?_)
              have r199 : 0 ≤ (m191 a0 46) ∧ (m191 a0 46) ≤ 96 := zi_rd hIm191 hc0 zb_28_46
              have e200 : (m191 a0 46) = (mh a0 46) := (zs_ne hmm191 (Or.inr (by decide)))
              have w201 := zu_w32_id (z := (m191 a0 46) - 1) (by omega) (by omega)
              generalize hmm202 : zu_up m191 a0 46 (zu_w32 ((m191 a0 46) - 1)) = m202
              have hIm202 := zi_up hmm202 hIm191 hc0 zb_28_46 (by omega) (by omega)
              have hFm202 := zfr_up hmm202 hFm191 hc0 rfl
              have g203 := zwt_fr (zdis_fr (zfr_up hmm202 (zfr_rf [(28, 47)] _) hc0 rfl) rfl)
              have hRKNm202 := zR_KN_fr (zdis_fr (zfr_up hmm202 (zfr_rf [(28, 47)] _) hc0 rfl) rfl) hRKNm191
              have r204 : 0 ≤ (m202 a0 46) ∧ (m202 a0 46) ≤ 96 := zi_rd hIm202 hc0 zb_28_46
              have e205 : (m202 a0 46) = (zu_w32 ((m191 a0 46) - 1)) := (zs_eq hmm202)
              have b206 : 0 ≤ (m202 a0 46) ∧ (m202 a0 46) < 96 := by omega
              refine zw_if b206 ?_
              have r207 : 0 ≤ (m202 212 (m202 a0 46)) ∧ (m202 212 (m202 a0 46)) ≤ 63 := zi_rd hIm202 zq_212 (zb_121 _)
              refine zw_some ?_
              refine zw_bd (zw_eq (zu_call_at (zt_T n) (zm_111 n) (zdp_111 n) _ _ _ _ _ rfl (zr_111_0 n _ _ a0 m202)) ?_)
              have w208 := zu_w32_id (z := (m202 a0 46) - 1) (by omega) (by omega)
              generalize hmm209 : zu_up m202 a0 46 (zu_w32 ((m202 a0 46) - 1)) = m209
              have hIm209 := zi_up hmm209 hIm202 hc0 zb_28_46 (by omega) (by omega)
              have hFm209 := zfr_up hmm209 hFm202 hc0 rfl
              have g210 := zwt_fr (zdis_fr (zfr_up hmm209 (zfr_rf [(28, 47)] _) hc0 rfl) rfl)
              have hRKNm209 := zR_KN_fr (zdis_fr (zfr_up hmm209 (zfr_rf [(28, 47)] _) hc0 rfl) rfl) hRKNm202
              have r211 : 0 ≤ (m209 a0 46) ∧ (m209 a0 46) ≤ 96 := zi_rd hIm209 hc0 zb_28_46
              have e212 : (m209 a0 46) = (zu_w32 ((m202 a0 46) - 1)) := (zs_eq hmm209)
              have b213 : 0 ≤ (m209 a0 46) ∧ (m209 a0 46) < 96 := by omega
              refine zw_if b213 ?_
              have r214 : 0 ≤ (m209 212 (m209 a0 46)) ∧ (m209 212 (m209 a0 46)) ≤ 63 := zi_rd hIm209 zq_212 (zb_121 _)
              refine zw_some ?_
              have r215 : 0 ≤ (m209 a0 21) ∧ (m209 a0 21) ≤ 64 := zi_rd hIm209 hc0 zb_28_21
              have e216 : (m209 a0 21) = (mh a0 21) := (Eq.trans (zs_ne hmm209 (Or.inr (by decide))) (Eq.trans (zs_ne hmm202 (Or.inr (by decide))) (zs_ne hmm191 (Or.inr (by decide)))))
              refine zw_bd (zw_mono (zk_110 n hIm209 hc0 ⟨by omega, by omega⟩ ⟨by omega, by omega⟩ ⟨by omega, by omega⟩ (by omega) (by omega) (by omega) (by omega) (by omega) hRKNm209) (fun v218 m217 hqm217 => ?_))
              obtain ⟨hIm217, hfm217, hvm217⟩ := hqm217
              have hFm217 := zfr_tr hFm209 hfm217 rfl
              obtain ⟨hRKNm217, hvm217⟩ := hvm217
              have g219 := zwt_fr (zdis_fr hfm217 rfl)
              have g220 := zwt_bd hIm217 hc0
              have r221 : 0 ≤ (m217 a0 45) ∧ (m217 a0 45) ≤ 96 := zi_rd hIm217 hc0 zb_28_45
              have e222 : (m217 a0 45) = (m191 a0 45) := (Eq.trans (zfr_ap hfm217 hc0 rfl) (Eq.trans (zs_ne hmm209 (Or.inr (by decide))) (zs_ne hmm202 (Or.inr (by decide)))))
              have hM : (m217 a0 45) * 1 + 0 < (k : Int) := by omega
              exact zw_le (zu_forget (zu_lr_same (zu_lr_same (zu_lr_drop (zu_lr_drop (zu_lr_drop zu_lr_nil)))))) (ih  m217 hIm217 hFm217 ⟨by omega, by omega⟩ (by omega) (by omega) (by omega) (by omega) hRKNm217 hM)
            · exfalso; omega
      · refine zw_some ?_
        refine zw_ite (fun h223 => ?_) (fun h223 => ?_)
        · exfalso; omega
        · generalize hmm224 : zu_up mh a0 45 (zu_w32 ((mh a0 45) - 1)) = m224
          have hIm224 := zi_up hmm224 hImh hc0 zb_28_45 (by omega) (by omega)
          have hFm224 := zfr_up hmm224 hFmh hc0 rfl
          have hRKNm224 := zR_KN_fr (zdis_fr (zfr_up hmm224 (zfr_rf [(28, 46)] _) hc0 rfl) rfl) hRKNmh
          have g225 := zwt_pop hmm224 hc0 (by omega) (by omega)
          have g226 := zwt_bd hIm224 hc0
          have r227 : 0 ≤ (m224 a0 45) ∧ (m224 a0 45) ≤ 96 := zi_rd hIm224 hc0 zb_28_45
          have e228 : (m224 a0 45) = (zu_w32 ((mh a0 45) - 1)) := (zs_eq hmm224)
          have s229 : m224 211 (m224 a0 45) = mh 211 (zu_w32 ((mh a0 45) - 1)) := by rw [zs_eq hmm224]; exact zs_ne hmm224 (Or.inl (zc_ne zq_211 hc0 (by decide)))
          have b230 : 0 ≤ (m224 a0 45) ∧ (m224 a0 45) < 96 := by omega
          refine zw_if b230 ?_
          refine zw_ite (fun h231 => ?_) (fun h231 => ?_)
          · refine zw_bd (zw_eq (zu_call_at (zt_T n) (zm_111 n) (zdp_111 n) _ _ _ _ _ rfl (zr_111_0 n _ _ a0 m224)) ?_)
            have r232 : 0 ≤ (m224 a0 46) ∧ (m224 a0 46) ≤ 96 := zi_rd hIm224 hc0 zb_28_46
            have e233 : (m224 a0 46) = (mh a0 46) := (zs_ne hmm224 (Or.inr (by decide)))
            have w234 := zu_w32_id (z := (m224 a0 46) - 1) (by omega) (by omega)
            generalize hmm235 : zu_up m224 a0 46 (zu_w32 ((m224 a0 46) - 1)) = m235
            have hIm235 := zi_up hmm235 hIm224 hc0 zb_28_46 (by omega) (by omega)
            have hFm235 := zfr_up hmm235 hFm224 hc0 rfl
            have g236 := zwt_fr (zdis_fr (zfr_up hmm235 (zfr_rf [(28, 47)] _) hc0 rfl) rfl)
            have hRKNm235 := zR_KN_fr (zdis_fr (zfr_up hmm235 (zfr_rf [(28, 47)] _) hc0 rfl) rfl) hRKNm224
            have r237 : 0 ≤ (m235 a0 46) ∧ (m235 a0 46) ≤ 96 := zi_rd hIm235 hc0 zb_28_46
            have e238 : (m235 a0 46) = (zu_w32 ((m224 a0 46) - 1)) := (zs_eq hmm235)
            have b239 : 0 ≤ (m235 a0 46) ∧ (m235 a0 46) < 96 := by omega
            refine zw_if b239 ?_
            have r240 : 0 ≤ (m235 212 (m235 a0 46)) ∧ (m235 212 (m235 a0 46)) ≤ 63 := zi_rd hIm235 zq_212 (zb_121 _)
            refine zw_some ?_
            refine zw_bd (zw_eq (zu_call_at (zt_T n) (zm_111 n) (zdp_111 n) _ _ _ _ _ rfl (zr_111_0 n _ _ a0 m235)) ?_)
            have w241 := zu_w32_id (z := (m235 a0 46) - 1) (by omega) (by omega)
            generalize hmm242 : zu_up m235 a0 46 (zu_w32 ((m235 a0 46) - 1)) = m242
            have hIm242 := zi_up hmm242 hIm235 hc0 zb_28_46 (by omega) (by omega)
            have hFm242 := zfr_up hmm242 hFm235 hc0 rfl
            have g243 := zwt_fr (zdis_fr (zfr_up hmm242 (zfr_rf [(28, 47)] _) hc0 rfl) rfl)
            have hRKNm242 := zR_KN_fr (zdis_fr (zfr_up hmm242 (zfr_rf [(28, 47)] _) hc0 rfl) rfl) hRKNm235
            have r244 : 0 ≤ (m242 a0 46) ∧ (m242 a0 46) ≤ 96 := zi_rd hIm242 hc0 zb_28_46
            have e245 : (m242 a0 46) = (zu_w32 ((m235 a0 46) - 1)) := (zs_eq hmm242)
            have b246 : 0 ≤ (m242 a0 46) ∧ (m242 a0 46) < 96 := by omega
            refine zw_if b246 ?_
            have r247 : 0 ≤ (m242 212 (m242 a0 46)) ∧ (m242 212 (m242 a0 46)) ≤ 63 := zi_rd hIm242 zq_212 (zb_121 _)
            refine zw_some ?_
            have r248 : 0 ≤ (m242 a0 21) ∧ (m242 a0 21) ≤ 64 := zi_rd hIm242 hc0 zb_28_21
            have e249 : (m242 a0 21) = (mh a0 21) := (Eq.trans (zs_ne hmm242 (Or.inr (by decide))) (Eq.trans (zs_ne hmm235 (Or.inr (by decide))) (zs_ne hmm224 (Or.inr (by decide)))))
            refine zw_bd (zw_mono (zk_110 n hIm242 hc0 ⟨by omega, by omega⟩ ⟨by omega, by omega⟩ ⟨by omega, by omega⟩ (by omega) (by omega) (by omega) (by omega) (by omega) hRKNm242) (fun v251 m250 hqm250 => ?_))
            obtain ⟨hIm250, hfm250, hvm250⟩ := hqm250
            have hFm250 := zfr_tr hFm242 hfm250 rfl
            obtain ⟨hRKNm250, hvm250⟩ := hvm250
            have g252 := zwt_fr (zdis_fr hfm250 rfl)
            have g253 := zwt_bd hIm250 hc0
            have r254 : 0 ≤ (m250 a0 45) ∧ (m250 a0 45) ≤ 96 := zi_rd hIm250 hc0 zb_28_45
            have e255 : (m250 a0 45) = (m224 a0 45) := (Eq.trans (zfr_ap hfm250 hc0 rfl) (Eq.trans (zs_ne hmm242 (Or.inr (by decide))) (zs_ne hmm235 (Or.inr (by decide)))))
            have hM : (m250 a0 45) * 1 + 0 < (k : Int) := by omega
            exact zw_le (zu_forget (zu_lr_same (zu_lr_same (zu_lr_drop (zu_lr_drop (zu_lr_drop zu_lr_nil)))))) (ih  m250 hIm250 hFm250 ⟨by omega, by omega⟩ (by omega) (by omega) (by omega) (by omega) hRKNm250 hM)
          · exfalso; omega
set_option maxHeartbeats 4000000 in
theorem zk_112 (n : Nat) {a0 a1 : Int} {m0 : zu_m} (hIm0 : zi_I m0) (hc0 : zcls a0 = 28) (ha1 : 0 ≤ a1 ∧ a1 ≤ 6)   (hxp0 : (m0 a0 46) = zbi m0 + 1) (hxp1 : (m0 a0 21) + znz m0 ≤ 64) (hxp2 : 1 ≤ a1) (hRKNm0 : zR_KN m0) : zw (zu_call (zt_T n) 112 [(40, a0), (0, a1)] m0) (fun v m => zi_I m ∧ zfr [(28, 22), (28, 46), (28, 47), (117, 0), (118, 0), (119, 0), (121, 0)] m0 m ∧ zR_KN m ∧ True ∧ ((m a0 21) + znz m = (m0 a0 21) + znz m0) ∧ ((m a0 46) - zbi m = (m0 a0 46) - zbi m0) ∧ ((m a0 45) - znz m = (m0 a0 45) - znz m0) ∧ ((m0 a0 21) ≤ (m a0 21)) ∧ (a1 = 1 → ((m a0 45) = 0 ∨ m 211 (zu_w32 ((m a0 45) - 1)) < 2))) := by
  have hFm0 : zfr [(28, 22), (28, 46), (28, 47), (117, 0), (118, 0), (119, 0), (121, 0)] m0 m0 := zfr_rf _ _
  have r256 : 0 ≤ (m0 a0 21) ∧ (m0 a0 21) ≤ 64 := zi_rd hIm0 hc0 zb_28_21
  have r257 : 0 ≤ (m0 a0 46) ∧ (m0 a0 46) ≤ 96 := zi_rd hIm0 hc0 zb_28_46
  have r258 : 0 ≤ (m0 a0 45) ∧ (m0 a0 45) ≤ 96 := zi_rd hIm0 hc0 zb_28_45
  have g259 := zwt_bd hIm0 hc0
  show zw (zu_ex (zt_T n) 112 0 [(40, a0), (0, a1), (2, 0), (2, 0), (2, 0)] [] m0) _
  have hM : (m0 a0 45) * 1 + 0 < ((97 : Nat) : Int) := by omega
  exact (zl_112 n (m0 := m0) hc0 hxp0 hxp1 hxp2 97)  m0 hIm0 hFm0 ⟨by omega, by omega⟩ (by omega) (by omega) (by omega) (by omega) hRKNm0 hM

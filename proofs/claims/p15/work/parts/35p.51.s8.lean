/-! a text's morning begins at second 0, on both sides -/
theorem zs8_tr {W : List (Nat × Nat)} {m m' : zu_m} (h : m 19 8 = 0) (hf : zfr W m m') (hd : zdis W [(6, 9)] = true) : m' 19 8 = 0 := (zdis_fr hf hd 19 8 (by rw [zq_19]; rfl)).trans h
theorem zs8_ne {m m' : zu_m} {a p v : Int} {c : Nat} (hm : zu_up m a p v = m') (h : m 19 8 = 0) (hc : zcls a = c) (hn : 6 ≠ c) : m' 19 8 = 0 := (zs_ne hm (Or.inl (zc_ne zq_19 hc hn))).trans h
theorem zs8_i {m m' : zu_m} {p v : Int} (hm : zu_up m 19 p v = m') (h : m 19 8 = 0) (hp : p ≠ 8) : m' 19 8 = 0 := (zs_ne hm (Or.inr (fun q => hp q.symm))).trans h
theorem zs0_tr {W : List (Nat × Nat)} {m m' : zu_m} (h : m 221 0 = 0) (hf : zfr W m m') (hd : zdis W [(130, 0)] = true) : m' 221 0 = 0 := (zdis_fr hf hd 221 0 (by rw [zq_221]; rfl)).trans h
theorem zs0_ne {m m' : zu_m} {a p v : Int} {c : Nat} (hm : zu_up m a p v = m') (h : m 221 0 = 0) (hc : zcls a = c) (hn : 130 ≠ c) : m' 221 0 = 0 := (zs_ne hm (Or.inl (zc_ne zq_221 hc hn))).trans h
set_option maxHeartbeats 4000000 in
theorem zl_12k (n : Nat) {a0 a1 : Int} {m0 : zu_m} (hc0 : zcls a0 = 3)   : ∀ k : Nat, (∀ (x2 x3 : Int) (mh : zu_m), zi_I mh → zfr [(3, 5), (3, 6), (3, 7), (3, 8), (3, 9), (3, 10), (3, 11), (4, 1), (4, 2), (4, 3), (4, 4), (4, 5), (4, 6), (5, 6), (5, 7), (6, 3), (6, 5), (6, 9), (6, 10), (6, 11), (6, 12), (7, 1), (7, 2), (7, 3), (7, 4), (8, 1), (8, 2), (8, 3), (8, 4), (8, 5), (8, 6), (8, 7), (9, 3), (9, 4), (9, 5), (9, 6), (9, 7), (10, 4), (10, 5), (10, 7), (10, 8), (30, 0), (31, 0), (32, 0), (33, 0), (34, 0), (35, 0), (36, 0), (43, 0), (44, 0), (47, 0), (48, 0)] m0 mh → mh 19 8 = 0 → (0 ≤ a1 ∧ a1 ≤ 700) → ((-2147483648) ≤ x2 ∧ x2 ≤ 2147483647) → (0 ≤ x3 ∧ x3 ≤ 701) → (0 ≤ mh 19 9 ∧ mh 19 9 ≤ 0) → (zR_BN mh) → ((mh 5 6 = 0 → mh 19 4 = 0)) → (zE mh 19 6) → ((mh 6 2 = mh 6 0 * mh 6 1)) → (zR_K10 mh) → (701 - x3) * 1 + 0 < (k : Int) → zw (zu_ex (zt_T n) 12 51 [(7, a0), (0, a1), (0, x2), (0, x3)] [] mh) (fun v m => zi_I m ∧ zfr [(3, 5), (3, 6), (3, 7), (3, 8), (3, 9), (3, 10), (3, 11), (4, 1), (4, 2), (4, 3), (4, 4), (4, 5), (4, 6), (5, 6), (5, 7), (6, 3), (6, 5), (6, 9), (6, 10), (6, 11), (6, 12), (7, 1), (7, 2), (7, 3), (7, 4), (8, 1), (8, 2), (8, 3), (8, 4), (8, 5), (8, 6), (8, 7), (9, 3), (9, 4), (9, 5), (9, 6), (9, 7), (10, 4), (10, 5), (10, 7), (10, 8), (30, 0), (31, 0), (32, 0), (33, 0), (34, 0), (35, 0), (36, 0), (43, 0), (44, 0), (47, 0), (48, 0)] m0 m ∧ m 19 8 = 0 ∧ zR_BN m ∧ (m 5 6 = 0 → m 19 4 = 0) ∧ zE m 19 6 ∧ (m 6 2 = m 6 0 * m 6 1) ∧ zR_K10 m ∧ ((-2147483648) ≤ v ∧ v ≤ 2147483647) ∧ (0 ≤ m 19 9 ∧ m 19 9 ≤ 99999))) := by
  intro k
  induction k with
  | zero => exact fun x2 x3 mh hImh hFmh hLmh hba1 hbx2 hbx3 hg3 hRBNmh hRCTmh hRE19mh hRG6mh hRK10mh hM => by exfalso; omega
  | succ k ih =>
    intro x2 x3 mh hImh hFmh hLmh hba1 hbx2 hbx3 hg3 hRBNmh hRCTmh hRE19mh hRG6mh hRK10mh hM
    refine zw_eq (zu_rega_at (zt_T n) (zm_12 n) (zdp_12 n) _ _ _ _ _ _ (zr_12_51 n _ _ a0 a1 x2 x3 mh)) ?_
    refine zw_ite (fun h1 => ?_) (fun h1 => ?_)
    · have r2 : 0 ≤ (mh 6 5) ∧ (mh 6 5) ≤ 99999 := zi_rd hImh zq_6 zb_4_5
      generalize hmm3 : zu_up mh 19 9 (mh 6 5) = m3
      have hIm3 := zi_up hmm3 hImh zq_19 zb_6_9 (by omega) (by omega)
      have hFm3 := zfr_up hmm3 hFmh zq_19 rfl
      have hLm3 := zs8_i hmm3 hLmh (by decide)
      have hRBNm3 := zR_BN_fr (zdis_fr (zfr_up hmm3 (zfr_rf [(6, 10)] _) zq_19 rfl) rfl) hRBNmh
      have hRCTm3 := zR_CT_fr (zdis_fr (zfr_up hmm3 (zfr_rf [(6, 10)] _) zq_19 rfl) rfl) hRCTmh
      have hRE19m3 := zR_E19_fr (zdis_fr (zfr_up hmm3 (zfr_rf [(6, 10)] _) zq_19 rfl) rfl) hRE19mh
      have hRG6m3 := zR_G6_fr (zdis_fr (zfr_up hmm3 (zfr_rf [(6, 10)] _) zq_19 rfl) rfl) hRG6mh
      have hRK10m3 := zR_K10_fr (zdis_fr (zfr_up hmm3 (zfr_rf [(6, 10)] _) zq_19 rfl) rfl) hRK10mh
      have r4 : (-2147483648) ≤ (m3 19 9) ∧ (m3 19 9) ≤ 2147483647 := zi_rd hIm3 zq_19 zb_6_9
      have e5 : (m3 19 9) = (mh 6 5) := (zs_eq hmm3)
      exact zw_some ⟨hIm3, hFm3, hLm3, hRBNm3, hRCTm3, hRE19m3, hRG6m3, hRK10m3, ⟨by omega, by omega⟩, ⟨by omega, by omega⟩⟩
    · refine zw_bd (zw_mono (zk_18 n hImh zq_45) (fun v7 m6 hqm6 => ?_))
      obtain ⟨hIm6, hfm6, hvm6⟩ := hqm6
      have hFm6 := zfr_tr hFmh hfm6 rfl
      have hLm6 := zs8_tr hLmh hfm6 rfl
      obtain ⟨hRTVm6, hvm6⟩ := hvm6
      have hRBNm6 := zR_BN_fr (zdis_fr hfm6 rfl) hRBNmh
      have hRCTm6 := zR_CT_fr (zdis_fr hfm6 rfl) hRCTmh
      have hRE19m6 := zR_E19_fr (zdis_fr hfm6 rfl) hRE19mh
      have hRG6m6 := zR_G6_fr (zdis_fr hfm6 rfl) hRG6mh
      have hRK10m6 := zR_K10_fr (zdis_fr hfm6 rfl) hRK10mh
      have s8 := hRTVm6 45 zq_45
      have r9 : 0 ≤ (m6 45 4) ∧ (m6 45 4) ≤ 5 := zi_rd hIm6 zq_45 zb_9_4
      refine zw_ite (fun h10 => ?_) (fun h10 => ?_)
      · have r11 : 0 ≤ (m6 6 5) ∧ (m6 6 5) ≤ 99999 := zi_rd hIm6 zq_6 zb_4_5
        generalize hmm12 : zu_up m6 19 9 (m6 6 5) = m12
        have hIm12 := zi_up hmm12 hIm6 zq_19 zb_6_9 (by omega) (by omega)
        have hFm12 := zfr_up hmm12 hFm6 zq_19 rfl
        have hLm12 := zs8_i hmm12 hLm6 (by decide)
        have hRBNm12 := zR_BN_fr (zdis_fr (zfr_up hmm12 (zfr_rf [(6, 10)] _) zq_19 rfl) rfl) hRBNm6
        have hRCTm12 := zR_CT_fr (zdis_fr (zfr_up hmm12 (zfr_rf [(6, 10)] _) zq_19 rfl) rfl) hRCTm6
        have hRE19m12 := zR_E19_fr (zdis_fr (zfr_up hmm12 (zfr_rf [(6, 10)] _) zq_19 rfl) rfl) hRE19m6
        have hRG6m12 := zR_G6_fr (zdis_fr (zfr_up hmm12 (zfr_rf [(6, 10)] _) zq_19 rfl) rfl) hRG6m6
        have hRK10m12 := zR_K10_fr (zdis_fr (zfr_up hmm12 (zfr_rf [(6, 10)] _) zq_19 rfl) rfl) hRK10m6
        have hRTVm12 := zR_TV_fr (zdis_fr (zfr_up hmm12 (zfr_rf [(6, 10)] _) zq_19 rfl) rfl) hRTVm6
        have r13 : (-2147483648) ≤ (m12 19 9) ∧ (m12 19 9) ≤ 2147483647 := zi_rd hIm12 zq_19 zb_6_9
        have e14 : (m12 19 9) = (m6 6 5) := (zs_eq hmm12)
        exact zw_some ⟨hIm12, hFm12, hLm12, hRBNm12, hRCTm12, hRE19m12, hRG6m12, hRK10m12, ⟨by omega, by omega⟩, ⟨by omega, by omega⟩⟩
      · refine zw_bd (zw_mono (zk_258 n hIm6 hc0 ⟨by omega, by omega⟩ hRBNm6 hRCTm6 hRE19m6 hRG6m6 hRK10m6) (fun v16 m15 hqm15 => ?_))
        obtain ⟨hIm15, hfm15, hvm15⟩ := hqm15
        have hFm15 := zfr_tr hFm6 hfm15 rfl
        have hLm15 := zs8_tr hLm6 hfm15 rfl
        obtain ⟨hRBNm15, hRCTm15, hRE19m15, hRG6m15, hRK10m15, hvm15⟩ := hvm15
        refine zw_ite (fun h17 => ?_) (fun h17 => ?_)
        · have w18 := zu_w32_rg (x2 + 1)
          have w19 := zu_w32_id (z := x3 + 1) (by omega) (by omega)
          have r20 : (-2147483648) ≤ (m15 19 9) ∧ (m15 19 9) ≤ 2147483647 := zi_rd hIm15 zq_19 zb_6_9
          have e21 : (m15 19 9) = (mh 19 9) := (Eq.trans (zfr_ap hfm15 zq_19 rfl) (zfr_ap hfm6 zq_19 rfl))
          have hM : (701 - (zu_w32 (x3 + 1))) * 1 + 0 < (k : Int) := by omega
          exact ih (zu_w32 (x2 + 1)) (zu_w32 (x3 + 1)) m15 hIm15 hFm15 hLm15 ⟨by omega, by omega⟩ ⟨by omega, by omega⟩ ⟨by omega, by omega⟩ ⟨by omega, by omega⟩ hRBNm15 hRCTm15 hRE19m15 hRG6m15 hRK10m15 hM
        · have r22 : 0 ≤ (m15 6 5) ∧ (m15 6 5) ≤ 99999 := zi_rd hIm15 zq_6 zb_4_5
          generalize hmm23 : zu_up m15 19 9 (m15 6 5) = m23
          have hIm23 := zi_up hmm23 hIm15 zq_19 zb_6_9 (by omega) (by omega)
          have hFm23 := zfr_up hmm23 hFm15 zq_19 rfl
          have hLm23 := zs8_i hmm23 hLm15 (by decide)
          have hRBNm23 := zR_BN_fr (zdis_fr (zfr_up hmm23 (zfr_rf [(6, 10)] _) zq_19 rfl) rfl) hRBNm15
          have hRCTm23 := zR_CT_fr (zdis_fr (zfr_up hmm23 (zfr_rf [(6, 10)] _) zq_19 rfl) rfl) hRCTm15
          have hRE19m23 := zR_E19_fr (zdis_fr (zfr_up hmm23 (zfr_rf [(6, 10)] _) zq_19 rfl) rfl) hRE19m15
          have hRG6m23 := zR_G6_fr (zdis_fr (zfr_up hmm23 (zfr_rf [(6, 10)] _) zq_19 rfl) rfl) hRG6m15
          have hRK10m23 := zR_K10_fr (zdis_fr (zfr_up hmm23 (zfr_rf [(6, 10)] _) zq_19 rfl) rfl) hRK10m15
          have r24 : (-2147483648) ≤ (m23 19 9) ∧ (m23 19 9) ≤ 2147483647 := zi_rd hIm23 zq_19 zb_6_9
          have e25 : (m23 19 9) = (m15 6 5) := (zs_eq hmm23)
          exact zw_some ⟨hIm23, hFm23, hLm23, hRBNm23, hRCTm23, hRE19m23, hRG6m23, hRK10m23, ⟨by omega, by omega⟩, ⟨by omega, by omega⟩⟩
set_option maxHeartbeats 4000000 in
theorem zk_12k (n : Nat) {a0 a1 : Int} {m0 : zu_m} (hIm0 : zi_I m0) (hc0 : zcls a0 = 3) (ha1 : 0 ≤ a1 ∧ a1 ≤ 700)    (hRBNm0 : zR_BN m0) (hRK10m0 : zR_K10 m0) : zw (zu_call (zt_T n) 12 [(7, a0), (0, a1)] m0) (fun v m => zi_I m ∧ zfr [(3, 5), (3, 6), (3, 7), (3, 8), (3, 9), (3, 10), (3, 11), (4, 1), (4, 2), (4, 3), (4, 4), (4, 5), (4, 6), (5, 6), (5, 7), (6, 3), (6, 5), (6, 9), (6, 10), (6, 11), (6, 12), (7, 1), (7, 2), (7, 3), (7, 4), (8, 1), (8, 2), (8, 3), (8, 4), (8, 5), (8, 6), (8, 7), (9, 3), (9, 4), (9, 5), (9, 6), (9, 7), (10, 4), (10, 5), (10, 7), (10, 8), (30, 0), (31, 0), (32, 0), (33, 0), (34, 0), (35, 0), (36, 0), (43, 0), (44, 0), (47, 0), (48, 0)] m0 m ∧ m 19 8 = 0 ∧ zR_BN m ∧ (m 5 6 = 0 → m 19 4 = 0) ∧ zE m 19 6 ∧ (m 6 2 = m 6 0 * m 6 1) ∧ zR_K10 m ∧ ((-2147483648) ≤ v ∧ v ≤ 2147483647) ∧ (0 ≤ m 19 9 ∧ m 19 9 ≤ 99999)) := by
  have hFm0 : zfr [(3, 5), (3, 6), (3, 7), (3, 8), (3, 9), (3, 10), (3, 11), (4, 1), (4, 2), (4, 3), (4, 4), (4, 5), (4, 6), (5, 6), (5, 7), (6, 3), (6, 5), (6, 9), (6, 10), (6, 11), (6, 12), (7, 1), (7, 2), (7, 3), (7, 4), (8, 1), (8, 2), (8, 3), (8, 4), (8, 5), (8, 6), (8, 7), (9, 3), (9, 4), (9, 5), (9, 6), (9, 7), (10, 4), (10, 5), (10, 7), (10, 8), (30, 0), (31, 0), (32, 0), (33, 0), (34, 0), (35, 0), (36, 0), (43, 0), (44, 0), (47, 0), (48, 0)] m0 m0 := zfr_rf _ _
  refine zw_eq (zu_call_at (zt_T n) (zm_12 n) (zdp_12 n) _ _ _ _ _ rfl (zr_12_0 n _ _ a0 a1 m0)) ?_
  refine zw_bd (zw_mono (zk_13 n hIm0 zq_6) (fun v27 m26 hqm26 => ?_))
  obtain ⟨hIm26, hfm26, hvm26⟩ := hqm26
  have hFm26 := zfr_tr hFm0 hfm26 rfl
  obtain ⟨hRG6m26, hvm26⟩ := hvm26
  have hRBNm26 := zR_BN_fr (zdis_fr hfm26 rfl) hRBNm0
  have hRK10m26 := zR_K10_fr (zdis_fr hfm26 rfl) hRK10m0
  refine zw_bd (zw_mono (zk_16 n hIm26 zq_19) (fun v29 m28 hqm28 => ?_))
  obtain ⟨hIm28, hfm28, hvm28⟩ := hqm28
  have hFm28 := zfr_tr hFm26 hfm28 rfl
  obtain ⟨hRE19m28, hvm28⟩ := hvm28
  have hLm28 : m28 19 8 = 0 := zle2 hvm28.2.2.2.2.2.1
  have hRBNm28 := zR_BN_fr (zdis_fr hfm28 rfl) hRBNm26
  have hRG6m28 := zR_G6_fr (zdis_fr hfm28 rfl) hRG6m26
  have hRK10m28 := zR_K10_fr (zdis_fr hfm28 rfl) hRK10m26
  generalize hmm30 : zu_up m28 a0 4 0 = m30
  have hIm30 := zi_up hmm30 hIm28 hc0 zb_3_4 (by omega) (by omega)
  have hFm30 := zfr_up hmm30 hFm28 hc0 rfl
  have hLm30 := zs8_ne hmm30 hLm28 hc0 (by decide)
  have hRBNm30 := zR_BN_fr (zdis_fr (zfr_up hmm30 (zfr_rf [(3, 5)] _) hc0 rfl) rfl) hRBNm28
  have hRE19m30 := zR_E19_fr (zdis_fr (zfr_up hmm30 (zfr_rf [(3, 5)] _) hc0 rfl) rfl) hRE19m28
  have hRG6m30 := zR_G6_fr (zdis_fr (zfr_up hmm30 (zfr_rf [(3, 5)] _) hc0 rfl) rfl) hRG6m28
  have hRK10m30 := zR_K10_fr (zdis_fr (zfr_up hmm30 (zfr_rf [(3, 5)] _) hc0 rfl) rfl) hRK10m28
  generalize hmm31 : zu_up m30 a0 5 0 = m31
  have hIm31 := zi_up hmm31 hIm30 hc0 zb_3_5 (by omega) (by omega)
  have hFm31 := zfr_up hmm31 hFm30 hc0 rfl
  have hLm31 := zs8_ne hmm31 hLm30 hc0 (by decide)
  have hRBNm31 := zR_BN_fr (zdis_fr (zfr_up hmm31 (zfr_rf [(3, 6)] _) hc0 rfl) rfl) hRBNm30
  have hRE19m31 := zR_E19_fr (zdis_fr (zfr_up hmm31 (zfr_rf [(3, 6)] _) hc0 rfl) rfl) hRE19m30
  have hRG6m31 := zR_G6_fr (zdis_fr (zfr_up hmm31 (zfr_rf [(3, 6)] _) hc0 rfl) rfl) hRG6m30
  have hRK10m31 := zR_K10_fr (zdis_fr (zfr_up hmm31 (zfr_rf [(3, 6)] _) hc0 rfl) rfl) hRK10m30
  refine zw_b (by omega) ?_
  generalize hmm32 : zu_up m31 a0 6 0 = m32
  have hIm32 := zi_up hmm32 hIm31 hc0 zb_3_6 (by omega) (by omega)
  have hFm32 := zfr_up hmm32 hFm31 hc0 rfl
  have hLm32 := zs8_ne hmm32 hLm31 hc0 (by decide)
  have hRBNm32 := zR_BN_fr (zdis_fr (zfr_up hmm32 (zfr_rf [(3, 7)] _) hc0 rfl) rfl) hRBNm31
  have hRE19m32 := zR_E19_fr (zdis_fr (zfr_up hmm32 (zfr_rf [(3, 7)] _) hc0 rfl) rfl) hRE19m31
  have hRG6m32 := zR_G6_fr (zdis_fr (zfr_up hmm32 (zfr_rf [(3, 7)] _) hc0 rfl) rfl) hRG6m31
  have hRK10m32 := zR_K10_fr (zdis_fr (zfr_up hmm32 (zfr_rf [(3, 7)] _) hc0 rfl) rfl) hRK10m31
  have r33 : 0 ≤ (m32 19 4) ∧ (m32 19 4) ≤ 4 := zi_rd hIm32 zq_19 zb_6_4
  have e34 : (m32 19 4) = (m28 19 4) := (Eq.trans (zs_ne hmm32 (Or.inl (zc_ne zq_19 hc0 (by decide)))) (Eq.trans (zs_ne hmm31 (Or.inl (zc_ne zq_19 hc0 (by decide)))) (zs_ne hmm30 (Or.inl (zc_ne zq_19 hc0 (by decide))))))
  have hRCTm32 : (m32 5 6 = 0 → m32 19 4 = 0) := fun _ => by omega
  generalize hmm35 : zu_up m32 a0 9 0 = m35
  have hIm35 := zi_up hmm35 hIm32 hc0 zb_3_9 (by omega) (by omega)
  have hFm35 := zfr_up hmm35 hFm32 hc0 rfl
  have hLm35 := zs8_ne hmm35 hLm32 hc0 (by decide)
  have hRBNm35 := zR_BN_fr (zdis_fr (zfr_up hmm35 (zfr_rf [(3, 10)] _) hc0 rfl) rfl) hRBNm32
  have hRCTm35 := zR_CT_fr (zdis_fr (zfr_up hmm35 (zfr_rf [(3, 10)] _) hc0 rfl) rfl) hRCTm32
  have hRE19m35 := zR_E19_fr (zdis_fr (zfr_up hmm35 (zfr_rf [(3, 10)] _) hc0 rfl) rfl) hRE19m32
  have hRG6m35 := zR_G6_fr (zdis_fr (zfr_up hmm35 (zfr_rf [(3, 10)] _) hc0 rfl) rfl) hRG6m32
  have hRK10m35 := zR_K10_fr (zdis_fr (zfr_up hmm35 (zfr_rf [(3, 10)] _) hc0 rfl) rfl) hRK10m32
  generalize hmm36 : zu_up m35 a0 10 (-1) = m36
  have hIm36 := zi_up hmm36 hIm35 hc0 zb_3_10 (by omega) (by omega)
  have hFm36 := zfr_up hmm36 hFm35 hc0 rfl
  have hLm36 := zs8_ne hmm36 hLm35 hc0 (by decide)
  have hRBNm36 := zR_BN_fr (zdis_fr (zfr_up hmm36 (zfr_rf [(3, 11)] _) hc0 rfl) rfl) hRBNm35
  have hRCTm36 := zR_CT_fr (zdis_fr (zfr_up hmm36 (zfr_rf [(3, 11)] _) hc0 rfl) rfl) hRCTm35
  have hRE19m36 := zR_E19_fr (zdis_fr (zfr_up hmm36 (zfr_rf [(3, 11)] _) hc0 rfl) rfl) hRE19m35
  have hRG6m36 := zR_G6_fr (zdis_fr (zfr_up hmm36 (zfr_rf [(3, 11)] _) hc0 rfl) rfl) hRG6m35
  have hRK10m36 := zR_K10_fr (zdis_fr (zfr_up hmm36 (zfr_rf [(3, 11)] _) hc0 rfl) rfl) hRK10m35
  refine zw_bd (zw_mono (zk_17 n hIm36 zq_45 ⟨by omega, by omega⟩) (fun v38 m37 hqm37 => ?_))
  obtain ⟨hIm37, hfm37, hvm37⟩ := hqm37
  have hFm37 := zfr_tr hFm36 hfm37 rfl
  have hLm37 := zs8_tr hLm36 hfm37 rfl
  have hRBNm37 := zR_BN_fr (zdis_fr hfm37 rfl) hRBNm36
  have hRCTm37 := zR_CT_fr (zdis_fr hfm37 rfl) hRCTm36
  have hRE19m37 := zR_E19_fr (zdis_fr hfm37 rfl) hRE19m36
  have hRG6m37 := zR_G6_fr (zdis_fr hfm37 rfl) hRG6m36
  have hRK10m37 := zR_K10_fr (zdis_fr hfm37 rfl) hRK10m36
  have r39 : (-2147483648) ≤ (m37 19 9) ∧ (m37 19 9) ≤ 2147483647 := zi_rd hIm37 zq_19 zb_6_9
  have e40 : (m37 19 9) = (m28 19 9) := (Eq.trans (zfr_ap hfm37 zq_19 rfl) (Eq.trans (zs_ne hmm36 (Or.inl (zc_ne zq_19 hc0 (by decide)))) (Eq.trans (zs_ne hmm35 (Or.inl (zc_ne zq_19 hc0 (by decide)))) (Eq.trans (zs_ne hmm32 (Or.inl (zc_ne zq_19 hc0 (by decide)))) (Eq.trans (zs_ne hmm31 (Or.inl (zc_ne zq_19 hc0 (by decide)))) (zs_ne hmm30 (Or.inl (zc_ne zq_19 hc0 (by decide)))))))))
  have hM : (701 - 0) * 1 + 0 < ((702 : Nat) : Int) := by omega
  exact (zl_12k n (m0 := m0) hc0 702) 0 0 m37 hIm37 hFm37 hLm37 ⟨by omega, by omega⟩ ⟨by omega, by omega⟩ ⟨by omega, by omega⟩ ⟨by omega, by omega⟩ hRBNm37 hRCTm37 hRE19m37 hRG6m37 hRK10m37 hM
set_option maxHeartbeats 4000000 in
theorem zl_33k (n : Nat) {a0 : Int} {m0 : zu_m} (hc0 : zcls a0 = 28)   : ∀ k : Nat, (∀ (x1 : Int) (mh : zu_m), zi_I mh → zfr [(28, 54), (28, 63), (28, 64), (28, 65), (28, 66), (28, 67), (28, 68), (28, 69), (28, 70), (28, 78), (28, 79), (28, 82), (28, 84), (122, 0), (123, 0), (124, 0), (125, 0), (126, 0), (127, 0), (128, 0), (129, 0), (130, 0), (131, 0)] m0 mh → mh 221 0 = 0 → (0 ≤ x1 ∧ x1 ≤ 4) → ((-1) ≤ mh a0 62 ∧ mh a0 62 ≤ 99999) → ((-1) ≤ mh a0 63 ∧ mh a0 63 ≤ 99999) → (zR_C0 mh) → (zR_KN mh) → (zR_LT mh) → (zE1 mh 0) → (zR_TE mh) → (4 - x1) * 1 + 49 < (k : Int) → zw (zu_ex (zt_T n) 33 32 [(40, a0), (0, x1)] [] mh) (fun v m => zi_I m ∧ zfr [(28, 54), (28, 63), (28, 64), (28, 65), (28, 66), (28, 67), (28, 68), (28, 69), (28, 70), (28, 78), (28, 79), (28, 82), (28, 84), (122, 0), (123, 0), (124, 0), (125, 0), (126, 0), (127, 0), (128, 0), (129, 0), (130, 0), (131, 0)] m0 m ∧ m 221 0 = 0 ∧ zR_C0 m ∧ zR_KN m ∧ zR_LT m ∧ zR_RI m ∧ zR_RU m ∧ zE1 m 0 ∧ zR_TE m ∧ True ∧ ((-1) ≤ m a0 62 ∧ m a0 62 ≤ 99999) ∧ ((-1) ≤ m a0 63 ∧ m a0 63 ≤ 99999) ∧ (0 ≤ m a0 77 ∧ m a0 77 ≤ 0) ∧ ((-1) ≤ m a0 78 ∧ m a0 78 ≤ (-1)) ∧ (0 ≤ m a0 81 ∧ m a0 81 ≤ 0) ∧ (0 ≤ m a0 83 ∧ m a0 83 ≤ 0))) ∧ (∀ (x1 : Int) (mh : zu_m), zi_I mh → zfr [(28, 54), (28, 63), (28, 64), (28, 65), (28, 66), (28, 67), (28, 68), (28, 69), (28, 70), (28, 78), (28, 79), (28, 82), (28, 84), (122, 0), (123, 0), (124, 0), (125, 0), (126, 0), (127, 0), (128, 0), (129, 0), (130, 0), (131, 0)] m0 mh → mh 221 0 = 0 → (0 ≤ x1 ∧ x1 ≤ 48) → ((-1) ≤ mh a0 62 ∧ mh a0 62 ≤ 99999) → ((-1) ≤ mh a0 63 ∧ mh a0 63 ≤ 99999) → (zR_C0 mh) → (zR_KN mh) → (zR_LT mh) → (zE1 mh 0) → (zR_TE mh) → (48 - x1) * 1 + 0 < (k : Int) → zw (zu_ex (zt_T n) 33 52 [(40, a0), (0, x1)] [] mh) (fun v m => zi_I m ∧ zfr [(28, 54), (28, 63), (28, 64), (28, 65), (28, 66), (28, 67), (28, 68), (28, 69), (28, 70), (28, 78), (28, 79), (28, 82), (28, 84), (122, 0), (123, 0), (124, 0), (125, 0), (126, 0), (127, 0), (128, 0), (129, 0), (130, 0), (131, 0)] m0 m ∧ m 221 0 = 0 ∧ zR_C0 m ∧ zR_KN m ∧ zR_LT m ∧ zR_RI m ∧ zR_RU m ∧ zE1 m 0 ∧ zR_TE m ∧ True ∧ ((-1) ≤ m a0 62 ∧ m a0 62 ≤ 99999) ∧ ((-1) ≤ m a0 63 ∧ m a0 63 ≤ 99999) ∧ (0 ≤ m a0 77 ∧ m a0 77 ≤ 0) ∧ ((-1) ≤ m a0 78 ∧ m a0 78 ≤ (-1)) ∧ (0 ≤ m a0 81 ∧ m a0 81 ≤ 0) ∧ (0 ≤ m a0 83 ∧ m a0 83 ≤ 0))) := by
  intro k
  induction k with
  | zero => exact ⟨fun x1 mh hImh hFmh hLmh hbx1 hg1 hg2 hRC0mh hRKNmh hRLTmh hRSEmh hRTEmh hM => by exfalso; omega, fun x1 mh hImh hFmh hLmh hbx1 hg1 hg2 hRC0mh hRKNmh hRLTmh hRSEmh hRTEmh hM => by exfalso; omega⟩
  | succ k ih =>
    refine ⟨?_, ?_⟩
    · intro x1 mh hImh hFmh hLmh hbx1 hg1 hg2 hRC0mh hRKNmh hRLTmh hRSEmh hRTEmh hM
      refine zw_eq (zu_rega_at (zt_T n) (zm_33 n) (zdp_33 n) _ _ _ _ _ _ (zr_33_32 n _ _ a0 x1 mh)) ?_
      refine zw_ite (fun h1 => ?_) (fun h1 => ?_)
      · have hM : (48 - 0) * 1 + 0 < (k : Int) := by omega
        exact ih.2 0 mh hImh hFmh hLmh ⟨by omega, by omega⟩ ⟨by omega, by omega⟩ ⟨by omega, by omega⟩ hRC0mh hRKNmh hRLTmh hRSEmh hRTEmh hM
      · have b2 : 0 ≤ x1 ∧ x1 < 4 := by omega
        refine zw_if b2 ?_
        generalize hmm3 : zu_up mh 219 x1 0 = m3
        have hIm3 := zi_up hmm3 hImh zq_219 (zb_128 _) (by omega) (by omega)
        have hFm3 := zfr_up hmm3 hFmh zq_219 rfl
        have hLm3 := zs0_ne hmm3 hLmh zq_219 (by decide)
        have hRC0m3 := zR_C0_fr (zdis_fr (zfr_up hmm3 (zfr_rf [(128, 0)] _) zq_219 rfl) rfl) hRC0mh
        have hRKNm3 := zR_KN_fr (zdis_fr (zfr_up hmm3 (zfr_rf [(128, 0)] _) zq_219 rfl) rfl) hRKNmh
        have hRLTm3 := zR_LT_fr (zdis_fr (zfr_up hmm3 (zfr_rf [(128, 0)] _) zq_219 rfl) rfl) hRLTmh
        have hRSEm3 := zR_SE_fr (zdis_fr (zfr_up hmm3 (zfr_rf [(128, 0)] _) zq_219 rfl) rfl) hRSEmh
        have hRTEm3 := zR_TE_fr (zdis_fr (zfr_up hmm3 (zfr_rf [(128, 0)] _) zq_219 rfl) rfl) hRTEmh
        have w4 := zu_w32_id (z := x1 + 1) (by omega) (by omega)
        have r5 : (-2147483648) ≤ (m3 a0 62) ∧ (m3 a0 62) ≤ 2147483647 := zi_rd hIm3 hc0 zb_28_62
        have e6 : (m3 a0 62) = (mh a0 62) := (zs_ne hmm3 (Or.inl (zc_ne hc0 zq_219 (by decide))))
        have r7 : (-9223372036854775808) ≤ (m3 a0 63) ∧ (m3 a0 63) ≤ 9223372036854775807 := zi_rd hIm3 hc0 zb_28_63
        have e8 : (m3 a0 63) = (mh a0 63) := (zs_ne hmm3 (Or.inl (zc_ne hc0 zq_219 (by decide))))
        have hM : (4 - (zu_w32 (x1 + 1))) * 1 + 49 < (k : Int) := by omega
        exact ih.1 (zu_w32 (x1 + 1)) m3 hIm3 hFm3 hLm3 ⟨by omega, by omega⟩ ⟨by omega, by omega⟩ ⟨by omega, by omega⟩ hRC0m3 hRKNm3 hRLTm3 hRSEm3 hRTEm3 hM
    · intro x1 mh hImh hFmh hLmh hbx1 hg1 hg2 hRC0mh hRKNmh hRLTmh hRSEmh hRTEmh hM
      refine zw_eq (zu_rega_at (zt_T n) (zm_33 n) (zdp_33 n) _ _ _ _ _ _ (zr_33_52 n _ _ a0 x1 mh)) ?_
      refine zw_ite (fun h9 => ?_) (fun h9 => ?_)
      · generalize hmm10 : zu_up mh a0 77 0 = m10
        have hIm10 := zi_up hmm10 hImh hc0 zb_28_77 (by omega) (by omega)
        have hFm10 := zfr_up hmm10 hFmh hc0 rfl
        have hLm10 := zs0_ne hmm10 hLmh hc0 (by decide)
        have hRC0m10 := zR_C0_fr (zdis_fr (zfr_up hmm10 (zfr_rf [(28, 78)] _) hc0 rfl) rfl) hRC0mh
        have hRKNm10 := zR_KN_fr (zdis_fr (zfr_up hmm10 (zfr_rf [(28, 78)] _) hc0 rfl) rfl) hRKNmh
        have hRLTm10 := zR_LT_fr (zdis_fr (zfr_up hmm10 (zfr_rf [(28, 78)] _) hc0 rfl) rfl) hRLTmh
        have hRSEm10 := zR_SE_fr (zdis_fr (zfr_up hmm10 (zfr_rf [(28, 78)] _) hc0 rfl) rfl) hRSEmh
        have hRTEm10 := zR_TE_fr (zdis_fr (zfr_up hmm10 (zfr_rf [(28, 78)] _) hc0 rfl) rfl) hRTEmh
        generalize hmm11 : zu_up m10 a0 78 (-1) = m11
        have hIm11 := zi_up hmm11 hIm10 hc0 zb_28_78 (by omega) (by omega)
        have hFm11 := zfr_up hmm11 hFm10 hc0 rfl
        have hLm11 := zs0_ne hmm11 hLm10 hc0 (by decide)
        have hRC0m11 := zR_C0_fr (zdis_fr (zfr_up hmm11 (zfr_rf [(28, 79)] _) hc0 rfl) rfl) hRC0m10
        have hRKNm11 := zR_KN_fr (zdis_fr (zfr_up hmm11 (zfr_rf [(28, 79)] _) hc0 rfl) rfl) hRKNm10
        have hRLTm11 := zR_LT_fr (zdis_fr (zfr_up hmm11 (zfr_rf [(28, 79)] _) hc0 rfl) rfl) hRLTm10
        have hRSEm11 := zR_SE_fr (zdis_fr (zfr_up hmm11 (zfr_rf [(28, 79)] _) hc0 rfl) rfl) hRSEm10
        have hRTEm11 := zR_TE_fr (zdis_fr (zfr_up hmm11 (zfr_rf [(28, 79)] _) hc0 rfl) rfl) hRTEm10
        generalize hmm12 : zu_up m11 a0 81 0 = m12
        have hIm12 := zi_up hmm12 hIm11 hc0 zb_28_81 (by omega) (by omega)
        have hFm12 := zfr_up hmm12 hFm11 hc0 rfl
        have hLm12 := zs0_ne hmm12 hLm11 hc0 (by decide)
        have hRC0m12 := zR_C0_fr (zdis_fr (zfr_up hmm12 (zfr_rf [(28, 82)] _) hc0 rfl) rfl) hRC0m11
        have hRKNm12 := zR_KN_fr (zdis_fr (zfr_up hmm12 (zfr_rf [(28, 82)] _) hc0 rfl) rfl) hRKNm11
        have hRLTm12 := zR_LT_fr (zdis_fr (zfr_up hmm12 (zfr_rf [(28, 82)] _) hc0 rfl) rfl) hRLTm11
        have hRSEm12 := zR_SE_fr (zdis_fr (zfr_up hmm12 (zfr_rf [(28, 82)] _) hc0 rfl) rfl) hRSEm11
        have hRTEm12 := zR_TE_fr (zdis_fr (zfr_up hmm12 (zfr_rf [(28, 82)] _) hc0 rfl) rfl) hRTEm11
        have hRRUm12 := zRU_zero (m := m12) (zone_190 hc0) (by rw [zs_eq hmm12]; decide)
        refine zw_b (by omega) ?_
        generalize hmm13 : zu_up m12 a0 83 0 = m13
        have hIm13 := zi_up hmm13 hIm12 hc0 zb_28_83 (by omega) (by omega)
        have hFm13 := zfr_up hmm13 hFm12 hc0 rfl
        have hLm13 := zs0_ne hmm13 hLm12 hc0 (by decide)
        have hRC0m13 := zR_C0_fr (zdis_fr (zfr_up hmm13 (zfr_rf [(28, 84)] _) hc0 rfl) rfl) hRC0m12
        have hRKNm13 := zR_KN_fr (zdis_fr (zfr_up hmm13 (zfr_rf [(28, 84)] _) hc0 rfl) rfl) hRKNm12
        have hRLTm13 := zR_LT_fr (zdis_fr (zfr_up hmm13 (zfr_rf [(28, 84)] _) hc0 rfl) rfl) hRLTm12
        have hRRUm13 := zR_RU_fr (zdis_fr (zfr_up hmm13 (zfr_rf [(28, 84)] _) hc0 rfl) rfl) hRRUm12
        have hRSEm13 := zR_SE_fr (zdis_fr (zfr_up hmm13 (zfr_rf [(28, 84)] _) hc0 rfl) rfl) hRSEm12
        have hRTEm13 := zR_TE_fr (zdis_fr (zfr_up hmm13 (zfr_rf [(28, 84)] _) hc0 rfl) rfl) hRTEm12
        have hRRIm13 := zRI_zero (m := m13) (zone_190 hc0) (zs_eq hmm13)
        have r14 : (-2147483648) ≤ (m13 a0 62) ∧ (m13 a0 62) ≤ 2147483647 := zi_rd hIm13 hc0 zb_28_62
        have e15 : (m13 a0 62) = (mh a0 62) := (Eq.trans (zs_ne hmm13 (Or.inr (by decide))) (Eq.trans (zs_ne hmm12 (Or.inr (by decide))) (Eq.trans (zs_ne hmm11 (Or.inr (by decide))) (zs_ne hmm10 (Or.inr (by decide))))))
        have r16 : (-9223372036854775808) ≤ (m13 a0 63) ∧ (m13 a0 63) ≤ 9223372036854775807 := zi_rd hIm13 hc0 zb_28_63
        have e17 : (m13 a0 63) = (mh a0 63) := (Eq.trans (zs_ne hmm13 (Or.inr (by decide))) (Eq.trans (zs_ne hmm12 (Or.inr (by decide))) (Eq.trans (zs_ne hmm11 (Or.inr (by decide))) (zs_ne hmm10 (Or.inr (by decide))))))
        have r18 : 0 ≤ (m13 a0 77) ∧ (m13 a0 77) ≤ 24 := zi_rd hIm13 hc0 zb_28_77
        have e19 : (m13 a0 77) = 0 := (Eq.trans (zs_ne hmm13 (Or.inr (by decide))) (Eq.trans (zs_ne hmm12 (Or.inr (by decide))) (Eq.trans (zs_ne hmm11 (Or.inr (by decide))) (zs_eq hmm10))))
        have r20 : (-1) ≤ (m13 a0 78) ∧ (m13 a0 78) ≤ 24 := zi_rd hIm13 hc0 zb_28_78
        have e21 : (m13 a0 78) = (-1) := (Eq.trans (zs_ne hmm13 (Or.inr (by decide))) (Eq.trans (zs_ne hmm12 (Or.inr (by decide))) (zs_eq hmm11)))
        have r22 : 0 ≤ (m13 a0 81) ∧ (m13 a0 81) ≤ 20 := zi_rd hIm13 hc0 zb_28_81
        have e23 : (m13 a0 81) = 0 := (Eq.trans (zs_ne hmm13 (Or.inr (by decide))) (zs_eq hmm12))
        have r24 : 0 ≤ (m13 a0 83) ∧ (m13 a0 83) ≤ 1 := zi_rd hIm13 hc0 zb_28_83
        have e25 : (m13 a0 83) = 0 := (zs_eq hmm13)
        exact zw_some ⟨hIm13, hFm13, hLm13, hRC0m13, hRKNm13, hRLTm13, hRRIm13, hRRUm13, hRSEm13, hRTEm13, trivial, ⟨by omega, by omega⟩, ⟨by omega, by omega⟩, ⟨by omega, by omega⟩, ⟨by omega, by omega⟩, ⟨by omega, by omega⟩, ⟨by omega, by omega⟩⟩
      · refine zw_bd (zw_eq (zu_call_at (zt_T n) (zm_36 n) (zdp_36 n) _ _ _ _ _ rfl (zr_36_0 n _ _ a0 mh)) ?_)
        have r26 : 1 ≤ (mh a0 12) ∧ (mh a0 12) ≤ 8 := zi_rd hImh hc0 zb_28_12
        have r27 : 1 ≤ (mh a0 13) ∧ (mh a0 13) ≤ 6 := zi_rd hImh hc0 zb_28_13
        have p28 := zmul_bd (x := (mh a0 12)) (y := (mh a0 13)) (a := 1) (b := 1) (A := 8) (B := 6) (by omega) (by omega) (by omega) (by omega) (by omega) (by omega)
        have w29 := zu_w32_id (z := (mh a0 12) * (mh a0 13)) (by omega) (by omega)
        refine zw_some ?_
        refine zw_ite (fun h30 => ?_) (fun h30 => ?_)
        · have b31 : 0 ≤ x1 ∧ x1 < 48 := by omega
          refine zw_if b31 ?_
          generalize hmm32 : zu_up mh 222 x1 0 = m32
          have hIm32 := zi_up hmm32 hImh zq_222 (zb_131 _) (by omega) (by omega)
          have hFm32 := zfr_up hmm32 hFmh zq_222 rfl
          have hLm32 := zs0_ne hmm32 hLmh zq_222 (by decide)
          have hRC0m32 := zR_C0_fr (zdis_fr (zfr_up hmm32 (zfr_rf [(131, 0)] _) zq_222 rfl) rfl) hRC0mh
          have hRKNm32 := zR_KN_fr (zdis_fr (zfr_up hmm32 (zfr_rf [(131, 0)] _) zq_222 rfl) rfl) hRKNmh
          have hRLTm32 := zR_LT_fr (zdis_fr (zfr_up hmm32 (zfr_rf [(131, 0)] _) zq_222 rfl) rfl) hRLTmh
          have hRSEm32 := zR_SE_fr (zdis_fr (zfr_up hmm32 (zfr_rf [(131, 0)] _) zq_222 rfl) rfl) hRSEmh
          have hRTEm32 := zR_TE_fr (zdis_fr (zfr_up hmm32 (zfr_rf [(131, 0)] _) zq_222 rfl) rfl) hRTEmh
          have w33 := zu_w32_id (z := x1 + 1) (by omega) (by omega)
          have r34 : (-2147483648) ≤ (m32 a0 62) ∧ (m32 a0 62) ≤ 2147483647 := zi_rd hIm32 hc0 zb_28_62
          have e35 : (m32 a0 62) = (mh a0 62) := (zs_ne hmm32 (Or.inl (zc_ne hc0 zq_222 (by decide))))
          have r36 : (-9223372036854775808) ≤ (m32 a0 63) ∧ (m32 a0 63) ≤ 9223372036854775807 := zi_rd hIm32 hc0 zb_28_63
          have e37 : (m32 a0 63) = (mh a0 63) := (zs_ne hmm32 (Or.inl (zc_ne hc0 zq_222 (by decide))))
          have hM : (48 - (zu_w32 (x1 + 1))) * 1 + 0 < (k : Int) := by omega
          exact ih.2 (zu_w32 (x1 + 1)) m32 hIm32 hFm32 hLm32 ⟨by omega, by omega⟩ ⟨by omega, by omega⟩ ⟨by omega, by omega⟩ hRC0m32 hRKNm32 hRLTm32 hRSEm32 hRTEm32 hM
        · refine zw_bd (zw_mono (zk_37 n hImh hc0 ⟨by omega, by omega⟩ hRKNmh hRLTmh) (fun v39 m38 hqm38 => ?_))
          obtain ⟨hIm38, hfm38, hvm38⟩ := hqm38
          have hFm38 := zfr_tr hFmh hfm38 rfl
          have hLm38 := zs0_tr hLmh hfm38 rfl
          obtain ⟨hRKNm38, hRLTm38, hvm38⟩ := hvm38
          have hRC0m38 := zR_C0_fr (zdis_fr hfm38 rfl) hRC0mh
          have hRSEm38 := zR_SE_fr (zdis_fr hfm38 rfl) hRSEmh
          have hRTEm38 := zR_TE_fr (zdis_fr hfm38 rfl) hRTEmh
          have w40 := zu_w32_id (z := 1000 * v39) (by omega) (by omega)
          have b41 : 0 ≤ x1 ∧ x1 < 48 := by omega
          refine zw_if b41 ?_
          generalize hmm42 : zu_up m38 222 x1 (zu_w32 (1000 * v39)) = m42
          have hIm42 := zi_up hmm42 hIm38 zq_222 (zb_131 _) (by omega) (by omega)
          have hFm42 := zfr_up hmm42 hFm38 zq_222 rfl
          have hLm42 := zs0_ne hmm42 hLm38 zq_222 (by decide)
          have hRC0m42 := zR_C0_fr (zdis_fr (zfr_up hmm42 (zfr_rf [(131, 0)] _) zq_222 rfl) rfl) hRC0m38
          have hRKNm42 := zR_KN_fr (zdis_fr (zfr_up hmm42 (zfr_rf [(131, 0)] _) zq_222 rfl) rfl) hRKNm38
          have hRLTm42 := zR_LT_fr (zdis_fr (zfr_up hmm42 (zfr_rf [(131, 0)] _) zq_222 rfl) rfl) hRLTm38
          have hRSEm42 := zR_SE_fr (zdis_fr (zfr_up hmm42 (zfr_rf [(131, 0)] _) zq_222 rfl) rfl) hRSEm38
          have hRTEm42 := zR_TE_fr (zdis_fr (zfr_up hmm42 (zfr_rf [(131, 0)] _) zq_222 rfl) rfl) hRTEm38
          have w43 := zu_w32_id (z := x1 + 1) (by omega) (by omega)
          have r44 : (-2147483648) ≤ (m42 a0 62) ∧ (m42 a0 62) ≤ 2147483647 := zi_rd hIm42 hc0 zb_28_62
          have e45 : (m42 a0 62) = (mh a0 62) := (Eq.trans (zs_ne hmm42 (Or.inl (zc_ne hc0 zq_222 (by decide)))) (zfr_ap hfm38 hc0 rfl))
          have r46 : (-9223372036854775808) ≤ (m42 a0 63) ∧ (m42 a0 63) ≤ 9223372036854775807 := zi_rd hIm42 hc0 zb_28_63
          have e47 : (m42 a0 63) = (mh a0 63) := (Eq.trans (zs_ne hmm42 (Or.inl (zc_ne hc0 zq_222 (by decide)))) (zfr_ap hfm38 hc0 rfl))
          have hM : (48 - (zu_w32 (x1 + 1))) * 1 + 0 < (k : Int) := by omega
          exact ih.2 (zu_w32 (x1 + 1)) m42 hIm42 hFm42 hLm42 ⟨by omega, by omega⟩ ⟨by omega, by omega⟩ ⟨by omega, by omega⟩ hRC0m42 hRKNm42 hRLTm42 hRSEm42 hRTEm42 hM
set_option maxHeartbeats 4000000 in
theorem zk_33k (n : Nat) {a0 : Int} {m0 : zu_m} (hIm0 : zi_I m0) (hc0 : zcls a0 = 28)     (hRC0m0 : zR_C0 m0) (hRKNm0 : zR_KN m0) (hRLTm0 : zR_LT m0) : zw (zu_call (zt_T n) 33 [(40, a0)] m0) (fun v m => zi_I m ∧ zfr [(28, 54), (28, 63), (28, 64), (28, 65), (28, 66), (28, 67), (28, 68), (28, 69), (28, 70), (28, 78), (28, 79), (28, 82), (28, 84), (122, 0), (123, 0), (124, 0), (125, 0), (126, 0), (127, 0), (128, 0), (129, 0), (130, 0), (131, 0)] m0 m ∧ m 221 0 = 0 ∧ zR_C0 m ∧ zR_KN m ∧ zR_LT m ∧ zR_RI m ∧ zR_RU m ∧ zE1 m 0 ∧ zR_TE m ∧ True ∧ ((-1) ≤ m a0 62 ∧ m a0 62 ≤ 99999) ∧ ((-1) ≤ m a0 63 ∧ m a0 63 ≤ 99999) ∧ (0 ≤ m a0 77 ∧ m a0 77 ≤ 0) ∧ ((-1) ≤ m a0 78 ∧ m a0 78 ≤ (-1)) ∧ (0 ≤ m a0 81 ∧ m a0 81 ≤ 0) ∧ (0 ≤ m a0 83 ∧ m a0 83 ≤ 0)) := by
  have hFm0 : zfr [(28, 54), (28, 63), (28, 64), (28, 65), (28, 66), (28, 67), (28, 68), (28, 69), (28, 70), (28, 78), (28, 79), (28, 82), (28, 84), (122, 0), (123, 0), (124, 0), (125, 0), (126, 0), (127, 0), (128, 0), (129, 0), (130, 0), (131, 0)] m0 m0 := zfr_rf _ _
  refine zw_eq (zu_call_at (zt_T n) (zm_33 n) (zdp_33 n) _ _ _ _ _ rfl (zr_33_0 n _ _ a0 m0)) ?_
  refine zw_bd (zw_mono (zk_34k n hIm0 hc0 ⟨by decide, by decide⟩ hRC0m0) (fun v49 m48 hqm48 => ?_))
  obtain ⟨hIm48, hfm48, hlm48, hvm48⟩ := hqm48
  have hFm48 := zfr_tr hFm0 hfm48 rfl
  have hLm48 := hlm48.1 rfl
  obtain ⟨hRC0m48, hRSEm48, hvm48⟩ := hvm48
  have hRKNm48 := zR_KN_fr (zdis_fr hfm48 rfl) hRKNm0
  have hRLTm48 := zR_LT_fr (zdis_fr hfm48 rfl) hRLTm0
  have r50 : 0 ≤ (m48 a0 14) ∧ (m48 a0 14) ≤ 12 := zi_rd hIm48 hc0 zb_28_14
  have r51 : 0 ≤ (m48 216 0) ∧ (m48 216 0) ≤ 16 := zi_rdr (m := 2) (r0 := 0) (r1 := 0) hIm48 zq_216 (by omega) (by decide +kernel)
  have hRTEm48 := zTE_of (zone_190 hc0) ((hvm48.2.2) (Or.inr rfl))
  have b52 : 0 ≤ (0 : Int) ∧ (0 : Int) < 10 := by omega
  refine zw_if b52 ?_
  have r53 : (-1) ≤ (m48 194 0) ∧ (m48 194 0) ≤ 99999 := zi_rd hIm48 zq_194 (zb_103 _)
  generalize hmm54 : zu_up m48 a0 62 (m48 194 0) = m54
  have hIm54 := zi_up hmm54 hIm48 hc0 zb_28_62 (by omega) (by omega)
  have hFm54 := zfr_up hmm54 hFm48 hc0 rfl
  have hLm54 := zs0_ne hmm54 hLm48 hc0 (by decide)
  have hRC0m54 := zR_C0_fr (zdis_fr (zfr_up hmm54 (zfr_rf [(28, 63)] _) hc0 rfl) rfl) hRC0m48
  have hRKNm54 := zR_KN_fr (zdis_fr (zfr_up hmm54 (zfr_rf [(28, 63)] _) hc0 rfl) rfl) hRKNm48
  have hRLTm54 := zR_LT_fr (zdis_fr (zfr_up hmm54 (zfr_rf [(28, 63)] _) hc0 rfl) rfl) hRLTm48
  have hRSEm54 := zR_SE_fr (zdis_fr (zfr_up hmm54 (zfr_rf [(28, 63)] _) hc0 rfl) rfl) hRSEm48
  have hRTEm54 := zR_TE_fr (zdis_fr (zfr_up hmm54 (zfr_rf [(28, 63)] _) hc0 rfl) rfl) hRTEm48
  have b55 : 0 ≤ (4 : Int) ∧ (4 : Int) < 10 := by omega
  refine zw_if b55 ?_
  have r56 : (-1) ≤ (m54 194 4) ∧ (m54 194 4) ≤ 99999 := zi_rd hIm54 zq_194 (zb_103 _)
  generalize hmm57 : zu_up m54 a0 63 (m54 194 4) = m57
  have hIm57 := zi_up hmm57 hIm54 hc0 zb_28_63 (by omega) (by omega)
  have hFm57 := zfr_up hmm57 hFm54 hc0 rfl
  have hLm57 := zs0_ne hmm57 hLm54 hc0 (by decide)
  have hRC0m57 := zR_C0_fr (zdis_fr (zfr_up hmm57 (zfr_rf [(28, 64)] _) hc0 rfl) rfl) hRC0m54
  have hRKNm57 := zR_KN_fr (zdis_fr (zfr_up hmm57 (zfr_rf [(28, 64)] _) hc0 rfl) rfl) hRKNm54
  have hRLTm57 := zR_LT_fr (zdis_fr (zfr_up hmm57 (zfr_rf [(28, 64)] _) hc0 rfl) rfl) hRLTm54
  have hRSEm57 := zR_SE_fr (zdis_fr (zfr_up hmm57 (zfr_rf [(28, 64)] _) hc0 rfl) rfl) hRSEm54
  have hRTEm57 := zR_TE_fr (zdis_fr (zfr_up hmm57 (zfr_rf [(28, 64)] _) hc0 rfl) rfl) hRTEm54
  refine zw_bd (zw_mono (zk_35 n hIm57 hc0) (fun v59 m58 hqm58 => ?_))
  obtain ⟨hIm58, hfm58, hvm58⟩ := hqm58
  have hFm58 := zfr_tr hFm57 hfm58 rfl
  have hLm58 := zs0_tr hLm57 hfm58 rfl
  have hRC0m58 := zR_C0_fr (zdis_fr hfm58 rfl) hRC0m57
  have hRKNm58 := zR_KN_fr (zdis_fr hfm58 rfl) hRKNm57
  have hRLTm58 := zR_LT_fr (zdis_fr hfm58 rfl) hRLTm57
  have hRSEm58 := zR_SE_fr (zdis_fr hfm58 rfl) hRSEm57
  have hRTEm58 := zR_TE_fr (zdis_fr hfm58 rfl) hRTEm57
  have r60 : (-2147483648) ≤ (m58 a0 62) ∧ (m58 a0 62) ≤ 2147483647 := zi_rd hIm58 hc0 zb_28_62
  have e61 : (m58 a0 62) = (m48 194 0) := (Eq.trans (zfr_ap hfm58 hc0 rfl) (Eq.trans (zs_ne hmm57 (Or.inr (by decide))) (zs_eq hmm54)))
  have r62 : (-9223372036854775808) ≤ (m58 a0 63) ∧ (m58 a0 63) ≤ 9223372036854775807 := zi_rd hIm58 hc0 zb_28_63
  have e63 : (m58 a0 63) = (m54 194 4) := (Eq.trans (zfr_ap hfm58 hc0 rfl) (zs_eq hmm57))
  have hM : (4 - 0) * 1 + 49 < ((54 : Nat) : Int) := by omega
  exact (zl_33k n (m0 := m0) hc0 54).1 0 m58 hIm58 hFm58 hLm58 ⟨by omega, by omega⟩ ⟨by omega, by omega⟩ ⟨by omega, by omega⟩ hRC0m58 hRKNm58 hRLTm58 hRSEm58 hRTEm58 hM
set_option maxHeartbeats 4000000 in
theorem zl_31s (n : Nat) {a0 : Int} {m0 : zu_m} (hc0 : zcls a0 = 28)  (hxp0 : (m0 a0 4) = 0) : ∀ k : Nat, (∀ (x1 : Int) (mh : zu_m), zi_I mh → zfr [(28, 13), (28, 14), (28, 15), (28, 16), (28, 17), (28, 54), (28, 63), (28, 64), (28, 65), (28, 66), (28, 67), (28, 68), (28, 69), (28, 70), (28, 78), (28, 79), (28, 82), (28, 84), (103, 0), (104, 0), (106, 0), (107, 0), (108, 0), (109, 0), (110, 0), (111, 0), (112, 0), (113, 0), (114, 0), (115, 0), (116, 0), (117, 0), (118, 0), (119, 0), (122, 0), (123, 0), (124, 0), (125, 0), (126, 0), (127, 0), (128, 0), (129, 0), (130, 0), (131, 0)] m0 mh → True → (0 ≤ x1 ∧ x1 ≤ 4) → (∀ k, 0 ≤ k → k < x1 → mh 205 k = mh 205 (4 + k)) → ((mh a0 4) = 0) → (zR_C0 mh) → (zR_CR mh) → (zR_KN mh) → (zR_LR mh) → (4 - x1) * 1 + 0 < (k : Int) → zw (zu_ex (zt_T n) 31 126 [(40, a0), (0, x1)] [] mh) (fun v m => zi_I m ∧ zfr [(28, 13), (28, 14), (28, 15), (28, 16), (28, 17), (28, 54), (28, 63), (28, 64), (28, 65), (28, 66), (28, 67), (28, 68), (28, 69), (28, 70), (28, 78), (28, 79), (28, 82), (28, 84), (103, 0), (104, 0), (106, 0), (107, 0), (108, 0), (109, 0), (110, 0), (111, 0), (112, 0), (113, 0), (114, 0), (115, 0), (116, 0), (117, 0), (118, 0), (119, 0), (122, 0), (123, 0), (124, 0), (125, 0), (126, 0), (127, 0), (128, 0), (129, 0), (130, 0), (131, 0)] m0 m ∧ (m 221 0 = 0 ∧ m a0 83 = 0) ∧ zR_C0 m ∧ zR_CR m ∧ zR_KN m ∧ zR_LT m ∧ zR_RI m ∧ zR_RU m ∧ zE1 m 0 ∧ zR_TE m ∧ True)) := by
  intro k
  induction k with
  | zero => exact fun x1 mh hImh hFmh hLmh hbx1 hH0 hH1 hRC0mh hRCRmh hRKNmh hRLRmh hM => by exfalso; omega
  | succ k ih =>
    intro x1 mh hImh hFmh hLmh hbx1 hH0 hH1 hRC0mh hRCRmh hRKNmh hRLRmh hM
    refine zw_eq (zu_rega_at (zt_T n) (zm_31 n) (zdp_31 n) _ _ _ _ _ _ (zr_31_126 n _ _ a0 x1 mh)) ?_
    have r1 : (-2147483648) ≤ (mh a0 4) ∧ (mh a0 4) ≤ 2147483647 := zi_rd hImh hc0 zb_28_4
    refine zw_ite (fun h2 => ?_) (fun h2 => ?_)
    · refine zw_bd (zw_mono (zk_32_115 n hImh zq_206 ⟨by decide, by decide⟩) (fun v4 m3 hqm3 => ?_))
      obtain ⟨hIm3, hfm3, hvm3⟩ := hqm3
      have hFm3 := zfr_tr hFmh hfm3 rfl
      have hLm3 : True := trivial
      have hRC0m3 := zR_C0_fr (zdis_fr hfm3 rfl) hRC0mh
      have hRCRm3 := zR_CR_fr (zdis_fr hfm3 rfl) hRCRmh
      have hRKNm3 := zR_KN_fr (zdis_fr hfm3 rfl) hRKNmh
      have hRLRm3 := zR_LR_fr (zdis_fr hfm3 rfl) hRLRmh
      refine zw_bd (zw_mono (zk_32_116 n hIm3 zq_207 ⟨by decide, by decide⟩) (fun v6 m5 hqm5 => ?_))
      obtain ⟨hIm5, hfm5, hvm5⟩ := hqm5
      have hFm5 := zfr_tr hFm3 hfm5 rfl
      have hLm5 : True := trivial
      have hRC0m5 := zR_C0_fr (zdis_fr hfm5 rfl) hRC0m3
      have hRCRm5 := zR_CR_fr (zdis_fr hfm5 rfl) hRCRm3
      have hRKNm5 := zR_KN_fr (zdis_fr hfm5 rfl) hRKNm3
      have r7 : (-2147483648) ≤ (m3 a0 4) ∧ (m3 a0 4) ≤ 2147483647 := zi_rd hIm3 hc0 zb_28_4
      have e8 : (m3 a0 4) = (mh a0 4) := (zfr_ap hfm3 hc0 rfl)
      have hRLTm5 := zLT_keep (zone_190 hc0) hH0 (by omega) (fun _ => (zfr_ap hfm3 zq_205 rfl)) (hvm5.2) (fun _ => zfr_ap hfm5 zq_205 rfl) (by omega) hRLRm3
      refine zw_bd (zw_mono (zk_32_117 n hIm5 zq_208 ⟨by decide, by decide⟩) (fun v10 m9 hqm9 => ?_))
      obtain ⟨hIm9, hfm9, hvm9⟩ := hqm9
      have hFm9 := zfr_tr hFm5 hfm9 rfl
      have hLm9 : True := trivial
      have hRC0m9 := zR_C0_fr (zdis_fr hfm9 rfl) hRC0m5
      have hRCRm9 := zR_CR_fr (zdis_fr hfm9 rfl) hRCRm5
      have hRLTm9 := zR_LT_fr (zdis_fr hfm9 rfl) hRLTm5
      refine zw_bd (zw_mono (zk_32_118 n hIm9 zq_209 ⟨by decide, by decide⟩) (fun v12 m11 hqm11 => ?_))
      obtain ⟨hIm11, hfm11, hvm11⟩ := hqm11
      have hFm11 := zfr_tr hFm9 hfm11 rfl
      have hLm11 : True := trivial
      have hRC0m11 := zR_C0_fr (zdis_fr hfm11 rfl) hRC0m9
      have hRCRm11 := zR_CR_fr (zdis_fr hfm11 rfl) hRCRm9
      have hRLTm11 := zR_LT_fr (zdis_fr hfm11 rfl) hRLTm9
      refine zw_bd (zw_mono (zk_32_119 n hIm11 zq_210 ⟨by decide, by decide⟩) (fun v14 m13 hqm13 => ?_))
      obtain ⟨hIm13, hfm13, hvm13⟩ := hqm13
      have hFm13 := zfr_tr hFm11 hfm13 rfl
      have hLm13 : True := trivial
      have hRC0m13 := zR_C0_fr (zdis_fr hfm13 rfl) hRC0m11
      have hRCRm13 := zR_CR_fr (zdis_fr hfm13 rfl) hRCRm11
      have hRLTm13 := zR_LT_fr (zdis_fr hfm13 rfl) hRLTm11
      have hRKNm13 := zKN_cp hvm9.2 hfm9 hvm11.2 hfm11 hvm13.2 hfm13 hRKNm5
      refine zw_bd (zw_mono (zk_33k n hIm13 hc0 hRC0m13 hRKNm13 hRLTm13) (fun v16 m15 hqm15 => ?_))
      obtain ⟨hIm15, hfm15, hlm15, hvm15⟩ := hqm15
      have hFm15 := zfr_tr hFm13 hfm15 rfl
      have hLm15 := (⟨hlm15, zle2 hvm15.2.2.2.2.2.2.2.2.2.2.2.2.2⟩ : m15 221 0 = 0 ∧ m15 a0 83 = 0)
      obtain ⟨hRC0m15, hRKNm15, hRLTm15, hRRIm15, hRRUm15, hRSEm15, hRTEm15, hvm15⟩ := hvm15
      have hRCRm15 := zR_CR_fr (zdis_fr hfm15 rfl) hRCRm13
      exact zw_some ⟨hIm15, hFm15, hLm15, hRC0m15, hRCRm15, hRKNm15, hRLTm15, hRRIm15, hRRUm15, hRSEm15, hRTEm15, trivial⟩
    · have w17 := zu_w32_id (z := 4 + x1) (by omega) (by omega)
      have b18 : 0 ≤ (zu_w32 (4 + x1)) ∧ (zu_w32 (4 + x1)) < 8 := by omega
      refine zw_if b18 ?_
      have r19 : 0 ≤ (mh 205 (zu_w32 (4 + x1))) ∧ (mh 205 (zu_w32 (4 + x1))) ≤ 1 := zi_rd hImh zq_205 (zb_114 _)
      refine zw_b (by omega) ?_
      have b20 : 0 ≤ x1 ∧ x1 < 8 := by omega
      refine zw_if b20 ?_
      generalize hmm21 : zu_up mh 205 x1 (mh 205 (zu_w32 (4 + x1))) = m21
      have hIm21 := zi_up hmm21 hImh zq_205 (zb_114 _) (by omega) (by omega)
      have hFm21 := zfr_up hmm21 hFmh zq_205 rfl
      have hLm21 : True := trivial
      have hRC0m21 := zR_C0_fr (zdis_fr (zfr_up hmm21 (zfr_rf [(114, 0)] _) zq_205 rfl) rfl) hRC0mh
      have hRCRm21 := zR_CR_fr (zdis_fr (zfr_up hmm21 (zfr_rf [(114, 0)] _) zq_205 rfl) rfl) hRCRmh
      have hRKNm21 := zR_KN_fr (zdis_fr (zfr_up hmm21 (zfr_rf [(114, 0)] _) zq_205 rfl) rfl) hRKNmh
      have hRLRm21 := zLR_lo hmm21 (by omega) hRLRmh
      have w22 := zu_w32_id (z := x1 + 1) (by omega) (by omega)
      have r23 : (-2147483648) ≤ (m21 a0 4) ∧ (m21 a0 4) ≤ 2147483647 := zi_rd hIm21 hc0 zb_28_4
      have e24 : (m21 a0 4) = (mh a0 4) := (zs_ne hmm21 (Or.inl (zc_ne hc0 zq_205 (by decide))))
      have hM : (4 - (zu_w32 (x1 + 1))) * 1 + 0 < (k : Int) := by omega
      exact ih (zu_w32 (x1 + 1)) m21 hIm21 hFm21 hLm21 ⟨by omega, by omega⟩ (zk5_s hmm21 hH0 (by omega) rfl (by omega) (by omega)) (by omega) hRC0m21 hRCRm21 hRKNm21 hRLRm21 hM
set_option maxHeartbeats 4000000 in
theorem zk_31s (n : Nat) {a0 : Int} {m0 : zu_m} (hIm0 : zi_I m0) (hc0 : zcls a0 = 28)    (hxp0 : (m0 a0 4) = 0) (hRCRm0 : zR_CR m0) (hRKNm0 : zR_KN m0) (hRLRm0 : zR_LR m0) : zw (zu_call (zt_T n) 31 [(40, a0)] m0) (fun v m => zi_I m ∧ zfr [(28, 13), (28, 14), (28, 15), (28, 16), (28, 17), (28, 54), (28, 63), (28, 64), (28, 65), (28, 66), (28, 67), (28, 68), (28, 69), (28, 70), (28, 78), (28, 79), (28, 82), (28, 84), (103, 0), (104, 0), (106, 0), (107, 0), (108, 0), (109, 0), (110, 0), (111, 0), (112, 0), (113, 0), (114, 0), (115, 0), (116, 0), (117, 0), (118, 0), (119, 0), (122, 0), (123, 0), (124, 0), (125, 0), (126, 0), (127, 0), (128, 0), (129, 0), (130, 0), (131, 0)] m0 m ∧ (m 221 0 = 0 ∧ m a0 83 = 0) ∧ zR_C0 m ∧ zR_CR m ∧ zR_KN m ∧ zR_LT m ∧ zR_RI m ∧ zR_RU m ∧ zE1 m 0 ∧ zR_TE m ∧ True) := by
  have hFm0 : zfr [(28, 13), (28, 14), (28, 15), (28, 16), (28, 17), (28, 54), (28, 63), (28, 64), (28, 65), (28, 66), (28, 67), (28, 68), (28, 69), (28, 70), (28, 78), (28, 79), (28, 82), (28, 84), (103, 0), (104, 0), (106, 0), (107, 0), (108, 0), (109, 0), (110, 0), (111, 0), (112, 0), (113, 0), (114, 0), (115, 0), (116, 0), (117, 0), (118, 0), (119, 0), (122, 0), (123, 0), (124, 0), (125, 0), (126, 0), (127, 0), (128, 0), (129, 0), (130, 0), (131, 0)] m0 m0 := zfr_rf _ _
  have hLm0 : True := trivial
  have r25 : (-2147483648) ≤ (m0 a0 4) ∧ (m0 a0 4) ≤ 2147483647 := zi_rd hIm0 hc0 zb_28_4
  refine zw_eq (zu_call_at (zt_T n) (zm_31 n) (zdp_31 n) _ _ _ _ _ rfl (zr_31_0 n _ _ a0 m0)) ?_
  have r26 : 1 ≤ (m0 a0 17) ∧ (m0 a0 17) ≤ 8 := zi_rd hIm0 hc0 zb_28_17
  generalize hmm27 : zu_up m0 a0 12 (m0 a0 17) = m27
  have hIm27 := zi_up hmm27 hIm0 hc0 zb_28_12 (by omega) (by omega)
  have hFm27 := zfr_up hmm27 hFm0 hc0 rfl
  have hLm27 : True := trivial
  have hRCRm27 := zR_CR_fr (zdis_fr (zfr_up hmm27 (zfr_rf [(28, 13)] _) hc0 rfl) rfl) hRCRm0
  have hRKNm27 := zR_KN_fr (zdis_fr (zfr_up hmm27 (zfr_rf [(28, 13)] _) hc0 rfl) rfl) hRKNm0
  have hRLRm27 := zR_LR_fr (zdis_fr (zfr_up hmm27 (zfr_rf [(28, 13)] _) hc0 rfl) rfl) hRLRm0
  have r28 : 1 ≤ (m27 a0 18) ∧ (m27 a0 18) ≤ 6 := zi_rd hIm27 hc0 zb_28_18
  generalize hmm29 : zu_up m27 a0 13 (m27 a0 18) = m29
  have hIm29 := zi_up hmm29 hIm27 hc0 zb_28_13 (by omega) (by omega)
  have hFm29 := zfr_up hmm29 hFm27 hc0 rfl
  have hLm29 : True := trivial
  have hRCRm29 := zR_CR_fr (zdis_fr (zfr_up hmm29 (zfr_rf [(28, 14)] _) hc0 rfl) rfl) hRCRm27
  have hRKNm29 := zR_KN_fr (zdis_fr (zfr_up hmm29 (zfr_rf [(28, 14)] _) hc0 rfl) rfl) hRKNm27
  have hRLRm29 := zR_LR_fr (zdis_fr (zfr_up hmm29 (zfr_rf [(28, 14)] _) hc0 rfl) rfl) hRLRm27
  have r30 : 0 ≤ (m29 a0 19) ∧ (m29 a0 19) ≤ 12 := zi_rd hIm29 hc0 zb_28_19
  generalize hmm31 : zu_up m29 a0 14 (m29 a0 19) = m31
  have hIm31 := zi_up hmm31 hIm29 hc0 zb_28_14 (by omega) (by omega)
  have hFm31 := zfr_up hmm31 hFm29 hc0 rfl
  have hLm31 : True := trivial
  have hRCRm31 := zR_CR_fr (zdis_fr (zfr_up hmm31 (zfr_rf [(28, 15)] _) hc0 rfl) rfl) hRCRm29
  have hRKNm31 := zR_KN_fr (zdis_fr (zfr_up hmm31 (zfr_rf [(28, 15)] _) hc0 rfl) rfl) hRKNm29
  have hRLRm31 := zR_LR_fr (zdis_fr (zfr_up hmm31 (zfr_rf [(28, 15)] _) hc0 rfl) rfl) hRLRm29
  have r32 : 0 ≤ (m31 a0 20) ∧ (m31 a0 20) ≤ 4 := zi_rd hIm31 hc0 zb_28_20
  generalize hmm33 : zu_up m31 a0 15 (m31 a0 20) = m33
  have hIm33 := zi_up hmm33 hIm31 hc0 zb_28_15 (by omega) (by omega)
  have hFm33 := zfr_up hmm33 hFm31 hc0 rfl
  have hLm33 : True := trivial
  have hRCRm33 := zR_CR_fr (zdis_fr (zfr_up hmm33 (zfr_rf [(28, 16)] _) hc0 rfl) rfl) hRCRm31
  have hRKNm33 := zR_KN_fr (zdis_fr (zfr_up hmm33 (zfr_rf [(28, 16)] _) hc0 rfl) rfl) hRKNm31
  have hRLRm33 := zR_LR_fr (zdis_fr (zfr_up hmm33 (zfr_rf [(28, 16)] _) hc0 rfl) rfl) hRLRm31
  have r34 : 0 ≤ (m33 a0 21) ∧ (m33 a0 21) ≤ 64 := zi_rd hIm33 hc0 zb_28_21
  generalize hmm35 : zu_up m33 a0 16 (m33 a0 21) = m35
  have hIm35 := zi_up hmm35 hIm33 hc0 zb_28_16 (by omega) (by omega)
  have hFm35 := zfr_up hmm35 hFm33 hc0 rfl
  have hLm35 : True := trivial
  have hRCRm35 := zR_CR_fr (zdis_fr (zfr_up hmm35 (zfr_rf [(28, 17)] _) hc0 rfl) rfl) hRCRm33
  have hRKNm35 := zR_KN_fr (zdis_fr (zfr_up hmm35 (zfr_rf [(28, 17)] _) hc0 rfl) rfl) hRKNm33
  have hRLRm35 := zR_LR_fr (zdis_fr (zfr_up hmm35 (zfr_rf [(28, 17)] _) hc0 rfl) rfl) hRLRm33
  refine zw_bd (zw_mono (zk_32_103 n hIm35 zq_194 ⟨by decide, by decide⟩) (fun v37 m36 hqm36 => ?_))
  obtain ⟨hIm36, hfm36, hvm36⟩ := hqm36
  have hFm36 := zfr_tr hFm35 hfm36 rfl
  have hLm36 : True := trivial
  have hRCRm36 := zR_CR_fr (zdis_fr hfm36 rfl) hRCRm35
  have hRKNm36 := zR_KN_fr (zdis_fr hfm36 rfl) hRKNm35
  have hRLRm36 := zR_LR_fr (zdis_fr hfm36 rfl) hRLRm35
  refine zw_bd (zw_mono (zk_32_104 n hIm36 zq_195 ⟨by decide, by decide⟩) (fun v39 m38 hqm38 => ?_))
  obtain ⟨hIm38, hfm38, hvm38⟩ := hqm38
  have hFm38 := zfr_tr hFm36 hfm38 rfl
  have hLm38 : True := trivial
  have hRCRm38 := zR_CR_fr (zdis_fr hfm38 rfl) hRCRm36
  have hRKNm38 := zR_KN_fr (zdis_fr hfm38 rfl) hRKNm36
  have hRLRm38 := zR_LR_fr (zdis_fr hfm38 rfl) hRLRm36
  refine zw_bd (zw_mono (zk_32_106 n hIm38 zq_197 ⟨by decide, by decide⟩) (fun v41 m40 hqm40 => ?_))
  obtain ⟨hIm40, hfm40, hvm40⟩ := hqm40
  have hFm40 := zfr_tr hFm38 hfm40 rfl
  have hLm40 : True := trivial
  have hRCRm40 := zR_CR_fr (zdis_fr hfm40 rfl) hRCRm38
  have hRKNm40 := zR_KN_fr (zdis_fr hfm40 rfl) hRKNm38
  have hRLRm40 := zR_LR_fr (zdis_fr hfm40 rfl) hRLRm38
  refine zw_bd (zw_mono (zk_32_107 n hIm40 zq_198 ⟨by decide, by decide⟩) (fun v43 m42 hqm42 => ?_))
  obtain ⟨hIm42, hfm42, hvm42⟩ := hqm42
  have hFm42 := zfr_tr hFm40 hfm42 rfl
  have hLm42 : True := trivial
  have hRCRm42 := zR_CR_fr (zdis_fr hfm42 rfl) hRCRm40
  have hRKNm42 := zR_KN_fr (zdis_fr hfm42 rfl) hRKNm40
  have hRLRm42 := zR_LR_fr (zdis_fr hfm42 rfl) hRLRm40
  refine zw_bd (zw_mono (zk_32_108 n hIm42 zq_199 ⟨by decide, by decide⟩) (fun v45 m44 hqm44 => ?_))
  obtain ⟨hIm44, hfm44, hvm44⟩ := hqm44
  have hFm44 := zfr_tr hFm42 hfm44 rfl
  have hLm44 : True := trivial
  have hRCRm44 := zR_CR_fr (zdis_fr hfm44 rfl) hRCRm42
  have hRKNm44 := zR_KN_fr (zdis_fr hfm44 rfl) hRKNm42
  have hRLRm44 := zR_LR_fr (zdis_fr hfm44 rfl) hRLRm42
  refine zw_bd (zw_mono (zk_32_109 n hIm44 zq_200 ⟨by decide, by decide⟩) (fun v47 m46 hqm46 => ?_))
  obtain ⟨hIm46, hfm46, hvm46⟩ := hqm46
  have hFm46 := zfr_tr hFm44 hfm46 rfl
  have hLm46 : True := trivial
  have hRCRm46 := zR_CR_fr (zdis_fr hfm46 rfl) hRCRm44
  have hRKNm46 := zR_KN_fr (zdis_fr hfm46 rfl) hRKNm44
  have hRLRm46 := zR_LR_fr (zdis_fr hfm46 rfl) hRLRm44
  refine zw_bd (zw_mono (zk_32_110 n hIm46 zq_201 ⟨by decide, by decide⟩) (fun v49 m48 hqm48 => ?_))
  obtain ⟨hIm48, hfm48, hvm48⟩ := hqm48
  have hFm48 := zfr_tr hFm46 hfm48 rfl
  have hLm48 : True := trivial
  have hRKNm48 := zR_KN_fr (zdis_fr hfm48 rfl) hRKNm46
  have hRLRm48 := zR_LR_fr (zdis_fr hfm48 rfl) hRLRm46
  have r50 : 1 ≤ (m46 a0 17) ∧ (m46 a0 17) ≤ 8 := zi_rd hIm46 hc0 zb_28_17
  have e51 : (m46 a0 17) = (m0 a0 17) := (Eq.trans (zfr_ap hfm46 hc0 rfl) (Eq.trans (zfr_ap hfm44 hc0 rfl) (Eq.trans (zfr_ap hfm42 hc0 rfl) (Eq.trans (zfr_ap hfm40 hc0 rfl) (Eq.trans (zfr_ap hfm38 hc0 rfl) (Eq.trans (zfr_ap hfm36 hc0 rfl) (Eq.trans (zs_ne hmm35 (Or.inr (by decide))) (Eq.trans (zs_ne hmm33 (Or.inr (by decide))) (Eq.trans (zs_ne hmm31 (Or.inr (by decide))) (Eq.trans (zs_ne hmm29 (Or.inr (by decide))) (zs_ne hmm27 (Or.inr (by decide)))))))))))))
  have r52 : 1 ≤ (m46 a0 18) ∧ (m46 a0 18) ≤ 6 := zi_rd hIm46 hc0 zb_28_18
  have e53 : (m46 a0 18) = (m27 a0 18) := (Eq.trans (zfr_ap hfm46 hc0 rfl) (Eq.trans (zfr_ap hfm44 hc0 rfl) (Eq.trans (zfr_ap hfm42 hc0 rfl) (Eq.trans (zfr_ap hfm40 hc0 rfl) (Eq.trans (zfr_ap hfm38 hc0 rfl) (Eq.trans (zfr_ap hfm36 hc0 rfl) (Eq.trans (zs_ne hmm35 (Or.inr (by decide))) (Eq.trans (zs_ne hmm33 (Or.inr (by decide))) (Eq.trans (zs_ne hmm31 (Or.inr (by decide))) (zs_ne hmm29 (Or.inr (by decide))))))))))))
  have r54 : 0 ≤ (m46 a0 20) ∧ (m46 a0 20) ≤ 4 := zi_rd hIm46 hc0 zb_28_20
  have e55 : (m46 a0 20) = (m31 a0 20) := (Eq.trans (zfr_ap hfm46 hc0 rfl) (Eq.trans (zfr_ap hfm44 hc0 rfl) (Eq.trans (zfr_ap hfm42 hc0 rfl) (Eq.trans (zfr_ap hfm40 hc0 rfl) (Eq.trans (zfr_ap hfm38 hc0 rfl) (Eq.trans (zfr_ap hfm36 hc0 rfl) (Eq.trans (zs_ne hmm35 (Or.inr (by decide))) (zs_ne hmm33 (Or.inr (by decide))))))))))
  have r56 : 0 ≤ (m46 a0 23) ∧ (m46 a0 23) ≤ 1 := zi_rd hIm46 hc0 zb_28_23
  have r57 : 1 ≤ (m48 a0 12) ∧ (m48 a0 12) ≤ 8 := zi_rd hIm48 hc0 zb_28_12
  have e58 : (m48 a0 12) = (m0 a0 17) := (Eq.trans (zfr_ap hfm48 hc0 rfl) (Eq.trans (zfr_ap hfm46 hc0 rfl) (Eq.trans (zfr_ap hfm44 hc0 rfl) (Eq.trans (zfr_ap hfm42 hc0 rfl) (Eq.trans (zfr_ap hfm40 hc0 rfl) (Eq.trans (zfr_ap hfm38 hc0 rfl) (Eq.trans (zfr_ap hfm36 hc0 rfl) (Eq.trans (zs_ne hmm35 (Or.inr (by decide))) (Eq.trans (zs_ne hmm33 (Or.inr (by decide))) (Eq.trans (zs_ne hmm31 (Or.inr (by decide))) (Eq.trans (zs_ne hmm29 (Or.inr (by decide))) (zs_eq hmm27))))))))))))
  have r59 : 1 ≤ (m48 a0 13) ∧ (m48 a0 13) ≤ 6 := zi_rd hIm48 hc0 zb_28_13
  have e60 : (m48 a0 13) = (m27 a0 18) := (Eq.trans (zfr_ap hfm48 hc0 rfl) (Eq.trans (zfr_ap hfm46 hc0 rfl) (Eq.trans (zfr_ap hfm44 hc0 rfl) (Eq.trans (zfr_ap hfm42 hc0 rfl) (Eq.trans (zfr_ap hfm40 hc0 rfl) (Eq.trans (zfr_ap hfm38 hc0 rfl) (Eq.trans (zfr_ap hfm36 hc0 rfl) (Eq.trans (zs_ne hmm35 (Or.inr (by decide))) (Eq.trans (zs_ne hmm33 (Or.inr (by decide))) (Eq.trans (zs_ne hmm31 (Or.inr (by decide))) (zs_eq hmm29)))))))))))
  have r61 : 0 ≤ (m48 a0 15) ∧ (m48 a0 15) ≤ 4 := zi_rd hIm48 hc0 zb_28_15
  have e62 : (m48 a0 15) = (m31 a0 20) := (Eq.trans (zfr_ap hfm48 hc0 rfl) (Eq.trans (zfr_ap hfm46 hc0 rfl) (Eq.trans (zfr_ap hfm44 hc0 rfl) (Eq.trans (zfr_ap hfm42 hc0 rfl) (Eq.trans (zfr_ap hfm40 hc0 rfl) (Eq.trans (zfr_ap hfm38 hc0 rfl) (Eq.trans (zfr_ap hfm36 hc0 rfl) (Eq.trans (zs_ne hmm35 (Or.inr (by decide))) (zs_eq hmm33)))))))))
  have r63 : 1 ≤ (m48 a0 17) ∧ (m48 a0 17) ≤ 8 := zi_rd hIm48 hc0 zb_28_17
  have e64 : (m48 a0 17) = (m46 a0 17) := (zfr_ap hfm48 hc0 rfl)
  have r65 : 1 ≤ (m48 a0 18) ∧ (m48 a0 18) ≤ 6 := zi_rd hIm48 hc0 zb_28_18
  have e66 : (m48 a0 18) = (m46 a0 18) := (zfr_ap hfm48 hc0 rfl)
  have r67 : 0 ≤ (m48 a0 20) ∧ (m48 a0 20) ≤ 4 := zi_rd hIm48 hc0 zb_28_20
  have e68 : (m48 a0 20) = (m46 a0 20) := (zfr_ap hfm48 hc0 rfl)
  have r69 : 0 ≤ (m48 a0 23) ∧ (m48 a0 23) ≤ 1 := zi_rd hIm48 hc0 zb_28_23
  have e70 : (m48 a0 23) = (m46 a0 23) := (zfr_ap hfm48 hc0 rfl)
  have hRC0m48 := zC0_keep (m2 := m48) (zone_190 hc0) (hvm48.2) hRCRm46 (by omega) (by omega) (by omega)
  have hRCRm48 := zCR_keep (m2 := m48) (zone_190 hc0) (hvm48.2) hRCRm46 (by omega) (by omega) (by omega) (by omega)
  refine zw_bd (zw_mono (zk_32_111 n hIm48 zq_202 ⟨by decide, by decide⟩) (fun v72 m71 hqm71 => ?_))
  obtain ⟨hIm71, hfm71, hvm71⟩ := hqm71
  have hFm71 := zfr_tr hFm48 hfm71 rfl
  have hLm71 : True := trivial
  have hRC0m71 := zR_C0_fr (zdis_fr hfm71 rfl) hRC0m48
  have hRCRm71 := zR_CR_fr (zdis_fr hfm71 rfl) hRCRm48
  have hRKNm71 := zR_KN_fr (zdis_fr hfm71 rfl) hRKNm48
  have hRLRm71 := zR_LR_fr (zdis_fr hfm71 rfl) hRLRm48
  refine zw_bd (zw_mono (zk_32_112 n hIm71 zq_203 ⟨by decide, by decide⟩) (fun v74 m73 hqm73 => ?_))
  obtain ⟨hIm73, hfm73, hvm73⟩ := hqm73
  have hFm73 := zfr_tr hFm71 hfm73 rfl
  have hLm73 : True := trivial
  have hRC0m73 := zR_C0_fr (zdis_fr hfm73 rfl) hRC0m71
  have hRCRm73 := zR_CR_fr (zdis_fr hfm73 rfl) hRCRm71
  have hRKNm73 := zR_KN_fr (zdis_fr hfm73 rfl) hRKNm71
  have hRLRm73 := zR_LR_fr (zdis_fr hfm73 rfl) hRLRm71
  refine zw_bd (zw_mono (zk_32_113 n hIm73 zq_204 ⟨by decide, by decide⟩) (fun v76 m75 hqm75 => ?_))
  obtain ⟨hIm75, hfm75, hvm75⟩ := hqm75
  have hFm75 := zfr_tr hFm73 hfm75 rfl
  have hLm75 : True := trivial
  have hRC0m75 := zR_C0_fr (zdis_fr hfm75 rfl) hRC0m73
  have hRCRm75 := zR_CR_fr (zdis_fr hfm75 rfl) hRCRm73
  have hRKNm75 := zR_KN_fr (zdis_fr hfm75 rfl) hRKNm73
  have hRLRm75 := zR_LR_fr (zdis_fr hfm75 rfl) hRLRm73
  have r77 : (-2147483648) ≤ (m75 a0 4) ∧ (m75 a0 4) ≤ 2147483647 := zi_rd hIm75 hc0 zb_28_4
  have e78 : (m75 a0 4) = (m0 a0 4) := (Eq.trans (zfr_ap hfm75 hc0 rfl) (Eq.trans (zfr_ap hfm73 hc0 rfl) (Eq.trans (zfr_ap hfm71 hc0 rfl) (Eq.trans (zfr_ap hfm48 hc0 rfl) (Eq.trans (zfr_ap hfm46 hc0 rfl) (Eq.trans (zfr_ap hfm44 hc0 rfl) (Eq.trans (zfr_ap hfm42 hc0 rfl) (Eq.trans (zfr_ap hfm40 hc0 rfl) (Eq.trans (zfr_ap hfm38 hc0 rfl) (Eq.trans (zfr_ap hfm36 hc0 rfl) (Eq.trans (zs_ne hmm35 (Or.inr (by decide))) (Eq.trans (zs_ne hmm33 (Or.inr (by decide))) (Eq.trans (zs_ne hmm31 (Or.inr (by decide))) (Eq.trans (zs_ne hmm29 (Or.inr (by decide))) (zs_ne hmm27 (Or.inr (by decide)))))))))))))))))
  have hM : (4 - 0) * 1 + 0 < ((5 : Nat) : Int) := by omega
  exact (zl_31s n (m0 := m0) hc0 hxp0 5) 0 m75 hIm75 hFm75 hLm75 ⟨by omega, by omega⟩ (fun k h0 h1 => by omega) (by omega) hRC0m75 hRCRm75 hRKNm75 hRLRm75 hM

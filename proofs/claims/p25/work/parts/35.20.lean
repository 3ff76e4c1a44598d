set_option maxHeartbeats 4000000 in
theorem zk_270 (n : Nat) {a0 : Int} {m0 : zu_m} (hIm0 : zi_I m0) (hc0 : zcls a0 = 3)   (he0 : 1 ≤ m0 45 4 ∧ m0 45 4 ≤ 1) (he1 : 11 ≤ m0 45 5 ∧ m0 45 5 ≤ 11)  (hRBNm0 : zR_BN m0) (hRK10m0 : zR_K10 m0) : zw (zu_call (zt_T n) 270 [(7, a0)] m0) (fun v m => zi_I m ∧ zfr [(3, 8), (3, 10), (3, 11), (5, 6), (5, 7), (9, 4), (9, 5), (9, 6), (9, 7), (10, 4), (10, 5), (10, 7), (10, 8), (33, 0), (34, 0), (35, 0), (36, 0), (47, 0), (48, 0)] m0 m ∧ zR_BN m ∧ zR_K10 m ∧ (0 ≤ v ∧ v ≤ 1)) := by
  have hFm0 : zfr [(3, 8), (3, 10), (3, 11), (5, 6), (5, 7), (9, 4), (9, 5), (9, 6), (9, 7), (10, 4), (10, 5), (10, 7), (10, 8), (33, 0), (34, 0), (35, 0), (36, 0), (47, 0), (48, 0)] m0 m0 := zfr_rf _ _
  refine zw_eq (zu_call_at (zt_T n) (zm_270 n) (zdp_270 n) _ _ _ _ _ rfl (zr_270_0 n _ _ a0 m0)) ?_
  refine zw_bd (zw_eq (zu_call_at (zt_T n) (zm_261 n) (zdp_261 n) _ _ _ _ _ rfl (zr_261_0 n _ _ a0 19 4 m0)) ?_)
  refine zw_bd (zw_mono (zk_18 n hIm0 zq_45) (fun v2 m1 hqm1 => ?_))
  obtain ⟨hIm1, hfm1, hvm1⟩ := hqm1
  have hFm1 := zfr_tr hFm0 hfm1 rfl
  obtain ⟨hRTVm1, hvm1⟩ := hvm1
  have hRBNm1 := zR_BN_fr (zdis_fr hfm1 rfl) hRBNm0
  have hRK10m1 := zR_K10_fr (zdis_fr hfm1 rfl) hRK10m0
  have s3 := hRTVm1 45 zq_45
  refine zw_bd (zw_eq (zu_call_at (zt_T n) (zm_279 n) (zdp_279 n) _ _ _ _ _ rfl (zr_279_0 n _ _ 45 19 4 m1)) ?_)
  have r4 : 0 ≤ (m1 45 4) ∧ (m1 45 4) ≤ 5 := zi_rd hIm1 zq_45 zb_9_4
  refine zw_ite (fun h5 => ?_) (fun h5 => ?_)
  · refine zw_b (by omega) ?_
    refine zw_some ?_
    refine zw_ite (fun h6 => ?_) (fun h6 => ?_)
    · exfalso; omega
    · refine zw_bd (zw_eq (zu_call_at (zt_T n) (zm_257 n) (zdp_257 n) _ _ _ _ _ rfl (zr_257_0 n _ _ a0 1 m1)) ?_)
      generalize hmm7 : zu_up m1 a0 9 1 = m7
      have hIm7 := zi_up hmm7 hIm1 hc0 zb_3_9 (by omega) (by omega)
      have hFm7 := zfr_up hmm7 hFm1 hc0 rfl
      have hRBNm7 := zR_BN_fr (zdis_fr (zfr_up hmm7 (zfr_rf [(3, 10)] _) hc0 rfl) rfl) hRBNm1
      have hRK10m7 := zR_K10_fr (zdis_fr (zfr_up hmm7 (zfr_rf [(3, 10)] _) hc0 rfl) rfl) hRK10m1
      have hRTVm7 := zR_TV_fr (zdis_fr (zfr_up hmm7 (zfr_rf [(3, 10)] _) hc0 rfl) rfl) hRTVm1
      have r8 : 0 ≤ (m7 45 6) ∧ (m7 45 6) ≤ 700 := zi_rd hIm7 zq_45 zb_9_6
      generalize hmm9 : zu_up m7 a0 10 (m7 45 6) = m9
      have hIm9 := zi_up hmm9 hIm7 hc0 zb_3_10 (by omega) (by omega)
      have hFm9 := zfr_up hmm9 hFm7 hc0 rfl
      have hRBNm9 := zR_BN_fr (zdis_fr (zfr_up hmm9 (zfr_rf [(3, 11)] _) hc0 rfl) rfl) hRBNm7
      have hRK10m9 := zR_K10_fr (zdis_fr (zfr_up hmm9 (zfr_rf [(3, 11)] _) hc0 rfl) rfl) hRK10m7
      have hRTVm9 := zR_TV_fr (zdis_fr (zfr_up hmm9 (zfr_rf [(3, 11)] _) hc0 rfl) rfl) hRTVm7
      refine zw_b (by omega) ?_
      refine zw_some ?_
      refine zw_b (by omega) ?_
      refine zw_some ?_
      refine zw_ite (fun h10 => ?_) (fun h10 => ?_)
      · exfalso; omega
      · refine zw_b (by omega) ?_
        exact zw_some ⟨hIm9, hFm9, hRBNm9, hRK10m9, ⟨by decide, by decide⟩⟩
  · have r11 : (-2147483648) ≤ (m1 45 5) ∧ (m1 45 5) ≤ 2147483647 := zi_rd hIm1 zq_45 zb_9_5
    refine zw_ite (fun h12 => ?_) (fun h12 => ?_)
    · refine zw_b (by omega) ?_
      refine zw_some ?_
      refine zw_ite (fun h13 => ?_) (fun h13 => ?_)
      · exfalso; omega
      · refine zw_bd (zw_eq (zu_call_at (zt_T n) (zm_257 n) (zdp_257 n) _ _ _ _ _ rfl (zr_257_0 n _ _ a0 1 m1)) ?_)
        generalize hmm14 : zu_up m1 a0 9 1 = m14
        have hIm14 := zi_up hmm14 hIm1 hc0 zb_3_9 (by omega) (by omega)
        have hFm14 := zfr_up hmm14 hFm1 hc0 rfl
        have hRBNm14 := zR_BN_fr (zdis_fr (zfr_up hmm14 (zfr_rf [(3, 10)] _) hc0 rfl) rfl) hRBNm1
        have hRK10m14 := zR_K10_fr (zdis_fr (zfr_up hmm14 (zfr_rf [(3, 10)] _) hc0 rfl) rfl) hRK10m1
        have hRTVm14 := zR_TV_fr (zdis_fr (zfr_up hmm14 (zfr_rf [(3, 10)] _) hc0 rfl) rfl) hRTVm1
        have r15 : 0 ≤ (m14 45 6) ∧ (m14 45 6) ≤ 700 := zi_rd hIm14 zq_45 zb_9_6
        generalize hmm16 : zu_up m14 a0 10 (m14 45 6) = m16
        have hIm16 := zi_up hmm16 hIm14 hc0 zb_3_10 (by omega) (by omega)
        have hFm16 := zfr_up hmm16 hFm14 hc0 rfl
        have hRBNm16 := zR_BN_fr (zdis_fr (zfr_up hmm16 (zfr_rf [(3, 11)] _) hc0 rfl) rfl) hRBNm14
        have hRK10m16 := zR_K10_fr (zdis_fr (zfr_up hmm16 (zfr_rf [(3, 11)] _) hc0 rfl) rfl) hRK10m14
        have hRTVm16 := zR_TV_fr (zdis_fr (zfr_up hmm16 (zfr_rf [(3, 11)] _) hc0 rfl) rfl) hRTVm14
        refine zw_b (by omega) ?_
        refine zw_some ?_
        refine zw_b (by omega) ?_
        refine zw_some ?_
        refine zw_ite (fun h17 => ?_) (fun h17 => ?_)
        · exfalso; omega
        · refine zw_b (by omega) ?_
          exact zw_some ⟨hIm16, hFm16, hRBNm16, hRK10m16, ⟨by decide, by decide⟩⟩
    · have w18 := zu_w32_id (z := 19 + 4) (by omega) (by omega)
      refine zw_ite (fun h19 => ?_) (fun h19 => ?_)
      · refine zw_b (by omega) ?_
        refine zw_some ?_
        refine zw_ite (fun h20 => ?_) (fun h20 => ?_)
        · exfalso; omega
        · refine zw_bd (zw_eq (zu_call_at (zt_T n) (zm_257 n) (zdp_257 n) _ _ _ _ _ rfl (zr_257_0 n _ _ a0 1 m1)) ?_)
          generalize hmm21 : zu_up m1 a0 9 1 = m21
          have hIm21 := zi_up hmm21 hIm1 hc0 zb_3_9 (by omega) (by omega)
          have hFm21 := zfr_up hmm21 hFm1 hc0 rfl
          have hRBNm21 := zR_BN_fr (zdis_fr (zfr_up hmm21 (zfr_rf [(3, 10)] _) hc0 rfl) rfl) hRBNm1
          have hRK10m21 := zR_K10_fr (zdis_fr (zfr_up hmm21 (zfr_rf [(3, 10)] _) hc0 rfl) rfl) hRK10m1
          have hRTVm21 := zR_TV_fr (zdis_fr (zfr_up hmm21 (zfr_rf [(3, 10)] _) hc0 rfl) rfl) hRTVm1
          have r22 : 0 ≤ (m21 45 6) ∧ (m21 45 6) ≤ 700 := zi_rd hIm21 zq_45 zb_9_6
          generalize hmm23 : zu_up m21 a0 10 (m21 45 6) = m23
          have hIm23 := zi_up hmm23 hIm21 hc0 zb_3_10 (by omega) (by omega)
          have hFm23 := zfr_up hmm23 hFm21 hc0 rfl
          have hRBNm23 := zR_BN_fr (zdis_fr (zfr_up hmm23 (zfr_rf [(3, 11)] _) hc0 rfl) rfl) hRBNm21
          have hRK10m23 := zR_K10_fr (zdis_fr (zfr_up hmm23 (zfr_rf [(3, 11)] _) hc0 rfl) rfl) hRK10m21
          have hRTVm23 := zR_TV_fr (zdis_fr (zfr_up hmm23 (zfr_rf [(3, 11)] _) hc0 rfl) rfl) hRTVm21
          refine zw_b (by omega) ?_
          refine zw_some ?_
          refine zw_b (by omega) ?_
          refine zw_some ?_
          refine zw_ite (fun h24 => ?_) (fun h24 => ?_)
          · exfalso; omega
          · refine zw_b (by omega) ?_
            exact zw_some ⟨hIm23, hFm23, hRBNm23, hRK10m23, ⟨by decide, by decide⟩⟩
      · refine zw_b (by omega) ?_
        refine zw_some ?_
        refine zw_ite (fun h25 => ?_) (fun h25 => ?_)
        · have w26 := zu_w32_id (z := (m1 45 5) - 19) (by omega) (by omega)
          generalize hmm27 : zu_up m1 a0 7 (zu_w32 ((m1 45 5) - 19)) = m27
          have hIm27 := zi_up hmm27 hIm1 hc0 zb_3_7 (by omega) (by omega)
          have hFm27 := zfr_up hmm27 hFm1 hc0 rfl
          have hRBNm27 := zR_BN_fr (zdis_fr (zfr_up hmm27 (zfr_rf [(3, 8)] _) hc0 rfl) rfl) hRBNm1
          have hRK10m27 := zR_K10_fr (zdis_fr (zfr_up hmm27 (zfr_rf [(3, 8)] _) hc0 rfl) rfl) hRK10m1
          have hRTVm27 := zR_TV_fr (zdis_fr (zfr_up hmm27 (zfr_rf [(3, 8)] _) hc0 rfl) rfl) hRTVm1
          refine zw_b (by omega) ?_
          refine zw_some ?_
          refine zw_ite (fun h28 => ?_) (fun h28 => ?_)
          · have r29 : (-2147483648) ≤ (m27 a0 7) ∧ (m27 a0 7) ≤ 2147483647 := zi_rd hIm27 hc0 zb_3_7
            have e30 : (m27 a0 7) = (zu_w32 ((m1 45 5) - 19)) := (zs_eq hmm27)
            have b31 : 0 ≤ (m27 a0 7) ∧ (m27 a0 7) < 4 := by omega
            refine zw_if b31 ?_
            have r32 : (-1) ≤ (m27 ((6 + 4) + 3) (m27 a0 7)) ∧ (m27 ((6 + 4) + 3) (m27 a0 7)) ≤ 64 := zi_rd hIm27 (zc_5_2 (zc_4_9 zq_6)) (zb_35 _)
            refine zw_ite (fun h33 => ?_) (fun h33 => ?_)
            · refine zw_bd (zw_mono (zk_198 n hIm27 zq_47 ⟨by omega, by omega⟩ hRBNm27 hRK10m27) (fun v35 m34 hqm34 => ?_))
              obtain ⟨hIm34, hfm34, hvm34⟩ := hqm34
              have hFm34 := zfr_tr hFm27 hfm34 rfl
              obtain ⟨hRBNm34, hRK10m34, hvm34⟩ := hvm34
              refine zw_ite (fun h36 => ?_) (fun h36 => ?_)
              · refine zw_b (by omega) ?_
                exact zw_some ⟨hIm34, hFm34, hRBNm34, hRK10m34, ⟨by decide, by decide⟩⟩
              · refine zw_bd (zw_eq (zu_call_at (zt_T n) (zm_257 n) (zdp_257 n) _ _ _ _ _ rfl (zr_257_0 n _ _ a0 v35 m34)) ?_)
                generalize hmm37 : zu_up m34 a0 9 v35 = m37
                have hIm37 := zi_up hmm37 hIm34 hc0 zb_3_9 (by omega) (by omega)
                have hFm37 := zfr_up hmm37 hFm34 hc0 rfl
                have hRBNm37 := zR_BN_fr (zdis_fr (zfr_up hmm37 (zfr_rf [(3, 10)] _) hc0 rfl) rfl) hRBNm34
                have hRK10m37 := zR_K10_fr (zdis_fr (zfr_up hmm37 (zfr_rf [(3, 10)] _) hc0 rfl) rfl) hRK10m34
                have r38 : 0 ≤ (m37 45 6) ∧ (m37 45 6) ≤ 700 := zi_rd hIm37 zq_45 zb_9_6
                generalize hmm39 : zu_up m37 a0 10 (m37 45 6) = m39
                have hIm39 := zi_up hmm39 hIm37 hc0 zb_3_10 (by omega) (by omega)
                have hFm39 := zfr_up hmm39 hFm37 hc0 rfl
                have hRBNm39 := zR_BN_fr (zdis_fr (zfr_up hmm39 (zfr_rf [(3, 11)] _) hc0 rfl) rfl) hRBNm37
                have hRK10m39 := zR_K10_fr (zdis_fr (zfr_up hmm39 (zfr_rf [(3, 11)] _) hc0 rfl) rfl) hRK10m37
                refine zw_b (by omega) ?_
                refine zw_some ?_
                refine zw_ite (fun h40 => ?_) (fun h40 => ?_)
                · refine zw_b (by omega) ?_
                  exact zw_some ⟨hIm39, hFm39, hRBNm39, hRK10m39, ⟨by decide, by decide⟩⟩
                · exfalso; omega
            · refine zw_bd (zw_eq (zu_call_at (zt_T n) (zm_257 n) (zdp_257 n) _ _ _ _ _ rfl (zr_257_0 n _ _ a0 3 m27)) ?_)
              generalize hmm41 : zu_up m27 a0 9 3 = m41
              have hIm41 := zi_up hmm41 hIm27 hc0 zb_3_9 (by omega) (by omega)
              have hFm41 := zfr_up hmm41 hFm27 hc0 rfl
              have hRBNm41 := zR_BN_fr (zdis_fr (zfr_up hmm41 (zfr_rf [(3, 10)] _) hc0 rfl) rfl) hRBNm27
              have hRK10m41 := zR_K10_fr (zdis_fr (zfr_up hmm41 (zfr_rf [(3, 10)] _) hc0 rfl) rfl) hRK10m27
              have hRTVm41 := zR_TV_fr (zdis_fr (zfr_up hmm41 (zfr_rf [(3, 10)] _) hc0 rfl) rfl) hRTVm27
              have r42 : 0 ≤ (m41 45 6) ∧ (m41 45 6) ≤ 700 := zi_rd hIm41 zq_45 zb_9_6
              generalize hmm43 : zu_up m41 a0 10 (m41 45 6) = m43
              have hIm43 := zi_up hmm43 hIm41 hc0 zb_3_10 (by omega) (by omega)
              have hFm43 := zfr_up hmm43 hFm41 hc0 rfl
              have hRBNm43 := zR_BN_fr (zdis_fr (zfr_up hmm43 (zfr_rf [(3, 11)] _) hc0 rfl) rfl) hRBNm41
              have hRK10m43 := zR_K10_fr (zdis_fr (zfr_up hmm43 (zfr_rf [(3, 11)] _) hc0 rfl) rfl) hRK10m41
              have hRTVm43 := zR_TV_fr (zdis_fr (zfr_up hmm43 (zfr_rf [(3, 11)] _) hc0 rfl) rfl) hRTVm41
              refine zw_b (by omega) ?_
              refine zw_some ?_
              refine zw_b (by omega) ?_
              exact zw_some ⟨hIm43, hFm43, hRBNm43, hRK10m43, ⟨by decide, by decide⟩⟩
          · exfalso; omega
        · exfalso; omega
set_option maxHeartbeats 4000000 in
theorem zl_290 (n : Nat) {a0 a1 a2 a3 : Int} {m0 : zu_m} (hc0 : zcls a0 = 24)   : ∀ k : Nat, (∀ (x4 : Int) (mh : zu_m), zi_I mh → zfr [(56, 0), (59, 1), (59, 2), (59, 3), (59, 4), (59, 5), (59, 6), (59, 7), (87, 0), (88, 0), (89, 0), (90, 0), (91, 0)] m0 mh → (0 ≤ a1 ∧ a1 ≤ 3) → (0 ≤ a2 ∧ a2 ≤ 47) → (1 ≤ a3 ∧ a3 ≤ 18) → (0 ≤ x4 ∧ x4 ≤ 18) → (zR_K54 mh) → (18 - x4) * 1 + 0 < (k : Int) → zw (zu_ex (zt_T n) 290 3 [(33, a0), (0, a1), (0, a2), (0, a3), (0, x4)] [] mh) (fun v m => zi_I m ∧ zfr [(56, 0), (59, 1), (59, 2), (59, 3), (59, 4), (59, 5), (59, 6), (59, 7), (87, 0), (88, 0), (89, 0), (90, 0), (91, 0)] m0 m ∧ zR_K54 m ∧ True)) := by
  intro k
  induction k with
  | zero => exact fun x4 mh hImh hFmh hba1 hba2 hba3 hbx4 hRK54mh hM => by exfalso; omega
  | succ k ih =>
    intro x4 mh hImh hFmh hba1 hba2 hba3 hbx4 hRK54mh hM
    refine zw_eq (zu_rega_at (zt_T n) (zm_290 n) (zdp_290 n) _ _ _ _ _ _ (zr_290_3 n _ _ a0 a1 a2 a3 x4 mh)) ?_
    refine zw_ite (fun h1 => ?_) (fun h1 => ?_)
    · exact zw_some ⟨hImh, hFmh, hRK54mh, trivial⟩
    · refine zw_ite (fun h2 => ?_) (fun h2 => ?_)
      · exfalso; omega
      · have b3 : 0 ≤ a2 ∧ a2 < 48 := by omega
        refine zw_if b3 ?_
        have r4 : (-2147483648) ≤ (mh 157 a2) ∧ (mh 157 a2) ≤ 2147483647 := zi_rd hImh zq_157 (zb_88 _)
        refine zw_ite (fun h5 => ?_) (fun h5 => ?_)
        · exact zw_some ⟨hImh, hFmh, hRK54mh, trivial⟩
        · have b6 : 0 ≤ x4 ∧ x4 < 18 := by omega
          refine zw_if b6 ?_
          have r7 : 0 ≤ (mh 156 x4) ∧ (mh 156 x4) ≤ 1 := zi_rd hImh zq_156 (zb_87 _)
          refine zw_ite (fun h8 => ?_) (fun h8 => ?_)
          · have w9 := zu_w32_id (z := x4 + 1) (by omega) (by omega)
            have hM : (18 - (zu_w32 (x4 + 1))) * 1 + 0 < (k : Int) := by omega
            exact ih (zu_w32 (x4 + 1)) mh hImh hFmh ⟨by omega, by omega⟩ ⟨by omega, by omega⟩ ⟨by omega, by omega⟩ ⟨by omega, by omega⟩ hRK54mh hM
          · have b10 : 0 ≤ x4 ∧ x4 < 18 := by omega
            refine zw_if b10 ?_
            have r11 : 0 ≤ (mh 155 x4) ∧ (mh 155 x4) ≤ 47 := zi_rd hImh zq_155 (zb_86 _)
            refine zw_ite (fun h12 => ?_) (fun h12 => ?_)
            · have w13 := zu_w32_id (z := x4 + 1) (by omega) (by omega)
              have hM : (18 - (zu_w32 (x4 + 1))) * 1 + 0 < (k : Int) := by omega
              exact ih (zu_w32 (x4 + 1)) mh hImh hFmh ⟨by omega, by omega⟩ ⟨by omega, by omega⟩ ⟨by omega, by omega⟩ ⟨by omega, by omega⟩ hRK54mh hM
            · refine zw_bd (zw_mono (zk_291 n hImh hc0 ⟨by omega, by omega⟩ ⟨by omega, by omega⟩ hRK54mh) (fun v15 m14 hqm14 => ?_))
              obtain ⟨hIm14, hfm14, hvm14⟩ := hqm14
              have hFm14 := zfr_tr hFmh hfm14 rfl
              obtain ⟨hRK54m14, hvm14⟩ := hvm14
              refine zw_ite (fun h16 => ?_) (fun h16 => ?_)
              · have w17 := zu_w32_id (z := x4 + 1) (by omega) (by omega)
                have hM : (18 - (zu_w32 (x4 + 1))) * 1 + 0 < (k : Int) := by omega
                exact ih (zu_w32 (x4 + 1)) m14 hIm14 hFm14 ⟨by omega, by omega⟩ ⟨by omega, by omega⟩ ⟨by omega, by omega⟩ ⟨by omega, by omega⟩ hRK54m14 hM
              · refine zw_b (by omega) ?_
                have b18 : 0 ≤ x4 ∧ x4 < 18 := by omega
                refine zw_if b18 ?_
                generalize hmm19 : zu_up m14 156 x4 1 = m19
                have hIm19 := zi_up hmm19 hIm14 zq_156 (zb_87 _) (by omega) (by omega)
                have hFm19 := zfr_up hmm19 hFm14 zq_156 rfl
                have hRK54m19 := zR_K54_fr (zdis_fr (zfr_up hmm19 (zfr_rf [(87, 0)] _) zq_156 rfl) rfl) hRK54m14
                have b20 : 0 ≤ a2 ∧ a2 < 48 := by omega
                refine zw_if b20 ?_
                have r21 : (-2147483648) ≤ (m19 157 a2) ∧ (m19 157 a2) ≤ 2147483647 := zi_rd hIm19 zq_157 (zb_88 _)
                have e22 : (m19 157 a2) = (mh 157 a2) := (Eq.trans (zs_ne hmm19 (Or.inl (zc_ne zq_157 zq_156 (by decide)))) (zfr_ap hfm14 zq_157 rfl))
                have w23 := zu_w32_id (z := (m19 157 a2) - 1) (by omega) (by omega)
                have b24 : 0 ≤ a2 ∧ a2 < 48 := by omega
                refine zw_if b24 ?_
                generalize hmm25 : zu_up m19 157 a2 (zu_w32 ((m19 157 a2) - 1)) = m25
                have hIm25 := zi_up hmm25 hIm19 zq_157 (zb_88 _) (by omega) (by omega)
                have hFm25 := zfr_up hmm25 hFm19 zq_157 rfl
                have hRK54m25 := zR_K54_fr (zdis_fr (zfr_up hmm25 (zfr_rf [(88, 0)] _) zq_157 rfl) rfl) hRK54m19
                have b26 : 0 ≤ a1 ∧ a1 < 4 := by omega
                refine zw_if b26 ?_
                have r27 : (-2147483648) ≤ (m25 158 a1) ∧ (m25 158 a1) ≤ 2147483647 := zi_rd hIm25 zq_158 (zb_89 _)
                have w28 := zu_w32_rg ((m25 158 a1) + 1)
                have b29 : 0 ≤ a1 ∧ a1 < 4 := by omega
                refine zw_if b29 ?_
                generalize hmm30 : zu_up m25 158 a1 (zu_w32 ((m25 158 a1) + 1)) = m30
                have hIm30 := zi_up hmm30 hIm25 zq_158 (zb_89 _) (by omega) (by omega)
                have hFm30 := zfr_up hmm30 hFm25 zq_158 rfl
                have hRK54m30 := zR_K54_fr (zdis_fr (zfr_up hmm30 (zfr_rf [(89, 0)] _) zq_158 rfl) rfl) hRK54m25
                have w31 := zu_w32_id (z := x4 + 1) (by omega) (by omega)
                have hM : (18 - (zu_w32 (x4 + 1))) * 1 + 0 < (k : Int) := by omega
                exact ih (zu_w32 (x4 + 1)) m30 hIm30 hFm30 ⟨by omega, by omega⟩ ⟨by omega, by omega⟩ ⟨by omega, by omega⟩ ⟨by omega, by omega⟩ hRK54m30 hM
set_option maxHeartbeats 4000000 in
theorem zk_290 (n : Nat) {a0 a1 a2 a3 : Int} {m0 : zu_m} (hIm0 : zi_I m0) (hc0 : zcls a0 = 24) (ha1 : 0 ≤ a1 ∧ a1 ≤ 3) (ha2 : 0 ≤ a2 ∧ a2 ≤ 47) (ha3 : 1 ≤ a3 ∧ a3 ≤ 18)    (hRK54m0 : zR_K54 m0) : zw (zu_call (zt_T n) 290 [(33, a0), (0, a1), (0, a2), (0, a3)] m0) (fun v m => zi_I m ∧ zfr [(56, 0), (59, 1), (59, 2), (59, 3), (59, 4), (59, 5), (59, 6), (59, 7), (87, 0), (88, 0), (89, 0), (90, 0), (91, 0)] m0 m ∧ zR_K54 m ∧ True) := by
  have hFm0 : zfr [(56, 0), (59, 1), (59, 2), (59, 3), (59, 4), (59, 5), (59, 6), (59, 7), (87, 0), (88, 0), (89, 0), (90, 0), (91, 0)] m0 m0 := zfr_rf _ _
  refine zw_eq (zu_call_at (zt_T n) (zm_290 n) (zdp_290 n) _ _ _ _ _ rfl (zr_290_0 n _ _ a0 a1 a2 a3 m0)) ?_
  have hM : (18 - 0) * 1 + 0 < ((19 : Nat) : Int) := by omega
  exact (zl_290 n (m0 := m0) hc0 19) 0 m0 hIm0 hFm0 ⟨by omega, by omega⟩ ⟨by omega, by omega⟩ ⟨by omega, by omega⟩ ⟨by omega, by omega⟩ hRK54m0 hM
set_option maxHeartbeats 4000000 in
theorem zl_33 (n : Nat) {a0 : Int} {m0 : zu_m} (hc0 : zcls a0 = 28)   : ∀ k : Nat, (∀ (x1 : Int) (mh : zu_m), zi_I mh → zfr [(28, 54), (28, 63), (28, 64), (28, 65), (28, 66), (28, 67), (28, 68), (28, 69), (28, 70), (28, 78), (28, 79), (28, 82), (28, 84), (122, 0), (123, 0), (124, 0), (125, 0), (126, 0), (127, 0), (128, 0), (129, 0), (130, 0), (131, 0)] m0 mh → (0 ≤ x1 ∧ x1 ≤ 4) → ((-1) ≤ mh a0 62 ∧ mh a0 62 ≤ 99999) → ((-1) ≤ mh a0 63 ∧ mh a0 63 ≤ 99999) → (zR_C0 mh) → (zR_KN mh) → (zR_LT mh) → (zE1 mh 0) → (zR_TE mh) → (4 - x1) * 1 + 49 < (k : Int) → zw (zu_ex (zt_T n) 33 32 [(40, a0), (0, x1)] [] mh) (fun v m => zi_I m ∧ zfr [(28, 54), (28, 63), (28, 64), (28, 65), (28, 66), (28, 67), (28, 68), (28, 69), (28, 70), (28, 78), (28, 79), (28, 82), (28, 84), (122, 0), (123, 0), (124, 0), (125, 0), (126, 0), (127, 0), (128, 0), (129, 0), (130, 0), (131, 0)] m0 m ∧ zR_C0 m ∧ zR_KN m ∧ zR_LT m ∧ zR_RI m ∧ zR_RU m ∧ zE1 m 0 ∧ zR_TE m ∧ True ∧ ((-1) ≤ m a0 62 ∧ m a0 62 ≤ 99999) ∧ ((-1) ≤ m a0 63 ∧ m a0 63 ≤ 99999) ∧ (0 ≤ m a0 77 ∧ m a0 77 ≤ 0) ∧ ((-1) ≤ m a0 78 ∧ m a0 78 ≤ (-1)) ∧ (0 ≤ m a0 81 ∧ m a0 81 ≤ 0) ∧ (0 ≤ m a0 83 ∧ m a0 83 ≤ 0))) ∧ (∀ (x1 : Int) (mh : zu_m), zi_I mh → zfr [(28, 54), (28, 63), (28, 64), (28, 65), (28, 66), (28, 67), (28, 68), (28, 69), (28, 70), (28, 78), (28, 79), (28, 82), (28, 84), (122, 0), (123, 0), (124, 0), (125, 0), (126, 0), (127, 0), (128, 0), (129, 0), (130, 0), (131, 0)] m0 mh → (0 ≤ x1 ∧ x1 ≤ 48) → ((-1) ≤ mh a0 62 ∧ mh a0 62 ≤ 99999) → ((-1) ≤ mh a0 63 ∧ mh a0 63 ≤ 99999) → (zR_C0 mh) → (zR_KN mh) → (zR_LT mh) → (zE1 mh 0) → (zR_TE mh) → (48 - x1) * 1 + 0 < (k : Int) → zw (zu_ex (zt_T n) 33 52 [(40, a0), (0, x1)] [] mh) (fun v m => zi_I m ∧ zfr [(28, 54), (28, 63), (28, 64), (28, 65), (28, 66), (28, 67), (28, 68), (28, 69), (28, 70), (28, 78), (28, 79), (28, 82), (28, 84), (122, 0), (123, 0), (124, 0), (125, 0), (126, 0), (127, 0), (128, 0), (129, 0), (130, 0), (131, 0)] m0 m ∧ zR_C0 m ∧ zR_KN m ∧ zR_LT m ∧ zR_RI m ∧ zR_RU m ∧ zE1 m 0 ∧ zR_TE m ∧ True ∧ ((-1) ≤ m a0 62 ∧ m a0 62 ≤ 99999) ∧ ((-1) ≤ m a0 63 ∧ m a0 63 ≤ 99999) ∧ (0 ≤ m a0 77 ∧ m a0 77 ≤ 0) ∧ ((-1) ≤ m a0 78 ∧ m a0 78 ≤ (-1)) ∧ (0 ≤ m a0 81 ∧ m a0 81 ≤ 0) ∧ (0 ≤ m a0 83 ∧ m a0 83 ≤ 0))) := by
  intro k
  induction k with
  | zero => exact ⟨fun x1 mh hImh hFmh hbx1 hg1 hg2 hRC0mh hRKNmh hRLTmh hRSEmh hRTEmh hM => by exfalso; omega, fun x1 mh hImh hFmh hbx1 hg1 hg2 hRC0mh hRKNmh hRLTmh hRSEmh hRTEmh hM => by exfalso; omega⟩
  | succ k ih =>
    refine ⟨?_, ?_⟩
    · intro x1 mh hImh hFmh hbx1 hg1 hg2 hRC0mh hRKNmh hRLTmh hRSEmh hRTEmh hM
      refine zw_eq (zu_rega_at (zt_T n) (zm_33 n) (zdp_33 n) _ _ _ _ _ _ (zr_33_32 n _ _ a0 x1 mh)) ?_
      refine zw_ite (fun h1 => ?_) (fun h1 => ?_)
      · have hM : (48 - 0) * 1 + 0 < (k : Int) := by omega
        exact ih.2 0 mh hImh hFmh ⟨by omega, by omega⟩ ⟨by omega, by omega⟩ ⟨by omega, by omega⟩ hRC0mh hRKNmh hRLTmh hRSEmh hRTEmh hM
      · have b2 : 0 ≤ x1 ∧ x1 < 4 := by omega
        refine zw_if b2 ?_
        generalize hmm3 : zu_up mh 219 x1 0 = m3
        have hIm3 := zi_up hmm3 hImh zq_219 (zb_128 _) (by omega) (by omega)
        have hFm3 := zfr_up hmm3 hFmh zq_219 rfl
        have hRC0m3 := zR_C0_fr (zdis_fr (zfr_up hmm3 (zfr_rf [(128, 0)] _) zq_219 rfl) rfl) hRC0mh
        have hRKNm3 := zR_KN_fr (zdis_fr (zfr_up hmm3 (zfr_rf [(128, 0)] _) zq_219 rfl) rfl) hRKNmh
        have hRLTm3 := zR_LT_fr (zdis_fr (zfr_up hmm3 (zfr_rf [(128, 0)] _) zq_219 rfl) rfl) hRLTmh
        have hRSEm3 := zR_SE_fr (zdis_fr (zfr_up hmm3 (zfr_rf [(128, 0)] _) zq_219 rfl) rfl) hRSEmh
        have hRTEm3 := zR_TE_fr (zdis_fr (zfr_up hmm3 (zfr_rf [(128, 0)] _) zq_219 rfl) rfl) hRTEmh
        have w4 := zu_w32_id (z := x1 + 1) (by omega) (by omega)
        have r5 : (-2147483648) ≤ (m3 a0 62) ∧ (m3 a0 62) ≤ 2147483647 := zi_rd hIm3 hc0 zb_28_62
        have e6 : (m3 a0 62) = (mh a0 62) := (zs_ne hmm3 (Or.inl (zc_ne hc0 zq_219 (by decide))))
        have r7 : (-9223372036854775808) ≤ (m3 a0 63) ∧ (m3 a0 63) ≤ 9223372036854775807 := zi_rd hIm3 hc0 zb_28_63
        have e8 : (m3 a0 63) = (mh a0 63) := (zs_ne hmm3 (Or.inl (zc_ne hc0 zq_219 (by decide))))
        have hM : (4 - (zu_w32 (x1 + 1))) * 1 + 49 < (k : Int) := by omega
        exact ih.1 (zu_w32 (x1 + 1)) m3 hIm3 hFm3 ⟨by omega, by omega⟩ ⟨by omega, by omega⟩ ⟨by omega, by omega⟩ hRC0m3 hRKNm3 hRLTm3 hRSEm3 hRTEm3 hM
    · intro x1 mh hImh hFmh hbx1 hg1 hg2 hRC0mh hRKNmh hRLTmh hRSEmh hRTEmh hM
      refine zw_eq (zu_rega_at (zt_T n) (zm_33 n) (zdp_33 n) _ _ _ _ _ _ (zr_33_52 n _ _ a0 x1 mh)) ?_
      refine zw_ite (fun h9 => ?_) (fun h9 => ?_)
      · generalize hmm10 : zu_up mh a0 77 0 = m10
        have hIm10 := zi_up hmm10 hImh hc0 zb_28_77 (by omega) (by omega)
        have hFm10 := zfr_up hmm10 hFmh hc0 rfl
        have hRC0m10 := zR_C0_fr (zdis_fr (zfr_up hmm10 (zfr_rf [(28, 78)] _) hc0 rfl) rfl) hRC0mh
        have hRKNm10 := zR_KN_fr (zdis_fr (zfr_up hmm10 (zfr_rf [(28, 78)] _) hc0 rfl) rfl) hRKNmh
        have hRLTm10 := zR_LT_fr (zdis_fr (zfr_up hmm10 (zfr_rf [(28, 78)] _) hc0 rfl) rfl) hRLTmh
        have hRSEm10 := zR_SE_fr (zdis_fr (zfr_up hmm10 (zfr_rf [(28, 78)] _) hc0 rfl) rfl) hRSEmh
        have hRTEm10 := zR_TE_fr (zdis_fr (zfr_up hmm10 (zfr_rf [(28, 78)] _) hc0 rfl) rfl) hRTEmh
        generalize hmm11 : zu_up m10 a0 78 (-1) = m11
        have hIm11 := zi_up hmm11 hIm10 hc0 zb_28_78 (by omega) (by omega)
        have hFm11 := zfr_up hmm11 hFm10 hc0 rfl
        have hRC0m11 := zR_C0_fr (zdis_fr (zfr_up hmm11 (zfr_rf [(28, 79)] _) hc0 rfl) rfl) hRC0m10
        have hRKNm11 := zR_KN_fr (zdis_fr (zfr_up hmm11 (zfr_rf [(28, 79)] _) hc0 rfl) rfl) hRKNm10
        have hRLTm11 := zR_LT_fr (zdis_fr (zfr_up hmm11 (zfr_rf [(28, 79)] _) hc0 rfl) rfl) hRLTm10
        have hRSEm11 := zR_SE_fr (zdis_fr (zfr_up hmm11 (zfr_rf [(28, 79)] _) hc0 rfl) rfl) hRSEm10
        have hRTEm11 := zR_TE_fr (zdis_fr (zfr_up hmm11 (zfr_rf [(28, 79)] _) hc0 rfl) rfl) hRTEm10
        generalize hmm12 : zu_up m11 a0 81 0 = m12
        have hIm12 := zi_up hmm12 hIm11 hc0 zb_28_81 (by omega) (by omega)
        have hFm12 := zfr_up hmm12 hFm11 hc0 rfl
        have hRC0m12 := zR_C0_fr (zdis_fr (zfr_up hmm12 (zfr_rf [(28, 82)] _) hc0 rfl) rfl) hRC0m11
        have hRKNm12 := zR_KN_fr (zdis_fr (zfr_up hmm12 (zfr_rf [(28, 82)] _) hc0 rfl) rfl) hRKNm11
        have hRLTm12 := zR_LT_fr (zdis_fr (zfr_up hmm12 (zfr_rf [(28, 82)] _) hc0 rfl) rfl) hRLTm11
        have hRSEm12 := zR_SE_fr (zdis_fr (zfr_up hmm12 (zfr_rf [(28, 82)] _) hc0 rfl) rfl) hRSEm11
        have hRTEm12 := zR_TE_fr (zdis_fr (zfr_up hmm12 (zfr_rf [(28, 82)] _) hc0 rfl) rfl) hRTEm11
        have hRRUm12 := zRU_zero (m := m12) (zone_190 hc0) (by rw [zs_eq hmm12]; decide)
        refine zw_b (by omega) ?_
        generalize hmm13 : zu_up m12 a0 83 0 = m13
        have hIm13 := zi_up hmm13 hIm12 hc0 zb_28_83 (by omega) (by omega)
        have hFm13 := zfr_up hmm13 hFm12 hc0 rfl
        have hRC0m13 := zR_C0_fr (zdis_fr (zfr_up hmm13 (zfr_rf [(28, 84)] _) hc0 rfl) rfl) hRC0m12
        have hRKNm13 := zR_KN_fr (zdis_fr (zfr_up hmm13 (zfr_rf [(28, 84)] _) hc0 rfl) rfl) hRKNm12
        have hRLTm13 := zR_LT_fr (zdis_fr (zfr_up hmm13 (zfr_rf [(28, 84)] _) hc0 rfl) rfl) hRLTm12
        have hRRUm13 := zR_RU_fr (zdis_fr (zfr_up hmm13 (zfr_rf [(28, 84)] _) hc0 rfl) rfl) hRRUm12
        have hRSEm13 := zR_SE_fr (zdis_fr (zfr_up hmm13 (zfr_rf [(28, 84)] _) hc0 rfl) rfl) hRSEm12
        have hRTEm13 := zR_TE_fr (zdis_fr (zfr_up hmm13 (zfr_rf [(28, 84)] _) hc0 rfl) rfl) hRTEm12
        have hRRIm13 := zRI_zero (m := m13) (zone_190 hc0) (zs_eq hmm13)
        have r14 : (-2147483648) ≤ (m13 a0 62) ∧ (m13 a0 62) ≤ 2147483647 := zi_rd hIm13 hc0 zb_28_62
        have e15 : (m13 a0 62) = (mh a0 62) := (Eq.trans (zs_ne hmm13 (Or.inr (by decide))) (Eq.trans (zs_ne hmm12 (Or.inr (by decide))) (Eq.trans (zs_ne hmm11 (Or.inr (by decide))) (zs_ne hmm10 (Or.inr (by decide))))))
        have r16 : (-9223372036854775808) ≤ (m13 a0 63) ∧ (m13 a0 63) ≤ 9223372036854775807 := zi_rd hIm13 hc0 zb_28_63
        have e17 : (m13 a0 63) = (mh a0 63) := (Eq.trans (zs_ne hmm13 (Or.inr (by decide))) (Eq.trans (zs_ne hmm12 (Or.inr (by decide))) (Eq.trans (zs_ne hmm11 (Or.inr (by decide))) (zs_ne hmm10 (Or.inr (by decide))))))
        have r18 : 0 ≤ (m13 a0 77) ∧ (m13 a0 77) ≤ 24 := zi_rd hIm13 hc0 zb_28_77
        have e19 : (m13 a0 77) = 0 := (Eq.trans (zs_ne hmm13 (Or.inr (by decide))) (Eq.trans (zs_ne hmm12 (Or.inr (by decide))) (Eq.trans (zs_ne hmm11 (Or.inr (by decide))) (zs_eq hmm10))))
        have r20 : (-1) ≤ (m13 a0 78) ∧ (m13 a0 78) ≤ 24 := zi_rd hIm13 hc0 zb_28_78
        have e21 : (m13 a0 78) = (-1) := (Eq.trans (zs_ne hmm13 (Or.inr (by decide))) (Eq.trans (zs_ne hmm12 (Or.inr (by decide))) (zs_eq hmm11)))
        have r22 : 0 ≤ (m13 a0 81) ∧ (m13 a0 81) ≤ 20 := zi_rd hIm13 hc0 zb_28_81
        have e23 : (m13 a0 81) = 0 := (Eq.trans (zs_ne hmm13 (Or.inr (by decide))) (zs_eq hmm12))
        have r24 : 0 ≤ (m13 a0 83) ∧ (m13 a0 83) ≤ 1 := zi_rd hIm13 hc0 zb_28_83
        have e25 : (m13 a0 83) = 0 := (zs_eq hmm13)
        exact zw_some ⟨hIm13, hFm13, hRC0m13, hRKNm13, hRLTm13, hRRIm13, hRRUm13, hRSEm13, hRTEm13, trivial, ⟨by omega, by omega⟩, ⟨by omega, by omega⟩, ⟨by omega, by omega⟩, ⟨by omega, by omega⟩, ⟨by omega, by omega⟩, ⟨by omega, by omega⟩⟩
      · refine zw_bd (zw_eq (zu_call_at (zt_T n) (zm_36 n) (zdp_36 n) _ _ _ _ _ rfl (zr_36_0 n _ _ a0 mh)) ?_)
        have r26 : 1 ≤ (mh a0 12) ∧ (mh a0 12) ≤ 8 := zi_rd hImh hc0 zb_28_12
        have r27 : 1 ≤ (mh a0 13) ∧ (mh a0 13) ≤ 6 := zi_rd hImh hc0 zb_28_13
        have p28 := zmul_bd (x := (mh a0 12)) (y := (mh a0 13)) (a := 1) (b := 1) (A := 8) (B := 6) (by omega) (by omega) (by omega) (by omega) (by omega) (by omega)
        have w29 := zu_w32_id (z := (mh a0 12) * (mh a0 13)) (by omega) (by omega)
        refine zw_some ?_
        refine zw_ite (fun h30 => ?_) (fun h30 => ?_)
        · have b31 : 0 ≤ x1 ∧ x1 < 48 := by omega
          refine zw_if b31 ?_
          generalize hmm32 : zu_up mh 222 x1 0 = m32
          have hIm32 := zi_up hmm32 hImh zq_222 (zb_131 _) (by omega) (by omega)
          have hFm32 := zfr_up hmm32 hFmh zq_222 rfl
          have hRC0m32 := zR_C0_fr (zdis_fr (zfr_up hmm32 (zfr_rf [(131, 0)] _) zq_222 rfl) rfl) hRC0mh
          have hRKNm32 := zR_KN_fr (zdis_fr (zfr_up hmm32 (zfr_rf [(131, 0)] _) zq_222 rfl) rfl) hRKNmh
          have hRLTm32 := zR_LT_fr (zdis_fr (zfr_up hmm32 (zfr_rf [(131, 0)] _) zq_222 rfl) rfl) hRLTmh
          have hRSEm32 := zR_SE_fr (zdis_fr (zfr_up hmm32 (zfr_rf [(131, 0)] _) zq_222 rfl) rfl) hRSEmh
          have hRTEm32 := zR_TE_fr (zdis_fr (zfr_up hmm32 (zfr_rf [(131, 0)] _) zq_222 rfl) rfl) hRTEmh
          have w33 := zu_w32_id (z := x1 + 1) (by omega) (by omega)
          have r34 : (-2147483648) ≤ (m32 a0 62) ∧ (m32 a0 62) ≤ 2147483647 := zi_rd hIm32 hc0 zb_28_62
          have e35 : (m32 a0 62) = (mh a0 62) := (zs_ne hmm32 (Or.inl (zc_ne hc0 zq_222 (by decide))))
          have r36 : (-9223372036854775808) ≤ (m32 a0 63) ∧ (m32 a0 63) ≤ 9223372036854775807 := zi_rd hIm32 hc0 zb_28_63
          have e37 : (m32 a0 63) = (mh a0 63) := (zs_ne hmm32 (Or.inl (zc_ne hc0 zq_222 (by decide))))
          have hM : (48 - (zu_w32 (x1 + 1))) * 1 + 0 < (k : Int) := by omega
          exact ih.2 (zu_w32 (x1 + 1)) m32 hIm32 hFm32 ⟨by omega, by omega⟩ ⟨by omega, by omega⟩ ⟨by omega, by omega⟩ hRC0m32 hRKNm32 hRLTm32 hRSEm32 hRTEm32 hM
        · refine zw_bd (zw_mono (zk_37 n hImh hc0 ⟨by omega, by omega⟩ hRKNmh hRLTmh) (fun v39 m38 hqm38 => ?_))
          obtain ⟨hIm38, hfm38, hvm38⟩ := hqm38
          have hFm38 := zfr_tr hFmh hfm38 rfl
          obtain ⟨hRKNm38, hRLTm38, hvm38⟩ := hvm38
          have hRC0m38 := zR_C0_fr (zdis_fr hfm38 rfl) hRC0mh
          have hRSEm38 := zR_SE_fr (zdis_fr hfm38 rfl) hRSEmh
          have hRTEm38 := zR_TE_fr (zdis_fr hfm38 rfl) hRTEmh
          have w40 := zu_w32_id (z := 1000 * v39) (by omega) (by omega)
          have b41 : 0 ≤ x1 ∧ x1 < 48 := by omega
          refine zw_if b41 ?_
          generalize hmm42 : zu_up m38 222 x1 (zu_w32 (1000 * v39)) = m42
          have hIm42 := zi_up hmm42 hIm38 zq_222 (zb_131 _) (by omega) (by omega)
          have hFm42 := zfr_up hmm42 hFm38 zq_222 rfl
          have hRC0m42 := zR_C0_fr (zdis_fr (zfr_up hmm42 (zfr_rf [(131, 0)] _) zq_222 rfl) rfl) hRC0m38
          have hRKNm42 := zR_KN_fr (zdis_fr (zfr_up hmm42 (zfr_rf [(131, 0)] _) zq_222 rfl) rfl) hRKNm38
          have hRLTm42 := zR_LT_fr (zdis_fr (zfr_up hmm42 (zfr_rf [(131, 0)] _) zq_222 rfl) rfl) hRLTm38
          have hRSEm42 := zR_SE_fr (zdis_fr (zfr_up hmm42 (zfr_rf [(131, 0)] _) zq_222 rfl) rfl) hRSEm38
          have hRTEm42 := zR_TE_fr (zdis_fr (zfr_up hmm42 (zfr_rf [(131, 0)] _) zq_222 rfl) rfl) hRTEm38
          have w43 := zu_w32_id (z := x1 + 1) (by omega) (by omega)
          have r44 : (-2147483648) ≤ (m42 a0 62) ∧ (m42 a0 62) ≤ 2147483647 := zi_rd hIm42 hc0 zb_28_62
          have e45 : (m42 a0 62) = (mh a0 62) := (Eq.trans (zs_ne hmm42 (Or.inl (zc_ne hc0 zq_222 (by decide)))) (zfr_ap hfm38 hc0 rfl))
          have r46 : (-9223372036854775808) ≤ (m42 a0 63) ∧ (m42 a0 63) ≤ 9223372036854775807 := zi_rd hIm42 hc0 zb_28_63
          have e47 : (m42 a0 63) = (mh a0 63) := (Eq.trans (zs_ne hmm42 (Or.inl (zc_ne hc0 zq_222 (by decide)))) (zfr_ap hfm38 hc0 rfl))
          have hM : (48 - (zu_w32 (x1 + 1))) * 1 + 0 < (k : Int) := by omega
          exact ih.2 (zu_w32 (x1 + 1)) m42 hIm42 hFm42 ⟨by omega, by omega⟩ ⟨by omega, by omega⟩ ⟨by omega, by omega⟩ hRC0m42 hRKNm42 hRLTm42 hRSEm42 hRTEm42 hM
set_option maxHeartbeats 4000000 in
theorem zk_33 (n : Nat) {a0 : Int} {m0 : zu_m} (hIm0 : zi_I m0) (hc0 : zcls a0 = 28)     (hRC0m0 : zR_C0 m0) (hRKNm0 : zR_KN m0) (hRLTm0 : zR_LT m0) : zw (zu_call (zt_T n) 33 [(40, a0)] m0) (fun v m => zi_I m ∧ zfr [(28, 54), (28, 63), (28, 64), (28, 65), (28, 66), (28, 67), (28, 68), (28, 69), (28, 70), (28, 78), (28, 79), (28, 82), (28, 84), (122, 0), (123, 0), (124, 0), (125, 0), (126, 0), (127, 0), (128, 0), (129, 0), (130, 0), (131, 0)] m0 m ∧ zR_C0 m ∧ zR_KN m ∧ zR_LT m ∧ zR_RI m ∧ zR_RU m ∧ zE1 m 0 ∧ zR_TE m ∧ True ∧ ((-1) ≤ m a0 62 ∧ m a0 62 ≤ 99999) ∧ ((-1) ≤ m a0 63 ∧ m a0 63 ≤ 99999) ∧ (0 ≤ m a0 77 ∧ m a0 77 ≤ 0) ∧ ((-1) ≤ m a0 78 ∧ m a0 78 ≤ (-1)) ∧ (0 ≤ m a0 81 ∧ m a0 81 ≤ 0) ∧ (0 ≤ m a0 83 ∧ m a0 83 ≤ 0)) := by
  have hFm0 : zfr [(28, 54), (28, 63), (28, 64), (28, 65), (28, 66), (28, 67), (28, 68), (28, 69), (28, 70), (28, 78), (28, 79), (28, 82), (28, 84), (122, 0), (123, 0), (124, 0), (125, 0), (126, 0), (127, 0), (128, 0), (129, 0), (130, 0), (131, 0)] m0 m0 := zfr_rf _ _
  refine zw_eq (zu_call_at (zt_T n) (zm_33 n) (zdp_33 n) _ _ _ _ _ rfl (zr_33_0 n _ _ a0 m0)) ?_
  refine zw_bd (zw_mono (zk_34 n hIm0 hc0 ⟨by decide, by decide⟩ hRC0m0) (fun v49 m48 hqm48 => ?_))
  obtain ⟨hIm48, hfm48, hvm48⟩ := hqm48
  have hFm48 := zfr_tr hFm0 hfm48 rfl
  obtain ⟨hRC0m48, hRSEm48, hvm48⟩ := hvm48
  have hRKNm48 := zR_KN_fr (zdis_fr hfm48 rfl) hRKNm0
  have hRLTm48 := zR_LT_fr (zdis_fr hfm48 rfl) hRLTm0
  have r50 : 0 ≤ (m48 a0 14) ∧ (m48 a0 14) ≤ 12 := zi_rd hIm48 hc0 zb_28_14
  have r51 : 0 ≤ (m48 216 0) ∧ (m48 216 0) ≤ 16 := zi_rdr (m := 2) (r0 := 0) (r1 := 0) hIm48 zq_216 (by omega) (by decide +kernel)
  have hRTEm48 := zTE_of (zone_190 hc0) ((hvm48.2.2) (Or.inr rfl))
  have b52 : 0 ≤ (0 : Int) ∧ (0 : Int) < 10 := by omega
  refine zw_if b52 ?_
  have r53 : (-1) ≤ (m48 194 0) ∧ (m48 194 0) ≤ 99999 := zi_rd hIm48 zq_194 (zb_103 _)
  generalize hmm54 : zu_up m48 a0 62 (m48 194 0) = m54
  have hIm54 := zi_up hmm54 hIm48 hc0 zb_28_62 (by omega) (by omega)
  have hFm54 := zfr_up hmm54 hFm48 hc0 rfl
  have hRC0m54 := zR_C0_fr (zdis_fr (zfr_up hmm54 (zfr_rf [(28, 63)] _) hc0 rfl) rfl) hRC0m48
  have hRKNm54 := zR_KN_fr (zdis_fr (zfr_up hmm54 (zfr_rf [(28, 63)] _) hc0 rfl) rfl) hRKNm48
  have hRLTm54 := zR_LT_fr (zdis_fr (zfr_up hmm54 (zfr_rf [(28, 63)] _) hc0 rfl) rfl) hRLTm48
  have hRSEm54 := zR_SE_fr (zdis_fr (zfr_up hmm54 (zfr_rf [(28, 63)] _) hc0 rfl) rfl) hRSEm48
  have hRTEm54 := zR_TE_fr (zdis_fr (zfr_up hmm54 (zfr_rf [(28, 63)] _) hc0 rfl) rfl) hRTEm48
  have b55 : 0 ≤ (4 : Int) ∧ (4 : Int) < 10 := by omega
  refine zw_if b55 ?_
  have r56 : (-1) ≤ (m54 194 4) ∧ (m54 194 4) ≤ 99999 := zi_rd hIm54 zq_194 (zb_103 _)
  generalize hmm57 : zu_up m54 a0 63 (m54 194 4) = m57
  have hIm57 := zi_up hmm57 hIm54 hc0 zb_28_63 (by omega) (by omega)
  have hFm57 := zfr_up hmm57 hFm54 hc0 rfl
  have hRC0m57 := zR_C0_fr (zdis_fr (zfr_up hmm57 (zfr_rf [(28, 64)] _) hc0 rfl) rfl) hRC0m54
  have hRKNm57 := zR_KN_fr (zdis_fr (zfr_up hmm57 (zfr_rf [(28, 64)] _) hc0 rfl) rfl) hRKNm54
  have hRLTm57 := zR_LT_fr (zdis_fr (zfr_up hmm57 (zfr_rf [(28, 64)] _) hc0 rfl) rfl) hRLTm54
  have hRSEm57 := zR_SE_fr (zdis_fr (zfr_up hmm57 (zfr_rf [(28, 64)] _) hc0 rfl) rfl) hRSEm54
  have hRTEm57 := zR_TE_fr (zdis_fr (zfr_up hmm57 (zfr_rf [(28, 64)] _) hc0 rfl) rfl) hRTEm54
  refine zw_bd (zw_mono (zk_35 n hIm57 hc0) (fun v59 m58 hqm58 => ?_))
  obtain ⟨hIm58, hfm58, hvm58⟩ := hqm58
  have hFm58 := zfr_tr hFm57 hfm58 rfl
  have hRC0m58 := zR_C0_fr (zdis_fr hfm58 rfl) hRC0m57
  have hRKNm58 := zR_KN_fr (zdis_fr hfm58 rfl) hRKNm57
  have hRLTm58 := zR_LT_fr (zdis_fr hfm58 rfl) hRLTm57
  have hRSEm58 := zR_SE_fr (zdis_fr hfm58 rfl) hRSEm57
  have hRTEm58 := zR_TE_fr (zdis_fr hfm58 rfl) hRTEm57
  have r60 : (-2147483648) ≤ (m58 a0 62) ∧ (m58 a0 62) ≤ 2147483647 := zi_rd hIm58 hc0 zb_28_62
  have e61 : (m58 a0 62) = (m48 194 0) := (Eq.trans (zfr_ap hfm58 hc0 rfl) (Eq.trans (zs_ne hmm57 (Or.inr (by decide))) (zs_eq hmm54)))
  have r62 : (-9223372036854775808) ≤ (m58 a0 63) ∧ (m58 a0 63) ≤ 9223372036854775807 := zi_rd hIm58 hc0 zb_28_63
  have e63 : (m58 a0 63) = (m54 194 4) := (Eq.trans (zfr_ap hfm58 hc0 rfl) (zs_eq hmm57))
  have hM : (4 - 0) * 1 + 49 < ((54 : Nat) : Int) := by omega
  exact (zl_33 n (m0 := m0) hc0 54).1 0 m58 hIm58 hFm58 ⟨by omega, by omega⟩ ⟨by omega, by omega⟩ ⟨by omega, by omega⟩ hRC0m58 hRKNm58 hRLTm58 hRSEm58 hRTEm58 hM
set_option maxHeartbeats 4000000 in
theorem zk_47 (n : Nat) {a0 a1 a2 : Int} {m0 : zu_m} (hIm0 : zi_I m0) (hc0 : zcls a0 = 2) (ha1 : (-2147483648) ≤ a1 ∧ a1 ≤ 2147483647) (ha2 : (-2147483648) ≤ a2 ∧ a2 ≤ 2147483647)    (hRK54m0 : zR_K54 m0) : zw (zu_call (zt_T n) 47 [(5, a0), (0, a1), (0, a2)] m0) (fun v m => zi_I m ∧ zfr [(56, 0), (59, 1), (59, 2), (59, 3), (59, 4), (59, 5), (59, 6), (59, 7)] m0 m ∧ zR_K54 m ∧ ((-2147483648) ≤ v ∧ v ≤ 2147483647)) := by
  have hFm0 : zfr [(56, 0), (59, 1), (59, 2), (59, 3), (59, 4), (59, 5), (59, 6), (59, 7)] m0 m0 := zfr_rf _ _
  refine zw_eq (zu_call_at (zt_T n) (zm_47 n) (zdp_47 n) _ _ _ _ _ rfl (zr_47_0 n _ _ a0 a1 a2 m0)) ?_
  refine zw_bd (zw_eq (zu_call_at (zt_T n) (zm_211 n) (zdp_211 n) _ _ _ _ _ rfl (zr_211_0 n _ _ 89 a1 m0)) ?_)
  refine zw_ite (fun h1 => ?_) (fun h1 => ?_)
  · refine zw_b (by omega) ?_
    refine zw_some ?_
    refine zw_ite (fun h2 => ?_) (fun h2 => ?_)
    · exfalso; omega
    · exact zw_some ⟨hIm0, hFm0, hRK54m0, ⟨by decide, by decide⟩⟩
  · have r3 : 0 ≤ (m0 89 4) ∧ (m0 89 4) ≤ 4 := zi_rd hIm0 zq_89 zb_16_4
    refine zw_ite (fun h4 => ?_) (fun h4 => ?_)
    · refine zw_b (by omega) ?_
      refine zw_some ?_
      refine zw_ite (fun h5 => ?_) (fun h5 => ?_)
      · exfalso; omega
      · exact zw_some ⟨hIm0, hFm0, hRK54m0, ⟨by decide, by decide⟩⟩
    · refine zw_b (by omega) ?_
      refine zw_some ?_
      refine zw_ite (fun h6 => ?_) (fun h6 => ?_)
      · have b7 : 0 ≤ a1 ∧ a1 < 4 := by omega
        refine zw_if b7 ?_
        refine zw_ite (fun h8 => ?_) (fun h8 => ?_)
        · have r9 : 0 ≤ (m0 ((89 + 2) + 20 + a1) 1) ∧ (m0 ((89 + 2) + 20 + a1) 1) ≤ 47 := zi_rd hIm0 (zc_66_e (zc_16_3 zq_89) b7) zb_18_1
          exact zw_some ⟨hIm0, hFm0, hRK54m0, ⟨by omega, by omega⟩⟩
        · refine zw_ite (fun h10 => ?_) (fun h10 => ?_)
          · have r11 : (-2147483648) ≤ (m0 ((89 + 2) + 20 + a1) 6) ∧ (m0 ((89 + 2) + 20 + a1) 6) ≤ 2147483647 := zi_rd hIm0 (zc_66_e (zc_16_3 zq_89) b7) zb_18_6
            exact zw_some ⟨hIm0, hFm0, hRK54m0, ⟨by omega, by omega⟩⟩
          · refine zw_ite (fun h12 => ?_) (fun h12 => ?_)
            · refine zw_bd (zw_mono (zk_236 n hIm0 zq_89 ⟨by omega, by omega⟩) (fun v14 m13 hqm13 => ?_))
              obtain ⟨hIm13, hfm13, hvm13⟩ := hqm13
              have hFm13 := zfr_tr hFm0 hfm13 rfl
              have hRK54m13 := zR_K54_fr (zdis_fr hfm13 rfl) hRK54m0
              exact zw_some ⟨hIm13, hFm13, hRK54m13, ⟨by omega, by omega⟩⟩
            · refine zw_ite (fun h15 => ?_) (fun h15 => ?_)
              · have r16 : (-2147483648) ≤ (m0 ((89 + 2) + 20 + a1) 5) ∧ (m0 ((89 + 2) + 20 + a1) 5) ≤ 2147483647 := zi_rd hIm0 (zc_66_e (zc_16_3 zq_89) b7) zb_18_5
                exact zw_some ⟨hIm0, hFm0, hRK54m0, ⟨by omega, by omega⟩⟩
              · refine zw_ite (fun h17 => ?_) (fun h17 => ?_)
                · refine zw_bd (zw_mono (zk_237 n hIm0 zq_89 ⟨by omega, by omega⟩ hRK54m0) (fun v19 m18 hqm18 => ?_))
                  obtain ⟨hIm18, hfm18, hvm18⟩ := hqm18
                  have hFm18 := zfr_tr hFm0 hfm18 rfl
                  obtain ⟨hRK54m18, hvm18⟩ := hvm18
                  exact zw_some ⟨hIm18, hFm18, hRK54m18, ⟨by omega, by omega⟩⟩
                · exact zw_some ⟨hIm0, hFm0, hRK54m0, ⟨by decide, by decide⟩⟩
      · exfalso; omega
set_option maxHeartbeats 4000000 in
theorem zk_57 (n : Nat) {a0 a1 : Int} {m0 : zu_m} (hIm0 : zi_I m0) (hc0 : zcls a0 = 2) (ha1 : (-2147483648) ≤ a1 ∧ a1 ≤ 2147483647)    (hRE89m0 : zE m0 89 50) (hRG5m0 : zgeo m0 50) (hRK54m0 : zR_K54 m0) (hRUNm0 : zR_UN m0) (hRUWm0 : zR_UW m0) : zw (zu_call (zt_T n) 57 [(5, a0), (0, a1)] m0) (fun v m => zi_I m ∧ zfr [(16, 9), (16, 10), (17, 4), (18, 2), (18, 6), (18, 7), (18, 8), (23, 5), (56, 0), (59, 1), (59, 2), (59, 3), (59, 4), (59, 5), (59, 6), (59, 7), (67, 0), (68, 0)] m0 m ∧ zE m 89 50 ∧ zgeo m 50 ∧ zR_K54 m ∧ zR_UN m ∧ zR_UW m ∧ ((-1) ≤ v ∧ v ≤ 9999)) := by
  have hFm0 : zfr [(16, 9), (16, 10), (17, 4), (18, 2), (18, 6), (18, 7), (18, 8), (23, 5), (56, 0), (59, 1), (59, 2), (59, 3), (59, 4), (59, 5), (59, 6), (59, 7), (67, 0), (68, 0)] m0 m0 := zfr_rf _ _
  refine zw_eq (zu_call_at (zt_T n) (zm_57 n) (zdp_57 n) _ _ _ _ _ rfl (zr_57_0 n _ _ a0 a1 m0)) ?_
  refine zw_ite (fun h1 => ?_) (fun h1 => ?_)
  · exact zw_some ⟨hIm0, hFm0, hRE89m0, hRG5m0, hRK54m0, hRUNm0, hRUWm0, ⟨by decide, by decide⟩⟩
  · refine zw_ite (fun h2 => ?_) (fun h2 => ?_)
    · exact zw_some ⟨hIm0, hFm0, hRE89m0, hRG5m0, hRK54m0, hRUNm0, hRUWm0, ⟨by decide, by decide⟩⟩
    · have r3 : 0 ≤ (m0 89 8) ∧ (m0 89 8) ≤ 9999 := zi_rd hIm0 zq_89 zb_16_8
      have w4 := zu_w32_id (z := (m0 89 8) + a1) (by omega) (by omega)
      refine zw_ite (fun h5 => ?_) (fun h5 => ?_)
      · refine zw_bd (zw_mono (zk_214_16 n hIm0 zq_89 ⟨by omega, by omega⟩ ⟨by decide, by decide⟩ (by omega) hRE89m0 hRG5m0 hRK54m0) (fun v7 m6 hqm6 => ?_))
        obtain ⟨hIm6, hfm6, hvm6⟩ := hqm6
        have hFm6 := zfr_tr hFm0 hfm6 rfl
        obtain ⟨hRE89m6, hRG5m6, hRK54m6, hvm6⟩ := hvm6
        have hRUNm6 := zR_UN_fr (zdis_fr hfm6 rfl) hRUNm0
        have hRUWm6 := zR_UW_fr (zdis_fr hfm6 rfl) hRUWm0
        have r8 : 0 ≤ (m6 89 8) ∧ (m6 89 8) ≤ 9999 := zi_rd hIm6 zq_89 zb_16_8
        refine zw_ite (fun h9 => ?_) (fun h9 => ?_)
        · exact zw_some ⟨hIm6, hFm6, hRE89m6, hRG5m6, hRK54m6, hRUNm6, hRUWm6, ⟨by omega, by omega⟩⟩
        · refine zw_bd (zw_mono (zk_28 n hIm6 zq_148) (fun v11 m10 hqm10 => ?_))
          obtain ⟨hIm10, hfm10, hvm10⟩ := hqm10
          have hFm10 := zfr_tr hFm6 hfm10 rfl
          obtain ⟨hRUNm10, hRUWm10, hvm10⟩ := hvm10
          have hRE89m10 := zR_E89_fr (zdis_fr hfm10 rfl) hRE89m6
          have hRG5m10 := zR_G5_fr (zdis_fr hfm10 rfl) hRG5m6
          have hRK54m10 := zR_K54_fr (zdis_fr hfm10 rfl) hRK54m6
          have r12 : 0 ≤ (m10 89 8) ∧ (m10 89 8) ≤ 9999 := zi_rd hIm10 zq_89 zb_16_8
          have e13 : (m10 89 8) = (m6 89 8) := (zfr_ap hfm10 zq_89 rfl)
          exact zw_some ⟨hIm10, hFm10, hRE89m10, hRG5m10, hRK54m10, hRUNm10, hRUWm10, ⟨by omega, by omega⟩⟩
      · exact zw_some ⟨hIm0, hFm0, hRE89m0, hRG5m0, hRK54m0, hRUNm0, hRUWm0, ⟨by decide, by decide⟩⟩
set_option maxHeartbeats 4000000 in
theorem zk_71 (n : Nat) {a0 a1 : Int} {m0 : zu_m} (hIm0 : zi_I m0) (hc0 : zcls a0 = 2) (ha1 : (-2147483648) ≤ a1 ∧ a1 ≤ 2147483647)    (hRK54m0 : zR_K54 m0) : zw (zu_call (zt_T n) 71 [(5, a0), (0, a1)] m0) (fun v m => zi_I m ∧ zfr [(56, 0), (59, 1), (59, 2), (59, 3), (59, 4), (59, 5), (59, 6), (59, 7), (69, 0)] m0 m ∧ zR_K54 m ∧ ((-8) ≤ v ∧ v ≤ 3)) := by
  have hFm0 : zfr [(56, 0), (59, 1), (59, 2), (59, 3), (59, 4), (59, 5), (59, 6), (59, 7), (69, 0)] m0 m0 := zfr_rf _ _
  refine zw_eq (zu_call_at (zt_T n) (zm_71 n) (zdp_71 n) _ _ _ _ _ rfl (zr_71_0 n _ _ a0 a1 m0)) ?_
  refine zw_bd (zw_eq (zu_call_at (zt_T n) (zm_210 n) (zdp_210 n) _ _ _ _ _ rfl (zr_210_0 n _ _ 89 a1 m0)) ?_)
  refine zw_ite (fun h1 => ?_) (fun h1 => ?_)
  · refine zw_b (by omega) ?_
    refine zw_some ?_
    refine zw_ite (fun h2 => ?_) (fun h2 => ?_)
    · exact zw_some ⟨hIm0, hFm0, hRK54m0, ⟨by decide, by decide⟩⟩
    · exfalso; omega
  · have r3 : 0 ≤ (m0 89 2) ∧ (m0 89 2) ≤ 16 := zi_rd hIm0 zq_89 zb_16_2
    refine zw_ite (fun h4 => ?_) (fun h4 => ?_)
    · refine zw_b (by omega) ?_
      refine zw_some ?_
      refine zw_ite (fun h5 => ?_) (fun h5 => ?_)
      · exact zw_some ⟨hIm0, hFm0, hRK54m0, ⟨by decide, by decide⟩⟩
      · exfalso; omega
    · refine zw_b (by omega) ?_
      refine zw_some ?_
      refine zw_ite (fun h6 => ?_) (fun h6 => ?_)
      · exfalso; omega
      · refine zw_bd (zw_mono (zk_243 n hIm0 zq_89 ⟨by omega, by omega⟩ ⟨by omega, by omega⟩ hRK54m0) (fun v8 m7 hqm7 => ?_))
        obtain ⟨hIm7, hfm7, hvm7⟩ := hqm7
        have hFm7 := zfr_tr hFm0 hfm7 rfl
        obtain ⟨hRK54m7, hvm7⟩ := hvm7
        exact zw_some ⟨hIm7, hFm7, hRK54m7, ⟨by omega, by omega⟩⟩

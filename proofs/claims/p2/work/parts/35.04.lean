set_option maxHeartbeats 4000000 in
theorem zk_18 (n : Nat) {a0 : Int} {m0 : zu_m} (hIm0 : zi_I m0) (hc0 : zcls a0 = 9)      : zw (zu_call (zt_T n) 18 [(22, a0)] m0) (fun v m => zi_I m ∧ zfr [(9, 4), (9, 5), (9, 6), (9, 7)] m0 m ∧ zR_TV m ∧ True) := by
  sorry
set_option maxHeartbeats 4000000 in
theorem zk_20 (n : Nat) {a0 a1 : Int} {m0 : zu_m} (hIm0 : zi_I m0) (hc0 : zcls a0 = 11) (hc1 : zcls a1 = 4)     (hRG6m0 : (m0 6 2 = m0 6 0 * m0 6 1)) (hRK10m0 : zR_K10 m0) : zw (zu_call (zt_T n) 20 [(8, a0), (8, a1)] m0) (fun v m => zi_I m ∧ zfr [(11, 1), (11, 2), (11, 3), (11, 4), (11, 5), (11, 6), (12, 6), (12, 7), (49, 0), (50, 0), (51, 0), (52, 0), (53, 0), (54, 0), (55, 0)] m0 m ∧ zgeo m 50 ∧ (m 6 2 = m 6 0 * m 6 1) ∧ zR_K10 m ∧ zR_K54 m ∧ True ∧ ((m a0 2) = (m a1 2))) := by
  have hFm0 : zfr [(11, 1), (11, 2), (11, 3), (11, 4), (11, 5), (11, 6), (12, 6), (12, 7), (49, 0), (50, 0), (51, 0), (52, 0), (53, 0), (54, 0), (55, 0)] m0 m0 := zfr_rf _ _
  refine zw_eq (zu_call_at (zt_T n) (zm_20 n) (zdp_20 n) _ _ _ _ _ rfl (zr_20_0 n _ _ a0 a1 m0)) ?_
  have r1 : 0 ≤ (m0 a1 3) ∧ (m0 a1 3) ≤ 6 := zi_rd hIm0 hc1 zb_4_3
  generalize hmm2 : zu_up m0 a0 3 (m0 a1 3) = m2
  have hIm2 := zi_up hmm2 hIm0 hc0 zb_11_3 (by omega) (by omega)
  have hFm2 := zfr_up hmm2 hFm0 hc0 rfl
  have hRG6m2 := zR_G6_fr (zdis_fr (zfr_up hmm2 (zfr_rf [(11, 4)] _) hc0 rfl) rfl) hRG6m0
  have hRK10m2 := zR_K10_fr (zdis_fr (zfr_up hmm2 (zfr_rf [(11, 4)] _) hc0 rfl) rfl) hRK10m0
  have r3 : 0 ≤ (m2 a1 4) ∧ (m2 a1 4) ≤ 99 := zi_rd hIm2 hc1 zb_4_4
  generalize hmm4 : zu_up m2 a0 4 (m2 a1 4) = m4
  have hIm4 := zi_up hmm4 hIm2 hc0 zb_11_4 (by omega) (by omega)
  have hFm4 := zfr_up hmm4 hFm2 hc0 rfl
  have hRG6m4 := zR_G6_fr (zdis_fr (zfr_up hmm4 (zfr_rf [(11, 5)] _) hc0 rfl) rfl) hRG6m2
  have hRK10m4 := zR_K10_fr (zdis_fr (zfr_up hmm4 (zfr_rf [(11, 5)] _) hc0 rfl) rfl) hRK10m2
  have r5 : 0 ≤ (m4 a1 5) ∧ (m4 a1 5) ≤ 99999 := zi_rd hIm4 hc1 zb_4_5
  generalize hmm6 : zu_up m4 a0 5 (m4 a1 5) = m6
  have hIm6 := zi_up hmm6 hIm4 hc0 zb_11_5 (by omega) (by omega)
  have hFm6 := zfr_up hmm6 hFm4 hc0 rfl
  have hRG6m6 := zR_G6_fr (zdis_fr (zfr_up hmm6 (zfr_rf [(11, 6)] _) hc0 rfl) rfl) hRG6m4
  have hRK10m6 := zR_K10_fr (zdis_fr (zfr_up hmm6 (zfr_rf [(11, 6)] _) hc0 rfl) rfl) hRK10m4
  refine zw_bd (zw_mono (zk_21 n hIm6 (zc_11_9 hc0) (zc_4_9 hc1) hRK10m6) (fun v8 m7 hqm7 => ?_))
  obtain ⟨hIm7, hfm7, hvm7⟩ := hqm7
  have hFm7 := zfr_tr hFm6 hfm7 rfl
  obtain ⟨hRK10m7, hRK54m7, hvm7⟩ := hvm7
  have hRG6m7 := zR_G6_fr (zdis_fr hfm7 rfl) hRG6m6
  refine zw_if (by omega) ?_
  generalize hmm9 : zu_cp m7 (a1 + 3) 0 (a0 + 3) 0 48 = m9
  have hIm9 := zi_cp hmm9 hIm7 (zc_4_8 hc1) (zc_11_8 hc0) zb_32 zb_51 (by decide) (by decide)
  have hFm9 := zfr_cp hmm9 hFm7 (zc_11_8 hc0) (fun _ => rfl)
  have hfm9 : zfr [(51, 0)] m7 m9 := zfr_cp hmm9 (zfr_rf _ _) (zc_11_8 hc0) (fun _ => rfl)
  have hRG6m9 := zR_G6_fr (zdis_fr hfm9 rfl) hRG6m7
  have hRK10m9 := zR_K10_fr (zdis_fr hfm9 rfl) hRK10m7
  have hRK54m9 := zR_K54_fr (zdis_fr hfm9 rfl) hRK54m7
  have r10 : 1 ≤ (m9 a1 0) ∧ (m9 a1 0) ≤ 8 := zi_rd hIm9 hc1 zb_4_0
  have r11 : 1 ≤ (m9 a1 1) ∧ (m9 a1 1) ≤ 6 := zi_rd hIm9 hc1 zb_4_1
  have r12 : 1 ≤ (m9 a1 2) ∧ (m9 a1 2) ≤ 48 := zi_rd hIm9 hc1 zb_4_2
  have s13 := zG6_at hRG6m9 (zone_6 hc1)
  refine zw_bd (zw_mono (zk_15_11 n hIm9 hc0 ⟨by omega, by omega⟩ ⟨by omega, by omega⟩) (fun v15 m14 hqm14 => ?_))
  obtain ⟨hIm14, hfm14, hvm14⟩ := hqm14
  have hFm14 := zfr_tr hFm9 hfm14 rfl
  obtain ⟨hRG5m14, hvm14⟩ := hvm14
  have hRG6m14 := zR_G6_fr (zdis_fr hfm14 rfl) hRG6m9
  have hRK10m14 := zR_K10_fr (zdis_fr hfm14 rfl) hRK10m9
  have hRK54m14 := zR_K54_fr (zdis_fr hfm14 rfl) hRK54m9
  have r16 : 1 ≤ (m14 a0 2) ∧ (m14 a0 2) ≤ 48 := zi_rd hIm14 hc0 zb_11_2
  have r17 : 1 ≤ (m14 a1 2) ∧ (m14 a1 2) ≤ 48 := zi_rd hIm14 hc1 zb_4_2
  have e18 : (m14 a1 2) = (m9 a1 2) := (zfr_ap hfm14 hc1 rfl)
  exact zw_some ⟨hIm14, hFm14, hRG5m14, hRG6m14, hRK10m14, hRK54m14, trivial, by omega⟩
set_option maxHeartbeats 4000000 in
theorem zl_22_13_6 (n : Nat) {a0 a1 : Int} {m0 : zu_m} (hc0 : zcls a0 = 13) (hc1 : zcls a1 = 6)   : ∀ k : Nat, (∀ (x2 : Int) (mh : zu_m), zi_I mh → zfr [(13, 3), (13, 5), (13, 9), (13, 10), (13, 11), (13, 12), (14, 1), (14, 2), (14, 3), (14, 4), (15, 1), (15, 2), (15, 3), (15, 4), (15, 5), (15, 6), (15, 7), (15, 8), (62, 0), (63, 0)] m0 mh → (0 ≤ x2 ∧ x2 ≤ 16) → (16 - x2) * 1 + 54 < (k : Int) → zw (zu_ex (zt_T n) 22 10 [(27, a0), (16, a1), (0, x2)] [] mh) (fun v m => zi_I m ∧ zfr [(13, 3), (13, 5), (13, 9), (13, 10), (13, 11), (13, 12), (14, 1), (14, 2), (14, 3), (14, 4), (15, 1), (15, 2), (15, 3), (15, 4), (15, 5), (15, 6), (15, 7), (15, 8), (62, 0), (63, 0)] m0 m ∧ True ∧ (zE m0 a1 50 → zE m a0 50))) ∧ (∀ (x2 : Int) (mh : zu_m), zi_I mh → zfr [(13, 3), (13, 5), (13, 9), (13, 10), (13, 11), (13, 12), (14, 1), (14, 2), (14, 3), (14, 4), (15, 1), (15, 2), (15, 3), (15, 4), (15, 5), (15, 6), (15, 7), (15, 8), (62, 0), (63, 0)] m0 mh → (0 ≤ x2 ∧ x2 ≤ 4) → ((mh a0 4) = (m0 a1 4)) → (zcc m0 mh a0 a1 x2) → (4 - x2) * 1 + 49 < (k : Int) → zw (zu_ex (zt_T n) 22 49 [(27, a0), (16, a1), (0, x2)] [] mh) (fun v m => zi_I m ∧ zfr [(13, 3), (13, 5), (13, 9), (13, 10), (13, 11), (13, 12), (14, 1), (14, 2), (14, 3), (14, 4), (15, 1), (15, 2), (15, 3), (15, 4), (15, 5), (15, 6), (15, 7), (15, 8), (62, 0), (63, 0)] m0 m ∧ True ∧ (zE m0 a1 50 → zE m a0 50))) ∧ (∀ (x2 : Int) (mh : zu_m), zi_I mh → zfr [(13, 3), (13, 5), (13, 9), (13, 10), (13, 11), (13, 12), (14, 1), (14, 2), (14, 3), (14, 4), (15, 1), (15, 2), (15, 3), (15, 4), (15, 5), (15, 6), (15, 7), (15, 8), (62, 0), (63, 0)] m0 mh → (0 ≤ x2 ∧ x2 ≤ 48) → ((mh a0 4) = (m0 a1 4)) → ((m0 a1 4) ≤ 4) → (zcc m0 mh a0 a1 (m0 a1 4)) → (48 - x2) * 1 + 0 < (k : Int) → zw (zu_ex (zt_T n) 22 80 [(27, a0), (16, a1), (0, x2)] [] mh) (fun v m => zi_I m ∧ zfr [(13, 3), (13, 5), (13, 9), (13, 10), (13, 11), (13, 12), (14, 1), (14, 2), (14, 3), (14, 4), (15, 1), (15, 2), (15, 3), (15, 4), (15, 5), (15, 6), (15, 7), (15, 8), (62, 0), (63, 0)] m0 m ∧ True ∧ (zE m0 a1 50 → zE m a0 50))) := by
  intro k
  induction k with
  | zero => exact ⟨fun x2 mh hImh hFmh hbx2 hM => by exfalso; omega, fun x2 mh hImh hFmh hbx2 hH0 hH1 hM => by exfalso; omega, fun x2 mh hImh hFmh hbx2 hH0 hH1 hH2 hM => by exfalso; omega⟩
  | succ k ih =>
    refine ⟨?_, ?_, ?_⟩
    · intro x2 mh hImh hFmh hbx2 hM
      refine zw_eq (zu_rega_at (zt_T n) (zm_22 n) (zdp_22 n) _ _ _ _ _ _ (zr_22_10 n _ _ a0 a1 x2 mh)) ?_
      have r1 : 0 ≤ (mh a0 2) ∧ (mh a0 2) ≤ 16 := zi_rd hImh hc0 zb_13_2
      refine zw_ite (fun h2 => ?_) (fun h2 => ?_)
      · have r3 : 0 ≤ (mh a1 4) ∧ (mh a1 4) ≤ 4 := zi_rd hImh hc1 zb_6_4
        have s4 : (mh a1 4) = m0 a1 4 := zfr_ap hFmh hc1 rfl
        generalize hmm5 : zu_up mh a0 4 (mh a1 4) = m5
        have hIm5 := zi_up hmm5 hImh hc0 zb_13_4 (by omega) (by omega)
        have hFm5 := zfr_up hmm5 hFmh hc0 rfl
        have r6 : 0 ≤ (m5 a0 4) ∧ (m5 a0 4) ≤ 4 := zi_rd hIm5 hc0 zb_13_4
        have e7 : (m5 a0 4) = (mh a1 4) := (zs_eq hmm5)
        have hM : (4 - 0) * 1 + 49 < (k : Int) := by omega
        exact ih.2.1 0 m5 hIm5 hFm5 ⟨by omega, by omega⟩ (by omega) (zcc_0 _ _ _ _) hM
      · have b8 : 0 ≤ x2 ∧ x2 < 16 := by omega
        refine zw_if b8 ?_
        have b9 : 0 ≤ x2 ∧ x2 < 16 := by omega
        refine zw_if b9 ?_
        refine zw_bd (zw_mono (zk_197_14_7 n hImh (zc_60_e (zc_13_1 hc0) b8) (zc_41_e zq_20 b9)) (fun v11 m10 hqm10 => ?_))
        obtain ⟨hIm10, hfm10, hvm10⟩ := hqm10
        have hFm10 := zfr_tr hFmh hfm10 rfl
        have w12 := zu_w32_id (z := x2 + 1) (by omega) (by omega)
        have hM : (16 - (zu_w32 (x2 + 1))) * 1 + 54 < (k : Int) := by omega
        exact ih.1 (zu_w32 (x2 + 1)) m10 hIm10 hFm10 ⟨by omega, by omega⟩ hM
    · intro x2 mh hImh hFmh hbx2 hH0 hH1 hM
      refine zw_eq (zu_rega_at (zt_T n) (zm_22 n) (zdp_22 n) _ _ _ _ _ _ (zr_22_49 n _ _ a0 a1 x2 mh)) ?_
      have r13 : 0 ≤ (mh a0 4) ∧ (mh a0 4) ≤ 4 := zi_rd hImh hc0 zb_13_4
      have z14 := zone_19 hc1
      refine zw_ite (fun h15 => ?_) (fun h15 => ?_)
      · have hM : (48 - 0) * 1 + 0 < (k : Int) := by omega
        exact ih.2.2 0 mh hImh hFmh ⟨by omega, by omega⟩ (by omega) (by omega) (zcc_x hH1 (by omega)) hM
      · have b16 : 0 ≤ x2 ∧ x2 < 4 := by omega
        refine zw_if b16 ?_
        have b17 : 0 ≤ x2 ∧ x2 < 4 := by omega
        refine zw_if b17 ?_
        refine zw_bd (zw_mono (zk_196_15_8 n hImh (zc_61_e (zc_13_3 hc0) b16) (zc_42_e zq_21 b17)) (fun v19 m18 hqm18 => ?_))
        obtain ⟨hIm18, hfm18, hvm18⟩ := hqm18
        have hFm18 := zfr_tr hFmh hfm18 rfl
        have hcam18 : m18 ((a0 + 2) + 20 + x2) 1 = mh (21 + 20 + x2) 1 := (hvm18.2.1)
        have hcbm18 : mh (21 + 20 + x2) 1 = m0 (21 + 20 + x2) 1 := zfr_ap hFmh (zc_42_e zq_21 b17) rfl
        have hccm18 := (hvm18.2.2)
        have w20 := zu_w32_id (z := x2 + 1) (by omega) (by omega)
        have r21 : 0 ≤ (m18 a0 4) ∧ (m18 a0 4) ≤ 4 := zi_rd hIm18 hc0 zb_13_4
        have e22 : (m18 a0 4) = (mh a0 4) := (zfr_ap hfm18 hc0 rfl)
        have hM : (4 - (zu_w32 (x2 + 1))) * 1 + 49 < (k : Int) := by omega
        exact ih.2.1 (zu_w32 (x2 + 1)) m18 hIm18 hFm18 ⟨by omega, by omega⟩ (by omega) (zcc_s hH1 hcam18 hcbm18 hccm18 (by omega) (by omega) (by omega)) hM
    · intro x2 mh hImh hFmh hbx2 hH0 hH1 hH2 hM
      refine zw_eq (zu_rega_at (zt_T n) (zm_22 n) (zdp_22 n) _ _ _ _ _ _ (zr_22_80 n _ _ a0 a1 x2 mh)) ?_
      have r23 : 0 ≤ (mh a0 4) ∧ (mh a0 4) ≤ 4 := zi_rd hImh hc0 zb_13_4
      refine zw_ite (fun h24 => ?_) (fun h24 => ?_)
      · have r25 : 0 ≤ (mh a1 8) ∧ (mh a1 8) ≤ 9999 := zi_rd hImh hc1 zb_6_8
        generalize hmm26 : zu_up mh a0 8 (mh a1 8) = m26
        have hIm26 := zi_up hmm26 hImh hc0 zb_13_8 (by omega) (by omega)
        have hFm26 := zfr_up hmm26 hFmh hc0 rfl
        have r27 : (-2147483648) ≤ (m26 a1 9) ∧ (m26 a1 9) ≤ 2147483647 := zi_rd hIm26 hc1 zb_6_9
        generalize hmm28 : zu_up m26 a0 9 (m26 a1 9) = m28
        have hIm28 := zi_up hmm28 hIm26 hc0 zb_13_9 (by omega) (by omega)
        have hFm28 := zfr_up hmm28 hFm26 hc0 rfl
        have r29 : 0 ≤ (m28 a1 10) ∧ (m28 a1 10) ≤ 3 := zi_rd hIm28 hc1 zb_6_10
        generalize hmm30 : zu_up m28 a0 10 (m28 a1 10) = m30
        have hIm30 := zi_up hmm30 hIm28 hc0 zb_13_10 (by omega) (by omega)
        have hFm30 := zfr_up hmm30 hFm28 hc0 rfl
        have r31 : (-2147483648) ≤ (m30 a1 11) ∧ (m30 a1 11) ≤ 2147483647 := zi_rd hIm30 hc1 zb_6_11
        generalize hmm32 : zu_up m30 a0 11 (m30 a1 11) = m32
        have hIm32 := zi_up hmm32 hIm30 hc0 zb_13_11 (by omega) (by omega)
        have hFm32 := zfr_up hmm32 hFm30 hc0 rfl
        have r33 : 0 ≤ (m32 a0 4) ∧ (m32 a0 4) ≤ 4 := zi_rd hIm32 hc0 zb_13_4
        have e34 : (m32 a0 4) = (mh a0 4) := (Eq.trans (zs_ne hmm32 (Or.inr (by decide))) (Eq.trans (zs_ne hmm30 (Or.inr (by decide))) (Eq.trans (zs_ne hmm28 (Or.inr (by decide))) (zs_ne hmm26 (Or.inr (by decide))))))
        exact zw_some ⟨hIm32, hFm32, trivial, (fun hE => zE_cp (zcc_mv hH2 (by omega) (fun c h0 h4 => (Eq.trans (zs_ne hmm32 (Or.inl (zc_ne (zc_61_e (zc_13_3 hc0) ⟨h0, h4⟩) hc0 (by decide)))) (Eq.trans (zs_ne hmm30 (Or.inl (zc_ne (zc_61_e (zc_13_3 hc0) ⟨h0, h4⟩) hc0 (by decide)))) (Eq.trans (zs_ne hmm28 (Or.inl (zc_ne (zc_61_e (zc_13_3 hc0) ⟨h0, h4⟩) hc0 (by decide)))) (zs_ne hmm26 (Or.inl (zc_ne (zc_61_e (zc_13_3 hc0) ⟨h0, h4⟩) hc0 (by decide))))))))) (by omega) (by omega) (zfr_ap hFm32 zq_50 rfl) hE)⟩
      · have b35 : 0 ≤ x2 ∧ x2 < 48 := by omega
        refine zw_if b35 ?_
        have r36 : 0 ≤ (mh 22 x2) ∧ (mh 22 x2) ≤ 1 := zi_rd hImh zq_22 (zb_43 _)
        refine zw_b (by omega) ?_
        have b37 : 0 ≤ x2 ∧ x2 < 48 := by omega
        refine zw_if b37 ?_
        generalize hmm38 : zu_up mh (a0 + 3) x2 (mh 22 x2) = m38
        have hIm38 := zi_up hmm38 hImh (zc_13_5 hc0) (zb_62 _) (by omega) (by omega)
        have hFm38 := zfr_up hmm38 hFmh (zc_13_5 hc0) rfl
        have b39 : 0 ≤ x2 ∧ x2 < 48 := by omega
        refine zw_if b39 ?_
        have r40 : 0 ≤ (m38 23 x2) ∧ (m38 23 x2) ≤ 999000 := zi_rd hIm38 zq_23 (zb_44 _)
        have b41 : 0 ≤ x2 ∧ x2 < 48 := by omega
        refine zw_if b41 ?_
        generalize hmm42 : zu_up m38 (a0 + 4) x2 (m38 23 x2) = m42
        have hIm42 := zi_up hmm42 hIm38 (zc_13_6 hc0) (zb_63 _) (by omega) (by omega)
        have hFm42 := zfr_up hmm42 hFm38 (zc_13_6 hc0) rfl
        have w43 := zu_w32_id (z := x2 + 1) (by omega) (by omega)
        have r44 : 0 ≤ (m42 a0 4) ∧ (m42 a0 4) ≤ 4 := zi_rd hIm42 hc0 zb_13_4
        have e45 : (m42 a0 4) = (mh a0 4) := (Eq.trans (zs_ne hmm42 (Or.inl (zc_ne hc0 (zc_13_6 hc0) (by decide)))) (zs_ne hmm38 (Or.inl (zc_ne hc0 (zc_13_5 hc0) (by decide)))))
        have hM : (48 - (zu_w32 (x2 + 1))) * 1 + 0 < (k : Int) := by omega
        exact ih.2.2 (zu_w32 (x2 + 1)) m42 hIm42 hFm42 ⟨by omega, by omega⟩ (by omega) (by omega) (zcc_mv hH2 (by omega) (fun c h0 h4 => (Eq.trans (zs_ne hmm42 (Or.inl (zc_ne (zc_61_e (zc_13_3 hc0) ⟨h0, h4⟩) (zc_13_6 hc0) (by decide)))) (zs_ne hmm38 (Or.inl (zc_ne (zc_61_e (zc_13_3 hc0) ⟨h0, h4⟩) (zc_13_5 hc0) (by decide))))))) hM
set_option maxHeartbeats 4000000 in
theorem zk_22_13_6 (n : Nat) {a0 a1 : Int} {m0 : zu_m} (hIm0 : zi_I m0) (hc0 : zcls a0 = 13) (hc1 : zcls a1 = 6)      : zw (zu_call (zt_T n) 22 [(27, a0), (16, a1)] m0) (fun v m => zi_I m ∧ zfr [(13, 3), (13, 5), (13, 9), (13, 10), (13, 11), (13, 12), (14, 1), (14, 2), (14, 3), (14, 4), (15, 1), (15, 2), (15, 3), (15, 4), (15, 5), (15, 6), (15, 7), (15, 8), (62, 0), (63, 0)] m0 m ∧ True ∧ (zE m0 a1 50 → zE m a0 50)) := by
  have hFm0 : zfr [(13, 3), (13, 5), (13, 9), (13, 10), (13, 11), (13, 12), (14, 1), (14, 2), (14, 3), (14, 4), (15, 1), (15, 2), (15, 3), (15, 4), (15, 5), (15, 6), (15, 7), (15, 8), (62, 0), (63, 0)] m0 m0 := zfr_rf _ _
  have r46 : 0 ≤ (m0 a1 4) ∧ (m0 a1 4) ≤ 4 := zi_rd hIm0 hc1 zb_6_4
  refine zw_eq (zu_call_at (zt_T n) (zm_22 n) (zdp_22 n) _ _ _ _ _ rfl (zr_22_0 n _ _ a0 a1 m0)) ?_
  have r47 : 0 ≤ (m0 a1 2) ∧ (m0 a1 2) ≤ 16 := zi_rd hIm0 hc1 zb_6_2
  generalize hmm48 : zu_up m0 a0 2 (m0 a1 2) = m48
  have hIm48 := zi_up hmm48 hIm0 hc0 zb_13_2 (by omega) (by omega)
  have hFm48 := zfr_up hmm48 hFm0 hc0 rfl
  have hM : (16 - 0) * 1 + 54 < ((71 : Nat) : Int) := by omega
  exact (zl_22_13_6 n (m0 := m0) hc0 hc1 71).1 0 m48 hIm48 hFm48 ⟨by omega, by omega⟩ hM
set_option maxHeartbeats 4000000 in
theorem zl_22_16_13 (n : Nat) {a0 a1 : Int} {m0 : zu_m} (hc0 : zcls a0 = 16) (hc1 : zcls a1 = 13)   : ∀ k : Nat, (∀ (x2 : Int) (mh : zu_m), zi_I mh → zfr [(16, 3), (16, 5), (16, 9), (16, 10), (16, 11), (16, 12), (17, 1), (17, 2), (17, 3), (17, 4), (18, 1), (18, 2), (18, 3), (18, 4), (18, 5), (18, 6), (18, 7), (18, 8), (67, 0), (68, 0)] m0 mh → (0 ≤ x2 ∧ x2 ≤ 16) → (16 - x2) * 1 + 54 < (k : Int) → zw (zu_ex (zt_T n) 22 10 [(27, a0), (27, a1), (0, x2)] [] mh) (fun v m => zi_I m ∧ zfr [(16, 3), (16, 5), (16, 9), (16, 10), (16, 11), (16, 12), (17, 1), (17, 2), (17, 3), (17, 4), (18, 1), (18, 2), (18, 3), (18, 4), (18, 5), (18, 6), (18, 7), (18, 8), (67, 0), (68, 0)] m0 m ∧ True ∧ (zE m0 a1 50 → zE m a0 50))) ∧ (∀ (x2 : Int) (mh : zu_m), zi_I mh → zfr [(16, 3), (16, 5), (16, 9), (16, 10), (16, 11), (16, 12), (17, 1), (17, 2), (17, 3), (17, 4), (18, 1), (18, 2), (18, 3), (18, 4), (18, 5), (18, 6), (18, 7), (18, 8), (67, 0), (68, 0)] m0 mh → (0 ≤ x2 ∧ x2 ≤ 4) → ((mh a0 4) = (m0 a1 4)) → (zcc m0 mh a0 a1 x2) → (4 - x2) * 1 + 49 < (k : Int) → zw (zu_ex (zt_T n) 22 49 [(27, a0), (27, a1), (0, x2)] [] mh) (fun v m => zi_I m ∧ zfr [(16, 3), (16, 5), (16, 9), (16, 10), (16, 11), (16, 12), (17, 1), (17, 2), (17, 3), (17, 4), (18, 1), (18, 2), (18, 3), (18, 4), (18, 5), (18, 6), (18, 7), (18, 8), (67, 0), (68, 0)] m0 m ∧ True ∧ (zE m0 a1 50 → zE m a0 50))) ∧ (∀ (x2 : Int) (mh : zu_m), zi_I mh → zfr [(16, 3), (16, 5), (16, 9), (16, 10), (16, 11), (16, 12), (17, 1), (17, 2), (17, 3), (17, 4), (18, 1), (18, 2), (18, 3), (18, 4), (18, 5), (18, 6), (18, 7), (18, 8), (67, 0), (68, 0)] m0 mh → (0 ≤ x2 ∧ x2 ≤ 48) → ((mh a0 4) = (m0 a1 4)) → ((m0 a1 4) ≤ 4) → (zcc m0 mh a0 a1 (m0 a1 4)) → (48 - x2) * 1 + 0 < (k : Int) → zw (zu_ex (zt_T n) 22 80 [(27, a0), (27, a1), (0, x2)] [] mh) (fun v m => zi_I m ∧ zfr [(16, 3), (16, 5), (16, 9), (16, 10), (16, 11), (16, 12), (17, 1), (17, 2), (17, 3), (17, 4), (18, 1), (18, 2), (18, 3), (18, 4), (18, 5), (18, 6), (18, 7), (18, 8), (67, 0), (68, 0)] m0 m ∧ True ∧ (zE m0 a1 50 → zE m a0 50))) := by
  intro k
  induction k with
  | zero => exact ⟨fun x2 mh hImh hFmh hbx2 hM => by exfalso; omega, fun x2 mh hImh hFmh hbx2 hH0 hH1 hM => by exfalso; omega, fun x2 mh hImh hFmh hbx2 hH0 hH1 hH2 hM => by exfalso; omega⟩
  | succ k ih =>
    refine ⟨?_, ?_, ?_⟩
    · intro x2 mh hImh hFmh hbx2 hM
      refine zw_eq (zu_rega_at (zt_T n) (zm_22 n) (zdp_22 n) _ _ _ _ _ _ (zr_22b_10 n _ _ a0 a1 x2 mh)) ?_
      have r1 : 0 ≤ (mh a0 2) ∧ (mh a0 2) ≤ 16 := zi_rd hImh hc0 zb_16_2
      refine zw_ite (fun h2 => ?_) (fun h2 => ?_)
      · have r3 : 0 ≤ (mh a1 4) ∧ (mh a1 4) ≤ 4 := zi_rd hImh hc1 zb_13_4
        have s4 : (mh a1 4) = m0 a1 4 := zfr_ap hFmh hc1 rfl
        generalize hmm5 : zu_up mh a0 4 (mh a1 4) = m5
        have hIm5 := zi_up hmm5 hImh hc0 zb_16_4 (by omega) (by omega)
        have hFm5 := zfr_up hmm5 hFmh hc0 rfl
        have r6 : 0 ≤ (m5 a0 4) ∧ (m5 a0 4) ≤ 4 := zi_rd hIm5 hc0 zb_16_4
        have e7 : (m5 a0 4) = (mh a1 4) := (zs_eq hmm5)
        have hM : (4 - 0) * 1 + 49 < (k : Int) := by omega
        exact ih.2.1 0 m5 hIm5 hFm5 ⟨by omega, by omega⟩ (by omega) (zcc_0 _ _ _ _) hM
      · have b8 : 0 ≤ x2 ∧ x2 < 16 := by omega
        refine zw_if b8 ?_
        have b9 : 0 ≤ x2 ∧ x2 < 16 := by omega
        refine zw_if b9 ?_
        refine zw_bd (zw_mono (zk_197_17_14 n hImh (zc_65_e (zc_16_1 hc0) b8) (zc_60_e (zc_13_1 hc1) b9)) (fun v11 m10 hqm10 => ?_))
        obtain ⟨hIm10, hfm10, hvm10⟩ := hqm10
        have hFm10 := zfr_tr hFmh hfm10 rfl
        have w12 := zu_w32_id (z := x2 + 1) (by omega) (by omega)
        have hM : (16 - (zu_w32 (x2 + 1))) * 1 + 54 < (k : Int) := by omega
        exact ih.1 (zu_w32 (x2 + 1)) m10 hIm10 hFm10 ⟨by omega, by omega⟩ hM
    · intro x2 mh hImh hFmh hbx2 hH0 hH1 hM
      refine zw_eq (zu_rega_at (zt_T n) (zm_22 n) (zdp_22 n) _ _ _ _ _ _ (zr_22b_49 n _ _ a0 a1 x2 mh)) ?_
      have r13 : 0 ≤ (mh a0 4) ∧ (mh a0 4) ≤ 4 := zi_rd hImh hc0 zb_16_4
      refine zw_ite (fun h14 => ?_) (fun h14 => ?_)
      · have hM : (48 - 0) * 1 + 0 < (k : Int) := by omega
        exact ih.2.2 0 mh hImh hFmh ⟨by omega, by omega⟩ (by omega) (by omega) (zcc_x hH1 (by omega)) hM
      · have b15 : 0 ≤ x2 ∧ x2 < 4 := by omega
        refine zw_if b15 ?_
        have b16 : 0 ≤ x2 ∧ x2 < 4 := by omega
        refine zw_if b16 ?_
        refine zw_bd (zw_mono (zk_196_18_15 n hImh (zc_66_e (zc_16_3 hc0) b15) (zc_61_e (zc_13_3 hc1) b16)) (fun v18 m17 hqm17 => ?_))
        obtain ⟨hIm17, hfm17, hvm17⟩ := hqm17
        have hFm17 := zfr_tr hFmh hfm17 rfl
        have hcam17 : m17 ((a0 + 2) + 20 + x2) 1 = mh ((a1 + 2) + 20 + x2) 1 := (hvm17.2.1)
        have hcbm17 : mh ((a1 + 2) + 20 + x2) 1 = m0 ((a1 + 2) + 20 + x2) 1 := zfr_ap hFmh (zc_61_e (zc_13_3 hc1) b16) rfl
        have hccm17 := (hvm17.2.2)
        have w19 := zu_w32_id (z := x2 + 1) (by omega) (by omega)
        have r20 : 0 ≤ (m17 a0 4) ∧ (m17 a0 4) ≤ 4 := zi_rd hIm17 hc0 zb_16_4
        have e21 : (m17 a0 4) = (mh a0 4) := (zfr_ap hfm17 hc0 rfl)
        have hM : (4 - (zu_w32 (x2 + 1))) * 1 + 49 < (k : Int) := by omega
        exact ih.2.1 (zu_w32 (x2 + 1)) m17 hIm17 hFm17 ⟨by omega, by omega⟩ (by omega) (zcc_s hH1 hcam17 hcbm17 hccm17 (by omega) (by omega) (by omega)) hM
    · intro x2 mh hImh hFmh hbx2 hH0 hH1 hH2 hM
      refine zw_eq (zu_rega_at (zt_T n) (zm_22 n) (zdp_22 n) _ _ _ _ _ _ (zr_22b_80 n _ _ a0 a1 x2 mh)) ?_
      have r22 : 0 ≤ (mh a0 4) ∧ (mh a0 4) ≤ 4 := zi_rd hImh hc0 zb_16_4
      refine zw_ite (fun h23 => ?_) (fun h23 => ?_)
      · have r24 : 0 ≤ (mh a1 8) ∧ (mh a1 8) ≤ 9999 := zi_rd hImh hc1 zb_13_8
        generalize hmm25 : zu_up mh a0 8 (mh a1 8) = m25
        have hIm25 := zi_up hmm25 hImh hc0 zb_16_8 (by omega) (by omega)
        have hFm25 := zfr_up hmm25 hFmh hc0 rfl
        have r26 : (-2147483648) ≤ (m25 a1 9) ∧ (m25 a1 9) ≤ 2147483647 := zi_rd hIm25 hc1 zb_13_9
        generalize hmm27 : zu_up m25 a0 9 (m25 a1 9) = m27
        have hIm27 := zi_up hmm27 hIm25 hc0 zb_16_9 (by omega) (by omega)
        have hFm27 := zfr_up hmm27 hFm25 hc0 rfl
        have r28 : 0 ≤ (m27 a1 10) ∧ (m27 a1 10) ≤ 3 := zi_rd hIm27 hc1 zb_13_10
        generalize hmm29 : zu_up m27 a0 10 (m27 a1 10) = m29
        have hIm29 := zi_up hmm29 hIm27 hc0 zb_16_10 (by omega) (by omega)
        have hFm29 := zfr_up hmm29 hFm27 hc0 rfl
        have r30 : (-2147483648) ≤ (m29 a1 11) ∧ (m29 a1 11) ≤ 2147483647 := zi_rd hIm29 hc1 zb_13_11
        generalize hmm31 : zu_up m29 a0 11 (m29 a1 11) = m31
        have hIm31 := zi_up hmm31 hIm29 hc0 zb_16_11 (by omega) (by omega)
        have hFm31 := zfr_up hmm31 hFm29 hc0 rfl
        have r32 : 0 ≤ (m31 a0 4) ∧ (m31 a0 4) ≤ 4 := zi_rd hIm31 hc0 zb_16_4
        have e33 : (m31 a0 4) = (mh a0 4) := (Eq.trans (zs_ne hmm31 (Or.inr (by decide))) (Eq.trans (zs_ne hmm29 (Or.inr (by decide))) (Eq.trans (zs_ne hmm27 (Or.inr (by decide))) (zs_ne hmm25 (Or.inr (by decide))))))
        exact zw_some ⟨hIm31, hFm31, trivial, (fun hE => zE_cp (zcc_mv hH2 (by omega) (fun c h0 h4 => (Eq.trans (zs_ne hmm31 (Or.inl (zc_ne (zc_66_e (zc_16_3 hc0) ⟨h0, h4⟩) hc0 (by decide)))) (Eq.trans (zs_ne hmm29 (Or.inl (zc_ne (zc_66_e (zc_16_3 hc0) ⟨h0, h4⟩) hc0 (by decide)))) (Eq.trans (zs_ne hmm27 (Or.inl (zc_ne (zc_66_e (zc_16_3 hc0) ⟨h0, h4⟩) hc0 (by decide)))) (zs_ne hmm25 (Or.inl (zc_ne (zc_66_e (zc_16_3 hc0) ⟨h0, h4⟩) hc0 (by decide))))))))) (by omega) (by omega) (zfr_ap hFm31 zq_50 rfl) hE)⟩
      · have b34 : 0 ≤ x2 ∧ x2 < 48 := by omega
        refine zw_if b34 ?_
        have r35 : 0 ≤ (mh (a1 + 3) x2) ∧ (mh (a1 + 3) x2) ≤ 1 := zi_rd hImh (zc_13_5 hc1) (zb_62 _)
        refine zw_b (by omega) ?_
        have b36 : 0 ≤ x2 ∧ x2 < 48 := by omega
        refine zw_if b36 ?_
        generalize hmm37 : zu_up mh (a0 + 3) x2 (mh (a1 + 3) x2) = m37
        have hIm37 := zi_up hmm37 hImh (zc_16_5 hc0) (zb_67 _) (by omega) (by omega)
        have hFm37 := zfr_up hmm37 hFmh (zc_16_5 hc0) rfl
        have b38 : 0 ≤ x2 ∧ x2 < 48 := by omega
        refine zw_if b38 ?_
        have r39 : 0 ≤ (m37 (a1 + 4) x2) ∧ (m37 (a1 + 4) x2) ≤ 999000 := zi_rd hIm37 (zc_13_6 hc1) (zb_63 _)
        have b40 : 0 ≤ x2 ∧ x2 < 48 := by omega
        refine zw_if b40 ?_
        generalize hmm41 : zu_up m37 (a0 + 4) x2 (m37 (a1 + 4) x2) = m41
        have hIm41 := zi_up hmm41 hIm37 (zc_16_6 hc0) (zb_68 _) (by omega) (by omega)
        have hFm41 := zfr_up hmm41 hFm37 (zc_16_6 hc0) rfl
        have w42 := zu_w32_id (z := x2 + 1) (by omega) (by omega)
        have r43 : 0 ≤ (m41 a0 4) ∧ (m41 a0 4) ≤ 4 := zi_rd hIm41 hc0 zb_16_4
        have e44 : (m41 a0 4) = (mh a0 4) := (Eq.trans (zs_ne hmm41 (Or.inl (zc_ne hc0 (zc_16_6 hc0) (by decide)))) (zs_ne hmm37 (Or.inl (zc_ne hc0 (zc_16_5 hc0) (by decide)))))
        have hM : (48 - (zu_w32 (x2 + 1))) * 1 + 0 < (k : Int) := by omega
        exact ih.2.2 (zu_w32 (x2 + 1)) m41 hIm41 hFm41 ⟨by omega, by omega⟩ (by omega) (by omega) (zcc_mv hH2 (by omega) (fun c h0 h4 => (Eq.trans (zs_ne hmm41 (Or.inl (zc_ne (zc_66_e (zc_16_3 hc0) ⟨h0, h4⟩) (zc_16_6 hc0) (by decide)))) (zs_ne hmm37 (Or.inl (zc_ne (zc_66_e (zc_16_3 hc0) ⟨h0, h4⟩) (zc_16_5 hc0) (by decide))))))) hM
set_option maxHeartbeats 4000000 in
theorem zk_22_16_13 (n : Nat) {a0 a1 : Int} {m0 : zu_m} (hIm0 : zi_I m0) (hc0 : zcls a0 = 16) (hc1 : zcls a1 = 13)      : zw (zu_call (zt_T n) 22 [(27, a0), (27, a1)] m0) (fun v m => zi_I m ∧ zfr [(16, 3), (16, 5), (16, 9), (16, 10), (16, 11), (16, 12), (17, 1), (17, 2), (17, 3), (17, 4), (18, 1), (18, 2), (18, 3), (18, 4), (18, 5), (18, 6), (18, 7), (18, 8), (67, 0), (68, 0)] m0 m ∧ True ∧ (zE m0 a1 50 → zE m a0 50)) := by
  have hFm0 : zfr [(16, 3), (16, 5), (16, 9), (16, 10), (16, 11), (16, 12), (17, 1), (17, 2), (17, 3), (17, 4), (18, 1), (18, 2), (18, 3), (18, 4), (18, 5), (18, 6), (18, 7), (18, 8), (67, 0), (68, 0)] m0 m0 := zfr_rf _ _
  have r45 : 0 ≤ (m0 a1 4) ∧ (m0 a1 4) ≤ 4 := zi_rd hIm0 hc1 zb_13_4
  refine zw_eq (zu_call_at (zt_T n) (zm_22 n) (zdp_22 n) _ _ _ _ _ rfl (zr_22b_0 n _ _ a0 a1 m0)) ?_
  have r46 : 0 ≤ (m0 a1 2) ∧ (m0 a1 2) ≤ 16 := zi_rd hIm0 hc1 zb_13_2
  generalize hmm47 : zu_up m0 a0 2 (m0 a1 2) = m47
  have hIm47 := zi_up hmm47 hIm0 hc0 zb_16_2 (by omega) (by omega)
  have hFm47 := zfr_up hmm47 hFm0 hc0 rfl
  have hM : (16 - 0) * 1 + 54 < ((71 : Nat) : Int) := by omega
  exact (zl_22_16_13 n (m0 := m0) hc0 hc1 71).1 0 m47 hIm47 hFm47 ⟨by omega, by omega⟩ hM
set_option maxHeartbeats 4000000 in
theorem zl_22_16_19 (n : Nat) {a0 a1 : Int} {m0 : zu_m} (hc0 : zcls a0 = 16) (hc1 : zcls a1 = 19)   : ∀ k : Nat, (∀ (x2 : Int) (mh : zu_m), zi_I mh → zfr [(16, 3), (16, 5), (16, 9), (16, 10), (16, 11), (16, 12), (17, 1), (17, 2), (17, 3), (17, 4), (18, 1), (18, 2), (18, 3), (18, 4), (18, 5), (18, 6), (18, 7), (18, 8), (67, 0), (68, 0)] m0 mh → (0 ≤ x2 ∧ x2 ≤ 16) → (16 - x2) * 1 + 54 < (k : Int) → zw (zu_ex (zt_T n) 22 10 [(27, a0), (27, a1), (0, x2)] [] mh) (fun v m => zi_I m ∧ zfr [(16, 3), (16, 5), (16, 9), (16, 10), (16, 11), (16, 12), (17, 1), (17, 2), (17, 3), (17, 4), (18, 1), (18, 2), (18, 3), (18, 4), (18, 5), (18, 6), (18, 7), (18, 8), (67, 0), (68, 0)] m0 m ∧ True ∧ (zE m0 a1 50 → zE m a0 50))) ∧ (∀ (x2 : Int) (mh : zu_m), zi_I mh → zfr [(16, 3), (16, 5), (16, 9), (16, 10), (16, 11), (16, 12), (17, 1), (17, 2), (17, 3), (17, 4), (18, 1), (18, 2), (18, 3), (18, 4), (18, 5), (18, 6), (18, 7), (18, 8), (67, 0), (68, 0)] m0 mh → (0 ≤ x2 ∧ x2 ≤ 4) → ((mh a0 4) = (m0 a1 4)) → (zcc m0 mh a0 a1 x2) → (4 - x2) * 1 + 49 < (k : Int) → zw (zu_ex (zt_T n) 22 49 [(27, a0), (27, a1), (0, x2)] [] mh) (fun v m => zi_I m ∧ zfr [(16, 3), (16, 5), (16, 9), (16, 10), (16, 11), (16, 12), (17, 1), (17, 2), (17, 3), (17, 4), (18, 1), (18, 2), (18, 3), (18, 4), (18, 5), (18, 6), (18, 7), (18, 8), (67, 0), (68, 0)] m0 m ∧ True ∧ (zE m0 a1 50 → zE m a0 50))) ∧ (∀ (x2 : Int) (mh : zu_m), zi_I mh → zfr [(16, 3), (16, 5), (16, 9), (16, 10), (16, 11), (16, 12), (17, 1), (17, 2), (17, 3), (17, 4), (18, 1), (18, 2), (18, 3), (18, 4), (18, 5), (18, 6), (18, 7), (18, 8), (67, 0), (68, 0)] m0 mh → (0 ≤ x2 ∧ x2 ≤ 48) → ((mh a0 4) = (m0 a1 4)) → ((m0 a1 4) ≤ 4) → (zcc m0 mh a0 a1 (m0 a1 4)) → (48 - x2) * 1 + 0 < (k : Int) → zw (zu_ex (zt_T n) 22 80 [(27, a0), (27, a1), (0, x2)] [] mh) (fun v m => zi_I m ∧ zfr [(16, 3), (16, 5), (16, 9), (16, 10), (16, 11), (16, 12), (17, 1), (17, 2), (17, 3), (17, 4), (18, 1), (18, 2), (18, 3), (18, 4), (18, 5), (18, 6), (18, 7), (18, 8), (67, 0), (68, 0)] m0 m ∧ True ∧ (zE m0 a1 50 → zE m a0 50))) := by
  intro k
  induction k with
  | zero => exact ⟨fun x2 mh hImh hFmh hbx2 hM => by exfalso; omega, fun x2 mh hImh hFmh hbx2 hH0 hH1 hM => by exfalso; omega, fun x2 mh hImh hFmh hbx2 hH0 hH1 hH2 hM => by exfalso; omega⟩
  | succ k ih =>
    refine ⟨?_, ?_, ?_⟩
    · intro x2 mh hImh hFmh hbx2 hM
      refine zw_eq (zu_rega_at (zt_T n) (zm_22 n) (zdp_22 n) _ _ _ _ _ _ (zr_22b_10 n _ _ a0 a1 x2 mh)) ?_
      have r1 : 0 ≤ (mh a0 2) ∧ (mh a0 2) ≤ 16 := zi_rd hImh hc0 zb_16_2
      refine zw_ite (fun h2 => ?_) (fun h2 => ?_)
      · have r3 : 0 ≤ (mh a1 4) ∧ (mh a1 4) ≤ 4 := zi_rd hImh hc1 zb_19_4
        have s4 : (mh a1 4) = m0 a1 4 := zfr_ap hFmh hc1 rfl
        generalize hmm5 : zu_up mh a0 4 (mh a1 4) = m5
        have hIm5 := zi_up hmm5 hImh hc0 zb_16_4 (by omega) (by omega)
        have hFm5 := zfr_up hmm5 hFmh hc0 rfl
        have r6 : 0 ≤ (m5 a0 4) ∧ (m5 a0 4) ≤ 4 := zi_rd hIm5 hc0 zb_16_4
        have e7 : (m5 a0 4) = (mh a1 4) := (zs_eq hmm5)
        have hM : (4 - 0) * 1 + 49 < (k : Int) := by omega
        exact ih.2.1 0 m5 hIm5 hFm5 ⟨by omega, by omega⟩ (by omega) (zcc_0 _ _ _ _) hM
      · have b8 : 0 ≤ x2 ∧ x2 < 16 := by omega
        refine zw_if b8 ?_
        have b9 : 0 ≤ x2 ∧ x2 < 16 := by omega
        refine zw_if b9 ?_
        refine zw_bd (zw_mono (zk_197_17_20 n hImh (zc_65_e (zc_16_1 hc0) b8) (zc_70_e (zc_19_1 hc1) b9)) (fun v11 m10 hqm10 => ?_))
        obtain ⟨hIm10, hfm10, hvm10⟩ := hqm10
        have hFm10 := zfr_tr hFmh hfm10 rfl
        have w12 := zu_w32_id (z := x2 + 1) (by omega) (by omega)
        have hM : (16 - (zu_w32 (x2 + 1))) * 1 + 54 < (k : Int) := by omega
        exact ih.1 (zu_w32 (x2 + 1)) m10 hIm10 hFm10 ⟨by omega, by omega⟩ hM
    · intro x2 mh hImh hFmh hbx2 hH0 hH1 hM
      refine zw_eq (zu_rega_at (zt_T n) (zm_22 n) (zdp_22 n) _ _ _ _ _ _ (zr_22b_49 n _ _ a0 a1 x2 mh)) ?_
      have r13 : 0 ≤ (mh a0 4) ∧ (mh a0 4) ≤ 4 := zi_rd hImh hc0 zb_16_4
      refine zw_ite (fun h14 => ?_) (fun h14 => ?_)
      · have hM : (48 - 0) * 1 + 0 < (k : Int) := by omega
        exact ih.2.2 0 mh hImh hFmh ⟨by omega, by omega⟩ (by omega) (by omega) (zcc_x hH1 (by omega)) hM
      · have b15 : 0 ≤ x2 ∧ x2 < 4 := by omega
        refine zw_if b15 ?_
        have b16 : 0 ≤ x2 ∧ x2 < 4 := by omega
        refine zw_if b16 ?_
        refine zw_bd (zw_mono (zk_196_18_21 n hImh (zc_66_e (zc_16_3 hc0) b15) (zc_71_e (zc_19_3 hc1) b16)) (fun v18 m17 hqm17 => ?_))
        obtain ⟨hIm17, hfm17, hvm17⟩ := hqm17
        have hFm17 := zfr_tr hFmh hfm17 rfl
        have hcam17 : m17 ((a0 + 2) + 20 + x2) 1 = mh ((a1 + 2) + 20 + x2) 1 := (hvm17.2.1)
        have hcbm17 : mh ((a1 + 2) + 20 + x2) 1 = m0 ((a1 + 2) + 20 + x2) 1 := zfr_ap hFmh (zc_71_e (zc_19_3 hc1) b16) rfl
        have hccm17 := (hvm17.2.2)
        have w19 := zu_w32_id (z := x2 + 1) (by omega) (by omega)
        have r20 : 0 ≤ (m17 a0 4) ∧ (m17 a0 4) ≤ 4 := zi_rd hIm17 hc0 zb_16_4
        have e21 : (m17 a0 4) = (mh a0 4) := (zfr_ap hfm17 hc0 rfl)
        have hM : (4 - (zu_w32 (x2 + 1))) * 1 + 49 < (k : Int) := by omega
        exact ih.2.1 (zu_w32 (x2 + 1)) m17 hIm17 hFm17 ⟨by omega, by omega⟩ (by omega) (zcc_s hH1 hcam17 hcbm17 hccm17 (by omega) (by omega) (by omega)) hM
    · intro x2 mh hImh hFmh hbx2 hH0 hH1 hH2 hM
      refine zw_eq (zu_rega_at (zt_T n) (zm_22 n) (zdp_22 n) _ _ _ _ _ _ (zr_22b_80 n _ _ a0 a1 x2 mh)) ?_
      have r22 : 0 ≤ (mh a0 4) ∧ (mh a0 4) ≤ 4 := zi_rd hImh hc0 zb_16_4
      refine zw_ite (fun h23 => ?_) (fun h23 => ?_)
      · have r24 : 0 ≤ (mh a1 8) ∧ (mh a1 8) ≤ 9999 := zi_rd hImh hc1 zb_19_8
        generalize hmm25 : zu_up mh a0 8 (mh a1 8) = m25
        have hIm25 := zi_up hmm25 hImh hc0 zb_16_8 (by omega) (by omega)
        have hFm25 := zfr_up hmm25 hFmh hc0 rfl
        have r26 : (-2147483648) ≤ (m25 a1 9) ∧ (m25 a1 9) ≤ 2147483647 := zi_rd hIm25 hc1 zb_19_9
        generalize hmm27 : zu_up m25 a0 9 (m25 a1 9) = m27
        have hIm27 := zi_up hmm27 hIm25 hc0 zb_16_9 (by omega) (by omega)
        have hFm27 := zfr_up hmm27 hFm25 hc0 rfl
        have r28 : 0 ≤ (m27 a1 10) ∧ (m27 a1 10) ≤ 3 := zi_rd hIm27 hc1 zb_19_10
        generalize hmm29 : zu_up m27 a0 10 (m27 a1 10) = m29
        have hIm29 := zi_up hmm29 hIm27 hc0 zb_16_10 (by omega) (by omega)
        have hFm29 := zfr_up hmm29 hFm27 hc0 rfl
        have r30 : (-2147483648) ≤ (m29 a1 11) ∧ (m29 a1 11) ≤ 2147483647 := zi_rd hIm29 hc1 zb_19_11
        generalize hmm31 : zu_up m29 a0 11 (m29 a1 11) = m31
        have hIm31 := zi_up hmm31 hIm29 hc0 zb_16_11 (by omega) (by omega)
        have hFm31 := zfr_up hmm31 hFm29 hc0 rfl
        have r32 : 0 ≤ (m31 a0 4) ∧ (m31 a0 4) ≤ 4 := zi_rd hIm31 hc0 zb_16_4
        have e33 : (m31 a0 4) = (mh a0 4) := (Eq.trans (zs_ne hmm31 (Or.inr (by decide))) (Eq.trans (zs_ne hmm29 (Or.inr (by decide))) (Eq.trans (zs_ne hmm27 (Or.inr (by decide))) (zs_ne hmm25 (Or.inr (by decide))))))
        exact zw_some ⟨hIm31, hFm31, trivial, (fun hE => zE_cp (zcc_mv hH2 (by omega) (fun c h0 h4 => (Eq.trans (zs_ne hmm31 (Or.inl (zc_ne (zc_66_e (zc_16_3 hc0) ⟨h0, h4⟩) hc0 (by decide)))) (Eq.trans (zs_ne hmm29 (Or.inl (zc_ne (zc_66_e (zc_16_3 hc0) ⟨h0, h4⟩) hc0 (by decide)))) (Eq.trans (zs_ne hmm27 (Or.inl (zc_ne (zc_66_e (zc_16_3 hc0) ⟨h0, h4⟩) hc0 (by decide)))) (zs_ne hmm25 (Or.inl (zc_ne (zc_66_e (zc_16_3 hc0) ⟨h0, h4⟩) hc0 (by decide))))))))) (by omega) (by omega) (zfr_ap hFm31 zq_50 rfl) hE)⟩
      · have b34 : 0 ≤ x2 ∧ x2 < 48 := by omega
        refine zw_if b34 ?_
        have r35 : 0 ≤ (mh (a1 + 3) x2) ∧ (mh (a1 + 3) x2) ≤ 1 := zi_rd hImh (zc_19_5 hc1) (zb_72 _)
        refine zw_b (by omega) ?_
        have b36 : 0 ≤ x2 ∧ x2 < 48 := by omega
        refine zw_if b36 ?_
        generalize hmm37 : zu_up mh (a0 + 3) x2 (mh (a1 + 3) x2) = m37
        have hIm37 := zi_up hmm37 hImh (zc_16_5 hc0) (zb_67 _) (by omega) (by omega)
        have hFm37 := zfr_up hmm37 hFmh (zc_16_5 hc0) rfl
        have b38 : 0 ≤ x2 ∧ x2 < 48 := by omega
        refine zw_if b38 ?_
        have r39 : 0 ≤ (m37 (a1 + 4) x2) ∧ (m37 (a1 + 4) x2) ≤ 999000 := zi_rd hIm37 (zc_19_6 hc1) (zb_73 _)
        have b40 : 0 ≤ x2 ∧ x2 < 48 := by omega
        refine zw_if b40 ?_
        generalize hmm41 : zu_up m37 (a0 + 4) x2 (m37 (a1 + 4) x2) = m41
        have hIm41 := zi_up hmm41 hIm37 (zc_16_6 hc0) (zb_68 _) (by omega) (by omega)
        have hFm41 := zfr_up hmm41 hFm37 (zc_16_6 hc0) rfl
        have w42 := zu_w32_id (z := x2 + 1) (by omega) (by omega)
        have r43 : 0 ≤ (m41 a0 4) ∧ (m41 a0 4) ≤ 4 := zi_rd hIm41 hc0 zb_16_4
        have e44 : (m41 a0 4) = (mh a0 4) := (Eq.trans (zs_ne hmm41 (Or.inl (zc_ne hc0 (zc_16_6 hc0) (by decide)))) (zs_ne hmm37 (Or.inl (zc_ne hc0 (zc_16_5 hc0) (by decide)))))
        have hM : (48 - (zu_w32 (x2 + 1))) * 1 + 0 < (k : Int) := by omega
        exact ih.2.2 (zu_w32 (x2 + 1)) m41 hIm41 hFm41 ⟨by omega, by omega⟩ (by omega) (by omega) (zcc_mv hH2 (by omega) (fun c h0 h4 => (Eq.trans (zs_ne hmm41 (Or.inl (zc_ne (zc_66_e (zc_16_3 hc0) ⟨h0, h4⟩) (zc_16_6 hc0) (by decide)))) (zs_ne hmm37 (Or.inl (zc_ne (zc_66_e (zc_16_3 hc0) ⟨h0, h4⟩) (zc_16_5 hc0) (by decide))))))) hM
set_option maxHeartbeats 4000000 in
theorem zk_22_16_19 (n : Nat) {a0 a1 : Int} {m0 : zu_m} (hIm0 : zi_I m0) (hc0 : zcls a0 = 16) (hc1 : zcls a1 = 19)      : zw (zu_call (zt_T n) 22 [(27, a0), (27, a1)] m0) (fun v m => zi_I m ∧ zfr [(16, 3), (16, 5), (16, 9), (16, 10), (16, 11), (16, 12), (17, 1), (17, 2), (17, 3), (17, 4), (18, 1), (18, 2), (18, 3), (18, 4), (18, 5), (18, 6), (18, 7), (18, 8), (67, 0), (68, 0)] m0 m ∧ True ∧ (zE m0 a1 50 → zE m a0 50)) := by
  have hFm0 : zfr [(16, 3), (16, 5), (16, 9), (16, 10), (16, 11), (16, 12), (17, 1), (17, 2), (17, 3), (17, 4), (18, 1), (18, 2), (18, 3), (18, 4), (18, 5), (18, 6), (18, 7), (18, 8), (67, 0), (68, 0)] m0 m0 := zfr_rf _ _
  have r45 : 0 ≤ (m0 a1 4) ∧ (m0 a1 4) ≤ 4 := zi_rd hIm0 hc1 zb_19_4
  refine zw_eq (zu_call_at (zt_T n) (zm_22 n) (zdp_22 n) _ _ _ _ _ rfl (zr_22b_0 n _ _ a0 a1 m0)) ?_
  have r46 : 0 ≤ (m0 a1 2) ∧ (m0 a1 2) ≤ 16 := zi_rd hIm0 hc1 zb_19_2
  generalize hmm47 : zu_up m0 a0 2 (m0 a1 2) = m47
  have hIm47 := zi_up hmm47 hIm0 hc0 zb_16_2 (by omega) (by omega)
  have hFm47 := zfr_up hmm47 hFm0 hc0 rfl
  have hM : (16 - 0) * 1 + 54 < ((71 : Nat) : Int) := by omega
  exact (zl_22_16_19 n (m0 := m0) hc0 hc1 71).1 0 m47 hIm47 hFm47 ⟨by omega, by omega⟩ hM
set_option maxHeartbeats 4000000 in
theorem zl_22_19_16 (n : Nat) {a0 a1 : Int} {m0 : zu_m} (hc0 : zcls a0 = 19) (hc1 : zcls a1 = 16)   : ∀ k : Nat, (∀ (x2 : Int) (mh : zu_m), zi_I mh → zfr [(19, 3), (19, 5), (19, 9), (19, 10), (19, 11), (19, 12), (20, 1), (20, 2), (20, 3), (20, 4), (21, 1), (21, 2), (21, 3), (21, 4), (21, 5), (21, 6), (21, 7), (21, 8), (72, 0), (73, 0)] m0 mh → (0 ≤ x2 ∧ x2 ≤ 16) → (16 - x2) * 1 + 54 < (k : Int) → zw (zu_ex (zt_T n) 22 10 [(27, a0), (27, a1), (0, x2)] [] mh) (fun v m => zi_I m ∧ zfr [(19, 3), (19, 5), (19, 9), (19, 10), (19, 11), (19, 12), (20, 1), (20, 2), (20, 3), (20, 4), (21, 1), (21, 2), (21, 3), (21, 4), (21, 5), (21, 6), (21, 7), (21, 8), (72, 0), (73, 0)] m0 m ∧ True ∧ (zE m0 a1 50 → zE m a0 50))) ∧ (∀ (x2 : Int) (mh : zu_m), zi_I mh → zfr [(19, 3), (19, 5), (19, 9), (19, 10), (19, 11), (19, 12), (20, 1), (20, 2), (20, 3), (20, 4), (21, 1), (21, 2), (21, 3), (21, 4), (21, 5), (21, 6), (21, 7), (21, 8), (72, 0), (73, 0)] m0 mh → (0 ≤ x2 ∧ x2 ≤ 4) → ((mh a0 4) = (m0 a1 4)) → (zcc m0 mh a0 a1 x2) → (4 - x2) * 1 + 49 < (k : Int) → zw (zu_ex (zt_T n) 22 49 [(27, a0), (27, a1), (0, x2)] [] mh) (fun v m => zi_I m ∧ zfr [(19, 3), (19, 5), (19, 9), (19, 10), (19, 11), (19, 12), (20, 1), (20, 2), (20, 3), (20, 4), (21, 1), (21, 2), (21, 3), (21, 4), (21, 5), (21, 6), (21, 7), (21, 8), (72, 0), (73, 0)] m0 m ∧ True ∧ (zE m0 a1 50 → zE m a0 50))) ∧ (∀ (x2 : Int) (mh : zu_m), zi_I mh → zfr [(19, 3), (19, 5), (19, 9), (19, 10), (19, 11), (19, 12), (20, 1), (20, 2), (20, 3), (20, 4), (21, 1), (21, 2), (21, 3), (21, 4), (21, 5), (21, 6), (21, 7), (21, 8), (72, 0), (73, 0)] m0 mh → (0 ≤ x2 ∧ x2 ≤ 48) → ((mh a0 4) = (m0 a1 4)) → ((m0 a1 4) ≤ 4) → (zcc m0 mh a0 a1 (m0 a1 4)) → (48 - x2) * 1 + 0 < (k : Int) → zw (zu_ex (zt_T n) 22 80 [(27, a0), (27, a1), (0, x2)] [] mh) (fun v m => zi_I m ∧ zfr [(19, 3), (19, 5), (19, 9), (19, 10), (19, 11), (19, 12), (20, 1), (20, 2), (20, 3), (20, 4), (21, 1), (21, 2), (21, 3), (21, 4), (21, 5), (21, 6), (21, 7), (21, 8), (72, 0), (73, 0)] m0 m ∧ True ∧ (zE m0 a1 50 → zE m a0 50))) := by
  intro k
  induction k with
  | zero => exact ⟨fun x2 mh hImh hFmh hbx2 hM => by exfalso; omega, fun x2 mh hImh hFmh hbx2 hH0 hH1 hM => by exfalso; omega, fun x2 mh hImh hFmh hbx2 hH0 hH1 hH2 hM => by exfalso; omega⟩
  | succ k ih =>
    refine ⟨?_, ?_, ?_⟩
    · intro x2 mh hImh hFmh hbx2 hM
      refine zw_eq (zu_rega_at (zt_T n) (zm_22 n) (zdp_22 n) _ _ _ _ _ _ (zr_22b_10 n _ _ a0 a1 x2 mh)) ?_
      have r1 : 0 ≤ (mh a0 2) ∧ (mh a0 2) ≤ 16 := zi_rd hImh hc0 zb_19_2
      refine zw_ite (fun h2 => ?_) (fun h2 => ?_)
      · have r3 : 0 ≤ (mh a1 4) ∧ (mh a1 4) ≤ 4 := zi_rd hImh hc1 zb_16_4
        have s4 : (mh a1 4) = m0 a1 4 := zfr_ap hFmh hc1 rfl
        generalize hmm5 : zu_up mh a0 4 (mh a1 4) = m5
        have hIm5 := zi_up hmm5 hImh hc0 zb_19_4 (by omega) (by omega)
        have hFm5 := zfr_up hmm5 hFmh hc0 rfl
        have r6 : 0 ≤ (m5 a0 4) ∧ (m5 a0 4) ≤ 4 := zi_rd hIm5 hc0 zb_19_4
        have e7 : (m5 a0 4) = (mh a1 4) := (zs_eq hmm5)
        have hM : (4 - 0) * 1 + 49 < (k : Int) := by omega
        exact ih.2.1 0 m5 hIm5 hFm5 ⟨by omega, by omega⟩ (by omega) (zcc_0 _ _ _ _) hM
      · have b8 : 0 ≤ x2 ∧ x2 < 16 := by omega
        refine zw_if b8 ?_
        have b9 : 0 ≤ x2 ∧ x2 < 16 := by omega
        refine zw_if b9 ?_
        refine zw_bd (zw_mono (zk_197_20_17 n hImh (zc_70_e (zc_19_1 hc0) b8) (zc_65_e (zc_16_1 hc1) b9)) (fun v11 m10 hqm10 => ?_))
        obtain ⟨hIm10, hfm10, hvm10⟩ := hqm10
        have hFm10 := zfr_tr hFmh hfm10 rfl
        have w12 := zu_w32_id (z := x2 + 1) (by omega) (by omega)
        have hM : (16 - (zu_w32 (x2 + 1))) * 1 + 54 < (k : Int) := by omega
        exact ih.1 (zu_w32 (x2 + 1)) m10 hIm10 hFm10 ⟨by omega, by omega⟩ hM
    · intro x2 mh hImh hFmh hbx2 hH0 hH1 hM
      refine zw_eq (zu_rega_at (zt_T n) (zm_22 n) (zdp_22 n) _ _ _ _ _ _ (zr_22b_49 n _ _ a0 a1 x2 mh)) ?_
      have r13 : 0 ≤ (mh a0 4) ∧ (mh a0 4) ≤ 4 := zi_rd hImh hc0 zb_19_4
      refine zw_ite (fun h14 => ?_) (fun h14 => ?_)
      · have hM : (48 - 0) * 1 + 0 < (k : Int) := by omega
        exact ih.2.2 0 mh hImh hFmh ⟨by omega, by omega⟩ (by omega) (by omega) (zcc_x hH1 (by omega)) hM
      · have b15 : 0 ≤ x2 ∧ x2 < 4 := by omega
        refine zw_if b15 ?_
        have b16 : 0 ≤ x2 ∧ x2 < 4 := by omega
        refine zw_if b16 ?_
        refine zw_bd (zw_mono (zk_196_21_18 n hImh (zc_71_e (zc_19_3 hc0) b15) (zc_66_e (zc_16_3 hc1) b16)) (fun v18 m17 hqm17 => ?_))
        obtain ⟨hIm17, hfm17, hvm17⟩ := hqm17
        have hFm17 := zfr_tr hFmh hfm17 rfl
        have hcam17 : m17 ((a0 + 2) + 20 + x2) 1 = mh ((a1 + 2) + 20 + x2) 1 := (hvm17.2.1)
        have hcbm17 : mh ((a1 + 2) + 20 + x2) 1 = m0 ((a1 + 2) + 20 + x2) 1 := zfr_ap hFmh (zc_66_e (zc_16_3 hc1) b16) rfl
        have hccm17 := (hvm17.2.2)
        have w19 := zu_w32_id (z := x2 + 1) (by omega) (by omega)
        have r20 : 0 ≤ (m17 a0 4) ∧ (m17 a0 4) ≤ 4 := zi_rd hIm17 hc0 zb_19_4
        have e21 : (m17 a0 4) = (mh a0 4) := (zfr_ap hfm17 hc0 rfl)
        have hM : (4 - (zu_w32 (x2 + 1))) * 1 + 49 < (k : Int) := by omega
        exact ih.2.1 (zu_w32 (x2 + 1)) m17 hIm17 hFm17 ⟨by omega, by omega⟩ (by omega) (zcc_s hH1 hcam17 hcbm17 hccm17 (by omega) (by omega) (by omega)) hM
    · intro x2 mh hImh hFmh hbx2 hH0 hH1 hH2 hM
      refine zw_eq (zu_rega_at (zt_T n) (zm_22 n) (zdp_22 n) _ _ _ _ _ _ (zr_22b_80 n _ _ a0 a1 x2 mh)) ?_
      have r22 : 0 ≤ (mh a0 4) ∧ (mh a0 4) ≤ 4 := zi_rd hImh hc0 zb_19_4
      refine zw_ite (fun h23 => ?_) (fun h23 => ?_)
      · have r24 : 0 ≤ (mh a1 8) ∧ (mh a1 8) ≤ 9999 := zi_rd hImh hc1 zb_16_8
        generalize hmm25 : zu_up mh a0 8 (mh a1 8) = m25
        have hIm25 := zi_up hmm25 hImh hc0 zb_19_8 (by omega) (by omega)
        have hFm25 := zfr_up hmm25 hFmh hc0 rfl
        have r26 : (-2147483648) ≤ (m25 a1 9) ∧ (m25 a1 9) ≤ 2147483647 := zi_rd hIm25 hc1 zb_16_9
        generalize hmm27 : zu_up m25 a0 9 (m25 a1 9) = m27
        have hIm27 := zi_up hmm27 hIm25 hc0 zb_19_9 (by omega) (by omega)
        have hFm27 := zfr_up hmm27 hFm25 hc0 rfl
        have r28 : 0 ≤ (m27 a1 10) ∧ (m27 a1 10) ≤ 3 := zi_rd hIm27 hc1 zb_16_10
        generalize hmm29 : zu_up m27 a0 10 (m27 a1 10) = m29
        have hIm29 := zi_up hmm29 hIm27 hc0 zb_19_10 (by omega) (by omega)
        have hFm29 := zfr_up hmm29 hFm27 hc0 rfl
        have r30 : (-2147483648) ≤ (m29 a1 11) ∧ (m29 a1 11) ≤ 2147483647 := zi_rd hIm29 hc1 zb_16_11
        generalize hmm31 : zu_up m29 a0 11 (m29 a1 11) = m31
        have hIm31 := zi_up hmm31 hIm29 hc0 zb_19_11 (by omega) (by omega)
        have hFm31 := zfr_up hmm31 hFm29 hc0 rfl
        have r32 : 0 ≤ (m31 a0 4) ∧ (m31 a0 4) ≤ 4 := zi_rd hIm31 hc0 zb_19_4
        have e33 : (m31 a0 4) = (mh a0 4) := (Eq.trans (zs_ne hmm31 (Or.inr (by decide))) (Eq.trans (zs_ne hmm29 (Or.inr (by decide))) (Eq.trans (zs_ne hmm27 (Or.inr (by decide))) (zs_ne hmm25 (Or.inr (by decide))))))
        exact zw_some ⟨hIm31, hFm31, trivial, (fun hE => zE_cp (zcc_mv hH2 (by omega) (fun c h0 h4 => (Eq.trans (zs_ne hmm31 (Or.inl (zc_ne (zc_71_e (zc_19_3 hc0) ⟨h0, h4⟩) hc0 (by decide)))) (Eq.trans (zs_ne hmm29 (Or.inl (zc_ne (zc_71_e (zc_19_3 hc0) ⟨h0, h4⟩) hc0 (by decide)))) (Eq.trans (zs_ne hmm27 (Or.inl (zc_ne (zc_71_e (zc_19_3 hc0) ⟨h0, h4⟩) hc0 (by decide)))) (zs_ne hmm25 (Or.inl (zc_ne (zc_71_e (zc_19_3 hc0) ⟨h0, h4⟩) hc0 (by decide))))))))) (by omega) (by omega) (zfr_ap hFm31 zq_50 rfl) hE)⟩
      · have b34 : 0 ≤ x2 ∧ x2 < 48 := by omega
        refine zw_if b34 ?_
        have r35 : 0 ≤ (mh (a1 + 3) x2) ∧ (mh (a1 + 3) x2) ≤ 1 := zi_rd hImh (zc_16_5 hc1) (zb_67 _)
        refine zw_b (by omega) ?_
        have b36 : 0 ≤ x2 ∧ x2 < 48 := by omega
        refine zw_if b36 ?_
        generalize hmm37 : zu_up mh (a0 + 3) x2 (mh (a1 + 3) x2) = m37
        have hIm37 := zi_up hmm37 hImh (zc_19_5 hc0) (zb_72 _) (by omega) (by omega)
        have hFm37 := zfr_up hmm37 hFmh (zc_19_5 hc0) rfl
        have b38 : 0 ≤ x2 ∧ x2 < 48 := by omega
        refine zw_if b38 ?_
        have r39 : 0 ≤ (m37 (a1 + 4) x2) ∧ (m37 (a1 + 4) x2) ≤ 999000 := zi_rd hIm37 (zc_16_6 hc1) (zb_68 _)
        have b40 : 0 ≤ x2 ∧ x2 < 48 := by omega
        refine zw_if b40 ?_
        generalize hmm41 : zu_up m37 (a0 + 4) x2 (m37 (a1 + 4) x2) = m41
        have hIm41 := zi_up hmm41 hIm37 (zc_19_6 hc0) (zb_73 _) (by omega) (by omega)
        have hFm41 := zfr_up hmm41 hFm37 (zc_19_6 hc0) rfl
        have w42 := zu_w32_id (z := x2 + 1) (by omega) (by omega)
        have r43 : 0 ≤ (m41 a0 4) ∧ (m41 a0 4) ≤ 4 := zi_rd hIm41 hc0 zb_19_4
        have e44 : (m41 a0 4) = (mh a0 4) := (Eq.trans (zs_ne hmm41 (Or.inl (zc_ne hc0 (zc_19_6 hc0) (by decide)))) (zs_ne hmm37 (Or.inl (zc_ne hc0 (zc_19_5 hc0) (by decide)))))
        have hM : (48 - (zu_w32 (x2 + 1))) * 1 + 0 < (k : Int) := by omega
        exact ih.2.2 (zu_w32 (x2 + 1)) m41 hIm41 hFm41 ⟨by omega, by omega⟩ (by omega) (by omega) (zcc_mv hH2 (by omega) (fun c h0 h4 => (Eq.trans (zs_ne hmm41 (Or.inl (zc_ne (zc_71_e (zc_19_3 hc0) ⟨h0, h4⟩) (zc_19_6 hc0) (by decide)))) (zs_ne hmm37 (Or.inl (zc_ne (zc_71_e (zc_19_3 hc0) ⟨h0, h4⟩) (zc_19_5 hc0) (by decide))))))) hM
set_option maxHeartbeats 4000000 in
theorem zk_22_19_16 (n : Nat) {a0 a1 : Int} {m0 : zu_m} (hIm0 : zi_I m0) (hc0 : zcls a0 = 19) (hc1 : zcls a1 = 16)      : zw (zu_call (zt_T n) 22 [(27, a0), (27, a1)] m0) (fun v m => zi_I m ∧ zfr [(19, 3), (19, 5), (19, 9), (19, 10), (19, 11), (19, 12), (20, 1), (20, 2), (20, 3), (20, 4), (21, 1), (21, 2), (21, 3), (21, 4), (21, 5), (21, 6), (21, 7), (21, 8), (72, 0), (73, 0)] m0 m ∧ True ∧ (zE m0 a1 50 → zE m a0 50)) := by
  have hFm0 : zfr [(19, 3), (19, 5), (19, 9), (19, 10), (19, 11), (19, 12), (20, 1), (20, 2), (20, 3), (20, 4), (21, 1), (21, 2), (21, 3), (21, 4), (21, 5), (21, 6), (21, 7), (21, 8), (72, 0), (73, 0)] m0 m0 := zfr_rf _ _
  have r45 : 0 ≤ (m0 a1 4) ∧ (m0 a1 4) ≤ 4 := zi_rd hIm0 hc1 zb_16_4
  refine zw_eq (zu_call_at (zt_T n) (zm_22 n) (zdp_22 n) _ _ _ _ _ rfl (zr_22b_0 n _ _ a0 a1 m0)) ?_
  have r46 : 0 ≤ (m0 a1 2) ∧ (m0 a1 2) ≤ 16 := zi_rd hIm0 hc1 zb_16_2
  generalize hmm47 : zu_up m0 a0 2 (m0 a1 2) = m47
  have hIm47 := zi_up hmm47 hIm0 hc0 zb_19_2 (by omega) (by omega)
  have hFm47 := zfr_up hmm47 hFm0 hc0 rfl
  have hM : (16 - 0) * 1 + 54 < ((71 : Nat) : Int) := by omega
  exact (zl_22_19_16 n (m0 := m0) hc0 hc1 71).1 0 m47 hIm47 hFm47 ⟨by omega, by omega⟩ hM
set_option maxHeartbeats 4000000 in
theorem zl_22_25_13 (n : Nat) {a0 a1 : Int} {m0 : zu_m} (hc0 : zcls a0 = 25) (hc1 : zcls a1 = 13)   : ∀ k : Nat, (∀ (x2 : Int) (mh : zu_m), zi_I mh → zfr [(25, 3), (25, 5), (25, 9), (25, 10), (25, 11), (25, 12), (26, 1), (26, 2), (26, 3), (26, 4), (27, 1), (27, 2), (27, 3), (27, 4), (27, 5), (27, 6), (27, 7), (27, 8), (97, 0), (98, 0)] m0 mh → (0 ≤ x2 ∧ x2 ≤ 16) → (16 - x2) * 1 + 54 < (k : Int) → zw (zu_ex (zt_T n) 22 10 [(27, a0), (27, a1), (0, x2)] [] mh) (fun v m => zi_I m ∧ zfr [(25, 3), (25, 5), (25, 9), (25, 10), (25, 11), (25, 12), (26, 1), (26, 2), (26, 3), (26, 4), (27, 1), (27, 2), (27, 3), (27, 4), (27, 5), (27, 6), (27, 7), (27, 8), (97, 0), (98, 0)] m0 m ∧ True ∧ (0 ≤ m a0 8 ∧ m a0 8 ≤ 9999) ∧ (zE m0 a1 50 → zE m a0 50))) ∧ (∀ (x2 : Int) (mh : zu_m), zi_I mh → zfr [(25, 3), (25, 5), (25, 9), (25, 10), (25, 11), (25, 12), (26, 1), (26, 2), (26, 3), (26, 4), (27, 1), (27, 2), (27, 3), (27, 4), (27, 5), (27, 6), (27, 7), (27, 8), (97, 0), (98, 0)] m0 mh → (0 ≤ x2 ∧ x2 ≤ 4) → ((mh a0 4) = (m0 a1 4)) → (zcc m0 mh a0 a1 x2) → (4 - x2) * 1 + 49 < (k : Int) → zw (zu_ex (zt_T n) 22 49 [(27, a0), (27, a1), (0, x2)] [] mh) (fun v m => zi_I m ∧ zfr [(25, 3), (25, 5), (25, 9), (25, 10), (25, 11), (25, 12), (26, 1), (26, 2), (26, 3), (26, 4), (27, 1), (27, 2), (27, 3), (27, 4), (27, 5), (27, 6), (27, 7), (27, 8), (97, 0), (98, 0)] m0 m ∧ True ∧ (0 ≤ m a0 8 ∧ m a0 8 ≤ 9999) ∧ (zE m0 a1 50 → zE m a0 50))) ∧ (∀ (x2 : Int) (mh : zu_m), zi_I mh → zfr [(25, 3), (25, 5), (25, 9), (25, 10), (25, 11), (25, 12), (26, 1), (26, 2), (26, 3), (26, 4), (27, 1), (27, 2), (27, 3), (27, 4), (27, 5), (27, 6), (27, 7), (27, 8), (97, 0), (98, 0)] m0 mh → (0 ≤ x2 ∧ x2 ≤ 48) → ((mh a0 4) = (m0 a1 4)) → ((m0 a1 4) ≤ 4) → (zcc m0 mh a0 a1 (m0 a1 4)) → (48 - x2) * 1 + 0 < (k : Int) → zw (zu_ex (zt_T n) 22 80 [(27, a0), (27, a1), (0, x2)] [] mh) (fun v m => zi_I m ∧ zfr [(25, 3), (25, 5), (25, 9), (25, 10), (25, 11), (25, 12), (26, 1), (26, 2), (26, 3), (26, 4), (27, 1), (27, 2), (27, 3), (27, 4), (27, 5), (27, 6), (27, 7), (27, 8), (97, 0), (98, 0)] m0 m ∧ True ∧ (0 ≤ m a0 8 ∧ m a0 8 ≤ 9999) ∧ (zE m0 a1 50 → zE m a0 50))) := by
  intro k
  induction k with
  | zero => exact ⟨fun x2 mh hImh hFmh hbx2 hM => by exfalso; omega, fun x2 mh hImh hFmh hbx2 hH0 hH1 hM => by exfalso; omega, fun x2 mh hImh hFmh hbx2 hH0 hH1 hH2 hM => by exfalso; omega⟩
  | succ k ih =>
    refine ⟨?_, ?_, ?_⟩
    · intro x2 mh hImh hFmh hbx2 hM
      refine zw_eq (zu_rega_at (zt_T n) (zm_22 n) (zdp_22 n) _ _ _ _ _ _ (zr_22b_10 n _ _ a0 a1 x2 mh)) ?_
      have r1 : 0 ≤ (mh a0 2) ∧ (mh a0 2) ≤ 16 := zi_rd hImh hc0 zb_25_2
      refine zw_ite (fun h2 => ?_) (fun h2 => ?_)
      · have r3 : 0 ≤ (mh a1 4) ∧ (mh a1 4) ≤ 4 := zi_rd hImh hc1 zb_13_4
        have s4 : (mh a1 4) = m0 a1 4 := zfr_ap hFmh hc1 rfl
        generalize hmm5 : zu_up mh a0 4 (mh a1 4) = m5
        have hIm5 := zi_up hmm5 hImh hc0 zb_25_4 (by omega) (by omega)
        have hFm5 := zfr_up hmm5 hFmh hc0 rfl
        have r6 : 0 ≤ (m5 a0 4) ∧ (m5 a0 4) ≤ 4 := zi_rd hIm5 hc0 zb_25_4
        have e7 : (m5 a0 4) = (mh a1 4) := (zs_eq hmm5)
        have hM : (4 - 0) * 1 + 49 < (k : Int) := by omega
        exact ih.2.1 0 m5 hIm5 hFm5 ⟨by omega, by omega⟩ (by omega) (zcc_0 _ _ _ _) hM
      · have b8 : 0 ≤ x2 ∧ x2 < 16 := by omega
        refine zw_if b8 ?_
        have b9 : 0 ≤ x2 ∧ x2 < 16 := by omega
        refine zw_if b9 ?_
        refine zw_bd (zw_mono (zk_197_26_14 n hImh (zc_95_e (zc_25_1 hc0) b8) (zc_60_e (zc_13_1 hc1) b9)) (fun v11 m10 hqm10 => ?_))
        obtain ⟨hIm10, hfm10, hvm10⟩ := hqm10
        have hFm10 := zfr_tr hFmh hfm10 rfl
        have w12 := zu_w32_id (z := x2 + 1) (by omega) (by omega)
        have hM : (16 - (zu_w32 (x2 + 1))) * 1 + 54 < (k : Int) := by omega
        exact ih.1 (zu_w32 (x2 + 1)) m10 hIm10 hFm10 ⟨by omega, by omega⟩ hM
    · intro x2 mh hImh hFmh hbx2 hH0 hH1 hM
      refine zw_eq (zu_rega_at (zt_T n) (zm_22 n) (zdp_22 n) _ _ _ _ _ _ (zr_22b_49 n _ _ a0 a1 x2 mh)) ?_
      have r13 : 0 ≤ (mh a0 4) ∧ (mh a0 4) ≤ 4 := zi_rd hImh hc0 zb_25_4
      refine zw_ite (fun h14 => ?_) (fun h14 => ?_)
      · have hM : (48 - 0) * 1 + 0 < (k : Int) := by omega
        exact ih.2.2 0 mh hImh hFmh ⟨by omega, by omega⟩ (by omega) (by omega) (zcc_x hH1 (by omega)) hM
      · have b15 : 0 ≤ x2 ∧ x2 < 4 := by omega
        refine zw_if b15 ?_
        have b16 : 0 ≤ x2 ∧ x2 < 4 := by omega
        refine zw_if b16 ?_
        refine zw_bd (zw_mono (zk_196_27_15 n hImh (zc_96_e (zc_25_3 hc0) b15) (zc_61_e (zc_13_3 hc1) b16)) (fun v18 m17 hqm17 => ?_))
        obtain ⟨hIm17, hfm17, hvm17⟩ := hqm17
        have hFm17 := zfr_tr hFmh hfm17 rfl
        have hcam17 : m17 ((a0 + 2) + 20 + x2) 1 = mh ((a1 + 2) + 20 + x2) 1 := (hvm17.2.1)
        have hcbm17 : mh ((a1 + 2) + 20 + x2) 1 = m0 ((a1 + 2) + 20 + x2) 1 := zfr_ap hFmh (zc_61_e (zc_13_3 hc1) b16) rfl
        have hccm17 := (hvm17.2.2)
        have w19 := zu_w32_id (z := x2 + 1) (by omega) (by omega)
        have r20 : 0 ≤ (m17 a0 4) ∧ (m17 a0 4) ≤ 4 := zi_rd hIm17 hc0 zb_25_4
        have e21 : (m17 a0 4) = (mh a0 4) := (zfr_ap hfm17 hc0 rfl)
        have hM : (4 - (zu_w32 (x2 + 1))) * 1 + 49 < (k : Int) := by omega
        exact ih.2.1 (zu_w32 (x2 + 1)) m17 hIm17 hFm17 ⟨by omega, by omega⟩ (by omega) (zcc_s hH1 hcam17 hcbm17 hccm17 (by omega) (by omega) (by omega)) hM
    · intro x2 mh hImh hFmh hbx2 hH0 hH1 hH2 hM
      refine zw_eq (zu_rega_at (zt_T n) (zm_22 n) (zdp_22 n) _ _ _ _ _ _ (zr_22b_80 n _ _ a0 a1 x2 mh)) ?_
      have r22 : 0 ≤ (mh a0 4) ∧ (mh a0 4) ≤ 4 := zi_rd hImh hc0 zb_25_4
      refine zw_ite (fun h23 => ?_) (fun h23 => ?_)
      · have r24 : 0 ≤ (mh a1 8) ∧ (mh a1 8) ≤ 9999 := zi_rd hImh hc1 zb_13_8
        generalize hmm25 : zu_up mh a0 8 (mh a1 8) = m25
        have hIm25 := zi_up hmm25 hImh hc0 zb_25_8 (by omega) (by omega)
        have hFm25 := zfr_up hmm25 hFmh hc0 rfl
        have r26 : (-2147483648) ≤ (m25 a1 9) ∧ (m25 a1 9) ≤ 2147483647 := zi_rd hIm25 hc1 zb_13_9
        generalize hmm27 : zu_up m25 a0 9 (m25 a1 9) = m27
        have hIm27 := zi_up hmm27 hIm25 hc0 zb_25_9 (by omega) (by omega)
        have hFm27 := zfr_up hmm27 hFm25 hc0 rfl
        have r28 : 0 ≤ (m27 a1 10) ∧ (m27 a1 10) ≤ 3 := zi_rd hIm27 hc1 zb_13_10
        generalize hmm29 : zu_up m27 a0 10 (m27 a1 10) = m29
        have hIm29 := zi_up hmm29 hIm27 hc0 zb_25_10 (by omega) (by omega)
        have hFm29 := zfr_up hmm29 hFm27 hc0 rfl
        have r30 : (-2147483648) ≤ (m29 a1 11) ∧ (m29 a1 11) ≤ 2147483647 := zi_rd hIm29 hc1 zb_13_11
        generalize hmm31 : zu_up m29 a0 11 (m29 a1 11) = m31
        have hIm31 := zi_up hmm31 hIm29 hc0 zb_25_11 (by omega) (by omega)
        have hFm31 := zfr_up hmm31 hFm29 hc0 rfl
        have r32 : 0 ≤ (m31 a0 4) ∧ (m31 a0 4) ≤ 4 := zi_rd hIm31 hc0 zb_25_4
        have e33 : (m31 a0 4) = (mh a0 4) := (Eq.trans (zs_ne hmm31 (Or.inr (by decide))) (Eq.trans (zs_ne hmm29 (Or.inr (by decide))) (Eq.trans (zs_ne hmm27 (Or.inr (by decide))) (zs_ne hmm25 (Or.inr (by decide))))))
        have r34 : 0 ≤ (m31 a0 8) ∧ (m31 a0 8) ≤ 20000 := zi_rd hIm31 hc0 zb_25_8
        have e35 : (m31 a0 8) = (mh a1 8) := (Eq.trans (zs_ne hmm31 (Or.inr (by decide))) (Eq.trans (zs_ne hmm29 (Or.inr (by decide))) (Eq.trans (zs_ne hmm27 (Or.inr (by decide))) (zs_eq hmm25))))
        exact zw_some ⟨hIm31, hFm31, trivial, ⟨by omega, by omega⟩, (fun hE => zE_cp (zcc_mv hH2 (by omega) (fun c h0 h4 => (Eq.trans (zs_ne hmm31 (Or.inl (zc_ne (zc_96_e (zc_25_3 hc0) ⟨h0, h4⟩) hc0 (by decide)))) (Eq.trans (zs_ne hmm29 (Or.inl (zc_ne (zc_96_e (zc_25_3 hc0) ⟨h0, h4⟩) hc0 (by decide)))) (Eq.trans (zs_ne hmm27 (Or.inl (zc_ne (zc_96_e (zc_25_3 hc0) ⟨h0, h4⟩) hc0 (by decide)))) (zs_ne hmm25 (Or.inl (zc_ne (zc_96_e (zc_25_3 hc0) ⟨h0, h4⟩) hc0 (by decide))))))))) (by omega) (by omega) (zfr_ap hFm31 zq_50 rfl) hE)⟩
      · have b36 : 0 ≤ x2 ∧ x2 < 48 := by omega
        refine zw_if b36 ?_
        have r37 : 0 ≤ (mh (a1 + 3) x2) ∧ (mh (a1 + 3) x2) ≤ 1 := zi_rd hImh (zc_13_5 hc1) (zb_62 _)
        refine zw_b (by omega) ?_
        have b38 : 0 ≤ x2 ∧ x2 < 48 := by omega
        refine zw_if b38 ?_
        generalize hmm39 : zu_up mh (a0 + 3) x2 (mh (a1 + 3) x2) = m39
        have hIm39 := zi_up hmm39 hImh (zc_25_5 hc0) (zb_97 _) (by omega) (by omega)
        have hFm39 := zfr_up hmm39 hFmh (zc_25_5 hc0) rfl
        have b40 : 0 ≤ x2 ∧ x2 < 48 := by omega
        refine zw_if b40 ?_
        have r41 : 0 ≤ (m39 (a1 + 4) x2) ∧ (m39 (a1 + 4) x2) ≤ 999000 := zi_rd hIm39 (zc_13_6 hc1) (zb_63 _)
        have b42 : 0 ≤ x2 ∧ x2 < 48 := by omega
        refine zw_if b42 ?_
        generalize hmm43 : zu_up m39 (a0 + 4) x2 (m39 (a1 + 4) x2) = m43
        have hIm43 := zi_up hmm43 hIm39 (zc_25_6 hc0) (zb_98 _) (by omega) (by omega)
        have hFm43 := zfr_up hmm43 hFm39 (zc_25_6 hc0) rfl
        have w44 := zu_w32_id (z := x2 + 1) (by omega) (by omega)
        have r45 : 0 ≤ (m43 a0 4) ∧ (m43 a0 4) ≤ 4 := zi_rd hIm43 hc0 zb_25_4
        have e46 : (m43 a0 4) = (mh a0 4) := (Eq.trans (zs_ne hmm43 (Or.inl (zc_ne hc0 (zc_25_6 hc0) (by decide)))) (zs_ne hmm39 (Or.inl (zc_ne hc0 (zc_25_5 hc0) (by decide)))))
        have hM : (48 - (zu_w32 (x2 + 1))) * 1 + 0 < (k : Int) := by omega
        exact ih.2.2 (zu_w32 (x2 + 1)) m43 hIm43 hFm43 ⟨by omega, by omega⟩ (by omega) (by omega) (zcc_mv hH2 (by omega) (fun c h0 h4 => (Eq.trans (zs_ne hmm43 (Or.inl (zc_ne (zc_96_e (zc_25_3 hc0) ⟨h0, h4⟩) (zc_25_6 hc0) (by decide)))) (zs_ne hmm39 (Or.inl (zc_ne (zc_96_e (zc_25_3 hc0) ⟨h0, h4⟩) (zc_25_5 hc0) (by decide))))))) hM
set_option maxHeartbeats 4000000 in
theorem zk_22_25_13 (n : Nat) {a0 a1 : Int} {m0 : zu_m} (hIm0 : zi_I m0) (hc0 : zcls a0 = 25) (hc1 : zcls a1 = 13)      : zw (zu_call (zt_T n) 22 [(27, a0), (27, a1)] m0) (fun v m => zi_I m ∧ zfr [(25, 3), (25, 5), (25, 9), (25, 10), (25, 11), (25, 12), (26, 1), (26, 2), (26, 3), (26, 4), (27, 1), (27, 2), (27, 3), (27, 4), (27, 5), (27, 6), (27, 7), (27, 8), (97, 0), (98, 0)] m0 m ∧ True ∧ (0 ≤ m a0 8 ∧ m a0 8 ≤ 9999) ∧ (zE m0 a1 50 → zE m a0 50)) := by
  have hFm0 : zfr [(25, 3), (25, 5), (25, 9), (25, 10), (25, 11), (25, 12), (26, 1), (26, 2), (26, 3), (26, 4), (27, 1), (27, 2), (27, 3), (27, 4), (27, 5), (27, 6), (27, 7), (27, 8), (97, 0), (98, 0)] m0 m0 := zfr_rf _ _
  have r47 : 0 ≤ (m0 a1 4) ∧ (m0 a1 4) ≤ 4 := zi_rd hIm0 hc1 zb_13_4
  refine zw_eq (zu_call_at (zt_T n) (zm_22 n) (zdp_22 n) _ _ _ _ _ rfl (zr_22b_0 n _ _ a0 a1 m0)) ?_
  have r48 : 0 ≤ (m0 a1 2) ∧ (m0 a1 2) ≤ 16 := zi_rd hIm0 hc1 zb_13_2
  generalize hmm49 : zu_up m0 a0 2 (m0 a1 2) = m49
  have hIm49 := zi_up hmm49 hIm0 hc0 zb_25_2 (by omega) (by omega)
  have hFm49 := zfr_up hmm49 hFm0 hc0 rfl
  have hM : (16 - 0) * 1 + 54 < ((71 : Nat) : Int) := by omega
  exact (zl_22_25_13 n (m0 := m0) hc0 hc1 71).1 0 m49 hIm49 hFm49 ⟨by omega, by omega⟩ hM
set_option maxHeartbeats 4000000 in
theorem zl_22_25_16 (n : Nat) {a0 a1 : Int} {m0 : zu_m} (hc0 : zcls a0 = 25) (hc1 : zcls a1 = 16)   : ∀ k : Nat, (∀ (x2 : Int) (mh : zu_m), zi_I mh → zfr [(25, 3), (25, 5), (25, 9), (25, 10), (25, 11), (25, 12), (26, 1), (26, 2), (26, 3), (26, 4), (27, 1), (27, 2), (27, 3), (27, 4), (27, 5), (27, 6), (27, 7), (27, 8), (97, 0), (98, 0)] m0 mh → (0 ≤ x2 ∧ x2 ≤ 16) → (16 - x2) * 1 + 54 < (k : Int) → zw (zu_ex (zt_T n) 22 10 [(27, a0), (27, a1), (0, x2)] [] mh) (fun v m => zi_I m ∧ zfr [(25, 3), (25, 5), (25, 9), (25, 10), (25, 11), (25, 12), (26, 1), (26, 2), (26, 3), (26, 4), (27, 1), (27, 2), (27, 3), (27, 4), (27, 5), (27, 6), (27, 7), (27, 8), (97, 0), (98, 0)] m0 m ∧ True ∧ (0 ≤ m a0 8 ∧ m a0 8 ≤ 9999) ∧ (zE m0 a1 50 → zE m a0 50))) ∧ (∀ (x2 : Int) (mh : zu_m), zi_I mh → zfr [(25, 3), (25, 5), (25, 9), (25, 10), (25, 11), (25, 12), (26, 1), (26, 2), (26, 3), (26, 4), (27, 1), (27, 2), (27, 3), (27, 4), (27, 5), (27, 6), (27, 7), (27, 8), (97, 0), (98, 0)] m0 mh → (0 ≤ x2 ∧ x2 ≤ 4) → ((mh a0 4) = (m0 a1 4)) → (zcc m0 mh a0 a1 x2) → (4 - x2) * 1 + 49 < (k : Int) → zw (zu_ex (zt_T n) 22 49 [(27, a0), (27, a1), (0, x2)] [] mh) (fun v m => zi_I m ∧ zfr [(25, 3), (25, 5), (25, 9), (25, 10), (25, 11), (25, 12), (26, 1), (26, 2), (26, 3), (26, 4), (27, 1), (27, 2), (27, 3), (27, 4), (27, 5), (27, 6), (27, 7), (27, 8), (97, 0), (98, 0)] m0 m ∧ True ∧ (0 ≤ m a0 8 ∧ m a0 8 ≤ 9999) ∧ (zE m0 a1 50 → zE m a0 50))) ∧ (∀ (x2 : Int) (mh : zu_m), zi_I mh → zfr [(25, 3), (25, 5), (25, 9), (25, 10), (25, 11), (25, 12), (26, 1), (26, 2), (26, 3), (26, 4), (27, 1), (27, 2), (27, 3), (27, 4), (27, 5), (27, 6), (27, 7), (27, 8), (97, 0), (98, 0)] m0 mh → (0 ≤ x2 ∧ x2 ≤ 48) → ((mh a0 4) = (m0 a1 4)) → ((m0 a1 4) ≤ 4) → (zcc m0 mh a0 a1 (m0 a1 4)) → (48 - x2) * 1 + 0 < (k : Int) → zw (zu_ex (zt_T n) 22 80 [(27, a0), (27, a1), (0, x2)] [] mh) (fun v m => zi_I m ∧ zfr [(25, 3), (25, 5), (25, 9), (25, 10), (25, 11), (25, 12), (26, 1), (26, 2), (26, 3), (26, 4), (27, 1), (27, 2), (27, 3), (27, 4), (27, 5), (27, 6), (27, 7), (27, 8), (97, 0), (98, 0)] m0 m ∧ True ∧ (0 ≤ m a0 8 ∧ m a0 8 ≤ 9999) ∧ (zE m0 a1 50 → zE m a0 50))) := by
  intro k
  induction k with
  | zero => exact ⟨fun x2 mh hImh hFmh hbx2 hM => by exfalso; omega, fun x2 mh hImh hFmh hbx2 hH0 hH1 hM => by exfalso; omega, fun x2 mh hImh hFmh hbx2 hH0 hH1 hH2 hM => by exfalso; omega⟩
  | succ k ih =>
    refine ⟨?_, ?_, ?_⟩
    · intro x2 mh hImh hFmh hbx2 hM
      refine zw_eq (zu_rega_at (zt_T n) (zm_22 n) (zdp_22 n) _ _ _ _ _ _ (zr_22b_10 n _ _ a0 a1 x2 mh)) ?_
      have r1 : 0 ≤ (mh a0 2) ∧ (mh a0 2) ≤ 16 := zi_rd hImh hc0 zb_25_2
      refine zw_ite (fun h2 => ?_) (fun h2 => ?_)
      · have r3 : 0 ≤ (mh a1 4) ∧ (mh a1 4) ≤ 4 := zi_rd hImh hc1 zb_16_4
        have s4 : (mh a1 4) = m0 a1 4 := zfr_ap hFmh hc1 rfl
        generalize hmm5 : zu_up mh a0 4 (mh a1 4) = m5
        have hIm5 := zi_up hmm5 hImh hc0 zb_25_4 (by omega) (by omega)
        have hFm5 := zfr_up hmm5 hFmh hc0 rfl
        have r6 : 0 ≤ (m5 a0 4) ∧ (m5 a0 4) ≤ 4 := zi_rd hIm5 hc0 zb_25_4
        have e7 : (m5 a0 4) = (mh a1 4) := (zs_eq hmm5)
        have hM : (4 - 0) * 1 + 49 < (k : Int) := by omega
        exact ih.2.1 0 m5 hIm5 hFm5 ⟨by omega, by omega⟩ (by omega) (zcc_0 _ _ _ _) hM
      · have b8 : 0 ≤ x2 ∧ x2 < 16 := by omega
        refine zw_if b8 ?_
        have b9 : 0 ≤ x2 ∧ x2 < 16 := by omega
        refine zw_if b9 ?_
        refine zw_bd (zw_mono (zk_197_26_17 n hImh (zc_95_e (zc_25_1 hc0) b8) (zc_65_e (zc_16_1 hc1) b9)) (fun v11 m10 hqm10 => ?_))
        obtain ⟨hIm10, hfm10, hvm10⟩ := hqm10
        have hFm10 := zfr_tr hFmh hfm10 rfl
        have w12 := zu_w32_id (z := x2 + 1) (by omega) (by omega)
        have hM : (16 - (zu_w32 (x2 + 1))) * 1 + 54 < (k : Int) := by omega
        exact ih.1 (zu_w32 (x2 + 1)) m10 hIm10 hFm10 ⟨by omega, by omega⟩ hM
    · intro x2 mh hImh hFmh hbx2 hH0 hH1 hM
      refine zw_eq (zu_rega_at (zt_T n) (zm_22 n) (zdp_22 n) _ _ _ _ _ _ (zr_22b_49 n _ _ a0 a1 x2 mh)) ?_
      have r13 : 0 ≤ (mh a0 4) ∧ (mh a0 4) ≤ 4 := zi_rd hImh hc0 zb_25_4
      refine zw_ite (fun h14 => ?_) (fun h14 => ?_)
      · have hM : (48 - 0) * 1 + 0 < (k : Int) := by omega
        exact ih.2.2 0 mh hImh hFmh ⟨by omega, by omega⟩ (by omega) (by omega) (zcc_x hH1 (by omega)) hM
      · have b15 : 0 ≤ x2 ∧ x2 < 4 := by omega
        refine zw_if b15 ?_
        have b16 : 0 ≤ x2 ∧ x2 < 4 := by omega
        refine zw_if b16 ?_
        refine zw_bd (zw_mono (zk_196_27_18 n hImh (zc_96_e (zc_25_3 hc0) b15) (zc_66_e (zc_16_3 hc1) b16)) (fun v18 m17 hqm17 => ?_))
        obtain ⟨hIm17, hfm17, hvm17⟩ := hqm17
        have hFm17 := zfr_tr hFmh hfm17 rfl
        have hcam17 : m17 ((a0 + 2) + 20 + x2) 1 = mh ((a1 + 2) + 20 + x2) 1 := (hvm17.2.1)
        have hcbm17 : mh ((a1 + 2) + 20 + x2) 1 = m0 ((a1 + 2) + 20 + x2) 1 := zfr_ap hFmh (zc_66_e (zc_16_3 hc1) b16) rfl
        have hccm17 := (hvm17.2.2)
        have w19 := zu_w32_id (z := x2 + 1) (by omega) (by omega)
        have r20 : 0 ≤ (m17 a0 4) ∧ (m17 a0 4) ≤ 4 := zi_rd hIm17 hc0 zb_25_4
        have e21 : (m17 a0 4) = (mh a0 4) := (zfr_ap hfm17 hc0 rfl)
        have hM : (4 - (zu_w32 (x2 + 1))) * 1 + 49 < (k : Int) := by omega
        exact ih.2.1 (zu_w32 (x2 + 1)) m17 hIm17 hFm17 ⟨by omega, by omega⟩ (by omega) (zcc_s hH1 hcam17 hcbm17 hccm17 (by omega) (by omega) (by omega)) hM
    · intro x2 mh hImh hFmh hbx2 hH0 hH1 hH2 hM
      refine zw_eq (zu_rega_at (zt_T n) (zm_22 n) (zdp_22 n) _ _ _ _ _ _ (zr_22b_80 n _ _ a0 a1 x2 mh)) ?_
      have r22 : 0 ≤ (mh a0 4) ∧ (mh a0 4) ≤ 4 := zi_rd hImh hc0 zb_25_4
      refine zw_ite (fun h23 => ?_) (fun h23 => ?_)
      · have r24 : 0 ≤ (mh a1 8) ∧ (mh a1 8) ≤ 9999 := zi_rd hImh hc1 zb_16_8
        generalize hmm25 : zu_up mh a0 8 (mh a1 8) = m25
        have hIm25 := zi_up hmm25 hImh hc0 zb_25_8 (by omega) (by omega)
        have hFm25 := zfr_up hmm25 hFmh hc0 rfl
        have r26 : (-2147483648) ≤ (m25 a1 9) ∧ (m25 a1 9) ≤ 2147483647 := zi_rd hIm25 hc1 zb_16_9
        generalize hmm27 : zu_up m25 a0 9 (m25 a1 9) = m27
        have hIm27 := zi_up hmm27 hIm25 hc0 zb_25_9 (by omega) (by omega)
        have hFm27 := zfr_up hmm27 hFm25 hc0 rfl
        have r28 : 0 ≤ (m27 a1 10) ∧ (m27 a1 10) ≤ 3 := zi_rd hIm27 hc1 zb_16_10
        generalize hmm29 : zu_up m27 a0 10 (m27 a1 10) = m29
        have hIm29 := zi_up hmm29 hIm27 hc0 zb_25_10 (by omega) (by omega)
        have hFm29 := zfr_up hmm29 hFm27 hc0 rfl
        have r30 : (-2147483648) ≤ (m29 a1 11) ∧ (m29 a1 11) ≤ 2147483647 := zi_rd hIm29 hc1 zb_16_11
        generalize hmm31 : zu_up m29 a0 11 (m29 a1 11) = m31
        have hIm31 := zi_up hmm31 hIm29 hc0 zb_25_11 (by omega) (by omega)
        have hFm31 := zfr_up hmm31 hFm29 hc0 rfl
        have r32 : 0 ≤ (m31 a0 4) ∧ (m31 a0 4) ≤ 4 := zi_rd hIm31 hc0 zb_25_4
        have e33 : (m31 a0 4) = (mh a0 4) := (Eq.trans (zs_ne hmm31 (Or.inr (by decide))) (Eq.trans (zs_ne hmm29 (Or.inr (by decide))) (Eq.trans (zs_ne hmm27 (Or.inr (by decide))) (zs_ne hmm25 (Or.inr (by decide))))))
        have r34 : 0 ≤ (m31 a0 8) ∧ (m31 a0 8) ≤ 20000 := zi_rd hIm31 hc0 zb_25_8
        have e35 : (m31 a0 8) = (mh a1 8) := (Eq.trans (zs_ne hmm31 (Or.inr (by decide))) (Eq.trans (zs_ne hmm29 (Or.inr (by decide))) (Eq.trans (zs_ne hmm27 (Or.inr (by decide))) (zs_eq hmm25))))
        exact zw_some ⟨hIm31, hFm31, trivial, ⟨by omega, by omega⟩, (fun hE => zE_cp (zcc_mv hH2 (by omega) (fun c h0 h4 => (Eq.trans (zs_ne hmm31 (Or.inl (zc_ne (zc_96_e (zc_25_3 hc0) ⟨h0, h4⟩) hc0 (by decide)))) (Eq.trans (zs_ne hmm29 (Or.inl (zc_ne (zc_96_e (zc_25_3 hc0) ⟨h0, h4⟩) hc0 (by decide)))) (Eq.trans (zs_ne hmm27 (Or.inl (zc_ne (zc_96_e (zc_25_3 hc0) ⟨h0, h4⟩) hc0 (by decide)))) (zs_ne hmm25 (Or.inl (zc_ne (zc_96_e (zc_25_3 hc0) ⟨h0, h4⟩) hc0 (by decide))))))))) (by omega) (by omega) (zfr_ap hFm31 zq_50 rfl) hE)⟩
      · have b36 : 0 ≤ x2 ∧ x2 < 48 := by omega
        refine zw_if b36 ?_
        have r37 : 0 ≤ (mh (a1 + 3) x2) ∧ (mh (a1 + 3) x2) ≤ 1 := zi_rd hImh (zc_16_5 hc1) (zb_67 _)
        refine zw_b (by omega) ?_
        have b38 : 0 ≤ x2 ∧ x2 < 48 := by omega
        refine zw_if b38 ?_
        generalize hmm39 : zu_up mh (a0 + 3) x2 (mh (a1 + 3) x2) = m39
        have hIm39 := zi_up hmm39 hImh (zc_25_5 hc0) (zb_97 _) (by omega) (by omega)
        have hFm39 := zfr_up hmm39 hFmh (zc_25_5 hc0) rfl
        have b40 : 0 ≤ x2 ∧ x2 < 48 := by omega
        refine zw_if b40 ?_
        have r41 : 0 ≤ (m39 (a1 + 4) x2) ∧ (m39 (a1 + 4) x2) ≤ 999000 := zi_rd hIm39 (zc_16_6 hc1) (zb_68 _)
        have b42 : 0 ≤ x2 ∧ x2 < 48 := by omega
        refine zw_if b42 ?_
        generalize hmm43 : zu_up m39 (a0 + 4) x2 (m39 (a1 + 4) x2) = m43
        have hIm43 := zi_up hmm43 hIm39 (zc_25_6 hc0) (zb_98 _) (by omega) (by omega)
        have hFm43 := zfr_up hmm43 hFm39 (zc_25_6 hc0) rfl
        have w44 := zu_w32_id (z := x2 + 1) (by omega) (by omega)
        have r45 : 0 ≤ (m43 a0 4) ∧ (m43 a0 4) ≤ 4 := zi_rd hIm43 hc0 zb_25_4
        have e46 : (m43 a0 4) = (mh a0 4) := (Eq.trans (zs_ne hmm43 (Or.inl (zc_ne hc0 (zc_25_6 hc0) (by decide)))) (zs_ne hmm39 (Or.inl (zc_ne hc0 (zc_25_5 hc0) (by decide)))))
        have hM : (48 - (zu_w32 (x2 + 1))) * 1 + 0 < (k : Int) := by omega
        exact ih.2.2 (zu_w32 (x2 + 1)) m43 hIm43 hFm43 ⟨by omega, by omega⟩ (by omega) (by omega) (zcc_mv hH2 (by omega) (fun c h0 h4 => (Eq.trans (zs_ne hmm43 (Or.inl (zc_ne (zc_96_e (zc_25_3 hc0) ⟨h0, h4⟩) (zc_25_6 hc0) (by decide)))) (zs_ne hmm39 (Or.inl (zc_ne (zc_96_e (zc_25_3 hc0) ⟨h0, h4⟩) (zc_25_5 hc0) (by decide))))))) hM
set_option maxHeartbeats 4000000 in
theorem zk_22_25_16 (n : Nat) {a0 a1 : Int} {m0 : zu_m} (hIm0 : zi_I m0) (hc0 : zcls a0 = 25) (hc1 : zcls a1 = 16)      : zw (zu_call (zt_T n) 22 [(27, a0), (27, a1)] m0) (fun v m => zi_I m ∧ zfr [(25, 3), (25, 5), (25, 9), (25, 10), (25, 11), (25, 12), (26, 1), (26, 2), (26, 3), (26, 4), (27, 1), (27, 2), (27, 3), (27, 4), (27, 5), (27, 6), (27, 7), (27, 8), (97, 0), (98, 0)] m0 m ∧ True ∧ (0 ≤ m a0 8 ∧ m a0 8 ≤ 9999) ∧ (zE m0 a1 50 → zE m a0 50)) := by
  have hFm0 : zfr [(25, 3), (25, 5), (25, 9), (25, 10), (25, 11), (25, 12), (26, 1), (26, 2), (26, 3), (26, 4), (27, 1), (27, 2), (27, 3), (27, 4), (27, 5), (27, 6), (27, 7), (27, 8), (97, 0), (98, 0)] m0 m0 := zfr_rf _ _
  have r47 : 0 ≤ (m0 a1 4) ∧ (m0 a1 4) ≤ 4 := zi_rd hIm0 hc1 zb_16_4
  refine zw_eq (zu_call_at (zt_T n) (zm_22 n) (zdp_22 n) _ _ _ _ _ rfl (zr_22b_0 n _ _ a0 a1 m0)) ?_
  have r48 : 0 ≤ (m0 a1 2) ∧ (m0 a1 2) ≤ 16 := zi_rd hIm0 hc1 zb_16_2
  generalize hmm49 : zu_up m0 a0 2 (m0 a1 2) = m49
  have hIm49 := zi_up hmm49 hIm0 hc0 zb_25_2 (by omega) (by omega)
  have hFm49 := zfr_up hmm49 hFm0 hc0 rfl
  have hM : (16 - 0) * 1 + 54 < ((71 : Nat) : Int) := by omega
  exact (zl_22_25_16 n (m0 := m0) hc0 hc1 71).1 0 m49 hIm49 hFm49 ⟨by omega, by omega⟩ hM
set_option maxHeartbeats 4000000 in
theorem zl_26 (n : Nat) {a0 a1 a2 : Int} {m0 : zu_m} (hc0 : zcls a0 = 12) (hc2 : zcls a2 = 59)   : ∀ k : Nat, (∀ (x3 x4 : Int) (mh : zu_m), zi_I mh → zfr [(56, 0)] m0 mh → (0 ≤ a1 ∧ a1 ≤ 3) → (0 ≤ x3 ∧ x3 ≤ 64) → (0 ≤ x4 ∧ x4 ≤ 64) → (x3 ≤ x4 - (m0 (a0 + 3) a1)) → (0 ≤ (m0 (a0 + 3) a1)) → (zR_K54 mh) → (64 - x4) * 3 + 2 < (k : Int) → zw (zu_ex (zt_T n) 26 23 [(10, a0), (0, a1), (15, a2), (0, x3), (0, x4), (2, 0), (2, 0)] [] mh) (fun v m => zi_I m ∧ zfr [(56, 0)] m0 m ∧ zR_K54 m ∧ ((-9223372036854775808) ≤ v ∧ v ≤ 9223372036854775807))) ∧ (∀ (x3 x4 y0 : Int) (mh : zu_m), zi_I mh → zfr [(56, 0)] m0 mh → (0 ≤ a1 ∧ a1 ≤ 3) → (1 ≤ x3 ∧ x3 ≤ 63) → (0 ≤ x4 ∧ x4 ≤ 63) → ((-9223372036854775808) ≤ y0 ∧ y0 ≤ 9223372036854775807) → (x3 ≤ x4 - (m0 (a0 + 3) a1)) → (0 ≤ (m0 (a0 + 3) a1)) → (zR_K54 mh) → (64 - x4) * 3 + 1 < (k : Int) → zw (zu_ex (zt_T n) 26 240 [(10, a0), (0, a1), (15, a2), (0, x3), (0, x4), (2, 0), (2, 0)] [(1, y0)] mh) (fun v m => zi_I m ∧ zfr [(56, 0)] m0 m ∧ zR_K54 m ∧ ((-9223372036854775808) ≤ v ∧ v ≤ 9223372036854775807))) ∧ (∀ (x3 x4 : Int) (mh : zu_m), zi_I mh → zfr [(56, 0)] m0 mh → (0 ≤ a1 ∧ a1 ≤ 3) → (1 ≤ x3 ∧ x3 ≤ 64) → (0 ≤ x4 ∧ x4 ≤ 63) → (x3 ≤ x4 - (m0 (a0 + 3) a1) + 1) → (0 ≤ (m0 (a0 + 3) a1)) → (zR_K54 mh) → (64 - x4) * 3 + 0 < (k : Int) → zw (zu_ex (zt_T n) 26 274 [(10, a0), (0, a1), (15, a2), (0, x3), (0, x4), (2, 0), (2, 0)] [] mh) (fun v m => zi_I m ∧ zfr [(56, 0)] m0 m ∧ zR_K54 m ∧ ((-9223372036854775808) ≤ v ∧ v ≤ 9223372036854775807))) := by
  intro k
  induction k with
  | zero => exact ⟨fun x3 x4 mh hImh hFmh hba1 hbx3 hbx4 hH0 hH1 hRK54mh hM => by exfalso; omega, fun x3 x4 y0 mh hImh hFmh hba1 hbx3 hbx4 hby0 hH0 hH1 hRK54mh hM => by exfalso; omega, fun x3 x4 mh hImh hFmh hba1 hbx3 hbx4 hH0 hH1 hRK54mh hM => by exfalso; omega⟩
  | succ k ih =>
    refine ⟨?_, ?_, ?_⟩
    · intro x3 x4 mh hImh hFmh hba1 hbx3 hbx4 hH0 hH1 hRK54mh hM
      refine zw_eq (zu_rega_at (zt_T n) (zm_26 n) (zdp_26 n) _ _ _ _ _ _ (zr_26_23 n _ _ a0 a1 a2 x3 x4 mh)) ?_
      have b1 : 0 ≤ a1 ∧ a1 < 4 := by omega
      refine zw_if b1 ?_
      have r2 : (-1) ≤ (mh (a0 + 4) a1) ∧ (mh (a0 + 4) a1) ≤ 64 := zi_rd hImh (zc_12_3 hc0) (zb_55 _)
      refine zw_ite (fun h3 => ?_) (fun h3 => ?_)
      · refine zw_ite (fun h4 => ?_) (fun h4 => ?_)
        · exact zw_some ⟨hImh, hFmh, hRK54mh, ⟨by omega, by omega⟩⟩
        · have b5 : 0 ≤ (0 : Int) ∧ (0 : Int) < 64 := by omega
          refine zw_if b5 ?_
          have r6 : (-9223372036854775808) ≤ (mh (a0 + 5) 0) ∧ (mh (a0 + 5) 0) ≤ 9223372036854775807 := zi_rd hImh (zc_12_4 hc0) (zb_56 _)
          exact zw_some ⟨hImh, hFmh, hRK54mh, ⟨by omega, by omega⟩⟩
      · refine zw_ite (fun h7 => ?_) (fun h7 => ?_)
        · exfalso; omega
        · have b8 : 0 ≤ x4 ∧ x4 < 64 := by omega
          refine zw_if b8 ?_
          have r9 : 0 ≤ (mh (a0 + 1) x4) ∧ (mh (a0 + 1) x4) ≤ 17 := zi_rd hImh (zc_12_0 hc0) (zb_52 _)
          refine zw_ite (fun h10 => ?_) (fun h10 => ?_)
          · have b11 : 0 ≤ x4 ∧ x4 < 64 := by omega
            refine zw_if b11 ?_
            refine zw_ite (fun h12 => ?_) (fun h12 => ?_)
            · have b13 : 0 ≤ x4 ∧ x4 < 64 := by omega
              refine zw_if b13 ?_
              refine zw_ite (fun h14 => ?_) (fun h14 => ?_)
              · refine zw_ite (fun h15 => ?_) (fun h15 => ?_)
                · have w16 := zu_w32_id (z := x3 + (-1)) (by omega) (by omega)
                  have b17 : 0 ≤ x4 ∧ x4 < 64 := by omega
                  refine zw_if b17 ?_
                  refine zw_ite (fun h18 => ?_) (fun h18 => ?_)
                  · have b19 : 0 ≤ x4 ∧ x4 < 64 := by omega
                    refine zw_if b19 ?_
                    have w20 := zu_w32_id (z := (zu_w32 (x3 + (-1))) - 1) (by omega) (by omega)
                    have b21 : 0 ≤ (zu_w32 ((zu_w32 (x3 + (-1))) - 1)) ∧ (zu_w32 ((zu_w32 (x3 + (-1))) - 1)) < 64 := by omega
                    refine zw_if b21 ?_
                    have r22 : (-9223372036854775808) ≤ (mh (a0 + 5) (zu_w32 ((zu_w32 (x3 + (-1))) - 1))) ∧ (mh (a0 + 5) (zu_w32 ((zu_w32 (x3 + (-1))) - 1))) ≤ 9223372036854775807 := zi_rd hImh (zc_12_4 hc0) (zb_56 _)
                    have b23 : 0 ≤ (zu_w32 (x3 + (-1))) ∧ (zu_w32 (x3 + (-1))) < 64 := by omega
                    refine zw_if b23 ?_
                    have r24 : (-9223372036854775808) ≤ (mh (a0 + 5) (zu_w32 (x3 + (-1)))) ∧ (mh (a0 + 5) (zu_w32 (x3 + (-1)))) ≤ 9223372036854775807 := zi_rd hImh (zc_12_4 hc0) (zb_56 _)
                    refine zw_bd (zw_mono (zk_209 n hImh ⟨by omega, by omega⟩ ⟨by omega, by omega⟩ ⟨by omega, by omega⟩) (fun v26 m25 hqm25 => ?_))
                    obtain ⟨hIm25, hfm25, hvm25⟩ := hqm25
                    have hFm25 := zfr_tr hFmh hfm25 rfl
                    have hRK54m25 := zR_K54_fr (zdis_fr hfm25 rfl) hRK54mh
                    refine zw_ite (fun h27 => ?_) (fun h27 => ?_)
                    · have hM : (64 - x4) * 3 + 1 < (k : Int) := by omega
                      exact ih.2.1 (zu_w32 (x3 + (-1))) x4 0 m25 hIm25 hFm25 ⟨by omega, by omega⟩ ⟨by omega, by omega⟩ ⟨by omega, by omega⟩ ⟨by omega, by omega⟩ (by omega) (by omega) hRK54m25 hM
                    · have hM : (64 - x4) * 3 + 1 < (k : Int) := by omega
                      exact ih.2.1 (zu_w32 (x3 + (-1))) x4 1 m25 hIm25 hFm25 ⟨by omega, by omega⟩ ⟨by omega, by omega⟩ ⟨by omega, by omega⟩ ⟨by omega, by omega⟩ (by omega) (by omega) hRK54m25 hM
                  · have b28 : 0 ≤ x4 ∧ x4 < 64 := by omega
                    refine zw_if b28 ?_
                    have w29 := zu_w32_id (z := (zu_w32 (x3 + (-1))) - 1) (by omega) (by omega)
                    have b30 : 0 ≤ (zu_w32 ((zu_w32 (x3 + (-1))) - 1)) ∧ (zu_w32 ((zu_w32 (x3 + (-1))) - 1)) < 64 := by omega
                    refine zw_if b30 ?_
                    have r31 : (-9223372036854775808) ≤ (mh (a0 + 5) (zu_w32 ((zu_w32 (x3 + (-1))) - 1))) ∧ (mh (a0 + 5) (zu_w32 ((zu_w32 (x3 + (-1))) - 1))) ≤ 9223372036854775807 := zi_rd hImh (zc_12_4 hc0) (zb_56 _)
                    have b32 : 0 ≤ (zu_w32 (x3 + (-1))) ∧ (zu_w32 (x3 + (-1))) < 64 := by omega
                    refine zw_if b32 ?_
                    have r33 : (-9223372036854775808) ≤ (mh (a0 + 5) (zu_w32 (x3 + (-1)))) ∧ (mh (a0 + 5) (zu_w32 (x3 + (-1)))) ≤ 9223372036854775807 := zi_rd hImh (zc_12_4 hc0) (zb_56 _)
                    refine zw_bd (zw_mono (zk_208 n hImh ⟨by omega, by omega⟩ ⟨by omega, by omega⟩ ⟨by omega, by omega⟩) (fun v35 m34 hqm34 => ?_))
                    obtain ⟨hIm34, hfm34, hvm34⟩ := hqm34
                    have hFm34 := zfr_tr hFmh hfm34 rfl
                    have hRK54m34 := zR_K54_fr (zdis_fr hfm34 rfl) hRK54mh
                    have hM : (64 - x4) * 3 + 1 < (k : Int) := by omega
                    exact ih.2.1 (zu_w32 (x3 + (-1))) x4 v35 m34 hIm34 hFm34 ⟨by omega, by omega⟩ ⟨by omega, by omega⟩ ⟨by omega, by omega⟩ ⟨by omega, by omega⟩ (by omega) (by omega) hRK54m34 hM
                · exact zw_some ⟨hImh, hFmh, hRK54mh, ⟨by omega, by omega⟩⟩
              · refine zw_ite (fun h36 => ?_) (fun h36 => ?_)
                · have w37 := zu_w32_id (z := x3 - 1) (by omega) (by omega)
                  have b38 : 0 ≤ (zu_w32 (x3 - 1)) ∧ (zu_w32 (x3 - 1)) < 64 := by omega
                  refine zw_if b38 ?_
                  have r39 : (-9223372036854775808) ≤ (mh (a0 + 5) (zu_w32 (x3 - 1))) ∧ (mh (a0 + 5) (zu_w32 (x3 - 1))) ≤ 9223372036854775807 := zi_rd hImh (zc_12_4 hc0) (zb_56 _)
                  have c40 := zu_lcmp_sp (mh (a0 + 5) (zu_w32 (x3 - 1))) 0
                  refine zw_ite (fun h41 => ?_) (fun h41 => ?_)
                  · have b42 : 0 ≤ (zu_w32 (x3 - 1)) ∧ (zu_w32 (x3 - 1)) < 64 := by omega
                    refine zw_if b42 ?_
                    generalize hmm43 : zu_up mh (a0 + 5) (zu_w32 (x3 - 1)) 0 = m43
                    have hIm43 := zi_up hmm43 hImh (zc_12_4 hc0) (zb_56 _) (by omega) (by omega)
                    have hFm43 := zfr_up hmm43 hFmh (zc_12_4 hc0) rfl
                    have hRK54m43 := zR_K54_fr (zdis_fr (zfr_up hmm43 (zfr_rf [(56, 0)] _) (zc_12_4 hc0) rfl) rfl) hRK54mh
                    have hM : (64 - x4) * 3 + 0 < (k : Int) := by omega
                    exact ih.2.2 x3 x4 m43 hIm43 hFm43 ⟨by omega, by omega⟩ ⟨by omega, by omega⟩ ⟨by omega, by omega⟩ (by omega) (by omega) hRK54m43 hM
                  · have b44 : 0 ≤ (zu_w32 (x3 - 1)) ∧ (zu_w32 (x3 - 1)) < 64 := by omega
                    refine zw_if b44 ?_
                    generalize hmm45 : zu_up mh (a0 + 5) (zu_w32 (x3 - 1)) 1 = m45
                    have hIm45 := zi_up hmm45 hImh (zc_12_4 hc0) (zb_56 _) (by omega) (by omega)
                    have hFm45 := zfr_up hmm45 hFmh (zc_12_4 hc0) rfl
                    have hRK54m45 := zR_K54_fr (zdis_fr (zfr_up hmm45 (zfr_rf [(56, 0)] _) (zc_12_4 hc0) rfl) rfl) hRK54mh
                    have hM : (64 - x4) * 3 + 0 < (k : Int) := by omega
                    exact ih.2.2 x3 x4 m45 hIm45 hFm45 ⟨by omega, by omega⟩ ⟨by omega, by omega⟩ ⟨by omega, by omega⟩ (by omega) (by omega) hRK54m45 hM
                · exact zw_some ⟨hImh, hFmh, hRK54mh, ⟨by omega, by omega⟩⟩
            · have b46 : 0 ≤ x4 ∧ x4 < 64 := by omega
              refine zw_if b46 ?_
              have r47 : (-2147483648) ≤ (mh (a0 + 2) x4) ∧ (mh (a0 + 2) x4) ≤ 2147483647 := zi_rd hImh (zc_12_1 hc0) (zb_53 _)
              have s48 := hRK54mh a0 x4 hc0 (by omega) (by omega) (by omega)
              have b49 : 0 ≤ (mh (a0 + 2) x4) ∧ (mh (a0 + 2) x4) < 7 := by omega
              refine zw_if b49 ?_
              have r50 : (-2147483648) ≤ (mh a2 (mh (a0 + 2) x4)) ∧ (mh a2 (mh (a0 + 2) x4)) ≤ 2147483647 := zi_rdr (m := 7) (r0 := 0) (r1 := 6) hImh hc2 (by omega) (by decide +kernel)
              have b51 : 0 ≤ x3 ∧ x3 < 64 := by omega
              refine zw_if b51 ?_
              generalize hmm52 : zu_up mh (a0 + 5) x3 (mh a2 (mh (a0 + 2) x4)) = m52
              have hIm52 := zi_up hmm52 hImh (zc_12_4 hc0) (zb_56 _) (by omega) (by omega)
              have hFm52 := zfr_up hmm52 hFmh (zc_12_4 hc0) rfl
              have hRK54m52 := zR_K54_fr (zdis_fr (zfr_up hmm52 (zfr_rf [(56, 0)] _) (zc_12_4 hc0) rfl) rfl) hRK54mh
              have w53 := zu_w32_id (z := x3 + 1) (by omega) (by omega)
              have hM : (64 - x4) * 3 + 0 < (k : Int) := by omega
              exact ih.2.2 (zu_w32 (x3 + 1)) x4 m52 hIm52 hFm52 ⟨by omega, by omega⟩ ⟨by omega, by omega⟩ ⟨by omega, by omega⟩ (by omega) (by omega) hRK54m52 hM
          · have b54 : 0 ≤ x4 ∧ x4 < 64 := by omega
            refine zw_if b54 ?_
            have r55 : (-2147483648) ≤ (mh (a0 + 2) x4) ∧ (mh (a0 + 2) x4) ≤ 2147483647 := zi_rd hImh (zc_12_1 hc0) (zb_53 _)
            have b56 : 0 ≤ x3 ∧ x3 < 64 := by omega
            refine zw_if b56 ?_
            generalize hmm57 : zu_up mh (a0 + 5) x3 (mh (a0 + 2) x4) = m57
            have hIm57 := zi_up hmm57 hImh (zc_12_4 hc0) (zb_56 _) (by omega) (by omega)
            have hFm57 := zfr_up hmm57 hFmh (zc_12_4 hc0) rfl
            have hRK54m57 := zR_K54_fr (zdis_fr (zfr_up hmm57 (zfr_rf [(56, 0)] _) (zc_12_4 hc0) rfl) rfl) hRK54mh
            have w58 := zu_w32_id (z := x3 + 1) (by omega) (by omega)
            have hM : (64 - x4) * 3 + 0 < (k : Int) := by omega
            exact ih.2.2 (zu_w32 (x3 + 1)) x4 m57 hIm57 hFm57 ⟨by omega, by omega⟩ ⟨by omega, by omega⟩ ⟨by omega, by omega⟩ (by omega) (by omega) hRK54m57 hM
    · intro x3 x4 y0 mh hImh hFmh hba1 hbx3 hbx4 hby0 hH0 hH1 hRK54mh hM
      refine zw_eq (zu_rega_at (zt_T n) (zm_26 n) (zdp_26 n) _ _ _ _ _ _ (zr_26_240 n _ _ a0 a1 a2 x3 x4 y0 mh)) ?_
      have c59 := zu_lcmp_sp y0 1000000000000
      refine zw_ite (fun h60 => ?_) (fun h60 => ?_)
      · exact zw_some ⟨hImh, hFmh, hRK54mh, ⟨by omega, by omega⟩⟩
      · have c61 := zu_lcmp_sp y0 (-1000000000000)
        refine zw_ite (fun h62 => ?_) (fun h62 => ?_)
        · have w63 := zu_w32_id (z := x3 - 1) (by omega) (by omega)
          have b64 : 0 ≤ (zu_w32 (x3 - 1)) ∧ (zu_w32 (x3 - 1)) < 64 := by omega
          refine zw_if b64 ?_
          generalize hmm65 : zu_up mh (a0 + 5) (zu_w32 (x3 - 1)) y0 = m65
          have hIm65 := zi_up hmm65 hImh (zc_12_4 hc0) (zb_56 _) (by omega) (by omega)
          have hFm65 := zfr_up hmm65 hFmh (zc_12_4 hc0) rfl
          have hRK54m65 := zR_K54_fr (zdis_fr (zfr_up hmm65 (zfr_rf [(56, 0)] _) (zc_12_4 hc0) rfl) rfl) hRK54mh
          have hM : (64 - x4) * 3 + 0 < (k : Int) := by omega
          exact zw_le (zu_forget (zu_lr_same (zu_lr_same (zu_lr_same (zu_lr_same (zu_lr_same (zu_lr_drop (zu_lr_same zu_lr_nil)))))))) (ih.2.2 x3 x4 m65 hIm65 hFm65 ⟨by omega, by omega⟩ ⟨by omega, by omega⟩ ⟨by omega, by omega⟩ (by omega) (by omega) hRK54m65 hM)
        · exact zw_some ⟨hImh, hFmh, hRK54mh, ⟨by omega, by omega⟩⟩
    · intro x3 x4 mh hImh hFmh hba1 hbx3 hbx4 hH0 hH1 hRK54mh hM
      refine zw_eq (zu_rega_at (zt_T n) (zm_26 n) (zdp_26 n) _ _ _ _ _ _ (zr_26_274 n _ _ a0 a1 a2 x3 x4 mh)) ?_
      have w66 := zu_w32_id (z := x4 + 1) (by omega) (by omega)
      have hM : (64 - (zu_w32 (x4 + 1))) * 3 + 2 < (k : Int) := by omega
      exact ih.1 x3 (zu_w32 (x4 + 1)) mh hImh hFmh ⟨by omega, by omega⟩ ⟨by omega, by omega⟩ ⟨by omega, by omega⟩ (by omega) (by omega) hRK54mh hM
set_option maxHeartbeats 4000000 in
theorem zk_26 (n : Nat) {a0 a1 a2 : Int} {m0 : zu_m} (hIm0 : zi_I m0) (hc0 : zcls a0 = 12) (hc2 : zcls a2 = 59) (ha1 : 0 ≤ a1 ∧ a1 ≤ 3)    (hRK54m0 : zR_K54 m0) : zw (zu_call (zt_T n) 26 [(10, a0), (0, a1), (15, a2)] m0) (fun v m => zi_I m ∧ zfr [(56, 0)] m0 m ∧ zR_K54 m ∧ ((-9223372036854775808) ≤ v ∧ v ≤ 9223372036854775807)) := by
  have hFm0 : zfr [(56, 0)] m0 m0 := zfr_rf _ _
  refine zw_eq (zu_call_at (zt_T n) (zm_26 n) (zdp_26 n) _ _ _ _ _ rfl (zr_26_0 n _ _ a0 a1 a2 m0)) ?_
  have b67 : 0 ≤ a1 ∧ a1 < 4 := by omega
  refine zw_if b67 ?_
  have r68 : (-1) ≤ (m0 (a0 + 3) a1) ∧ (m0 (a0 + 3) a1) ≤ 64 := zi_rd hIm0 (zc_12_2 hc0) (zb_54 _)
  refine zw_ite (fun h69 => ?_) (fun h69 => ?_)
  · have b70 : 0 ≤ a1 ∧ a1 < 4 := by omega
    refine zw_if b70 ?_
    have hM : (64 - (m0 (a0 + 3) a1)) * 3 + 2 < ((195 : Nat) : Int) := by omega
    exact (zl_26 n (m0 := m0) hc0 hc2 195).1 0 (m0 (a0 + 3) a1) m0 hIm0 hFm0 ⟨by omega, by omega⟩ ⟨by omega, by omega⟩ ⟨by omega, by omega⟩ (by omega) (by omega) hRK54m0 hM
  · exact zw_some ⟨hIm0, hFm0, hRK54m0, ⟨by omega, by omega⟩⟩
set_option maxHeartbeats 4000000 in
theorem zk_40 (n : Nat) {a0 a1 a2 a3 a4 a5 : Int} {m0 : zu_m} (hIm0 : zi_I m0) (hc0 : zcls a0 = 2) (ha1 : (-2147483648) ≤ a1 ∧ a1 ≤ 2147483647) (ha2 : (-2147483648) ≤ a2 ∧ a2 ≤ 2147483647) (ha3 : (-2147483648) ≤ a3 ∧ a3 ≤ 2147483647) (ha4 : (-2147483648) ≤ a4 ∧ a4 ≤ 2147483647) (ha5 : (-2147483648) ≤ a5 ∧ a5 ≤ 2147483647)     : zw (zu_call (zt_T n) 40 [(5, a0), (0, a1), (0, a2), (0, a3), (0, a4), (0, a5)] m0) (fun v m => zi_I m ∧ zfr [(2, 2), (29, 0)] m0 m ∧ ((-1) ≤ v ∧ v ≤ 700) ∧ (((m0 a0 1) ≤ 680 ∧ v = (m0 a0 1) + 20 ∧ (m a0 1) = (m0 a0 1) + 20) ∨ (680 < (m0 a0 1) ∧ v = -1 ∧ (m a0 1) = (m0 a0 1)))) := by
  have hFm0 : zfr [(2, 2), (29, 0)] m0 m0 := zfr_rf _ _
  have r1 : 0 ≤ (m0 a0 1) ∧ (m0 a0 1) ≤ 700 := zi_rd hIm0 hc0 zb_2_1
  refine zw_eq (zu_call_at (zt_T n) (zm_40 n) (zdp_40 n) _ _ _ _ _ rfl (zr_40_0 n _ _ a0 a1 a2 a3 a4 a5 m0)) ?_
  refine zw_ite (fun h2 => ?_) (fun h2 => ?_)
  · refine zw_bd (zw_mono (zk_41 n hIm0 hc0 ⟨by omega, by omega⟩) (fun v4 m3 hqm3 => ?_))
    obtain ⟨hIm3, hfm3, hvm3⟩ := hqm3
    have hFm3 := zfr_tr hFm0 hfm3 rfl
    refine zw_bd (zw_mono (zk_41 n hIm3 hc0 ⟨by omega, by omega⟩) (fun v6 m5 hqm5 => ?_))
    obtain ⟨hIm5, hfm5, hvm5⟩ := hqm5
    have hFm5 := zfr_tr hFm3 hfm5 rfl
    refine zw_bd (zw_mono (zk_41 n hIm5 hc0 ⟨by omega, by omega⟩) (fun v8 m7 hqm7 => ?_))
    obtain ⟨hIm7, hfm7, hvm7⟩ := hqm7
    have hFm7 := zfr_tr hFm5 hfm7 rfl
    refine zw_bd (zw_mono (zk_41 n hIm7 hc0 ⟨by omega, by omega⟩) (fun v10 m9 hqm9 => ?_))
    obtain ⟨hIm9, hfm9, hvm9⟩ := hqm9
    have hFm9 := zfr_tr hFm7 hfm9 rfl
    refine zw_bd (zw_mono (zk_41 n hIm9 hc0 ⟨by omega, by omega⟩) (fun v12 m11 hqm11 => ?_))
    obtain ⟨hIm11, hfm11, hvm11⟩ := hqm11
    have hFm11 := zfr_tr hFm9 hfm11 rfl
    have r13 : 0 ≤ (m11 a0 1) ∧ (m11 a0 1) ≤ 700 := zi_rd hIm11 hc0 zb_2_1
    exact zw_some ⟨hIm11, hFm11, ⟨by omega, by omega⟩, by omega⟩
  · exact zw_some ⟨hIm0, hFm0, ⟨by omega, by omega⟩, by omega⟩
set_option maxHeartbeats 4000000 in
theorem zk_44 (n : Nat) {a0 a1 : Int} {m0 : zu_m} (hIm0 : zi_I m0) (hc0 : zcls a0 = 2) (ha1 : (-2147483648) ≤ a1 ∧ a1 ≤ 2147483647)     : zw (zu_call (zt_T n) 44 [(5, a0), (0, a1)] m0) (fun v m => zi_I m ∧ zfr [] m0 m ∧ ((-1) ≤ v ∧ v ≤ 3)) := by
  have hFm0 : zfr [] m0 m0 := zfr_rf _ _
  refine zw_eq (zu_call_at (zt_T n) (zm_44 n) (zdp_44 n) _ _ _ _ _ rfl (zr_44_0 n _ _ a0 a1 m0)) ?_
  refine zw_bd (zw_mono (zk_212_16 n hIm0 zq_89 ⟨by omega, by omega⟩) (fun v2 m1 hqm1 => ?_))
  obtain ⟨hIm1, hfm1, hvm1⟩ := hqm1
  have hFm1 := zfr_tr hFm0 hfm1 rfl
  exact zw_some ⟨hIm1, hFm1, ⟨by omega, by omega⟩⟩
set_option maxHeartbeats 4000000 in
theorem zk_45 (n : Nat) {a0 a1 a2 : Int} {m0 : zu_m} (hIm0 : zi_I m0) (hc0 : zcls a0 = 2) (ha1 : 0 ≤ a1 ∧ a1 ≤ 47) (ha2 : 0 ≤ a2 ∧ a2 ≤ 3)   (hxp0 : a1 < (m0 50 2))  : zw (zu_call (zt_T n) 45 [(5, a0), (0, a1), (0, a2)] m0) (fun v m => zi_I m ∧ zfr [] m0 m ∧ ((-2147483648) ≤ v ∧ v ≤ 2147483647)) := by
  have hFm0 : zfr [] m0 m0 := zfr_rf _ _
  have r1 : 1 ≤ (m0 50 2) ∧ (m0 50 2) ≤ 48 := zi_rd hIm0 zq_50 zb_11_2
  refine zw_eq (zu_call_at (zt_T n) (zm_45 n) (zdp_45 n) _ _ _ _ _ rfl (zr_45_0 n _ _ a0 a1 a2 m0)) ?_
  refine zw_bd (zw_eq (zu_call_at (zt_T n) (zm_244 n) (zdp_244 n) _ _ _ _ _ rfl (zr_244_0 n _ _ 50 a1 m0)) ?_)
  refine zw_ite (fun h2 => ?_) (fun h2 => ?_)
  · exfalso; omega
  · refine zw_ite (fun h3 => ?_) (fun h3 => ?_)
    · refine zw_b (by omega) ?_
      refine zw_some ?_
      refine zw_ite (fun h4 => ?_) (fun h4 => ?_)
      · exfalso; omega
      · exfalso; omega
    · refine zw_b (by omega) ?_
      refine zw_some ?_
      refine zw_ite (fun h5 => ?_) (fun h5 => ?_)
      · refine zw_ite (fun h6 => ?_) (fun h6 => ?_)
        · have b7 : 0 ≤ a1 ∧ a1 < 48 := by omega
          refine zw_if b7 ?_
          have r8 : 0 ≤ (m0 (50 + 3) a1) ∧ (m0 (50 + 3) a1) ≤ 3 := zi_rd hIm0 (zc_11_8 zq_50) (zb_51 _)
          exact zw_some ⟨hIm0, hFm0, ⟨by omega, by omega⟩⟩
        · refine zw_ite (fun h9 => ?_) (fun h9 => ?_)
          · refine zw_bd (zw_mono (zk_231 n hIm0 zq_89 ⟨by omega, by omega⟩) (fun v11 m10 hqm10 => ?_))
            obtain ⟨hIm10, hfm10, hvm10⟩ := hqm10
            have hFm10 := zfr_tr hFm0 hfm10 rfl
            exact zw_some ⟨hIm10, hFm10, ⟨by omega, by omega⟩⟩
          · refine zw_ite (fun h12 => ?_) (fun h12 => ?_)
            · have b13 : 0 ≤ a1 ∧ a1 < 48 := by omega
              refine zw_if b13 ?_
              have r14 : 0 ≤ (m0 (89 + 3) a1) ∧ (m0 (89 + 3) a1) ≤ 1 := zi_rd hIm0 (zc_16_5 zq_89) (zb_67 _)
              refine zw_ite (fun h15 => ?_) (fun h15 => ?_)
              · exact zw_some ⟨hIm0, hFm0, ⟨by omega, by omega⟩⟩
              · exact zw_some ⟨hIm0, hFm0, ⟨by omega, by omega⟩⟩
            · refine zw_ite (fun h16 => ?_) (fun h16 => ?_)
              · refine zw_bd (zw_mono (zk_232 n hIm0 zq_89 ⟨by omega, by omega⟩) (fun v18 m17 hqm17 => ?_))
                obtain ⟨hIm17, hfm17, hvm17⟩ := hqm17
                have hFm17 := zfr_tr hFm0 hfm17 rfl
                exact zw_some ⟨hIm17, hFm17, ⟨by omega, by omega⟩⟩
              · exfalso; omega
      · exfalso; omega

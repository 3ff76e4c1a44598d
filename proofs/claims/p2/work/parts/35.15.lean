set_option maxHeartbeats 4000000 in
theorem zl_214_25 (n : Nat) {a0 a1 a2 : Int} {m0 : zu_m} (hc0 : zcls a0 = 25)  (hxp0 : (m0 a0 8) + a1 ≤ 20000) : ∀ k : Nat, (∀ (x3 : Int) (mh : zu_m), zi_I mh → zfr [(25, 9), (25, 10), (26, 4), (27, 2), (27, 6), (27, 7), (27, 8), (56, 0), (59, 1), (59, 2), (59, 3), (59, 4), (59, 5), (59, 6), (59, 7), (97, 0), (98, 0)] m0 mh → (0 ≤ a1 ∧ a1 ≤ 200) → (0 ≤ a2 ∧ a2 ≤ 1) → (0 ≤ x3 ∧ x3 ≤ 200) → (x3 ≤ a1) → ((mh a0 8) = (m0 a0 8) + x3) → (zR_K54 mh) → (200 - x3) * 11 + 10 < (k : Int) → zw (zu_ex (zt_T n) 214 2 [(27, a0), (0, a1), (0, a2), (0, x3), (2, 0)] [] mh) (fun v m => zi_I m ∧ zfr [(25, 9), (25, 10), (26, 4), (27, 2), (27, 6), (27, 7), (27, 8), (56, 0), (59, 1), (59, 2), (59, 3), (59, 4), (59, 5), (59, 6), (59, 7), (97, 0), (98, 0)] m0 m ∧ zR_K54 m ∧ True ∧ ((m a0 8) = (m0 a0 8) + a1))) ∧ (∀ (x3 x4 : Int) (mh : zu_m), zi_I mh → zfr [(25, 9), (25, 10), (26, 4), (27, 2), (27, 6), (27, 7), (27, 8), (56, 0), (59, 1), (59, 2), (59, 3), (59, 4), (59, 5), (59, 6), (59, 7), (97, 0), (98, 0)] m0 mh → (1 ≤ a1 ∧ a1 ≤ 200) → (0 ≤ a2 ∧ a2 ≤ 1) → (0 ≤ x3 ∧ x3 ≤ 199) → (0 ≤ x4 ∧ x4 ≤ 4) → (x3 < a1) → ((mh a0 8) = (m0 a0 8) + x3) → (zR_K54 mh) → (4 - x4) * 1 + (200 - x3) * 11 + 5 < (k : Int) → zw (zu_ex (zt_T n) 214 10 [(27, a0), (0, a1), (0, a2), (0, x3), (0, x4)] [] mh) (fun v m => zi_I m ∧ zfr [(25, 9), (25, 10), (26, 4), (27, 2), (27, 6), (27, 7), (27, 8), (56, 0), (59, 1), (59, 2), (59, 3), (59, 4), (59, 5), (59, 6), (59, 7), (97, 0), (98, 0)] m0 m ∧ zR_K54 m ∧ True ∧ ((m a0 8) = (m0 a0 8) + a1))) ∧ (∀ (x3 x4 : Int) (mh : zu_m), zi_I mh → zfr [(25, 9), (25, 10), (26, 4), (27, 2), (27, 6), (27, 7), (27, 8), (56, 0), (59, 1), (59, 2), (59, 3), (59, 4), (59, 5), (59, 6), (59, 7), (97, 0), (98, 0)] m0 mh → (1 ≤ a1 ∧ a1 ≤ 200) → (0 ≤ a2 ∧ a2 ≤ 1) → (0 ≤ x3 ∧ x3 ≤ 199) → (0 ≤ x4 ∧ x4 ≤ 4) → (x3 < a1) → ((mh a0 8) = (m0 a0 8) + x3) → (zR_K54 mh) → (4 - x4) * 1 + (200 - x3) * 11 + 0 < (k : Int) → zw (zu_ex (zt_T n) 214 52 [(27, a0), (0, a1), (0, a2), (0, x3), (0, x4)] [] mh) (fun v m => zi_I m ∧ zfr [(25, 9), (25, 10), (26, 4), (27, 2), (27, 6), (27, 7), (27, 8), (56, 0), (59, 1), (59, 2), (59, 3), (59, 4), (59, 5), (59, 6), (59, 7), (97, 0), (98, 0)] m0 m ∧ zR_K54 m ∧ True ∧ ((m a0 8) = (m0 a0 8) + a1))) := by
  intro k
  induction k with
  | zero => exact ⟨fun x3 mh hImh hFmh hba1 hba2 hbx3 hH0 hH1 hRK54mh hM => by exfalso; omega, fun x3 x4 mh hImh hFmh hba1 hba2 hbx3 hbx4 hH0 hH1 hRK54mh hM => by exfalso; omega, fun x3 x4 mh hImh hFmh hba1 hba2 hbx3 hbx4 hH0 hH1 hRK54mh hM => by exfalso; omega⟩
  | succ k ih =>
    refine ⟨?_, ?_, ?_⟩
    · intro x3 mh hImh hFmh hba1 hba2 hbx3 hH0 hH1 hRK54mh hM
      refine zw_eq (zu_rega_at (zt_T n) (zm_214 n) (zdp_214 n) _ _ _ _ _ _ (zr_214_2 n _ _ a0 a1 a2 x3 mh)) ?_
      have r1 : 0 ≤ (mh a0 8) ∧ (mh a0 8) ≤ 20000 := zi_rd hImh hc0 zb_25_8
      refine zw_ite (fun h2 => ?_) (fun h2 => ?_)
      · exact zw_some ⟨hImh, hFmh, hRK54mh, trivial, by omega⟩
      · have hM : (4 - 0) * 1 + (200 - x3) * 11 + 5 < (k : Int) := by omega
        exact ih.2.1 x3 0 mh hImh hFmh ⟨by omega, by omega⟩ ⟨by omega, by omega⟩ ⟨by omega, by omega⟩ ⟨by omega, by omega⟩ (by omega) (by omega) hRK54mh hM
    · intro x3 x4 mh hImh hFmh hba1 hba2 hbx3 hbx4 hH0 hH1 hRK54mh hM
      refine zw_eq (zu_rega_at (zt_T n) (zm_214 n) (zdp_214 n) _ _ _ _ _ _ (zr_214_10 n _ _ a0 a1 a2 x3 x4 mh)) ?_
      have r3 : 0 ≤ (mh a0 8) ∧ (mh a0 8) ≤ 20000 := zi_rd hImh hc0 zb_25_8
      have r4 : 0 ≤ (mh a0 4) ∧ (mh a0 4) ≤ 4 := zi_rd hImh hc0 zb_25_4
      refine zw_ite (fun h5 => ?_) (fun h5 => ?_)
      · have hM : (4 - 0) * 1 + (200 - x3) * 11 + 0 < (k : Int) := by omega
        exact ih.2.2 x3 0 mh hImh hFmh ⟨by omega, by omega⟩ ⟨by omega, by omega⟩ ⟨by omega, by omega⟩ ⟨by omega, by omega⟩ (by omega) (by omega) hRK54mh hM
      · have b6 : 0 ≤ x4 ∧ x4 < 4 := by omega
        refine zw_if b6 ?_
        have r7 : (-2147483648) ≤ (mh ((a0 + 2) + 20 + x4) 4) ∧ (mh ((a0 + 2) + 20 + x4) 4) ≤ 2147483647 := zi_rd hImh (zc_96_e (zc_25_3 hc0) b6) zb_27_4
        refine zw_ite (fun h8 => ?_) (fun h8 => ?_)
        · have w9 := zu_w32_id (z := x4 + 1) (by omega) (by omega)
          have hM : (4 - (zu_w32 (x4 + 1))) * 1 + (200 - x3) * 11 + 5 < (k : Int) := by omega
          exact ih.2.1 x3 (zu_w32 (x4 + 1)) mh hImh hFmh ⟨by omega, by omega⟩ ⟨by omega, by omega⟩ ⟨by omega, by omega⟩ ⟨by omega, by omega⟩ (by omega) (by omega) hRK54mh hM
        · refine zw_bd (zw_mono (zk_216_25 n hImh hc0 ⟨by omega, by omega⟩ ⟨by omega, by omega⟩ hRK54mh) (fun v11 m10 hqm10 => ?_))
          obtain ⟨hIm10, hfm10, hvm10⟩ := hqm10
          have hFm10 := zfr_tr hFmh hfm10 rfl
          obtain ⟨hRK54m10, hvm10⟩ := hvm10
          have w12 := zu_w32_id (z := x4 + 1) (by omega) (by omega)
          have r13 : 0 ≤ (m10 a0 8) ∧ (m10 a0 8) ≤ 20000 := zi_rd hIm10 hc0 zb_25_8
          have e14 : (m10 a0 8) = (mh a0 8) := (zfr_ap hfm10 hc0 rfl)
          have hM : (4 - (zu_w32 (x4 + 1))) * 1 + (200 - x3) * 11 + 5 < (k : Int) := by omega
          exact ih.2.1 x3 (zu_w32 (x4 + 1)) m10 hIm10 hFm10 ⟨by omega, by omega⟩ ⟨by omega, by omega⟩ ⟨by omega, by omega⟩ ⟨by omega, by omega⟩ (by omega) (by omega) hRK54m10 hM
    · intro x3 x4 mh hImh hFmh hba1 hba2 hbx3 hbx4 hH0 hH1 hRK54mh hM
      refine zw_eq (zu_rega_at (zt_T n) (zm_214 n) (zdp_214 n) _ _ _ _ _ _ (zr_214_52 n _ _ a0 a1 a2 x3 x4 mh)) ?_
      have r15 : 0 ≤ (mh a0 8) ∧ (mh a0 8) ≤ 20000 := zi_rd hImh hc0 zb_25_8
      have r16 : 0 ≤ (mh a0 4) ∧ (mh a0 4) ≤ 4 := zi_rd hImh hc0 zb_25_4
      refine zw_ite (fun h17 => ?_) (fun h17 => ?_)
      · refine zw_ite (fun h18 => ?_) (fun h18 => ?_)
        · have r19 : (-2147483648) ≤ (mh a0 11) ∧ (mh a0 11) ≤ 2147483647 := zi_rd hImh hc0 zb_25_11
          refine zw_ite (fun h20 => ?_) (fun h20 => ?_)
          · have w21 := zu_w32_id (z := (mh a0 8) + 1) (by omega) (by omega)
            generalize hmm22 : zu_up mh a0 8 (zu_w32 ((mh a0 8) + 1)) = m22
            have hIm22 := zi_up hmm22 hImh hc0 zb_25_8 (by omega) (by omega)
            have hFm22 := zfr_up hmm22 hFmh hc0 rfl
            have hRK54m22 := zR_K54_fr (zdis_fr (zfr_up hmm22 (zfr_rf [(25, 9)] _) hc0 rfl) rfl) hRK54mh
            have w23 := zu_w32_id (z := x3 + 1) (by omega) (by omega)
            have r24 : 0 ≤ (m22 a0 8) ∧ (m22 a0 8) ≤ 20000 := zi_rd hIm22 hc0 zb_25_8
            have e25 : (m22 a0 8) = (zu_w32 ((mh a0 8) + 1)) := (zs_eq hmm22)
            have hM : (200 - (zu_w32 (x3 + 1))) * 11 + 10 < (k : Int) := by omega
            exact zw_le (zu_forget (zu_lr_same (zu_lr_same (zu_lr_same (zu_lr_same (zu_lr_drop zu_lr_nil)))))) (ih.1 (zu_w32 (x3 + 1)) m22 hIm22 hFm22 ⟨by omega, by omega⟩ ⟨by omega, by omega⟩ ⟨by omega, by omega⟩ (by omega) (by omega) hRK54m22 hM)
          · refine zw_bd (zw_mono (zk_222_25 n hImh hc0) (fun v27 m26 hqm26 => ?_))
            obtain ⟨hIm26, hfm26, hvm26⟩ := hqm26
            have hFm26 := zfr_tr hFmh hfm26 rfl
            have hRK54m26 := zR_K54_fr (zdis_fr hfm26 rfl) hRK54mh
            have r28 : 0 ≤ (m26 a0 8) ∧ (m26 a0 8) ≤ 20000 := zi_rd hIm26 hc0 zb_25_8
            have e29 : (m26 a0 8) = (mh a0 8) := (zfr_ap hfm26 hc0 rfl)
            have w30 := zu_w32_id (z := (m26 a0 8) + 1) (by omega) (by omega)
            generalize hmm31 : zu_up m26 a0 8 (zu_w32 ((m26 a0 8) + 1)) = m31
            have hIm31 := zi_up hmm31 hIm26 hc0 zb_25_8 (by omega) (by omega)
            have hFm31 := zfr_up hmm31 hFm26 hc0 rfl
            have hRK54m31 := zR_K54_fr (zdis_fr (zfr_up hmm31 (zfr_rf [(25, 9)] _) hc0 rfl) rfl) hRK54m26
            have w32 := zu_w32_id (z := x3 + 1) (by omega) (by omega)
            have r33 : 0 ≤ (m31 a0 8) ∧ (m31 a0 8) ≤ 20000 := zi_rd hIm31 hc0 zb_25_8
            have e34 : (m31 a0 8) = (zu_w32 ((m26 a0 8) + 1)) := (zs_eq hmm31)
            have hM : (200 - (zu_w32 (x3 + 1))) * 11 + 10 < (k : Int) := by omega
            exact zw_le (zu_forget (zu_lr_same (zu_lr_same (zu_lr_same (zu_lr_same (zu_lr_drop zu_lr_nil)))))) (ih.1 (zu_w32 (x3 + 1)) m31 hIm31 hFm31 ⟨by omega, by omega⟩ ⟨by omega, by omega⟩ ⟨by omega, by omega⟩ (by omega) (by omega) hRK54m31 hM)
        · refine zw_bd (zw_mono (zk_221_25 n hImh hc0) (fun v36 m35 hqm35 => ?_))
          obtain ⟨hIm35, hfm35, hvm35⟩ := hqm35
          have hFm35 := zfr_tr hFmh hfm35 rfl
          have hRK54m35 := zR_K54_fr (zdis_fr hfm35 rfl) hRK54mh
          have r37 : 0 ≤ (m35 a0 8) ∧ (m35 a0 8) ≤ 20000 := zi_rd hIm35 hc0 zb_25_8
          have e38 : (m35 a0 8) = (mh a0 8) := (zfr_ap hfm35 hc0 rfl)
          have r39 : (-2147483648) ≤ (m35 a0 11) ∧ (m35 a0 11) ≤ 2147483647 := zi_rd hIm35 hc0 zb_25_11
          refine zw_ite (fun h40 => ?_) (fun h40 => ?_)
          · have w41 := zu_w32_id (z := (m35 a0 8) + 1) (by omega) (by omega)
            generalize hmm42 : zu_up m35 a0 8 (zu_w32 ((m35 a0 8) + 1)) = m42
            have hIm42 := zi_up hmm42 hIm35 hc0 zb_25_8 (by omega) (by omega)
            have hFm42 := zfr_up hmm42 hFm35 hc0 rfl
            have hRK54m42 := zR_K54_fr (zdis_fr (zfr_up hmm42 (zfr_rf [(25, 9)] _) hc0 rfl) rfl) hRK54m35
            have w43 := zu_w32_id (z := x3 + 1) (by omega) (by omega)
            have r44 : 0 ≤ (m42 a0 8) ∧ (m42 a0 8) ≤ 20000 := zi_rd hIm42 hc0 zb_25_8
            have e45 : (m42 a0 8) = (zu_w32 ((m35 a0 8) + 1)) := (zs_eq hmm42)
            have hM : (200 - (zu_w32 (x3 + 1))) * 11 + 10 < (k : Int) := by omega
            exact zw_le (zu_forget (zu_lr_same (zu_lr_same (zu_lr_same (zu_lr_same (zu_lr_drop zu_lr_nil)))))) (ih.1 (zu_w32 (x3 + 1)) m42 hIm42 hFm42 ⟨by omega, by omega⟩ ⟨by omega, by omega⟩ ⟨by omega, by omega⟩ (by omega) (by omega) hRK54m42 hM)
          · refine zw_bd (zw_mono (zk_222_25 n hIm35 hc0) (fun v47 m46 hqm46 => ?_))
            obtain ⟨hIm46, hfm46, hvm46⟩ := hqm46
            have hFm46 := zfr_tr hFm35 hfm46 rfl
            have hRK54m46 := zR_K54_fr (zdis_fr hfm46 rfl) hRK54m35
            have r48 : 0 ≤ (m46 a0 8) ∧ (m46 a0 8) ≤ 20000 := zi_rd hIm46 hc0 zb_25_8
            have e49 : (m46 a0 8) = (m35 a0 8) := (zfr_ap hfm46 hc0 rfl)
            have w50 := zu_w32_id (z := (m46 a0 8) + 1) (by omega) (by omega)
            generalize hmm51 : zu_up m46 a0 8 (zu_w32 ((m46 a0 8) + 1)) = m51
            have hIm51 := zi_up hmm51 hIm46 hc0 zb_25_8 (by omega) (by omega)
            have hFm51 := zfr_up hmm51 hFm46 hc0 rfl
            have hRK54m51 := zR_K54_fr (zdis_fr (zfr_up hmm51 (zfr_rf [(25, 9)] _) hc0 rfl) rfl) hRK54m46
            have w52 := zu_w32_id (z := x3 + 1) (by omega) (by omega)
            have r53 : 0 ≤ (m51 a0 8) ∧ (m51 a0 8) ≤ 20000 := zi_rd hIm51 hc0 zb_25_8
            have e54 : (m51 a0 8) = (zu_w32 ((m46 a0 8) + 1)) := (zs_eq hmm51)
            have hM : (200 - (zu_w32 (x3 + 1))) * 11 + 10 < (k : Int) := by omega
            exact zw_le (zu_forget (zu_lr_same (zu_lr_same (zu_lr_same (zu_lr_same (zu_lr_drop zu_lr_nil)))))) (ih.1 (zu_w32 (x3 + 1)) m51 hIm51 hFm51 ⟨by omega, by omega⟩ ⟨by omega, by omega⟩ ⟨by omega, by omega⟩ (by omega) (by omega) hRK54m51 hM)
      · have b55 : 0 ≤ x4 ∧ x4 < 4 := by omega
        refine zw_if b55 ?_
        have r56 : (-2147483648) ≤ (mh ((a0 + 2) + 20 + x4) 4) ∧ (mh ((a0 + 2) + 20 + x4) 4) ≤ 2147483647 := zi_rd hImh (zc_96_e (zc_25_3 hc0) b55) zb_27_4
        refine zw_ite (fun h57 => ?_) (fun h57 => ?_)
        · have w58 := zu_w32_id (z := x4 + 1) (by omega) (by omega)
          have hM : (4 - (zu_w32 (x4 + 1))) * 1 + (200 - x3) * 11 + 0 < (k : Int) := by omega
          exact ih.2.2 x3 (zu_w32 (x4 + 1)) mh hImh hFmh ⟨by omega, by omega⟩ ⟨by omega, by omega⟩ ⟨by omega, by omega⟩ ⟨by omega, by omega⟩ (by omega) (by omega) hRK54mh hM
        · refine zw_bd (zw_mono (zk_219_25 n hImh hc0 ⟨by omega, by omega⟩) (fun v60 m59 hqm59 => ?_))
          obtain ⟨hIm59, hfm59, hvm59⟩ := hqm59
          have hFm59 := zfr_tr hFmh hfm59 rfl
          have hRK54m59 := zR_K54_fr (zdis_fr hfm59 rfl) hRK54mh
          have w61 := zu_w32_id (z := x4 + 1) (by omega) (by omega)
          have r62 : 0 ≤ (m59 a0 8) ∧ (m59 a0 8) ≤ 20000 := zi_rd hIm59 hc0 zb_25_8
          have e63 : (m59 a0 8) = (mh a0 8) := (zfr_ap hfm59 hc0 rfl)
          have hM : (4 - (zu_w32 (x4 + 1))) * 1 + (200 - x3) * 11 + 0 < (k : Int) := by omega
          exact ih.2.2 x3 (zu_w32 (x4 + 1)) m59 hIm59 hFm59 ⟨by omega, by omega⟩ ⟨by omega, by omega⟩ ⟨by omega, by omega⟩ ⟨by omega, by omega⟩ (by omega) (by omega) hRK54m59 hM
set_option maxHeartbeats 4000000 in
theorem zk_214_25 (n : Nat) {a0 a1 a2 : Int} {m0 : zu_m} (hIm0 : zi_I m0) (hc0 : zcls a0 = 25) (ha1 : 0 ≤ a1 ∧ a1 ≤ 200) (ha2 : 0 ≤ a2 ∧ a2 ≤ 1)   (hxp0 : (m0 a0 8) + a1 ≤ 20000) (hRK54m0 : zR_K54 m0) : zw (zu_call (zt_T n) 214 [(27, a0), (0, a1), (0, a2)] m0) (fun v m => zi_I m ∧ zfr [(25, 9), (25, 10), (26, 4), (27, 2), (27, 6), (27, 7), (27, 8), (56, 0), (59, 1), (59, 2), (59, 3), (59, 4), (59, 5), (59, 6), (59, 7), (97, 0), (98, 0)] m0 m ∧ zR_K54 m ∧ True ∧ ((m a0 8) = (m0 a0 8) + a1)) := by
  have hFm0 : zfr [(25, 9), (25, 10), (26, 4), (27, 2), (27, 6), (27, 7), (27, 8), (56, 0), (59, 1), (59, 2), (59, 3), (59, 4), (59, 5), (59, 6), (59, 7), (97, 0), (98, 0)] m0 m0 := zfr_rf _ _
  have r64 : 0 ≤ (m0 a0 8) ∧ (m0 a0 8) ≤ 20000 := zi_rd hIm0 hc0 zb_25_8
  refine zw_eq (zu_call_at (zt_T n) (zm_214 n) (zdp_214 n) _ _ _ _ _ rfl (zr_214_0 n _ _ a0 a1 a2 m0)) ?_
  have hM : (200 - 0) * 11 + 10 < ((2211 : Nat) : Int) := by omega
  exact (zl_214_25 n (m0 := m0) hc0 hxp0 2211).1 0 m0 hIm0 hFm0 ⟨by omega, by omega⟩ ⟨by omega, by omega⟩ ⟨by omega, by omega⟩ (by omega) (by omega) hRK54m0 hM
set_option maxHeartbeats 4000000 in
theorem zl_237 (n : Nat) {a0 a1 : Int} {m0 : zu_m} (hc0 : zcls a0 = 16)   : ∀ k : Nat, (∀ (x2 x3 : Int) (mh : zu_m), zi_I mh → zfr [(56, 0), (59, 1), (59, 2), (59, 3), (59, 4), (59, 5), (59, 6), (59, 7)] m0 mh → (0 ≤ a1 ∧ a1 ≤ 3) → ((-2147483648) ≤ x2 ∧ x2 ≤ 2147483647) → (0 ≤ x3 ∧ x3 ≤ 16) → (zR_K54 mh) → (16 - x3) * 1 + 0 < (k : Int) → zw (zu_ex (zt_T n) 237 4 [(27, a0), (0, a1), (0, x2), (0, x3)] [] mh) (fun v m => zi_I m ∧ zfr [(56, 0), (59, 1), (59, 2), (59, 3), (59, 4), (59, 5), (59, 6), (59, 7)] m0 m ∧ zR_K54 m ∧ ((-2147483648) ≤ v ∧ v ≤ 2147483647))) := by
  intro k
  induction k with
  | zero => exact fun x2 x3 mh hImh hFmh hba1 hbx2 hbx3 hRK54mh hM => by exfalso; omega
  | succ k ih =>
    intro x2 x3 mh hImh hFmh hba1 hbx2 hbx3 hRK54mh hM
    refine zw_eq (zu_rega_at (zt_T n) (zm_237 n) (zdp_237 n) _ _ _ _ _ _ (zr_237_4 n _ _ a0 a1 x2 x3 mh)) ?_
    have r1 : 0 ≤ (mh a0 2) ∧ (mh a0 2) ≤ 16 := zi_rd hImh hc0 zb_16_2
    refine zw_ite (fun h2 => ?_) (fun h2 => ?_)
    · exact zw_some ⟨hImh, hFmh, hRK54mh, ⟨by omega, by omega⟩⟩
    · have b3 : 0 ≤ x3 ∧ x3 < 16 := by omega
      refine zw_if b3 ?_
      have r4 : (-3) ≤ (mh ((a0 + 1) + 5 + x3) 3) ∧ (mh ((a0 + 1) + 5 + x3) 3) ≤ 3 := zi_rd hImh (zc_65_e (zc_16_1 hc0) b3) zb_17_3
      refine zw_ite (fun h5 => ?_) (fun h5 => ?_)
      · have w6 := zu_w32_id (z := x3 + 1) (by omega) (by omega)
        have hM : (16 - (zu_w32 (x3 + 1))) * 1 + 0 < (k : Int) := by omega
        exact ih x2 (zu_w32 (x3 + 1)) mh hImh hFmh ⟨by omega, by omega⟩ ⟨by omega, by omega⟩ ⟨by omega, by omega⟩ hRK54mh hM
      · refine zw_bd (zw_mono (zk_226 n hImh hc0 ⟨by omega, by omega⟩ ⟨by omega, by omega⟩ hRK54mh) (fun v8 m7 hqm7 => ?_))
        obtain ⟨hIm7, hfm7, hvm7⟩ := hqm7
        have hFm7 := zfr_tr hFmh hfm7 rfl
        obtain ⟨hRK54m7, hvm7⟩ := hvm7
        have w9 := zu_w32_rg (x2 + v8)
        have w10 := zu_w32_id (z := x3 + 1) (by omega) (by omega)
        have hM : (16 - (zu_w32 (x3 + 1))) * 1 + 0 < (k : Int) := by omega
        exact ih (zu_w32 (x2 + v8)) (zu_w32 (x3 + 1)) m7 hIm7 hFm7 ⟨by omega, by omega⟩ ⟨by omega, by omega⟩ ⟨by omega, by omega⟩ hRK54m7 hM
set_option maxHeartbeats 4000000 in
theorem zk_237 (n : Nat) {a0 a1 : Int} {m0 : zu_m} (hIm0 : zi_I m0) (hc0 : zcls a0 = 16) (ha1 : 0 ≤ a1 ∧ a1 ≤ 3)    (hRK54m0 : zR_K54 m0) : zw (zu_call (zt_T n) 237 [(27, a0), (0, a1)] m0) (fun v m => zi_I m ∧ zfr [(56, 0), (59, 1), (59, 2), (59, 3), (59, 4), (59, 5), (59, 6), (59, 7)] m0 m ∧ zR_K54 m ∧ ((-2147483648) ≤ v ∧ v ≤ 2147483647)) := by
  have hFm0 : zfr [(56, 0), (59, 1), (59, 2), (59, 3), (59, 4), (59, 5), (59, 6), (59, 7)] m0 m0 := zfr_rf _ _
  refine zw_eq (zu_call_at (zt_T n) (zm_237 n) (zdp_237 n) _ _ _ _ _ rfl (zr_237_0 n _ _ a0 a1 m0)) ?_
  have hM : (16 - 0) * 1 + 0 < ((17 : Nat) : Int) := by omega
  exact (zl_237 n (m0 := m0) hc0 17) 0 0 m0 hIm0 hFm0 ⟨by omega, by omega⟩ ⟨by omega, by omega⟩ ⟨by omega, by omega⟩ hRK54m0 hM
set_option maxHeartbeats 4000000 in
theorem zl_242 (n : Nat) {a0 a1 a2 : Int} {m0 : zu_m} (hc0 : zcls a0 = 16)   : ∀ k : Nat, (∀ (x3 : Int) (mh : zu_m), zi_I mh → zfr [(56, 0), (59, 1), (59, 2), (59, 3), (59, 4), (59, 5), (59, 6), (59, 7)] m0 mh → (0 ≤ a1 ∧ a1 ≤ 3) → (1 ≤ a2 ∧ a2 ≤ 3) → (0 ≤ x3 ∧ x3 ≤ 16) → (zR_K54 mh) → (16 - x3) * 18 + 17 < (k : Int) → zw (zu_ex (zt_T n) 242 2 [(27, a0), (0, a1), (0, a2), (0, x3), (2, 0)] [] mh) (fun v m => zi_I m ∧ zfr [(56, 0), (59, 1), (59, 2), (59, 3), (59, 4), (59, 5), (59, 6), (59, 7)] m0 m ∧ zR_K54 m ∧ ((-1) ≤ v ∧ v ≤ 255))) ∧ (∀ (x3 x4 : Int) (mh : zu_m), zi_I mh → zfr [(56, 0), (59, 1), (59, 2), (59, 3), (59, 4), (59, 5), (59, 6), (59, 7)] m0 mh → (0 ≤ a1 ∧ a1 ≤ 3) → (1 ≤ a2 ∧ a2 ≤ 3) → (0 ≤ x3 ∧ x3 ≤ 15) → (0 ≤ x4 ∧ x4 ≤ 16) → (1 ≤ mh a0 2 ∧ mh a0 2 ≤ 16) → (zR_K54 mh) → (16 - x4) * 1 + (16 - x3) * 18 + 0 < (k : Int) → zw (zu_ex (zt_T n) 242 13 [(27, a0), (0, a1), (0, a2), (0, x3), (0, x4)] [] mh) (fun v m => zi_I m ∧ zfr [(56, 0), (59, 1), (59, 2), (59, 3), (59, 4), (59, 5), (59, 6), (59, 7)] m0 m ∧ zR_K54 m ∧ ((-1) ≤ v ∧ v ≤ 255))) := by
  intro k
  induction k with
  | zero => exact ⟨fun x3 mh hImh hFmh hba1 hba2 hbx3 hRK54mh hM => by exfalso; omega, fun x3 x4 mh hImh hFmh hba1 hba2 hbx3 hbx4 hg4 hRK54mh hM => by exfalso; omega⟩
  | succ k ih =>
    refine ⟨?_, ?_⟩
    · intro x3 mh hImh hFmh hba1 hba2 hbx3 hRK54mh hM
      refine zw_eq (zu_rega_at (zt_T n) (zm_242 n) (zdp_242 n) _ _ _ _ _ _ (zr_242_2 n _ _ a0 a1 a2 x3 mh)) ?_
      have r1 : 0 ≤ (mh a0 2) ∧ (mh a0 2) ≤ 16 := zi_rd hImh hc0 zb_16_2
      refine zw_ite (fun h2 => ?_) (fun h2 => ?_)
      · exact zw_some ⟨hImh, hFmh, hRK54mh, ⟨by omega, by omega⟩⟩
      · have hM : (16 - 0) * 1 + (16 - x3) * 18 + 0 < (k : Int) := by omega
        exact ih.2 x3 0 mh hImh hFmh ⟨by omega, by omega⟩ ⟨by omega, by omega⟩ ⟨by omega, by omega⟩ ⟨by omega, by omega⟩ ⟨by omega, by omega⟩ hRK54mh hM
    · intro x3 x4 mh hImh hFmh hba1 hba2 hbx3 hbx4 hg4 hRK54mh hM
      refine zw_eq (zu_rega_at (zt_T n) (zm_242 n) (zdp_242 n) _ _ _ _ _ _ (zr_242_13 n _ _ a0 a1 a2 x3 x4 mh)) ?_
      refine zw_ite (fun h3 => ?_) (fun h3 => ?_)
      · have w4 := zu_w32_id (z := x3 + 1) (by omega) (by omega)
        have hM : (16 - (zu_w32 (x3 + 1))) * 18 + 17 < (k : Int) := by omega
        exact zw_le (zu_forget (zu_lr_same (zu_lr_same (zu_lr_same (zu_lr_same (zu_lr_drop zu_lr_nil)))))) (ih.1 (zu_w32 (x3 + 1)) mh hImh hFmh ⟨by omega, by omega⟩ ⟨by omega, by omega⟩ ⟨by omega, by omega⟩ hRK54mh hM)
      · have b5 : 0 ≤ x3 ∧ x3 < 16 := by omega
        refine zw_if b5 ?_
        have r6 : (-3) ≤ (mh ((a0 + 1) + 5 + x3) 3) ∧ (mh ((a0 + 1) + 5 + x3) 3) ≤ 3 := zi_rd hImh (zc_65_e (zc_16_1 hc0) b5) zb_17_3
        refine zw_ite (fun h7 => ?_) (fun h7 => ?_)
        · have w8 := zu_w32_id (z := x3 + 1) (by omega) (by omega)
          have hM : (16 - (zu_w32 (x3 + 1))) * 18 + 17 < (k : Int) := by omega
          exact zw_le (zu_forget (zu_lr_same (zu_lr_same (zu_lr_same (zu_lr_same (zu_lr_drop zu_lr_nil)))))) (ih.1 (zu_w32 (x3 + 1)) mh hImh hFmh ⟨by omega, by omega⟩ ⟨by omega, by omega⟩ ⟨by omega, by omega⟩ hRK54mh hM)
        · have b9 : 0 ≤ x4 ∧ x4 < 16 := by omega
          refine zw_if b9 ?_
          have r10 : (-3) ≤ (mh ((a0 + 1) + 5 + x4) 3) ∧ (mh ((a0 + 1) + 5 + x4) 3) ≤ 3 := zi_rd hImh (zc_65_e (zc_16_1 hc0) b9) zb_17_3
          refine zw_ite (fun h11 => ?_) (fun h11 => ?_)
          · have w12 := zu_w32_id (z := x4 + 1) (by omega) (by omega)
            have hM : (16 - (zu_w32 (x4 + 1))) * 1 + (16 - x3) * 18 + 0 < (k : Int) := by omega
            exact ih.2 x3 (zu_w32 (x4 + 1)) mh hImh hFmh ⟨by omega, by omega⟩ ⟨by omega, by omega⟩ ⟨by omega, by omega⟩ ⟨by omega, by omega⟩ ⟨by omega, by omega⟩ hRK54mh hM
          · refine zw_bd (zw_mono (zk_226 n hImh hc0 ⟨by omega, by omega⟩ ⟨by omega, by omega⟩ hRK54mh) (fun v14 m13 hqm13 => ?_))
            obtain ⟨hIm13, hfm13, hvm13⟩ := hqm13
            have hFm13 := zfr_tr hFmh hfm13 rfl
            obtain ⟨hRK54m13, hvm13⟩ := hvm13
            refine zw_bd (zw_mono (zk_226 n hIm13 hc0 ⟨by omega, by omega⟩ ⟨by omega, by omega⟩ hRK54m13) (fun v16 m15 hqm15 => ?_))
            obtain ⟨hIm15, hfm15, hvm15⟩ := hqm15
            have hFm15 := zfr_tr hFm13 hfm15 rfl
            obtain ⟨hRK54m15, hvm15⟩ := hvm15
            refine zw_ite (fun h17 => ?_) (fun h17 => ?_)
            · have w18 := zu_w32_id (z := x4 + 1) (by omega) (by omega)
              have r19 : 0 ≤ (m15 a0 2) ∧ (m15 a0 2) ≤ 16 := zi_rd hIm15 hc0 zb_16_2
              have e20 : (m15 a0 2) = (mh a0 2) := (Eq.trans (zfr_ap hfm15 hc0 rfl) (zfr_ap hfm13 hc0 rfl))
              have hM : (16 - (zu_w32 (x4 + 1))) * 1 + (16 - x3) * 18 + 0 < (k : Int) := by omega
              exact ih.2 x3 (zu_w32 (x4 + 1)) m15 hIm15 hFm15 ⟨by omega, by omega⟩ ⟨by omega, by omega⟩ ⟨by omega, by omega⟩ ⟨by omega, by omega⟩ ⟨by omega, by omega⟩ hRK54m15 hM
            · refine zw_bd (zw_mono (zk_226 n hIm15 hc0 ⟨by omega, by omega⟩ ⟨by omega, by omega⟩ hRK54m15) (fun v22 m21 hqm21 => ?_))
              obtain ⟨hIm21, hfm21, hvm21⟩ := hqm21
              have hFm21 := zfr_tr hFm15 hfm21 rfl
              obtain ⟨hRK54m21, hvm21⟩ := hvm21
              refine zw_bd (zw_mono (zk_226 n hIm21 hc0 ⟨by omega, by omega⟩ ⟨by omega, by omega⟩ hRK54m21) (fun v24 m23 hqm23 => ?_))
              obtain ⟨hIm23, hfm23, hvm23⟩ := hqm23
              have hFm23 := zfr_tr hFm21 hfm23 rfl
              obtain ⟨hRK54m23, hvm23⟩ := hvm23
              refine zw_ite (fun h25 => ?_) (fun h25 => ?_)
              · have w26 := zu_w32_id (z := x4 + 1) (by omega) (by omega)
                have r27 : 0 ≤ (m23 a0 2) ∧ (m23 a0 2) ≤ 16 := zi_rd hIm23 hc0 zb_16_2
                have e28 : (m23 a0 2) = (mh a0 2) := (Eq.trans (zfr_ap hfm23 hc0 rfl) (Eq.trans (zfr_ap hfm21 hc0 rfl) (Eq.trans (zfr_ap hfm15 hc0 rfl) (zfr_ap hfm13 hc0 rfl))))
                have hM : (16 - (zu_w32 (x4 + 1))) * 1 + (16 - x3) * 18 + 0 < (k : Int) := by omega
                exact ih.2 x3 (zu_w32 (x4 + 1)) m23 hIm23 hFm23 ⟨by omega, by omega⟩ ⟨by omega, by omega⟩ ⟨by omega, by omega⟩ ⟨by omega, by omega⟩ ⟨by omega, by omega⟩ hRK54m23 hM
              · have w29 := zu_w32_id (z := x3 * 16) (by omega) (by omega)
                have w30 := zu_w32_id (z := (zu_w32 (x3 * 16)) + x4) (by omega) (by omega)
                exact zw_some ⟨hIm23, hFm23, hRK54m23, ⟨by omega, by omega⟩⟩
set_option maxHeartbeats 4000000 in
theorem zk_242 (n : Nat) {a0 a1 a2 : Int} {m0 : zu_m} (hIm0 : zi_I m0) (hc0 : zcls a0 = 16) (ha1 : 0 ≤ a1 ∧ a1 ≤ 3) (ha2 : 1 ≤ a2 ∧ a2 ≤ 3)    (hRK54m0 : zR_K54 m0) : zw (zu_call (zt_T n) 242 [(27, a0), (0, a1), (0, a2)] m0) (fun v m => zi_I m ∧ zfr [(56, 0), (59, 1), (59, 2), (59, 3), (59, 4), (59, 5), (59, 6), (59, 7)] m0 m ∧ zR_K54 m ∧ ((-1) ≤ v ∧ v ≤ 255)) := by
  have hFm0 : zfr [(56, 0), (59, 1), (59, 2), (59, 3), (59, 4), (59, 5), (59, 6), (59, 7)] m0 m0 := zfr_rf _ _
  refine zw_eq (zu_call_at (zt_T n) (zm_242 n) (zdp_242 n) _ _ _ _ _ rfl (zr_242_0 n _ _ a0 a1 a2 m0)) ?_
  have hM : (16 - 0) * 18 + 17 < ((306 : Nat) : Int) := by omega
  exact (zl_242 n (m0 := m0) hc0 306).1 0 m0 hIm0 hFm0 ⟨by omega, by omega⟩ ⟨by omega, by omega⟩ ⟨by omega, by omega⟩ hRK54m0 hM
set_option maxHeartbeats 4000000 in
theorem zl_243 (n : Nat) {a0 a1 : Int} {m0 : zu_m} (hc0 : zcls a0 = 16)   : ∀ k : Nat, (∀ (x2 : Int) (mh : zu_m), zi_I mh → zfr [(56, 0), (59, 1), (59, 2), (59, 3), (59, 4), (59, 5), (59, 6), (59, 7), (69, 0)] m0 mh → (0 ≤ a1 ∧ a1 ≤ 15) → (0 ≤ x2 ∧ x2 ≤ 4) → (1 ≤ mh a0 2 ∧ mh a0 2 ≤ 16) → (zR_K54 mh) → (4 - x2) * 1 + 85 < (k : Int) → zw (zu_ex (zt_T n) 243 2 [(27, a0), (0, a1), (0, x2), (2, 0), (2, 0)] [] mh) (fun v m => zi_I m ∧ zfr [(56, 0), (59, 1), (59, 2), (59, 3), (59, 4), (59, 5), (59, 6), (59, 7), (69, 0)] m0 m ∧ zR_K54 m ∧ ((-8) ≤ v ∧ v ≤ 3))) ∧ (∀ (x2 : Int) (mh : zu_m), zi_I mh → zfr [(56, 0), (59, 1), (59, 2), (59, 3), (59, 4), (59, 5), (59, 6), (59, 7), (69, 0)] m0 mh → (0 ≤ a1 ∧ a1 ≤ 15) → (0 ≤ x2 ∧ x2 ≤ 16) → (1 ≤ mh a0 2 ∧ mh a0 2 ≤ 16) → (zR_K54 mh) → (16 - x2) * 5 + 4 < (k : Int) → zw (zu_ex (zt_T n) 243 22 [(27, a0), (0, a1), (0, x2), (2, 0), (2, 0)] [] mh) (fun v m => zi_I m ∧ zfr [(56, 0), (59, 1), (59, 2), (59, 3), (59, 4), (59, 5), (59, 6), (59, 7), (69, 0)] m0 m ∧ zR_K54 m ∧ ((-8) ≤ v ∧ v ≤ 3))) ∧ (∀ (x2 x3 x4 : Int) (mh : zu_m), zi_I mh → zfr [(56, 0), (59, 1), (59, 2), (59, 3), (59, 4), (59, 5), (59, 6), (59, 7), (69, 0)] m0 mh → (0 ≤ a1 ∧ a1 ≤ 15) → (0 ≤ x2 ∧ x2 ≤ 15) → (0 ≤ x3 ∧ x3 ≤ 3) → (1 ≤ x4 ∧ x4 ≤ 4) → (1 ≤ mh a0 2 ∧ mh a0 2 ≤ 16) → (zR_K54 mh) → (4 - x4) * 1 + (16 - x2) * 5 + 0 < (k : Int) → zw (zu_ex (zt_T n) 243 47 [(27, a0), (0, a1), (0, x2), (0, x3), (0, x4)] [] mh) (fun v m => zi_I m ∧ zfr [(56, 0), (59, 1), (59, 2), (59, 3), (59, 4), (59, 5), (59, 6), (59, 7), (69, 0)] m0 m ∧ zR_K54 m ∧ ((-8) ≤ v ∧ v ≤ 3))) := by
  intro k
  induction k with
  | zero => exact ⟨fun x2 mh hImh hFmh hba1 hbx2 hg2 hRK54mh hM => by exfalso; omega, fun x2 mh hImh hFmh hba1 hbx2 hg2 hRK54mh hM => by exfalso; omega, fun x2 x3 x4 mh hImh hFmh hba1 hbx2 hbx3 hbx4 hg4 hRK54mh hM => by exfalso; omega⟩
  | succ k ih =>
    refine ⟨?_, ?_, ?_⟩
    · intro x2 mh hImh hFmh hba1 hbx2 hg2 hRK54mh hM
      refine zw_eq (zu_rega_at (zt_T n) (zm_243 n) (zdp_243 n) _ _ _ _ _ _ (zr_243_2 n _ _ a0 a1 x2 mh)) ?_
      refine zw_ite (fun h1 => ?_) (fun h1 => ?_)
      · have hM : (16 - 0) * 5 + 4 < (k : Int) := by omega
        exact ih.2.1 0 mh hImh hFmh ⟨by omega, by omega⟩ ⟨by omega, by omega⟩ ⟨by omega, by omega⟩ hRK54mh hM
      · have b2 : 0 ≤ x2 ∧ x2 < 4 := by omega
        refine zw_if b2 ?_
        generalize hmm3 : zu_up mh (a0 + 5) x2 0 = m3
        have hIm3 := zi_up hmm3 hImh (zc_16_7 hc0) (zb_69 _) (by omega) (by omega)
        have hFm3 := zfr_up hmm3 hFmh (zc_16_7 hc0) rfl
        have hRK54m3 := zR_K54_fr (zdis_fr (zfr_up hmm3 (zfr_rf [(69, 0)] _) (zc_16_7 hc0) rfl) rfl) hRK54mh
        have w4 := zu_w32_id (z := x2 + 1) (by omega) (by omega)
        have r5 : 0 ≤ (m3 a0 2) ∧ (m3 a0 2) ≤ 16 := zi_rd hIm3 hc0 zb_16_2
        have e6 : (m3 a0 2) = (mh a0 2) := (zs_ne hmm3 (Or.inl (zc_ne hc0 (zc_16_7 hc0) (by decide))))
        have hM : (4 - (zu_w32 (x2 + 1))) * 1 + 85 < (k : Int) := by omega
        exact ih.1 (zu_w32 (x2 + 1)) m3 hIm3 hFm3 ⟨by omega, by omega⟩ ⟨by omega, by omega⟩ ⟨by omega, by omega⟩ hRK54m3 hM
    · intro x2 mh hImh hFmh hba1 hbx2 hg2 hRK54mh hM
      refine zw_eq (zu_rega_at (zt_T n) (zm_243 n) (zdp_243 n) _ _ _ _ _ _ (zr_243_22 n _ _ a0 a1 x2 mh)) ?_
      refine zw_ite (fun h7 => ?_) (fun h7 => ?_)
      · exact zw_some ⟨hImh, hFmh, hRK54mh, ⟨by omega, by omega⟩⟩
      · have b8 : 0 ≤ x2 ∧ x2 < 16 := by omega
        refine zw_if b8 ?_
        have r9 : (-3) ≤ (mh ((a0 + 1) + 5 + x2) 3) ∧ (mh ((a0 + 1) + 5 + x2) 3) ≤ 3 := zi_rd hImh (zc_65_e (zc_16_1 hc0) b8) zb_17_3
        refine zw_ite (fun h10 => ?_) (fun h10 => ?_)
        · have w11 := zu_w32_id (z := x2 + 1) (by omega) (by omega)
          have hM : (16 - (zu_w32 (x2 + 1))) * 5 + 4 < (k : Int) := by omega
          exact ih.2.1 (zu_w32 (x2 + 1)) mh hImh hFmh ⟨by omega, by omega⟩ ⟨by omega, by omega⟩ ⟨by omega, by omega⟩ hRK54mh hM
        · have hM : (4 - 1) * 1 + (16 - x2) * 5 + 0 < (k : Int) := by omega
          exact ih.2.2 x2 0 1 mh hImh hFmh ⟨by omega, by omega⟩ ⟨by omega, by omega⟩ ⟨by omega, by omega⟩ ⟨by omega, by omega⟩ ⟨by omega, by omega⟩ hRK54mh hM
    · intro x2 x3 x4 mh hImh hFmh hba1 hbx2 hbx3 hbx4 hg4 hRK54mh hM
      refine zw_eq (zu_rega_at (zt_T n) (zm_243 n) (zdp_243 n) _ _ _ _ _ _ (zr_243_47 n _ _ a0 a1 x2 x3 x4 mh)) ?_
      have r12 : 0 ≤ (mh a0 4) ∧ (mh a0 4) ≤ 4 := zi_rd hImh hc0 zb_16_4
      refine zw_ite (fun h13 => ?_) (fun h13 => ?_)
      · refine zw_ite (fun h14 => ?_) (fun h14 => ?_)
        · have b15 : 0 ≤ x3 ∧ x3 < 4 := by omega
          refine zw_if b15 ?_
          have r16 : (-2147483648) ≤ (mh (a0 + 5) x3) ∧ (mh (a0 + 5) x3) ≤ 2147483647 := zi_rd hImh (zc_16_7 hc0) (zb_69 _)
          refine zw_bd (zw_mono (zk_226 n hImh hc0 ⟨by omega, by omega⟩ ⟨by omega, by omega⟩ hRK54mh) (fun v18 m17 hqm17 => ?_))
          obtain ⟨hIm17, hfm17, hvm17⟩ := hqm17
          have hFm17 := zfr_tr hFmh hfm17 rfl
          obtain ⟨hRK54m17, hvm17⟩ := hvm17
          have w19 := zu_w32_rg ((mh (a0 + 5) x3) + v18)
          have b20 : 0 ≤ x3 ∧ x3 < 4 := by omega
          refine zw_if b20 ?_
          generalize hmm21 : zu_up m17 (a0 + 5) x3 (zu_w32 ((mh (a0 + 5) x3) + v18)) = m21
          have hIm21 := zi_up hmm21 hIm17 (zc_16_7 hc0) (zb_69 _) (by omega) (by omega)
          have hFm21 := zfr_up hmm21 hFm17 (zc_16_7 hc0) rfl
          have hRK54m21 := zR_K54_fr (zdis_fr (zfr_up hmm21 (zfr_rf [(69, 0)] _) (zc_16_7 hc0) rfl) rfl) hRK54m17
          have w22 := zu_w32_id (z := x2 + 1) (by omega) (by omega)
          have r23 : 0 ≤ (m21 a0 2) ∧ (m21 a0 2) ≤ 16 := zi_rd hIm21 hc0 zb_16_2
          have e24 : (m21 a0 2) = (mh a0 2) := (Eq.trans (zs_ne hmm21 (Or.inl (zc_ne hc0 (zc_16_7 hc0) (by decide)))) (zfr_ap hfm17 hc0 rfl))
          have hM : (16 - (zu_w32 (x2 + 1))) * 5 + 4 < (k : Int) := by omega
          exact zw_le (zu_forget (zu_lr_same (zu_lr_same (zu_lr_same (zu_lr_drop (zu_lr_drop zu_lr_nil)))))) (ih.2.1 (zu_w32 (x2 + 1)) m21 hIm21 hFm21 ⟨by omega, by omega⟩ ⟨by omega, by omega⟩ ⟨by omega, by omega⟩ hRK54m21 hM)
        · exact zw_some ⟨hImh, hFmh, hRK54mh, ⟨by omega, by omega⟩⟩
      · have b25 : 0 ≤ x4 ∧ x4 < 4 := by omega
        refine zw_if b25 ?_
        have r26 : (-2147483648) ≤ (mh (a0 + 5) x4) ∧ (mh (a0 + 5) x4) ≤ 2147483647 := zi_rd hImh (zc_16_7 hc0) (zb_69 _)
        have b27 : 0 ≤ x3 ∧ x3 < 4 := by omega
        refine zw_if b27 ?_
        have r28 : (-2147483648) ≤ (mh (a0 + 5) x3) ∧ (mh (a0 + 5) x3) ≤ 2147483647 := zi_rd hImh (zc_16_7 hc0) (zb_69 _)
        refine zw_ite (fun h29 => ?_) (fun h29 => ?_)
        · have w30 := zu_w32_id (z := x4 + 1) (by omega) (by omega)
          have hM : (4 - (zu_w32 (x4 + 1))) * 1 + (16 - x2) * 5 + 0 < (k : Int) := by omega
          exact ih.2.2 x2 x3 (zu_w32 (x4 + 1)) mh hImh hFmh ⟨by omega, by omega⟩ ⟨by omega, by omega⟩ ⟨by omega, by omega⟩ ⟨by omega, by omega⟩ ⟨by omega, by omega⟩ hRK54mh hM
        · have w31 := zu_w32_id (z := x4 + 1) (by omega) (by omega)
          have hM : (4 - (zu_w32 (x4 + 1))) * 1 + (16 - x2) * 5 + 0 < (k : Int) := by omega
          exact ih.2.2 x2 x4 (zu_w32 (x4 + 1)) mh hImh hFmh ⟨by omega, by omega⟩ ⟨by omega, by omega⟩ ⟨by omega, by omega⟩ ⟨by omega, by omega⟩ ⟨by omega, by omega⟩ hRK54mh hM
set_option maxHeartbeats 4000000 in
theorem zk_243 (n : Nat) {a0 a1 : Int} {m0 : zu_m} (hIm0 : zi_I m0) (hc0 : zcls a0 = 16) (ha1 : 0 ≤ a1 ∧ a1 ≤ 15)  (he0 : 1 ≤ m0 a0 2 ∧ m0 a0 2 ≤ 16)  (hRK54m0 : zR_K54 m0) : zw (zu_call (zt_T n) 243 [(27, a0), (0, a1)] m0) (fun v m => zi_I m ∧ zfr [(56, 0), (59, 1), (59, 2), (59, 3), (59, 4), (59, 5), (59, 6), (59, 7), (69, 0)] m0 m ∧ zR_K54 m ∧ ((-8) ≤ v ∧ v ≤ 3)) := by
  have hFm0 : zfr [(56, 0), (59, 1), (59, 2), (59, 3), (59, 4), (59, 5), (59, 6), (59, 7), (69, 0)] m0 m0 := zfr_rf _ _
  refine zw_eq (zu_call_at (zt_T n) (zm_243 n) (zdp_243 n) _ _ _ _ _ rfl (zr_243_0 n _ _ a0 a1 m0)) ?_
  have hM : (4 - 0) * 1 + 85 < ((90 : Nat) : Int) := by omega
  exact (zl_243 n (m0 := m0) hc0 90).1 0 m0 hIm0 hFm0 ⟨by omega, by omega⟩ ⟨by omega, by omega⟩ ⟨by omega, by omega⟩ hRK54m0 hM
set_option maxHeartbeats 4000000 in
theorem zk_265 (n : Nat) {a0 : Int} {m0 : zu_m} (hIm0 : zi_I m0) (hc0 : zcls a0 = 3)   (he0 : 1 ≤ m0 45 5 ∧ m0 45 5 ≤ 3)   : zw (zu_call (zt_T n) 265 [(7, a0)] m0) (fun v m => zi_I m ∧ zfr [(3, 6), (3, 7), (3, 8), (3, 9), (3, 10), (3, 11), (9, 4), (9, 5), (9, 6), (9, 7), (32, 0)] m0 m ∧ (0 ≤ v ∧ v ≤ 1)) := by
  have hFm0 : zfr [(3, 6), (3, 7), (3, 8), (3, 9), (3, 10), (3, 11), (9, 4), (9, 5), (9, 6), (9, 7), (32, 0)] m0 m0 := zfr_rf _ _
  refine zw_eq (zu_call_at (zt_T n) (zm_265 n) (zdp_265 n) _ _ _ _ _ rfl (zr_265_0 n _ _ a0 m0)) ?_
  have r1 : 0 ≤ (m0 a0 5) ∧ (m0 a0 5) ≤ 16 := zi_rd hIm0 hc0 zb_3_5
  refine zw_ite (fun h2 => ?_) (fun h2 => ?_)
  · refine zw_bd (zw_eq (zu_call_at (zt_T n) (zm_262 n) (zdp_262 n) _ _ _ _ _ rfl (zr_262_0 n _ _ a0 m0)) ?_)
    refine zw_b (by omega) ?_
    generalize hmm3 : zu_up m0 a0 6 1 = m3
    have hIm3 := zi_up hmm3 hIm0 hc0 zb_3_6 (by omega) (by omega)
    have hFm3 := zfr_up hmm3 hFm0 hc0 rfl
    have r4 : 1 ≤ (m3 6 0) ∧ (m3 6 0) ≤ 8 := zi_rd hIm3 zq_6 zb_4_0
    have w5 := zu_w32_id (z := (m3 6 0) - 1) (by omega) (by omega)
    refine zw_bd (zw_eq (zu_call_at (zt_T n) (zm_260 n) (zdp_260 n) _ _ _ _ _ rfl (zr_260_0 n _ _ a0 0 (zu_w32 ((m3 6 0) - 1)) m3)) ?_)
    refine zw_bd (zw_mono (zk_18 n hIm3 zq_45) (fun v7 m6 hqm6 => ?_))
    obtain ⟨hIm6, hfm6, hvm6⟩ := hqm6
    have hFm6 := zfr_tr hFm3 hfm6 rfl
    obtain ⟨hRTVm6, hvm6⟩ := hvm6
    have s8 := hRTVm6 45 zq_45
    have r9 : 0 ≤ (m6 45 4) ∧ (m6 45 4) ≤ 5 := zi_rd hIm6 zq_45 zb_9_4
    refine zw_ite (fun h10 => ?_) (fun h10 => ?_)
    · have r11 : (-2147483648) ≤ (m6 45 5) ∧ (m6 45 5) ≤ 2147483647 := zi_rd hIm6 zq_45 zb_9_5
      generalize hmm12 : zu_up m6 a0 7 (m6 45 5) = m12
      have hIm12 := zi_up hmm12 hIm6 hc0 zb_3_7 (by omega) (by omega)
      have hFm12 := zfr_up hmm12 hFm6 hc0 rfl
      have hRTVm12 := zR_TV_fr (zdis_fr (zfr_up hmm12 (zfr_rf [(3, 8)] _) hc0 rfl) rfl) hRTVm6
      have r13 : (-2147483648) ≤ (m12 a0 7) ∧ (m12 a0 7) ≤ 2147483647 := zi_rd hIm12 hc0 zb_3_7
      have e14 : (m12 a0 7) = (m6 45 5) := (zs_eq hmm12)
      refine zw_ite (fun h15 => ?_) (fun h15 => ?_)
      · refine zw_bd (zw_eq (zu_call_at (zt_T n) (zm_257 n) (zdp_257 n) _ _ _ _ _ rfl (zr_257_0 n _ _ a0 2 m12)) ?_)
        generalize hmm16 : zu_up m12 a0 9 2 = m16
        have hIm16 := zi_up hmm16 hIm12 hc0 zb_3_9 (by omega) (by omega)
        have hFm16 := zfr_up hmm16 hFm12 hc0 rfl
        have hRTVm16 := zR_TV_fr (zdis_fr (zfr_up hmm16 (zfr_rf [(3, 10)] _) hc0 rfl) rfl) hRTVm12
        have r17 : 0 ≤ (m16 45 6) ∧ (m16 45 6) ≤ 700 := zi_rd hIm16 zq_45 zb_9_6
        generalize hmm18 : zu_up m16 a0 10 (m16 45 6) = m18
        have hIm18 := zi_up hmm18 hIm16 hc0 zb_3_10 (by omega) (by omega)
        have hFm18 := zfr_up hmm18 hFm16 hc0 rfl
        have hRTVm18 := zR_TV_fr (zdis_fr (zfr_up hmm18 (zfr_rf [(3, 11)] _) hc0 rfl) rfl) hRTVm16
        refine zw_b (by omega) ?_
        refine zw_some ?_
        refine zw_ite (fun h19 => ?_) (fun h19 => ?_)
        · refine zw_b (by omega) ?_
          refine zw_some ?_
          refine zw_ite (fun h20 => ?_) (fun h20 => ?_)
          · exfalso; omega
          · refine zw_b (by omega) ?_
            refine zw_some ?_
            refine zw_ite (fun h21 => ?_) (fun h21 => ?_)
            · exfalso; omega
            · refine zw_b (by omega) ?_
              exact zw_some ⟨hIm18, hFm18, ⟨by omega, by omega⟩⟩
        · exfalso; omega
      · refine zw_ite (fun h22 => ?_) (fun h22 => ?_)
        · refine zw_b (by omega) ?_
          refine zw_some ?_
          refine zw_ite (fun h23 => ?_) (fun h23 => ?_)
          · have r24 : 1 ≤ (m12 6 1) ∧ (m12 6 1) ≤ 6 := zi_rd hIm12 zq_6 zb_4_1
            have w25 := zu_w32_id (z := (m12 6 1) - 1) (by omega) (by omega)
            refine zw_bd (zw_eq (zu_call_at (zt_T n) (zm_260 n) (zdp_260 n) _ _ _ _ _ rfl (zr_260_0 n _ _ a0 0 (zu_w32 ((m12 6 1) - 1)) m12)) ?_)
            refine zw_bd (zw_mono (zk_18 n hIm12 zq_45) (fun v27 m26 hqm26 => ?_))
            obtain ⟨hIm26, hfm26, hvm26⟩ := hqm26
            have hFm26 := zfr_tr hFm12 hfm26 rfl
            obtain ⟨hRTVm26, hvm26⟩ := hvm26
            have s28 := hRTVm26 45 zq_45
            have r29 : 0 ≤ (m26 45 4) ∧ (m26 45 4) ≤ 5 := zi_rd hIm26 zq_45 zb_9_4
            refine zw_ite (fun h30 => ?_) (fun h30 => ?_)
            · have r31 : (-2147483648) ≤ (m26 45 5) ∧ (m26 45 5) ≤ 2147483647 := zi_rd hIm26 zq_45 zb_9_5
              generalize hmm32 : zu_up m26 a0 7 (m26 45 5) = m32
              have hIm32 := zi_up hmm32 hIm26 hc0 zb_3_7 (by omega) (by omega)
              have hFm32 := zfr_up hmm32 hFm26 hc0 rfl
              have hRTVm32 := zR_TV_fr (zdis_fr (zfr_up hmm32 (zfr_rf [(3, 8)] _) hc0 rfl) rfl) hRTVm26
              have r33 : (-2147483648) ≤ (m32 a0 7) ∧ (m32 a0 7) ≤ 2147483647 := zi_rd hIm32 hc0 zb_3_7
              have e34 : (m32 a0 7) = (m26 45 5) := (zs_eq hmm32)
              refine zw_ite (fun h35 => ?_) (fun h35 => ?_)
              · refine zw_bd (zw_eq (zu_call_at (zt_T n) (zm_257 n) (zdp_257 n) _ _ _ _ _ rfl (zr_257_0 n _ _ a0 2 m32)) ?_)
                generalize hmm36 : zu_up m32 a0 9 2 = m36
                have hIm36 := zi_up hmm36 hIm32 hc0 zb_3_9 (by omega) (by omega)
                have hFm36 := zfr_up hmm36 hFm32 hc0 rfl
                have hRTVm36 := zR_TV_fr (zdis_fr (zfr_up hmm36 (zfr_rf [(3, 10)] _) hc0 rfl) rfl) hRTVm32
                have r37 : 0 ≤ (m36 45 6) ∧ (m36 45 6) ≤ 700 := zi_rd hIm36 zq_45 zb_9_6
                generalize hmm38 : zu_up m36 a0 10 (m36 45 6) = m38
                have hIm38 := zi_up hmm38 hIm36 hc0 zb_3_10 (by omega) (by omega)
                have hFm38 := zfr_up hmm38 hFm36 hc0 rfl
                have hRTVm38 := zR_TV_fr (zdis_fr (zfr_up hmm38 (zfr_rf [(3, 11)] _) hc0 rfl) rfl) hRTVm36
                refine zw_b (by omega) ?_
                refine zw_some ?_
                refine zw_ite (fun h39 => ?_) (fun h39 => ?_)
                · refine zw_b (by omega) ?_
                  refine zw_some ?_
                  refine zw_ite (fun h40 => ?_) (fun h40 => ?_)
                  · exfalso; omega
                  · refine zw_b (by omega) ?_
                    refine zw_some ?_
                    refine zw_ite (fun h41 => ?_) (fun h41 => ?_)
                    · exfalso; omega
                    · refine zw_b (by omega) ?_
                      exact zw_some ⟨hIm38, hFm38, ⟨by omega, by omega⟩⟩
                · exfalso; omega
              · refine zw_ite (fun h42 => ?_) (fun h42 => ?_)
                · refine zw_b (by omega) ?_
                  refine zw_some ?_
                  refine zw_ite (fun h43 => ?_) (fun h43 => ?_)
                  · have r44 : 1 ≤ (m32 6 0) ∧ (m32 6 0) ≤ 8 := zi_rd hIm32 zq_6 zb_4_0
                    have e45 : (m32 6 0) = (m3 6 0) := (Eq.trans (zs_ne hmm32 (Or.inl (zc_ne zq_6 hc0 (by decide)))) (Eq.trans (zfr_ap hfm26 zq_6 rfl) (Eq.trans (zs_ne hmm12 (Or.inl (zc_ne zq_6 hc0 (by decide)))) (zfr_ap hfm6 zq_6 rfl))))
                    have p46 := zmul_bd (x := (m32 a0 7)) (y := (m32 6 0)) (a := 0) (b := 1) (A := 5) (B := 8) (by omega) (by omega) (by omega) (by omega) (by omega) (by omega)
                    have w47 := zu_w32_id (z := (m32 a0 7) * (m32 6 0)) (by omega) (by omega)
                    have w48 := zu_w32_id (z := (zu_w32 ((m32 a0 7) * (m32 6 0))) + (m12 a0 7)) (by omega) (by omega)
                    generalize hmm49 : zu_up m32 a0 8 (zu_w32 ((zu_w32 ((m32 a0 7) * (m32 6 0))) + (m12 a0 7))) = m49
                    have hIm49 := zi_up hmm49 hIm32 hc0 zb_3_8 (by omega) (by omega)
                    have hFm49 := zfr_up hmm49 hFm32 hc0 rfl
                    have hRTVm49 := zR_TV_fr (zdis_fr (zfr_up hmm49 (zfr_rf [(3, 9)] _) hc0 rfl) rfl) hRTVm32
                    refine zw_b (by omega) ?_
                    refine zw_some ?_
                    refine zw_ite (fun h50 => ?_) (fun h50 => ?_)
                    · have r51 : 0 ≤ (m49 a0 8) ∧ (m49 a0 8) ≤ 47 := zi_rd hIm49 hc0 zb_3_8
                      have e52 : (m49 a0 8) = (zu_w32 ((zu_w32 ((m32 a0 7) * (m32 6 0))) + (m12 a0 7))) := (zs_eq hmm49)
                      have b53 : 0 ≤ (m49 a0 8) ∧ (m49 a0 8) < 48 := by omega
                      refine zw_if b53 ?_
                      have r54 : 0 ≤ (m49 (6 + 3) (m49 a0 8)) ∧ (m49 (6 + 3) (m49 a0 8)) ≤ 3 := zi_rd hIm49 (zc_4_8 zq_6) (zb_32 _)
                      refine zw_ite (fun h55 => ?_) (fun h55 => ?_)
                      · have b56 : 0 ≤ (m49 a0 8) ∧ (m49 a0 8) < 48 := by omega
                        refine zw_if b56 ?_
                        generalize hmm57 : zu_up m49 (6 + 3) (m49 a0 8) (m0 45 5) = m57
                        have hIm57 := zi_up hmm57 hIm49 (zc_4_8 zq_6) (zb_32 _) (by omega) (by omega)
                        have hFm57 := zfr_up hmm57 hFm49 (zc_4_8 zq_6) rfl
                        have hRTVm57 := zR_TV_fr (zdis_fr (zfr_up hmm57 (zfr_rf [(32, 0)] _) (zc_4_8 zq_6) rfl) rfl) hRTVm49
                        have r58 : 0 ≤ (m57 a0 5) ∧ (m57 a0 5) ≤ 16 := zi_rd hIm57 hc0 zb_3_5
                        have e59 : (m57 a0 5) = (m0 a0 5) := (Eq.trans (zs_ne hmm57 (Or.inl (zc_ne hc0 (zc_4_8 zq_6) (by decide)))) (Eq.trans (zs_ne hmm49 (Or.inr (by decide))) (Eq.trans (zs_ne hmm32 (Or.inr (by decide))) (Eq.trans (zfr_ap hfm26 hc0 rfl) (Eq.trans (zs_ne hmm12 (Or.inr (by decide))) (Eq.trans (zfr_ap hfm6 hc0 rfl) (zs_ne hmm3 (Or.inr (by decide)))))))))
                        have w60 := zu_w32_id (z := (m57 a0 5) + 1) (by omega) (by omega)
                        generalize hmm61 : zu_up m57 a0 5 (zu_w32 ((m57 a0 5) + 1)) = m61
                        have hIm61 := zi_up hmm61 hIm57 hc0 zb_3_5 (by omega) (by omega)
                        have hFm61 := zfr_up hmm61 hFm57 hc0 rfl
                        have hRTVm61 := zR_TV_fr (zdis_fr (zfr_up hmm61 (zfr_rf [(3, 6)] _) hc0 rfl) rfl) hRTVm57
                        refine zw_b (by omega) ?_
                        exact zw_some ⟨hIm61, hFm61, ⟨by omega, by omega⟩⟩
                      · refine zw_bd (zw_eq (zu_call_at (zt_T n) (zm_257 n) (zdp_257 n) _ _ _ _ _ rfl (zr_257_0 n _ _ a0 3 m49)) ?_)
                        generalize hmm62 : zu_up m49 a0 9 3 = m62
                        have hIm62 := zi_up hmm62 hIm49 hc0 zb_3_9 (by omega) (by omega)
                        have hFm62 := zfr_up hmm62 hFm49 hc0 rfl
                        have hRTVm62 := zR_TV_fr (zdis_fr (zfr_up hmm62 (zfr_rf [(3, 10)] _) hc0 rfl) rfl) hRTVm49
                        have r63 : 0 ≤ (m62 45 6) ∧ (m62 45 6) ≤ 700 := zi_rd hIm62 zq_45 zb_9_6
                        generalize hmm64 : zu_up m62 a0 10 (m62 45 6) = m64
                        have hIm64 := zi_up hmm64 hIm62 hc0 zb_3_10 (by omega) (by omega)
                        have hFm64 := zfr_up hmm64 hFm62 hc0 rfl
                        have hRTVm64 := zR_TV_fr (zdis_fr (zfr_up hmm64 (zfr_rf [(3, 11)] _) hc0 rfl) rfl) hRTVm62
                        refine zw_b (by omega) ?_
                        refine zw_some ?_
                        refine zw_b (by omega) ?_
                        exact zw_some ⟨hIm64, hFm64, ⟨by omega, by omega⟩⟩
                    · exfalso; omega
                  · exfalso; omega
                · refine zw_bd (zw_eq (zu_call_at (zt_T n) (zm_257 n) (zdp_257 n) _ _ _ _ _ rfl (zr_257_0 n _ _ a0 2 m32)) ?_)
                  generalize hmm65 : zu_up m32 a0 9 2 = m65
                  have hIm65 := zi_up hmm65 hIm32 hc0 zb_3_9 (by omega) (by omega)
                  have hFm65 := zfr_up hmm65 hFm32 hc0 rfl
                  have hRTVm65 := zR_TV_fr (zdis_fr (zfr_up hmm65 (zfr_rf [(3, 10)] _) hc0 rfl) rfl) hRTVm32
                  have r66 : 0 ≤ (m65 45 6) ∧ (m65 45 6) ≤ 700 := zi_rd hIm65 zq_45 zb_9_6
                  generalize hmm67 : zu_up m65 a0 10 (m65 45 6) = m67
                  have hIm67 := zi_up hmm67 hIm65 hc0 zb_3_10 (by omega) (by omega)
                  have hFm67 := zfr_up hmm67 hFm65 hc0 rfl
                  have hRTVm67 := zR_TV_fr (zdis_fr (zfr_up hmm67 (zfr_rf [(3, 11)] _) hc0 rfl) rfl) hRTVm65
                  refine zw_b (by omega) ?_
                  refine zw_some ?_
                  refine zw_ite (fun h68 => ?_) (fun h68 => ?_)
                  · refine zw_b (by omega) ?_
                    refine zw_some ?_
                    refine zw_ite (fun h69 => ?_) (fun h69 => ?_)
                    · exfalso; omega
                    · refine zw_b (by omega) ?_
                      refine zw_some ?_
                      refine zw_ite (fun h70 => ?_) (fun h70 => ?_)
                      · exfalso; omega
                      · refine zw_b (by omega) ?_
                        exact zw_some ⟨hIm67, hFm67, ⟨by omega, by omega⟩⟩
                  · exfalso; omega
            · refine zw_bd (zw_eq (zu_call_at (zt_T n) (zm_257 n) (zdp_257 n) _ _ _ _ _ rfl (zr_257_0 n _ _ a0 1 m26)) ?_)
              generalize hmm71 : zu_up m26 a0 9 1 = m71
              have hIm71 := zi_up hmm71 hIm26 hc0 zb_3_9 (by omega) (by omega)
              have hFm71 := zfr_up hmm71 hFm26 hc0 rfl
              have hRTVm71 := zR_TV_fr (zdis_fr (zfr_up hmm71 (zfr_rf [(3, 10)] _) hc0 rfl) rfl) hRTVm26
              have r72 : 0 ≤ (m71 45 6) ∧ (m71 45 6) ≤ 700 := zi_rd hIm71 zq_45 zb_9_6
              generalize hmm73 : zu_up m71 a0 10 (m71 45 6) = m73
              have hIm73 := zi_up hmm73 hIm71 hc0 zb_3_10 (by omega) (by omega)
              have hFm73 := zfr_up hmm73 hFm71 hc0 rfl
              have hRTVm73 := zR_TV_fr (zdis_fr (zfr_up hmm73 (zfr_rf [(3, 11)] _) hc0 rfl) rfl) hRTVm71
              refine zw_b (by omega) ?_
              refine zw_some ?_
              refine zw_b (by omega) ?_
              refine zw_some ?_
              refine zw_ite (fun h74 => ?_) (fun h74 => ?_)
              · exfalso; omega
              · refine zw_b (by omega) ?_
                refine zw_some ?_
                refine zw_ite (fun h75 => ?_) (fun h75 => ?_)
                · exfalso; omega
                · refine zw_b (by omega) ?_
                  exact zw_some ⟨hIm73, hFm73, ⟨by omega, by omega⟩⟩
          · exfalso; omega
        · refine zw_bd (zw_eq (zu_call_at (zt_T n) (zm_257 n) (zdp_257 n) _ _ _ _ _ rfl (zr_257_0 n _ _ a0 2 m12)) ?_)
          generalize hmm76 : zu_up m12 a0 9 2 = m76
          have hIm76 := zi_up hmm76 hIm12 hc0 zb_3_9 (by omega) (by omega)
          have hFm76 := zfr_up hmm76 hFm12 hc0 rfl
          have hRTVm76 := zR_TV_fr (zdis_fr (zfr_up hmm76 (zfr_rf [(3, 10)] _) hc0 rfl) rfl) hRTVm12
          have r77 : 0 ≤ (m76 45 6) ∧ (m76 45 6) ≤ 700 := zi_rd hIm76 zq_45 zb_9_6
          generalize hmm78 : zu_up m76 a0 10 (m76 45 6) = m78
          have hIm78 := zi_up hmm78 hIm76 hc0 zb_3_10 (by omega) (by omega)
          have hFm78 := zfr_up hmm78 hFm76 hc0 rfl
          have hRTVm78 := zR_TV_fr (zdis_fr (zfr_up hmm78 (zfr_rf [(3, 11)] _) hc0 rfl) rfl) hRTVm76
          refine zw_b (by omega) ?_
          refine zw_some ?_
          refine zw_ite (fun h79 => ?_) (fun h79 => ?_)
          · refine zw_b (by omega) ?_
            refine zw_some ?_
            refine zw_ite (fun h80 => ?_) (fun h80 => ?_)
            · exfalso; omega
            · refine zw_b (by omega) ?_
              refine zw_some ?_
              refine zw_ite (fun h81 => ?_) (fun h81 => ?_)
              · exfalso; omega
              · refine zw_b (by omega) ?_
                exact zw_some ⟨hIm78, hFm78, ⟨by omega, by omega⟩⟩
          · exfalso; omega
    · refine zw_bd (zw_eq (zu_call_at (zt_T n) (zm_257 n) (zdp_257 n) _ _ _ _ _ rfl (zr_257_0 n _ _ a0 1 m6)) ?_)
      generalize hmm82 : zu_up m6 a0 9 1 = m82
      have hIm82 := zi_up hmm82 hIm6 hc0 zb_3_9 (by omega) (by omega)
      have hFm82 := zfr_up hmm82 hFm6 hc0 rfl
      have hRTVm82 := zR_TV_fr (zdis_fr (zfr_up hmm82 (zfr_rf [(3, 10)] _) hc0 rfl) rfl) hRTVm6
      have r83 : 0 ≤ (m82 45 6) ∧ (m82 45 6) ≤ 700 := zi_rd hIm82 zq_45 zb_9_6
      generalize hmm84 : zu_up m82 a0 10 (m82 45 6) = m84
      have hIm84 := zi_up hmm84 hIm82 hc0 zb_3_10 (by omega) (by omega)
      have hFm84 := zfr_up hmm84 hFm82 hc0 rfl
      have hRTVm84 := zR_TV_fr (zdis_fr (zfr_up hmm84 (zfr_rf [(3, 11)] _) hc0 rfl) rfl) hRTVm82
      refine zw_b (by omega) ?_
      refine zw_some ?_
      refine zw_b (by omega) ?_
      refine zw_some ?_
      refine zw_ite (fun h85 => ?_) (fun h85 => ?_)
      · exfalso; omega
      · refine zw_b (by omega) ?_
        refine zw_some ?_
        refine zw_ite (fun h86 => ?_) (fun h86 => ?_)
        · exfalso; omega
        · refine zw_b (by omega) ?_
          exact zw_some ⟨hIm84, hFm84, ⟨by omega, by omega⟩⟩
  · refine zw_bd (zw_eq (zu_call_at (zt_T n) (zm_257 n) (zdp_257 n) _ _ _ _ _ rfl (zr_257_0 n _ _ a0 2 m0)) ?_)
    generalize hmm87 : zu_up m0 a0 9 2 = m87
    have hIm87 := zi_up hmm87 hIm0 hc0 zb_3_9 (by omega) (by omega)
    have hFm87 := zfr_up hmm87 hFm0 hc0 rfl
    have r88 : 0 ≤ (m87 45 6) ∧ (m87 45 6) ≤ 700 := zi_rd hIm87 zq_45 zb_9_6
    generalize hmm89 : zu_up m87 a0 10 (m87 45 6) = m89
    have hIm89 := zi_up hmm89 hIm87 hc0 zb_3_10 (by omega) (by omega)
    have hFm89 := zfr_up hmm89 hFm87 hc0 rfl
    refine zw_b (by omega) ?_
    refine zw_some ?_
    refine zw_b (by omega) ?_
    exact zw_some ⟨hIm89, hFm89, ⟨by omega, by omega⟩⟩
set_option maxHeartbeats 4000000 in
theorem zk_266 (n : Nat) {a0 : Int} {m0 : zu_m} (hIm0 : zi_I m0) (hc0 : zcls a0 = 3)   (he0 : 1 ≤ m0 45 4 ∧ m0 45 4 ≤ 1) (he1 : 4 ≤ m0 45 5 ∧ m0 45 5 ≤ 4)   : zw (zu_call (zt_T n) 266 [(7, a0)] m0) (fun v m => zi_I m ∧ zfr [(3, 7), (3, 8), (3, 9), (3, 10), (3, 11), (6, 3), (7, 1), (7, 2), (7, 3), (7, 4), (9, 4), (9, 5), (9, 6), (9, 7)] m0 m ∧ (0 ≤ v ∧ v ≤ 1)) := by
  have hFm0 : zfr [(3, 7), (3, 8), (3, 9), (3, 10), (3, 11), (6, 3), (7, 1), (7, 2), (7, 3), (7, 4), (9, 4), (9, 5), (9, 6), (9, 7)] m0 m0 := zfr_rf _ _
  refine zw_eq (zu_call_at (zt_T n) (zm_266 n) (zdp_266 n) _ _ _ _ _ rfl (zr_266_0 n _ _ a0 m0)) ?_
  have r1 : 0 ≤ (m0 19 2) ∧ (m0 19 2) ≤ 16 := zi_rd hIm0 zq_19 zb_6_2
  refine zw_ite (fun h2 => ?_) (fun h2 => ?_)
  · refine zw_bd (zw_eq (zu_call_at (zt_T n) (zm_261 n) (zdp_261 n) _ _ _ _ _ rfl (zr_261_0 n _ _ a0 12 4 m0)) ?_)
    refine zw_bd (zw_mono (zk_18 n hIm0 zq_45) (fun v4 m3 hqm3 => ?_))
    obtain ⟨hIm3, hfm3, hvm3⟩ := hqm3
    have hFm3 := zfr_tr hFm0 hfm3 rfl
    obtain ⟨hRTVm3, hvm3⟩ := hvm3
    have s5 := hRTVm3 45 zq_45
    refine zw_bd (zw_eq (zu_call_at (zt_T n) (zm_279 n) (zdp_279 n) _ _ _ _ _ rfl (zr_279_0 n _ _ 45 12 4 m3)) ?_)
    have r6 : 0 ≤ (m3 45 4) ∧ (m3 45 4) ≤ 5 := zi_rd hIm3 zq_45 zb_9_4
    refine zw_ite (fun h7 => ?_) (fun h7 => ?_)
    · refine zw_b (by omega) ?_
      refine zw_some ?_
      refine zw_ite (fun h8 => ?_) (fun h8 => ?_)
      · exfalso; omega
      · refine zw_bd (zw_eq (zu_call_at (zt_T n) (zm_257 n) (zdp_257 n) _ _ _ _ _ rfl (zr_257_0 n _ _ a0 1 m3)) ?_)
        generalize hmm9 : zu_up m3 a0 9 1 = m9
        have hIm9 := zi_up hmm9 hIm3 hc0 zb_3_9 (by omega) (by omega)
        have hFm9 := zfr_up hmm9 hFm3 hc0 rfl
        have hRTVm9 := zR_TV_fr (zdis_fr (zfr_up hmm9 (zfr_rf [(3, 10)] _) hc0 rfl) rfl) hRTVm3
        have r10 : 0 ≤ (m9 45 6) ∧ (m9 45 6) ≤ 700 := zi_rd hIm9 zq_45 zb_9_6
        generalize hmm11 : zu_up m9 a0 10 (m9 45 6) = m11
        have hIm11 := zi_up hmm11 hIm9 hc0 zb_3_10 (by omega) (by omega)
        have hFm11 := zfr_up hmm11 hFm9 hc0 rfl
        have hRTVm11 := zR_TV_fr (zdis_fr (zfr_up hmm11 (zfr_rf [(3, 11)] _) hc0 rfl) rfl) hRTVm9
        refine zw_b (by omega) ?_
        refine zw_some ?_
        refine zw_b (by omega) ?_
        refine zw_some ?_
        refine zw_ite (fun h12 => ?_) (fun h12 => ?_)
        · exfalso; omega
        · refine zw_b (by omega) ?_
          exact zw_some ⟨hIm11, hFm11, ⟨by omega, by omega⟩⟩
    · have r13 : (-2147483648) ≤ (m3 45 5) ∧ (m3 45 5) ≤ 2147483647 := zi_rd hIm3 zq_45 zb_9_5
      refine zw_ite (fun h14 => ?_) (fun h14 => ?_)
      · refine zw_b (by omega) ?_
        refine zw_some ?_
        refine zw_ite (fun h15 => ?_) (fun h15 => ?_)
        · exfalso; omega
        · refine zw_bd (zw_eq (zu_call_at (zt_T n) (zm_257 n) (zdp_257 n) _ _ _ _ _ rfl (zr_257_0 n _ _ a0 1 m3)) ?_)
          generalize hmm16 : zu_up m3 a0 9 1 = m16
          have hIm16 := zi_up hmm16 hIm3 hc0 zb_3_9 (by omega) (by omega)
          have hFm16 := zfr_up hmm16 hFm3 hc0 rfl
          have hRTVm16 := zR_TV_fr (zdis_fr (zfr_up hmm16 (zfr_rf [(3, 10)] _) hc0 rfl) rfl) hRTVm3
          have r17 : 0 ≤ (m16 45 6) ∧ (m16 45 6) ≤ 700 := zi_rd hIm16 zq_45 zb_9_6
          generalize hmm18 : zu_up m16 a0 10 (m16 45 6) = m18
          have hIm18 := zi_up hmm18 hIm16 hc0 zb_3_10 (by omega) (by omega)
          have hFm18 := zfr_up hmm18 hFm16 hc0 rfl
          have hRTVm18 := zR_TV_fr (zdis_fr (zfr_up hmm18 (zfr_rf [(3, 11)] _) hc0 rfl) rfl) hRTVm16
          refine zw_b (by omega) ?_
          refine zw_some ?_
          refine zw_b (by omega) ?_
          refine zw_some ?_
          refine zw_ite (fun h19 => ?_) (fun h19 => ?_)
          · exfalso; omega
          · refine zw_b (by omega) ?_
            exact zw_some ⟨hIm18, hFm18, ⟨by omega, by omega⟩⟩
      · have w20 := zu_w32_id (z := 12 + 4) (by omega) (by omega)
        refine zw_ite (fun h21 => ?_) (fun h21 => ?_)
        · refine zw_b (by omega) ?_
          refine zw_some ?_
          refine zw_ite (fun h22 => ?_) (fun h22 => ?_)
          · exfalso; omega
          · refine zw_bd (zw_eq (zu_call_at (zt_T n) (zm_257 n) (zdp_257 n) _ _ _ _ _ rfl (zr_257_0 n _ _ a0 1 m3)) ?_)
            generalize hmm23 : zu_up m3 a0 9 1 = m23
            have hIm23 := zi_up hmm23 hIm3 hc0 zb_3_9 (by omega) (by omega)
            have hFm23 := zfr_up hmm23 hFm3 hc0 rfl
            have hRTVm23 := zR_TV_fr (zdis_fr (zfr_up hmm23 (zfr_rf [(3, 10)] _) hc0 rfl) rfl) hRTVm3
            have r24 : 0 ≤ (m23 45 6) ∧ (m23 45 6) ≤ 700 := zi_rd hIm23 zq_45 zb_9_6
            generalize hmm25 : zu_up m23 a0 10 (m23 45 6) = m25
            have hIm25 := zi_up hmm25 hIm23 hc0 zb_3_10 (by omega) (by omega)
            have hFm25 := zfr_up hmm25 hFm23 hc0 rfl
            have hRTVm25 := zR_TV_fr (zdis_fr (zfr_up hmm25 (zfr_rf [(3, 11)] _) hc0 rfl) rfl) hRTVm23
            refine zw_b (by omega) ?_
            refine zw_some ?_
            refine zw_b (by omega) ?_
            refine zw_some ?_
            refine zw_ite (fun h26 => ?_) (fun h26 => ?_)
            · exfalso; omega
            · refine zw_b (by omega) ?_
              exact zw_some ⟨hIm25, hFm25, ⟨by omega, by omega⟩⟩
        · refine zw_b (by omega) ?_
          refine zw_some ?_
          refine zw_ite (fun h27 => ?_) (fun h27 => ?_)
          · have w28 := zu_w32_id (z := (m3 45 5) - 12) (by omega) (by omega)
            generalize hmm29 : zu_up m3 a0 7 (zu_w32 ((m3 45 5) - 12)) = m29
            have hIm29 := zi_up hmm29 hIm3 hc0 zb_3_7 (by omega) (by omega)
            have hFm29 := zfr_up hmm29 hFm3 hc0 rfl
            have hRTVm29 := zR_TV_fr (zdis_fr (zfr_up hmm29 (zfr_rf [(3, 8)] _) hc0 rfl) rfl) hRTVm3
            refine zw_b (by omega) ?_
            refine zw_some ?_
            refine zw_ite (fun h30 => ?_) (fun h30 => ?_)
            · have r31 : (-2147483648) ≤ (m29 a0 7) ∧ (m29 a0 7) ≤ 2147483647 := zi_rd hIm29 hc0 zb_3_7
              have e32 : (m29 a0 7) = (zu_w32 ((m3 45 5) - 12)) := (zs_eq hmm29)
              refine zw_bd (zw_eq (zu_call_at (zt_T n) (zm_262 n) (zdp_262 n) _ _ _ _ _ rfl (zr_262_0 n _ _ a0 m29)) ?_)
              refine zw_b (by omega) ?_
              generalize hmm33 : zu_up m29 a0 6 1 = m33
              have hIm33 := zi_up hmm33 hIm29 hc0 zb_3_6 (by omega) (by omega)
              have hFm33 := zfr_up hmm33 hFm29 hc0 rfl
              have hRTVm33 := zR_TV_fr (zdis_fr (zfr_up hmm33 (zfr_rf [(3, 7)] _) hc0 rfl) rfl) hRTVm29
              have r34 : 1 ≤ (m33 6 0) ∧ (m33 6 0) ≤ 8 := zi_rd hIm33 zq_6 zb_4_0
              have w35 := zu_w32_id (z := (m33 6 0) - 1) (by omega) (by omega)
              refine zw_bd (zw_eq (zu_call_at (zt_T n) (zm_260 n) (zdp_260 n) _ _ _ _ _ rfl (zr_260_0 n _ _ a0 0 (zu_w32 ((m33 6 0) - 1)) m33)) ?_)
              refine zw_bd (zw_mono (zk_18 n hIm33 zq_45) (fun v37 m36 hqm36 => ?_))
              obtain ⟨hIm36, hfm36, hvm36⟩ := hqm36
              have hFm36 := zfr_tr hFm33 hfm36 rfl
              obtain ⟨hRTVm36, hvm36⟩ := hvm36
              have s38 := hRTVm36 45 zq_45
              have r39 : 0 ≤ (m36 45 4) ∧ (m36 45 4) ≤ 5 := zi_rd hIm36 zq_45 zb_9_4
              refine zw_ite (fun h40 => ?_) (fun h40 => ?_)
              · have r41 : (-2147483648) ≤ (m36 45 5) ∧ (m36 45 5) ≤ 2147483647 := zi_rd hIm36 zq_45 zb_9_5
                generalize hmm42 : zu_up m36 a0 7 (m36 45 5) = m42
                have hIm42 := zi_up hmm42 hIm36 hc0 zb_3_7 (by omega) (by omega)
                have hFm42 := zfr_up hmm42 hFm36 hc0 rfl
                have hRTVm42 := zR_TV_fr (zdis_fr (zfr_up hmm42 (zfr_rf [(3, 8)] _) hc0 rfl) rfl) hRTVm36
                have r43 : (-2147483648) ≤ (m42 a0 7) ∧ (m42 a0 7) ≤ 2147483647 := zi_rd hIm42 hc0 zb_3_7
                have e44 : (m42 a0 7) = (m36 45 5) := (zs_eq hmm42)
                refine zw_ite (fun h45 => ?_) (fun h45 => ?_)
                · refine zw_bd (zw_eq (zu_call_at (zt_T n) (zm_257 n) (zdp_257 n) _ _ _ _ _ rfl (zr_257_0 n _ _ a0 2 m42)) ?_)
                  generalize hmm46 : zu_up m42 a0 9 2 = m46
                  have hIm46 := zi_up hmm46 hIm42 hc0 zb_3_9 (by omega) (by omega)
                  have hFm46 := zfr_up hmm46 hFm42 hc0 rfl
                  have hRTVm46 := zR_TV_fr (zdis_fr (zfr_up hmm46 (zfr_rf [(3, 10)] _) hc0 rfl) rfl) hRTVm42
                  have r47 : 0 ≤ (m46 45 6) ∧ (m46 45 6) ≤ 700 := zi_rd hIm46 zq_45 zb_9_6
                  generalize hmm48 : zu_up m46 a0 10 (m46 45 6) = m48
                  have hIm48 := zi_up hmm48 hIm46 hc0 zb_3_10 (by omega) (by omega)
                  have hFm48 := zfr_up hmm48 hFm46 hc0 rfl
                  have hRTVm48 := zR_TV_fr (zdis_fr (zfr_up hmm48 (zfr_rf [(3, 11)] _) hc0 rfl) rfl) hRTVm46
                  refine zw_b (by omega) ?_
                  refine zw_some ?_
                  refine zw_ite (fun h49 => ?_) (fun h49 => ?_)
                  · refine zw_b (by omega) ?_
                    refine zw_some ?_
                    refine zw_ite (fun h50 => ?_) (fun h50 => ?_)
                    · exfalso; omega
                    · refine zw_b (by omega) ?_
                      refine zw_some ?_
                      refine zw_ite (fun h51 => ?_) (fun h51 => ?_)
                      · refine zw_b (by omega) ?_
                        exact zw_some ⟨hIm48, hFm48, ⟨by omega, by omega⟩⟩
                      · exfalso; omega
                  · exfalso; omega
                · refine zw_ite (fun h52 => ?_) (fun h52 => ?_)
                  · refine zw_b (by omega) ?_
                    refine zw_some ?_
                    refine zw_ite (fun h53 => ?_) (fun h53 => ?_)
                    · have r54 : 1 ≤ (m42 6 1) ∧ (m42 6 1) ≤ 6 := zi_rd hIm42 zq_6 zb_4_1
                      have w55 := zu_w32_id (z := (m42 6 1) - 1) (by omega) (by omega)
                      refine zw_bd (zw_eq (zu_call_at (zt_T n) (zm_260 n) (zdp_260 n) _ _ _ _ _ rfl (zr_260_0 n _ _ a0 0 (zu_w32 ((m42 6 1) - 1)) m42)) ?_)
                      refine zw_bd (zw_mono (zk_18 n hIm42 zq_45) (fun v57 m56 hqm56 => ?_))
                      obtain ⟨hIm56, hfm56, hvm56⟩ := hqm56
                      have hFm56 := zfr_tr hFm42 hfm56 rfl
                      obtain ⟨hRTVm56, hvm56⟩ := hvm56
                      have s58 := hRTVm56 45 zq_45
                      have r59 : 0 ≤ (m56 45 4) ∧ (m56 45 4) ≤ 5 := zi_rd hIm56 zq_45 zb_9_4
                      refine zw_ite (fun h60 => ?_) (fun h60 => ?_)
                      · have r61 : (-2147483648) ≤ (m56 45 5) ∧ (m56 45 5) ≤ 2147483647 := zi_rd hIm56 zq_45 zb_9_5
                        generalize hmm62 : zu_up m56 a0 7 (m56 45 5) = m62
                        have hIm62 := zi_up hmm62 hIm56 hc0 zb_3_7 (by omega) (by omega)
                        have hFm62 := zfr_up hmm62 hFm56 hc0 rfl
                        have hRTVm62 := zR_TV_fr (zdis_fr (zfr_up hmm62 (zfr_rf [(3, 8)] _) hc0 rfl) rfl) hRTVm56
                        have r63 : (-2147483648) ≤ (m62 a0 7) ∧ (m62 a0 7) ≤ 2147483647 := zi_rd hIm62 hc0 zb_3_7
                        have e64 : (m62 a0 7) = (m56 45 5) := (zs_eq hmm62)
                        refine zw_ite (fun h65 => ?_) (fun h65 => ?_)
                        · refine zw_bd (zw_eq (zu_call_at (zt_T n) (zm_257 n) (zdp_257 n) _ _ _ _ _ rfl (zr_257_0 n _ _ a0 2 m62)) ?_)
                          generalize hmm66 : zu_up m62 a0 9 2 = m66
                          have hIm66 := zi_up hmm66 hIm62 hc0 zb_3_9 (by omega) (by omega)
                          have hFm66 := zfr_up hmm66 hFm62 hc0 rfl
                          have hRTVm66 := zR_TV_fr (zdis_fr (zfr_up hmm66 (zfr_rf [(3, 10)] _) hc0 rfl) rfl) hRTVm62
                          have r67 : 0 ≤ (m66 45 6) ∧ (m66 45 6) ≤ 700 := zi_rd hIm66 zq_45 zb_9_6
                          generalize hmm68 : zu_up m66 a0 10 (m66 45 6) = m68
                          have hIm68 := zi_up hmm68 hIm66 hc0 zb_3_10 (by omega) (by omega)
                          have hFm68 := zfr_up hmm68 hFm66 hc0 rfl
                          have hRTVm68 := zR_TV_fr (zdis_fr (zfr_up hmm68 (zfr_rf [(3, 11)] _) hc0 rfl) rfl) hRTVm66
                          refine zw_b (by omega) ?_
                          refine zw_some ?_
                          refine zw_ite (fun h69 => ?_) (fun h69 => ?_)
                          · refine zw_b (by omega) ?_
                            refine zw_some ?_
                            refine zw_ite (fun h70 => ?_) (fun h70 => ?_)
                            · exfalso; omega
                            · refine zw_b (by omega) ?_
                              refine zw_some ?_
                              refine zw_ite (fun h71 => ?_) (fun h71 => ?_)
                              · refine zw_b (by omega) ?_
                                exact zw_some ⟨hIm68, hFm68, ⟨by omega, by omega⟩⟩
                              · exfalso; omega
                          · exfalso; omega
                        · refine zw_ite (fun h72 => ?_) (fun h72 => ?_)
                          · refine zw_b (by omega) ?_
                            refine zw_some ?_
                            refine zw_ite (fun h73 => ?_) (fun h73 => ?_)
                            · have r74 : 1 ≤ (m62 6 0) ∧ (m62 6 0) ≤ 8 := zi_rd hIm62 zq_6 zb_4_0
                              have e75 : (m62 6 0) = (m33 6 0) := (Eq.trans (zs_ne hmm62 (Or.inl (zc_ne zq_6 hc0 (by decide)))) (Eq.trans (zfr_ap hfm56 zq_6 rfl) (Eq.trans (zs_ne hmm42 (Or.inl (zc_ne zq_6 hc0 (by decide)))) (zfr_ap hfm36 zq_6 rfl))))
                              have p76 := zmul_bd (x := (m62 a0 7)) (y := (m62 6 0)) (a := 0) (b := 1) (A := 5) (B := 8) (by omega) (by omega) (by omega) (by omega) (by omega) (by omega)
                              have w77 := zu_w32_id (z := (m62 a0 7) * (m62 6 0)) (by omega) (by omega)
                              have w78 := zu_w32_id (z := (zu_w32 ((m62 a0 7) * (m62 6 0))) + (m42 a0 7)) (by omega) (by omega)
                              generalize hmm79 : zu_up m62 a0 8 (zu_w32 ((zu_w32 ((m62 a0 7) * (m62 6 0))) + (m42 a0 7))) = m79
                              have hIm79 := zi_up hmm79 hIm62 hc0 zb_3_8 (by omega) (by omega)
                              have hFm79 := zfr_up hmm79 hFm62 hc0 rfl
                              have hRTVm79 := zR_TV_fr (zdis_fr (zfr_up hmm79 (zfr_rf [(3, 9)] _) hc0 rfl) rfl) hRTVm62
                              refine zw_b (by omega) ?_
                              refine zw_some ?_
                              refine zw_ite (fun h80 => ?_) (fun h80 => ?_)
                              · exfalso; omega
                              · refine zw_bd (zw_eq (zu_call_at (zt_T n) (zm_260 n) (zdp_260 n) _ _ _ _ _ rfl (zr_260_0 n _ _ a0 0 9 m79)) ?_)
                                refine zw_bd (zw_mono (zk_18 n hIm79 zq_45) (fun v82 m81 hqm81 => ?_))
                                obtain ⟨hIm81, hfm81, hvm81⟩ := hqm81
                                have hFm81 := zfr_tr hFm79 hfm81 rfl
                                obtain ⟨hRTVm81, hvm81⟩ := hvm81
                                have s83 := hRTVm81 45 zq_45
                                have r84 : 0 ≤ (m81 45 4) ∧ (m81 45 4) ≤ 5 := zi_rd hIm81 zq_45 zb_9_4
                                refine zw_ite (fun h85 => ?_) (fun h85 => ?_)
                                · have r86 : (-2147483648) ≤ (m81 45 5) ∧ (m81 45 5) ≤ 2147483647 := zi_rd hIm81 zq_45 zb_9_5
                                  generalize hmm87 : zu_up m81 a0 7 (m81 45 5) = m87
                                  have hIm87 := zi_up hmm87 hIm81 hc0 zb_3_7 (by omega) (by omega)
                                  have hFm87 := zfr_up hmm87 hFm81 hc0 rfl
                                  have hRTVm87 := zR_TV_fr (zdis_fr (zfr_up hmm87 (zfr_rf [(3, 8)] _) hc0 rfl) rfl) hRTVm81
                                  have r88 : (-2147483648) ≤ (m87 a0 7) ∧ (m87 a0 7) ≤ 2147483647 := zi_rd hIm87 hc0 zb_3_7
                                  have e89 : (m87 a0 7) = (m81 45 5) := (zs_eq hmm87)
                                  refine zw_ite (fun h90 => ?_) (fun h90 => ?_)
                                  · refine zw_bd (zw_eq (zu_call_at (zt_T n) (zm_257 n) (zdp_257 n) _ _ _ _ _ rfl (zr_257_0 n _ _ a0 2 m87)) ?_)
                                    generalize hmm91 : zu_up m87 a0 9 2 = m91
                                    have hIm91 := zi_up hmm91 hIm87 hc0 zb_3_9 (by omega) (by omega)
                                    have hFm91 := zfr_up hmm91 hFm87 hc0 rfl
                                    have hRTVm91 := zR_TV_fr (zdis_fr (zfr_up hmm91 (zfr_rf [(3, 10)] _) hc0 rfl) rfl) hRTVm87
                                    have r92 : 0 ≤ (m91 45 6) ∧ (m91 45 6) ≤ 700 := zi_rd hIm91 zq_45 zb_9_6
                                    generalize hmm93 : zu_up m91 a0 10 (m91 45 6) = m93
                                    have hIm93 := zi_up hmm93 hIm91 hc0 zb_3_10 (by omega) (by omega)
                                    have hFm93 := zfr_up hmm93 hFm91 hc0 rfl
                                    have hRTVm93 := zR_TV_fr (zdis_fr (zfr_up hmm93 (zfr_rf [(3, 11)] _) hc0 rfl) rfl) hRTVm91
                                    refine zw_b (by omega) ?_
                                    refine zw_some ?_
                                    refine zw_ite (fun h94 => ?_) (fun h94 => ?_)
                                    · refine zw_b (by omega) ?_
                                      refine zw_some ?_
                                      refine zw_ite (fun h95 => ?_) (fun h95 => ?_)
                                      · exfalso; omega
                                      · refine zw_b (by omega) ?_
                                        exact zw_some ⟨hIm93, hFm93, ⟨by omega, by omega⟩⟩
                                    · exfalso; omega
                                  · refine zw_ite (fun h96 => ?_) (fun h96 => ?_)
                                    · refine zw_b (by omega) ?_
                                      refine zw_some ?_
                                      refine zw_ite (fun h97 => ?_) (fun h97 => ?_)
                                      · have r98 : 0 ≤ (m87 a0 8) ∧ (m87 a0 8) ≤ 47 := zi_rd hIm87 hc0 zb_3_8
                                        have e99 : (m87 a0 8) = (zu_w32 ((zu_w32 ((m62 a0 7) * (m62 6 0))) + (m42 a0 7))) := (Eq.trans (zs_ne hmm87 (Or.inr (by decide))) (Eq.trans (zfr_ap hfm81 hc0 rfl) (zs_eq hmm79)))
                                        refine zw_bd (zw_eq (zu_call_at (zt_T n) (zm_213 n) (zdp_213 n) _ _ _ _ _ rfl (zr_213b_0 n _ _ 19 (m87 a0 8) (m29 a0 7) (m87 a0 7) m87)) ?_)
                                        have r100 : 0 ≤ (m87 19 2) ∧ (m87 19 2) ≤ 16 := zi_rd hIm87 zq_19 zb_6_2
                                        have e101 : (m87 19 2) = (m0 19 2) := (Eq.trans (zs_ne hmm87 (Or.inl (zc_ne zq_19 hc0 (by decide)))) (Eq.trans (zfr_ap hfm81 zq_19 rfl) (Eq.trans (zs_ne hmm79 (Or.inl (zc_ne zq_19 hc0 (by decide)))) (Eq.trans (zs_ne hmm62 (Or.inl (zc_ne zq_19 hc0 (by decide)))) (Eq.trans (zfr_ap hfm56 zq_19 rfl) (Eq.trans (zs_ne hmm42 (Or.inl (zc_ne zq_19 hc0 (by decide)))) (Eq.trans (zfr_ap hfm36 zq_19 rfl) (Eq.trans (zs_ne hmm33 (Or.inl (zc_ne zq_19 hc0 (by decide)))) (Eq.trans (zs_ne hmm29 (Or.inl (zc_ne zq_19 hc0 (by decide)))) (zfr_ap hfm3 zq_19 rfl))))))))))
                                        refine zw_ite (fun h102 => ?_) (fun h102 => ?_)
                                        · exfalso; omega
                                        · have b103 : 0 ≤ (m87 19 2) ∧ (m87 19 2) < 16 := by omega
                                          refine zw_if b103 ?_
                                          generalize hmm104 : zu_up m87 (20 + 5 + (m87 19 2)) 0 (m87 a0 8) = m104
                                          have hIm104 := zi_up hmm104 hIm87 (zc_41_e zq_20 b103) zb_7_0 (by omega) (by omega)
                                          have hFm104 := zfr_up hmm104 hFm87 (zc_41_e zq_20 b103) rfl
                                          have hRTVm104 := zR_TV_fr (zdis_fr (zfr_up hmm104 (zfr_rf [(7, 1)] _) (zc_41_e zq_20 b103) rfl) rfl) hRTVm87
                                          generalize hmm105 : zu_up m104 (20 + 5 + (m87 19 2)) 1 (m29 a0 7) = m105
                                          have hIm105 := zi_up hmm105 hIm104 (zc_41_e zq_20 b103) zb_7_1 (by omega) (by omega)
                                          have hFm105 := zfr_up hmm105 hFm104 (zc_41_e zq_20 b103) rfl
                                          have hRTVm105 := zR_TV_fr (zdis_fr (zfr_up hmm105 (zfr_rf [(7, 2)] _) (zc_41_e zq_20 b103) rfl) rfl) hRTVm104
                                          generalize hmm106 : zu_up m105 (20 + 5 + (m87 19 2)) 2 (m87 a0 7) = m106
                                          have hIm106 := zi_up hmm106 hIm105 (zc_41_e zq_20 b103) zb_7_2 (by omega) (by omega)
                                          have hFm106 := zfr_up hmm106 hFm105 (zc_41_e zq_20 b103) rfl
                                          have hRTVm106 := zR_TV_fr (zdis_fr (zfr_up hmm106 (zfr_rf [(7, 3)] _) (zc_41_e zq_20 b103) rfl) rfl) hRTVm105
                                          generalize hmm107 : zu_up m106 (20 + 5 + (m87 19 2)) 3 (-1) = m107
                                          have hIm107 := zi_up hmm107 hIm106 (zc_41_e zq_20 b103) zb_7_3 (by omega) (by omega)
                                          have hFm107 := zfr_up hmm107 hFm106 (zc_41_e zq_20 b103) rfl
                                          have hRTVm107 := zR_TV_fr (zdis_fr (zfr_up hmm107 (zfr_rf [(7, 4)] _) (zc_41_e zq_20 b103) rfl) rfl) hRTVm106
                                          have r108 : 0 ≤ (m107 19 2) ∧ (m107 19 2) ≤ 16 := zi_rd hIm107 zq_19 zb_6_2
                                          have e109 : (m107 19 2) = (m87 19 2) := (Eq.trans (zs_ne hmm107 (Or.inl (zc_ne zq_19 (zc_41_e zq_20 b103) (by decide)))) (Eq.trans (zs_ne hmm106 (Or.inl (zc_ne zq_19 (zc_41_e zq_20 b103) (by decide)))) (Eq.trans (zs_ne hmm105 (Or.inl (zc_ne zq_19 (zc_41_e zq_20 b103) (by decide)))) (zs_ne hmm104 (Or.inl (zc_ne zq_19 (zc_41_e zq_20 b103) (by decide)))))))
                                          have w110 := zu_w32_id (z := (m107 19 2) + 1) (by omega) (by omega)
                                          generalize hmm111 : zu_up m107 19 2 (zu_w32 ((m107 19 2) + 1)) = m111
                                          have hIm111 := zi_up hmm111 hIm107 zq_19 zb_6_2 (by omega) (by omega)
                                          have hFm111 := zfr_up hmm111 hFm107 zq_19 rfl
                                          have hRTVm111 := zR_TV_fr (zdis_fr (zfr_up hmm111 (zfr_rf [(6, 3)] _) zq_19 rfl) rfl) hRTVm107
                                          refine zw_some ?_
                                          refine zw_b (by omega) ?_
                                          exact zw_some ⟨hIm111, hFm111, ⟨by omega, by omega⟩⟩
                                      · exfalso; omega
                                    · refine zw_bd (zw_eq (zu_call_at (zt_T n) (zm_257 n) (zdp_257 n) _ _ _ _ _ rfl (zr_257_0 n _ _ a0 2 m87)) ?_)
                                      generalize hmm112 : zu_up m87 a0 9 2 = m112
                                      have hIm112 := zi_up hmm112 hIm87 hc0 zb_3_9 (by omega) (by omega)
                                      have hFm112 := zfr_up hmm112 hFm87 hc0 rfl
                                      have hRTVm112 := zR_TV_fr (zdis_fr (zfr_up hmm112 (zfr_rf [(3, 10)] _) hc0 rfl) rfl) hRTVm87
                                      have r113 : 0 ≤ (m112 45 6) ∧ (m112 45 6) ≤ 700 := zi_rd hIm112 zq_45 zb_9_6
                                      generalize hmm114 : zu_up m112 a0 10 (m112 45 6) = m114
                                      have hIm114 := zi_up hmm114 hIm112 hc0 zb_3_10 (by omega) (by omega)
                                      have hFm114 := zfr_up hmm114 hFm112 hc0 rfl
                                      have hRTVm114 := zR_TV_fr (zdis_fr (zfr_up hmm114 (zfr_rf [(3, 11)] _) hc0 rfl) rfl) hRTVm112
                                      refine zw_b (by omega) ?_
                                      refine zw_some ?_
                                      refine zw_ite (fun h115 => ?_) (fun h115 => ?_)
                                      · refine zw_b (by omega) ?_
                                        refine zw_some ?_
                                        refine zw_ite (fun h116 => ?_) (fun h116 => ?_)
                                        · exfalso; omega
                                        · refine zw_b (by omega) ?_
                                          exact zw_some ⟨hIm114, hFm114, ⟨by omega, by omega⟩⟩
                                      · exfalso; omega
                                · refine zw_bd (zw_eq (zu_call_at (zt_T n) (zm_257 n) (zdp_257 n) _ _ _ _ _ rfl (zr_257_0 n _ _ a0 1 m81)) ?_)
                                  generalize hmm117 : zu_up m81 a0 9 1 = m117
                                  have hIm117 := zi_up hmm117 hIm81 hc0 zb_3_9 (by omega) (by omega)
                                  have hFm117 := zfr_up hmm117 hFm81 hc0 rfl
                                  have hRTVm117 := zR_TV_fr (zdis_fr (zfr_up hmm117 (zfr_rf [(3, 10)] _) hc0 rfl) rfl) hRTVm81
                                  have r118 : 0 ≤ (m117 45 6) ∧ (m117 45 6) ≤ 700 := zi_rd hIm117 zq_45 zb_9_6
                                  generalize hmm119 : zu_up m117 a0 10 (m117 45 6) = m119
                                  have hIm119 := zi_up hmm119 hIm117 hc0 zb_3_10 (by omega) (by omega)
                                  have hFm119 := zfr_up hmm119 hFm117 hc0 rfl
                                  have hRTVm119 := zR_TV_fr (zdis_fr (zfr_up hmm119 (zfr_rf [(3, 11)] _) hc0 rfl) rfl) hRTVm117
                                  refine zw_b (by omega) ?_
                                  refine zw_some ?_
                                  refine zw_b (by omega) ?_
                                  refine zw_some ?_
                                  refine zw_ite (fun h120 => ?_) (fun h120 => ?_)
                                  · exfalso; omega
                                  · refine zw_b (by omega) ?_
                                    exact zw_some ⟨hIm119, hFm119, ⟨by omega, by omega⟩⟩
                            · exfalso; omega
                          · refine zw_bd (zw_eq (zu_call_at (zt_T n) (zm_257 n) (zdp_257 n) _ _ _ _ _ rfl (zr_257_0 n _ _ a0 2 m62)) ?_)
                            generalize hmm121 : zu_up m62 a0 9 2 = m121
                            have hIm121 := zi_up hmm121 hIm62 hc0 zb_3_9 (by omega) (by omega)
                            have hFm121 := zfr_up hmm121 hFm62 hc0 rfl
                            have hRTVm121 := zR_TV_fr (zdis_fr (zfr_up hmm121 (zfr_rf [(3, 10)] _) hc0 rfl) rfl) hRTVm62
                            have r122 : 0 ≤ (m121 45 6) ∧ (m121 45 6) ≤ 700 := zi_rd hIm121 zq_45 zb_9_6
                            generalize hmm123 : zu_up m121 a0 10 (m121 45 6) = m123
                            have hIm123 := zi_up hmm123 hIm121 hc0 zb_3_10 (by omega) (by omega)
                            have hFm123 := zfr_up hmm123 hFm121 hc0 rfl
                            have hRTVm123 := zR_TV_fr (zdis_fr (zfr_up hmm123 (zfr_rf [(3, 11)] _) hc0 rfl) rfl) hRTVm121
                            refine zw_b (by omega) ?_
                            refine zw_some ?_
                            refine zw_ite (fun h124 => ?_) (fun h124 => ?_)
                            · refine zw_b (by omega) ?_
                              refine zw_some ?_
                              refine zw_ite (fun h125 => ?_) (fun h125 => ?_)
                              · exfalso; omega
                              · refine zw_b (by omega) ?_
                                refine zw_some ?_
                                refine zw_ite (fun h126 => ?_) (fun h126 => ?_)
                                · refine zw_b (by omega) ?_
                                  exact zw_some ⟨hIm123, hFm123, ⟨by omega, by omega⟩⟩
                                · exfalso; omega
                            · exfalso; omega
                      · refine zw_bd (zw_eq (zu_call_at (zt_T n) (zm_257 n) (zdp_257 n) _ _ _ _ _ rfl (zr_257_0 n _ _ a0 1 m56)) ?_)
                        generalize hmm127 : zu_up m56 a0 9 1 = m127
                        have hIm127 := zi_up hmm127 hIm56 hc0 zb_3_9 (by omega) (by omega)
                        have hFm127 := zfr_up hmm127 hFm56 hc0 rfl
                        have hRTVm127 := zR_TV_fr (zdis_fr (zfr_up hmm127 (zfr_rf [(3, 10)] _) hc0 rfl) rfl) hRTVm56
                        have r128 : 0 ≤ (m127 45 6) ∧ (m127 45 6) ≤ 700 := zi_rd hIm127 zq_45 zb_9_6
                        generalize hmm129 : zu_up m127 a0 10 (m127 45 6) = m129
                        have hIm129 := zi_up hmm129 hIm127 hc0 zb_3_10 (by omega) (by omega)
                        have hFm129 := zfr_up hmm129 hFm127 hc0 rfl
                        have hRTVm129 := zR_TV_fr (zdis_fr (zfr_up hmm129 (zfr_rf [(3, 11)] _) hc0 rfl) rfl) hRTVm127
                        refine zw_b (by omega) ?_
                        refine zw_some ?_
                        refine zw_b (by omega) ?_
                        refine zw_some ?_
                        refine zw_ite (fun h130 => ?_) (fun h130 => ?_)
                        · exfalso; omega
                        · refine zw_b (by omega) ?_
                          refine zw_some ?_
                          refine zw_ite (fun h131 => ?_) (fun h131 => ?_)
                          · refine zw_b (by omega) ?_
                            exact zw_some ⟨hIm129, hFm129, ⟨by omega, by omega⟩⟩
                          · exfalso; omega
                    · exfalso; omega
                  · refine zw_bd (zw_eq (zu_call_at (zt_T n) (zm_257 n) (zdp_257 n) _ _ _ _ _ rfl (zr_257_0 n _ _ a0 2 m42)) ?_)
                    generalize hmm132 : zu_up m42 a0 9 2 = m132
                    have hIm132 := zi_up hmm132 hIm42 hc0 zb_3_9 (by omega) (by omega)
                    have hFm132 := zfr_up hmm132 hFm42 hc0 rfl
                    have hRTVm132 := zR_TV_fr (zdis_fr (zfr_up hmm132 (zfr_rf [(3, 10)] _) hc0 rfl) rfl) hRTVm42
                    have r133 : 0 ≤ (m132 45 6) ∧ (m132 45 6) ≤ 700 := zi_rd hIm132 zq_45 zb_9_6
                    generalize hmm134 : zu_up m132 a0 10 (m132 45 6) = m134
                    have hIm134 := zi_up hmm134 hIm132 hc0 zb_3_10 (by omega) (by omega)
                    have hFm134 := zfr_up hmm134 hFm132 hc0 rfl
                    have hRTVm134 := zR_TV_fr (zdis_fr (zfr_up hmm134 (zfr_rf [(3, 11)] _) hc0 rfl) rfl) hRTVm132
                    refine zw_b (by omega) ?_
                    refine zw_some ?_
                    refine zw_ite (fun h135 => ?_) (fun h135 => ?_)
                    · refine zw_b (by omega) ?_
                      refine zw_some ?_
                      refine zw_ite (fun h136 => ?_) (fun h136 => ?_)
                      · exfalso; omega
                      · refine zw_b (by omega) ?_
                        refine zw_some ?_
                        refine zw_ite (fun h137 => ?_) (fun h137 => ?_)
                        · refine zw_b (by omega) ?_
                          exact zw_some ⟨hIm134, hFm134, ⟨by omega, by omega⟩⟩
                        · exfalso; omega
                    · exfalso; omega
              · refine zw_bd (zw_eq (zu_call_at (zt_T n) (zm_257 n) (zdp_257 n) _ _ _ _ _ rfl (zr_257_0 n _ _ a0 1 m36)) ?_)
                generalize hmm138 : zu_up m36 a0 9 1 = m138
                have hIm138 := zi_up hmm138 hIm36 hc0 zb_3_9 (by omega) (by omega)
                have hFm138 := zfr_up hmm138 hFm36 hc0 rfl
                have hRTVm138 := zR_TV_fr (zdis_fr (zfr_up hmm138 (zfr_rf [(3, 10)] _) hc0 rfl) rfl) hRTVm36
                have r139 : 0 ≤ (m138 45 6) ∧ (m138 45 6) ≤ 700 := zi_rd hIm138 zq_45 zb_9_6
                generalize hmm140 : zu_up m138 a0 10 (m138 45 6) = m140
                have hIm140 := zi_up hmm140 hIm138 hc0 zb_3_10 (by omega) (by omega)
                have hFm140 := zfr_up hmm140 hFm138 hc0 rfl
                have hRTVm140 := zR_TV_fr (zdis_fr (zfr_up hmm140 (zfr_rf [(3, 11)] _) hc0 rfl) rfl) hRTVm138
                refine zw_b (by omega) ?_
                refine zw_some ?_
                refine zw_b (by omega) ?_
                refine zw_some ?_
                refine zw_ite (fun h141 => ?_) (fun h141 => ?_)
                · exfalso; omega
                · refine zw_b (by omega) ?_
                  refine zw_some ?_
                  refine zw_ite (fun h142 => ?_) (fun h142 => ?_)
                  · refine zw_b (by omega) ?_
                    exact zw_some ⟨hIm140, hFm140, ⟨by omega, by omega⟩⟩
                  · exfalso; omega
            · exfalso; omega
          · exfalso; omega
  · refine zw_bd (zw_eq (zu_call_at (zt_T n) (zm_257 n) (zdp_257 n) _ _ _ _ _ rfl (zr_257_0 n _ _ a0 2 m0)) ?_)
    generalize hmm143 : zu_up m0 a0 9 2 = m143
    have hIm143 := zi_up hmm143 hIm0 hc0 zb_3_9 (by omega) (by omega)
    have hFm143 := zfr_up hmm143 hFm0 hc0 rfl
    have r144 : 0 ≤ (m143 45 6) ∧ (m143 45 6) ≤ 700 := zi_rd hIm143 zq_45 zb_9_6
    generalize hmm145 : zu_up m143 a0 10 (m143 45 6) = m145
    have hIm145 := zi_up hmm145 hIm143 hc0 zb_3_10 (by omega) (by omega)
    have hFm145 := zfr_up hmm145 hFm143 hc0 rfl
    refine zw_b (by omega) ?_
    refine zw_some ?_
    refine zw_b (by omega) ?_
    exact zw_some ⟨hIm145, hFm145, ⟨by omega, by omega⟩⟩

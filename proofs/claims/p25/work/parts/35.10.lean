set_option maxHeartbeats 4000000 in
theorem zl_127 (n : Nat) {a0 a1 : Int} {m0 : zu_m} (hc0 : zcls a0 = 28)  (hxp0 : (m0 205 a1) = 1) : ∀ k : Nat, (∀ (x2 : Int) (mh : zu_m), zi_I mh → zfr [(28, 54), (123, 0)] m0 mh → (0 ≤ a1 ∧ a1 ≤ 3) → (0 ≤ x2 ∧ x2 ≤ 64) → (zR_KN mh) → (zR_LT mh) → (64 - x2) * 1 + 0 < (k : Int) → zw (zu_ex (zt_T n) 127 12 [(40, a0), (0, a1), (0, x2)] [] mh) (fun v m => zi_I m ∧ zfr [(28, 54), (123, 0)] m0 m ∧ zR_KN m ∧ zR_LT m ∧ ((-9223372036854775808) ≤ v ∧ v ≤ 9223372036854775807))) := by
  intro k
  induction k with
  | zero => exact fun x2 mh hImh hFmh hba1 hbx2 hRKNmh hRLTmh hM => by exfalso; omega
  | succ k ih =>
    intro x2 mh hImh hFmh hba1 hbx2 hRKNmh hRLTmh hM
    refine zw_eq (zu_rega_at (zt_T n) (zm_127 n) (zdp_127 n) _ _ _ _ _ _ (zr_127_12 n _ _ a0 a1 x2 mh)) ?_
    have b1 : 0 ≤ a1 ∧ a1 < 8 := by omega
    refine zw_if b1 ?_
    have r2 : 0 ≤ (mh 207 a1) ∧ (mh 207 a1) ≤ 64 := zi_rd hImh zq_207 (zb_116 _)
    refine zw_ite (fun h3 => ?_) (fun h3 => ?_)
    · have r4 : 0 ≤ (mh a0 53) ∧ (mh a0 53) ≤ 1 := zi_rd hImh hc0 zb_28_53
      refine zw_ite (fun h5 => ?_) (fun h5 => ?_)
      · have b6 : 0 ≤ a1 ∧ a1 < 8 := by omega
        refine zw_if b6 ?_
        have w7 := zu_w32_id (z := (mh 207 a1) - 1) (by omega) (by omega)
        have s8 : mh 205 a1 = m0 205 a1 := zfr_ap hFmh zq_205 rfl
        have s9 := zLT_rd (i := a1) hRLTmh (by omega) (by omega)
        have b10 : 0 ≤ (zu_w32 ((mh 207 a1) - 1)) ∧ (zu_w32 ((mh 207 a1) - 1)) < 64 := by omega
        refine zw_if b10 ?_
        have r11 : (-9223372036854775808) ≤ (mh 214 (zu_w32 ((mh 207 a1) - 1))) ∧ (mh 214 (zu_w32 ((mh 207 a1) - 1))) ≤ 9223372036854775807 := zi_rd hImh zq_214 (zb_123 _)
        exact zw_some ⟨hImh, hFmh, hRKNmh, hRLTmh, ⟨by omega, by omega⟩⟩
      · exact zw_some ⟨hImh, hFmh, hRKNmh, hRLTmh, ⟨by decide, by decide⟩⟩
    · refine zw_bd (zw_mono (zk_122 n hImh hc0 ⟨by omega, by omega⟩ hRKNmh) (fun v13 m12 hqm12 => ?_))
      obtain ⟨hIm12, hfm12, hvm12⟩ := hqm12
      have hFm12 := zfr_tr hFmh hfm12 rfl
      obtain ⟨hRKNm12, hvm12⟩ := hvm12
      have hRLTm12 := zR_LT_fr (zdis_fr hfm12 rfl) hRLTmh
      have b14 : 0 ≤ x2 ∧ x2 < 64 := by omega
      refine zw_if b14 ?_
      generalize hmm15 : zu_up m12 214 x2 v13 = m15
      have hIm15 := zi_up hmm15 hIm12 zq_214 (zb_123 _) (by omega) (by omega)
      have hFm15 := zfr_up hmm15 hFm12 zq_214 rfl
      have hRKNm15 := zR_KN_fr (zdis_fr (zfr_up hmm15 (zfr_rf [(123, 0)] _) zq_214 rfl) rfl) hRKNm12
      have hRLTm15 := zR_LT_fr (zdis_fr (zfr_up hmm15 (zfr_rf [(123, 0)] _) zq_214 rfl) rfl) hRLTm12
      have w16 := zu_w32_id (z := x2 + 1) (by omega) (by omega)
      have hM : (64 - (zu_w32 (x2 + 1))) * 1 + 0 < (k : Int) := by omega
      exact ih (zu_w32 (x2 + 1)) m15 hIm15 hFm15 ⟨by omega, by omega⟩ ⟨by omega, by omega⟩ hRKNm15 hRLTm15 hM
set_option maxHeartbeats 4000000 in
theorem zk_127 (n : Nat) {a0 a1 : Int} {m0 : zu_m} (hIm0 : zi_I m0) (hc0 : zcls a0 = 28) (ha1 : 0 ≤ a1 ∧ a1 ≤ 3)   (hxp0 : (m0 205 a1) = 1) (hRKNm0 : zR_KN m0) (hRLTm0 : zR_LT m0) : zw (zu_call (zt_T n) 127 [(40, a0), (0, a1)] m0) (fun v m => zi_I m ∧ zfr [(28, 54), (123, 0)] m0 m ∧ zR_KN m ∧ zR_LT m ∧ ((-9223372036854775808) ≤ v ∧ v ≤ 9223372036854775807)) := by
  have hFm0 : zfr [(28, 54), (123, 0)] m0 m0 := zfr_rf _ _
  have r17 : 0 ≤ (m0 205 a1) ∧ (m0 205 a1) ≤ 1 := zi_rd hIm0 zq_205 (zb_114 _)
  refine zw_eq (zu_call_at (zt_T n) (zm_127 n) (zdp_127 n) _ _ _ _ _ rfl (zr_127_0 n _ _ a0 a1 m0)) ?_
  refine zw_b (by omega) ?_
  generalize hmm18 : zu_up m0 a0 53 0 = m18
  have hIm18 := zi_up hmm18 hIm0 hc0 zb_28_53 (by omega) (by omega)
  have hFm18 := zfr_up hmm18 hFm0 hc0 rfl
  have hRKNm18 := zR_KN_fr (zdis_fr (zfr_up hmm18 (zfr_rf [(28, 54)] _) hc0 rfl) rfl) hRKNm0
  have hRLTm18 := zR_LT_fr (zdis_fr (zfr_up hmm18 (zfr_rf [(28, 54)] _) hc0 rfl) rfl) hRLTm0
  have b19 : 0 ≤ a1 ∧ a1 < 8 := by omega
  refine zw_if b19 ?_
  have r20 : 0 ≤ (m18 206 a1) ∧ (m18 206 a1) ≤ 64 := zi_rd hIm18 zq_206 (zb_115 _)
  have hM : (64 - (m18 206 a1)) * 1 + 0 < ((65 : Nat) : Int) := by omega
  exact (zl_127 n (m0 := m0) hc0 hxp0 65) (m18 206 a1) m18 hIm18 hFm18 ⟨by omega, by omega⟩ ⟨by omega, by omega⟩ hRKNm18 hRLTm18 hM
set_option maxHeartbeats 4000000 in
theorem zl_139 (n : Nat) {a0 a1 a2 : Int} {m0 : zu_m} (hc0 : zcls a0 = 28)  (hxp0 : a2 < (m0 a0 15)) : ∀ k : Nat, (∀ (x3 : Int) (mh : zu_m), zi_I mh → zfr [(126, 0)] m0 mh → (0 ≤ a1 ∧ a1 ≤ 1) → (0 ≤ a2 ∧ a2 ≤ 3) → (0 ≤ x3 ∧ x3 ≤ 3) → (1 ≤ mh a0 15 ∧ mh a0 15 ≤ 4) → (zE1 mh a1) → (zE1 mh 0) → (3 - x3) * 51 + 50 < (k : Int) → zw (zu_ex (zt_T n) 139 2 [(40, a0), (0, a1), (0, a2), (0, x3), (2, 0), (2, 0), (2, 0), (2, 0)] [] mh) (fun v m => zi_I m ∧ zfr [(126, 0)] m0 m ∧ zE1 m a1 ∧ zE1 m 0 ∧ True)) ∧ (∀ (x3 x4 x5 x6 : Int) (mh : zu_m), zi_I mh → zfr [(126, 0)] m0 mh → (0 ≤ a1 ∧ a1 ≤ 1) → (0 ≤ a2 ∧ a2 ≤ 3) → (0 ≤ x3 ∧ x3 ≤ 2) → (0 ≤ x4 ∧ x4 ≤ 47) → ((-1) ≤ x5 ∧ x5 ≤ 47) → (0 ≤ x6 ∧ x6 ≤ 48) → (1 ≤ mh a0 15 ∧ mh a0 15 ≤ 4) → (0 ≤ mh a0 67 ∧ mh a0 67 ≤ 0) → (x4 < (m0 a0 12) * (m0 a0 13)) → (x5 < (m0 a0 12) * (m0 a0 13)) → (zE1 mh a1) → (zE1 mh 0) → (48 - x6) * 1 + (3 - x3) * 51 + 1 < (k : Int) → zw (zu_ex (zt_T n) 139 37 [(40, a0), (0, a1), (0, a2), (0, x3), (0, x4), (0, x5), (0, x6), (2, 0)] [] mh) (fun v m => zi_I m ∧ zfr [(126, 0)] m0 m ∧ zE1 m a1 ∧ zE1 m 0 ∧ True)) ∧ (∀ (x3 x4 x5 x6 : Int) (mh : zu_m), zi_I mh → zfr [(126, 0)] m0 mh → (0 ≤ a1 ∧ a1 ≤ 1) → (0 ≤ a2 ∧ a2 ≤ 3) → (0 ≤ x3 ∧ x3 ≤ 2) → (0 ≤ x4 ∧ x4 ≤ 47) → ((-1) ≤ x5 ∧ x5 ≤ 47) → (1 ≤ x6 ∧ x6 ≤ 48) → (1 ≤ mh a0 15 ∧ mh a0 15 ≤ 4) → (0 ≤ mh a0 67 ∧ mh a0 67 ≤ 0) → (x4 < (m0 a0 12) * (m0 a0 13)) → (x5 < (m0 a0 12) * (m0 a0 13)) → (zE1 mh a1) → (zE1 mh 0) → (3 - x3) * 51 + 0 < (k : Int) → zw (zu_ex (zt_T n) 139 107 [(40, a0), (0, a1), (0, a2), (0, x3), (0, x4), (0, x5), (0, x6), (2, 0)] [] mh) (fun v m => zi_I m ∧ zfr [(126, 0)] m0 m ∧ zE1 m a1 ∧ zE1 m 0 ∧ True)) := by
  intro k
  induction k with
  | zero => exact ⟨fun x3 mh hImh hFmh hba1 hba2 hbx3 hg3 hREBmh hRSEmh hM => by exfalso; omega, fun x3 x4 x5 x6 mh hImh hFmh hba1 hba2 hbx3 hbx4 hbx5 hbx6 hg6 hg7 hH0 hH1 hREBmh hRSEmh hM => by exfalso; omega, fun x3 x4 x5 x6 mh hImh hFmh hba1 hba2 hbx3 hbx4 hbx5 hbx6 hg6 hg7 hH0 hH1 hREBmh hRSEmh hM => by exfalso; omega⟩
  | succ k ih =>
    refine ⟨?_, ?_, ?_⟩
    · intro x3 mh hImh hFmh hba1 hba2 hbx3 hg3 hREBmh hRSEmh hM
      refine zw_eq (zu_rega_at (zt_T n) (zm_139 n) (zdp_139 n) _ _ _ _ _ _ (zr_139_2 n _ _ a0 a1 a2 x3 mh)) ?_
      have r1 : 1 ≤ (mh a0 12) ∧ (mh a0 12) ≤ 8 := zi_rd hImh hc0 zb_28_12
      have r2 : 1 ≤ (mh a0 13) ∧ (mh a0 13) ≤ 6 := zi_rd hImh hc0 zb_28_13
      have s3 : (mh a0 12) * (mh a0 13) = (m0 a0 12) * (m0 a0 13) := zprod (zfr_ap hFmh hc0 rfl) (zfr_ap hFmh hc0 rfl)
      have p4 := zmul_bd (x := (mh a0 12)) (y := (mh a0 13)) (a := 1) (b := 1) (A := 8) (B := 6) (by omega) (by omega) (by omega) (by omega) (by omega) (by omega)
      have b5 : 0 ≤ a2 ∧ a2 < 8 := by omega
      refine zw_if b5 ?_
      have r6 : 0 ≤ (mh 203 a2) ∧ (mh 203 a2) ≤ 3 := zi_rd hImh zq_203 (zb_112 _)
      refine zw_ite (fun h7 => ?_) (fun h7 => ?_)
      · exact zw_some ⟨hImh, hFmh, hREBmh, hRSEmh, trivial⟩
      · have r8 : 0 ≤ (mh a0 67) ∧ (mh a0 67) ≤ 1 := zi_rd hImh hc0 zb_28_67
        refine zw_ite (fun h9 => ?_) (fun h9 => ?_)
        · exact zw_some ⟨hImh, hFmh, hREBmh, hRSEmh, trivial⟩
        · have w10 := zu_w32_id (z := 4 * a1) (by omega) (by omega)
          have w11 := zu_w32_id (z := (zu_w32 (4 * a1)) + a2) (by omega) (by omega)
          have b12 : 0 ≤ (zu_w32 ((zu_w32 (4 * a1)) + a2)) ∧ (zu_w32 ((zu_w32 (4 * a1)) + a2)) < 8 := by omega
          refine zw_if b12 ?_
          have r13 : 0 ≤ (mh 217 (zu_w32 ((zu_w32 (4 * a1)) + a2))) ∧ (mh 217 (zu_w32 ((zu_w32 (4 * a1)) + a2))) ≤ 47 := zi_rd hImh zq_217 (zb_126 _)
          have s14 : mh a0 15 = m0 a0 15 := zfr_ap hFmh hc0 rfl
          have s15 := zE1_rd (c := a2) (i := (zu_w32 ((zu_w32 (4 * a1)) + a2))) hREBmh (zone_190 hc0) (by omega) (by omega) (by omega) (by omega)
          have hM : (48 - 0) * 1 + (3 - x3) * 51 + 1 < (k : Int) := by omega
          exact ih.2.1 x3 (mh 217 (zu_w32 ((zu_w32 (4 * a1)) + a2))) (-1) 0 mh hImh hFmh ⟨by omega, by omega⟩ ⟨by omega, by omega⟩ ⟨by omega, by omega⟩ ⟨by omega, by omega⟩ ⟨by omega, by omega⟩ ⟨by omega, by omega⟩ ⟨by omega, by omega⟩ ⟨by omega, by omega⟩ (by omega) (by omega) hREBmh hRSEmh hM
    · intro x3 x4 x5 x6 mh hImh hFmh hba1 hba2 hbx3 hbx4 hbx5 hbx6 hg6 hg7 hH0 hH1 hREBmh hRSEmh hM
      refine zw_eq (zu_rega_at (zt_T n) (zm_139 n) (zdp_139 n) _ _ _ _ _ _ (zr_139_37 n _ _ a0 a1 a2 x3 x4 x5 x6 mh)) ?_
      have r16 : 1 ≤ (mh a0 12) ∧ (mh a0 12) ≤ 8 := zi_rd hImh hc0 zb_28_12
      have r17 : 1 ≤ (mh a0 13) ∧ (mh a0 13) ≤ 6 := zi_rd hImh hc0 zb_28_13
      have s18 : (mh a0 12) * (mh a0 13) = (m0 a0 12) * (m0 a0 13) := zprod (zfr_ap hFmh hc0 rfl) (zfr_ap hFmh hc0 rfl)
      have p19 := zmul_bd (x := (mh a0 12)) (y := (mh a0 13)) (a := 1) (b := 1) (A := 8) (B := 6) (by omega) (by omega) (by omega) (by omega) (by omega) (by omega)
      refine zw_bd (zw_eq (zu_call_at (zt_T n) (zm_36 n) (zdp_36 n) _ _ _ _ _ rfl (zr_36_0 n _ _ a0 mh)) ?_)
      have p20 := zmul_bd (x := (mh a0 12)) (y := (mh a0 13)) (a := 1) (b := 1) (A := 8) (B := 6) (by omega) (by omega) (by omega) (by omega) (by omega) (by omega)
      have w21 := zu_w32_id (z := (mh a0 12) * (mh a0 13)) (by omega) (by omega)
      refine zw_some ?_
      refine zw_ite (fun h22 => ?_) (fun h22 => ?_)
      · have hM : (3 - x3) * 51 + 0 < (k : Int) := by omega
        exact ih.2.2 x3 x4 x5 x6 mh hImh hFmh ⟨by omega, by omega⟩ ⟨by omega, by omega⟩ ⟨by omega, by omega⟩ ⟨by omega, by omega⟩ ⟨by omega, by omega⟩ ⟨by omega, by omega⟩ ⟨by omega, by omega⟩ ⟨by omega, by omega⟩ (by omega) (by omega) hREBmh hRSEmh hM
      · have b23 : 0 ≤ a1 ∧ a1 < 2 := by omega
        refine zw_if b23 ?_
        have r24 : (-9223372036854775808) ≤ (mh 220 a1) ∧ (mh 220 a1) ≤ 9223372036854775807 := zi_rd hImh zq_220 (zb_129 _)
        refine zw_bd (zw_eq (zu_call_at (zt_T n) (zm_84 n) (zdp_84 n) _ _ _ _ _ rfl (zr_84_0 n _ _ (mh 220 a1) x6 mh)) ?_)
        have b25 := zu_shr_rg (mh 220 a1) x6
        have b26 := zu_i64_rg 3 (zu_shr (mh 220 a1) x6) 1
        have c27 := zu_lcmp_sp (zu_i64 3 (zu_shr (mh 220 a1) x6) 1) 1
        refine zw_ite (fun h28 => ?_) (fun h28 => ?_)
        · refine zw_b (by omega) ?_
          refine zw_some ?_
          refine zw_ite (fun h29 => ?_) (fun h29 => ?_)
          · exfalso; omega
          · refine zw_bd (zw_mono (zk_134 n hImh hc0 ⟨by omega, by omega⟩ ⟨by omega, by omega⟩) (fun v31 m30 hqm30 => ?_))
            obtain ⟨hIm30, hfm30, hvm30⟩ := hqm30
            have hFm30 := zfr_tr hFmh hfm30 rfl
            have hREBm30 := zR_EB_fr (zdis_fr hfm30 rfl) hREBmh
            have hRSEm30 := zR_SE_fr (zdis_fr hfm30 rfl) hRSEmh
            refine zw_ite (fun h32 => ?_) (fun h32 => ?_)
            · have w33 := zu_w32_id (z := x6 + 1) (by omega) (by omega)
              have r34 : 0 ≤ (m30 a0 15) ∧ (m30 a0 15) ≤ 4 := zi_rd hIm30 hc0 zb_28_15
              have e35 : (m30 a0 15) = (mh a0 15) := (zfr_ap hfm30 hc0 rfl)
              have r36 : 0 ≤ (m30 a0 67) ∧ (m30 a0 67) ≤ 1 := zi_rd hIm30 hc0 zb_28_67
              have e37 : (m30 a0 67) = (mh a0 67) := (zfr_ap hfm30 hc0 rfl)
              have hM : (48 - (zu_w32 (x6 + 1))) * 1 + (3 - x3) * 51 + 1 < (k : Int) := by omega
              exact ih.2.1 x3 x4 x5 (zu_w32 (x6 + 1)) m30 hIm30 hFm30 ⟨by omega, by omega⟩ ⟨by omega, by omega⟩ ⟨by omega, by omega⟩ ⟨by omega, by omega⟩ ⟨by omega, by omega⟩ ⟨by omega, by omega⟩ ⟨by omega, by omega⟩ ⟨by omega, by omega⟩ (by omega) (by omega) hREBm30 hRSEm30 hM
            · refine zw_ite (fun h38 => ?_) (fun h38 => ?_)
              · have w39 := zu_w32_id (z := x6 + 1) (by omega) (by omega)
                have r40 : 0 ≤ (m30 a0 15) ∧ (m30 a0 15) ≤ 4 := zi_rd hIm30 hc0 zb_28_15
                have e41 : (m30 a0 15) = (mh a0 15) := (zfr_ap hfm30 hc0 rfl)
                have r42 : 0 ≤ (m30 a0 67) ∧ (m30 a0 67) ≤ 1 := zi_rd hIm30 hc0 zb_28_67
                have e43 : (m30 a0 67) = (mh a0 67) := (zfr_ap hfm30 hc0 rfl)
                have hM : (48 - (zu_w32 (x6 + 1))) * 1 + (3 - x3) * 51 + 1 < (k : Int) := by omega
                exact ih.2.1 x3 x4 x6 (zu_w32 (x6 + 1)) m30 hIm30 hFm30 ⟨by omega, by omega⟩ ⟨by omega, by omega⟩ ⟨by omega, by omega⟩ ⟨by omega, by omega⟩ ⟨by omega, by omega⟩ ⟨by omega, by omega⟩ ⟨by omega, by omega⟩ ⟨by omega, by omega⟩ (by omega) (by omega) hREBm30 hRSEm30 hM
              · refine zw_bd (zw_mono (zk_135 n hIm30 hc0 ⟨by omega, by omega⟩ ⟨by omega, by omega⟩) (fun v45 m44 hqm44 => ?_))
                obtain ⟨hIm44, hfm44, hvm44⟩ := hqm44
                have hFm44 := zfr_tr hFm30 hfm44 rfl
                have hREBm44 := zR_EB_fr (zdis_fr hfm44 rfl) hREBm30
                have hRSEm44 := zR_SE_fr (zdis_fr hfm44 rfl) hRSEm30
                refine zw_bd (zw_mono (zk_135 n hIm44 hc0 ⟨by omega, by omega⟩ ⟨by omega, by omega⟩) (fun v47 m46 hqm46 => ?_))
                obtain ⟨hIm46, hfm46, hvm46⟩ := hqm46
                have hFm46 := zfr_tr hFm44 hfm46 rfl
                have hREBm46 := zR_EB_fr (zdis_fr hfm46 rfl) hREBm44
                have hRSEm46 := zR_SE_fr (zdis_fr hfm46 rfl) hRSEm44
                refine zw_ite (fun h48 => ?_) (fun h48 => ?_)
                · have w49 := zu_w32_id (z := x6 + 1) (by omega) (by omega)
                  have r50 : 0 ≤ (m46 a0 15) ∧ (m46 a0 15) ≤ 4 := zi_rd hIm46 hc0 zb_28_15
                  have e51 : (m46 a0 15) = (mh a0 15) := (Eq.trans (zfr_ap hfm46 hc0 rfl) (Eq.trans (zfr_ap hfm44 hc0 rfl) (zfr_ap hfm30 hc0 rfl)))
                  have r52 : 0 ≤ (m46 a0 67) ∧ (m46 a0 67) ≤ 1 := zi_rd hIm46 hc0 zb_28_67
                  have e53 : (m46 a0 67) = (mh a0 67) := (Eq.trans (zfr_ap hfm46 hc0 rfl) (Eq.trans (zfr_ap hfm44 hc0 rfl) (zfr_ap hfm30 hc0 rfl)))
                  have hM : (48 - (zu_w32 (x6 + 1))) * 1 + (3 - x3) * 51 + 1 < (k : Int) := by omega
                  exact ih.2.1 x3 x4 x6 (zu_w32 (x6 + 1)) m46 hIm46 hFm46 ⟨by omega, by omega⟩ ⟨by omega, by omega⟩ ⟨by omega, by omega⟩ ⟨by omega, by omega⟩ ⟨by omega, by omega⟩ ⟨by omega, by omega⟩ ⟨by omega, by omega⟩ ⟨by omega, by omega⟩ (by omega) (by omega) hREBm46 hRSEm46 hM
                · have w54 := zu_w32_id (z := x6 + 1) (by omega) (by omega)
                  have r55 : 0 ≤ (m46 a0 15) ∧ (m46 a0 15) ≤ 4 := zi_rd hIm46 hc0 zb_28_15
                  have e56 : (m46 a0 15) = (mh a0 15) := (Eq.trans (zfr_ap hfm46 hc0 rfl) (Eq.trans (zfr_ap hfm44 hc0 rfl) (zfr_ap hfm30 hc0 rfl)))
                  have r57 : 0 ≤ (m46 a0 67) ∧ (m46 a0 67) ≤ 1 := zi_rd hIm46 hc0 zb_28_67
                  have e58 : (m46 a0 67) = (mh a0 67) := (Eq.trans (zfr_ap hfm46 hc0 rfl) (Eq.trans (zfr_ap hfm44 hc0 rfl) (zfr_ap hfm30 hc0 rfl)))
                  have hM : (48 - (zu_w32 (x6 + 1))) * 1 + (3 - x3) * 51 + 1 < (k : Int) := by omega
                  exact ih.2.1 x3 x4 x5 (zu_w32 (x6 + 1)) m46 hIm46 hFm46 ⟨by omega, by omega⟩ ⟨by omega, by omega⟩ ⟨by omega, by omega⟩ ⟨by omega, by omega⟩ ⟨by omega, by omega⟩ ⟨by omega, by omega⟩ ⟨by omega, by omega⟩ ⟨by omega, by omega⟩ (by omega) (by omega) hREBm46 hRSEm46 hM
        · refine zw_b (by omega) ?_
          refine zw_some ?_
          refine zw_ite (fun h59 => ?_) (fun h59 => ?_)
          · have w60 := zu_w32_id (z := x6 + 1) (by omega) (by omega)
            have hM : (48 - (zu_w32 (x6 + 1))) * 1 + (3 - x3) * 51 + 1 < (k : Int) := by omega
            exact ih.2.1 x3 x4 x5 (zu_w32 (x6 + 1)) mh hImh hFmh ⟨by omega, by omega⟩ ⟨by omega, by omega⟩ ⟨by omega, by omega⟩ ⟨by omega, by omega⟩ ⟨by omega, by omega⟩ ⟨by omega, by omega⟩ ⟨by omega, by omega⟩ ⟨by omega, by omega⟩ (by omega) (by omega) hREBmh hRSEmh hM
          · exfalso; omega
    · intro x3 x4 x5 x6 mh hImh hFmh hba1 hba2 hbx3 hbx4 hbx5 hbx6 hg6 hg7 hH0 hH1 hREBmh hRSEmh hM
      refine zw_eq (zu_rega_at (zt_T n) (zm_139 n) (zdp_139 n) _ _ _ _ _ _ (zr_139_107 n _ _ a0 a1 a2 x3 x4 x5 x6 mh)) ?_
      have r61 : 1 ≤ (mh a0 12) ∧ (mh a0 12) ≤ 8 := zi_rd hImh hc0 zb_28_12
      have r62 : 1 ≤ (mh a0 13) ∧ (mh a0 13) ≤ 6 := zi_rd hImh hc0 zb_28_13
      have s63 : (mh a0 12) * (mh a0 13) = (m0 a0 12) * (m0 a0 13) := zprod (zfr_ap hFmh hc0 rfl) (zfr_ap hFmh hc0 rfl)
      have p64 := zmul_bd (x := (mh a0 12)) (y := (mh a0 13)) (a := 1) (b := 1) (A := 8) (B := 6) (by omega) (by omega) (by omega) (by omega) (by omega) (by omega)
      refine zw_ite (fun h65 => ?_) (fun h65 => ?_)
      · exact zw_some ⟨hImh, hFmh, hREBmh, hRSEmh, trivial⟩
      · refine zw_ite (fun h66 => ?_) (fun h66 => ?_)
        · have hwx4 := zwk (W := (mh a0 12)) (H := (mh a0 13)) (W0 := (m0 a0 12)) (H0 := (m0 a0 13)) (a := x4) (zfr_ap hFmh hc0 rfl) (zfr_ap hFmh hc0 rfl) (by omega) (by omega) (by omega)
          have hwx5 := zwk (W := (mh a0 12)) (H := (mh a0 13)) (W0 := (m0 a0 12)) (H0 := (m0 a0 13)) (a := x5) (zfr_ap hFmh hc0 rfl) (zfr_ap hFmh hc0 rfl) (by omega) (by omega) (by omega)
          have hwn : Int.tmod x5 (mh a0 12) = Int.tmod x4 (mh a0 12) → Int.tdiv x5 (mh a0 12) ≠ Int.tdiv x4 (mh a0 12) := fun e => zwk_ne (by omega) e hwx5.2.2.2.2 hwx4.2.2.2.2
          refine zw_nif (by omega) ?_
          have d67 := ztmod_bd (x := x4) (y := (mh a0 12)) (by omega) (by omega)
          refine zw_nif (by omega) ?_
          have d68 := ztdiv_bd (x := x4) (y := (mh a0 12)) (by omega) (by omega)
          have w69 := zu_w32_id (z := Int.tdiv x4 (mh a0 12)) (by omega) (by omega)
          refine zw_nif (by omega) ?_
          have d70 := ztmod_bd (x := x5) (y := (mh a0 12)) (by omega) (by omega)
          refine zw_ite (fun h71 => ?_) (fun h71 => ?_)
          · refine zw_nif (by omega) ?_
            have d72 := ztdiv_bd (x := x5) (y := (mh a0 12)) (by omega) (by omega)
            have w73 := zu_w32_id (z := Int.tdiv x5 (mh a0 12)) (by omega) (by omega)
            refine zw_ite (fun h74 => ?_) (fun h74 => ?_)
            · have w75 := zu_w32_id (z := (zu_w32 (Int.tdiv x4 (mh a0 12))) + (-1)) (by omega) (by omega)
              have w76 := zu_w32_id (z := 4 * a1) (by omega) (by omega)
              have w77 := zu_w32_id (z := (zu_w32 (4 * a1)) + a2) (by omega) (by omega)
              have p78 := zmul_bd (x := (mh a0 12)) (y := (zu_w32 ((zu_w32 (Int.tdiv x4 (mh a0 12))) + (-1)))) (a := 1) (b := 0) (A := 8) (B := 46) (by omega) (by omega) (by omega) (by omega) (by omega) (by omega)
              have w79 := zu_w32_id (z := (mh a0 12) * (zu_w32 ((zu_w32 (Int.tdiv x4 (mh a0 12))) + (-1)))) (by omega) (by omega)
              have w80 := zu_w32_id (z := (zu_w32 ((mh a0 12) * (zu_w32 ((zu_w32 (Int.tdiv x4 (mh a0 12))) + (-1))))) + (Int.tmod x4 (mh a0 12))) (by omega) (by omega)
              have hwl := zwk_lt (W := (mh a0 12)) (H := (mh a0 13)) (y := (zu_w32 ((zu_w32 (Int.tdiv x4 (mh a0 12))) + (-1)))) (x := (Int.tmod x4 (mh a0 12))) (by omega) (by omega) (by omega)
              have p81 := zmul_bd (x := (mh a0 12)) (y := (mh a0 13)) (a := 1) (b := 1) (A := 8) (B := 6) (by omega) (by omega) (by omega) (by omega) (by omega) (by omega)
              have b82 : 0 ≤ (zu_w32 ((zu_w32 (4 * a1)) + a2)) ∧ (zu_w32 ((zu_w32 (4 * a1)) + a2)) < 8 := by omega
              refine zw_if b82 ?_
              generalize hmm83 : zu_up mh 217 (zu_w32 ((zu_w32 (4 * a1)) + a2)) (zu_w32 ((zu_w32 ((mh a0 12) * (zu_w32 ((zu_w32 (Int.tdiv x4 (mh a0 12))) + (-1))))) + (Int.tmod x4 (mh a0 12)))) = m83
              have hIm83 := zi_up hmm83 hImh zq_217 (zb_126 _) (by omega) (by omega)
              have hFm83 := zfr_up hmm83 hFmh zq_217 rfl
              have hREBm83 := zE1_up hmm83 (zone_190 hc0) (fun c h0 h4 hl hj => by omega) hREBmh
              have hRSEm83 := zE1_up hmm83 (zone_190 hc0) (fun c h0 h4 hl hj => by omega) hRSEmh
              have w84 := zu_w32_id (z := x3 + 1) (by omega) (by omega)
              have r85 : 0 ≤ (m83 a0 15) ∧ (m83 a0 15) ≤ 4 := zi_rd hIm83 hc0 zb_28_15
              have e86 : (m83 a0 15) = (mh a0 15) := (zs_ne hmm83 (Or.inl (zc_ne hc0 zq_217 (by decide))))
              have hM : (3 - (zu_w32 (x3 + 1))) * 51 + 50 < (k : Int) := by omega
              exact zw_le (zu_forget (zu_lr_same (zu_lr_same (zu_lr_same (zu_lr_same (zu_lr_drop (zu_lr_drop (zu_lr_drop (zu_lr_drop zu_lr_nil))))))))) (ih.1 (zu_w32 (x3 + 1)) m83 hIm83 hFm83 ⟨by omega, by omega⟩ ⟨by omega, by omega⟩ ⟨by omega, by omega⟩ ⟨by omega, by omega⟩ hREBm83 hRSEm83 hM)
            · have w87 := zu_w32_id (z := (zu_w32 (Int.tdiv x4 (mh a0 12))) + 1) (by omega) (by omega)
              have w88 := zu_w32_id (z := 4 * a1) (by omega) (by omega)
              have w89 := zu_w32_id (z := (zu_w32 (4 * a1)) + a2) (by omega) (by omega)
              have p90 := zmul_bd (x := (mh a0 12)) (y := (zu_w32 ((zu_w32 (Int.tdiv x4 (mh a0 12))) + 1))) (a := 1) (b := 1) (A := 8) (B := 47) (by omega) (by omega) (by omega) (by omega) (by omega) (by omega)
              have w91 := zu_w32_id (z := (mh a0 12) * (zu_w32 ((zu_w32 (Int.tdiv x4 (mh a0 12))) + 1))) (by omega) (by omega)
              have w92 := zu_w32_id (z := (zu_w32 ((mh a0 12) * (zu_w32 ((zu_w32 (Int.tdiv x4 (mh a0 12))) + 1)))) + (Int.tmod x4 (mh a0 12))) (by omega) (by omega)
              have hwl := zwk_lt (W := (mh a0 12)) (H := (mh a0 13)) (y := (zu_w32 ((zu_w32 (Int.tdiv x4 (mh a0 12))) + 1))) (x := (Int.tmod x4 (mh a0 12))) (by omega) (by omega) (by omega)
              have p93 := zmul_bd (x := (mh a0 12)) (y := (mh a0 13)) (a := 1) (b := 1) (A := 8) (B := 6) (by omega) (by omega) (by omega) (by omega) (by omega) (by omega)
              have b94 : 0 ≤ (zu_w32 ((zu_w32 (4 * a1)) + a2)) ∧ (zu_w32 ((zu_w32 (4 * a1)) + a2)) < 8 := by omega
              refine zw_if b94 ?_
              generalize hmm95 : zu_up mh 217 (zu_w32 ((zu_w32 (4 * a1)) + a2)) (zu_w32 ((zu_w32 ((mh a0 12) * (zu_w32 ((zu_w32 (Int.tdiv x4 (mh a0 12))) + 1)))) + (Int.tmod x4 (mh a0 12)))) = m95
              have hIm95 := zi_up hmm95 hImh zq_217 (zb_126 _) (by omega) (by omega)
              have hFm95 := zfr_up hmm95 hFmh zq_217 rfl
              have hREBm95 := zE1_up hmm95 (zone_190 hc0) (fun c h0 h4 hl hj => by omega) hREBmh
              have hRSEm95 := zE1_up hmm95 (zone_190 hc0) (fun c h0 h4 hl hj => by omega) hRSEmh
              have w96 := zu_w32_id (z := x3 + 1) (by omega) (by omega)
              have r97 : 0 ≤ (m95 a0 15) ∧ (m95 a0 15) ≤ 4 := zi_rd hIm95 hc0 zb_28_15
              have e98 : (m95 a0 15) = (mh a0 15) := (zs_ne hmm95 (Or.inl (zc_ne hc0 zq_217 (by decide))))
              have hM : (3 - (zu_w32 (x3 + 1))) * 51 + 50 < (k : Int) := by omega
              exact zw_le (zu_forget (zu_lr_same (zu_lr_same (zu_lr_same (zu_lr_same (zu_lr_drop (zu_lr_drop (zu_lr_drop (zu_lr_drop zu_lr_nil))))))))) (ih.1 (zu_w32 (x3 + 1)) m95 hIm95 hFm95 ⟨by omega, by omega⟩ ⟨by omega, by omega⟩ ⟨by omega, by omega⟩ ⟨by omega, by omega⟩ hREBm95 hRSEm95 hM)
          · refine zw_nif (by omega) ?_
            have d99 := ztmod_bd (x := x5) (y := (mh a0 12)) (by omega) (by omega)
            refine zw_ite (fun h100 => ?_) (fun h100 => ?_)
            · have w101 := zu_w32_id (z := (Int.tmod x4 (mh a0 12)) + (-1)) (by omega) (by omega)
              have w102 := zu_w32_id (z := 4 * a1) (by omega) (by omega)
              have w103 := zu_w32_id (z := (zu_w32 (4 * a1)) + a2) (by omega) (by omega)
              have p104 := zmul_bd (x := (mh a0 12)) (y := (zu_w32 (Int.tdiv x4 (mh a0 12)))) (a := 1) (b := 0) (A := 8) (B := 47) (by omega) (by omega) (by omega) (by omega) (by omega) (by omega)
              have w105 := zu_w32_id (z := (mh a0 12) * (zu_w32 (Int.tdiv x4 (mh a0 12)))) (by omega) (by omega)
              have w106 := zu_w32_id (z := (zu_w32 ((mh a0 12) * (zu_w32 (Int.tdiv x4 (mh a0 12))))) + (zu_w32 ((Int.tmod x4 (mh a0 12)) + (-1)))) (by omega) (by omega)
              have hwl := zwk_lt (W := (mh a0 12)) (H := (mh a0 13)) (y := (zu_w32 (Int.tdiv x4 (mh a0 12)))) (x := (zu_w32 ((Int.tmod x4 (mh a0 12)) + (-1)))) (by omega) (by omega) (by omega)
              have p107 := zmul_bd (x := (mh a0 12)) (y := (mh a0 13)) (a := 1) (b := 1) (A := 8) (B := 6) (by omega) (by omega) (by omega) (by omega) (by omega) (by omega)
              have b108 : 0 ≤ (zu_w32 ((zu_w32 (4 * a1)) + a2)) ∧ (zu_w32 ((zu_w32 (4 * a1)) + a2)) < 8 := by omega
              refine zw_if b108 ?_
              generalize hmm109 : zu_up mh 217 (zu_w32 ((zu_w32 (4 * a1)) + a2)) (zu_w32 ((zu_w32 ((mh a0 12) * (zu_w32 (Int.tdiv x4 (mh a0 12))))) + (zu_w32 ((Int.tmod x4 (mh a0 12)) + (-1))))) = m109
              have hIm109 := zi_up hmm109 hImh zq_217 (zb_126 _) (by omega) (by omega)
              have hFm109 := zfr_up hmm109 hFmh zq_217 rfl
              have hREBm109 := zE1_up hmm109 (zone_190 hc0) (fun c h0 h4 hl hj => by omega) hREBmh
              have hRSEm109 := zE1_up hmm109 (zone_190 hc0) (fun c h0 h4 hl hj => by omega) hRSEmh
              have w110 := zu_w32_id (z := x3 + 1) (by omega) (by omega)
              have r111 : 0 ≤ (m109 a0 15) ∧ (m109 a0 15) ≤ 4 := zi_rd hIm109 hc0 zb_28_15
              have e112 : (m109 a0 15) = (mh a0 15) := (zs_ne hmm109 (Or.inl (zc_ne hc0 zq_217 (by decide))))
              have hM : (3 - (zu_w32 (x3 + 1))) * 51 + 50 < (k : Int) := by omega
              exact zw_le (zu_forget (zu_lr_same (zu_lr_same (zu_lr_same (zu_lr_same (zu_lr_drop (zu_lr_drop (zu_lr_drop (zu_lr_drop zu_lr_nil))))))))) (ih.1 (zu_w32 (x3 + 1)) m109 hIm109 hFm109 ⟨by omega, by omega⟩ ⟨by omega, by omega⟩ ⟨by omega, by omega⟩ ⟨by omega, by omega⟩ hREBm109 hRSEm109 hM)
            · have w113 := zu_w32_id (z := (Int.tmod x4 (mh a0 12)) + 1) (by omega) (by omega)
              have w114 := zu_w32_id (z := 4 * a1) (by omega) (by omega)
              have w115 := zu_w32_id (z := (zu_w32 (4 * a1)) + a2) (by omega) (by omega)
              have p116 := zmul_bd (x := (mh a0 12)) (y := (zu_w32 (Int.tdiv x4 (mh a0 12)))) (a := 1) (b := 0) (A := 8) (B := 47) (by omega) (by omega) (by omega) (by omega) (by omega) (by omega)
              have w117 := zu_w32_id (z := (mh a0 12) * (zu_w32 (Int.tdiv x4 (mh a0 12)))) (by omega) (by omega)
              have w118 := zu_w32_id (z := (zu_w32 ((mh a0 12) * (zu_w32 (Int.tdiv x4 (mh a0 12))))) + (zu_w32 ((Int.tmod x4 (mh a0 12)) + 1))) (by omega) (by omega)
              have hwl := zwk_lt (W := (mh a0 12)) (H := (mh a0 13)) (y := (zu_w32 (Int.tdiv x4 (mh a0 12)))) (x := (zu_w32 ((Int.tmod x4 (mh a0 12)) + 1))) (by omega) (by omega) (by omega)
              have p119 := zmul_bd (x := (mh a0 12)) (y := (mh a0 13)) (a := 1) (b := 1) (A := 8) (B := 6) (by omega) (by omega) (by omega) (by omega) (by omega) (by omega)
              have b120 : 0 ≤ (zu_w32 ((zu_w32 (4 * a1)) + a2)) ∧ (zu_w32 ((zu_w32 (4 * a1)) + a2)) < 8 := by omega
              refine zw_if b120 ?_
              generalize hmm121 : zu_up mh 217 (zu_w32 ((zu_w32 (4 * a1)) + a2)) (zu_w32 ((zu_w32 ((mh a0 12) * (zu_w32 (Int.tdiv x4 (mh a0 12))))) + (zu_w32 ((Int.tmod x4 (mh a0 12)) + 1)))) = m121
              have hIm121 := zi_up hmm121 hImh zq_217 (zb_126 _) (by omega) (by omega)
              have hFm121 := zfr_up hmm121 hFmh zq_217 rfl
              have hREBm121 := zE1_up hmm121 (zone_190 hc0) (fun c h0 h4 hl hj => by omega) hREBmh
              have hRSEm121 := zE1_up hmm121 (zone_190 hc0) (fun c h0 h4 hl hj => by omega) hRSEmh
              have w122 := zu_w32_id (z := x3 + 1) (by omega) (by omega)
              have r123 : 0 ≤ (m121 a0 15) ∧ (m121 a0 15) ≤ 4 := zi_rd hIm121 hc0 zb_28_15
              have e124 : (m121 a0 15) = (mh a0 15) := (zs_ne hmm121 (Or.inl (zc_ne hc0 zq_217 (by decide))))
              have hM : (3 - (zu_w32 (x3 + 1))) * 51 + 50 < (k : Int) := by omega
              exact zw_le (zu_forget (zu_lr_same (zu_lr_same (zu_lr_same (zu_lr_same (zu_lr_drop (zu_lr_drop (zu_lr_drop (zu_lr_drop zu_lr_nil))))))))) (ih.1 (zu_w32 (x3 + 1)) m121 hIm121 hFm121 ⟨by omega, by omega⟩ ⟨by omega, by omega⟩ ⟨by omega, by omega⟩ ⟨by omega, by omega⟩ hREBm121 hRSEm121 hM)
        · exact zw_some ⟨hImh, hFmh, hREBmh, hRSEmh, trivial⟩
set_option maxHeartbeats 4000000 in
theorem zk_139 (n : Nat) {a0 a1 a2 : Int} {m0 : zu_m} (hIm0 : zi_I m0) (hc0 : zcls a0 = 28) (ha1 : 0 ≤ a1 ∧ a1 ≤ 1) (ha2 : 0 ≤ a2 ∧ a2 ≤ 3)  (he0 : 1 ≤ m0 a0 15 ∧ m0 a0 15 ≤ 4) (hxp0 : a2 < (m0 a0 15)) (hREBm0 : zE1 m0 a1) (hRSEm0 : zE1 m0 0) : zw (zu_call (zt_T n) 139 [(40, a0), (0, a1), (0, a2)] m0) (fun v m => zi_I m ∧ zfr [(126, 0)] m0 m ∧ zE1 m a1 ∧ zE1 m 0 ∧ True) := by
  have hFm0 : zfr [(126, 0)] m0 m0 := zfr_rf _ _
  have r125 : 1 ≤ (m0 a0 12) ∧ (m0 a0 12) ≤ 8 := zi_rd hIm0 hc0 zb_28_12
  have r126 : 1 ≤ (m0 a0 13) ∧ (m0 a0 13) ≤ 6 := zi_rd hIm0 hc0 zb_28_13
  refine zw_eq (zu_call_at (zt_T n) (zm_139 n) (zdp_139 n) _ _ _ _ _ rfl (zr_139_0 n _ _ a0 a1 a2 m0)) ?_
  have hM : (3 - 0) * 51 + 50 < ((204 : Nat) : Int) := by omega
  exact (zl_139 n (m0 := m0) hc0 hxp0 204).1 0 m0 hIm0 hFm0 ⟨by omega, by omega⟩ ⟨by omega, by omega⟩ ⟨by omega, by omega⟩ ⟨by omega, by omega⟩ hREBm0 hRSEm0 hM
set_option maxHeartbeats 4000000 in
theorem zl_143 (n : Nat) {a0 a1 a2 : Int} {m0 : zu_m} (hc0 : zcls a0 = 28)   : ∀ k : Nat, (∀ (x3 x4 : Int) (mh : zu_m), zi_I mh → zfr [(28, 3)] m0 mh → (0 ≤ a1 ∧ a1 ≤ 47) → (1 ≤ a2 ∧ a2 ≤ 1) → ((-2147483648) ≤ x3 ∧ x3 ≤ 2147483647) → (0 ≤ x4 ∧ x4 ≤ 16) → (0 ≤ mh a0 2 ∧ mh a0 2 ≤ 0) → (16 - x4) * 1 + 5 < (k : Int) → zw (zu_ex (zt_T n) 143 62 [(40, a0), (0, a1), (0, a2), (0, x3), (0, x4)] [] mh) (fun v m => zi_I m ∧ zfr [(28, 3)] m0 m ∧ ((-2147483648) ≤ v ∧ v ≤ 2147483647) ∧ (0 ≤ m a0 2 ∧ m a0 2 ≤ 2))) ∧ (∀ (x3 x4 : Int) (mh : zu_m), zi_I mh → zfr [(28, 3)] m0 mh → (0 ≤ a1 ∧ a1 ≤ 47) → (3 ≤ a2 ∧ a2 ≤ 3) → ((-2147483648) ≤ x3 ∧ x3 ≤ 2147483647) → (0 ≤ x4 ∧ x4 ≤ 4) → (0 ≤ mh a0 2 ∧ mh a0 2 ≤ 0) → (4 - x4) * 1 + 0 < (k : Int) → zw (zu_ex (zt_T n) 143 133 [(40, a0), (0, a1), (0, a2), (0, x3), (0, x4)] [] mh) (fun v m => zi_I m ∧ zfr [(28, 3)] m0 m ∧ ((-2147483648) ≤ v ∧ v ≤ 2147483647) ∧ (0 ≤ m a0 2 ∧ m a0 2 ≤ 2))) := by
  intro k
  induction k with
  | zero => exact ⟨fun x3 x4 mh hImh hFmh hba1 hba2 hbx3 hbx4 hg4 hM => by exfalso; omega, fun x3 x4 mh hImh hFmh hba1 hba2 hbx3 hbx4 hg4 hM => by exfalso; omega⟩
  | succ k ih =>
    refine ⟨?_, ?_⟩
    · intro x3 x4 mh hImh hFmh hba1 hba2 hbx3 hbx4 hg4 hM
      refine zw_eq (zu_rega_at (zt_T n) (zm_143 n) (zdp_143 n) _ _ _ _ _ _ (zr_143_62 n _ _ a0 a1 a2 x3 x4 mh)) ?_
      have b1 : 0 ≤ (0 : Int) ∧ (0 : Int) < 2 := by omega
      refine zw_if b1 ?_
      have r2 : 0 ≤ (mh 216 0) ∧ (mh 216 0) ≤ 16 := zi_rdr (m := 2) (r0 := 0) (r1 := 0) hImh zq_216 (by omega) (by decide +kernel)
      refine zw_ite (fun h3 => ?_) (fun h3 => ?_)
      · exact zw_some ⟨hImh, hFmh, ⟨by omega, by omega⟩, ⟨by omega, by omega⟩⟩
      · have b4 : 0 ≤ x4 ∧ x4 < 36 := by omega
        refine zw_if b4 ?_
        have r5 : (-3) ≤ (mh 215 x4) ∧ (mh 215 x4) ≤ 3 := zi_rd hImh zq_215 (zb_124 _)
        refine zw_ite (fun h6 => ?_) (fun h6 => ?_)
        · have w7 := zu_w32_id (z := x3 + 0) (by omega) (by omega)
          have w8 := zu_w32_id (z := x4 + 1) (by omega) (by omega)
          have hM : (16 - (zu_w32 (x4 + 1))) * 1 + 5 < (k : Int) := by omega
          exact ih.1 (zu_w32 (x3 + 0)) (zu_w32 (x4 + 1)) mh hImh hFmh ⟨by omega, by omega⟩ ⟨by omega, by omega⟩ ⟨by omega, by omega⟩ ⟨by omega, by omega⟩ ⟨by omega, by omega⟩ hM
        · have b9 : 0 ≤ x4 ∧ x4 < 36 := by omega
          refine zw_if b9 ?_
          have r10 : 0 ≤ (mh 197 x4) ∧ (mh 197 x4) ≤ 47 := zi_rd hImh zq_197 (zb_106 _)
          refine zw_ite (fun h11 => ?_) (fun h11 => ?_)
          · have w12 := zu_w32_id (z := x3 + 0) (by omega) (by omega)
            have w13 := zu_w32_id (z := x4 + 1) (by omega) (by omega)
            have hM : (16 - (zu_w32 (x4 + 1))) * 1 + 5 < (k : Int) := by omega
            exact ih.1 (zu_w32 (x3 + 0)) (zu_w32 (x4 + 1)) mh hImh hFmh ⟨by omega, by omega⟩ ⟨by omega, by omega⟩ ⟨by omega, by omega⟩ ⟨by omega, by omega⟩ ⟨by omega, by omega⟩ hM
          · have w14 := zu_w32_rg (x3 + 1)
            have w15 := zu_w32_id (z := x4 + 1) (by omega) (by omega)
            have hM : (16 - (zu_w32 (x4 + 1))) * 1 + 5 < (k : Int) := by omega
            exact ih.1 (zu_w32 (x3 + 1)) (zu_w32 (x4 + 1)) mh hImh hFmh ⟨by omega, by omega⟩ ⟨by omega, by omega⟩ ⟨by omega, by omega⟩ ⟨by omega, by omega⟩ ⟨by omega, by omega⟩ hM
    · intro x3 x4 mh hImh hFmh hba1 hba2 hbx3 hbx4 hg4 hM
      refine zw_eq (zu_rega_at (zt_T n) (zm_143 n) (zdp_143 n) _ _ _ _ _ _ (zr_143_133 n _ _ a0 a1 a2 x3 x4 mh)) ?_
      have r16 : 0 ≤ (mh a0 15) ∧ (mh a0 15) ≤ 4 := zi_rd hImh hc0 zb_28_15
      refine zw_ite (fun h17 => ?_) (fun h17 => ?_)
      · exact zw_some ⟨hImh, hFmh, ⟨by omega, by omega⟩, ⟨by omega, by omega⟩⟩
      · have b18 : 0 ≤ x4 ∧ x4 < 8 := by omega
        refine zw_if b18 ?_
        have r19 : 0 ≤ (mh 217 x4) ∧ (mh 217 x4) ≤ 47 := zi_rd hImh zq_217 (zb_126 _)
        refine zw_ite (fun h20 => ?_) (fun h20 => ?_)
        · have w21 := zu_w32_id (z := x3 + 0) (by omega) (by omega)
          have w22 := zu_w32_id (z := x4 + 1) (by omega) (by omega)
          have hM : (4 - (zu_w32 (x4 + 1))) * 1 + 0 < (k : Int) := by omega
          exact ih.2 (zu_w32 (x3 + 0)) (zu_w32 (x4 + 1)) mh hImh hFmh ⟨by omega, by omega⟩ ⟨by omega, by omega⟩ ⟨by omega, by omega⟩ ⟨by omega, by omega⟩ ⟨by omega, by omega⟩ hM
        · have w23 := zu_w32_rg (x3 + 1)
          have w24 := zu_w32_id (z := x4 + 1) (by omega) (by omega)
          have hM : (4 - (zu_w32 (x4 + 1))) * 1 + 0 < (k : Int) := by omega
          exact ih.2 (zu_w32 (x3 + 1)) (zu_w32 (x4 + 1)) mh hImh hFmh ⟨by omega, by omega⟩ ⟨by omega, by omega⟩ ⟨by omega, by omega⟩ ⟨by omega, by omega⟩ ⟨by omega, by omega⟩ hM
set_option maxHeartbeats 4000000 in
theorem zk_143 (n : Nat) {a0 a1 a2 : Int} {m0 : zu_m} (hIm0 : zi_I m0) (hc0 : zcls a0 = 28) (ha1 : (-2147483648) ≤ a1 ∧ a1 ≤ 2147483647) (ha2 : (-2147483648) ≤ a2 ∧ a2 ≤ 2147483647)     : zw (zu_call (zt_T n) 143 [(40, a0), (0, a1), (0, a2)] m0) (fun v m => zi_I m ∧ zfr [(28, 3)] m0 m ∧ ((-2147483648) ≤ v ∧ v ≤ 2147483647) ∧ (0 ≤ m a0 2 ∧ m a0 2 ≤ 2)) := by
  have hFm0 : zfr [(28, 3)] m0 m0 := zfr_rf _ _
  refine zw_eq (zu_call_at (zt_T n) (zm_143 n) (zdp_143 n) _ _ _ _ _ rfl (zr_143_0 n _ _ a0 a1 a2 m0)) ?_
  generalize hmm25 : zu_up m0 a0 2 0 = m25
  have hIm25 := zi_up hmm25 hIm0 hc0 zb_28_2 (by omega) (by omega)
  have hFm25 := zfr_up hmm25 hFm0 hc0 rfl
  refine zw_bd (zw_eq (zu_call_at (zt_T n) (zm_123 n) (zdp_123 n) _ _ _ _ _ rfl (zr_123_0 n _ _ a0 a1 m25)) ?_)
  refine zw_ite (fun h26 => ?_) (fun h26 => ?_)
  · refine zw_b (by omega) ?_
    refine zw_some ?_
    refine zw_ite (fun h27 => ?_) (fun h27 => ?_)
    · exfalso; omega
    · refine zw_bd (zw_eq (zu_call_at (zt_T n) (zm_142 n) (zdp_142 n) _ _ _ _ _ rfl (zr_142_0 n _ _ a0 1 m25)) ?_)
      generalize hmm28 : zu_up m25 a0 2 1 = m28
      have hIm28 := zi_up hmm28 hIm25 hc0 zb_28_2 (by omega) (by omega)
      have hFm28 := zfr_up hmm28 hFm25 hc0 rfl
      refine zw_some ?_
      have r29 : (-2147483648) ≤ (m28 a0 2) ∧ (m28 a0 2) ≤ 2147483647 := zi_rd hIm28 hc0 zb_28_2
      have e30 : (m28 a0 2) = 1 := (zs_eq hmm28)
      exact zw_some ⟨hIm28, hFm28, ⟨by decide, by decide⟩, ⟨by omega, by omega⟩⟩
  · refine zw_bd (zw_eq (zu_call_at (zt_T n) (zm_36 n) (zdp_36 n) _ _ _ _ _ rfl (zr_36_0 n _ _ a0 m25)) ?_)
    have r31 : 1 ≤ (m25 a0 12) ∧ (m25 a0 12) ≤ 8 := zi_rd hIm25 hc0 zb_28_12
    have r32 : 1 ≤ (m25 a0 13) ∧ (m25 a0 13) ≤ 6 := zi_rd hIm25 hc0 zb_28_13
    have p33 := zmul_bd (x := (m25 a0 12)) (y := (m25 a0 13)) (a := 1) (b := 1) (A := 8) (B := 6) (by omega) (by omega) (by omega) (by omega) (by omega) (by omega)
    have w34 := zu_w32_id (z := (m25 a0 12) * (m25 a0 13)) (by omega) (by omega)
    refine zw_some ?_
    refine zw_ite (fun h35 => ?_) (fun h35 => ?_)
    · refine zw_b (by omega) ?_
      refine zw_some ?_
      refine zw_ite (fun h36 => ?_) (fun h36 => ?_)
      · exfalso; omega
      · refine zw_bd (zw_eq (zu_call_at (zt_T n) (zm_142 n) (zdp_142 n) _ _ _ _ _ rfl (zr_142_0 n _ _ a0 1 m25)) ?_)
        generalize hmm37 : zu_up m25 a0 2 1 = m37
        have hIm37 := zi_up hmm37 hIm25 hc0 zb_28_2 (by omega) (by omega)
        have hFm37 := zfr_up hmm37 hFm25 hc0 rfl
        refine zw_some ?_
        have r38 : (-2147483648) ≤ (m37 a0 2) ∧ (m37 a0 2) ≤ 2147483647 := zi_rd hIm37 hc0 zb_28_2
        have e39 : (m37 a0 2) = 1 := (zs_eq hmm37)
        exact zw_some ⟨hIm37, hFm37, ⟨by decide, by decide⟩, ⟨by omega, by omega⟩⟩
    · refine zw_b (by omega) ?_
      refine zw_some ?_
      refine zw_ite (fun h40 => ?_) (fun h40 => ?_)
      · refine zw_ite (fun h41 => ?_) (fun h41 => ?_)
        · have b42 : 0 ≤ a1 ∧ a1 < 96 := by omega
          refine zw_if b42 ?_
          have r43 : 0 ≤ (m25 195 a1) ∧ (m25 195 a1) ≤ 3 := zi_rd hIm25 zq_195 (zb_104 _)
          have r44 : (-2147483648) ≤ (m25 a0 2) ∧ (m25 a0 2) ≤ 2147483647 := zi_rd hIm25 hc0 zb_28_2
          have e45 : (m25 a0 2) = 0 := (zs_eq hmm25)
          exact zw_some ⟨hIm25, hFm25, ⟨by omega, by omega⟩, ⟨by omega, by omega⟩⟩
        · refine zw_ite (fun h46 => ?_) (fun h46 => ?_)
          · have r47 : (-2147483648) ≤ (m25 a0 2) ∧ (m25 a0 2) ≤ 2147483647 := zi_rd hIm25 hc0 zb_28_2
            have e48 : (m25 a0 2) = 0 := (zs_eq hmm25)
            have hM : (16 - 0) * 1 + 5 < ((22 : Nat) : Int) := by omega
            exact (zl_143 n (m0 := m0) hc0 22).1 0 0 m25 hIm25 hFm25 ⟨by omega, by omega⟩ ⟨by omega, by omega⟩ ⟨by omega, by omega⟩ ⟨by omega, by omega⟩ ⟨by omega, by omega⟩ hM
          · refine zw_ite (fun h49 => ?_) (fun h49 => ?_)
            · have b50 : 0 ≤ (0 : Int) ∧ (0 : Int) < 2 := by omega
              refine zw_if b50 ?_
              have r51 : (-9223372036854775808) ≤ (m25 220 0) ∧ (m25 220 0) ≤ 9223372036854775807 := zi_rd hIm25 zq_220 (zb_129 _)
              refine zw_bd (zw_eq (zu_call_at (zt_T n) (zm_84 n) (zdp_84 n) _ _ _ _ _ rfl (zr_84_0 n _ _ (m25 220 0) a1 m25)) ?_)
              have b52 := zu_shr_rg (m25 220 0) a1
              have b53 := zu_i64_rg 3 (zu_shr (m25 220 0) a1) 1
              have c54 := zu_lcmp_sp (zu_i64 3 (zu_shr (m25 220 0) a1) 1) 1
              refine zw_ite (fun h55 => ?_) (fun h55 => ?_)
              · refine zw_b (by omega) ?_
                refine zw_some ?_
                refine zw_ite (fun h56 => ?_) (fun h56 => ?_)
                · have r57 : (-2147483648) ≤ (m25 a0 2) ∧ (m25 a0 2) ≤ 2147483647 := zi_rd hIm25 hc0 zb_28_2
                  have e58 : (m25 a0 2) = 0 := (zs_eq hmm25)
                  exact zw_some ⟨hIm25, hFm25, ⟨by decide, by decide⟩, ⟨by omega, by omega⟩⟩
                · exfalso; omega
              · refine zw_b (by omega) ?_
                refine zw_some ?_
                refine zw_ite (fun h59 => ?_) (fun h59 => ?_)
                · exfalso; omega
                · have r60 : (-2147483648) ≤ (m25 a0 2) ∧ (m25 a0 2) ≤ 2147483647 := zi_rd hIm25 hc0 zb_28_2
                  have e61 : (m25 a0 2) = 0 := (zs_eq hmm25)
                  exact zw_some ⟨hIm25, hFm25, ⟨by decide, by decide⟩, ⟨by omega, by omega⟩⟩
            · refine zw_ite (fun h62 => ?_) (fun h62 => ?_)
              · have r63 : (-2147483648) ≤ (m25 a0 2) ∧ (m25 a0 2) ≤ 2147483647 := zi_rd hIm25 hc0 zb_28_2
                have e64 : (m25 a0 2) = 0 := (zs_eq hmm25)
                have hM : (4 - 0) * 1 + 0 < ((22 : Nat) : Int) := by omega
                exact (zl_143 n (m0 := m0) hc0 22).2 0 0 m25 hIm25 hFm25 ⟨by omega, by omega⟩ ⟨by omega, by omega⟩ ⟨by omega, by omega⟩ ⟨by omega, by omega⟩ ⟨by omega, by omega⟩ hM
              · refine zw_bd (zw_eq (zu_call_at (zt_T n) (zm_142 n) (zdp_142 n) _ _ _ _ _ rfl (zr_142_0 n _ _ a0 2 m25)) ?_)
                generalize hmm65 : zu_up m25 a0 2 2 = m65
                have hIm65 := zi_up hmm65 hIm25 hc0 zb_28_2 (by omega) (by omega)
                have hFm65 := zfr_up hmm65 hFm25 hc0 rfl
                refine zw_some ?_
                have r66 : (-2147483648) ≤ (m65 a0 2) ∧ (m65 a0 2) ≤ 2147483647 := zi_rd hIm65 hc0 zb_28_2
                have e67 : (m65 a0 2) = 2 := (zs_eq hmm65)
                exact zw_some ⟨hIm65, hFm65, ⟨by decide, by decide⟩, ⟨by omega, by omega⟩⟩
      · exfalso; omega
set_option maxHeartbeats 4000000 in
theorem zk_148 (n : Nat) {a0 a1 a2 a3 : Int} {m0 : zu_m} (hIm0 : zi_I m0) (hc0 : zcls a0 = 28) (ha1 : (-2147483648) ≤ a1 ∧ a1 ≤ 2147483647) (ha2 : (-2147483648) ≤ a2 ∧ a2 ≤ 2147483647) (ha3 : (-2147483648) ≤ a3 ∧ a3 ≤ 2147483647)    (hRRUm0 : zR_RU m0) (hRSEm0 : zE1 m0 0) (hRTEm0 : zR_TE m0) : zw (zu_call (zt_T n) 148 [(40, a0), (0, a1), (0, a2), (0, a3)] m0) (fun v m => zi_I m ∧ zfr [(28, 3), (28, 82), (106, 0), (107, 0), (108, 0), (124, 0), (125, 1), (137, 0)] m0 m ∧ zR_RU m ∧ zE1 m 0 ∧ zR_TE m ∧ ((-1) ≤ v ∧ v ≤ 15) ∧ (0 ≤ m a0 2 ∧ m a0 2 ≤ 0)) := by
  have hFm0 : zfr [(28, 3), (28, 82), (106, 0), (107, 0), (108, 0), (124, 0), (125, 1), (137, 0)] m0 m0 := zfr_rf _ _
  refine zw_eq (zu_call_at (zt_T n) (zm_148 n) (zdp_148 n) _ _ _ _ _ rfl (zr_148_0 n _ _ a0 a1 a2 a3 m0)) ?_
  generalize hmm1 : zu_up m0 a0 2 0 = m1
  have hIm1 := zi_up hmm1 hIm0 hc0 zb_28_2 (by omega) (by omega)
  have hFm1 := zfr_up hmm1 hFm0 hc0 rfl
  have hRRUm1 := zR_RU_fr (zdis_fr (zfr_up hmm1 (zfr_rf [(28, 3)] _) hc0 rfl) rfl) hRRUm0
  have hRSEm1 := zR_SE_fr (zdis_fr (zfr_up hmm1 (zfr_rf [(28, 3)] _) hc0 rfl) rfl) hRSEm0
  have hRTEm1 := zR_TE_fr (zdis_fr (zfr_up hmm1 (zfr_rf [(28, 3)] _) hc0 rfl) rfl) hRTEm0
  refine zw_bd (zw_eq (zu_call_at (zt_T n) (zm_123 n) (zdp_123 n) _ _ _ _ _ rfl (zr_123_0 n _ _ a0 a1 m1)) ?_)
  refine zw_ite (fun h2 => ?_) (fun h2 => ?_)
  · refine zw_b (by omega) ?_
    refine zw_some ?_
    refine zw_ite (fun h3 => ?_) (fun h3 => ?_)
    · have r4 : (-2147483648) ≤ (m1 a0 2) ∧ (m1 a0 2) ≤ 2147483647 := zi_rd hIm1 hc0 zb_28_2
      have e5 : (m1 a0 2) = 0 := (zs_eq hmm1)
      exact zw_some ⟨hIm1, hFm1, hRRUm1, hRSEm1, hRTEm1, ⟨by decide, by decide⟩, ⟨by omega, by omega⟩⟩
    · exfalso; omega
  · refine zw_bd (zw_eq (zu_call_at (zt_T n) (zm_36 n) (zdp_36 n) _ _ _ _ _ rfl (zr_36_0 n _ _ a0 m1)) ?_)
    have r6 : 1 ≤ (m1 a0 12) ∧ (m1 a0 12) ≤ 8 := zi_rd hIm1 hc0 zb_28_12
    have r7 : 1 ≤ (m1 a0 13) ∧ (m1 a0 13) ≤ 6 := zi_rd hIm1 hc0 zb_28_13
    have p8 := zmul_bd (x := (m1 a0 12)) (y := (m1 a0 13)) (a := 1) (b := 1) (A := 8) (B := 6) (by omega) (by omega) (by omega) (by omega) (by omega) (by omega)
    have w9 := zu_w32_id (z := (m1 a0 12) * (m1 a0 13)) (by omega) (by omega)
    refine zw_some ?_
    refine zw_ite (fun h10 => ?_) (fun h10 => ?_)
    · refine zw_b (by omega) ?_
      refine zw_some ?_
      refine zw_ite (fun h11 => ?_) (fun h11 => ?_)
      · have r12 : (-2147483648) ≤ (m1 a0 2) ∧ (m1 a0 2) ≤ 2147483647 := zi_rd hIm1 hc0 zb_28_2
        have e13 : (m1 a0 2) = 0 := (zs_eq hmm1)
        exact zw_some ⟨hIm1, hFm1, hRRUm1, hRSEm1, hRTEm1, ⟨by decide, by decide⟩, ⟨by omega, by omega⟩⟩
      · exfalso; omega
    · refine zw_b (by omega) ?_
      refine zw_some ?_
      refine zw_ite (fun h14 => ?_) (fun h14 => ?_)
      · exfalso; omega
      · refine zw_bd (zw_eq (zu_call_at (zt_T n) (zm_83 n) (zdp_83 n) _ _ _ _ _ rfl (zr_83_0 n _ _ a2 0 3 m1)) ?_)
        refine zw_ite (fun h15 => ?_) (fun h15 => ?_)
        · refine zw_b (by omega) ?_
          refine zw_some ?_
          refine zw_ite (fun h16 => ?_) (fun h16 => ?_)
          · have r17 : (-2147483648) ≤ (m1 a0 2) ∧ (m1 a0 2) ≤ 2147483647 := zi_rd hIm1 hc0 zb_28_2
            have e18 : (m1 a0 2) = 0 := (zs_eq hmm1)
            exact zw_some ⟨hIm1, hFm1, hRRUm1, hRSEm1, hRTEm1, ⟨by decide, by decide⟩, ⟨by omega, by omega⟩⟩
          · exfalso; omega
        · refine zw_ite (fun h19 => ?_) (fun h19 => ?_)
          · refine zw_b (by omega) ?_
            refine zw_some ?_
            refine zw_ite (fun h20 => ?_) (fun h20 => ?_)
            · have r21 : (-2147483648) ≤ (m1 a0 2) ∧ (m1 a0 2) ≤ 2147483647 := zi_rd hIm1 hc0 zb_28_2
              have e22 : (m1 a0 2) = 0 := (zs_eq hmm1)
              exact zw_some ⟨hIm1, hFm1, hRRUm1, hRSEm1, hRTEm1, ⟨by decide, by decide⟩, ⟨by omega, by omega⟩⟩
            · exfalso; omega
          · refine zw_b (by omega) ?_
            refine zw_some ?_
            refine zw_ite (fun h23 => ?_) (fun h23 => ?_)
            · exfalso; omega
            · refine zw_bd (zw_eq (zu_call_at (zt_T n) (zm_83 n) (zdp_83 n) _ _ _ _ _ rfl (zr_83_0 n _ _ a3 0 9 m1)) ?_)
              refine zw_ite (fun h24 => ?_) (fun h24 => ?_)
              · refine zw_b (by omega) ?_
                refine zw_some ?_
                refine zw_ite (fun h25 => ?_) (fun h25 => ?_)
                · have r26 : (-2147483648) ≤ (m1 a0 2) ∧ (m1 a0 2) ≤ 2147483647 := zi_rd hIm1 hc0 zb_28_2
                  have e27 : (m1 a0 2) = 0 := (zs_eq hmm1)
                  exact zw_some ⟨hIm1, hFm1, hRRUm1, hRSEm1, hRTEm1, ⟨by decide, by decide⟩, ⟨by omega, by omega⟩⟩
                · exfalso; omega
              · refine zw_ite (fun h28 => ?_) (fun h28 => ?_)
                · refine zw_b (by omega) ?_
                  refine zw_some ?_
                  refine zw_ite (fun h29 => ?_) (fun h29 => ?_)
                  · have r30 : (-2147483648) ≤ (m1 a0 2) ∧ (m1 a0 2) ≤ 2147483647 := zi_rd hIm1 hc0 zb_28_2
                    have e31 : (m1 a0 2) = 0 := (zs_eq hmm1)
                    exact zw_some ⟨hIm1, hFm1, hRRUm1, hRSEm1, hRTEm1, ⟨by decide, by decide⟩, ⟨by omega, by omega⟩⟩
                  · exfalso; omega
                · refine zw_b (by omega) ?_
                  refine zw_some ?_
                  refine zw_ite (fun h32 => ?_) (fun h32 => ?_)
                  · exfalso; omega
                  · have b33 : 0 ≤ (0 : Int) ∧ (0 : Int) < 2 := by omega
                    refine zw_if b33 ?_
                    have r34 : 0 ≤ (m1 216 0) ∧ (m1 216 0) ≤ 16 := zi_rdr (m := 2) (r0 := 0) (r1 := 0) hIm1 zq_216 (by omega) (by decide +kernel)
                    refine zw_ite (fun h35 => ?_) (fun h35 => ?_)
                    · refine zw_bd (zw_mono (zk_190 n hIm1 hc0 hRRUm1 hRSEm1 hRTEm1) (fun v37 m36 hqm36 => ?_))
                      obtain ⟨hIm36, hfm36, hvm36⟩ := hqm36
                      have hFm36 := zfr_tr hFm1 hfm36 rfl
                      obtain ⟨hRRUm36, hRSEm36, hRTEm36, hvm36⟩ := hvm36
                      refine zw_bd (zw_eq (zu_call_at (zt_T n) (zm_149 n) (zdp_149 n) _ _ _ _ _ rfl (zr_149_0 n _ _ a0 0 a1 a2 a3 m36)) ?_)
                      have b38 : 0 ≤ (0 : Int) ∧ (0 : Int) < 2 := by omega
                      refine zw_if b38 ?_
                      have r39 : 0 ≤ (m36 216 0) ∧ (m36 216 0) ≤ 16 := zi_rdr (m := 2) (r0 := 0) (r1 := 0) hIm36 zq_216 (by omega) (by decide +kernel)
                      have e40 : (m36 216 0) = (m1 216 0) := (zfr_ap hfm36 zq_216 rfl)
                      have b41 : 0 ≤ (m36 216 0) ∧ (m36 216 0) < 36 := by omega
                      refine zw_if b41 ?_
                      generalize hmm42 : zu_up m36 197 (m36 216 0) a1 = m42
                      have hIm42 := zi_up hmm42 hIm36 zq_197 (zb_106 _) (by omega) (by omega)
                      have hFm42 := zfr_up hmm42 hFm36 zq_197 rfl
                      have hRRUm42 := zR_RU_fr (zdis_fr (zfr_up hmm42 (zfr_rf [(106, 0)] _) zq_197 rfl) rfl) hRRUm36
                      have hRSEm42 := zR_SE_fr (zdis_fr (zfr_up hmm42 (zfr_rf [(106, 0)] _) zq_197 rfl) rfl) hRSEm36
                      have hRTEm42 := zR_TE_fr (zdis_fr (zfr_up hmm42 (zfr_rf [(106, 0)] _) zq_197 rfl) rfl) hRTEm36
                      have b43 : 0 ≤ (m36 216 0) ∧ (m36 216 0) < 36 := by omega
                      refine zw_if b43 ?_
                      generalize hmm44 : zu_up m42 198 (m36 216 0) a2 = m44
                      have hIm44 := zi_up hmm44 hIm42 zq_198 (zb_107 _) (by omega) (by omega)
                      have hFm44 := zfr_up hmm44 hFm42 zq_198 rfl
                      have hRRUm44 := zR_RU_fr (zdis_fr (zfr_up hmm44 (zfr_rf [(107, 0)] _) zq_198 rfl) rfl) hRRUm42
                      have hRSEm44 := zR_SE_fr (zdis_fr (zfr_up hmm44 (zfr_rf [(107, 0)] _) zq_198 rfl) rfl) hRSEm42
                      have hRTEm44 := zR_TE_fr (zdis_fr (zfr_up hmm44 (zfr_rf [(107, 0)] _) zq_198 rfl) rfl) hRTEm42
                      have b45 : 0 ≤ (m36 216 0) ∧ (m36 216 0) < 36 := by omega
                      refine zw_if b45 ?_
                      generalize hmm46 : zu_up m44 199 (m36 216 0) a3 = m46
                      have hIm46 := zi_up hmm46 hIm44 zq_199 (zb_108 _) (by omega) (by omega)
                      have hFm46 := zfr_up hmm46 hFm44 zq_199 rfl
                      have hRRUm46 := zR_RU_fr (zdis_fr (zfr_up hmm46 (zfr_rf [(108, 0)] _) zq_199 rfl) rfl) hRRUm44
                      have hRSEm46 := zR_SE_fr (zdis_fr (zfr_up hmm46 (zfr_rf [(108, 0)] _) zq_199 rfl) rfl) hRSEm44
                      have hRTEm46 := zR_TE_fr (zdis_fr (zfr_up hmm46 (zfr_rf [(108, 0)] _) zq_199 rfl) rfl) hRTEm44
                      have w47 := zu_w32_id (z := 18 * 0) (by omega) (by omega)
                      have w48 := zu_w32_id (z := (zu_w32 (18 * 0)) + (m36 216 0)) (by omega) (by omega)
                      have b49 : 0 ≤ (zu_w32 ((zu_w32 (18 * 0)) + (m36 216 0))) ∧ (zu_w32 ((zu_w32 (18 * 0)) + (m36 216 0))) < 36 := by omega
                      refine zw_if b49 ?_
                      generalize hmm50 : zu_up m46 215 (zu_w32 ((zu_w32 (18 * 0)) + (m36 216 0))) (-1) = m50
                      have hIm50 := zi_up hmm50 hIm46 zq_215 (zb_124 _) (by omega) (by omega)
                      have hFm50 := zfr_up hmm50 hFm46 zq_215 rfl
                      have hRRUm50 := zR_RU_fr (zdis_fr (zfr_up hmm50 (zfr_rf [(124, 0)] _) zq_215 rfl) rfl) hRRUm46
                      have hRSEm50 := zR_SE_fr (zdis_fr (zfr_up hmm50 (zfr_rf [(124, 0)] _) zq_215 rfl) rfl) hRSEm46
                      have hRTEm50 := zR_TE_fr (zdis_fr (zfr_up hmm50 (zfr_rf [(124, 0)] _) zq_215 rfl) rfl) hRTEm46
                      have b51 : 0 ≤ (0 : Int) ∧ (0 : Int) < 2 := by omega
                      refine zw_if b51 ?_
                      have r52 : 0 ≤ (m50 216 0) ∧ (m50 216 0) ≤ 16 := zi_rdr (m := 2) (r0 := 0) (r1 := 0) hIm50 zq_216 (by omega) (by decide +kernel)
                      have e53 : (m50 216 0) = (m36 216 0) := (Eq.trans (zs_ne hmm50 (Or.inl (zc_ne zq_216 zq_215 (by decide)))) (Eq.trans (zs_ne hmm46 (Or.inl (zc_ne zq_216 zq_199 (by decide)))) (Eq.trans (zs_ne hmm44 (Or.inl (zc_ne zq_216 zq_198 (by decide)))) (zs_ne hmm42 (Or.inl (zc_ne zq_216 zq_197 (by decide)))))))
                      have w54 := zu_w32_id (z := (m50 216 0) + 1) (by omega) (by omega)
                      have b55 : 0 ≤ (0 : Int) ∧ (0 : Int) < 2 := by omega
                      refine zw_if b55 ?_
                      generalize hmm56 : zu_up m50 216 0 (zu_w32 ((m50 216 0) + 1)) = m56
                      have hIm56 := zi_upr (m := 2) (r0 := 0) (r1 := 0) (lo := 0) (hi := 16) hmm56 hIm50 zq_216 (by omega) (by decide +kernel) (by omega) (by omega)
                      have hFm56 := zfr_up hmm56 hFm50 zq_216 rfl
                      have hRRUm56 := zR_RU_fr (zdis_fr (zfr_up hmm56 (zfr_rf [(125, 1)] _) zq_216 rfl) rfl) hRRUm50
                      have hRSEm56 := zR_SE_fr (zdis_fr (zfr_up hmm56 (zfr_rf [(125, 1)] _) zq_216 rfl) rfl) hRSEm50
                      have r57 : 0 ≤ (m50 a0 14) ∧ (m50 a0 14) ≤ 12 := zi_rd hIm50 hc0 zb_28_14
                      have r58 : 0 ≤ (m56 a0 14) ∧ (m56 a0 14) ≤ 12 := zi_rd hIm56 hc0 zb_28_14
                      have e59 : (m56 a0 14) = (m50 a0 14) := (zs_ne hmm56 (Or.inl (zc_ne hc0 zq_216 (by decide))))
                      have r60 : 0 ≤ (m56 216 0) ∧ (m56 216 0) ≤ 16 := zi_rdr (m := 2) (r0 := 0) (r1 := 0) hIm56 zq_216 (by omega) (by decide +kernel)
                      have e61 : (m56 216 0) = (zu_w32 ((m50 216 0) + 1)) := (zs_eq hmm56)
                      have s62 := zTE_rd hRTEm50 (zone_190 hc0)
                      have hRTEm56 := zTE_of (m := m56) (zone_190 hc0) (by omega)
                      refine zw_some ?_
                      have b63 : 0 ≤ (0 : Int) ∧ (0 : Int) < 2 := by omega
                      refine zw_if b63 ?_
                      have w64 := zu_w32_id (z := (m56 216 0) - 1) (by omega) (by omega)
                      have r65 : (-2147483648) ≤ (m56 a0 2) ∧ (m56 a0 2) ≤ 2147483647 := zi_rd hIm56 hc0 zb_28_2
                      have e66 : (m56 a0 2) = 0 := (Eq.trans (zs_ne hmm56 (Or.inl (zc_ne hc0 zq_216 (by decide)))) (Eq.trans (zs_ne hmm50 (Or.inl (zc_ne hc0 zq_215 (by decide)))) (Eq.trans (zs_ne hmm46 (Or.inl (zc_ne hc0 zq_199 (by decide)))) (Eq.trans (zs_ne hmm44 (Or.inl (zc_ne hc0 zq_198 (by decide)))) (Eq.trans (zs_ne hmm42 (Or.inl (zc_ne hc0 zq_197 (by decide)))) (Eq.trans (zfr_ap hfm36 hc0 rfl) (zs_eq hmm1)))))))
                      exact zw_some ⟨hIm56, hFm56, hRRUm56, hRSEm56, hRTEm56, ⟨by omega, by omega⟩, ⟨by omega, by omega⟩⟩
                    · have r67 : (-2147483648) ≤ (m1 a0 2) ∧ (m1 a0 2) ≤ 2147483647 := zi_rd hIm1 hc0 zb_28_2
                      have e68 : (m1 a0 2) = 0 := (zs_eq hmm1)
                      exact zw_some ⟨hIm1, hFm1, hRRUm1, hRSEm1, hRTEm1, ⟨by decide, by decide⟩, ⟨by omega, by omega⟩⟩
set_option maxHeartbeats 4000000 in
theorem zk_150 (n : Nat) {a0 : Int} {m0 : zu_m} (hIm0 : zi_I m0) (hc0 : zcls a0 = 28)     (hRRUm0 : zR_RU m0) (hRSEm0 : zE1 m0 0) (hRTEm0 : zR_TE m0) : zw (zu_call (zt_T n) 150 [(40, a0)] m0) (fun v m => zi_I m ∧ zfr [(28, 3), (28, 82), (125, 1), (137, 0)] m0 m ∧ zR_RU m ∧ zE1 m 0 ∧ zR_TE m ∧ (0 ≤ v ∧ v ≤ 1) ∧ (0 ≤ m a0 2 ∧ m a0 2 ≤ 0)) := by
  have hFm0 : zfr [(28, 3), (28, 82), (125, 1), (137, 0)] m0 m0 := zfr_rf _ _
  have r1 : 0 ≤ (m0 a0 14) ∧ (m0 a0 14) ≤ 12 := zi_rd hIm0 hc0 zb_28_14
  have r2 : 0 ≤ (m0 216 0) ∧ (m0 216 0) ≤ 16 := zi_rdr (m := 2) (r0 := 0) (r1 := 0) hIm0 zq_216 (by omega) (by decide +kernel)
  have s3 := zTE_rd hRTEm0 (zone_190 hc0)
  refine zw_eq (zu_call_at (zt_T n) (zm_150 n) (zdp_150 n) _ _ _ _ _ rfl (zr_150_0 n _ _ a0 m0)) ?_
  generalize hmm4 : zu_up m0 a0 2 0 = m4
  have hIm4 := zi_up hmm4 hIm0 hc0 zb_28_2 (by omega) (by omega)
  have hFm4 := zfr_up hmm4 hFm0 hc0 rfl
  have hRRUm4 := zR_RU_fr (zdis_fr (zfr_up hmm4 (zfr_rf [(28, 3)] _) hc0 rfl) rfl) hRRUm0
  have hRSEm4 := zR_SE_fr (zdis_fr (zfr_up hmm4 (zfr_rf [(28, 3)] _) hc0 rfl) rfl) hRSEm0
  have hRTEm4 := zR_TE_fr (zdis_fr (zfr_up hmm4 (zfr_rf [(28, 3)] _) hc0 rfl) rfl) hRTEm0
  have b5 : 0 ≤ (0 : Int) ∧ (0 : Int) < 2 := by omega
  refine zw_if b5 ?_
  have r6 : 0 ≤ (m4 216 0) ∧ (m4 216 0) ≤ 16 := zi_rdr (m := 2) (r0 := 0) (r1 := 0) hIm4 zq_216 (by omega) (by decide +kernel)
  have e7 : (m4 216 0) = (m0 216 0) := (zs_ne hmm4 (Or.inl (zc_ne zq_216 hc0 (by decide))))
  have r8 : 0 ≤ (m4 a0 14) ∧ (m4 a0 14) ≤ 12 := zi_rd hIm4 hc0 zb_28_14
  have e9 : (m4 a0 14) = (m0 a0 14) := (zs_ne hmm4 (Or.inr (by decide)))
  refine zw_ite (fun h10 => ?_) (fun h10 => ?_)
  · refine zw_b (by omega) ?_
    have r11 : (-2147483648) ≤ (m4 a0 2) ∧ (m4 a0 2) ≤ 2147483647 := zi_rd hIm4 hc0 zb_28_2
    have e12 : (m4 a0 2) = 0 := (zs_eq hmm4)
    exact zw_some ⟨hIm4, hFm4, hRRUm4, hRSEm4, hRTEm4, ⟨by decide, by decide⟩, ⟨by omega, by omega⟩⟩
  · have b13 : 0 ≤ (0 : Int) ∧ (0 : Int) < 2 := by omega
    refine zw_if b13 ?_
    have w14 := zu_w32_id (z := (m4 216 0) - 1) (by omega) (by omega)
    have b15 : 0 ≤ (zu_w32 ((m4 216 0) - 1)) ∧ (zu_w32 ((m4 216 0) - 1)) < 36 := by omega
    refine zw_if b15 ?_
    have r16 : (-3) ≤ (m4 215 (zu_w32 ((m4 216 0) - 1))) ∧ (m4 215 (zu_w32 ((m4 216 0) - 1))) ≤ 3 := zi_rd hIm4 zq_215 (zb_124 _)
    refine zw_ite (fun h17 => ?_) (fun h17 => ?_)
    · refine zw_bd (zw_mono (zk_190 n hIm4 hc0 hRRUm4 hRSEm4 hRTEm4) (fun v19 m18 hqm18 => ?_))
      obtain ⟨hIm18, hfm18, hvm18⟩ := hqm18
      have hFm18 := zfr_tr hFm4 hfm18 rfl
      obtain ⟨hRRUm18, hRSEm18, hRTEm18, hvm18⟩ := hvm18
      have r20 : 0 ≤ (m18 a0 14) ∧ (m18 a0 14) ≤ 12 := zi_rd hIm18 hc0 zb_28_14
      have e21 : (m18 a0 14) = (m4 a0 14) := (zfr_ap hfm18 hc0 rfl)
      have r22 : 0 ≤ (m18 216 0) ∧ (m18 216 0) ≤ 16 := zi_rdr (m := 2) (r0 := 0) (r1 := 0) hIm18 zq_216 (by omega) (by decide +kernel)
      have e23 : (m18 216 0) = (m4 216 0) := (zfr_ap hfm18 zq_216 rfl)
      have s24 := zTE_rd hRTEm18 (zone_190 hc0)
      have b25 : 0 ≤ (0 : Int) ∧ (0 : Int) < 2 := by omega
      refine zw_if b25 ?_
      have w26 := zu_w32_id (z := (m18 216 0) - 1) (by omega) (by omega)
      have b27 : 0 ≤ (0 : Int) ∧ (0 : Int) < 2 := by omega
      refine zw_if b27 ?_
      generalize hmm28 : zu_up m18 216 0 (zu_w32 ((m18 216 0) - 1)) = m28
      have hIm28 := zi_upr (m := 2) (r0 := 0) (r1 := 0) (lo := 0) (hi := 16) hmm28 hIm18 zq_216 (by omega) (by decide +kernel) (by omega) (by omega)
      have hFm28 := zfr_up hmm28 hFm18 zq_216 rfl
      have hRRUm28 := zR_RU_fr (zdis_fr (zfr_up hmm28 (zfr_rf [(125, 1)] _) zq_216 rfl) rfl) hRRUm18
      have hRSEm28 := zR_SE_fr (zdis_fr (zfr_up hmm28 (zfr_rf [(125, 1)] _) zq_216 rfl) rfl) hRSEm18
      have r29 : 0 ≤ (m28 a0 14) ∧ (m28 a0 14) ≤ 12 := zi_rd hIm28 hc0 zb_28_14
      have e30 : (m28 a0 14) = (m18 a0 14) := (zs_ne hmm28 (Or.inl (zc_ne hc0 zq_216 (by decide))))
      have r31 : 0 ≤ (m28 216 0) ∧ (m28 216 0) ≤ 16 := zi_rdr (m := 2) (r0 := 0) (r1 := 0) hIm28 zq_216 (by omega) (by decide +kernel)
      have e32 : (m28 216 0) = (zu_w32 ((m18 216 0) - 1)) := (zs_eq hmm28)
      have s33 := zTE_rd hRTEm18 (zone_190 hc0)
      have hRTEm28 := zTE_of (m := m28) (zone_190 hc0) (by omega)
      refine zw_b (by omega) ?_
      have r34 : (-2147483648) ≤ (m28 a0 2) ∧ (m28 a0 2) ≤ 2147483647 := zi_rd hIm28 hc0 zb_28_2
      have e35 : (m28 a0 2) = 0 := (Eq.trans (zs_ne hmm28 (Or.inl (zc_ne hc0 zq_216 (by decide)))) (Eq.trans (zfr_ap hfm18 hc0 rfl) (zs_eq hmm4)))
      exact zw_some ⟨hIm28, hFm28, hRRUm28, hRSEm28, hRTEm28, ⟨by decide, by decide⟩, ⟨by omega, by omega⟩⟩
    · refine zw_b (by omega) ?_
      have r36 : (-2147483648) ≤ (m4 a0 2) ∧ (m4 a0 2) ≤ 2147483647 := zi_rd hIm4 hc0 zb_28_2
      have e37 : (m4 a0 2) = 0 := (zs_eq hmm4)
      exact zw_some ⟨hIm4, hFm4, hRRUm4, hRSEm4, hRTEm4, ⟨by decide, by decide⟩, ⟨by omega, by omega⟩⟩
set_option maxHeartbeats 4000000 in
theorem zk_151 (n : Nat) {a0 a1 a2 : Int} {m0 : zu_m} (hIm0 : zi_I m0) (hc0 : zcls a0 = 28) (ha1 : (-2147483648) ≤ a1 ∧ a1 ≤ 2147483647) (ha2 : (-2147483648) ≤ a2 ∧ a2 ≤ 2147483647)    (hRRUm0 : zR_RU m0) (hRSEm0 : zE1 m0 0) (hRTEm0 : zR_TE m0) : zw (zu_call (zt_T n) 151 [(40, a0), (0, a1), (0, a2)] m0) (fun v m => zi_I m ∧ zfr [(28, 3), (28, 82), (126, 0), (137, 0)] m0 m ∧ zR_RU m ∧ zE1 m 0 ∧ zR_TE m ∧ (0 ≤ v ∧ v ≤ 1) ∧ (0 ≤ m a0 2 ∧ m a0 2 ≤ 0)) := by
  have hFm0 : zfr [(28, 3), (28, 82), (126, 0), (137, 0)] m0 m0 := zfr_rf _ _
  refine zw_eq (zu_call_at (zt_T n) (zm_151 n) (zdp_151 n) _ _ _ _ _ rfl (zr_151_0 n _ _ a0 a1 a2 m0)) ?_
  generalize hmm1 : zu_up m0 a0 2 0 = m1
  have hIm1 := zi_up hmm1 hIm0 hc0 zb_28_2 (by omega) (by omega)
  have hFm1 := zfr_up hmm1 hFm0 hc0 rfl
  have hRRUm1 := zR_RU_fr (zdis_fr (zfr_up hmm1 (zfr_rf [(28, 3)] _) hc0 rfl) rfl) hRRUm0
  have hRSEm1 := zR_SE_fr (zdis_fr (zfr_up hmm1 (zfr_rf [(28, 3)] _) hc0 rfl) rfl) hRSEm0
  have hRTEm1 := zR_TE_fr (zdis_fr (zfr_up hmm1 (zfr_rf [(28, 3)] _) hc0 rfl) rfl) hRTEm0
  refine zw_bd (zw_eq (zu_call_at (zt_T n) (zm_125 n) (zdp_125 n) _ _ _ _ _ rfl (zr_125_0 n _ _ a0 a1 m1)) ?_)
  refine zw_ite (fun h2 => ?_) (fun h2 => ?_)
  · refine zw_b (by omega) ?_
    refine zw_some ?_
    refine zw_ite (fun h3 => ?_) (fun h3 => ?_)
    · refine zw_b (by omega) ?_
      have r4 : (-2147483648) ≤ (m1 a0 2) ∧ (m1 a0 2) ≤ 2147483647 := zi_rd hIm1 hc0 zb_28_2
      have e5 : (m1 a0 2) = 0 := (zs_eq hmm1)
      exact zw_some ⟨hIm1, hFm1, hRRUm1, hRSEm1, hRTEm1, ⟨by decide, by decide⟩, ⟨by omega, by omega⟩⟩
    · exfalso; omega
  · have r6 : 0 ≤ (m1 a0 15) ∧ (m1 a0 15) ≤ 4 := zi_rd hIm1 hc0 zb_28_15
    refine zw_ite (fun h7 => ?_) (fun h7 => ?_)
    · refine zw_b (by omega) ?_
      refine zw_some ?_
      refine zw_ite (fun h8 => ?_) (fun h8 => ?_)
      · refine zw_b (by omega) ?_
        have r9 : (-2147483648) ≤ (m1 a0 2) ∧ (m1 a0 2) ≤ 2147483647 := zi_rd hIm1 hc0 zb_28_2
        have e10 : (m1 a0 2) = 0 := (zs_eq hmm1)
        exact zw_some ⟨hIm1, hFm1, hRRUm1, hRSEm1, hRTEm1, ⟨by decide, by decide⟩, ⟨by omega, by omega⟩⟩
      · exfalso; omega
    · refine zw_b (by omega) ?_
      refine zw_some ?_
      refine zw_ite (fun h11 => ?_) (fun h11 => ?_)
      · exfalso; omega
      · refine zw_bd (zw_eq (zu_call_at (zt_T n) (zm_123 n) (zdp_123 n) _ _ _ _ _ rfl (zr_123_0 n _ _ a0 a2 m1)) ?_)
        refine zw_ite (fun h12 => ?_) (fun h12 => ?_)
        · refine zw_b (by omega) ?_
          refine zw_some ?_
          refine zw_ite (fun h13 => ?_) (fun h13 => ?_)
          · refine zw_b (by omega) ?_
            have r14 : (-2147483648) ≤ (m1 a0 2) ∧ (m1 a0 2) ≤ 2147483647 := zi_rd hIm1 hc0 zb_28_2
            have e15 : (m1 a0 2) = 0 := (zs_eq hmm1)
            exact zw_some ⟨hIm1, hFm1, hRRUm1, hRSEm1, hRTEm1, ⟨by decide, by decide⟩, ⟨by omega, by omega⟩⟩
          · exfalso; omega
        · refine zw_bd (zw_eq (zu_call_at (zt_T n) (zm_36 n) (zdp_36 n) _ _ _ _ _ rfl (zr_36_0 n _ _ a0 m1)) ?_)
          have r16 : 1 ≤ (m1 a0 12) ∧ (m1 a0 12) ≤ 8 := zi_rd hIm1 hc0 zb_28_12
          have r17 : 1 ≤ (m1 a0 13) ∧ (m1 a0 13) ≤ 6 := zi_rd hIm1 hc0 zb_28_13
          have p18 := zmul_bd (x := (m1 a0 12)) (y := (m1 a0 13)) (a := 1) (b := 1) (A := 8) (B := 6) (by omega) (by omega) (by omega) (by omega) (by omega) (by omega)
          have w19 := zu_w32_id (z := (m1 a0 12) * (m1 a0 13)) (by omega) (by omega)
          refine zw_some ?_
          refine zw_ite (fun h20 => ?_) (fun h20 => ?_)
          · refine zw_b (by omega) ?_
            refine zw_some ?_
            refine zw_ite (fun h21 => ?_) (fun h21 => ?_)
            · refine zw_b (by omega) ?_
              have r22 : (-2147483648) ≤ (m1 a0 2) ∧ (m1 a0 2) ≤ 2147483647 := zi_rd hIm1 hc0 zb_28_2
              have e23 : (m1 a0 2) = 0 := (zs_eq hmm1)
              exact zw_some ⟨hIm1, hFm1, hRRUm1, hRSEm1, hRTEm1, ⟨by decide, by decide⟩, ⟨by omega, by omega⟩⟩
            · exfalso; omega
          · refine zw_b (by omega) ?_
            refine zw_some ?_
            refine zw_ite (fun h24 => ?_) (fun h24 => ?_)
            · exfalso; omega
            · have b25 : 0 ≤ a1 ∧ a1 < 8 := by omega
              refine zw_if b25 ?_
              have r26 : 0 ≤ (m1 217 a1) ∧ (m1 217 a1) ≤ 47 := zi_rd hIm1 zq_217 (zb_126 _)
              refine zw_ite (fun h27 => ?_) (fun h27 => ?_)
              · have hlt : a2 < (m1 a0 12) * (m1 a0 13) := by omega
                refine zw_bd (zw_mono (zk_190 n hIm1 hc0 hRRUm1 hRSEm1 hRTEm1) (fun v29 m28 hqm28 => ?_))
                obtain ⟨hIm28, hfm28, hvm28⟩ := hqm28
                have hFm28 := zfr_tr hFm1 hfm28 rfl
                obtain ⟨hRRUm28, hRSEm28, hRTEm28, hvm28⟩ := hvm28
                have b30 : 0 ≤ a1 ∧ a1 < 8 := by omega
                refine zw_if b30 ?_
                generalize hmm31 : zu_up m28 217 a1 a2 = m31
                have hIm31 := zi_up hmm31 hIm28 zq_217 (zb_126 _) (by omega) (by omega)
                have hFm31 := zfr_up hmm31 hFm28 zq_217 rfl
                have hRRUm31 := zR_RU_fr (zdis_fr (zfr_up hmm31 (zfr_rf [(126, 0)] _) zq_217 rfl) rfl) hRRUm28
                have hRTEm31 := zR_TE_fr (zdis_fr (zfr_up hmm31 (zfr_rf [(126, 0)] _) zq_217 rfl) rfl) hRTEm28
                have hRSEm31 := zE1_upx (b' := 0) (x := a1) hmm31 (zone_190 hc0) (by omega) (by omega) (by omega) (fun _ => zlt_pr rfl hlt (zprod (zfr_ap hfm28 hc0 rfl) (zfr_ap hfm28 hc0 rfl))) hRSEm28
                refine zw_b (by omega) ?_
                have r32 : (-2147483648) ≤ (m31 a0 2) ∧ (m31 a0 2) ≤ 2147483647 := zi_rd hIm31 hc0 zb_28_2
                have e33 : (m31 a0 2) = 0 := (Eq.trans (zs_ne hmm31 (Or.inl (zc_ne hc0 zq_217 (by decide)))) (Eq.trans (zfr_ap hfm28 hc0 rfl) (zs_eq hmm1)))
                exact zw_some ⟨hIm31, hFm31, hRRUm31, hRSEm31, hRTEm31, ⟨by decide, by decide⟩, ⟨by omega, by omega⟩⟩
              · refine zw_b (by omega) ?_
                have r34 : (-2147483648) ≤ (m1 a0 2) ∧ (m1 a0 2) ≤ 2147483647 := zi_rd hIm1 hc0 zb_28_2
                have e35 : (m1 a0 2) = 0 := (zs_eq hmm1)
                exact zw_some ⟨hIm1, hFm1, hRRUm1, hRSEm1, hRTEm1, ⟨by decide, by decide⟩, ⟨by omega, by omega⟩⟩
set_option maxHeartbeats 4000000 in
theorem zk_152 (n : Nat) {a0 a1 : Int} {m0 : zu_m} (hIm0 : zi_I m0) (hc0 : zcls a0 = 28) (ha1 : (-2147483648) ≤ a1 ∧ a1 ≤ 2147483647)    (hRRUm0 : zR_RU m0) (hRSEm0 : zE1 m0 0) (hRTEm0 : zR_TE m0) : zw (zu_call (zt_T n) 152 [(40, a0), (0, a1)] m0) (fun v m => zi_I m ∧ zfr [(28, 3), (28, 63), (28, 82), (137, 0)] m0 m ∧ zR_RU m ∧ zE1 m 0 ∧ zR_TE m ∧ (0 ≤ v ∧ v ≤ 1) ∧ (0 ≤ m a0 2 ∧ m a0 2 ≤ 0)) := by
  have hFm0 : zfr [(28, 3), (28, 63), (28, 82), (137, 0)] m0 m0 := zfr_rf _ _
  refine zw_eq (zu_call_at (zt_T n) (zm_152 n) (zdp_152 n) _ _ _ _ _ rfl (zr_152_0 n _ _ a0 a1 m0)) ?_
  generalize hmm1 : zu_up m0 a0 2 0 = m1
  have hIm1 := zi_up hmm1 hIm0 hc0 zb_28_2 (by omega) (by omega)
  have hFm1 := zfr_up hmm1 hFm0 hc0 rfl
  have hRRUm1 := zR_RU_fr (zdis_fr (zfr_up hmm1 (zfr_rf [(28, 3)] _) hc0 rfl) rfl) hRRUm0
  have hRSEm1 := zR_SE_fr (zdis_fr (zfr_up hmm1 (zfr_rf [(28, 3)] _) hc0 rfl) rfl) hRSEm0
  have hRTEm1 := zR_TE_fr (zdis_fr (zfr_up hmm1 (zfr_rf [(28, 3)] _) hc0 rfl) rfl) hRTEm0
  refine zw_bd (zw_eq (zu_call_at (zt_T n) (zm_83 n) (zdp_83 n) _ _ _ _ _ rfl (zr_83_0 n _ _ a1 0 2 m1)) ?_)
  refine zw_ite (fun h2 => ?_) (fun h2 => ?_)
  · refine zw_b (by omega) ?_
    refine zw_some ?_
    refine zw_ite (fun h3 => ?_) (fun h3 => ?_)
    · refine zw_b (by omega) ?_
      have r4 : (-2147483648) ≤ (m1 a0 2) ∧ (m1 a0 2) ≤ 2147483647 := zi_rd hIm1 hc0 zb_28_2
      have e5 : (m1 a0 2) = 0 := (zs_eq hmm1)
      exact zw_some ⟨hIm1, hFm1, hRRUm1, hRSEm1, hRTEm1, ⟨by decide, by decide⟩, ⟨by omega, by omega⟩⟩
    · exfalso; omega
  · refine zw_ite (fun h6 => ?_) (fun h6 => ?_)
    · refine zw_b (by omega) ?_
      refine zw_some ?_
      refine zw_ite (fun h7 => ?_) (fun h7 => ?_)
      · refine zw_b (by omega) ?_
        have r8 : (-2147483648) ≤ (m1 a0 2) ∧ (m1 a0 2) ≤ 2147483647 := zi_rd hIm1 hc0 zb_28_2
        have e9 : (m1 a0 2) = 0 := (zs_eq hmm1)
        exact zw_some ⟨hIm1, hFm1, hRRUm1, hRSEm1, hRTEm1, ⟨by decide, by decide⟩, ⟨by omega, by omega⟩⟩
      · exfalso; omega
    · refine zw_b (by omega) ?_
      refine zw_some ?_
      refine zw_ite (fun h10 => ?_) (fun h10 => ?_)
      · exfalso; omega
      · have r11 : (-2147483648) ≤ (m1 a0 62) ∧ (m1 a0 62) ≤ 2147483647 := zi_rd hIm1 hc0 zb_28_62
        refine zw_ite (fun h12 => ?_) (fun h12 => ?_)
        · refine zw_bd (zw_mono (zk_190 n hIm1 hc0 hRRUm1 hRSEm1 hRTEm1) (fun v14 m13 hqm13 => ?_))
          obtain ⟨hIm13, hfm13, hvm13⟩ := hqm13
          have hFm13 := zfr_tr hFm1 hfm13 rfl
          obtain ⟨hRRUm13, hRSEm13, hRTEm13, hvm13⟩ := hvm13
          generalize hmm15 : zu_up m13 a0 62 a1 = m15
          have hIm15 := zi_up hmm15 hIm13 hc0 zb_28_62 (by omega) (by omega)
          have hFm15 := zfr_up hmm15 hFm13 hc0 rfl
          have hRRUm15 := zR_RU_fr (zdis_fr (zfr_up hmm15 (zfr_rf [(28, 63)] _) hc0 rfl) rfl) hRRUm13
          have hRSEm15 := zR_SE_fr (zdis_fr (zfr_up hmm15 (zfr_rf [(28, 63)] _) hc0 rfl) rfl) hRSEm13
          have hRTEm15 := zR_TE_fr (zdis_fr (zfr_up hmm15 (zfr_rf [(28, 63)] _) hc0 rfl) rfl) hRTEm13
          refine zw_b (by omega) ?_
          have r16 : (-2147483648) ≤ (m15 a0 2) ∧ (m15 a0 2) ≤ 2147483647 := zi_rd hIm15 hc0 zb_28_2
          have e17 : (m15 a0 2) = 0 := (Eq.trans (zs_ne hmm15 (Or.inr (by decide))) (Eq.trans (zfr_ap hfm13 hc0 rfl) (zs_eq hmm1)))
          exact zw_some ⟨hIm15, hFm15, hRRUm15, hRSEm15, hRTEm15, ⟨by decide, by decide⟩, ⟨by omega, by omega⟩⟩
        · refine zw_b (by omega) ?_
          have r18 : (-2147483648) ≤ (m1 a0 2) ∧ (m1 a0 2) ≤ 2147483647 := zi_rd hIm1 hc0 zb_28_2
          have e19 : (m1 a0 2) = 0 := (zs_eq hmm1)
          exact zw_some ⟨hIm1, hFm1, hRRUm1, hRSEm1, hRTEm1, ⟨by decide, by decide⟩, ⟨by omega, by omega⟩⟩
set_option maxHeartbeats 4000000 in
theorem zk_154 (n : Nat) {a0 a1 : Int} {m0 : zu_m} (hIm0 : zi_I m0) (hc0 : zcls a0 = 28) (ha1 : (-2147483648) ≤ a1 ∧ a1 ≤ 2147483647)     : zw (zu_call (zt_T n) 154 [(40, a0), (0, a1)] m0) (fun v m => zi_I m ∧ zfr [(28, 3)] m0 m ∧ ((-2147483648) ≤ v ∧ v ≤ 2147483647) ∧ (0 ≤ m a0 2 ∧ m a0 2 ≤ 0)) := by
  have hFm0 : zfr [(28, 3)] m0 m0 := zfr_rf _ _
  refine zw_eq (zu_call_at (zt_T n) (zm_154 n) (zdp_154 n) _ _ _ _ _ rfl (zr_154_0 n _ _ a0 a1 m0)) ?_
  generalize hmm1 : zu_up m0 a0 2 0 = m1
  have hIm1 := zi_up hmm1 hIm0 hc0 zb_28_2 (by omega) (by omega)
  have hFm1 := zfr_up hmm1 hFm0 hc0 rfl
  refine zw_bd (zw_eq (zu_call_at (zt_T n) (zm_123 n) (zdp_123 n) _ _ _ _ _ rfl (zr_123_0 n _ _ a0 a1 m1)) ?_)
  refine zw_ite (fun h2 => ?_) (fun h2 => ?_)
  · refine zw_b (by omega) ?_
    refine zw_some ?_
    refine zw_ite (fun h3 => ?_) (fun h3 => ?_)
    · have r4 : (-2147483648) ≤ (m1 a0 2) ∧ (m1 a0 2) ≤ 2147483647 := zi_rd hIm1 hc0 zb_28_2
      have e5 : (m1 a0 2) = 0 := (zs_eq hmm1)
      exact zw_some ⟨hIm1, hFm1, ⟨by decide, by decide⟩, ⟨by omega, by omega⟩⟩
    · exfalso; omega
  · refine zw_bd (zw_eq (zu_call_at (zt_T n) (zm_36 n) (zdp_36 n) _ _ _ _ _ rfl (zr_36_0 n _ _ a0 m1)) ?_)
    have r6 : 1 ≤ (m1 a0 12) ∧ (m1 a0 12) ≤ 8 := zi_rd hIm1 hc0 zb_28_12
    have r7 : 1 ≤ (m1 a0 13) ∧ (m1 a0 13) ≤ 6 := zi_rd hIm1 hc0 zb_28_13
    have p8 := zmul_bd (x := (m1 a0 12)) (y := (m1 a0 13)) (a := 1) (b := 1) (A := 8) (B := 6) (by omega) (by omega) (by omega) (by omega) (by omega) (by omega)
    have w9 := zu_w32_id (z := (m1 a0 12) * (m1 a0 13)) (by omega) (by omega)
    refine zw_some ?_
    refine zw_ite (fun h10 => ?_) (fun h10 => ?_)
    · refine zw_b (by omega) ?_
      refine zw_some ?_
      refine zw_ite (fun h11 => ?_) (fun h11 => ?_)
      · have r12 : (-2147483648) ≤ (m1 a0 2) ∧ (m1 a0 2) ≤ 2147483647 := zi_rd hIm1 hc0 zb_28_2
        have e13 : (m1 a0 2) = 0 := (zs_eq hmm1)
        exact zw_some ⟨hIm1, hFm1, ⟨by decide, by decide⟩, ⟨by omega, by omega⟩⟩
      · exfalso; omega
    · refine zw_b (by omega) ?_
      refine zw_some ?_
      refine zw_ite (fun h14 => ?_) (fun h14 => ?_)
      · exfalso; omega
      · have b15 : 0 ≤ a1 ∧ a1 < 48 := by omega
        refine zw_if b15 ?_
        have r16 : (-2147483648) ≤ (m1 222 a1) ∧ (m1 222 a1) ≤ 2147483647 := zi_rd hIm1 zq_222 (zb_131 _)
        have r17 : (-2147483648) ≤ (m1 a0 2) ∧ (m1 a0 2) ≤ 2147483647 := zi_rd hIm1 hc0 zb_28_2
        have e18 : (m1 a0 2) = 0 := (zs_eq hmm1)
        exact zw_some ⟨hIm1, hFm1, ⟨by omega, by omega⟩, ⟨by omega, by omega⟩⟩
set_option maxHeartbeats 4000000 in
theorem zl_155 (n : Nat) {a0 a1 a2 : Int} {m0 : zu_m} (hc0 : zcls a0 = 28)   : ∀ k : Nat, (∀ (x3 x4 : Int) (mh : zu_m), zi_I mh → zfr [] m0 mh → (0 ≤ a1 ∧ a1 ≤ 3) → (0 ≤ a2 ∧ a2 ≤ 47) → ((-1) ≤ x3 ∧ x3 ≤ 47) → (0 ≤ x4 ∧ x4 ≤ 48) → (48 - x4) * 1 + 0 < (k : Int) → zw (zu_ex (zt_T n) 155 5 [(40, a0), (0, a1), (0, a2), (0, x3), (0, x4)] [] mh) (fun v m => zi_I m ∧ zfr [] m0 m ∧ ((-1) ≤ v ∧ v ≤ 47))) := by
  intro k
  induction k with
  | zero => exact fun x3 x4 mh hImh hFmh hba1 hba2 hbx3 hbx4 hM => by exfalso; omega
  | succ k ih =>
    intro x3 x4 mh hImh hFmh hba1 hba2 hbx3 hbx4 hM
    refine zw_eq (zu_rega_at (zt_T n) (zm_155 n) (zdp_155 n) _ _ _ _ _ _ (zr_155_5 n _ _ a0 a1 a2 x3 x4 mh)) ?_
    refine zw_bd (zw_eq (zu_call_at (zt_T n) (zm_36 n) (zdp_36 n) _ _ _ _ _ rfl (zr_36_0 n _ _ a0 mh)) ?_)
    have r1 : 1 ≤ (mh a0 12) ∧ (mh a0 12) ≤ 8 := zi_rd hImh hc0 zb_28_12
    have r2 : 1 ≤ (mh a0 13) ∧ (mh a0 13) ≤ 6 := zi_rd hImh hc0 zb_28_13
    have p3 := zmul_bd (x := (mh a0 12)) (y := (mh a0 13)) (a := 1) (b := 1) (A := 8) (B := 6) (by omega) (by omega) (by omega) (by omega) (by omega) (by omega)
    have w4 := zu_w32_id (z := (mh a0 12) * (mh a0 13)) (by omega) (by omega)
    refine zw_some ?_
    refine zw_ite (fun h5 => ?_) (fun h5 => ?_)
    · exact zw_some ⟨hImh, hFmh, ⟨by omega, by omega⟩⟩
    · refine zw_bd (zw_mono (zk_134 n hImh hc0 ⟨by omega, by omega⟩ ⟨by omega, by omega⟩) (fun v7 m6 hqm6 => ?_))
      obtain ⟨hIm6, hfm6, hvm6⟩ := hqm6
      have hFm6 := zfr_tr hFmh hfm6 rfl
      refine zw_ite (fun h8 => ?_) (fun h8 => ?_)
      · refine zw_ite (fun h9 => ?_) (fun h9 => ?_)
        · have w10 := zu_w32_id (z := x4 + 1) (by omega) (by omega)
          have hM : (48 - (zu_w32 (x4 + 1))) * 1 + 0 < (k : Int) := by omega
          exact ih x4 (zu_w32 (x4 + 1)) m6 hIm6 hFm6 ⟨by omega, by omega⟩ ⟨by omega, by omega⟩ ⟨by omega, by omega⟩ ⟨by omega, by omega⟩ hM
        · have b11 : 0 ≤ x4 ∧ x4 < 48 := by omega
          refine zw_if b11 ?_
          have r12 : (-2147483648) ≤ (m6 223 x4) ∧ (m6 223 x4) ≤ 2147483647 := zi_rd hIm6 zq_223 (zb_132 _)
          refine zw_bd (zw_mono (zk_135 n hIm6 hc0 ⟨by omega, by omega⟩ ⟨by omega, by omega⟩) (fun v14 m13 hqm13 => ?_))
          obtain ⟨hIm13, hfm13, hvm13⟩ := hqm13
          have hFm13 := zfr_tr hFm6 hfm13 rfl
          have w15 := zu_w32_id (z := v14 + 1) (by omega) (by omega)
          have w16 := zu_w64_rg ((m6 223 x4) * (zu_w32 (v14 + 1)))
          have b17 : 0 ≤ x3 ∧ x3 < 48 := by omega
          refine zw_if b17 ?_
          have r18 : (-2147483648) ≤ (m13 223 x3) ∧ (m13 223 x3) ≤ 2147483647 := zi_rd hIm13 zq_223 (zb_132 _)
          refine zw_bd (zw_mono (zk_135 n hIm13 hc0 ⟨by omega, by omega⟩ ⟨by omega, by omega⟩) (fun v20 m19 hqm19 => ?_))
          obtain ⟨hIm19, hfm19, hvm19⟩ := hqm19
          have hFm19 := zfr_tr hFm13 hfm19 rfl
          have w21 := zu_w32_id (z := v20 + 1) (by omega) (by omega)
          have w22 := zu_w64_rg ((m13 223 x3) * (zu_w32 (v20 + 1)))
          have c23 := zu_lcmp_sp (zu_w64 ((m6 223 x4) * (zu_w32 (v14 + 1)))) (zu_w64 ((m13 223 x3) * (zu_w32 (v20 + 1))))
          refine zw_ite (fun h24 => ?_) (fun h24 => ?_)
          · have w25 := zu_w32_id (z := x4 + 1) (by omega) (by omega)
            have hM : (48 - (zu_w32 (x4 + 1))) * 1 + 0 < (k : Int) := by omega
            exact ih x3 (zu_w32 (x4 + 1)) m19 hIm19 hFm19 ⟨by omega, by omega⟩ ⟨by omega, by omega⟩ ⟨by omega, by omega⟩ ⟨by omega, by omega⟩ hM
          · have w26 := zu_w32_id (z := x4 + 1) (by omega) (by omega)
            have hM : (48 - (zu_w32 (x4 + 1))) * 1 + 0 < (k : Int) := by omega
            exact ih x4 (zu_w32 (x4 + 1)) m19 hIm19 hFm19 ⟨by omega, by omega⟩ ⟨by omega, by omega⟩ ⟨by omega, by omega⟩ ⟨by omega, by omega⟩ hM
      · have w27 := zu_w32_id (z := x4 + 1) (by omega) (by omega)
        have hM : (48 - (zu_w32 (x4 + 1))) * 1 + 0 < (k : Int) := by omega
        exact ih x3 (zu_w32 (x4 + 1)) m6 hIm6 hFm6 ⟨by omega, by omega⟩ ⟨by omega, by omega⟩ ⟨by omega, by omega⟩ ⟨by omega, by omega⟩ hM
set_option maxHeartbeats 4000000 in
theorem zk_155 (n : Nat) {a0 a1 a2 : Int} {m0 : zu_m} (hIm0 : zi_I m0) (hc0 : zcls a0 = 28) (ha1 : 0 ≤ a1 ∧ a1 ≤ 3) (ha2 : 0 ≤ a2 ∧ a2 ≤ 47)     : zw (zu_call (zt_T n) 155 [(40, a0), (0, a1), (0, a2)] m0) (fun v m => zi_I m ∧ zfr [] m0 m ∧ ((-1) ≤ v ∧ v ≤ 47)) := by
  have hFm0 : zfr [] m0 m0 := zfr_rf _ _
  refine zw_eq (zu_call_at (zt_T n) (zm_155 n) (zdp_155 n) _ _ _ _ _ rfl (zr_155_0 n _ _ a0 a1 a2 m0)) ?_
  have hM : (48 - 0) * 1 + 0 < ((49 : Nat) : Int) := by omega
  exact (zl_155 n (m0 := m0) hc0 49) (-1) 0 m0 hIm0 hFm0 ⟨by omega, by omega⟩ ⟨by omega, by omega⟩ ⟨by omega, by omega⟩ ⟨by omega, by omega⟩ hM
set_option maxHeartbeats 4000000 in
theorem zl_169 (n : Nat) {a0 a1 : Int} {m0 : zu_m} (hc0 : zcls a0 = 28)   : ∀ k : Nat, (∀ (x2 x3 : Int) (mh : zu_m), zi_I mh → zfr [(28, 76), (133, 0)] m0 mh → ((-1) ≤ a1 ∧ a1 ≤ 2147483647) → ((-2147483648) ≤ x2 ∧ x2 ≤ 2147483647) → (0 ≤ x3 ∧ x3 ≤ 4) → (1 ≤ mh a0 75 ∧ mh a0 75 ≤ 4) → (4 - x3) * 6 + 5 < (k : Int) → zw (zu_ex (zt_T n) 169 8 [(40, a0), (0, a1), (0, x2), (0, x3), (2, 0)] [] mh) (fun v m => zi_I m ∧ zfr [(28, 76), (133, 0)] m0 m ∧ ((-2147483648) ≤ v ∧ v ≤ 2147483647))) ∧ (∀ (x2 x3 x4 : Int) (mh : zu_m), zi_I mh → zfr [(28, 76), (133, 0)] m0 mh → ((-1) ≤ a1 ∧ a1 ≤ 2147483647) → ((-2147483648) ≤ x2 ∧ x2 ≤ 2147483647) → (0 ≤ x3 ∧ x3 ≤ 3) → (0 ≤ x4 ∧ x4 ≤ 4) → (1 ≤ mh a0 75 ∧ mh a0 75 ≤ 4) → (4 - x4) * 1 + (4 - x3) * 6 + 0 < (k : Int) → zw (zu_ex (zt_T n) 169 19 [(40, a0), (0, a1), (0, x2), (0, x3), (0, x4)] [] mh) (fun v m => zi_I m ∧ zfr [(28, 76), (133, 0)] m0 m ∧ ((-2147483648) ≤ v ∧ v ≤ 2147483647))) := by
  intro k
  induction k with
  | zero => exact ⟨fun x2 x3 mh hImh hFmh hba1 hbx2 hbx3 hg3 hM => by exfalso; omega, fun x2 x3 x4 mh hImh hFmh hba1 hbx2 hbx3 hbx4 hg4 hM => by exfalso; omega⟩
  | succ k ih =>
    refine ⟨?_, ?_⟩
    · intro x2 x3 mh hImh hFmh hba1 hbx2 hbx3 hg3 hM
      refine zw_eq (zu_rega_at (zt_T n) (zm_169 n) (zdp_169 n) _ _ _ _ _ _ (zr_169_8 n _ _ a0 a1 x2 x3 mh)) ?_
      refine zw_ite (fun h1 => ?_) (fun h1 => ?_)
      · refine zw_ite (fun h2 => ?_) (fun h2 => ?_)
        · exact zw_some ⟨hImh, hFmh, ⟨by decide, by decide⟩⟩
        · exact zw_some ⟨hImh, hFmh, ⟨by omega, by omega⟩⟩
      · have hM : (4 - 0) * 1 + (4 - x3) * 6 + 0 < (k : Int) := by omega
        exact ih.2 x2 x3 0 mh hImh hFmh ⟨by omega, by omega⟩ ⟨by omega, by omega⟩ ⟨by omega, by omega⟩ ⟨by omega, by omega⟩ ⟨by omega, by omega⟩ hM
    · intro x2 x3 x4 mh hImh hFmh hba1 hbx2 hbx3 hbx4 hg4 hM
      refine zw_eq (zu_rega_at (zt_T n) (zm_169 n) (zdp_169 n) _ _ _ _ _ _ (zr_169_19 n _ _ a0 a1 x2 x3 x4 mh)) ?_
      refine zw_ite (fun h3 => ?_) (fun h3 => ?_)
      · have w4 := zu_w32_id (z := x3 + 1) (by omega) (by omega)
        have hM : (4 - (zu_w32 (x3 + 1))) * 6 + 5 < (k : Int) := by omega
        exact zw_le (zu_forget (zu_lr_same (zu_lr_same (zu_lr_same (zu_lr_same (zu_lr_drop zu_lr_nil)))))) (ih.1 x2 (zu_w32 (x3 + 1)) mh hImh hFmh ⟨by omega, by omega⟩ ⟨by omega, by omega⟩ ⟨by omega, by omega⟩ ⟨by omega, by omega⟩ hM)
      · refine zw_bd (zw_mono (zk_168 n hImh hc0 ⟨by omega, by omega⟩ ⟨by omega, by omega⟩ ⟨by omega, by omega⟩) (fun v6 m5 hqm5 => ?_))
        obtain ⟨hIm5, hfm5, hvm5⟩ := hqm5
        have hFm5 := zfr_tr hFmh hfm5 rfl
        refine zw_ite (fun h7 => ?_) (fun h7 => ?_)
        · refine zw_ite (fun h8 => ?_) (fun h8 => ?_)
          · have w9 := zu_w32_rg (x2 + 1)
            have w10 := zu_w32_id (z := x4 + 1) (by omega) (by omega)
            have r11 : 0 ≤ (m5 a0 75) ∧ (m5 a0 75) ≤ 4 := zi_rd hIm5 hc0 zb_28_75
            have e12 : (m5 a0 75) = (mh a0 75) := (zfr_ap hfm5 hc0 rfl)
            have hM : (4 - (zu_w32 (x4 + 1))) * 1 + (4 - x3) * 6 + 0 < (k : Int) := by omega
            exact ih.2 (zu_w32 (x2 + 1)) x3 (zu_w32 (x4 + 1)) m5 hIm5 hFm5 ⟨by omega, by omega⟩ ⟨by omega, by omega⟩ ⟨by omega, by omega⟩ ⟨by omega, by omega⟩ ⟨by omega, by omega⟩ hM
          · have w13 := zu_w32_id (z := 10 * x3) (by omega) (by omega)
            have w14 := zu_w32_id (z := (zu_w32 (10 * x3)) + x4) (by omega) (by omega)
            exact zw_some ⟨hIm5, hFm5, ⟨by omega, by omega⟩⟩
        · have w15 := zu_w32_id (z := x4 + 1) (by omega) (by omega)
          have r16 : 0 ≤ (m5 a0 75) ∧ (m5 a0 75) ≤ 4 := zi_rd hIm5 hc0 zb_28_75
          have e17 : (m5 a0 75) = (mh a0 75) := (zfr_ap hfm5 hc0 rfl)
          have hM : (4 - (zu_w32 (x4 + 1))) * 1 + (4 - x3) * 6 + 0 < (k : Int) := by omega
          exact ih.2 x2 x3 (zu_w32 (x4 + 1)) m5 hIm5 hFm5 ⟨by omega, by omega⟩ ⟨by omega, by omega⟩ ⟨by omega, by omega⟩ ⟨by omega, by omega⟩ ⟨by omega, by omega⟩ hM
set_option maxHeartbeats 4000000 in
theorem zk_169 (n : Nat) {a0 a1 : Int} {m0 : zu_m} (hIm0 : zi_I m0) (hc0 : zcls a0 = 28) (ha1 : (-1) ≤ a1 ∧ a1 ≤ 2147483647)     : zw (zu_call (zt_T n) 169 [(40, a0), (0, a1)] m0) (fun v m => zi_I m ∧ zfr [(28, 76), (133, 0)] m0 m ∧ ((-2147483648) ≤ v ∧ v ≤ 2147483647)) := by
  have hFm0 : zfr [(28, 76), (133, 0)] m0 m0 := zfr_rf _ _
  refine zw_eq (zu_call_at (zt_T n) (zm_169 n) (zdp_169 n) _ _ _ _ _ rfl (zr_169_0 n _ _ a0 a1 m0)) ?_
  refine zw_bd (zw_mono (zk_166 n hIm0 hc0) (fun v19 m18 hqm18 => ?_))
  obtain ⟨hIm18, hfm18, hvm18⟩ := hqm18
  have hFm18 := zfr_tr hFm0 hfm18 rfl
  have hM : (4 - 0) * 6 + 5 < ((30 : Nat) : Int) := by omega
  exact (zl_169 n (m0 := m0) hc0 30).1 0 0 m18 hIm18 hFm18 ⟨by omega, by omega⟩ ⟨by omega, by omega⟩ ⟨by omega, by omega⟩ ⟨by omega, by omega⟩ hM
set_option maxHeartbeats 4000000 in
theorem zl_195 (n : Nat) {a0 a1 : Int} {m0 : zu_m} (hc0 : zcls a0 = 28)   : ∀ k : Nat, (∀ (x2 x3 : Int) (mh : zu_m), zi_I mh → zfr [(28, 3)] m0 mh → (10 ≤ a1 ∧ a1 ≤ 10) → ((-2147483648) ≤ x2 ∧ x2 ≤ 2147483647) → (0 ≤ x3 ∧ x3 ≤ 48) → (0 ≤ mh a0 2 ∧ mh a0 2 ≤ 0) → (48 - x3) * 1 + 0 < (k : Int) → zw (zu_ex (zt_T n) 195 150 [(40, a0), (0, a1), (0, x2), (0, x3)] [] mh) (fun v m => zi_I m ∧ zfr [(28, 3)] m0 m ∧ ((-2147483648) ≤ v ∧ v ≤ 2147483647) ∧ (0 ≤ m a0 2 ∧ m a0 2 ≤ 0))) := by
  intro k
  induction k with
  | zero => exact fun x2 x3 mh hImh hFmh hba1 hbx2 hbx3 hg3 hM => by exfalso; omega
  | succ k ih =>
    intro x2 x3 mh hImh hFmh hba1 hbx2 hbx3 hg3 hM
    refine zw_eq (zu_rega_at (zt_T n) (zm_195 n) (zdp_195 n) _ _ _ _ _ _ (zr_195_150 n _ _ a0 a1 x2 x3 mh)) ?_
    refine zw_bd (zw_eq (zu_call_at (zt_T n) (zm_36 n) (zdp_36 n) _ _ _ _ _ rfl (zr_36_0 n _ _ a0 mh)) ?_)
    have r1 : 1 ≤ (mh a0 12) ∧ (mh a0 12) ≤ 8 := zi_rd hImh hc0 zb_28_12
    have r2 : 1 ≤ (mh a0 13) ∧ (mh a0 13) ≤ 6 := zi_rd hImh hc0 zb_28_13
    have p3 := zmul_bd (x := (mh a0 12)) (y := (mh a0 13)) (a := 1) (b := 1) (A := 8) (B := 6) (by omega) (by omega) (by omega) (by omega) (by omega) (by omega)
    have w4 := zu_w32_id (z := (mh a0 12) * (mh a0 13)) (by omega) (by omega)
    refine zw_some ?_
    refine zw_ite (fun h5 => ?_) (fun h5 => ?_)
    · exact zw_some ⟨hImh, hFmh, ⟨by omega, by omega⟩, ⟨by omega, by omega⟩⟩
    · have b6 : 0 ≤ (0 : Int) ∧ (0 : Int) < 2 := by omega
      refine zw_if b6 ?_
      have r7 : (-9223372036854775808) ≤ (mh 220 0) ∧ (mh 220 0) ≤ 9223372036854775807 := zi_rd hImh zq_220 (zb_129 _)
      refine zw_bd (zw_eq (zu_call_at (zt_T n) (zm_84 n) (zdp_84 n) _ _ _ _ _ rfl (zr_84_0 n _ _ (mh 220 0) x3 mh)) ?_)
      have b8 := zu_shr_rg (mh 220 0) x3
      have b9 := zu_i64_rg 3 (zu_shr (mh 220 0) x3) 1
      have c10 := zu_lcmp_sp (zu_i64 3 (zu_shr (mh 220 0) x3) 1) 1
      refine zw_ite (fun h11 => ?_) (fun h11 => ?_)
      · refine zw_b (by omega) ?_
        refine zw_some ?_
        refine zw_ite (fun h12 => ?_) (fun h12 => ?_)
        · have w13 := zu_w32_id (z := x2 + 0) (by omega) (by omega)
          have w14 := zu_w32_id (z := x3 + 1) (by omega) (by omega)
          have hM : (48 - (zu_w32 (x3 + 1))) * 1 + 0 < (k : Int) := by omega
          exact ih (zu_w32 (x2 + 0)) (zu_w32 (x3 + 1)) mh hImh hFmh ⟨by omega, by omega⟩ ⟨by omega, by omega⟩ ⟨by omega, by omega⟩ ⟨by omega, by omega⟩ hM
        · exfalso; omega
      · refine zw_b (by omega) ?_
        refine zw_some ?_
        refine zw_ite (fun h15 => ?_) (fun h15 => ?_)
        · exfalso; omega
        · have w16 := zu_w32_rg (x2 + 1)
          have w17 := zu_w32_id (z := x3 + 1) (by omega) (by omega)
          have hM : (48 - (zu_w32 (x3 + 1))) * 1 + 0 < (k : Int) := by omega
          exact ih (zu_w32 (x2 + 1)) (zu_w32 (x3 + 1)) mh hImh hFmh ⟨by omega, by omega⟩ ⟨by omega, by omega⟩ ⟨by omega, by omega⟩ ⟨by omega, by omega⟩ hM
set_option maxHeartbeats 4000000 in
theorem zk_195 (n : Nat) {a0 a1 : Int} {m0 : zu_m} (hIm0 : zi_I m0) (hc0 : zcls a0 = 28) (ha1 : (-2147483648) ≤ a1 ∧ a1 ≤ 2147483647)     : zw (zu_call (zt_T n) 195 [(40, a0), (0, a1)] m0) (fun v m => zi_I m ∧ zfr [(28, 3)] m0 m ∧ ((-2147483648) ≤ v ∧ v ≤ 2147483647) ∧ (0 ≤ m a0 2 ∧ m a0 2 ≤ 0)) := by
  have hFm0 : zfr [(28, 3)] m0 m0 := zfr_rf _ _
  refine zw_eq (zu_call_at (zt_T n) (zm_195 n) (zdp_195 n) _ _ _ _ _ rfl (zr_195_0 n _ _ a0 a1 m0)) ?_
  generalize hmm18 : zu_up m0 a0 2 0 = m18
  have hIm18 := zi_up hmm18 hIm0 hc0 zb_28_2 (by omega) (by omega)
  have hFm18 := zfr_up hmm18 hFm0 hc0 rfl
  refine zw_ite (fun h19 => ?_) (fun h19 => ?_)
  · have r20 : 1 ≤ (m18 a0 12) ∧ (m18 a0 12) ≤ 8 := zi_rd hIm18 hc0 zb_28_12
    have r21 : (-2147483648) ≤ (m18 a0 2) ∧ (m18 a0 2) ≤ 2147483647 := zi_rd hIm18 hc0 zb_28_2
    have e22 : (m18 a0 2) = 0 := (zs_eq hmm18)
    exact zw_some ⟨hIm18, hFm18, ⟨by omega, by omega⟩, ⟨by omega, by omega⟩⟩
  · refine zw_ite (fun h23 => ?_) (fun h23 => ?_)
    · have r24 : 1 ≤ (m18 a0 13) ∧ (m18 a0 13) ≤ 6 := zi_rd hIm18 hc0 zb_28_13
      have r25 : (-2147483648) ≤ (m18 a0 2) ∧ (m18 a0 2) ≤ 2147483647 := zi_rd hIm18 hc0 zb_28_2
      have e26 : (m18 a0 2) = 0 := (zs_eq hmm18)
      exact zw_some ⟨hIm18, hFm18, ⟨by omega, by omega⟩, ⟨by omega, by omega⟩⟩
    · refine zw_ite (fun h27 => ?_) (fun h27 => ?_)
      · have b28 : 0 ≤ (0 : Int) ∧ (0 : Int) < 2 := by omega
        refine zw_if b28 ?_
        have r29 : 0 ≤ (m18 216 0) ∧ (m18 216 0) ≤ 16 := zi_rdr (m := 2) (r0 := 0) (r1 := 0) hIm18 zq_216 (by omega) (by decide +kernel)
        have r30 : (-2147483648) ≤ (m18 a0 2) ∧ (m18 a0 2) ≤ 2147483647 := zi_rd hIm18 hc0 zb_28_2
        have e31 : (m18 a0 2) = 0 := (zs_eq hmm18)
        exact zw_some ⟨hIm18, hFm18, ⟨by omega, by omega⟩, ⟨by omega, by omega⟩⟩
      · refine zw_ite (fun h32 => ?_) (fun h32 => ?_)
        · have r33 : 0 ≤ (m18 a0 15) ∧ (m18 a0 15) ≤ 4 := zi_rd hIm18 hc0 zb_28_15
          have r34 : (-2147483648) ≤ (m18 a0 2) ∧ (m18 a0 2) ≤ 2147483647 := zi_rd hIm18 hc0 zb_28_2
          have e35 : (m18 a0 2) = 0 := (zs_eq hmm18)
          exact zw_some ⟨hIm18, hFm18, ⟨by omega, by omega⟩, ⟨by omega, by omega⟩⟩
        · refine zw_ite (fun h36 => ?_) (fun h36 => ?_)
          · have r37 : 0 ≤ (m18 a0 16) ∧ (m18 a0 16) ≤ 64 := zi_rd hIm18 hc0 zb_28_16
            have r38 : (-2147483648) ≤ (m18 a0 2) ∧ (m18 a0 2) ≤ 2147483647 := zi_rd hIm18 hc0 zb_28_2
            have e39 : (m18 a0 2) = 0 := (zs_eq hmm18)
            exact zw_some ⟨hIm18, hFm18, ⟨by omega, by omega⟩, ⟨by omega, by omega⟩⟩
          · refine zw_ite (fun h40 => ?_) (fun h40 => ?_)
            · have b41 : 0 ≤ (0 : Int) ∧ (0 : Int) < 2 := by omega
              refine zw_if b41 ?_
              have r42 : (-2147483648) ≤ (m18 221 0) ∧ (m18 221 0) ≤ 2147483647 := zi_rd hIm18 zq_221 (zb_130 _)
              have r43 : (-2147483648) ≤ (m18 a0 2) ∧ (m18 a0 2) ≤ 2147483647 := zi_rd hIm18 hc0 zb_28_2
              have e44 : (m18 a0 2) = 0 := (zs_eq hmm18)
              exact zw_some ⟨hIm18, hFm18, ⟨by omega, by omega⟩, ⟨by omega, by omega⟩⟩
            · refine zw_ite (fun h45 => ?_) (fun h45 => ?_)
              · refine zw_bd (zw_mono (zk_194 n hIm18 hc0 ⟨by decide, by decide⟩) (fun v47 m46 hqm46 => ?_))
                obtain ⟨hIm46, hfm46, hvm46⟩ := hqm46
                have hFm46 := zfr_tr hFm18 hfm46 rfl
                have r48 : (-2147483648) ≤ (m46 a0 2) ∧ (m46 a0 2) ≤ 2147483647 := zi_rd hIm46 hc0 zb_28_2
                have e49 : (m46 a0 2) = 0 := (Eq.trans (zfr_ap hfm46 hc0 rfl) (zs_eq hmm18))
                exact zw_some ⟨hIm46, hFm46, ⟨by omega, by omega⟩, ⟨by omega, by omega⟩⟩
              · refine zw_ite (fun h50 => ?_) (fun h50 => ?_)
                · refine zw_bd (zw_mono (zk_186 n hIm18 hc0 ⟨by decide, by decide⟩) (fun v52 m51 hqm51 => ?_))
                  obtain ⟨hIm51, hfm51, hvm51⟩ := hqm51
                  have hFm51 := zfr_tr hFm18 hfm51 rfl
                  have r53 : (-2147483648) ≤ (m51 a0 2) ∧ (m51 a0 2) ≤ 2147483647 := zi_rd hIm51 hc0 zb_28_2
                  have e54 : (m51 a0 2) = 0 := (Eq.trans (zfr_ap hfm51 hc0 rfl) (zs_eq hmm18))
                  exact zw_some ⟨hIm51, hFm51, ⟨by omega, by omega⟩, ⟨by omega, by omega⟩⟩
                · refine zw_ite (fun h55 => ?_) (fun h55 => ?_)
                  · refine zw_bd (zw_mono (zk_194 n hIm18 hc0 ⟨by decide, by decide⟩) (fun v57 m56 hqm56 => ?_))
                    obtain ⟨hIm56, hfm56, hvm56⟩ := hqm56
                    have hFm56 := zfr_tr hFm18 hfm56 rfl
                    have r58 : (-2147483648) ≤ (m56 a0 2) ∧ (m56 a0 2) ≤ 2147483647 := zi_rd hIm56 hc0 zb_28_2
                    have e59 : (m56 a0 2) = 0 := (Eq.trans (zfr_ap hfm56 hc0 rfl) (zs_eq hmm18))
                    exact zw_some ⟨hIm56, hFm56, ⟨by omega, by omega⟩, ⟨by omega, by omega⟩⟩
                  · refine zw_ite (fun h60 => ?_) (fun h60 => ?_)
                    · refine zw_bd (zw_mono (zk_194 n hIm18 hc0 ⟨by decide, by decide⟩) (fun v62 m61 hqm61 => ?_))
                      obtain ⟨hIm61, hfm61, hvm61⟩ := hqm61
                      have hFm61 := zfr_tr hFm18 hfm61 rfl
                      have r63 : (-2147483648) ≤ (m61 a0 2) ∧ (m61 a0 2) ≤ 2147483647 := zi_rd hIm61 hc0 zb_28_2
                      have e64 : (m61 a0 2) = 0 := (Eq.trans (zfr_ap hfm61 hc0 rfl) (zs_eq hmm18))
                      exact zw_some ⟨hIm61, hFm61, ⟨by omega, by omega⟩, ⟨by omega, by omega⟩⟩
                    · refine zw_ite (fun h65 => ?_) (fun h65 => ?_)
                      · have r66 : (-2147483648) ≤ (m18 a0 2) ∧ (m18 a0 2) ≤ 2147483647 := zi_rd hIm18 hc0 zb_28_2
                        have e67 : (m18 a0 2) = 0 := (zs_eq hmm18)
                        have hM : (48 - 0) * 1 + 0 < ((49 : Nat) : Int) := by omega
                        exact (zl_195 n (m0 := m0) hc0 49) 0 0 m18 hIm18 hFm18 ⟨by omega, by omega⟩ ⟨by omega, by omega⟩ ⟨by omega, by omega⟩ ⟨by omega, by omega⟩ hM
                      · refine zw_ite (fun h68 => ?_) (fun h68 => ?_)
                        · have r69 : (-2147483648) ≤ (m18 a0 62) ∧ (m18 a0 62) ≤ 2147483647 := zi_rd hIm18 hc0 zb_28_62
                          have r70 : (-2147483648) ≤ (m18 a0 2) ∧ (m18 a0 2) ≤ 2147483647 := zi_rd hIm18 hc0 zb_28_2
                          have e71 : (m18 a0 2) = 0 := (zs_eq hmm18)
                          exact zw_some ⟨hIm18, hFm18, ⟨by omega, by omega⟩, ⟨by omega, by omega⟩⟩
                        · refine zw_ite (fun h72 => ?_) (fun h72 => ?_)
                          · have r73 : 0 ≤ (m18 a0 77) ∧ (m18 a0 77) ≤ 24 := zi_rd hIm18 hc0 zb_28_77
                            have r74 : (-2147483648) ≤ (m18 a0 2) ∧ (m18 a0 2) ≤ 2147483647 := zi_rd hIm18 hc0 zb_28_2
                            have e75 : (m18 a0 2) = 0 := (zs_eq hmm18)
                            exact zw_some ⟨hIm18, hFm18, ⟨by omega, by omega⟩, ⟨by omega, by omega⟩⟩
                          · refine zw_ite (fun h76 => ?_) (fun h76 => ?_)
                            · refine zw_bd (zw_eq (zu_call_at (zt_T n) (zm_182 n) (zdp_182 n) _ _ _ _ _ rfl (zr_182_0 n _ _ a0 m18)) ?_)
                              have r77 : (-1) ≤ (m18 a0 78) ∧ (m18 a0 78) ≤ 24 := zi_rd hIm18 hc0 zb_28_78
                              refine zw_ite (fun h78 => ?_) (fun h78 => ?_)
                              · refine zw_some ?_
                                have r79 : (-2147483648) ≤ (m18 a0 2) ∧ (m18 a0 2) ≤ 2147483647 := zi_rd hIm18 hc0 zb_28_2
                                have e80 : (m18 a0 2) = 0 := (zs_eq hmm18)
                                exact zw_some ⟨hIm18, hFm18, ⟨by omega, by omega⟩, ⟨by omega, by omega⟩⟩
                              · have r81 : 0 ≤ (m18 a0 77) ∧ (m18 a0 77) ≤ 24 := zi_rd hIm18 hc0 zb_28_77
                                refine zw_some ?_
                                have r82 : (-2147483648) ≤ (m18 a0 2) ∧ (m18 a0 2) ≤ 2147483647 := zi_rd hIm18 hc0 zb_28_2
                                have e83 : (m18 a0 2) = 0 := (zs_eq hmm18)
                                exact zw_some ⟨hIm18, hFm18, ⟨by omega, by omega⟩, ⟨by omega, by omega⟩⟩
                            · refine zw_ite (fun h84 => ?_) (fun h84 => ?_)
                              · have r85 : 0 ≤ (m18 a0 81) ∧ (m18 a0 81) ≤ 20 := zi_rd hIm18 hc0 zb_28_81
                                have r86 : (-2147483648) ≤ (m18 a0 2) ∧ (m18 a0 2) ≤ 2147483647 := zi_rd hIm18 hc0 zb_28_2
                                have e87 : (m18 a0 2) = 0 := (zs_eq hmm18)
                                exact zw_some ⟨hIm18, hFm18, ⟨by omega, by omega⟩, ⟨by omega, by omega⟩⟩
                              · refine zw_ite (fun h88 => ?_) (fun h88 => ?_)
                                · refine zw_bd (zw_mono (zk_141 n hIm18 hc0 ⟨by decide, by decide⟩) (fun v90 m89 hqm89 => ?_))
                                  obtain ⟨hIm89, hfm89, hvm89⟩ := hqm89
                                  have hFm89 := zfr_tr hFm18 hfm89 rfl
                                  have r91 : (-2147483648) ≤ (m89 a0 2) ∧ (m89 a0 2) ≤ 2147483647 := zi_rd hIm89 hc0 zb_28_2
                                  have e92 : (m89 a0 2) = 0 := (Eq.trans (zfr_ap hfm89 hc0 rfl) (zs_eq hmm18))
                                  exact zw_some ⟨hIm89, hFm89, ⟨by omega, by omega⟩, ⟨by omega, by omega⟩⟩
                                · have r93 : (-2147483648) ≤ (m18 a0 2) ∧ (m18 a0 2) ≤ 2147483647 := zi_rd hIm18 hc0 zb_28_2
                                  have e94 : (m18 a0 2) = 0 := (zs_eq hmm18)
                                  exact zw_some ⟨hIm18, hFm18, ⟨by decide, by decide⟩, ⟨by omega, by omega⟩⟩

set_option maxHeartbeats 4000000 in
theorem zl_31 (n : Nat) {a0 : Int} {m0 : zu_m} (hc0 : zcls a0 = 28)  (hxp0 : (m0 a0 4) = 0) : ∀ k : Nat, (∀ (x1 : Int) (mh : zu_m), zi_I mh → zfr [(28, 13), (28, 14), (28, 15), (28, 16), (28, 17), (28, 54), (28, 63), (28, 64), (28, 65), (28, 66), (28, 67), (28, 68), (28, 69), (28, 70), (28, 78), (28, 79), (28, 82), (28, 84), (103, 0), (104, 0), (106, 0), (107, 0), (108, 0), (109, 0), (110, 0), (111, 0), (112, 0), (113, 0), (114, 0), (115, 0), (116, 0), (117, 0), (118, 0), (119, 0), (122, 0), (123, 0), (124, 0), (125, 0), (126, 0), (127, 0), (128, 0), (129, 0), (130, 0), (131, 0)] m0 mh → (0 ≤ x1 ∧ x1 ≤ 4) → (∀ k, 0 ≤ k → k < x1 → mh 205 k = mh 205 (4 + k)) → ((mh a0 4) = 0) → (zR_C0 mh) → (zR_CR mh) → (zR_KN mh) → (zR_LR mh) → (4 - x1) * 1 + 0 < (k : Int) → zw (zu_ex (zt_T n) 31 126 [(40, a0), (0, x1)] [] mh) (fun v m => zi_I m ∧ zfr [(28, 13), (28, 14), (28, 15), (28, 16), (28, 17), (28, 54), (28, 63), (28, 64), (28, 65), (28, 66), (28, 67), (28, 68), (28, 69), (28, 70), (28, 78), (28, 79), (28, 82), (28, 84), (103, 0), (104, 0), (106, 0), (107, 0), (108, 0), (109, 0), (110, 0), (111, 0), (112, 0), (113, 0), (114, 0), (115, 0), (116, 0), (117, 0), (118, 0), (119, 0), (122, 0), (123, 0), (124, 0), (125, 0), (126, 0), (127, 0), (128, 0), (129, 0), (130, 0), (131, 0)] m0 m ∧ zR_C0 m ∧ zR_CR m ∧ zR_KN m ∧ zR_LT m ∧ zR_RI m ∧ zR_RU m ∧ zE1 m 0 ∧ zR_TE m ∧ True)) := by
  intro k
  induction k with
  | zero => exact fun x1 mh hImh hFmh hbx1 hH0 hH1 hRC0mh hRCRmh hRKNmh hRLRmh hM => by exfalso; omega
  | succ k ih =>
    intro x1 mh hImh hFmh hbx1 hH0 hH1 hRC0mh hRCRmh hRKNmh hRLRmh hM
    refine zw_eq (zu_rega_at (zt_T n) (zm_31 n) (zdp_31 n) _ _ _ _ _ _ (zr_31_126 n _ _ a0 x1 mh)) ?_
    have r1 : (-2147483648) ≤ (mh a0 4) ∧ (mh a0 4) ≤ 2147483647 := zi_rd hImh hc0 zb_28_4
    refine zw_ite (fun h2 => ?_) (fun h2 => ?_)
    · refine zw_bd (zw_mono (zk_32_115 n hImh zq_206 ⟨by decide, by decide⟩) (fun v4 m3 hqm3 => ?_))
      obtain ⟨hIm3, hfm3, hvm3⟩ := hqm3
      have hFm3 := zfr_tr hFmh hfm3 rfl
      have hRC0m3 := zR_C0_fr (zdis_fr hfm3 rfl) hRC0mh
      have hRCRm3 := zR_CR_fr (zdis_fr hfm3 rfl) hRCRmh
      have hRKNm3 := zR_KN_fr (zdis_fr hfm3 rfl) hRKNmh
      have hRLRm3 := zR_LR_fr (zdis_fr hfm3 rfl) hRLRmh
      refine zw_bd (zw_mono (zk_32_116 n hIm3 zq_207 ⟨by decide, by decide⟩) (fun v6 m5 hqm5 => ?_))
      obtain ⟨hIm5, hfm5, hvm5⟩ := hqm5
      have hFm5 := zfr_tr hFm3 hfm5 rfl
      have hRC0m5 := zR_C0_fr (zdis_fr hfm5 rfl) hRC0m3
      have hRCRm5 := zR_CR_fr (zdis_fr hfm5 rfl) hRCRm3
      have hRKNm5 := zR_KN_fr (zdis_fr hfm5 rfl) hRKNm3
      have r7 : (-2147483648) ≤ (m3 a0 4) ∧ (m3 a0 4) ≤ 2147483647 := zi_rd hIm3 hc0 zb_28_4
      have e8 : (m3 a0 4) = (mh a0 4) := (zfr_ap hfm3 hc0 rfl)
      have hRLTm5 := zLT_keep (zone_190 hc0) hH0 (by omega) (fun _ => (zfr_ap hfm3 zq_205 rfl)) (hvm5.2) (fun _ => zfr_ap hfm5 zq_205 rfl) (by omega) hRLRm3
      refine zw_bd (zw_mono (zk_32_117 n hIm5 zq_208 ⟨by decide, by decide⟩) (fun v10 m9 hqm9 => ?_))
      obtain ⟨hIm9, hfm9, hvm9⟩ := hqm9
      have hFm9 := zfr_tr hFm5 hfm9 rfl
      have hRC0m9 := zR_C0_fr (zdis_fr hfm9 rfl) hRC0m5
      have hRCRm9 := zR_CR_fr (zdis_fr hfm9 rfl) hRCRm5
      have hRLTm9 := zR_LT_fr (zdis_fr hfm9 rfl) hRLTm5
      refine zw_bd (zw_mono (zk_32_118 n hIm9 zq_209 ⟨by decide, by decide⟩) (fun v12 m11 hqm11 => ?_))
      obtain ⟨hIm11, hfm11, hvm11⟩ := hqm11
      have hFm11 := zfr_tr hFm9 hfm11 rfl
      have hRC0m11 := zR_C0_fr (zdis_fr hfm11 rfl) hRC0m9
      have hRCRm11 := zR_CR_fr (zdis_fr hfm11 rfl) hRCRm9
      have hRLTm11 := zR_LT_fr (zdis_fr hfm11 rfl) hRLTm9
      refine zw_bd (zw_mono (zk_32_119 n hIm11 zq_210 ⟨by decide, by decide⟩) (fun v14 m13 hqm13 => ?_))
      obtain ⟨hIm13, hfm13, hvm13⟩ := hqm13
      have hFm13 := zfr_tr hFm11 hfm13 rfl
      have hRC0m13 := zR_C0_fr (zdis_fr hfm13 rfl) hRC0m11
      have hRCRm13 := zR_CR_fr (zdis_fr hfm13 rfl) hRCRm11
      have hRLTm13 := zR_LT_fr (zdis_fr hfm13 rfl) hRLTm11
      have hRKNm13 := zKN_cp hvm9.2 hfm9 hvm11.2 hfm11 hvm13.2 hfm13 hRKNm5
      refine zw_bd (zw_mono (zk_33 n hIm13 hc0 hRC0m13 hRKNm13 hRLTm13) (fun v16 m15 hqm15 => ?_))
      obtain ⟨hIm15, hfm15, hvm15⟩ := hqm15
      have hFm15 := zfr_tr hFm13 hfm15 rfl
      obtain ⟨hRC0m15, hRKNm15, hRLTm15, hRRIm15, hRRUm15, hRSEm15, hRTEm15, hvm15⟩ := hvm15
      have hRCRm15 := zR_CR_fr (zdis_fr hfm15 rfl) hRCRm13
      exact zw_some ⟨hIm15, hFm15, hRC0m15, hRCRm15, hRKNm15, hRLTm15, hRRIm15, hRRUm15, hRSEm15, hRTEm15, trivial⟩
    · have w17 := zu_w32_id (z := 4 + x1) (by omega) (by omega)
      have b18 : 0 ≤ (zu_w32 (4 + x1)) ∧ (zu_w32 (4 + x1)) < 8 := by omega
      refine zw_if b18 ?_
      have r19 : 0 ≤ (mh 205 (zu_w32 (4 + x1))) ∧ (mh 205 (zu_w32 (4 + x1))) ≤ 1 := zi_rd hImh zq_205 (zb_114 _)
      refine zw_b (by omega) ?_
      have b20 : 0 ≤ x1 ∧ x1 < 8 := by omega
      refine zw_if b20 ?_
      generalize hmm21 : zu_up mh 205 x1 (mh 205 (zu_w32 (4 + x1))) = m21
      have hIm21 := zi_up hmm21 hImh zq_205 (zb_114 _) (by omega) (by omega)
      have hFm21 := zfr_up hmm21 hFmh zq_205 rfl
      have hRC0m21 := zR_C0_fr (zdis_fr (zfr_up hmm21 (zfr_rf [(114, 0)] _) zq_205 rfl) rfl) hRC0mh
      have hRCRm21 := zR_CR_fr (zdis_fr (zfr_up hmm21 (zfr_rf [(114, 0)] _) zq_205 rfl) rfl) hRCRmh
      have hRKNm21 := zR_KN_fr (zdis_fr (zfr_up hmm21 (zfr_rf [(114, 0)] _) zq_205 rfl) rfl) hRKNmh
      have hRLRm21 := zLR_lo hmm21 (by omega) hRLRmh
      have w22 := zu_w32_id (z := x1 + 1) (by omega) (by omega)
      have r23 : (-2147483648) ≤ (m21 a0 4) ∧ (m21 a0 4) ≤ 2147483647 := zi_rd hIm21 hc0 zb_28_4
      have e24 : (m21 a0 4) = (mh a0 4) := (zs_ne hmm21 (Or.inl (zc_ne hc0 zq_205 (by decide))))
      have hM : (4 - (zu_w32 (x1 + 1))) * 1 + 0 < (k : Int) := by omega
      exact ih (zu_w32 (x1 + 1)) m21 hIm21 hFm21 ⟨by omega, by omega⟩ (zk5_s hmm21 hH0 (by omega) rfl (by omega) (by omega)) (by omega) hRC0m21 hRCRm21 hRKNm21 hRLRm21 hM
set_option maxHeartbeats 4000000 in
theorem zk_31 (n : Nat) {a0 : Int} {m0 : zu_m} (hIm0 : zi_I m0) (hc0 : zcls a0 = 28)    (hxp0 : (m0 a0 4) = 0) (hRCRm0 : zR_CR m0) (hRKNm0 : zR_KN m0) (hRLRm0 : zR_LR m0) : zw (zu_call (zt_T n) 31 [(40, a0)] m0) (fun v m => zi_I m ∧ zfr [(28, 13), (28, 14), (28, 15), (28, 16), (28, 17), (28, 54), (28, 63), (28, 64), (28, 65), (28, 66), (28, 67), (28, 68), (28, 69), (28, 70), (28, 78), (28, 79), (28, 82), (28, 84), (103, 0), (104, 0), (106, 0), (107, 0), (108, 0), (109, 0), (110, 0), (111, 0), (112, 0), (113, 0), (114, 0), (115, 0), (116, 0), (117, 0), (118, 0), (119, 0), (122, 0), (123, 0), (124, 0), (125, 0), (126, 0), (127, 0), (128, 0), (129, 0), (130, 0), (131, 0)] m0 m ∧ zR_C0 m ∧ zR_CR m ∧ zR_KN m ∧ zR_LT m ∧ zR_RI m ∧ zR_RU m ∧ zE1 m 0 ∧ zR_TE m ∧ True) := by
  have hFm0 : zfr [(28, 13), (28, 14), (28, 15), (28, 16), (28, 17), (28, 54), (28, 63), (28, 64), (28, 65), (28, 66), (28, 67), (28, 68), (28, 69), (28, 70), (28, 78), (28, 79), (28, 82), (28, 84), (103, 0), (104, 0), (106, 0), (107, 0), (108, 0), (109, 0), (110, 0), (111, 0), (112, 0), (113, 0), (114, 0), (115, 0), (116, 0), (117, 0), (118, 0), (119, 0), (122, 0), (123, 0), (124, 0), (125, 0), (126, 0), (127, 0), (128, 0), (129, 0), (130, 0), (131, 0)] m0 m0 := zfr_rf _ _
  have r25 : (-2147483648) ≤ (m0 a0 4) ∧ (m0 a0 4) ≤ 2147483647 := zi_rd hIm0 hc0 zb_28_4
  refine zw_eq (zu_call_at (zt_T n) (zm_31 n) (zdp_31 n) _ _ _ _ _ rfl (zr_31_0 n _ _ a0 m0)) ?_
  have r26 : 1 ≤ (m0 a0 17) ∧ (m0 a0 17) ≤ 8 := zi_rd hIm0 hc0 zb_28_17
  generalize hmm27 : zu_up m0 a0 12 (m0 a0 17) = m27
  have hIm27 := zi_up hmm27 hIm0 hc0 zb_28_12 (by omega) (by omega)
  have hFm27 := zfr_up hmm27 hFm0 hc0 rfl
  have hRCRm27 := zR_CR_fr (zdis_fr (zfr_up hmm27 (zfr_rf [(28, 13)] _) hc0 rfl) rfl) hRCRm0
  have hRKNm27 := zR_KN_fr (zdis_fr (zfr_up hmm27 (zfr_rf [(28, 13)] _) hc0 rfl) rfl) hRKNm0
  have hRLRm27 := zR_LR_fr (zdis_fr (zfr_up hmm27 (zfr_rf [(28, 13)] _) hc0 rfl) rfl) hRLRm0
  have r28 : 1 ≤ (m27 a0 18) ∧ (m27 a0 18) ≤ 6 := zi_rd hIm27 hc0 zb_28_18
  generalize hmm29 : zu_up m27 a0 13 (m27 a0 18) = m29
  have hIm29 := zi_up hmm29 hIm27 hc0 zb_28_13 (by omega) (by omega)
  have hFm29 := zfr_up hmm29 hFm27 hc0 rfl
  have hRCRm29 := zR_CR_fr (zdis_fr (zfr_up hmm29 (zfr_rf [(28, 14)] _) hc0 rfl) rfl) hRCRm27
  have hRKNm29 := zR_KN_fr (zdis_fr (zfr_up hmm29 (zfr_rf [(28, 14)] _) hc0 rfl) rfl) hRKNm27
  have hRLRm29 := zR_LR_fr (zdis_fr (zfr_up hmm29 (zfr_rf [(28, 14)] _) hc0 rfl) rfl) hRLRm27
  have r30 : 0 ≤ (m29 a0 19) ∧ (m29 a0 19) ≤ 12 := zi_rd hIm29 hc0 zb_28_19
  generalize hmm31 : zu_up m29 a0 14 (m29 a0 19) = m31
  have hIm31 := zi_up hmm31 hIm29 hc0 zb_28_14 (by omega) (by omega)
  have hFm31 := zfr_up hmm31 hFm29 hc0 rfl
  have hRCRm31 := zR_CR_fr (zdis_fr (zfr_up hmm31 (zfr_rf [(28, 15)] _) hc0 rfl) rfl) hRCRm29
  have hRKNm31 := zR_KN_fr (zdis_fr (zfr_up hmm31 (zfr_rf [(28, 15)] _) hc0 rfl) rfl) hRKNm29
  have hRLRm31 := zR_LR_fr (zdis_fr (zfr_up hmm31 (zfr_rf [(28, 15)] _) hc0 rfl) rfl) hRLRm29
  have r32 : 0 ≤ (m31 a0 20) ∧ (m31 a0 20) ≤ 4 := zi_rd hIm31 hc0 zb_28_20
  generalize hmm33 : zu_up m31 a0 15 (m31 a0 20) = m33
  have hIm33 := zi_up hmm33 hIm31 hc0 zb_28_15 (by omega) (by omega)
  have hFm33 := zfr_up hmm33 hFm31 hc0 rfl
  have hRCRm33 := zR_CR_fr (zdis_fr (zfr_up hmm33 (zfr_rf [(28, 16)] _) hc0 rfl) rfl) hRCRm31
  have hRKNm33 := zR_KN_fr (zdis_fr (zfr_up hmm33 (zfr_rf [(28, 16)] _) hc0 rfl) rfl) hRKNm31
  have hRLRm33 := zR_LR_fr (zdis_fr (zfr_up hmm33 (zfr_rf [(28, 16)] _) hc0 rfl) rfl) hRLRm31
  have r34 : 0 ≤ (m33 a0 21) ∧ (m33 a0 21) ≤ 64 := zi_rd hIm33 hc0 zb_28_21
  generalize hmm35 : zu_up m33 a0 16 (m33 a0 21) = m35
  have hIm35 := zi_up hmm35 hIm33 hc0 zb_28_16 (by omega) (by omega)
  have hFm35 := zfr_up hmm35 hFm33 hc0 rfl
  have hRCRm35 := zR_CR_fr (zdis_fr (zfr_up hmm35 (zfr_rf [(28, 17)] _) hc0 rfl) rfl) hRCRm33
  have hRKNm35 := zR_KN_fr (zdis_fr (zfr_up hmm35 (zfr_rf [(28, 17)] _) hc0 rfl) rfl) hRKNm33
  have hRLRm35 := zR_LR_fr (zdis_fr (zfr_up hmm35 (zfr_rf [(28, 17)] _) hc0 rfl) rfl) hRLRm33
  refine zw_bd (zw_mono (zk_32_103 n hIm35 zq_194 ⟨by decide, by decide⟩) (fun v37 m36 hqm36 => ?_))
  obtain ⟨hIm36, hfm36, hvm36⟩ := hqm36
  have hFm36 := zfr_tr hFm35 hfm36 rfl
  have hRCRm36 := zR_CR_fr (zdis_fr hfm36 rfl) hRCRm35
  have hRKNm36 := zR_KN_fr (zdis_fr hfm36 rfl) hRKNm35
  have hRLRm36 := zR_LR_fr (zdis_fr hfm36 rfl) hRLRm35
  refine zw_bd (zw_mono (zk_32_104 n hIm36 zq_195 ⟨by decide, by decide⟩) (fun v39 m38 hqm38 => ?_))
  obtain ⟨hIm38, hfm38, hvm38⟩ := hqm38
  have hFm38 := zfr_tr hFm36 hfm38 rfl
  have hRCRm38 := zR_CR_fr (zdis_fr hfm38 rfl) hRCRm36
  have hRKNm38 := zR_KN_fr (zdis_fr hfm38 rfl) hRKNm36
  have hRLRm38 := zR_LR_fr (zdis_fr hfm38 rfl) hRLRm36
  refine zw_bd (zw_mono (zk_32_106 n hIm38 zq_197 ⟨by decide, by decide⟩) (fun v41 m40 hqm40 => ?_))
  obtain ⟨hIm40, hfm40, hvm40⟩ := hqm40
  have hFm40 := zfr_tr hFm38 hfm40 rfl
  have hRCRm40 := zR_CR_fr (zdis_fr hfm40 rfl) hRCRm38
  have hRKNm40 := zR_KN_fr (zdis_fr hfm40 rfl) hRKNm38
  have hRLRm40 := zR_LR_fr (zdis_fr hfm40 rfl) hRLRm38
  refine zw_bd (zw_mono (zk_32_107 n hIm40 zq_198 ⟨by decide, by decide⟩) (fun v43 m42 hqm42 => ?_))
  obtain ⟨hIm42, hfm42, hvm42⟩ := hqm42
  have hFm42 := zfr_tr hFm40 hfm42 rfl
  have hRCRm42 := zR_CR_fr (zdis_fr hfm42 rfl) hRCRm40
  have hRKNm42 := zR_KN_fr (zdis_fr hfm42 rfl) hRKNm40
  have hRLRm42 := zR_LR_fr (zdis_fr hfm42 rfl) hRLRm40
  refine zw_bd (zw_mono (zk_32_108 n hIm42 zq_199 ⟨by decide, by decide⟩) (fun v45 m44 hqm44 => ?_))
  obtain ⟨hIm44, hfm44, hvm44⟩ := hqm44
  have hFm44 := zfr_tr hFm42 hfm44 rfl
  have hRCRm44 := zR_CR_fr (zdis_fr hfm44 rfl) hRCRm42
  have hRKNm44 := zR_KN_fr (zdis_fr hfm44 rfl) hRKNm42
  have hRLRm44 := zR_LR_fr (zdis_fr hfm44 rfl) hRLRm42
  refine zw_bd (zw_mono (zk_32_109 n hIm44 zq_200 ⟨by decide, by decide⟩) (fun v47 m46 hqm46 => ?_))
  obtain ⟨hIm46, hfm46, hvm46⟩ := hqm46
  have hFm46 := zfr_tr hFm44 hfm46 rfl
  have hRCRm46 := zR_CR_fr (zdis_fr hfm46 rfl) hRCRm44
  have hRKNm46 := zR_KN_fr (zdis_fr hfm46 rfl) hRKNm44
  have hRLRm46 := zR_LR_fr (zdis_fr hfm46 rfl) hRLRm44
  refine zw_bd (zw_mono (zk_32_110 n hIm46 zq_201 ⟨by decide, by decide⟩) (fun v49 m48 hqm48 => ?_))
  obtain ⟨hIm48, hfm48, hvm48⟩ := hqm48
  have hFm48 := zfr_tr hFm46 hfm48 rfl
  have hRKNm48 := zR_KN_fr (zdis_fr hfm48 rfl) hRKNm46
  have hRLRm48 := zR_LR_fr (zdis_fr hfm48 rfl) hRLRm46
  have r50 : 1 ≤ (m46 a0 17) ∧ (m46 a0 17) ≤ 8 := zi_rd hIm46 hc0 zb_28_17
  have e51 : (m46 a0 17) = (m0 a0 17) := (Eq.trans (zfr_ap hfm46 hc0 rfl) (Eq.trans (zfr_ap hfm44 hc0 rfl) (Eq.trans (zfr_ap hfm42 hc0 rfl) (Eq.trans (zfr_ap hfm40 hc0 rfl) (Eq.trans (zfr_ap hfm38 hc0 rfl) (Eq.trans (zfr_ap hfm36 hc0 rfl) (Eq.trans (zs_ne hmm35 (Or.inr (by decide))) (Eq.trans (zs_ne hmm33 (Or.inr (by decide))) (Eq.trans (zs_ne hmm31 (Or.inr (by decide))) (Eq.trans (zs_ne hmm29 (Or.inr (by decide))) (zs_ne hmm27 (Or.inr (by decide)))))))))))))
  have r52 : 1 ≤ (m46 a0 18) ∧ (m46 a0 18) ≤ 6 := zi_rd hIm46 hc0 zb_28_18
  have e53 : (m46 a0 18) = (m27 a0 18) := (Eq.trans (zfr_ap hfm46 hc0 rfl) (Eq.trans (zfr_ap hfm44 hc0 rfl) (Eq.trans (zfr_ap hfm42 hc0 rfl) (Eq.trans (zfr_ap hfm40 hc0 rfl) (Eq.trans (zfr_ap hfm38 hc0 rfl) (Eq.trans (zfr_ap hfm36 hc0 rfl) (Eq.trans (zs_ne hmm35 (Or.inr (by decide))) (Eq.trans (zs_ne hmm33 (Or.inr (by decide))) (Eq.trans (zs_ne hmm31 (Or.inr (by decide))) (zs_ne hmm29 (Or.inr (by decide))))))))))))
  have r54 : 0 ≤ (m46 a0 20) ∧ (m46 a0 20) ≤ 4 := zi_rd hIm46 hc0 zb_28_20
  have e55 : (m46 a0 20) = (m31 a0 20) := (Eq.trans (zfr_ap hfm46 hc0 rfl) (Eq.trans (zfr_ap hfm44 hc0 rfl) (Eq.trans (zfr_ap hfm42 hc0 rfl) (Eq.trans (zfr_ap hfm40 hc0 rfl) (Eq.trans (zfr_ap hfm38 hc0 rfl) (Eq.trans (zfr_ap hfm36 hc0 rfl) (Eq.trans (zs_ne hmm35 (Or.inr (by decide))) (zs_ne hmm33 (Or.inr (by decide))))))))))
  have r56 : 0 ≤ (m46 a0 23) ∧ (m46 a0 23) ≤ 1 := zi_rd hIm46 hc0 zb_28_23
  have r57 : 1 ≤ (m48 a0 12) ∧ (m48 a0 12) ≤ 8 := zi_rd hIm48 hc0 zb_28_12
  have e58 : (m48 a0 12) = (m0 a0 17) := (Eq.trans (zfr_ap hfm48 hc0 rfl) (Eq.trans (zfr_ap hfm46 hc0 rfl) (Eq.trans (zfr_ap hfm44 hc0 rfl) (Eq.trans (zfr_ap hfm42 hc0 rfl) (Eq.trans (zfr_ap hfm40 hc0 rfl) (Eq.trans (zfr_ap hfm38 hc0 rfl) (Eq.trans (zfr_ap hfm36 hc0 rfl) (Eq.trans (zs_ne hmm35 (Or.inr (by decide))) (Eq.trans (zs_ne hmm33 (Or.inr (by decide))) (Eq.trans (zs_ne hmm31 (Or.inr (by decide))) (Eq.trans (zs_ne hmm29 (Or.inr (by decide))) (zs_eq hmm27))))))))))))
  have r59 : 1 ≤ (m48 a0 13) ∧ (m48 a0 13) ≤ 6 := zi_rd hIm48 hc0 zb_28_13
  have e60 : (m48 a0 13) = (m27 a0 18) := (Eq.trans (zfr_ap hfm48 hc0 rfl) (Eq.trans (zfr_ap hfm46 hc0 rfl) (Eq.trans (zfr_ap hfm44 hc0 rfl) (Eq.trans (zfr_ap hfm42 hc0 rfl) (Eq.trans (zfr_ap hfm40 hc0 rfl) (Eq.trans (zfr_ap hfm38 hc0 rfl) (Eq.trans (zfr_ap hfm36 hc0 rfl) (Eq.trans (zs_ne hmm35 (Or.inr (by decide))) (Eq.trans (zs_ne hmm33 (Or.inr (by decide))) (Eq.trans (zs_ne hmm31 (Or.inr (by decide))) (zs_eq hmm29)))))))))))
  have r61 : 0 ≤ (m48 a0 15) ∧ (m48 a0 15) ≤ 4 := zi_rd hIm48 hc0 zb_28_15
  have e62 : (m48 a0 15) = (m31 a0 20) := (Eq.trans (zfr_ap hfm48 hc0 rfl) (Eq.trans (zfr_ap hfm46 hc0 rfl) (Eq.trans (zfr_ap hfm44 hc0 rfl) (Eq.trans (zfr_ap hfm42 hc0 rfl) (Eq.trans (zfr_ap hfm40 hc0 rfl) (Eq.trans (zfr_ap hfm38 hc0 rfl) (Eq.trans (zfr_ap hfm36 hc0 rfl) (Eq.trans (zs_ne hmm35 (Or.inr (by decide))) (zs_eq hmm33)))))))))
  have r63 : 1 ≤ (m48 a0 17) ∧ (m48 a0 17) ≤ 8 := zi_rd hIm48 hc0 zb_28_17
  have e64 : (m48 a0 17) = (m46 a0 17) := (zfr_ap hfm48 hc0 rfl)
  have r65 : 1 ≤ (m48 a0 18) ∧ (m48 a0 18) ≤ 6 := zi_rd hIm48 hc0 zb_28_18
  have e66 : (m48 a0 18) = (m46 a0 18) := (zfr_ap hfm48 hc0 rfl)
  have r67 : 0 ≤ (m48 a0 20) ∧ (m48 a0 20) ≤ 4 := zi_rd hIm48 hc0 zb_28_20
  have e68 : (m48 a0 20) = (m46 a0 20) := (zfr_ap hfm48 hc0 rfl)
  have r69 : 0 ≤ (m48 a0 23) ∧ (m48 a0 23) ≤ 1 := zi_rd hIm48 hc0 zb_28_23
  have e70 : (m48 a0 23) = (m46 a0 23) := (zfr_ap hfm48 hc0 rfl)
  have hRC0m48 := zC0_keep (m2 := m48) (zone_190 hc0) (hvm48.2) hRCRm46 (by omega) (by omega) (by omega)
  have hRCRm48 := zCR_keep (m2 := m48) (zone_190 hc0) (hvm48.2) hRCRm46 (by omega) (by omega) (by omega) (by omega)
  refine zw_bd (zw_mono (zk_32_111 n hIm48 zq_202 ⟨by decide, by decide⟩) (fun v72 m71 hqm71 => ?_))
  obtain ⟨hIm71, hfm71, hvm71⟩ := hqm71
  have hFm71 := zfr_tr hFm48 hfm71 rfl
  have hRC0m71 := zR_C0_fr (zdis_fr hfm71 rfl) hRC0m48
  have hRCRm71 := zR_CR_fr (zdis_fr hfm71 rfl) hRCRm48
  have hRKNm71 := zR_KN_fr (zdis_fr hfm71 rfl) hRKNm48
  have hRLRm71 := zR_LR_fr (zdis_fr hfm71 rfl) hRLRm48
  refine zw_bd (zw_mono (zk_32_112 n hIm71 zq_203 ⟨by decide, by decide⟩) (fun v74 m73 hqm73 => ?_))
  obtain ⟨hIm73, hfm73, hvm73⟩ := hqm73
  have hFm73 := zfr_tr hFm71 hfm73 rfl
  have hRC0m73 := zR_C0_fr (zdis_fr hfm73 rfl) hRC0m71
  have hRCRm73 := zR_CR_fr (zdis_fr hfm73 rfl) hRCRm71
  have hRKNm73 := zR_KN_fr (zdis_fr hfm73 rfl) hRKNm71
  have hRLRm73 := zR_LR_fr (zdis_fr hfm73 rfl) hRLRm71
  refine zw_bd (zw_mono (zk_32_113 n hIm73 zq_204 ⟨by decide, by decide⟩) (fun v76 m75 hqm75 => ?_))
  obtain ⟨hIm75, hfm75, hvm75⟩ := hqm75
  have hFm75 := zfr_tr hFm73 hfm75 rfl
  have hRC0m75 := zR_C0_fr (zdis_fr hfm75 rfl) hRC0m73
  have hRCRm75 := zR_CR_fr (zdis_fr hfm75 rfl) hRCRm73
  have hRKNm75 := zR_KN_fr (zdis_fr hfm75 rfl) hRKNm73
  have hRLRm75 := zR_LR_fr (zdis_fr hfm75 rfl) hRLRm73
  have r77 : (-2147483648) ≤ (m75 a0 4) ∧ (m75 a0 4) ≤ 2147483647 := zi_rd hIm75 hc0 zb_28_4
  have e78 : (m75 a0 4) = (m0 a0 4) := (Eq.trans (zfr_ap hfm75 hc0 rfl) (Eq.trans (zfr_ap hfm73 hc0 rfl) (Eq.trans (zfr_ap hfm71 hc0 rfl) (Eq.trans (zfr_ap hfm48 hc0 rfl) (Eq.trans (zfr_ap hfm46 hc0 rfl) (Eq.trans (zfr_ap hfm44 hc0 rfl) (Eq.trans (zfr_ap hfm42 hc0 rfl) (Eq.trans (zfr_ap hfm40 hc0 rfl) (Eq.trans (zfr_ap hfm38 hc0 rfl) (Eq.trans (zfr_ap hfm36 hc0 rfl) (Eq.trans (zs_ne hmm35 (Or.inr (by decide))) (Eq.trans (zs_ne hmm33 (Or.inr (by decide))) (Eq.trans (zs_ne hmm31 (Or.inr (by decide))) (Eq.trans (zs_ne hmm29 (Or.inr (by decide))) (zs_ne hmm27 (Or.inr (by decide)))))))))))))))))
  have hM : (4 - 0) * 1 + 0 < ((5 : Nat) : Int) := by omega
  exact (zl_31 n (m0 := m0) hc0 hxp0 5) 0 m75 hIm75 hFm75 ⟨by omega, by omega⟩ (fun k h0 h1 => by omega) (by omega) hRC0m75 hRCRm75 hRKNm75 hRLRm75 hM
set_option maxHeartbeats 4000000 in
theorem zk_62 (n : Nat) {a0 a1 a2 : Int} {m0 : zu_m} (hIm0 : zi_I m0) (hc0 : zcls a0 = 2) (ha1 : (-2147483648) ≤ a1 ∧ a1 ≤ 2147483647) (ha2 : (-2147483648) ≤ a2 ∧ a2 ≤ 2147483647)    (hRE89m0 : zE m0 89 50) (hRG5m0 : zgeo m0 50) (hRK54m0 : zR_K54 m0) : zw (zu_call (zt_T n) 62 [(5, a0), (0, a1), (0, a2)] m0) (fun v m => zi_I m ∧ zfr [(24, 16), (25, 3), (25, 5), (25, 9), (25, 10), (25, 11), (25, 12), (26, 1), (26, 2), (26, 3), (26, 4), (27, 1), (27, 2), (27, 3), (27, 4), (27, 5), (27, 6), (27, 7), (27, 8), (56, 0), (59, 1), (59, 2), (59, 3), (59, 4), (59, 5), (59, 6), (59, 7), (97, 0), (98, 0)] m0 m ∧ zE m 89 50 ∧ zgeo m 50 ∧ zR_K54 m ∧ ((-2147483648) ≤ v ∧ v ≤ 1000000)) := by
  have hFm0 : zfr [(24, 16), (25, 3), (25, 5), (25, 9), (25, 10), (25, 11), (25, 12), (26, 1), (26, 2), (26, 3), (26, 4), (27, 1), (27, 2), (27, 3), (27, 4), (27, 5), (27, 6), (27, 7), (27, 8), (56, 0), (59, 1), (59, 2), (59, 3), (59, 4), (59, 5), (59, 6), (59, 7), (97, 0), (98, 0)] m0 m0 := zfr_rf _ _
  refine zw_eq (zu_call_at (zt_T n) (zm_62 n) (zdp_62 n) _ _ _ _ _ rfl (zr_62_0 n _ _ a0 a1 a2 m0)) ?_
  refine zw_bd (zw_eq (zu_call_at (zt_T n) (zm_53 n) (zdp_53 n) _ _ _ _ _ rfl (zr_53_0 n _ _ a1 m0)) ?_)
  refine zw_ite (fun h1 => ?_) (fun h1 => ?_)
  · refine zw_b (by omega) ?_
    refine zw_some ?_
    refine zw_ite (fun h2 => ?_) (fun h2 => ?_)
    · exact zw_some ⟨hIm0, hFm0, hRE89m0, hRG5m0, hRK54m0, ⟨by decide, by decide⟩⟩
    · exfalso; omega
  · refine zw_ite (fun h3 => ?_) (fun h3 => ?_)
    · refine zw_b (by omega) ?_
      refine zw_some ?_
      refine zw_ite (fun h4 => ?_) (fun h4 => ?_)
      · exact zw_some ⟨hIm0, hFm0, hRE89m0, hRG5m0, hRK54m0, ⟨by decide, by decide⟩⟩
      · exfalso; omega
    · refine zw_b (by omega) ?_
      refine zw_some ?_
      refine zw_ite (fun h5 => ?_) (fun h5 => ?_)
      · exfalso; omega
      · refine zw_ite (fun h6 => ?_) (fun h6 => ?_)
        · exact zw_some ⟨hIm0, hFm0, hRE89m0, hRG5m0, hRK54m0, ⟨by decide, by decide⟩⟩
        · refine zw_ite (fun h7 => ?_) (fun h7 => ?_)
          · exact zw_some ⟨hIm0, hFm0, hRE89m0, hRG5m0, hRK54m0, ⟨by decide, by decide⟩⟩
          · have r8 : 0 ≤ (m0 89 4) ∧ (m0 89 4) ≤ 4 := zi_rd hIm0 zq_89 zb_16_4
            refine zw_ite (fun h9 => ?_) (fun h9 => ?_)
            · refine zw_bd (zw_mono (zk_298 n hIm0 zq_153 ⟨by omega, by omega⟩ ⟨by omega, by omega⟩ hRE89m0 hRG5m0 hRK54m0) (fun v11 m10 hqm10 => ?_))
              obtain ⟨hIm10, hfm10, hvm10⟩ := hqm10
              have hFm10 := zfr_tr hFm0 hfm10 rfl
              obtain ⟨hRE89m10, hRG5m10, hRK54m10, hvm10⟩ := hvm10
              refine zw_ite (fun h12 => ?_) (fun h12 => ?_)
              · exact zw_some ⟨hIm10, hFm10, hRE89m10, hRG5m10, hRK54m10, ⟨by omega, by omega⟩⟩
              · exact zw_some ⟨hIm10, hFm10, hRE89m10, hRG5m10, hRK54m10, ⟨by omega, by omega⟩⟩
            · exact zw_some ⟨hIm0, hFm0, hRE89m0, hRG5m0, hRK54m0, ⟨by decide, by decide⟩⟩
set_option maxHeartbeats 4000000 in
theorem zk_63 (n : Nat) {a0 a1 a2 : Int} {m0 : zu_m} (hIm0 : zi_I m0) (hc0 : zcls a0 = 2) (ha1 : (-2147483648) ≤ a1 ∧ a1 ≤ 2147483647) (ha2 : (-2147483648) ≤ a2 ∧ a2 ≤ 2147483647)    (hRE89m0 : zE m0 89 50) (hRG5m0 : zgeo m0 50) (hRK54m0 : zR_K54 m0) : zw (zu_call (zt_T n) 63 [(5, a0), (0, a1), (0, a2)] m0) (fun v m => zi_I m ∧ zfr [(25, 3), (25, 5), (25, 9), (25, 10), (25, 11), (25, 12), (26, 1), (26, 2), (26, 3), (26, 4), (27, 1), (27, 2), (27, 3), (27, 4), (27, 5), (27, 6), (27, 7), (27, 8), (56, 0), (59, 1), (59, 2), (59, 3), (59, 4), (59, 5), (59, 6), (59, 7), (97, 0), (98, 0)] m0 m ∧ zE m 89 50 ∧ zgeo m 50 ∧ zR_K54 m ∧ ((-2147483648) ≤ v ∧ v ≤ 2147483647)) := by
  have hFm0 : zfr [(25, 3), (25, 5), (25, 9), (25, 10), (25, 11), (25, 12), (26, 1), (26, 2), (26, 3), (26, 4), (27, 1), (27, 2), (27, 3), (27, 4), (27, 5), (27, 6), (27, 7), (27, 8), (56, 0), (59, 1), (59, 2), (59, 3), (59, 4), (59, 5), (59, 6), (59, 7), (97, 0), (98, 0)] m0 m0 := zfr_rf _ _
  refine zw_eq (zu_call_at (zt_T n) (zm_63 n) (zdp_63 n) _ _ _ _ _ rfl (zr_63_0 n _ _ a0 a1 a2 m0)) ?_
  refine zw_ite (fun h1 => ?_) (fun h1 => ?_)
  · exact zw_some ⟨hIm0, hFm0, hRE89m0, hRG5m0, hRK54m0, ⟨by decide, by decide⟩⟩
  · refine zw_ite (fun h2 => ?_) (fun h2 => ?_)
    · exact zw_some ⟨hIm0, hFm0, hRE89m0, hRG5m0, hRK54m0, ⟨by decide, by decide⟩⟩
    · refine zw_bd (zw_eq (zu_call_at (zt_T n) (zm_53 n) (zdp_53 n) _ _ _ _ _ rfl (zr_53_0 n _ _ a2 m0)) ?_)
      refine zw_ite (fun h3 => ?_) (fun h3 => ?_)
      · refine zw_b (by omega) ?_
        refine zw_some ?_
        refine zw_ite (fun h4 => ?_) (fun h4 => ?_)
        · exfalso; omega
        · exact zw_some ⟨hIm0, hFm0, hRE89m0, hRG5m0, hRK54m0, ⟨by decide, by decide⟩⟩
      · refine zw_ite (fun h5 => ?_) (fun h5 => ?_)
        · refine zw_b (by omega) ?_
          refine zw_some ?_
          refine zw_ite (fun h6 => ?_) (fun h6 => ?_)
          · exfalso; omega
          · exact zw_some ⟨hIm0, hFm0, hRE89m0, hRG5m0, hRK54m0, ⟨by decide, by decide⟩⟩
        · refine zw_b (by omega) ?_
          refine zw_some ?_
          refine zw_ite (fun h7 => ?_) (fun h7 => ?_)
          · refine zw_bd (zw_mono (zk_299 n hIm0 zq_153 ⟨by omega, by omega⟩ ⟨by omega, by omega⟩ hRE89m0 hRG5m0 hRK54m0) (fun v9 m8 hqm8 => ?_))
            obtain ⟨hIm8, hfm8, hvm8⟩ := hqm8
            have hFm8 := zfr_tr hFm0 hfm8 rfl
            obtain ⟨hRE164m8, hRE89m8, hRG5m8, hRK54m8, hvm8⟩ := hvm8
            exact zw_some ⟨hIm8, hFm8, hRE89m8, hRG5m8, hRK54m8, ⟨by omega, by omega⟩⟩
          · exfalso; omega
set_option maxHeartbeats 4000000 in
theorem zk_70 (n : Nat) {a0 a1 : Int} {m0 : zu_m} (hIm0 : zi_I m0) (hc0 : zcls a0 = 2) (ha1 : (-2147483648) ≤ a1 ∧ a1 ≤ 2147483647)    (hRK54m0 : zR_K54 m0) : zw (zu_call (zt_T n) 70 [(5, a0), (0, a1)] m0) (fun v m => zi_I m ∧ zfr [(56, 0), (59, 1), (59, 2), (59, 3), (59, 4), (59, 5), (59, 6), (59, 7)] m0 m ∧ zR_K54 m ∧ ((-8) ≤ v ∧ v ≤ 15)) := by
  have hFm0 : zfr [(56, 0), (59, 1), (59, 2), (59, 3), (59, 4), (59, 5), (59, 6), (59, 7)] m0 m0 := zfr_rf _ _
  refine zw_eq (zu_call_at (zt_T n) (zm_70 n) (zdp_70 n) _ _ _ _ _ rfl (zr_70_0 n _ _ a0 a1 m0)) ?_
  refine zw_ite (fun h1 => ?_) (fun h1 => ?_)
  · exact zw_some ⟨hIm0, hFm0, hRK54m0, ⟨by decide, by decide⟩⟩
  · refine zw_ite (fun h2 => ?_) (fun h2 => ?_)
    · refine zw_bd (zw_mono (zk_241 n hIm0 zq_89 ⟨by omega, by omega⟩ hRK54m0) (fun v4 m3 hqm3 => ?_))
      obtain ⟨hIm3, hfm3, hvm3⟩ := hqm3
      have hFm3 := zfr_tr hFm0 hfm3 rfl
      obtain ⟨hRK54m3, hvm3⟩ := hvm3
      exact zw_some ⟨hIm3, hFm3, hRK54m3, ⟨by omega, by omega⟩⟩
    · exact zw_some ⟨hIm0, hFm0, hRK54m0, ⟨by decide, by decide⟩⟩
set_option maxHeartbeats 4000000 in
theorem zk_76 (n : Nat) {a0 a1 a2 a3 a4 : Int} {m0 : zu_m} (hIm0 : zi_I m0) (hc0 : zcls a0 = 2) (ha1 : (-2147483648) ≤ a1 ∧ a1 ≤ 2147483647) (ha2 : (-2147483648) ≤ a2 ∧ a2 ≤ 2147483647) (ha3 : (-2147483648) ≤ a3 ∧ a3 ≤ 2147483647) (ha4 : (-2147483648) ≤ a4 ∧ a4 ≤ 2147483647)    (hRE89m0 : zE m0 89 50) (hRG5m0 : zgeo m0 50) (hRK54m0 : zR_K54 m0) : zw (zu_call (zt_T n) 76 [(5, a0), (0, a1), (0, a2), (0, a3), (0, a4)] m0) (fun v m => zi_I m ∧ zfr [(25, 3), (25, 5), (25, 9), (25, 10), (25, 11), (25, 12), (26, 1), (26, 2), (26, 3), (26, 4), (27, 1), (27, 2), (27, 3), (27, 4), (27, 5), (27, 6), (27, 7), (27, 8), (56, 0), (59, 1), (59, 2), (59, 3), (59, 4), (59, 5), (59, 6), (59, 7), (97, 0), (98, 0)] m0 m ∧ zE m 89 50 ∧ zgeo m 50 ∧ zR_K54 m ∧ ((-2147483648) ≤ v ∧ v ≤ 2147483647)) := by
  have hFm0 : zfr [(25, 3), (25, 5), (25, 9), (25, 10), (25, 11), (25, 12), (26, 1), (26, 2), (26, 3), (26, 4), (27, 1), (27, 2), (27, 3), (27, 4), (27, 5), (27, 6), (27, 7), (27, 8), (56, 0), (59, 1), (59, 2), (59, 3), (59, 4), (59, 5), (59, 6), (59, 7), (97, 0), (98, 0)] m0 m0 := zfr_rf _ _
  refine zw_eq (zu_call_at (zt_T n) (zm_76 n) (zdp_76 n) _ _ _ _ _ rfl (zr_76_0 n _ _ a0 a1 a2 a3 a4 m0)) ?_
  refine zw_ite (fun h1 => ?_) (fun h1 => ?_)
  · exact zw_some ⟨hIm0, hFm0, hRE89m0, hRG5m0, hRK54m0, ⟨by decide, by decide⟩⟩
  · refine zw_bd (zw_eq (zu_call_at (zt_T n) (zm_53 n) (zdp_53 n) _ _ _ _ _ rfl (zr_53_0 n _ _ a2 m0)) ?_)
    refine zw_ite (fun h2 => ?_) (fun h2 => ?_)
    · refine zw_b (by omega) ?_
      refine zw_some ?_
      refine zw_ite (fun h3 => ?_) (fun h3 => ?_)
      · exact zw_some ⟨hIm0, hFm0, hRE89m0, hRG5m0, hRK54m0, ⟨by decide, by decide⟩⟩
      · exfalso; omega
    · refine zw_ite (fun h4 => ?_) (fun h4 => ?_)
      · refine zw_b (by omega) ?_
        refine zw_some ?_
        refine zw_ite (fun h5 => ?_) (fun h5 => ?_)
        · exact zw_some ⟨hIm0, hFm0, hRE89m0, hRG5m0, hRK54m0, ⟨by decide, by decide⟩⟩
        · exfalso; omega
      · refine zw_b (by omega) ?_
        refine zw_some ?_
        refine zw_ite (fun h6 => ?_) (fun h6 => ?_)
        · exfalso; omega
        · refine zw_bd (zw_eq (zu_call_at (zt_T n) (zm_211 n) (zdp_211 n) _ _ _ _ _ rfl (zr_211_0 n _ _ 89 a3 m0)) ?_)
          refine zw_ite (fun h7 => ?_) (fun h7 => ?_)
          · refine zw_b (by omega) ?_
            refine zw_some ?_
            refine zw_ite (fun h8 => ?_) (fun h8 => ?_)
            · exact zw_some ⟨hIm0, hFm0, hRE89m0, hRG5m0, hRK54m0, ⟨by decide, by decide⟩⟩
            · exfalso; omega
          · have r9 : 0 ≤ (m0 89 4) ∧ (m0 89 4) ≤ 4 := zi_rd hIm0 zq_89 zb_16_4
            refine zw_ite (fun h10 => ?_) (fun h10 => ?_)
            · refine zw_b (by omega) ?_
              refine zw_some ?_
              refine zw_ite (fun h11 => ?_) (fun h11 => ?_)
              · exact zw_some ⟨hIm0, hFm0, hRE89m0, hRG5m0, hRK54m0, ⟨by decide, by decide⟩⟩
              · exfalso; omega
            · refine zw_b (by omega) ?_
              refine zw_some ?_
              refine zw_ite (fun h12 => ?_) (fun h12 => ?_)
              · exfalso; omega
              · refine zw_ite (fun h13 => ?_) (fun h13 => ?_)
                · exact zw_some ⟨hIm0, hFm0, hRE89m0, hRG5m0, hRK54m0, ⟨by decide, by decide⟩⟩
                · refine zw_ite (fun h14 => ?_) (fun h14 => ?_)
                  · refine zw_bd (zw_mono (zk_303 n hIm0 zq_153 ⟨by omega, by omega⟩ ⟨by omega, by omega⟩ ⟨by omega, by omega⟩ ⟨by omega, by omega⟩ ⟨by omega, by omega⟩ hRE89m0 hRG5m0 hRK54m0) (fun v16 m15 hqm15 => ?_))
                    obtain ⟨hIm15, hfm15, hvm15⟩ := hqm15
                    have hFm15 := zfr_tr hFm0 hfm15 rfl
                    obtain ⟨hRE89m15, hRG5m15, hRK54m15, hvm15⟩ := hvm15
                    exact zw_some ⟨hIm15, hFm15, hRE89m15, hRG5m15, hRK54m15, ⟨by omega, by omega⟩⟩
                  · exact zw_some ⟨hIm0, hFm0, hRE89m0, hRG5m0, hRK54m0, ⟨by decide, by decide⟩⟩
set_option maxHeartbeats 4000000 in
theorem zk_77 (n : Nat) {a0 a1 a2 a3 : Int} {m0 : zu_m} (hIm0 : zi_I m0) (hc0 : zcls a0 = 2) (ha1 : (-2147483648) ≤ a1 ∧ a1 ≤ 2147483647) (ha2 : (-2147483648) ≤ a2 ∧ a2 ≤ 2147483647) (ha3 : (-2147483648) ≤ a3 ∧ a3 ≤ 2147483647)    (hRE89m0 : zE m0 89 50) (hRG5m0 : zgeo m0 50) (hRK54m0 : zR_K54 m0) : zw (zu_call (zt_T n) 77 [(5, a0), (0, a1), (0, a2), (0, a3)] m0) (fun v m => zi_I m ∧ zfr [(25, 3), (25, 5), (25, 9), (25, 10), (25, 11), (25, 12), (26, 1), (26, 2), (26, 3), (26, 4), (27, 1), (27, 2), (27, 3), (27, 4), (27, 5), (27, 6), (27, 7), (27, 8), (56, 0), (59, 1), (59, 2), (59, 3), (59, 4), (59, 5), (59, 6), (59, 7), (97, 0), (98, 0)] m0 m ∧ zE m 89 50 ∧ zgeo m 50 ∧ zR_K54 m ∧ ((-2147483648) ≤ v ∧ v ≤ 2147483647)) := by
  have hFm0 : zfr [(25, 3), (25, 5), (25, 9), (25, 10), (25, 11), (25, 12), (26, 1), (26, 2), (26, 3), (26, 4), (27, 1), (27, 2), (27, 3), (27, 4), (27, 5), (27, 6), (27, 7), (27, 8), (56, 0), (59, 1), (59, 2), (59, 3), (59, 4), (59, 5), (59, 6), (59, 7), (97, 0), (98, 0)] m0 m0 := zfr_rf _ _
  refine zw_eq (zu_call_at (zt_T n) (zm_77 n) (zdp_77 n) _ _ _ _ _ rfl (zr_77_0 n _ _ a0 a1 a2 a3 m0)) ?_
  refine zw_ite (fun h1 => ?_) (fun h1 => ?_)
  · exact zw_some ⟨hIm0, hFm0, hRE89m0, hRG5m0, hRK54m0, ⟨by decide, by decide⟩⟩
  · refine zw_ite (fun h2 => ?_) (fun h2 => ?_)
    · exact zw_some ⟨hIm0, hFm0, hRE89m0, hRG5m0, hRK54m0, ⟨by decide, by decide⟩⟩
    · refine zw_ite (fun h3 => ?_) (fun h3 => ?_)
      · exact zw_some ⟨hIm0, hFm0, hRE89m0, hRG5m0, hRK54m0, ⟨by decide, by decide⟩⟩
      · refine zw_ite (fun h4 => ?_) (fun h4 => ?_)
        · refine zw_ite (fun h5 => ?_) (fun h5 => ?_)
          · refine zw_ite (fun h6 => ?_) (fun h6 => ?_)
            · refine zw_ite (fun h7 => ?_) (fun h7 => ?_)
              · exact zw_some ⟨hIm0, hFm0, hRE89m0, hRG5m0, hRK54m0, ⟨by decide, by decide⟩⟩
              · exfalso; omega
            · refine zw_ite (fun h8 => ?_) (fun h8 => ?_)
              · exfalso; omega
              · refine zw_bd (zw_mono (zk_304 n hIm0 zq_153 ⟨by omega, by omega⟩ ⟨by omega, by omega⟩ ⟨by omega, by omega⟩ hRE89m0 hRG5m0 hRK54m0) (fun v10 m9 hqm9 => ?_))
                obtain ⟨hIm9, hfm9, hvm9⟩ := hqm9
                have hFm9 := zfr_tr hFm0 hfm9 rfl
                obtain ⟨hRE164m9, hRE89m9, hRG5m9, hRK54m9, hvm9⟩ := hvm9
                exact zw_some ⟨hIm9, hFm9, hRE89m9, hRG5m9, hRK54m9, ⟨by omega, by omega⟩⟩
          · refine zw_bd (zw_eq (zu_call_at (zt_T n) (zm_211 n) (zdp_211 n) _ _ _ _ _ rfl (zr_211_0 n _ _ 89 a2 m0)) ?_)
            refine zw_ite (fun h11 => ?_) (fun h11 => ?_)
            · refine zw_b (by omega) ?_
              refine zw_some ?_
              refine zw_ite (fun h12 => ?_) (fun h12 => ?_)
              · exact zw_some ⟨hIm0, hFm0, hRE89m0, hRG5m0, hRK54m0, ⟨by decide, by decide⟩⟩
              · exfalso; omega
            · have r13 : 0 ≤ (m0 89 4) ∧ (m0 89 4) ≤ 4 := zi_rd hIm0 zq_89 zb_16_4
              refine zw_ite (fun h14 => ?_) (fun h14 => ?_)
              · refine zw_b (by omega) ?_
                refine zw_some ?_
                refine zw_ite (fun h15 => ?_) (fun h15 => ?_)
                · exact zw_some ⟨hIm0, hFm0, hRE89m0, hRG5m0, hRK54m0, ⟨by decide, by decide⟩⟩
                · exfalso; omega
              · refine zw_b (by omega) ?_
                refine zw_some ?_
                refine zw_ite (fun h16 => ?_) (fun h16 => ?_)
                · exfalso; omega
                · refine zw_bd (zw_mono (zk_304 n hIm0 zq_153 ⟨by omega, by omega⟩ ⟨by omega, by omega⟩ ⟨by omega, by omega⟩ hRE89m0 hRG5m0 hRK54m0) (fun v18 m17 hqm17 => ?_))
                  obtain ⟨hIm17, hfm17, hvm17⟩ := hqm17
                  have hFm17 := zfr_tr hFm0 hfm17 rfl
                  obtain ⟨hRE164m17, hRE89m17, hRG5m17, hRK54m17, hvm17⟩ := hvm17
                  exact zw_some ⟨hIm17, hFm17, hRE89m17, hRG5m17, hRK54m17, ⟨by omega, by omega⟩⟩
        · exact zw_some ⟨hIm0, hFm0, hRE89m0, hRG5m0, hRK54m0, ⟨by decide, by decide⟩⟩
set_option maxHeartbeats 4000000 in
theorem zl_137 (n : Nat) {a0 a1 a2 : Int} {m0 : zu_m} (hc0 : zcls a0 = 28)   : ∀ k : Nat, (∀ (x3 x4 : Int) (mh : zu_m), zi_I mh → zfr [(28, 54), (28, 64), (122, 0), (123, 0), (124, 0), (128, 0), (129, 0), (131, 0)] m0 mh → (0 ≤ a1 ∧ a1 ≤ 1) → (0 ≤ a2 ∧ a2 ≤ 3) → (0 ≤ x3 ∧ x3 ≤ 47) → (0 ≤ x4 ∧ x4 ≤ 18) → (zR_KN mh) → (zR_LT mh) → (18 - x4) * 1 + 0 < (k : Int) → zw (zu_ex (zt_T n) 137 14 [(40, a0), (0, a1), (0, a2), (0, x3), (0, x4), (2, 0), (2, 0)] [] mh) (fun v m => zi_I m ∧ zfr [(28, 54), (28, 64), (122, 0), (123, 0), (124, 0), (128, 0), (129, 0), (131, 0)] m0 m ∧ zR_KN m ∧ zR_LT m ∧ True)) := by
  intro k
  induction k with
  | zero => exact fun x3 x4 mh hImh hFmh hba1 hba2 hbx3 hbx4 hRKNmh hRLTmh hM => by exfalso; omega
  | succ k ih =>
    intro x3 x4 mh hImh hFmh hba1 hba2 hbx3 hbx4 hRKNmh hRLTmh hM
    refine zw_eq (zu_rega_at (zt_T n) (zm_137 n) (zdp_137 n) _ _ _ _ _ _ (zr_137_14 n _ _ a0 a1 a2 x3 x4 mh)) ?_
    have b1 : 0 ≤ a1 ∧ a1 < 2 := by omega
    refine zw_if b1 ?_
    have r2 : 0 ≤ (mh 216 a1) ∧ (mh 216 a1) ≤ 18 := zi_rdr (m := 2) (r0 := 0) (r1 := 1) hImh zq_216 (by omega) (by decide +kernel)
    refine zw_ite (fun h3 => ?_) (fun h3 => ?_)
    · have b4 : 0 ≤ a1 ∧ a1 < 2 := by omega
      refine zw_if b4 ?_
      have r5 : (-9223372036854775808) ≤ (mh 220 a1) ∧ (mh 220 a1) ≤ 9223372036854775807 := zi_rd hImh zq_220 (zb_129 _)
      have b6 := zu_shl_rg 1 x3
      have b7 := zu_i64_rg 4 (mh 220 a1) (zu_shl 1 x3)
      have b8 : 0 ≤ a1 ∧ a1 < 2 := by omega
      refine zw_if b8 ?_
      generalize hmm9 : zu_up mh 220 a1 (zu_i64 4 (mh 220 a1) (zu_shl 1 x3)) = m9
      have hIm9 := zi_up hmm9 hImh zq_220 (zb_129 _) (by omega) (by omega)
      have hFm9 := zfr_up hmm9 hFmh zq_220 rfl
      have hRKNm9 := zR_KN_fr (zdis_fr (zfr_up hmm9 (zfr_rf [(129, 0)] _) zq_220 rfl) rfl) hRKNmh
      have hRLTm9 := zR_LT_fr (zdis_fr (zfr_up hmm9 (zfr_rf [(129, 0)] _) zq_220 rfl) rfl) hRLTmh
      refine zw_ite (fun h10 => ?_) (fun h10 => ?_)
      · have b11 : 0 ≤ a2 ∧ a2 < 4 := by omega
        refine zw_if b11 ?_
        have r12 : (-2147483648) ≤ (m9 219 a2) ∧ (m9 219 a2) ≤ 2147483647 := zi_rd hIm9 zq_219 (zb_128 _)
        have w13 := zu_w32_rg ((m9 219 a2) + 1)
        have b14 : 0 ≤ a2 ∧ a2 < 4 := by omega
        refine zw_if b14 ?_
        generalize hmm15 : zu_up m9 219 a2 (zu_w32 ((m9 219 a2) + 1)) = m15
        have hIm15 := zi_up hmm15 hIm9 zq_219 (zb_128 _) (by omega) (by omega)
        have hFm15 := zfr_up hmm15 hFm9 zq_219 rfl
        have hRKNm15 := zR_KN_fr (zdis_fr (zfr_up hmm15 (zfr_rf [(128, 0)] _) zq_219 rfl) rfl) hRKNm9
        have hRLTm15 := zR_LT_fr (zdis_fr (zfr_up hmm15 (zfr_rf [(128, 0)] _) zq_219 rfl) rfl) hRLTm9
        have b16 : 0 ≤ x3 ∧ x3 < 48 := by omega
        refine zw_if b16 ?_
        have r17 : (-2147483648) ≤ (m15 222 x3) ∧ (m15 222 x3) ≤ 2147483647 := zi_rd hIm15 zq_222 (zb_131 _)
        refine zw_bd (zw_mono (zk_138 n hIm15 hc0 ⟨by omega, by omega⟩ ⟨by omega, by omega⟩ ⟨by omega, by omega⟩ hRKNm15 hRLTm15) (fun v19 m18 hqm18 => ?_))
        obtain ⟨hIm18, hfm18, hvm18⟩ := hqm18
        have hFm18 := zfr_tr hFm15 hfm18 rfl
        obtain ⟨hRKNm18, hRLTm18, hvm18⟩ := hvm18
        have b20 : 0 ≤ x3 ∧ x3 < 48 := by omega
        refine zw_if b20 ?_
        generalize hmm21 : zu_up m18 222 x3 v19 = m21
        have hIm21 := zi_up hmm21 hIm18 zq_222 (zb_131 _) (by omega) (by omega)
        have hFm21 := zfr_up hmm21 hFm18 zq_222 rfl
        have hRKNm21 := zR_KN_fr (zdis_fr (zfr_up hmm21 (zfr_rf [(131, 0)] _) zq_222 rfl) rfl) hRKNm18
        have hRLTm21 := zR_LT_fr (zdis_fr (zfr_up hmm21 (zfr_rf [(131, 0)] _) zq_222 rfl) rfl) hRLTm18
        exact zw_some ⟨hIm21, hFm21, hRKNm21, hRLTm21, trivial⟩
      · exact zw_some ⟨hIm9, hFm9, hRKNm9, hRLTm9, trivial⟩
    · have w22 := zu_w32_id (z := 18 * a1) (by omega) (by omega)
      have w23 := zu_w32_id (z := (zu_w32 (18 * a1)) + x4) (by omega) (by omega)
      have b24 : 0 ≤ (zu_w32 ((zu_w32 (18 * a1)) + x4)) ∧ (zu_w32 ((zu_w32 (18 * a1)) + x4)) < 36 := by omega
      refine zw_if b24 ?_
      have r25 : (-3) ≤ (mh 215 (zu_w32 ((zu_w32 (18 * a1)) + x4))) ∧ (mh 215 (zu_w32 ((zu_w32 (18 * a1)) + x4))) ≤ 3 := zi_rd hImh zq_215 (zb_124 _)
      refine zw_ite (fun h26 => ?_) (fun h26 => ?_)
      · have w27 := zu_w32_id (z := x4 + 1) (by omega) (by omega)
        have hM : (18 - (zu_w32 (x4 + 1))) * 1 + 0 < (k : Int) := by omega
        exact ih x3 (zu_w32 (x4 + 1)) mh hImh hFmh ⟨by omega, by omega⟩ ⟨by omega, by omega⟩ ⟨by omega, by omega⟩ ⟨by omega, by omega⟩ hRKNmh hRLTmh hM
      · have b28 : 0 ≤ x4 ∧ x4 < 36 := by omega
        refine zw_if b28 ?_
        have r29 : 0 ≤ (mh 197 x4) ∧ (mh 197 x4) ≤ 47 := zi_rd hImh zq_197 (zb_106 _)
        refine zw_ite (fun h30 => ?_) (fun h30 => ?_)
        · have w31 := zu_w32_id (z := x4 + 1) (by omega) (by omega)
          have hM : (18 - (zu_w32 (x4 + 1))) * 1 + 0 < (k : Int) := by omega
          exact ih x3 (zu_w32 (x4 + 1)) mh hImh hFmh ⟨by omega, by omega⟩ ⟨by omega, by omega⟩ ⟨by omega, by omega⟩ ⟨by omega, by omega⟩ hRKNmh hRLTmh hM
        · have r32 : (-2147483648) ≤ (mh a0 64) ∧ (mh a0 64) ≤ 2147483647 := zi_rd hImh hc0 zb_28_64
          refine zw_ite (fun h33 => ?_) (fun h33 => ?_)
          · refine zw_bd (zw_mono (zk_131 n hImh hc0 ⟨by omega, by omega⟩ ⟨by omega, by omega⟩ ⟨by omega, by omega⟩ hRKNmh hRLTmh) (fun v35 m34 hqm34 => ?_))
            obtain ⟨hIm34, hfm34, hvm34⟩ := hqm34
            have hFm34 := zfr_tr hFmh hfm34 rfl
            obtain ⟨hRKNm34, hRLTm34, hvm34⟩ := hvm34
            have r36 : 0 ≤ (m34 a0 65) ∧ (m34 a0 65) ≤ 1 := zi_rd hIm34 hc0 zb_28_65
            refine zw_ite (fun h37 => ?_) (fun h37 => ?_)
            · refine zw_bd (zw_mono (zk_136 n hIm34 hc0 ⟨by decide, by decide⟩) (fun v39 m38 hqm38 => ?_))
              obtain ⟨hIm38, hfm38, hvm38⟩ := hqm38
              have hFm38 := zfr_tr hFm34 hfm38 rfl
              have hRKNm38 := zR_KN_fr (zdis_fr hfm38 rfl) hRKNm34
              have hRLTm38 := zR_LT_fr (zdis_fr hfm38 rfl) hRLTm34
              refine zw_ite (fun h40 => ?_) (fun h40 => ?_)
              · refine zw_ite (fun h41 => ?_) (fun h41 => ?_)
                · have w42 := zu_w32_id (z := x4 + 1) (by omega) (by omega)
                  have hM : (18 - (zu_w32 (x4 + 1))) * 1 + 0 < (k : Int) := by omega
                  exact zw_le (zu_forget (zu_lr_same (zu_lr_same (zu_lr_same (zu_lr_same (zu_lr_same (zu_lr_drop (zu_lr_drop zu_lr_nil)))))))) (ih x3 (zu_w32 (x4 + 1)) m38 hIm38 hFm38 ⟨by omega, by omega⟩ ⟨by omega, by omega⟩ ⟨by omega, by omega⟩ ⟨by omega, by omega⟩ hRKNm38 hRLTm38 hM)
                · exfalso; omega
              · refine zw_ite (fun h43 => ?_) (fun h43 => ?_)
                · exfalso; omega
                · have b44 : 0 ≤ (zu_w32 ((zu_w32 (18 * a1)) + x4)) ∧ (zu_w32 ((zu_w32 (18 * a1)) + x4)) < 36 := by omega
                  refine zw_if b44 ?_
                  generalize hmm45 : zu_up m38 215 (zu_w32 ((zu_w32 (18 * a1)) + x4)) a2 = m45
                  have hIm45 := zi_up hmm45 hIm38 zq_215 (zb_124 _) (by omega) (by omega)
                  have hFm45 := zfr_up hmm45 hFm38 zq_215 rfl
                  have hRKNm45 := zR_KN_fr (zdis_fr (zfr_up hmm45 (zfr_rf [(124, 0)] _) zq_215 rfl) rfl) hRKNm38
                  have hRLTm45 := zR_LT_fr (zdis_fr (zfr_up hmm45 (zfr_rf [(124, 0)] _) zq_215 rfl) rfl) hRLTm38
                  have w46 := zu_w32_id (z := x4 + 1) (by omega) (by omega)
                  have hM : (18 - (zu_w32 (x4 + 1))) * 1 + 0 < (k : Int) := by omega
                  exact zw_le (zu_forget (zu_lr_same (zu_lr_same (zu_lr_same (zu_lr_same (zu_lr_same (zu_lr_drop (zu_lr_drop zu_lr_nil)))))))) (ih x3 (zu_w32 (x4 + 1)) m45 hIm45 hFm45 ⟨by omega, by omega⟩ ⟨by omega, by omega⟩ ⟨by omega, by omega⟩ ⟨by omega, by omega⟩ hRKNm45 hRLTm45 hM)
            · refine zw_ite (fun h47 => ?_) (fun h47 => ?_)
              · refine zw_ite (fun h48 => ?_) (fun h48 => ?_)
                · have w49 := zu_w32_id (z := x4 + 1) (by omega) (by omega)
                  have hM : (18 - (zu_w32 (x4 + 1))) * 1 + 0 < (k : Int) := by omega
                  exact zw_le (zu_forget (zu_lr_same (zu_lr_same (zu_lr_same (zu_lr_same (zu_lr_same (zu_lr_drop (zu_lr_drop zu_lr_nil)))))))) (ih x3 (zu_w32 (x4 + 1)) m34 hIm34 hFm34 ⟨by omega, by omega⟩ ⟨by omega, by omega⟩ ⟨by omega, by omega⟩ ⟨by omega, by omega⟩ hRKNm34 hRLTm34 hM)
                · exfalso; omega
              · refine zw_ite (fun h50 => ?_) (fun h50 => ?_)
                · exfalso; omega
                · have b51 : 0 ≤ (zu_w32 ((zu_w32 (18 * a1)) + x4)) ∧ (zu_w32 ((zu_w32 (18 * a1)) + x4)) < 36 := by omega
                  refine zw_if b51 ?_
                  generalize hmm52 : zu_up m34 215 (zu_w32 ((zu_w32 (18 * a1)) + x4)) a2 = m52
                  have hIm52 := zi_up hmm52 hIm34 zq_215 (zb_124 _) (by omega) (by omega)
                  have hFm52 := zfr_up hmm52 hFm34 zq_215 rfl
                  have hRKNm52 := zR_KN_fr (zdis_fr (zfr_up hmm52 (zfr_rf [(124, 0)] _) zq_215 rfl) rfl) hRKNm34
                  have hRLTm52 := zR_LT_fr (zdis_fr (zfr_up hmm52 (zfr_rf [(124, 0)] _) zq_215 rfl) rfl) hRLTm34
                  have w53 := zu_w32_id (z := x4 + 1) (by omega) (by omega)
                  have hM : (18 - (zu_w32 (x4 + 1))) * 1 + 0 < (k : Int) := by omega
                  exact zw_le (zu_forget (zu_lr_same (zu_lr_same (zu_lr_same (zu_lr_same (zu_lr_same (zu_lr_drop (zu_lr_drop zu_lr_nil)))))))) (ih x3 (zu_w32 (x4 + 1)) m52 hIm52 hFm52 ⟨by omega, by omega⟩ ⟨by omega, by omega⟩ ⟨by omega, by omega⟩ ⟨by omega, by omega⟩ hRKNm52 hRLTm52 hM)
          · have b54 : 0 ≤ x4 ∧ x4 < 36 := by omega
            refine zw_if b54 ?_
            have r55 : 0 ≤ (mh 198 x4) ∧ (mh 198 x4) ≤ 3 := zi_rd hImh zq_198 (zb_107 _)
            refine zw_nif (by omega) ?_
            have d56 : Int.tmod a2 4 = a2 % 4 := Int.tmod_eq_emod_of_nonneg (by omega)
            refine zw_ite (fun h57 => ?_) (fun h57 => ?_)
            · refine zw_bd (zw_mono (zk_131 n hImh hc0 ⟨by omega, by omega⟩ ⟨by omega, by omega⟩ ⟨by omega, by omega⟩ hRKNmh hRLTmh) (fun v59 m58 hqm58 => ?_))
              obtain ⟨hIm58, hfm58, hvm58⟩ := hqm58
              have hFm58 := zfr_tr hFmh hfm58 rfl
              obtain ⟨hRKNm58, hRLTm58, hvm58⟩ := hvm58
              have r60 : 0 ≤ (m58 a0 65) ∧ (m58 a0 65) ≤ 1 := zi_rd hIm58 hc0 zb_28_65
              refine zw_ite (fun h61 => ?_) (fun h61 => ?_)
              · refine zw_bd (zw_mono (zk_136 n hIm58 hc0 ⟨by decide, by decide⟩) (fun v63 m62 hqm62 => ?_))
                obtain ⟨hIm62, hfm62, hvm62⟩ := hqm62
                have hFm62 := zfr_tr hFm58 hfm62 rfl
                have hRKNm62 := zR_KN_fr (zdis_fr hfm62 rfl) hRKNm58
                have hRLTm62 := zR_LT_fr (zdis_fr hfm62 rfl) hRLTm58
                refine zw_ite (fun h64 => ?_) (fun h64 => ?_)
                · refine zw_ite (fun h65 => ?_) (fun h65 => ?_)
                  · have w66 := zu_w32_id (z := x4 + 1) (by omega) (by omega)
                    have hM : (18 - (zu_w32 (x4 + 1))) * 1 + 0 < (k : Int) := by omega
                    exact zw_le (zu_forget (zu_lr_same (zu_lr_same (zu_lr_same (zu_lr_same (zu_lr_same (zu_lr_drop (zu_lr_drop zu_lr_nil)))))))) (ih x3 (zu_w32 (x4 + 1)) m62 hIm62 hFm62 ⟨by omega, by omega⟩ ⟨by omega, by omega⟩ ⟨by omega, by omega⟩ ⟨by omega, by omega⟩ hRKNm62 hRLTm62 hM)
                  · exfalso; omega
                · refine zw_ite (fun h67 => ?_) (fun h67 => ?_)
                  · exfalso; omega
                  · have b68 : 0 ≤ (zu_w32 ((zu_w32 (18 * a1)) + x4)) ∧ (zu_w32 ((zu_w32 (18 * a1)) + x4)) < 36 := by omega
                    refine zw_if b68 ?_
                    generalize hmm69 : zu_up m62 215 (zu_w32 ((zu_w32 (18 * a1)) + x4)) a2 = m69
                    have hIm69 := zi_up hmm69 hIm62 zq_215 (zb_124 _) (by omega) (by omega)
                    have hFm69 := zfr_up hmm69 hFm62 zq_215 rfl
                    have hRKNm69 := zR_KN_fr (zdis_fr (zfr_up hmm69 (zfr_rf [(124, 0)] _) zq_215 rfl) rfl) hRKNm62
                    have hRLTm69 := zR_LT_fr (zdis_fr (zfr_up hmm69 (zfr_rf [(124, 0)] _) zq_215 rfl) rfl) hRLTm62
                    have w70 := zu_w32_id (z := x4 + 1) (by omega) (by omega)
                    have hM : (18 - (zu_w32 (x4 + 1))) * 1 + 0 < (k : Int) := by omega
                    exact zw_le (zu_forget (zu_lr_same (zu_lr_same (zu_lr_same (zu_lr_same (zu_lr_same (zu_lr_drop (zu_lr_drop zu_lr_nil)))))))) (ih x3 (zu_w32 (x4 + 1)) m69 hIm69 hFm69 ⟨by omega, by omega⟩ ⟨by omega, by omega⟩ ⟨by omega, by omega⟩ ⟨by omega, by omega⟩ hRKNm69 hRLTm69 hM)
              · refine zw_ite (fun h71 => ?_) (fun h71 => ?_)
                · refine zw_ite (fun h72 => ?_) (fun h72 => ?_)
                  · have w73 := zu_w32_id (z := x4 + 1) (by omega) (by omega)
                    have hM : (18 - (zu_w32 (x4 + 1))) * 1 + 0 < (k : Int) := by omega
                    exact zw_le (zu_forget (zu_lr_same (zu_lr_same (zu_lr_same (zu_lr_same (zu_lr_same (zu_lr_drop (zu_lr_drop zu_lr_nil)))))))) (ih x3 (zu_w32 (x4 + 1)) m58 hIm58 hFm58 ⟨by omega, by omega⟩ ⟨by omega, by omega⟩ ⟨by omega, by omega⟩ ⟨by omega, by omega⟩ hRKNm58 hRLTm58 hM)
                  · exfalso; omega
                · refine zw_ite (fun h74 => ?_) (fun h74 => ?_)
                  · exfalso; omega
                  · have b75 : 0 ≤ (zu_w32 ((zu_w32 (18 * a1)) + x4)) ∧ (zu_w32 ((zu_w32 (18 * a1)) + x4)) < 36 := by omega
                    refine zw_if b75 ?_
                    generalize hmm76 : zu_up m58 215 (zu_w32 ((zu_w32 (18 * a1)) + x4)) a2 = m76
                    have hIm76 := zi_up hmm76 hIm58 zq_215 (zb_124 _) (by omega) (by omega)
                    have hFm76 := zfr_up hmm76 hFm58 zq_215 rfl
                    have hRKNm76 := zR_KN_fr (zdis_fr (zfr_up hmm76 (zfr_rf [(124, 0)] _) zq_215 rfl) rfl) hRKNm58
                    have hRLTm76 := zR_LT_fr (zdis_fr (zfr_up hmm76 (zfr_rf [(124, 0)] _) zq_215 rfl) rfl) hRLTm58
                    have w77 := zu_w32_id (z := x4 + 1) (by omega) (by omega)
                    have hM : (18 - (zu_w32 (x4 + 1))) * 1 + 0 < (k : Int) := by omega
                    exact zw_le (zu_forget (zu_lr_same (zu_lr_same (zu_lr_same (zu_lr_same (zu_lr_same (zu_lr_drop (zu_lr_drop zu_lr_nil)))))))) (ih x3 (zu_w32 (x4 + 1)) m76 hIm76 hFm76 ⟨by omega, by omega⟩ ⟨by omega, by omega⟩ ⟨by omega, by omega⟩ ⟨by omega, by omega⟩ hRKNm76 hRLTm76 hM)
            · have w78 := zu_w32_id (z := x4 + 1) (by omega) (by omega)
              have hM : (18 - (zu_w32 (x4 + 1))) * 1 + 0 < (k : Int) := by omega
              exact ih x3 (zu_w32 (x4 + 1)) mh hImh hFmh ⟨by omega, by omega⟩ ⟨by omega, by omega⟩ ⟨by omega, by omega⟩ ⟨by omega, by omega⟩ hRKNmh hRLTmh hM
set_option maxHeartbeats 4000000 in
theorem zk_137 (n : Nat) {a0 a1 a2 : Int} {m0 : zu_m} (hIm0 : zi_I m0) (hc0 : zcls a0 = 28) (ha1 : 0 ≤ a1 ∧ a1 ≤ 1) (ha2 : 0 ≤ a2 ∧ a2 ≤ 3)    (hRKNm0 : zR_KN m0) (hRLTm0 : zR_LT m0) : zw (zu_call (zt_T n) 137 [(40, a0), (0, a1), (0, a2)] m0) (fun v m => zi_I m ∧ zfr [(28, 54), (28, 64), (122, 0), (123, 0), (124, 0), (128, 0), (129, 0), (131, 0)] m0 m ∧ zR_KN m ∧ zR_LT m ∧ True) := by
  have hFm0 : zfr [(28, 54), (28, 64), (122, 0), (123, 0), (124, 0), (128, 0), (129, 0), (131, 0)] m0 m0 := zfr_rf _ _
  refine zw_eq (zu_call_at (zt_T n) (zm_137 n) (zdp_137 n) _ _ _ _ _ rfl (zr_137_0 n _ _ a0 a1 a2 m0)) ?_
  have w79 := zu_w32_id (z := 4 * a1) (by omega) (by omega)
  have w80 := zu_w32_id (z := (zu_w32 (4 * a1)) + a2) (by omega) (by omega)
  have b81 : 0 ≤ (zu_w32 ((zu_w32 (4 * a1)) + a2)) ∧ (zu_w32 ((zu_w32 (4 * a1)) + a2)) < 8 := by omega
  refine zw_if b81 ?_
  have r82 : 0 ≤ (m0 217 (zu_w32 ((zu_w32 (4 * a1)) + a2))) ∧ (m0 217 (zu_w32 ((zu_w32 (4 * a1)) + a2))) ≤ 47 := zi_rd hIm0 zq_217 (zb_126 _)
  have hM : (18 - 0) * 1 + 0 < ((19 : Nat) : Int) := by omega
  exact (zl_137 n (m0 := m0) hc0 19) (m0 217 (zu_w32 ((zu_w32 (4 * a1)) + a2))) 0 m0 hIm0 hFm0 ⟨by omega, by omega⟩ ⟨by omega, by omega⟩ ⟨by omega, by omega⟩ ⟨by omega, by omega⟩ hRKNm0 hRLTm0 hM
set_option maxHeartbeats 4000000 in
theorem zk_146 (n : Nat) {a0 a1 a2 : Int} {m0 : zu_m} (hIm0 : zi_I m0) (hc0 : zcls a0 = 28) (ha1 : (-2147483648) ≤ a1 ∧ a1 ≤ 2147483647) (ha2 : (-2147483648) ≤ a2 ∧ a2 ≤ 2147483647)    (hRKNm0 : zR_KN m0) (hRLTm0 : zR_LT m0) : zw (zu_call (zt_T n) 146 [(40, a0), (0, a1), (0, a2)] m0) (fun v m => zi_I m ∧ zfr [(28, 3), (28, 54), (122, 0), (123, 0)] m0 m ∧ zR_KN m ∧ zR_LT m ∧ ((-1) ≤ v ∧ v ≤ 999) ∧ (0 ≤ m a0 2 ∧ m a0 2 ≤ 0)) := by
  have hFm0 : zfr [(28, 3), (28, 54), (122, 0), (123, 0)] m0 m0 := zfr_rf _ _
  refine zw_eq (zu_call_at (zt_T n) (zm_146 n) (zdp_146 n) _ _ _ _ _ rfl (zr_146_0 n _ _ a0 a1 a2 m0)) ?_
  generalize hmm1 : zu_up m0 a0 2 0 = m1
  have hIm1 := zi_up hmm1 hIm0 hc0 zb_28_2 (by omega) (by omega)
  have hFm1 := zfr_up hmm1 hFm0 hc0 rfl
  have hRKNm1 := zR_KN_fr (zdis_fr (zfr_up hmm1 (zfr_rf [(28, 3)] _) hc0 rfl) rfl) hRKNm0
  have hRLTm1 := zR_LT_fr (zdis_fr (zfr_up hmm1 (zfr_rf [(28, 3)] _) hc0 rfl) rfl) hRLTm0
  refine zw_bd (zw_eq (zu_call_at (zt_T n) (zm_125 n) (zdp_125 n) _ _ _ _ _ rfl (zr_125_0 n _ _ a0 a1 m1)) ?_)
  refine zw_ite (fun h2 => ?_) (fun h2 => ?_)
  · refine zw_b (by omega) ?_
    refine zw_some ?_
    refine zw_ite (fun h3 => ?_) (fun h3 => ?_)
    · have r4 : (-2147483648) ≤ (m1 a0 2) ∧ (m1 a0 2) ≤ 2147483647 := zi_rd hIm1 hc0 zb_28_2
      have e5 : (m1 a0 2) = 0 := (zs_eq hmm1)
      exact zw_some ⟨hIm1, hFm1, hRKNm1, hRLTm1, ⟨by decide, by decide⟩, ⟨by omega, by omega⟩⟩
    · exfalso; omega
  · have r6 : 0 ≤ (m1 a0 15) ∧ (m1 a0 15) ≤ 4 := zi_rd hIm1 hc0 zb_28_15
    refine zw_ite (fun h7 => ?_) (fun h7 => ?_)
    · refine zw_b (by omega) ?_
      refine zw_some ?_
      refine zw_ite (fun h8 => ?_) (fun h8 => ?_)
      · have r9 : (-2147483648) ≤ (m1 a0 2) ∧ (m1 a0 2) ≤ 2147483647 := zi_rd hIm1 hc0 zb_28_2
        have e10 : (m1 a0 2) = 0 := (zs_eq hmm1)
        exact zw_some ⟨hIm1, hFm1, hRKNm1, hRLTm1, ⟨by decide, by decide⟩, ⟨by omega, by omega⟩⟩
      · exfalso; omega
    · refine zw_b (by omega) ?_
      refine zw_some ?_
      refine zw_ite (fun h11 => ?_) (fun h11 => ?_)
      · exfalso; omega
      · refine zw_bd (zw_eq (zu_call_at (zt_T n) (zm_124 n) (zdp_124 n) _ _ _ _ _ rfl (zr_124_0 n _ _ a0 a2 m1)) ?_)
        refine zw_ite (fun h12 => ?_) (fun h12 => ?_)
        · refine zw_b (by omega) ?_
          refine zw_some ?_
          refine zw_ite (fun h13 => ?_) (fun h13 => ?_)
          · have r14 : (-2147483648) ≤ (m1 a0 2) ∧ (m1 a0 2) ≤ 2147483647 := zi_rd hIm1 hc0 zb_28_2
            have e15 : (m1 a0 2) = 0 := (zs_eq hmm1)
            exact zw_some ⟨hIm1, hFm1, hRKNm1, hRLTm1, ⟨by decide, by decide⟩, ⟨by omega, by omega⟩⟩
          · exfalso; omega
        · have b16 : 0 ≤ (0 : Int) ∧ (0 : Int) < 2 := by omega
          refine zw_if b16 ?_
          have r17 : 0 ≤ (m1 216 0) ∧ (m1 216 0) ≤ 16 := zi_rdr (m := 2) (r0 := 0) (r1 := 0) hIm1 zq_216 (by omega) (by decide +kernel)
          refine zw_ite (fun h18 => ?_) (fun h18 => ?_)
          · refine zw_b (by omega) ?_
            refine zw_some ?_
            refine zw_ite (fun h19 => ?_) (fun h19 => ?_)
            · have r20 : (-2147483648) ≤ (m1 a0 2) ∧ (m1 a0 2) ≤ 2147483647 := zi_rd hIm1 hc0 zb_28_2
              have e21 : (m1 a0 2) = 0 := (zs_eq hmm1)
              exact zw_some ⟨hIm1, hFm1, hRKNm1, hRLTm1, ⟨by decide, by decide⟩, ⟨by omega, by omega⟩⟩
            · exfalso; omega
          · refine zw_b (by omega) ?_
            refine zw_some ?_
            refine zw_ite (fun h22 => ?_) (fun h22 => ?_)
            · exfalso; omega
            · refine zw_bd (zw_mono (zk_131 n hIm1 hc0 ⟨by decide, by decide⟩ ⟨by omega, by omega⟩ ⟨by omega, by omega⟩ hRKNm1 hRLTm1) (fun v24 m23 hqm23 => ?_))
              obtain ⟨hIm23, hfm23, hvm23⟩ := hqm23
              have hFm23 := zfr_tr hFm1 hfm23 rfl
              obtain ⟨hRKNm23, hRLTm23, hvm23⟩ := hvm23
              have r25 : (-2147483648) ≤ (m23 a0 2) ∧ (m23 a0 2) ≤ 2147483647 := zi_rd hIm23 hc0 zb_28_2
              have e26 : (m23 a0 2) = 0 := (Eq.trans (zfr_ap hfm23 hc0 rfl) (zs_eq hmm1))
              exact zw_some ⟨hIm23, hFm23, hRKNm23, hRLTm23, ⟨by omega, by omega⟩, ⟨by omega, by omega⟩⟩
set_option maxHeartbeats 4000000 in
theorem zl_158 (n : Nat) {a0 a1 a2 : Int} {m0 : zu_m} (hc0 : zcls a0 = 28)   : ∀ k : Nat, (∀ (x3 x4 : Int) (mh : zu_m), zi_I mh → zfr [(28, 3), (28, 54), (28, 65), (28, 66), (28, 67), (28, 68), (28, 69), (28, 70), (122, 0), (123, 0), (132, 0)] m0 mh → (0 ≤ a1 ∧ a1 ≤ 3) → (1 ≤ a2 ∧ a2 ≤ 99999) → (0 ≤ x3 ∧ x3 ≤ 47) → (0 ≤ x4 ∧ x4 ≤ 40) → (1 ≤ mh a0 15 ∧ mh a0 15 ≤ 4) → (0 ≤ mh a0 2 ∧ mh a0 2 ≤ 0) → (zR_KN mh) → (zR_LT mh) → (40 - x4) * 1 + 0 < (k : Int) → zw (zu_ex (zt_T n) 158 39 [(40, a0), (0, a1), (0, a2), (0, x3), (0, x4), (2, 0)] [] mh) (fun v m => zi_I m ∧ zfr [(28, 3), (28, 54), (28, 65), (28, 66), (28, 67), (28, 68), (28, 69), (28, 70), (122, 0), (123, 0), (132, 0)] m0 m ∧ zR_KN m ∧ zR_LT m ∧ ((-1) ≤ v ∧ v ≤ 40) ∧ (0 ≤ m a0 2 ∧ m a0 2 ≤ 0))) := by
  intro k
  induction k with
  | zero => exact fun x3 x4 mh hImh hFmh hba1 hba2 hbx3 hbx4 hg4 hg5 hRKNmh hRLTmh hM => by exfalso; omega
  | succ k ih =>
    intro x3 x4 mh hImh hFmh hba1 hba2 hbx3 hbx4 hg4 hg5 hRKNmh hRLTmh hM
    refine zw_eq (zu_rega_at (zt_T n) (zm_158 n) (zdp_158 n) _ _ _ _ _ _ (zr_158_39 n _ _ a0 a1 a2 x3 x4 mh)) ?_
    refine zw_ite (fun h1 => ?_) (fun h1 => ?_)
    · exact zw_some ⟨hImh, hFmh, hRKNmh, hRLTmh, ⟨by omega, by omega⟩, ⟨by omega, by omega⟩⟩
    · refine zw_bd (zw_mono (zk_155 n hImh hc0 ⟨by omega, by omega⟩ ⟨by omega, by omega⟩) (fun v3 m2 hqm2 => ?_))
      obtain ⟨hIm2, hfm2, hvm2⟩ := hqm2
      have hFm2 := zfr_tr hFmh hfm2 rfl
      have hRKNm2 := zR_KN_fr (zdis_fr hfm2 rfl) hRKNmh
      have hRLTm2 := zR_LT_fr (zdis_fr hfm2 rfl) hRLTmh
      refine zw_ite (fun h4 => ?_) (fun h4 => ?_)
      · have r5 : (-2147483648) ≤ (m2 a0 2) ∧ (m2 a0 2) ≤ 2147483647 := zi_rd hIm2 hc0 zb_28_2
        have e6 : (m2 a0 2) = (mh a0 2) := (zfr_ap hfm2 hc0 rfl)
        exact zw_some ⟨hIm2, hFm2, hRKNm2, hRLTm2, ⟨by omega, by omega⟩, ⟨by omega, by omega⟩⟩
      · have b7 : 0 ≤ v3 ∧ v3 < 48 := by omega
        refine zw_if b7 ?_
        have r8 : (-2147483648) ≤ (m2 223 v3) ∧ (m2 223 v3) ≤ 2147483647 := zi_rd hIm2 zq_223 (zb_132 _)
        refine zw_bd (zw_mono (zk_135 n hIm2 hc0 ⟨by omega, by omega⟩ ⟨by omega, by omega⟩) (fun v10 m9 hqm9 => ?_))
        obtain ⟨hIm9, hfm9, hvm9⟩ := hqm9
        have hFm9 := zfr_tr hFm2 hfm9 rfl
        have hRKNm9 := zR_KN_fr (zdis_fr hfm9 rfl) hRKNm2
        have hRLTm9 := zR_LT_fr (zdis_fr hfm9 rfl) hRLTm2
        have w11 := zu_w32_id (z := v10 + 1) (by omega) (by omega)
        have p12 := zmul_bd (x := a2) (y := (zu_w32 (v10 + 1))) (a := 1) (b := 1) (A := 99999) (B := 55) (by omega) (by omega) (by omega) (by omega) (by omega) (by omega)
        have w13 := zu_w64_id (z := a2 * (zu_w32 (v10 + 1))) (by omega) (by omega)
        have c14 := zu_lcmp_sp (m2 223 v3) (zu_w64 (a2 * (zu_w32 (v10 + 1))))
        refine zw_ite (fun h15 => ?_) (fun h15 => ?_)
        · have b16 : 0 ≤ v3 ∧ v3 < 48 := by omega
          refine zw_if b16 ?_
          have r17 : (-2147483648) ≤ (m9 223 v3) ∧ (m9 223 v3) ≤ 2147483647 := zi_rd hIm9 zq_223 (zb_132 _)
          have e18 : (m9 223 v3) = (m2 223 v3) := (zfr_ap hfm9 zq_223 rfl)
          refine zw_bd (zw_mono (zk_138 n hIm9 hc0 ⟨by omega, by omega⟩ ⟨by omega, by omega⟩ ⟨by omega, by omega⟩ hRKNm9 hRLTm9) (fun v20 m19 hqm19 => ?_))
          obtain ⟨hIm19, hfm19, hvm19⟩ := hqm19
          have hFm19 := zfr_tr hFm9 hfm19 rfl
          obtain ⟨hRKNm19, hRLTm19, hvm19⟩ := hvm19
          have b21 : 0 ≤ v3 ∧ v3 < 48 := by omega
          refine zw_if b21 ?_
          generalize hmm22 : zu_up m19 223 v3 v20 = m22
          have hIm22 := zi_up hmm22 hIm19 zq_223 (zb_132 _) (by omega) (by omega)
          have hFm22 := zfr_up hmm22 hFm19 zq_223 rfl
          have hRKNm22 := zR_KN_fr (zdis_fr (zfr_up hmm22 (zfr_rf [(132, 0)] _) zq_223 rfl) rfl) hRKNm19
          have hRLTm22 := zR_LT_fr (zdis_fr (zfr_up hmm22 (zfr_rf [(132, 0)] _) zq_223 rfl) rfl) hRLTm19
          have w23 := zu_w32_id (z := x4 + 1) (by omega) (by omega)
          have r24 : (-2147483648) ≤ (m22 a0 2) ∧ (m22 a0 2) ≤ 2147483647 := zi_rd hIm22 hc0 zb_28_2
          have e25 : (m22 a0 2) = (mh a0 2) := (Eq.trans (zs_ne hmm22 (Or.inl (zc_ne hc0 zq_223 (by decide)))) (Eq.trans (zfr_ap hfm19 hc0 rfl) (Eq.trans (zfr_ap hfm9 hc0 rfl) (zfr_ap hfm2 hc0 rfl))))
          have r26 : 0 ≤ (m22 a0 15) ∧ (m22 a0 15) ≤ 4 := zi_rd hIm22 hc0 zb_28_15
          have e27 : (m22 a0 15) = (mh a0 15) := (Eq.trans (zs_ne hmm22 (Or.inl (zc_ne hc0 zq_223 (by decide)))) (Eq.trans (zfr_ap hfm19 hc0 rfl) (Eq.trans (zfr_ap hfm9 hc0 rfl) (zfr_ap hfm2 hc0 rfl))))
          have hM : (40 - (zu_w32 (x4 + 1))) * 1 + 0 < (k : Int) := by omega
          exact zw_le (zu_forget (zu_lr_same (zu_lr_same (zu_lr_same (zu_lr_same (zu_lr_same (zu_lr_drop zu_lr_nil))))))) (ih v3 (zu_w32 (x4 + 1)) m22 hIm22 hFm22 ⟨by omega, by omega⟩ ⟨by omega, by omega⟩ ⟨by omega, by omega⟩ ⟨by omega, by omega⟩ ⟨by omega, by omega⟩ ⟨by omega, by omega⟩ hRKNm22 hRLTm22 hM)
        · have r28 : (-2147483648) ≤ (m9 a0 2) ∧ (m9 a0 2) ≤ 2147483647 := zi_rd hIm9 hc0 zb_28_2
          have e29 : (m9 a0 2) = (mh a0 2) := (Eq.trans (zfr_ap hfm9 hc0 rfl) (zfr_ap hfm2 hc0 rfl))
          exact zw_some ⟨hIm9, hFm9, hRKNm9, hRLTm9, ⟨by omega, by omega⟩, ⟨by omega, by omega⟩⟩
set_option maxHeartbeats 4000000 in
theorem zk_158 (n : Nat) {a0 a1 a2 : Int} {m0 : zu_m} (hIm0 : zi_I m0) (hc0 : zcls a0 = 28) (ha1 : (-2147483648) ≤ a1 ∧ a1 ≤ 2147483647) (ha2 : (-2147483648) ≤ a2 ∧ a2 ≤ 2147483647)    (hRKNm0 : zR_KN m0) (hRLTm0 : zR_LT m0) : zw (zu_call (zt_T n) 158 [(40, a0), (0, a1), (0, a2)] m0) (fun v m => zi_I m ∧ zfr [(28, 3), (28, 54), (28, 65), (28, 66), (28, 67), (28, 68), (28, 69), (28, 70), (122, 0), (123, 0), (132, 0)] m0 m ∧ zR_KN m ∧ zR_LT m ∧ ((-1) ≤ v ∧ v ≤ 40) ∧ (0 ≤ m a0 2 ∧ m a0 2 ≤ 0)) := by
  have hFm0 : zfr [(28, 3), (28, 54), (28, 65), (28, 66), (28, 67), (28, 68), (28, 69), (28, 70), (122, 0), (123, 0), (132, 0)] m0 m0 := zfr_rf _ _
  refine zw_eq (zu_call_at (zt_T n) (zm_158 n) (zdp_158 n) _ _ _ _ _ rfl (zr_158_0 n _ _ a0 a1 a2 m0)) ?_
  generalize hmm30 : zu_up m0 a0 2 0 = m30
  have hIm30 := zi_up hmm30 hIm0 hc0 zb_28_2 (by omega) (by omega)
  have hFm30 := zfr_up hmm30 hFm0 hc0 rfl
  have hRKNm30 := zR_KN_fr (zdis_fr (zfr_up hmm30 (zfr_rf [(28, 3)] _) hc0 rfl) rfl) hRKNm0
  have hRLTm30 := zR_LT_fr (zdis_fr (zfr_up hmm30 (zfr_rf [(28, 3)] _) hc0 rfl) rfl) hRLTm0
  refine zw_bd (zw_eq (zu_call_at (zt_T n) (zm_125 n) (zdp_125 n) _ _ _ _ _ rfl (zr_125_0 n _ _ a0 a1 m30)) ?_)
  refine zw_ite (fun h31 => ?_) (fun h31 => ?_)
  · refine zw_b (by omega) ?_
    refine zw_some ?_
    refine zw_ite (fun h32 => ?_) (fun h32 => ?_)
    · have r33 : (-2147483648) ≤ (m30 a0 2) ∧ (m30 a0 2) ≤ 2147483647 := zi_rd hIm30 hc0 zb_28_2
      have e34 : (m30 a0 2) = 0 := (zs_eq hmm30)
      exact zw_some ⟨hIm30, hFm30, hRKNm30, hRLTm30, ⟨by decide, by decide⟩, ⟨by omega, by omega⟩⟩
    · exfalso; omega
  · have r35 : 0 ≤ (m30 a0 15) ∧ (m30 a0 15) ≤ 4 := zi_rd hIm30 hc0 zb_28_15
    refine zw_ite (fun h36 => ?_) (fun h36 => ?_)
    · refine zw_b (by omega) ?_
      refine zw_some ?_
      refine zw_ite (fun h37 => ?_) (fun h37 => ?_)
      · have r38 : (-2147483648) ≤ (m30 a0 2) ∧ (m30 a0 2) ≤ 2147483647 := zi_rd hIm30 hc0 zb_28_2
        have e39 : (m30 a0 2) = 0 := (zs_eq hmm30)
        exact zw_some ⟨hIm30, hFm30, hRKNm30, hRLTm30, ⟨by decide, by decide⟩, ⟨by omega, by omega⟩⟩
      · exfalso; omega
    · refine zw_b (by omega) ?_
      refine zw_some ?_
      refine zw_ite (fun h40 => ?_) (fun h40 => ?_)
      · exfalso; omega
      · refine zw_bd (zw_eq (zu_call_at (zt_T n) (zm_83 n) (zdp_83 n) _ _ _ _ _ rfl (zr_83_0 n _ _ a2 1 99999 m30)) ?_)
        refine zw_ite (fun h41 => ?_) (fun h41 => ?_)
        · refine zw_b (by omega) ?_
          refine zw_some ?_
          refine zw_ite (fun h42 => ?_) (fun h42 => ?_)
          · exfalso; omega
          · have r43 : (-2147483648) ≤ (m30 a0 2) ∧ (m30 a0 2) ≤ 2147483647 := zi_rd hIm30 hc0 zb_28_2
            have e44 : (m30 a0 2) = 0 := (zs_eq hmm30)
            exact zw_some ⟨hIm30, hFm30, hRKNm30, hRLTm30, ⟨by decide, by decide⟩, ⟨by omega, by omega⟩⟩
        · refine zw_ite (fun h45 => ?_) (fun h45 => ?_)
          · refine zw_b (by omega) ?_
            refine zw_some ?_
            refine zw_ite (fun h46 => ?_) (fun h46 => ?_)
            · exfalso; omega
            · have r47 : (-2147483648) ≤ (m30 a0 2) ∧ (m30 a0 2) ≤ 2147483647 := zi_rd hIm30 hc0 zb_28_2
              have e48 : (m30 a0 2) = 0 := (zs_eq hmm30)
              exact zw_some ⟨hIm30, hFm30, hRKNm30, hRLTm30, ⟨by decide, by decide⟩, ⟨by omega, by omega⟩⟩
          · refine zw_b (by omega) ?_
            refine zw_some ?_
            refine zw_ite (fun h49 => ?_) (fun h49 => ?_)
            · refine zw_bd (zw_mono (zk_156 n hIm30 hc0) (fun v51 m50 hqm50 => ?_))
              obtain ⟨hIm50, hfm50, hvm50⟩ := hqm50
              have hFm50 := zfr_tr hFm30 hfm50 rfl
              have hRKNm50 := zR_KN_fr (zdis_fr hfm50 rfl) hRKNm30
              have hRLTm50 := zR_LT_fr (zdis_fr hfm50 rfl) hRLTm30
              have b52 : 0 ≤ a1 ∧ a1 < 8 := by omega
              refine zw_if b52 ?_
              have r53 : 0 ≤ (m50 217 a1) ∧ (m50 217 a1) ≤ 47 := zi_rd hIm50 zq_217 (zb_126 _)
              have r54 : (-2147483648) ≤ (m50 a0 2) ∧ (m50 a0 2) ≤ 2147483647 := zi_rd hIm50 hc0 zb_28_2
              have e55 : (m50 a0 2) = 0 := (Eq.trans (zfr_ap hfm50 hc0 rfl) (zs_eq hmm30))
              have r56 : 0 ≤ (m50 a0 15) ∧ (m50 a0 15) ≤ 4 := zi_rd hIm50 hc0 zb_28_15
              have e57 : (m50 a0 15) = (m30 a0 15) := (zfr_ap hfm50 hc0 rfl)
              have hM : (40 - 0) * 1 + 0 < ((41 : Nat) : Int) := by omega
              exact (zl_158 n (m0 := m0) hc0 41) (m50 217 a1) 0 m50 hIm50 hFm50 ⟨by omega, by omega⟩ ⟨by omega, by omega⟩ ⟨by omega, by omega⟩ ⟨by omega, by omega⟩ ⟨by omega, by omega⟩ ⟨by omega, by omega⟩ hRKNm50 hRLTm50 hM
            · exfalso; omega
set_option maxHeartbeats 4000000 in
theorem zl_176 (n : Nat) {a0 a1 : Int} {m0 : zu_m} (hc0 : zcls a0 = 28)   : ∀ k : Nat, (∀ (x2 : Int) (mh : zu_m), zi_I mh → zfr [(28, 3), (28, 54), (122, 0), (123, 0)] m0 mh → (0 ≤ a1 ∧ a1 ≤ 3) → (0 ≤ x2 ∧ x2 ≤ 4) → (0 ≤ mh a0 2 ∧ mh a0 2 ≤ 0) → (zR_KN mh) → (zR_LT mh) → (4 - x2) * 1229 + 1228 < (k : Int) → zw (zu_ex (zt_T n) 176 18 [(40, a0), (0, a1), (0, x2), (2, 0), (2, 0), (2, 0)] [] mh) (fun v m => zi_I m ∧ zfr [(28, 3), (28, 54), (122, 0), (123, 0)] m0 m ∧ zR_KN m ∧ zR_LT m ∧ ((-8) ≤ v ∧ v ≤ 15) ∧ (0 ≤ m a0 2 ∧ m a0 2 ≤ 0))) ∧ (∀ (x2 x3 : Int) (mh : zu_m), zi_I mh → zfr [(28, 3), (28, 54), (122, 0), (123, 0)] m0 mh → (0 ≤ a1 ∧ a1 ≤ 3) → (0 ≤ x2 ∧ x2 ≤ 3) → (1 ≤ x3 ∧ x3 ≤ 4) → (1 ≤ mh a0 15 ∧ mh a0 15 ≤ 4) → (0 ≤ mh a0 2 ∧ mh a0 2 ≤ 0) → (zR_KN mh) → (zR_LT mh) → (4 - x3) * 307 + (4 - x2) * 1229 + 306 < (k : Int) → zw (zu_ex (zt_T n) 176 30 [(40, a0), (0, a1), (0, x2), (0, x3), (2, 0), (2, 0)] [] mh) (fun v m => zi_I m ∧ zfr [(28, 3), (28, 54), (122, 0), (123, 0)] m0 m ∧ zR_KN m ∧ zR_LT m ∧ ((-8) ≤ v ∧ v ≤ 15) ∧ (0 ≤ m a0 2 ∧ m a0 2 ≤ 0))) ∧ (∀ (x2 x3 x4 : Int) (mh : zu_m), zi_I mh → zfr [(28, 3), (28, 54), (122, 0), (123, 0)] m0 mh → (0 ≤ a1 ∧ a1 ≤ 3) → (0 ≤ x2 ∧ x2 ≤ 3) → (1 ≤ x3 ∧ x3 ≤ 3) → (0 ≤ x4 ∧ x4 ≤ 16) → (2 ≤ mh a0 15 ∧ mh a0 15 ≤ 4) → (0 ≤ mh a0 2 ∧ mh a0 2 ≤ 0) → (zR_KN mh) → (zR_LT mh) → (16 - x4) * 18 + (4 - x3) * 307 + (4 - x2) * 1229 + 17 < (k : Int) → zw (zu_ex (zt_T n) 176 41 [(40, a0), (0, a1), (0, x2), (0, x3), (0, x4), (2, 0)] [] mh) (fun v m => zi_I m ∧ zfr [(28, 3), (28, 54), (122, 0), (123, 0)] m0 m ∧ zR_KN m ∧ zR_LT m ∧ ((-8) ≤ v ∧ v ≤ 15) ∧ (0 ≤ m a0 2 ∧ m a0 2 ≤ 0))) ∧ (∀ (x2 x3 x4 x5 : Int) (mh : zu_m), zi_I mh → zfr [(28, 3), (28, 54), (122, 0), (123, 0)] m0 mh → (0 ≤ a1 ∧ a1 ≤ 3) → (0 ≤ x2 ∧ x2 ≤ 3) → (1 ≤ x3 ∧ x3 ≤ 3) → (0 ≤ x4 ∧ x4 ≤ 15) → (0 ≤ x5 ∧ x5 ≤ 16) → (1 ≤ mh 216 0 ∧ mh 216 0 ≤ 16) → (2 ≤ mh a0 15 ∧ mh a0 15 ≤ 4) → (0 ≤ mh a0 2 ∧ mh a0 2 ≤ 0) → (zR_KN mh) → (zR_LT mh) → (16 - x5) * 1 + (16 - x4) * 18 + (4 - x3) * 307 + (4 - x2) * 1229 + 0 < (k : Int) → zw (zu_ex (zt_T n) 176 55 [(40, a0), (0, a1), (0, x2), (0, x3), (0, x4), (0, x5)] [] mh) (fun v m => zi_I m ∧ zfr [(28, 3), (28, 54), (122, 0), (123, 0)] m0 m ∧ zR_KN m ∧ zR_LT m ∧ ((-8) ≤ v ∧ v ≤ 15) ∧ (0 ≤ m a0 2 ∧ m a0 2 ≤ 0))) := by
  intro k
  induction k with
  | zero => exact ⟨fun x2 mh hImh hFmh hba1 hbx2 hg2 hRKNmh hRLTmh hM => by exfalso; omega, fun x2 x3 mh hImh hFmh hba1 hbx2 hbx3 hg3 hg4 hRKNmh hRLTmh hM => by exfalso; omega, fun x2 x3 x4 mh hImh hFmh hba1 hbx2 hbx3 hbx4 hg4 hg5 hRKNmh hRLTmh hM => by exfalso; omega, fun x2 x3 x4 x5 mh hImh hFmh hba1 hbx2 hbx3 hbx4 hbx5 hg5 hg6 hg7 hRKNmh hRLTmh hM => by exfalso; omega⟩
  | succ k ih =>
    refine ⟨?_, ?_, ?_, ?_⟩
    · intro x2 mh hImh hFmh hba1 hbx2 hg2 hRKNmh hRLTmh hM
      refine zw_eq (zu_rega_at (zt_T n) (zm_176 n) (zdp_176 n) _ _ _ _ _ _ (zr_176_18 n _ _ a0 a1 x2 mh)) ?_
      have r1 : 0 ≤ (mh a0 15) ∧ (mh a0 15) ≤ 4 := zi_rd hImh hc0 zb_28_15
      refine zw_ite (fun h2 => ?_) (fun h2 => ?_)
      · exact zw_some ⟨hImh, hFmh, hRKNmh, hRLTmh, ⟨by decide, by decide⟩, ⟨by omega, by omega⟩⟩
      · have w3 := zu_w32_id (z := x2 + 1) (by omega) (by omega)
        have hM : (4 - (zu_w32 (x2 + 1))) * 307 + (4 - x2) * 1229 + 306 < (k : Int) := by omega
        exact ih.2.1 x2 (zu_w32 (x2 + 1)) mh hImh hFmh ⟨by omega, by omega⟩ ⟨by omega, by omega⟩ ⟨by omega, by omega⟩ ⟨by omega, by omega⟩ ⟨by omega, by omega⟩ hRKNmh hRLTmh hM
    · intro x2 x3 mh hImh hFmh hba1 hbx2 hbx3 hg3 hg4 hRKNmh hRLTmh hM
      refine zw_eq (zu_rega_at (zt_T n) (zm_176 n) (zdp_176 n) _ _ _ _ _ _ (zr_176_30 n _ _ a0 a1 x2 x3 mh)) ?_
      refine zw_ite (fun h4 => ?_) (fun h4 => ?_)
      · have w5 := zu_w32_id (z := x2 + 1) (by omega) (by omega)
        have hM : (4 - (zu_w32 (x2 + 1))) * 1229 + 1228 < (k : Int) := by omega
        exact zw_le (zu_forget (zu_lr_same (zu_lr_same (zu_lr_same (zu_lr_drop (zu_lr_same (zu_lr_same zu_lr_nil))))))) (ih.1 (zu_w32 (x2 + 1)) mh hImh hFmh ⟨by omega, by omega⟩ ⟨by omega, by omega⟩ ⟨by omega, by omega⟩ hRKNmh hRLTmh hM)
      · have hM : (16 - 0) * 18 + (4 - x3) * 307 + (4 - x2) * 1229 + 17 < (k : Int) := by omega
        exact ih.2.2.1 x2 x3 0 mh hImh hFmh ⟨by omega, by omega⟩ ⟨by omega, by omega⟩ ⟨by omega, by omega⟩ ⟨by omega, by omega⟩ ⟨by omega, by omega⟩ ⟨by omega, by omega⟩ hRKNmh hRLTmh hM
    · intro x2 x3 x4 mh hImh hFmh hba1 hbx2 hbx3 hbx4 hg4 hg5 hRKNmh hRLTmh hM
      refine zw_eq (zu_rega_at (zt_T n) (zm_176 n) (zdp_176 n) _ _ _ _ _ _ (zr_176_41 n _ _ a0 a1 x2 x3 x4 mh)) ?_
      have b6 : 0 ≤ (0 : Int) ∧ (0 : Int) < 2 := by omega
      refine zw_if b6 ?_
      have r7 : 0 ≤ (mh 216 0) ∧ (mh 216 0) ≤ 16 := zi_rdr (m := 2) (r0 := 0) (r1 := 0) hImh zq_216 (by omega) (by decide +kernel)
      refine zw_ite (fun h8 => ?_) (fun h8 => ?_)
      · have w9 := zu_w32_id (z := x3 + 1) (by omega) (by omega)
        have hM : (4 - (zu_w32 (x3 + 1))) * 307 + (4 - x2) * 1229 + 306 < (k : Int) := by omega
        exact zw_le (zu_forget (zu_lr_same (zu_lr_same (zu_lr_same (zu_lr_same (zu_lr_drop (zu_lr_same zu_lr_nil))))))) (ih.2.1 x2 (zu_w32 (x3 + 1)) mh hImh hFmh ⟨by omega, by omega⟩ ⟨by omega, by omega⟩ ⟨by omega, by omega⟩ ⟨by omega, by omega⟩ ⟨by omega, by omega⟩ hRKNmh hRLTmh hM)
      · have hM : (16 - 0) * 1 + (16 - x4) * 18 + (4 - x3) * 307 + (4 - x2) * 1229 + 0 < (k : Int) := by omega
        exact ih.2.2.2 x2 x3 x4 0 mh hImh hFmh ⟨by omega, by omega⟩ ⟨by omega, by omega⟩ ⟨by omega, by omega⟩ ⟨by omega, by omega⟩ ⟨by omega, by omega⟩ ⟨by omega, by omega⟩ ⟨by omega, by omega⟩ ⟨by omega, by omega⟩ hRKNmh hRLTmh hM
    · intro x2 x3 x4 x5 mh hImh hFmh hba1 hbx2 hbx3 hbx4 hbx5 hg5 hg6 hg7 hRKNmh hRLTmh hM
      refine zw_eq (zu_rega_at (zt_T n) (zm_176 n) (zdp_176 n) _ _ _ _ _ _ (zr_176_55 n _ _ a0 a1 x2 x3 x4 x5 mh)) ?_
      have b10 : 0 ≤ (0 : Int) ∧ (0 : Int) < 2 := by omega
      refine zw_if b10 ?_
      refine zw_ite (fun h11 => ?_) (fun h11 => ?_)
      · have w12 := zu_w32_id (z := x4 + 1) (by omega) (by omega)
        have hM : (16 - (zu_w32 (x4 + 1))) * 18 + (4 - x3) * 307 + (4 - x2) * 1229 + 17 < (k : Int) := by omega
        exact zw_le (zu_forget (zu_lr_same (zu_lr_same (zu_lr_same (zu_lr_same (zu_lr_same (zu_lr_drop zu_lr_nil))))))) (ih.2.2.1 x2 x3 (zu_w32 (x4 + 1)) mh hImh hFmh ⟨by omega, by omega⟩ ⟨by omega, by omega⟩ ⟨by omega, by omega⟩ ⟨by omega, by omega⟩ ⟨by omega, by omega⟩ ⟨by omega, by omega⟩ hRKNmh hRLTmh hM)
      · have b13 : 0 ≤ x4 ∧ x4 < 36 := by omega
        refine zw_if b13 ?_
        have r14 : (-3) ≤ (mh 215 x4) ∧ (mh 215 x4) ≤ 3 := zi_rd hImh zq_215 (zb_124 _)
        refine zw_ite (fun h15 => ?_) (fun h15 => ?_)
        · have w16 := zu_w32_id (z := x4 + 1) (by omega) (by omega)
          have hM : (16 - (zu_w32 (x4 + 1))) * 18 + (4 - x3) * 307 + (4 - x2) * 1229 + 17 < (k : Int) := by omega
          exact zw_le (zu_forget (zu_lr_same (zu_lr_same (zu_lr_same (zu_lr_same (zu_lr_same (zu_lr_drop zu_lr_nil))))))) (ih.2.2.1 x2 x3 (zu_w32 (x4 + 1)) mh hImh hFmh ⟨by omega, by omega⟩ ⟨by omega, by omega⟩ ⟨by omega, by omega⟩ ⟨by omega, by omega⟩ ⟨by omega, by omega⟩ ⟨by omega, by omega⟩ hRKNmh hRLTmh hM)
        · have b17 : 0 ≤ x5 ∧ x5 < 36 := by omega
          refine zw_if b17 ?_
          have r18 : (-3) ≤ (mh 215 x5) ∧ (mh 215 x5) ≤ 3 := zi_rd hImh zq_215 (zb_124 _)
          refine zw_ite (fun h19 => ?_) (fun h19 => ?_)
          · have w20 := zu_w32_id (z := x5 + 1) (by omega) (by omega)
            have hM : (16 - (zu_w32 (x5 + 1))) * 1 + (16 - x4) * 18 + (4 - x3) * 307 + (4 - x2) * 1229 + 0 < (k : Int) := by omega
            exact ih.2.2.2 x2 x3 x4 (zu_w32 (x5 + 1)) mh hImh hFmh ⟨by omega, by omega⟩ ⟨by omega, by omega⟩ ⟨by omega, by omega⟩ ⟨by omega, by omega⟩ ⟨by omega, by omega⟩ ⟨by omega, by omega⟩ ⟨by omega, by omega⟩ ⟨by omega, by omega⟩ hRKNmh hRLTmh hM
          · refine zw_bd (zw_mono (zk_175 n hImh hc0 ⟨by omega, by omega⟩ ⟨by omega, by omega⟩ ⟨by omega, by omega⟩ ⟨by omega, by omega⟩ hRKNmh hRLTmh) (fun v22 m21 hqm21 => ?_))
            obtain ⟨hIm21, hfm21, hvm21⟩ := hqm21
            have hFm21 := zfr_tr hFmh hfm21 rfl
            obtain ⟨hRKNm21, hRLTm21, hvm21⟩ := hvm21
            refine zw_ite (fun h23 => ?_) (fun h23 => ?_)
            · have w24 := zu_w32_id (z := x5 + 1) (by omega) (by omega)
              have r25 : (-2147483648) ≤ (m21 a0 2) ∧ (m21 a0 2) ≤ 2147483647 := zi_rd hIm21 hc0 zb_28_2
              have e26 : (m21 a0 2) = (mh a0 2) := (zfr_ap hfm21 hc0 rfl)
              have r27 : 0 ≤ (m21 a0 15) ∧ (m21 a0 15) ≤ 4 := zi_rd hIm21 hc0 zb_28_15
              have e28 : (m21 a0 15) = (mh a0 15) := (zfr_ap hfm21 hc0 rfl)
              have r29 : 0 ≤ (m21 216 0) ∧ (m21 216 0) ≤ 16 := zi_rdr (m := 2) (r0 := 0) (r1 := 0) hIm21 zq_216 (by omega) (by decide +kernel)
              have e30 : (m21 216 0) = (mh 216 0) := (zfr_ap hfm21 zq_216 rfl)
              have hM : (16 - (zu_w32 (x5 + 1))) * 1 + (16 - x4) * 18 + (4 - x3) * 307 + (4 - x2) * 1229 + 0 < (k : Int) := by omega
              exact ih.2.2.2 x2 x3 x4 (zu_w32 (x5 + 1)) m21 hIm21 hFm21 ⟨by omega, by omega⟩ ⟨by omega, by omega⟩ ⟨by omega, by omega⟩ ⟨by omega, by omega⟩ ⟨by omega, by omega⟩ ⟨by omega, by omega⟩ ⟨by omega, by omega⟩ ⟨by omega, by omega⟩ hRKNm21 hRLTm21 hM
            · refine zw_ite (fun h31 => ?_) (fun h31 => ?_)
              · refine zw_ite (fun h32 => ?_) (fun h32 => ?_)
                · refine zw_ite (fun h33 => ?_) (fun h33 => ?_)
                  · have r34 : (-2147483648) ≤ (m21 a0 2) ∧ (m21 a0 2) ≤ 2147483647 := zi_rd hIm21 hc0 zb_28_2
                    have e35 : (m21 a0 2) = (mh a0 2) := (zfr_ap hfm21 hc0 rfl)
                    exact zw_some ⟨hIm21, hFm21, hRKNm21, hRLTm21, ⟨by omega, by omega⟩, ⟨by omega, by omega⟩⟩
                  · have r36 : (-2147483648) ≤ (m21 a0 2) ∧ (m21 a0 2) ≤ 2147483647 := zi_rd hIm21 hc0 zb_28_2
                    have e37 : (m21 a0 2) = (mh a0 2) := (zfr_ap hfm21 hc0 rfl)
                    exact zw_some ⟨hIm21, hFm21, hRKNm21, hRLTm21, ⟨by omega, by omega⟩, ⟨by omega, by omega⟩⟩
                · have r38 : (-2147483648) ≤ (m21 a0 2) ∧ (m21 a0 2) ≤ 2147483647 := zi_rd hIm21 hc0 zb_28_2
                  have e39 : (m21 a0 2) = (mh a0 2) := (zfr_ap hfm21 hc0 rfl)
                  exact zw_some ⟨hIm21, hFm21, hRKNm21, hRLTm21, ⟨by omega, by omega⟩, ⟨by omega, by omega⟩⟩
              · have r40 : (-2147483648) ≤ (m21 a0 2) ∧ (m21 a0 2) ≤ 2147483647 := zi_rd hIm21 hc0 zb_28_2
                have e41 : (m21 a0 2) = (mh a0 2) := (zfr_ap hfm21 hc0 rfl)
                exact zw_some ⟨hIm21, hFm21, hRKNm21, hRLTm21, ⟨by omega, by omega⟩, ⟨by omega, by omega⟩⟩
set_option maxHeartbeats 4000000 in
theorem zk_176 (n : Nat) {a0 a1 : Int} {m0 : zu_m} (hIm0 : zi_I m0) (hc0 : zcls a0 = 28) (ha1 : (-2147483648) ≤ a1 ∧ a1 ≤ 2147483647)    (hRKNm0 : zR_KN m0) (hRLTm0 : zR_LT m0) : zw (zu_call (zt_T n) 176 [(40, a0), (0, a1)] m0) (fun v m => zi_I m ∧ zfr [(28, 3), (28, 54), (122, 0), (123, 0)] m0 m ∧ zR_KN m ∧ zR_LT m ∧ ((-8) ≤ v ∧ v ≤ 15) ∧ (0 ≤ m a0 2 ∧ m a0 2 ≤ 0)) := by
  have hFm0 : zfr [(28, 3), (28, 54), (122, 0), (123, 0)] m0 m0 := zfr_rf _ _
  refine zw_eq (zu_call_at (zt_T n) (zm_176 n) (zdp_176 n) _ _ _ _ _ rfl (zr_176_0 n _ _ a0 a1 m0)) ?_
  generalize hmm42 : zu_up m0 a0 2 0 = m42
  have hIm42 := zi_up hmm42 hIm0 hc0 zb_28_2 (by omega) (by omega)
  have hFm42 := zfr_up hmm42 hFm0 hc0 rfl
  have hRKNm42 := zR_KN_fr (zdis_fr (zfr_up hmm42 (zfr_rf [(28, 3)] _) hc0 rfl) rfl) hRKNm0
  have hRLTm42 := zR_LT_fr (zdis_fr (zfr_up hmm42 (zfr_rf [(28, 3)] _) hc0 rfl) rfl) hRLTm0
  refine zw_bd (zw_eq (zu_call_at (zt_T n) (zm_83 n) (zdp_83 n) _ _ _ _ _ rfl (zr_83_0 n _ _ a1 0 3 m42)) ?_)
  refine zw_ite (fun h43 => ?_) (fun h43 => ?_)
  · refine zw_b (by omega) ?_
    refine zw_some ?_
    refine zw_ite (fun h44 => ?_) (fun h44 => ?_)
    · exfalso; omega
    · have r45 : (-2147483648) ≤ (m42 a0 2) ∧ (m42 a0 2) ≤ 2147483647 := zi_rd hIm42 hc0 zb_28_2
      have e46 : (m42 a0 2) = 0 := (zs_eq hmm42)
      exact zw_some ⟨hIm42, hFm42, hRKNm42, hRLTm42, ⟨by decide, by decide⟩, ⟨by omega, by omega⟩⟩
  · refine zw_ite (fun h47 => ?_) (fun h47 => ?_)
    · refine zw_b (by omega) ?_
      refine zw_some ?_
      refine zw_ite (fun h48 => ?_) (fun h48 => ?_)
      · exfalso; omega
      · have r49 : (-2147483648) ≤ (m42 a0 2) ∧ (m42 a0 2) ≤ 2147483647 := zi_rd hIm42 hc0 zb_28_2
        have e50 : (m42 a0 2) = 0 := (zs_eq hmm42)
        exact zw_some ⟨hIm42, hFm42, hRKNm42, hRLTm42, ⟨by decide, by decide⟩, ⟨by omega, by omega⟩⟩
    · refine zw_b (by omega) ?_
      refine zw_some ?_
      refine zw_ite (fun h51 => ?_) (fun h51 => ?_)
      · have r52 : (-2147483648) ≤ (m42 a0 2) ∧ (m42 a0 2) ≤ 2147483647 := zi_rd hIm42 hc0 zb_28_2
        have e53 : (m42 a0 2) = 0 := (zs_eq hmm42)
        have hM : (4 - 0) * 1229 + 1228 < ((6145 : Nat) : Int) := by omega
        exact (zl_176 n (m0 := m0) hc0 6145).1 0 m42 hIm42 hFm42 ⟨by omega, by omega⟩ ⟨by omega, by omega⟩ ⟨by omega, by omega⟩ hRKNm42 hRLTm42 hM
      · exfalso; omega
set_option maxHeartbeats 4000000 in
theorem zl_285 (n : Nat) {a0 a1 a2 a3 a4 : Int} {m0 : zu_m} (hc0 : zcls a0 = 24)   : ∀ k : Nat, (∀ (x5 : Int) (mh : zu_m), zi_I mh → zfr [(24, 7), (24, 14), (24, 15), (24, 16), (25, 3), (25, 5), (25, 9), (25, 10), (25, 11), (25, 12), (26, 1), (26, 2), (26, 3), (26, 4), (27, 1), (27, 2), (27, 3), (27, 4), (27, 5), (27, 6), (27, 7), (27, 8), (56, 0), (59, 1), (59, 2), (59, 3), (59, 4), (59, 5), (59, 6), (59, 7), (85, 0), (86, 0), (87, 0), (88, 0), (89, 0), (90, 0), (91, 0), (92, 0), (97, 0), (98, 0)] m0 mh → (1 ≤ a1 ∧ a1 ≤ 2) → (0 ≤ a2 ∧ a2 ≤ 3) → (0 ≤ a3 ∧ a3 ≤ 9) → (1 ≤ a4 ∧ a4 ≤ 40) → (0 ≤ x5 ∧ x5 ≤ 256) → (zE mh 89 50) → (zgeo mh 50) → (zR_K54 mh) → (256 - x5) * 1 + 2401 < (k : Int) → zw (zu_ex (zt_T n) 285 13 [(33, a0), (0, a1), (0, a2), (0, a3), (0, a4), (0, x5), (2, 0)] [] mh) (fun v m => zi_I m ∧ zfr [(24, 7), (24, 14), (24, 15), (24, 16), (25, 3), (25, 5), (25, 9), (25, 10), (25, 11), (25, 12), (26, 1), (26, 2), (26, 3), (26, 4), (27, 1), (27, 2), (27, 3), (27, 4), (27, 5), (27, 6), (27, 7), (27, 8), (56, 0), (59, 1), (59, 2), (59, 3), (59, 4), (59, 5), (59, 6), (59, 7), (85, 0), (86, 0), (87, 0), (88, 0), (89, 0), (90, 0), (91, 0), (92, 0), (97, 0), (98, 0)] m0 m ∧ zE m 164 50 ∧ zE m 89 50 ∧ zgeo m 50 ∧ zR_K54 m ∧ True)) ∧ (∀ (x5 : Int) (mh : zu_m), zi_I mh → zfr [(24, 7), (24, 14), (24, 15), (24, 16), (25, 3), (25, 5), (25, 9), (25, 10), (25, 11), (25, 12), (26, 1), (26, 2), (26, 3), (26, 4), (27, 1), (27, 2), (27, 3), (27, 4), (27, 5), (27, 6), (27, 7), (27, 8), (56, 0), (59, 1), (59, 2), (59, 3), (59, 4), (59, 5), (59, 6), (59, 7), (85, 0), (86, 0), (87, 0), (88, 0), (89, 0), (90, 0), (91, 0), (92, 0), (97, 0), (98, 0)] m0 mh → (1 ≤ a1 ∧ a1 ≤ 2) → (0 ≤ a2 ∧ a2 ≤ 3) → (0 ≤ a3 ∧ a3 ≤ 9) → (1 ≤ a4 ∧ a4 ≤ 40) → (0 ≤ x5 ∧ x5 ≤ 48) → (zE mh 164 50) → (zE mh 89 50) → (zgeo mh 50) → (zR_K54 mh) → (48 - x5) * 49 + 48 < (k : Int) → zw (zu_ex (zt_T n) 285 60 [(33, a0), (0, a1), (0, a2), (0, a3), (0, a4), (0, x5), (2, 0)] [] mh) (fun v m => zi_I m ∧ zfr [(24, 7), (24, 14), (24, 15), (24, 16), (25, 3), (25, 5), (25, 9), (25, 10), (25, 11), (25, 12), (26, 1), (26, 2), (26, 3), (26, 4), (27, 1), (27, 2), (27, 3), (27, 4), (27, 5), (27, 6), (27, 7), (27, 8), (56, 0), (59, 1), (59, 2), (59, 3), (59, 4), (59, 5), (59, 6), (59, 7), (85, 0), (86, 0), (87, 0), (88, 0), (89, 0), (90, 0), (91, 0), (92, 0), (97, 0), (98, 0)] m0 m ∧ zE m 164 50 ∧ zE m 89 50 ∧ zgeo m 50 ∧ zR_K54 m ∧ True)) ∧ (∀ (x5 x6 : Int) (mh : zu_m), zi_I mh → zfr [(24, 7), (24, 14), (24, 15), (24, 16), (25, 3), (25, 5), (25, 9), (25, 10), (25, 11), (25, 12), (26, 1), (26, 2), (26, 3), (26, 4), (27, 1), (27, 2), (27, 3), (27, 4), (27, 5), (27, 6), (27, 7), (27, 8), (56, 0), (59, 1), (59, 2), (59, 3), (59, 4), (59, 5), (59, 6), (59, 7), (85, 0), (86, 0), (87, 0), (88, 0), (89, 0), (90, 0), (91, 0), (92, 0), (97, 0), (98, 0)] m0 mh → (1 ≤ a1 ∧ a1 ≤ 2) → (0 ≤ a2 ∧ a2 ≤ 3) → (0 ≤ a3 ∧ a3 ≤ 9) → (1 ≤ a4 ∧ a4 ≤ 40) → (0 ≤ x5 ∧ x5 ≤ 47) → (1 ≤ x6 ∧ x6 ≤ 48) → (zE mh 164 50) → (zE mh 89 50) → (zgeo mh 50) → (zR_K54 mh) → (48 - x6) * 1 + (48 - x5) * 49 + 0 < (k : Int) → zw (zu_ex (zt_T n) 285 92 [(33, a0), (0, a1), (0, a2), (0, a3), (0, a4), (0, x5), (0, x6)] [] mh) (fun v m => zi_I m ∧ zfr [(24, 7), (24, 14), (24, 15), (24, 16), (25, 3), (25, 5), (25, 9), (25, 10), (25, 11), (25, 12), (26, 1), (26, 2), (26, 3), (26, 4), (27, 1), (27, 2), (27, 3), (27, 4), (27, 5), (27, 6), (27, 7), (27, 8), (56, 0), (59, 1), (59, 2), (59, 3), (59, 4), (59, 5), (59, 6), (59, 7), (85, 0), (86, 0), (87, 0), (88, 0), (89, 0), (90, 0), (91, 0), (92, 0), (97, 0), (98, 0)] m0 m ∧ zE m 164 50 ∧ zE m 89 50 ∧ zgeo m 50 ∧ zR_K54 m ∧ True)) := by
  intro k
  induction k with
  | zero => exact ⟨fun x5 mh hImh hFmh hba1 hba2 hba3 hba4 hbx5 hRE89mh hRG5mh hRK54mh hM => by exfalso; omega, fun x5 mh hImh hFmh hba1 hba2 hba3 hba4 hbx5 hRE164mh hRE89mh hRG5mh hRK54mh hM => by exfalso; omega, fun x5 x6 mh hImh hFmh hba1 hba2 hba3 hba4 hbx5 hbx6 hRE164mh hRE89mh hRG5mh hRK54mh hM => by exfalso; omega⟩
  | succ k ih =>
    refine ⟨?_, ?_, ?_⟩
    · intro x5 mh hImh hFmh hba1 hba2 hba3 hba4 hbx5 hRE89mh hRG5mh hRK54mh hM
      refine zw_eq (zu_rega_at (zt_T n) (zm_285 n) (zdp_285 n) _ _ _ _ _ _ (zr_285_13 n _ _ a0 a1 a2 a3 a4 x5 mh)) ?_
      refine zw_ite (fun h1 => ?_) (fun h1 => ?_)
      · refine zw_bd (zw_mono (zk_286 n hImh hc0 ⟨by omega, by omega⟩ hRE89mh hRG5mh hRK54mh) (fun v3 m2 hqm2 => ?_))
        obtain ⟨hIm2, hfm2, hvm2⟩ := hqm2
        have hFm2 := zfr_tr hFmh hfm2 rfl
        obtain ⟨hRE164m2, hRE89m2, hRG5m2, hRK54m2, hvm2⟩ := hvm2
        generalize hmm4 : zu_up m2 a0 15 1000000 = m4
        have hIm4 := zi_up hmm4 hIm2 hc0 zb_24_15 (by omega) (by omega)
        have hFm4 := zfr_up hmm4 hFm2 hc0 rfl
        have hRE164m4 := zR_E164_fr (zdis_fr (zfr_up hmm4 (zfr_rf [(24, 16)] _) hc0 rfl) rfl) hRE164m2
        have hRE89m4 := zR_E89_fr (zdis_fr (zfr_up hmm4 (zfr_rf [(24, 16)] _) hc0 rfl) rfl) hRE89m2
        have hRG5m4 := zR_G5_fr (zdis_fr (zfr_up hmm4 (zfr_rf [(24, 16)] _) hc0 rfl) rfl) hRG5m2
        have hRK54m4 := zR_K54_fr (zdis_fr (zfr_up hmm4 (zfr_rf [(24, 16)] _) hc0 rfl) rfl) hRK54m2
        have hM : (48 - 0) * 49 + 48 < (k : Int) := by omega
        exact ih.2.1 0 m4 hIm4 hFm4 ⟨by omega, by omega⟩ ⟨by omega, by omega⟩ ⟨by omega, by omega⟩ ⟨by omega, by omega⟩ ⟨by omega, by omega⟩ hRE164m4 hRE89m4 hRG5m4 hRK54m4 hM
      · have b5 : 0 ≤ x5 ∧ x5 < 256 := by omega
        refine zw_if b5 ?_
        generalize hmm6 : zu_up mh 159 x5 0 = m6
        have hIm6 := zi_up hmm6 hImh zq_159 (zb_90 _) (by omega) (by omega)
        have hFm6 := zfr_up hmm6 hFmh zq_159 rfl
        have hRE89m6 := zR_E89_fr (zdis_fr (zfr_up hmm6 (zfr_rf [(90, 0)] _) zq_159 rfl) rfl) hRE89mh
        have hRG5m6 := zR_G5_fr (zdis_fr (zfr_up hmm6 (zfr_rf [(90, 0)] _) zq_159 rfl) rfl) hRG5mh
        have hRK54m6 := zR_K54_fr (zdis_fr (zfr_up hmm6 (zfr_rf [(90, 0)] _) zq_159 rfl) rfl) hRK54mh
        have b7 : 0 ≤ x5 ∧ x5 < 256 := by omega
        refine zw_if b7 ?_
        generalize hmm8 : zu_up m6 160 x5 0 = m8
        have hIm8 := zi_up hmm8 hIm6 zq_160 (zb_91 _) (by omega) (by omega)
        have hFm8 := zfr_up hmm8 hFm6 zq_160 rfl
        have hRE89m8 := zR_E89_fr (zdis_fr (zfr_up hmm8 (zfr_rf [(91, 0)] _) zq_160 rfl) rfl) hRE89m6
        have hRG5m8 := zR_G5_fr (zdis_fr (zfr_up hmm8 (zfr_rf [(91, 0)] _) zq_160 rfl) rfl) hRG5m6
        have hRK54m8 := zR_K54_fr (zdis_fr (zfr_up hmm8 (zfr_rf [(91, 0)] _) zq_160 rfl) rfl) hRK54m6
        have w9 := zu_w32_id (z := x5 + 1) (by omega) (by omega)
        have hM : (256 - (zu_w32 (x5 + 1))) * 1 + 2401 < (k : Int) := by omega
        exact ih.1 (zu_w32 (x5 + 1)) m8 hIm8 hFm8 ⟨by omega, by omega⟩ ⟨by omega, by omega⟩ ⟨by omega, by omega⟩ ⟨by omega, by omega⟩ ⟨by omega, by omega⟩ hRE89m8 hRG5m8 hRK54m8 hM
    · intro x5 mh hImh hFmh hba1 hba2 hba3 hba4 hbx5 hRE164mh hRE89mh hRG5mh hRK54mh hM
      refine zw_eq (zu_rega_at (zt_T n) (zm_285 n) (zdp_285 n) _ _ _ _ _ _ (zr_285_60 n _ _ a0 a1 a2 a3 a4 x5 mh)) ?_
      have r10 : 1 ≤ (mh 50 2) ∧ (mh 50 2) ≤ 48 := zi_rd hImh zq_50 zb_11_2
      refine zw_ite (fun h11 => ?_) (fun h11 => ?_)
      · exact zw_some ⟨hImh, hFmh, hRE164mh, hRE89mh, hRG5mh, hRK54mh, trivial⟩
      · refine zw_ite (fun h12 => ?_) (fun h12 => ?_)
        · have w13 := zu_w32_id (z := x5 + 1) (by omega) (by omega)
          have hM : (48 - (zu_w32 (x5 + 1))) * 1 + (48 - x5) * 49 + 0 < (k : Int) := by omega
          exact ih.2.2 x5 (zu_w32 (x5 + 1)) mh hImh hFmh ⟨by omega, by omega⟩ ⟨by omega, by omega⟩ ⟨by omega, by omega⟩ ⟨by omega, by omega⟩ ⟨by omega, by omega⟩ ⟨by omega, by omega⟩ hRE164mh hRE89mh hRG5mh hRK54mh hM
        · refine zw_bd (zw_mono (zk_287 n hImh hc0 ⟨by decide, by decide⟩ ⟨by omega, by omega⟩ ⟨by omega, by omega⟩ hRK54mh) (fun v15 m14 hqm14 => ?_))
          obtain ⟨hIm14, hfm14, hvm14⟩ := hqm14
          have hFm14 := zfr_tr hFmh hfm14 rfl
          obtain ⟨hRK54m14, hvm14⟩ := hvm14
          have hRE164m14 := zR_E164_fr (zdis_fr hfm14 rfl) hRE164mh
          have hRE89m14 := zR_E89_fr (zdis_fr hfm14 rfl) hRE89mh
          have hRG5m14 := zR_G5_fr (zdis_fr hfm14 rfl) hRG5mh
          have w16 := zu_w32_id (z := x5 + 1) (by omega) (by omega)
          have hM : (48 - (zu_w32 (x5 + 1))) * 1 + (48 - x5) * 49 + 0 < (k : Int) := by omega
          exact ih.2.2 x5 (zu_w32 (x5 + 1)) m14 hIm14 hFm14 ⟨by omega, by omega⟩ ⟨by omega, by omega⟩ ⟨by omega, by omega⟩ ⟨by omega, by omega⟩ ⟨by omega, by omega⟩ ⟨by omega, by omega⟩ hRE164m14 hRE89m14 hRG5m14 hRK54m14 hM
    · intro x5 x6 mh hImh hFmh hba1 hba2 hba3 hba4 hbx5 hbx6 hRE164mh hRE89mh hRG5mh hRK54mh hM
      refine zw_eq (zu_rega_at (zt_T n) (zm_285 n) (zdp_285 n) _ _ _ _ _ _ (zr_285_92 n _ _ a0 a1 a2 a3 a4 x5 x6 mh)) ?_
      have r17 : 1 ≤ (mh 50 2) ∧ (mh 50 2) ≤ 48 := zi_rd hImh zq_50 zb_11_2
      refine zw_ite (fun h18 => ?_) (fun h18 => ?_)
      · have w19 := zu_w32_id (z := x5 + 1) (by omega) (by omega)
        have hM : (48 - (zu_w32 (x5 + 1))) * 49 + 48 < (k : Int) := by omega
        exact zw_le (zu_forget (zu_lr_same (zu_lr_same (zu_lr_same (zu_lr_same (zu_lr_same (zu_lr_same (zu_lr_drop zu_lr_nil)))))))) (ih.2.1 (zu_w32 (x5 + 1)) mh hImh hFmh ⟨by omega, by omega⟩ ⟨by omega, by omega⟩ ⟨by omega, by omega⟩ ⟨by omega, by omega⟩ ⟨by omega, by omega⟩ hRE164mh hRE89mh hRG5mh hRK54mh hM)
      · refine zw_ite (fun h20 => ?_) (fun h20 => ?_)
        · have w21 := zu_w32_id (z := x5 + 1) (by omega) (by omega)
          have hM : (48 - (zu_w32 (x5 + 1))) * 49 + 48 < (k : Int) := by omega
          exact zw_le (zu_forget (zu_lr_same (zu_lr_same (zu_lr_same (zu_lr_same (zu_lr_same (zu_lr_same (zu_lr_drop zu_lr_nil)))))))) (ih.2.1 (zu_w32 (x5 + 1)) mh hImh hFmh ⟨by omega, by omega⟩ ⟨by omega, by omega⟩ ⟨by omega, by omega⟩ ⟨by omega, by omega⟩ ⟨by omega, by omega⟩ hRE164mh hRE89mh hRG5mh hRK54mh hM)
        · refine zw_bd (zw_mono (zk_287 n hImh hc0 ⟨by decide, by decide⟩ ⟨by omega, by omega⟩ ⟨by omega, by omega⟩ hRK54mh) (fun v23 m22 hqm22 => ?_))
          obtain ⟨hIm22, hfm22, hvm22⟩ := hqm22
          have hFm22 := zfr_tr hFmh hfm22 rfl
          obtain ⟨hRK54m22, hvm22⟩ := hvm22
          have hRE164m22 := zR_E164_fr (zdis_fr hfm22 rfl) hRE164mh
          have hRE89m22 := zR_E89_fr (zdis_fr hfm22 rfl) hRE89mh
          have hRG5m22 := zR_G5_fr (zdis_fr hfm22 rfl) hRG5mh
          have w24 := zu_w32_id (z := x6 + 1) (by omega) (by omega)
          have hM : (48 - (zu_w32 (x6 + 1))) * 1 + (48 - x5) * 49 + 0 < (k : Int) := by omega
          exact ih.2.2 x5 (zu_w32 (x6 + 1)) m22 hIm22 hFm22 ⟨by omega, by omega⟩ ⟨by omega, by omega⟩ ⟨by omega, by omega⟩ ⟨by omega, by omega⟩ ⟨by omega, by omega⟩ ⟨by omega, by omega⟩ hRE164m22 hRE89m22 hRG5m22 hRK54m22 hM
set_option maxHeartbeats 4000000 in
theorem zk_285 (n : Nat) {a0 a1 a2 a3 a4 : Int} {m0 : zu_m} (hIm0 : zi_I m0) (hc0 : zcls a0 = 24) (ha1 : 1 ≤ a1 ∧ a1 ≤ 2) (ha2 : 0 ≤ a2 ∧ a2 ≤ 3) (ha3 : 0 ≤ a3 ∧ a3 ≤ 9) (ha4 : 1 ≤ a4 ∧ a4 ≤ 40)    (hRE89m0 : zE m0 89 50) (hRG5m0 : zgeo m0 50) (hRK54m0 : zR_K54 m0) : zw (zu_call (zt_T n) 285 [(33, a0), (0, a1), (0, a2), (0, a3), (0, a4)] m0) (fun v m => zi_I m ∧ zfr [(24, 7), (24, 14), (24, 15), (24, 16), (25, 3), (25, 5), (25, 9), (25, 10), (25, 11), (25, 12), (26, 1), (26, 2), (26, 3), (26, 4), (27, 1), (27, 2), (27, 3), (27, 4), (27, 5), (27, 6), (27, 7), (27, 8), (56, 0), (59, 1), (59, 2), (59, 3), (59, 4), (59, 5), (59, 6), (59, 7), (85, 0), (86, 0), (87, 0), (88, 0), (89, 0), (90, 0), (91, 0), (92, 0), (97, 0), (98, 0)] m0 m ∧ zE m 164 50 ∧ zE m 89 50 ∧ zgeo m 50 ∧ zR_K54 m ∧ True) := by
  have hFm0 : zfr [(24, 7), (24, 14), (24, 15), (24, 16), (25, 3), (25, 5), (25, 9), (25, 10), (25, 11), (25, 12), (26, 1), (26, 2), (26, 3), (26, 4), (27, 1), (27, 2), (27, 3), (27, 4), (27, 5), (27, 6), (27, 7), (27, 8), (56, 0), (59, 1), (59, 2), (59, 3), (59, 4), (59, 5), (59, 6), (59, 7), (85, 0), (86, 0), (87, 0), (88, 0), (89, 0), (90, 0), (91, 0), (92, 0), (97, 0), (98, 0)] m0 m0 := zfr_rf _ _
  refine zw_eq (zu_call_at (zt_T n) (zm_285 n) (zdp_285 n) _ _ _ _ _ rfl (zr_285_0 n _ _ a0 a1 a2 a3 a4 m0)) ?_
  generalize hmm25 : zu_up m0 a0 13 a2 = m25
  have hIm25 := zi_up hmm25 hIm0 hc0 zb_24_13 (by omega) (by omega)
  have hFm25 := zfr_up hmm25 hFm0 hc0 rfl
  have hRE89m25 := zR_E89_fr (zdis_fr (zfr_up hmm25 (zfr_rf [(24, 14)] _) hc0 rfl) rfl) hRE89m0
  have hRG5m25 := zR_G5_fr (zdis_fr (zfr_up hmm25 (zfr_rf [(24, 14)] _) hc0 rfl) rfl) hRG5m0
  have hRK54m25 := zR_K54_fr (zdis_fr (zfr_up hmm25 (zfr_rf [(24, 14)] _) hc0 rfl) rfl) hRK54m0
  generalize hmm26 : zu_up m25 a0 14 a3 = m26
  have hIm26 := zi_up hmm26 hIm25 hc0 zb_24_14 (by omega) (by omega)
  have hFm26 := zfr_up hmm26 hFm25 hc0 rfl
  have hRE89m26 := zR_E89_fr (zdis_fr (zfr_up hmm26 (zfr_rf [(24, 15)] _) hc0 rfl) rfl) hRE89m25
  have hRG5m26 := zR_G5_fr (zdis_fr (zfr_up hmm26 (zfr_rf [(24, 15)] _) hc0 rfl) rfl) hRG5m25
  have hRK54m26 := zR_K54_fr (zdis_fr (zfr_up hmm26 (zfr_rf [(24, 15)] _) hc0 rfl) rfl) hRK54m25
  have hM : (256 - 0) * 1 + 2401 < ((2658 : Nat) : Int) := by omega
  exact (zl_285 n (m0 := m0) hc0 2658).1 0 m26 hIm26 hFm26 ⟨by omega, by omega⟩ ⟨by omega, by omega⟩ ⟨by omega, by omega⟩ ⟨by omega, by omega⟩ ⟨by omega, by omega⟩ hRE89m26 hRG5m26 hRK54m26 hM
set_option maxHeartbeats 4000000 in
theorem zl_300 (n : Nat) {a0 a1 : Int} {m0 : zu_m} (hc0 : zcls a0 = 24)   : ∀ k : Nat, (∀ (x2 x3 x4 : Int) (mh : zu_m), zi_I mh → zfr [(25, 3), (25, 5), (25, 9), (25, 10), (25, 11), (25, 12), (26, 1), (26, 2), (26, 3), (26, 4), (27, 1), (27, 2), (27, 3), (27, 4), (27, 5), (27, 6), (27, 7), (27, 8), (56, 0), (59, 1), (59, 2), (59, 3), (59, 4), (59, 5), (59, 6), (59, 7), (97, 0), (98, 0)] m0 mh → (1 ≤ a1 ∧ a1 ≤ 200) → (0 ≤ x2 ∧ x2 ≤ 2) → ((-2147483648) ≤ x3 ∧ x3 ≤ 1000000) → (0 ≤ x4 ∧ x4 ≤ 3) → (zE mh 89 50) → (zgeo mh 50) → (zR_K54 mh) → (3 - x4) * 1 + 0 < (k : Int) → zw (zu_ex (zt_T n) 300 8 [(33, a0), (0, a1), (0, x2), (0, x3), (0, x4), (2, 0)] [] mh) (fun v m => zi_I m ∧ zfr [(25, 3), (25, 5), (25, 9), (25, 10), (25, 11), (25, 12), (26, 1), (26, 2), (26, 3), (26, 4), (27, 1), (27, 2), (27, 3), (27, 4), (27, 5), (27, 6), (27, 7), (27, 8), (56, 0), (59, 1), (59, 2), (59, 3), (59, 4), (59, 5), (59, 6), (59, 7), (97, 0), (98, 0)] m0 m ∧ zE m 89 50 ∧ zgeo m 50 ∧ zR_K54 m ∧ (0 ≤ v ∧ v ≤ 2))) := by
  intro k
  induction k with
  | zero => exact fun x2 x3 x4 mh hImh hFmh hba1 hbx2 hbx3 hbx4 hRE89mh hRG5mh hRK54mh hM => by exfalso; omega
  | succ k ih =>
    intro x2 x3 x4 mh hImh hFmh hba1 hbx2 hbx3 hbx4 hRE89mh hRG5mh hRK54mh hM
    refine zw_eq (zu_rega_at (zt_T n) (zm_300 n) (zdp_300 n) _ _ _ _ _ _ (zr_300_8 n _ _ a0 a1 x2 x3 x4 mh)) ?_
    refine zw_ite (fun h1 => ?_) (fun h1 => ?_)
    · exact zw_some ⟨hImh, hFmh, hRE89mh, hRG5mh, hRK54mh, ⟨by omega, by omega⟩⟩
    · refine zw_bd (zw_mono (zk_299 n hImh hc0 ⟨by omega, by omega⟩ ⟨by omega, by omega⟩ hRE89mh hRG5mh hRK54mh) (fun v3 m2 hqm2 => ?_))
      obtain ⟨hIm2, hfm2, hvm2⟩ := hqm2
      have hFm2 := zfr_tr hFmh hfm2 rfl
      obtain ⟨hRE164m2, hRE89m2, hRG5m2, hRK54m2, hvm2⟩ := hvm2
      refine zw_ite (fun h4 => ?_) (fun h4 => ?_)
      · have w5 := zu_w32_id (z := x4 + 1) (by omega) (by omega)
        have hM : (3 - (zu_w32 (x4 + 1))) * 1 + 0 < (k : Int) := by omega
        exact zw_le (zu_forget (zu_lr_same (zu_lr_same (zu_lr_same (zu_lr_same (zu_lr_same (zu_lr_drop zu_lr_nil))))))) (ih x2 x3 (zu_w32 (x4 + 1)) m2 hIm2 hFm2 ⟨by omega, by omega⟩ ⟨by omega, by omega⟩ ⟨by omega, by omega⟩ ⟨by omega, by omega⟩ hRE89m2 hRG5m2 hRK54m2 hM)
      · have w6 := zu_w32_id (z := x4 + 1) (by omega) (by omega)
        have hM : (3 - (zu_w32 (x4 + 1))) * 1 + 0 < (k : Int) := by omega
        exact zw_le (zu_forget (zu_lr_same (zu_lr_same (zu_lr_same (zu_lr_same (zu_lr_same (zu_lr_drop zu_lr_nil))))))) (ih x4 v3 (zu_w32 (x4 + 1)) m2 hIm2 hFm2 ⟨by omega, by omega⟩ ⟨by omega, by omega⟩ ⟨by omega, by omega⟩ ⟨by omega, by omega⟩ hRE89m2 hRG5m2 hRK54m2 hM)
set_option maxHeartbeats 4000000 in
theorem zk_300 (n : Nat) {a0 a1 : Int} {m0 : zu_m} (hIm0 : zi_I m0) (hc0 : zcls a0 = 24) (ha1 : 1 ≤ a1 ∧ a1 ≤ 200)    (hRE89m0 : zE m0 89 50) (hRG5m0 : zgeo m0 50) (hRK54m0 : zR_K54 m0) : zw (zu_call (zt_T n) 300 [(33, a0), (0, a1)] m0) (fun v m => zi_I m ∧ zfr [(25, 3), (25, 5), (25, 9), (25, 10), (25, 11), (25, 12), (26, 1), (26, 2), (26, 3), (26, 4), (27, 1), (27, 2), (27, 3), (27, 4), (27, 5), (27, 6), (27, 7), (27, 8), (56, 0), (59, 1), (59, 2), (59, 3), (59, 4), (59, 5), (59, 6), (59, 7), (97, 0), (98, 0)] m0 m ∧ zE m 89 50 ∧ zgeo m 50 ∧ zR_K54 m ∧ (0 ≤ v ∧ v ≤ 2)) := by
  have hFm0 : zfr [(25, 3), (25, 5), (25, 9), (25, 10), (25, 11), (25, 12), (26, 1), (26, 2), (26, 3), (26, 4), (27, 1), (27, 2), (27, 3), (27, 4), (27, 5), (27, 6), (27, 7), (27, 8), (56, 0), (59, 1), (59, 2), (59, 3), (59, 4), (59, 5), (59, 6), (59, 7), (97, 0), (98, 0)] m0 m0 := zfr_rf _ _
  refine zw_eq (zu_call_at (zt_T n) (zm_300 n) (zdp_300 n) _ _ _ _ _ rfl (zr_300_0 n _ _ a0 a1 m0)) ?_
  have hM : (3 - 0) * 1 + 0 < ((4 : Nat) : Int) := by omega
  exact (zl_300 n (m0 := m0) hc0 4) 0 1000000 0 m0 hIm0 hFm0 ⟨by omega, by omega⟩ ⟨by omega, by omega⟩ ⟨by omega, by omega⟩ ⟨by omega, by omega⟩ hRE89m0 hRG5m0 hRK54m0 hM
set_option maxHeartbeats 4000000 in
theorem zl_301 (n : Nat) {a0 a1 : Int} {m0 : zu_m} (hc0 : zcls a0 = 24)   : ∀ k : Nat, (∀ (x2 x3 : Int) (mh : zu_m), zi_I mh → zfr [(25, 3), (25, 5), (25, 9), (25, 10), (25, 11), (25, 12), (26, 1), (26, 2), (26, 3), (26, 4), (27, 1), (27, 2), (27, 3), (27, 4), (27, 5), (27, 6), (27, 7), (27, 8), (56, 0), (59, 1), (59, 2), (59, 3), (59, 4), (59, 5), (59, 6), (59, 7), (80, 0), (97, 0), (98, 0)] m0 mh → (0 ≤ a1 ∧ a1 ≤ 3) → ((-2147483648) ≤ x2 ∧ x2 ≤ 2147483647) → (0 ≤ x3 ∧ x3 ≤ 31) → (zE mh 63 50) → (zgeo mh 50) → (zR_K54 mh) → (31 - x3) * 1 + 0 < (k : Int) → zw (zu_ex (zt_T n) 301 11 [(33, a0), (0, a1), (0, x2), (0, x3)] [] mh) (fun v m => zi_I m ∧ zfr [(25, 3), (25, 5), (25, 9), (25, 10), (25, 11), (25, 12), (26, 1), (26, 2), (26, 3), (26, 4), (27, 1), (27, 2), (27, 3), (27, 4), (27, 5), (27, 6), (27, 7), (27, 8), (56, 0), (59, 1), (59, 2), (59, 3), (59, 4), (59, 5), (59, 6), (59, 7), (80, 0), (97, 0), (98, 0)] m0 m ∧ zE m 63 50 ∧ zgeo m 50 ∧ zR_K54 m ∧ ((-2147483648) ≤ v ∧ v ≤ 2147483647))) := by
  intro k
  induction k with
  | zero => exact fun x2 x3 mh hImh hFmh hba1 hbx2 hbx3 hRE63mh hRG5mh hRK54mh hM => by exfalso; omega
  | succ k ih =>
    intro x2 x3 mh hImh hFmh hba1 hbx2 hbx3 hRE63mh hRG5mh hRK54mh hM
    refine zw_eq (zu_rega_at (zt_T n) (zm_301 n) (zdp_301 n) _ _ _ _ _ _ (zr_301_11 n _ _ a0 a1 x2 x3 mh)) ?_
    refine zw_ite (fun h1 => ?_) (fun h1 => ?_)
    · exact zw_some ⟨hImh, hFmh, hRE63mh, hRG5mh, hRK54mh, ⟨by omega, by omega⟩⟩
    · refine zw_bd (zw_mono (zk_302 n hImh hc0 ⟨by omega, by omega⟩ ⟨by omega, by omega⟩ hRE63mh hRG5mh hRK54mh) (fun v3 m2 hqm2 => ?_))
      obtain ⟨hIm2, hfm2, hvm2⟩ := hqm2
      have hFm2 := zfr_tr hFmh hfm2 rfl
      obtain ⟨hRE164m2, hRE63m2, hRG5m2, hRK54m2, hvm2⟩ := hvm2
      refine zw_ite (fun h4 => ?_) (fun h4 => ?_)
      · have w5 := zu_w32_id (z := x3 + 1) (by omega) (by omega)
        have hM : (31 - (zu_w32 (x3 + 1))) * 1 + 0 < (k : Int) := by omega
        exact ih x2 (zu_w32 (x3 + 1)) m2 hIm2 hFm2 ⟨by omega, by omega⟩ ⟨by omega, by omega⟩ ⟨by omega, by omega⟩ hRE63m2 hRG5m2 hRK54m2 hM
      · have b6 := zu_i32_rg 5 1 x3
        have b7 := zu_i32_rg 4 x2 (zu_i32 5 1 x3)
        have w8 := zu_w32_id (z := x3 + 1) (by omega) (by omega)
        have hM : (31 - (zu_w32 (x3 + 1))) * 1 + 0 < (k : Int) := by omega
        exact ih (zu_i32 4 x2 (zu_i32 5 1 x3)) (zu_w32 (x3 + 1)) m2 hIm2 hFm2 ⟨by omega, by omega⟩ ⟨by omega, by omega⟩ ⟨by omega, by omega⟩ hRE63m2 hRG5m2 hRK54m2 hM
set_option maxHeartbeats 4000000 in
theorem zk_301 (n : Nat) {a0 a1 : Int} {m0 : zu_m} (hIm0 : zi_I m0) (hc0 : zcls a0 = 24) (ha1 : 0 ≤ a1 ∧ a1 ≤ 3)    (hRE63m0 : zE m0 63 50) (hRG5m0 : zgeo m0 50) (hRK54m0 : zR_K54 m0) : zw (zu_call (zt_T n) 301 [(33, a0), (0, a1)] m0) (fun v m => zi_I m ∧ zfr [(25, 3), (25, 5), (25, 9), (25, 10), (25, 11), (25, 12), (26, 1), (26, 2), (26, 3), (26, 4), (27, 1), (27, 2), (27, 3), (27, 4), (27, 5), (27, 6), (27, 7), (27, 8), (56, 0), (59, 1), (59, 2), (59, 3), (59, 4), (59, 5), (59, 6), (59, 7), (80, 0), (97, 0), (98, 0)] m0 m ∧ zE m 63 50 ∧ zgeo m 50 ∧ zR_K54 m ∧ ((-2147483648) ≤ v ∧ v ≤ 2147483647)) := by
  have hFm0 : zfr [(25, 3), (25, 5), (25, 9), (25, 10), (25, 11), (25, 12), (26, 1), (26, 2), (26, 3), (26, 4), (27, 1), (27, 2), (27, 3), (27, 4), (27, 5), (27, 6), (27, 7), (27, 8), (56, 0), (59, 1), (59, 2), (59, 3), (59, 4), (59, 5), (59, 6), (59, 7), (80, 0), (97, 0), (98, 0)] m0 m0 := zfr_rf _ _
  refine zw_eq (zu_call_at (zt_T n) (zm_301 n) (zdp_301 n) _ _ _ _ _ rfl (zr_301_0 n _ _ a0 a1 m0)) ?_
  refine zw_bd (zw_mono (zk_274 n hIm0 zq_141) (fun v10 m9 hqm9 => ?_))
  obtain ⟨hIm9, hfm9, hvm9⟩ := hqm9
  have hFm9 := zfr_tr hFm0 hfm9 rfl
  have hRE63m9 := zR_E63_fr (zdis_fr hfm9 rfl) hRE63m0
  have hRG5m9 := zR_G5_fr (zdis_fr hfm9 rfl) hRG5m0
  have hRK54m9 := zR_K54_fr (zdis_fr hfm9 rfl) hRK54m0
  have hM : (31 - 0) * 1 + 0 < ((32 : Nat) : Int) := by omega
  exact (zl_301 n (m0 := m0) hc0 32) 0 0 m9 hIm9 hFm9 ⟨by omega, by omega⟩ ⟨by omega, by omega⟩ ⟨by omega, by omega⟩ hRE63m9 hRG5m9 hRK54m9 hM
set_option maxHeartbeats 4000000 in
theorem zk_42 (n : Nat) {a0 a1 : Int} {m0 : zu_m} (hIm0 : zi_I m0) (hc0 : zcls a0 = 2) (ha1 : (-2147483648) ≤ a1 ∧ a1 ≤ 2147483647)    (hRBNm0 : zR_BN m0) (hRE115m0 : (m0 3 9 = 1 → zE m0 115 50)) (hRE63m0 : zE m0 63 50) (hRE89m0 : zE m0 89 50) (hRG5m0 : zgeo m0 50) (hRK10m0 : zR_K10 m0) (hRK54m0 : zR_K54 m0) (hRUNm0 : zR_UN m0) (hRUWm0 : zR_UW m0) : zw (zu_call (zt_T n) 42 [(5, a0), (0, a1)] m0) (fun v m => zi_I m ∧ zfr [(2, 2), (2, 3), (2, 4), (2, 10), (3, 5), (3, 6), (3, 7), (3, 8), (3, 9), (3, 10), (3, 11), (4, 1), (4, 2), (4, 3), (4, 4), (4, 5), (4, 6), (5, 6), (5, 7), (6, 3), (6, 5), (6, 9), (6, 10), (6, 11), (6, 12), (7, 1), (7, 2), (7, 3), (7, 4), (8, 1), (8, 2), (8, 3), (8, 4), (8, 5), (8, 6), (8, 7), (9, 3), (9, 4), (9, 5), (9, 6), (9, 7), (10, 4), (10, 5), (10, 7), (10, 8), (11, 1), (11, 2), (11, 3), (11, 4), (11, 5), (11, 6), (12, 6), (12, 7), (13, 3), (13, 5), (13, 9), (13, 10), (13, 11), (13, 12), (14, 1), (14, 2), (14, 3), (14, 4), (15, 1), (15, 2), (15, 3), (15, 4), (15, 5), (15, 6), (15, 7), (15, 8), (16, 3), (16, 5), (16, 9), (16, 10), (16, 11), (16, 12), (17, 1), (17, 2), (17, 3), (17, 4), (18, 1), (18, 2), (18, 3), (18, 4), (18, 5), (18, 6), (18, 7), (18, 8), (22, 7), (22, 8), (23, 5), (30, 0), (31, 0), (32, 0), (33, 0), (34, 0), (35, 0), (36, 0), (43, 0), (44, 0), (47, 0), (48, 0), (49, 0), (50, 0), (51, 0), (52, 0), (53, 0), (54, 0), (55, 0), (56, 0), (57, 0), (58, 0), (59, 1), (59, 2), (59, 3), (59, 4), (59, 5), (59, 6), (59, 7), (62, 0), (63, 0), (67, 0), (68, 0)] m0 m ∧ zR_BN m ∧ (m 3 9 = 1 → zE m 115 50) ∧ zE m 63 50 ∧ zE m 89 50 ∧ zgeo m 50 ∧ zR_K10 m ∧ zR_K54 m ∧ zR_UN m ∧ zR_UW m ∧ ((-2147483648) ≤ v ∧ v ≤ 2147483647) ∧ ((0 ≤ a1 ∧ a1 ≤ (m0 a0 1) ∧ (m a0 1) = 0) ∨ ((a1 < 0 ∨ (m0 a0 1) < a1) ∧ (m a0 1) = (m0 a0 1)))) := by
  have hFm0 : zfr [(2, 2), (2, 3), (2, 4), (2, 10), (3, 5), (3, 6), (3, 7), (3, 8), (3, 9), (3, 10), (3, 11), (4, 1), (4, 2), (4, 3), (4, 4), (4, 5), (4, 6), (5, 6), (5, 7), (6, 3), (6, 5), (6, 9), (6, 10), (6, 11), (6, 12), (7, 1), (7, 2), (7, 3), (7, 4), (8, 1), (8, 2), (8, 3), (8, 4), (8, 5), (8, 6), (8, 7), (9, 3), (9, 4), (9, 5), (9, 6), (9, 7), (10, 4), (10, 5), (10, 7), (10, 8), (11, 1), (11, 2), (11, 3), (11, 4), (11, 5), (11, 6), (12, 6), (12, 7), (13, 3), (13, 5), (13, 9), (13, 10), (13, 11), (13, 12), (14, 1), (14, 2), (14, 3), (14, 4), (15, 1), (15, 2), (15, 3), (15, 4), (15, 5), (15, 6), (15, 7), (15, 8), (16, 3), (16, 5), (16, 9), (16, 10), (16, 11), (16, 12), (17, 1), (17, 2), (17, 3), (17, 4), (18, 1), (18, 2), (18, 3), (18, 4), (18, 5), (18, 6), (18, 7), (18, 8), (22, 7), (22, 8), (23, 5), (30, 0), (31, 0), (32, 0), (33, 0), (34, 0), (35, 0), (36, 0), (43, 0), (44, 0), (47, 0), (48, 0), (49, 0), (50, 0), (51, 0), (52, 0), (53, 0), (54, 0), (55, 0), (56, 0), (57, 0), (58, 0), (59, 1), (59, 2), (59, 3), (59, 4), (59, 5), (59, 6), (59, 7), (62, 0), (63, 0), (67, 0), (68, 0)] m0 m0 := zfr_rf _ _
  have r1 : 0 ≤ (m0 a0 1) ∧ (m0 a0 1) ≤ 700 := zi_rd hIm0 hc0 zb_2_1
  refine zw_eq (zu_call_at (zt_T n) (zm_42 n) (zdp_42 n) _ _ _ _ _ rfl (zr_42_0 n _ _ a0 a1 m0)) ?_
  refine zw_ite (fun h2 => ?_) (fun h2 => ?_)
  · exact zw_some ⟨hIm0, hFm0, hRBNm0, hRE115m0, hRE63m0, hRE89m0, hRG5m0, hRK10m0, hRK54m0, hRUNm0, hRUWm0, ⟨by decide, by decide⟩, by omega⟩
  · refine zw_ite (fun h3 => ?_) (fun h3 => ?_)
    · refine zw_bd (zw_mono (zk_12 n hIm0 zq_5 ⟨by omega, by omega⟩ hRBNm0 hRK10m0) (fun v5 m4 hqm4 => ?_))
      obtain ⟨hIm4, hfm4, hvm4⟩ := hqm4
      have hFm4 := zfr_tr hFm0 hfm4 rfl
      obtain ⟨hRBNm4, hRCTm4, hRE19m4, hRG6m4, hRK10m4, hvm4⟩ := hvm4
      have hRE115m4 := zR_E115_fr (zdis_fr hfm4 rfl) hRE115m0
      have hRE63m4 := zR_E63_fr (zdis_fr hfm4 rfl) hRE63m0
      have hRE89m4 := zR_E89_fr (zdis_fr hfm4 rfl) hRE89m0
      have hRG5m4 := zR_G5_fr (zdis_fr hfm4 rfl) hRG5m0
      have hRK54m4 := zR_K54_fr (zdis_fr hfm4 rfl) hRK54m0
      have hRUNm4 := zR_UN_fr (zdis_fr hfm4 rfl) hRUNm0
      have hRUWm4 := zR_UW_fr (zdis_fr hfm4 rfl) hRUWm0
      generalize hmm6 : zu_up m4 a0 1 0 = m6
      have hIm6 := zi_up hmm6 hIm4 hc0 zb_2_1 (by omega) (by omega)
      have hFm6 := zfr_up hmm6 hFm4 hc0 rfl
      have hRBNm6 := zR_BN_fr (zdis_fr (zfr_up hmm6 (zfr_rf [(2, 2)] _) hc0 rfl) rfl) hRBNm4
      have hRCTm6 := zR_CT_fr (zdis_fr (zfr_up hmm6 (zfr_rf [(2, 2)] _) hc0 rfl) rfl) hRCTm4
      have hRE115m6 := zR_E115_fr (zdis_fr (zfr_up hmm6 (zfr_rf [(2, 2)] _) hc0 rfl) rfl) hRE115m4
      have hRE19m6 := zR_E19_fr (zdis_fr (zfr_up hmm6 (zfr_rf [(2, 2)] _) hc0 rfl) rfl) hRE19m4
      have hRE63m6 := zR_E63_fr (zdis_fr (zfr_up hmm6 (zfr_rf [(2, 2)] _) hc0 rfl) rfl) hRE63m4
      have hRE89m6 := zR_E89_fr (zdis_fr (zfr_up hmm6 (zfr_rf [(2, 2)] _) hc0 rfl) rfl) hRE89m4
      have hRG5m6 := zR_G5_fr (zdis_fr (zfr_up hmm6 (zfr_rf [(2, 2)] _) hc0 rfl) rfl) hRG5m4
      have hRG6m6 := zR_G6_fr (zdis_fr (zfr_up hmm6 (zfr_rf [(2, 2)] _) hc0 rfl) rfl) hRG6m4
      have hRK10m6 := zR_K10_fr (zdis_fr (zfr_up hmm6 (zfr_rf [(2, 2)] _) hc0 rfl) rfl) hRK10m4
      have hRK54m6 := zR_K54_fr (zdis_fr (zfr_up hmm6 (zfr_rf [(2, 2)] _) hc0 rfl) rfl) hRK54m4
      have hRUNm6 := zR_UN_fr (zdis_fr (zfr_up hmm6 (zfr_rf [(2, 2)] _) hc0 rfl) rfl) hRUNm4
      have hRUWm6 := zR_UW_fr (zdis_fr (zfr_up hmm6 (zfr_rf [(2, 2)] _) hc0 rfl) rfl) hRUWm4
      have r7 : (-2147483648) ≤ (m6 5 9) ∧ (m6 5 9) ≤ 2147483647 := zi_rd hIm6 zq_5 zb_3_9
      generalize hmm8 : zu_up m6 a0 2 (m6 5 9) = m8
      have hIm8 := zi_up hmm8 hIm6 hc0 zb_2_2 (by omega) (by omega)
      have hFm8 := zfr_up hmm8 hFm6 hc0 rfl
      have hRBNm8 := zR_BN_fr (zdis_fr (zfr_up hmm8 (zfr_rf [(2, 3)] _) hc0 rfl) rfl) hRBNm6
      have hRCTm8 := zR_CT_fr (zdis_fr (zfr_up hmm8 (zfr_rf [(2, 3)] _) hc0 rfl) rfl) hRCTm6
      have hRE115m8 := zR_E115_fr (zdis_fr (zfr_up hmm8 (zfr_rf [(2, 3)] _) hc0 rfl) rfl) hRE115m6
      have hRE19m8 := zR_E19_fr (zdis_fr (zfr_up hmm8 (zfr_rf [(2, 3)] _) hc0 rfl) rfl) hRE19m6
      have hRE63m8 := zR_E63_fr (zdis_fr (zfr_up hmm8 (zfr_rf [(2, 3)] _) hc0 rfl) rfl) hRE63m6
      have hRE89m8 := zR_E89_fr (zdis_fr (zfr_up hmm8 (zfr_rf [(2, 3)] _) hc0 rfl) rfl) hRE89m6
      have hRG5m8 := zR_G5_fr (zdis_fr (zfr_up hmm8 (zfr_rf [(2, 3)] _) hc0 rfl) rfl) hRG5m6
      have hRG6m8 := zR_G6_fr (zdis_fr (zfr_up hmm8 (zfr_rf [(2, 3)] _) hc0 rfl) rfl) hRG6m6
      have hRK10m8 := zR_K10_fr (zdis_fr (zfr_up hmm8 (zfr_rf [(2, 3)] _) hc0 rfl) rfl) hRK10m6
      have hRK54m8 := zR_K54_fr (zdis_fr (zfr_up hmm8 (zfr_rf [(2, 3)] _) hc0 rfl) rfl) hRK54m6
      have hRUNm8 := zR_UN_fr (zdis_fr (zfr_up hmm8 (zfr_rf [(2, 3)] _) hc0 rfl) rfl) hRUNm6
      have hRUWm8 := zR_UW_fr (zdis_fr (zfr_up hmm8 (zfr_rf [(2, 3)] _) hc0 rfl) rfl) hRUWm6
      have r9 : (-2147483648) ≤ (m8 5 10) ∧ (m8 5 10) ≤ 2147483647 := zi_rd hIm8 zq_5 zb_3_10
      generalize hmm10 : zu_up m8 a0 3 (m8 5 10) = m10
      have hIm10 := zi_up hmm10 hIm8 hc0 zb_2_3 (by omega) (by omega)
      have hFm10 := zfr_up hmm10 hFm8 hc0 rfl
      have hRBNm10 := zR_BN_fr (zdis_fr (zfr_up hmm10 (zfr_rf [(2, 4)] _) hc0 rfl) rfl) hRBNm8
      have hRCTm10 := zR_CT_fr (zdis_fr (zfr_up hmm10 (zfr_rf [(2, 4)] _) hc0 rfl) rfl) hRCTm8
      have hRE115m10 := zR_E115_fr (zdis_fr (zfr_up hmm10 (zfr_rf [(2, 4)] _) hc0 rfl) rfl) hRE115m8
      have hRE19m10 := zR_E19_fr (zdis_fr (zfr_up hmm10 (zfr_rf [(2, 4)] _) hc0 rfl) rfl) hRE19m8
      have hRE63m10 := zR_E63_fr (zdis_fr (zfr_up hmm10 (zfr_rf [(2, 4)] _) hc0 rfl) rfl) hRE63m8
      have hRE89m10 := zR_E89_fr (zdis_fr (zfr_up hmm10 (zfr_rf [(2, 4)] _) hc0 rfl) rfl) hRE89m8
      have hRG5m10 := zR_G5_fr (zdis_fr (zfr_up hmm10 (zfr_rf [(2, 4)] _) hc0 rfl) rfl) hRG5m8
      have hRG6m10 := zR_G6_fr (zdis_fr (zfr_up hmm10 (zfr_rf [(2, 4)] _) hc0 rfl) rfl) hRG6m8
      have hRK10m10 := zR_K10_fr (zdis_fr (zfr_up hmm10 (zfr_rf [(2, 4)] _) hc0 rfl) rfl) hRK10m8
      have hRK54m10 := zR_K54_fr (zdis_fr (zfr_up hmm10 (zfr_rf [(2, 4)] _) hc0 rfl) rfl) hRK54m8
      have hRUNm10 := zR_UN_fr (zdis_fr (zfr_up hmm10 (zfr_rf [(2, 4)] _) hc0 rfl) rfl) hRUNm8
      have hRUWm10 := zR_UW_fr (zdis_fr (zfr_up hmm10 (zfr_rf [(2, 4)] _) hc0 rfl) rfl) hRUWm8
      have r11 : (-2147483648) ≤ (m10 a0 2) ∧ (m10 a0 2) ≤ 2147483647 := zi_rd hIm10 hc0 zb_2_2
      have e12 : (m10 a0 2) = (m6 5 9) := (Eq.trans (zs_ne hmm10 (Or.inr (by decide))) (zs_eq hmm8))
      refine zw_ite (fun h13 => ?_) (fun h13 => ?_)
      · refine zw_bd (zw_mono (zk_19 n hIm10 hc0 hRE19m10 hRG6m10 hRK10m10) (fun v15 m14 hqm14 => ?_))
        obtain ⟨hIm14, hfm14, hvm14⟩ := hqm14
        have hFm14 := zfr_tr hFm10 hfm14 rfl
        obtain ⟨hRE115m14, hRE19m14, hRE63m14, hRE89m14, hRG5m14, hRG6m14, hRK10m14, hRK54m14, hRUNm14, hRUWm14, hvm14⟩ := hvm14
        have hRBNm14 := zR_BN_fr (zdis_fr hfm14 rfl) hRBNm10
        have hRCTm14 := zR_CT_fr (zdis_fr hfm14 rfl) hRCTm10
        have r16 : 0 ≤ (m14 a0 1) ∧ (m14 a0 1) ≤ 700 := zi_rd hIm14 hc0 zb_2_1
        have e17 : (m14 a0 1) = 0 := (Eq.trans (zfr_ap hfm14 hc0 rfl) (Eq.trans (zs_ne hmm10 (Or.inr (by decide))) (Eq.trans (zs_ne hmm8 (Or.inr (by decide))) (zs_eq hmm6))))
        exact zw_some ⟨hIm14, hFm14, hRBNm14, hRE115m14, hRE63m14, hRE89m14, hRG5m14, hRK10m14, hRK54m14, hRUNm14, hRUWm14, ⟨by omega, by omega⟩, by omega⟩
      · have r18 : 0 ≤ (m10 a0 1) ∧ (m10 a0 1) ≤ 700 := zi_rd hIm10 hc0 zb_2_1
        have e19 : (m10 a0 1) = 0 := (Eq.trans (zs_ne hmm10 (Or.inr (by decide))) (Eq.trans (zs_ne hmm8 (Or.inr (by decide))) (zs_eq hmm6)))
        exact zw_some ⟨hIm10, hFm10, hRBNm10, hRE115m10, hRE63m10, hRE89m10, hRG5m10, hRK10m10, hRK54m10, hRUNm10, hRUWm10, ⟨by decide, by decide⟩, by omega⟩
    · exact zw_some ⟨hIm0, hFm0, hRBNm0, hRE115m0, hRE63m0, hRE89m0, hRG5m0, hRK10m0, hRK54m0, hRUNm0, hRUWm0, ⟨by decide, by decide⟩, by omega⟩

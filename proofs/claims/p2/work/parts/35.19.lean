set_option maxHeartbeats 4000000 in
theorem zl_290 (n : Nat) {a0 a1 a2 a3 : Int} {m0 : zu_m} (hc0 : zcls a0 = 24)   : ∀ k : Nat, (∀ (x4 : Int) (mh : zu_m), zi_I mh → zfr [(56, 0), (59, 1), (59, 2), (59, 3), (59, 4), (59, 5), (59, 6), (59, 7), (87, 0), (88, 0), (89, 0), (90, 0), (91, 0)] m0 mh → (0 ≤ a1 ∧ a1 ≤ 3) → (0 ≤ a2 ∧ a2 ≤ 47) → (1 ≤ a3 ∧ a3 ≤ 18) → (0 ≤ x4 ∧ x4 ≤ 18) → (zR_K54 mh) → (18 - x4) * 1 + 0 < (k : Int) → zw (zu_ex (zt_T n) 290 3 [(33, a0), (0, a1), (0, a2), (0, a3), (0, x4)] [] mh) (fun v m => zi_I m ∧ zfr [(56, 0), (59, 1), (59, 2), (59, 3), (59, 4), (59, 5), (59, 6), (59, 7), (87, 0), (88, 0), (89, 0), (90, 0), (91, 0)] m0 m ∧ zR_K54 m ∧ True)) := by
  intro k
  induction k with
  | zero => exact fun x4 mh hImh hFmh hba1 hba2 hba3 hbx4 hRK54mh hM => by exfalso; omega
  | succ k ih =>
    intro x4 mh hImh hFmh hba1 hba2 hba3 hbx4 hRK54mh hM
    refine zw_eq (zu_rega_at (zt_T n) (zm_290 n) (zdp_290 n) _ _ _ _ _ _ (zr_290_3 n _ _ a0 a1 a2 a3 x4 mh)) ?_
    refine zw_ite (fun h1 => ?_) (fun h1 => ?_)
    · exact zw_some ⟨hImh, hFmh, hRK54mh, trivial⟩
    · refine zw_ite (fun h2 => ?_) (fun h2 => ?_)
      · exfalso; omega
      · have b3 : 0 ≤ a2 ∧ a2 < 48 := by omega
        refine zw_if b3 ?_
        have r4 : (-2147483648) ≤ (mh 157 a2) ∧ (mh 157 a2) ≤ 2147483647 := zi_rd hImh zq_157 (zb_88 _)
        refine zw_ite (fun h5 => ?_) (fun h5 => ?_)
        · exact zw_some ⟨hImh, hFmh, hRK54mh, trivial⟩
        · have b6 : 0 ≤ x4 ∧ x4 < 18 := by omega
          refine zw_if b6 ?_
          have r7 : 0 ≤ (mh 156 x4) ∧ (mh 156 x4) ≤ 1 := zi_rd hImh zq_156 (zb_87 _)
          refine zw_ite (fun h8 => ?_) (fun h8 => ?_)
          · have w9 := zu_w32_id (z := x4 + 1) (by omega) (by omega)
            have hM : (18 - (zu_w32 (x4 + 1))) * 1 + 0 < (k : Int) := by omega
            exact ih (zu_w32 (x4 + 1)) mh hImh hFmh ⟨by omega, by omega⟩ ⟨by omega, by omega⟩ ⟨by omega, by omega⟩ ⟨by omega, by omega⟩ hRK54mh hM
          · have b10 : 0 ≤ x4 ∧ x4 < 18 := by omega
            refine zw_if b10 ?_
            have r11 : 0 ≤ (mh 155 x4) ∧ (mh 155 x4) ≤ 47 := zi_rd hImh zq_155 (zb_86 _)
            refine zw_ite (fun h12 => ?_) (fun h12 => ?_)
            · have w13 := zu_w32_id (z := x4 + 1) (by omega) (by omega)
              have hM : (18 - (zu_w32 (x4 + 1))) * 1 + 0 < (k : Int) := by omega
              exact ih (zu_w32 (x4 + 1)) mh hImh hFmh ⟨by omega, by omega⟩ ⟨by omega, by omega⟩ ⟨by omega, by omega⟩ ⟨by omega, by omega⟩ hRK54mh hM
            · refine zw_bd (zw_mono (zk_291 n hImh hc0 ⟨by omega, by omega⟩ ⟨by omega, by omega⟩ hRK54mh) (fun v15 m14 hqm14 => ?_))
              obtain ⟨hIm14, hfm14, hvm14⟩ := hqm14
              have hFm14 := zfr_tr hFmh hfm14 rfl
              obtain ⟨hRK54m14, hvm14⟩ := hvm14
              refine zw_ite (fun h16 => ?_) (fun h16 => ?_)
              · have w17 := zu_w32_id (z := x4 + 1) (by omega) (by omega)
                have hM : (18 - (zu_w32 (x4 + 1))) * 1 + 0 < (k : Int) := by omega
                exact ih (zu_w32 (x4 + 1)) m14 hIm14 hFm14 ⟨by omega, by omega⟩ ⟨by omega, by omega⟩ ⟨by omega, by omega⟩ ⟨by omega, by omega⟩ hRK54m14 hM
              · refine zw_b (by omega) ?_
                have b18 : 0 ≤ x4 ∧ x4 < 18 := by omega
                refine zw_if b18 ?_
                generalize hmm19 : zu_up m14 156 x4 1 = m19
                have hIm19 := zi_up hmm19 hIm14 zq_156 (zb_87 _) (by omega) (by omega)
                have hFm19 := zfr_up hmm19 hFm14 zq_156 rfl
                have hRK54m19 := zR_K54_fr (zdis_fr (zfr_up hmm19 (zfr_rf [(87, 0)] _) zq_156 rfl) rfl) hRK54m14
                have b20 : 0 ≤ a2 ∧ a2 < 48 := by omega
                refine zw_if b20 ?_
                have r21 : (-2147483648) ≤ (m19 157 a2) ∧ (m19 157 a2) ≤ 2147483647 := zi_rd hIm19 zq_157 (zb_88 _)
                have e22 : (m19 157 a2) = (mh 157 a2) := (Eq.trans (zs_ne hmm19 (Or.inl (zc_ne zq_157 zq_156 (by decide)))) (zfr_ap hfm14 zq_157 rfl))
                have w23 := zu_w32_id (z := (m19 157 a2) - 1) (by omega) (by omega)
                have b24 : 0 ≤ a2 ∧ a2 < 48 := by omega
                refine zw_if b24 ?_
                generalize hmm25 : zu_up m19 157 a2 (zu_w32 ((m19 157 a2) - 1)) = m25
                have hIm25 := zi_up hmm25 hIm19 zq_157 (zb_88 _) (by omega) (by omega)
                have hFm25 := zfr_up hmm25 hFm19 zq_157 rfl
                have hRK54m25 := zR_K54_fr (zdis_fr (zfr_up hmm25 (zfr_rf [(88, 0)] _) zq_157 rfl) rfl) hRK54m19
                have b26 : 0 ≤ a1 ∧ a1 < 4 := by omega
                refine zw_if b26 ?_
                have r27 : (-2147483648) ≤ (m25 158 a1) ∧ (m25 158 a1) ≤ 2147483647 := zi_rd hIm25 zq_158 (zb_89 _)
                have w28 := zu_w32_rg ((m25 158 a1) + 1)
                have b29 : 0 ≤ a1 ∧ a1 < 4 := by omega
                refine zw_if b29 ?_
                generalize hmm30 : zu_up m25 158 a1 (zu_w32 ((m25 158 a1) + 1)) = m30
                have hIm30 := zi_up hmm30 hIm25 zq_158 (zb_89 _) (by omega) (by omega)
                have hFm30 := zfr_up hmm30 hFm25 zq_158 rfl
                have hRK54m30 := zR_K54_fr (zdis_fr (zfr_up hmm30 (zfr_rf [(89, 0)] _) zq_158 rfl) rfl) hRK54m25
                have w31 := zu_w32_id (z := x4 + 1) (by omega) (by omega)
                have hM : (18 - (zu_w32 (x4 + 1))) * 1 + 0 < (k : Int) := by omega
                exact ih (zu_w32 (x4 + 1)) m30 hIm30 hFm30 ⟨by omega, by omega⟩ ⟨by omega, by omega⟩ ⟨by omega, by omega⟩ ⟨by omega, by omega⟩ hRK54m30 hM
set_option maxHeartbeats 4000000 in
theorem zk_290 (n : Nat) {a0 a1 a2 a3 : Int} {m0 : zu_m} (hIm0 : zi_I m0) (hc0 : zcls a0 = 24) (ha1 : 0 ≤ a1 ∧ a1 ≤ 3) (ha2 : 0 ≤ a2 ∧ a2 ≤ 47) (ha3 : 1 ≤ a3 ∧ a3 ≤ 18)    (hRK54m0 : zR_K54 m0) : zw (zu_call (zt_T n) 290 [(33, a0), (0, a1), (0, a2), (0, a3)] m0) (fun v m => zi_I m ∧ zfr [(56, 0), (59, 1), (59, 2), (59, 3), (59, 4), (59, 5), (59, 6), (59, 7), (87, 0), (88, 0), (89, 0), (90, 0), (91, 0)] m0 m ∧ zR_K54 m ∧ True) := by
  have hFm0 : zfr [(56, 0), (59, 1), (59, 2), (59, 3), (59, 4), (59, 5), (59, 6), (59, 7), (87, 0), (88, 0), (89, 0), (90, 0), (91, 0)] m0 m0 := zfr_rf _ _
  refine zw_eq (zu_call_at (zt_T n) (zm_290 n) (zdp_290 n) _ _ _ _ _ rfl (zr_290_0 n _ _ a0 a1 a2 a3 m0)) ?_
  have hM : (18 - 0) * 1 + 0 < ((19 : Nat) : Int) := by omega
  exact (zl_290 n (m0 := m0) hc0 19) 0 m0 hIm0 hFm0 ⟨by omega, by omega⟩ ⟨by omega, by omega⟩ ⟨by omega, by omega⟩ ⟨by omega, by omega⟩ hRK54m0 hM
set_option maxHeartbeats 4000000 in
theorem zl_33 (n : Nat) {a0 : Int} {m0 : zu_m} (hc0 : zcls a0 = 28)   : ∀ k : Nat, (∀ (x1 : Int) (mh : zu_m), zi_I mh → zfr [(28, 54), (28, 63), (28, 64), (28, 65), (28, 66), (28, 67), (28, 68), (28, 69), (28, 70), (28, 78), (28, 79), (28, 82), (28, 84), (122, 0), (123, 0), (124, 0), (125, 0), (126, 0), (127, 0), (128, 0), (129, 0), (130, 0), (131, 0)] m0 mh → (0 ≤ x1 ∧ x1 ≤ 4) → ((-1) ≤ mh a0 62 ∧ mh a0 62 ≤ 99999) → ((-1) ≤ mh a0 63 ∧ mh a0 63 ≤ 99999) → (zR_C0 mh) → (zR_KN mh) → (zR_LT mh) → (zE1 mh 0) → (zR_TE mh) → (4 - x1) * 1 + 49 < (k : Int) → zw (zu_ex (zt_T n) 33 32 [(40, a0), (0, x1)] [] mh) (fun v m => zi_I m ∧ zfr [(28, 54), (28, 63), (28, 64), (28, 65), (28, 66), (28, 67), (28, 68), (28, 69), (28, 70), (28, 78), (28, 79), (28, 82), (28, 84), (122, 0), (123, 0), (124, 0), (125, 0), (126, 0), (127, 0), (128, 0), (129, 0), (130, 0), (131, 0)] m0 m ∧ zR_C0 m ∧ zR_KN m ∧ zR_LT m ∧ zR_RI m ∧ zR_RU m ∧ zE1 m 0 ∧ zR_TE m ∧ True ∧ ((-1) ≤ m a0 62 ∧ m a0 62 ≤ 99999) ∧ ((-1) ≤ m a0 63 ∧ m a0 63 ≤ 99999) ∧ (0 ≤ m a0 77 ∧ m a0 77 ≤ 0) ∧ ((-1) ≤ m a0 78 ∧ m a0 78 ≤ (-1)) ∧ (0 ≤ m a0 81 ∧ m a0 81 ≤ 0) ∧ (0 ≤ m a0 83 ∧ m a0 83 ≤ 0))) ∧ (∀ (x1 : Int) (mh : zu_m), zi_I mh → zfr [(28, 54), (28, 63), (28, 64), (28, 65), (28, 66), (28, 67), (28, 68), (28, 69), (28, 70), (28, 78), (28, 79), (28, 82), (28, 84), (122, 0), (123, 0), (124, 0), (125, 0), (126, 0), (127, 0), (128, 0), (129, 0), (130, 0), (131, 0)] m0 mh → (0 ≤ x1 ∧ x1 ≤ 48) → ((-1) ≤ mh a0 62 ∧ mh a0 62 ≤ 99999) → ((-1) ≤ mh a0 63 ∧ mh a0 63 ≤ 99999) → (zR_C0 mh) → (zR_KN mh) → (zR_LT mh) → (zE1 mh 0) → (zR_TE mh) → (48 - x1) * 1 + 0 < (k : Int) → zw (zu_ex (zt_T n) 33 52 [(40, a0), (0, x1)] [] mh) (fun v m => zi_I m ∧ zfr [(28, 54), (28, 63), (28, 64), (28, 65), (28, 66), (28, 67), (28, 68), (28, 69), (28, 70), (28, 78), (28, 79), (28, 82), (28, 84), (122, 0), (123, 0), (124, 0), (125, 0), (126, 0), (127, 0), (128, 0), (129, 0), (130, 0), (131, 0)] m0 m ∧ zR_C0 m ∧ zR_KN m ∧ zR_LT m ∧ zR_RI m ∧ zR_RU m ∧ zE1 m 0 ∧ zR_TE m ∧ True ∧ ((-1) ≤ m a0 62 ∧ m a0 62 ≤ 99999) ∧ ((-1) ≤ m a0 63 ∧ m a0 63 ≤ 99999) ∧ (0 ≤ m a0 77 ∧ m a0 77 ≤ 0) ∧ ((-1) ≤ m a0 78 ∧ m a0 78 ≤ (-1)) ∧ (0 ≤ m a0 81 ∧ m a0 81 ≤ 0) ∧ (0 ≤ m a0 83 ∧ m a0 83 ≤ 0))) := by
  intro k
  induction k with
  | zero => exact ⟨fun x1 mh hImh hFmh hbx1 hg1 hg2 hRC0mh hRKNmh hRLTmh hRSEmh hRTEmh hM => by exfalso; omega, fun x1 mh hImh hFmh hbx1 hg1 hg2 hRC0mh hRKNmh hRLTmh hRSEmh hRTEmh hM => by exfalso; omega⟩
  | succ k ih =>
    refine ⟨?_, ?_⟩
    · intro x1 mh hImh hFmh hbx1 hg1 hg2 hRC0mh hRKNmh hRLTmh hRSEmh hRTEmh hM
      refine zw_eq (zu_rega_at (zt_T n) (zm_33 n) (zdp_33 n) _ _ _ _ _ _ (zr_33_32 n _ _ a0 x1 mh)) ?_
      refine zw_ite (fun h1 => ?_) (fun h1 => ?_)
      · have hM : (48 - 0) * 1 + 0 < (k : Int) := by omega
        exact ih.2 0 mh hImh hFmh ⟨by omega, by omega⟩ ⟨by omega, by omega⟩ ⟨by omega, by omega⟩ hRC0mh hRKNmh hRLTmh hRSEmh hRTEmh hM
      · have b2 : 0 ≤ x1 ∧ x1 < 4 := by omega
        refine zw_if b2 ?_
        generalize hmm3 : zu_up mh 219 x1 0 = m3
        have hIm3 := zi_up hmm3 hImh zq_219 (zb_128 _) (by omega) (by omega)
        have hFm3 := zfr_up hmm3 hFmh zq_219 rfl
        have hRC0m3 := zR_C0_fr (zdis_fr (zfr_up hmm3 (zfr_rf [(128, 0)] _) zq_219 rfl) rfl) hRC0mh
        have hRKNm3 := zR_KN_fr (zdis_fr (zfr_up hmm3 (zfr_rf [(128, 0)] _) zq_219 rfl) rfl) hRKNmh
        have hRLTm3 := zR_LT_fr (zdis_fr (zfr_up hmm3 (zfr_rf [(128, 0)] _) zq_219 rfl) rfl) hRLTmh
        have hRSEm3 := zR_SE_fr (zdis_fr (zfr_up hmm3 (zfr_rf [(128, 0)] _) zq_219 rfl) rfl) hRSEmh
        have hRTEm3 := zR_TE_fr (zdis_fr (zfr_up hmm3 (zfr_rf [(128, 0)] _) zq_219 rfl) rfl) hRTEmh
        have w4 := zu_w32_id (z := x1 + 1) (by omega) (by omega)
        have r5 : (-2147483648) ≤ (m3 a0 62) ∧ (m3 a0 62) ≤ 2147483647 := zi_rd hIm3 hc0 zb_28_62
        have e6 : (m3 a0 62) = (mh a0 62) := (zs_ne hmm3 (Or.inl (zc_ne hc0 zq_219 (by decide))))
        have r7 : (-9223372036854775808) ≤ (m3 a0 63) ∧ (m3 a0 63) ≤ 9223372036854775807 := zi_rd hIm3 hc0 zb_28_63
        have e8 : (m3 a0 63) = (mh a0 63) := (zs_ne hmm3 (Or.inl (zc_ne hc0 zq_219 (by decide))))
        have hM : (4 - (zu_w32 (x1 + 1))) * 1 + 49 < (k : Int) := by omega
        exact ih.1 (zu_w32 (x1 + 1)) m3 hIm3 hFm3 ⟨by omega, by omega⟩ ⟨by omega, by omega⟩ ⟨by omega, by omega⟩ hRC0m3 hRKNm3 hRLTm3 hRSEm3 hRTEm3 hM
    · intro x1 mh hImh hFmh hbx1 hg1 hg2 hRC0mh hRKNmh hRLTmh hRSEmh hRTEmh hM
      refine zw_eq (zu_rega_at (zt_T n) (zm_33 n) (zdp_33 n) _ _ _ _ _ _ (zr_33_52 n _ _ a0 x1 mh)) ?_
      refine zw_ite (fun h9 => ?_) (fun h9 => ?_)
      · generalize hmm10 : zu_up mh a0 77 0 = m10
        have hIm10 := zi_up hmm10 hImh hc0 zb_28_77 (by omega) (by omega)
        have hFm10 := zfr_up hmm10 hFmh hc0 rfl
        have hRC0m10 := zR_C0_fr (zdis_fr (zfr_up hmm10 (zfr_rf [(28, 78)] _) hc0 rfl) rfl) hRC0mh
        have hRKNm10 := zR_KN_fr (zdis_fr (zfr_up hmm10 (zfr_rf [(28, 78)] _) hc0 rfl) rfl) hRKNmh
        have hRLTm10 := zR_LT_fr (zdis_fr (zfr_up hmm10 (zfr_rf [(28, 78)] _) hc0 rfl) rfl) hRLTmh
        have hRSEm10 := zR_SE_fr (zdis_fr (zfr_up hmm10 (zfr_rf [(28, 78)] _) hc0 rfl) rfl) hRSEmh
        have hRTEm10 := zR_TE_fr (zdis_fr (zfr_up hmm10 (zfr_rf [(28, 78)] _) hc0 rfl) rfl) hRTEmh
        generalize hmm11 : zu_up m10 a0 78 (-1) = m11
        have hIm11 := zi_up hmm11 hIm10 hc0 zb_28_78 (by omega) (by omega)
        have hFm11 := zfr_up hmm11 hFm10 hc0 rfl
        have hRC0m11 := zR_C0_fr (zdis_fr (zfr_up hmm11 (zfr_rf [(28, 79)] _) hc0 rfl) rfl) hRC0m10
        have hRKNm11 := zR_KN_fr (zdis_fr (zfr_up hmm11 (zfr_rf [(28, 79)] _) hc0 rfl) rfl) hRKNm10
        have hRLTm11 := zR_LT_fr (zdis_fr (zfr_up hmm11 (zfr_rf [(28, 79)] _) hc0 rfl) rfl) hRLTm10
        have hRSEm11 := zR_SE_fr (zdis_fr (zfr_up hmm11 (zfr_rf [(28, 79)] _) hc0 rfl) rfl) hRSEm10
        have hRTEm11 := zR_TE_fr (zdis_fr (zfr_up hmm11 (zfr_rf [(28, 79)] _) hc0 rfl) rfl) hRTEm10
        generalize hmm12 : zu_up m11 a0 81 0 = m12
        have hIm12 := zi_up hmm12 hIm11 hc0 zb_28_81 (by omega) (by omega)
        have hFm12 := zfr_up hmm12 hFm11 hc0 rfl
        have hRC0m12 := zR_C0_fr (zdis_fr (zfr_up hmm12 (zfr_rf [(28, 82)] _) hc0 rfl) rfl) hRC0m11
        have hRKNm12 := zR_KN_fr (zdis_fr (zfr_up hmm12 (zfr_rf [(28, 82)] _) hc0 rfl) rfl) hRKNm11
        have hRLTm12 := zR_LT_fr (zdis_fr (zfr_up hmm12 (zfr_rf [(28, 82)] _) hc0 rfl) rfl) hRLTm11
        have hRSEm12 := zR_SE_fr (zdis_fr (zfr_up hmm12 (zfr_rf [(28, 82)] _) hc0 rfl) rfl) hRSEm11
        have hRTEm12 := zR_TE_fr (zdis_fr (zfr_up hmm12 (zfr_rf [(28, 82)] _) hc0 rfl) rfl) hRTEm11
        have hRRUm12 := zRU_zero (m := m12) (zone_190 hc0) (by rw [zs_eq hmm12]; decide)
        refine zw_b (by omega) ?_
        generalize hmm13 : zu_up m12 a0 83 0 = m13
        have hIm13 := zi_up hmm13 hIm12 hc0 zb_28_83 (by omega) (by omega)
        have hFm13 := zfr_up hmm13 hFm12 hc0 rfl
        have hRC0m13 := zR_C0_fr (zdis_fr (zfr_up hmm13 (zfr_rf [(28, 84)] _) hc0 rfl) rfl) hRC0m12
        have hRKNm13 := zR_KN_fr (zdis_fr (zfr_up hmm13 (zfr_rf [(28, 84)] _) hc0 rfl) rfl) hRKNm12
        have hRLTm13 := zR_LT_fr (zdis_fr (zfr_up hmm13 (zfr_rf [(28, 84)] _) hc0 rfl) rfl) hRLTm12
        have hRRUm13 := zR_RU_fr (zdis_fr (zfr_up hmm13 (zfr_rf [(28, 84)] _) hc0 rfl) rfl) hRRUm12
        have hRSEm13 := zR_SE_fr (zdis_fr (zfr_up hmm13 (zfr_rf [(28, 84)] _) hc0 rfl) rfl) hRSEm12
        have hRTEm13 := zR_TE_fr (zdis_fr (zfr_up hmm13 (zfr_rf [(28, 84)] _) hc0 rfl) rfl) hRTEm12
        have hRRIm13 := zRI_zero (m := m13) (zone_190 hc0) (zs_eq hmm13)
        have r14 : (-2147483648) ≤ (m13 a0 62) ∧ (m13 a0 62) ≤ 2147483647 := zi_rd hIm13 hc0 zb_28_62
        have e15 : (m13 a0 62) = (mh a0 62) := (Eq.trans (zs_ne hmm13 (Or.inr (by decide))) (Eq.trans (zs_ne hmm12 (Or.inr (by decide))) (Eq.trans (zs_ne hmm11 (Or.inr (by decide))) (zs_ne hmm10 (Or.inr (by decide))))))
        have r16 : (-9223372036854775808) ≤ (m13 a0 63) ∧ (m13 a0 63) ≤ 9223372036854775807 := zi_rd hIm13 hc0 zb_28_63
        have e17 : (m13 a0 63) = (mh a0 63) := (Eq.trans (zs_ne hmm13 (Or.inr (by decide))) (Eq.trans (zs_ne hmm12 (Or.inr (by decide))) (Eq.trans (zs_ne hmm11 (Or.inr (by decide))) (zs_ne hmm10 (Or.inr (by decide))))))
        have r18 : 0 ≤ (m13 a0 77) ∧ (m13 a0 77) ≤ 24 := zi_rd hIm13 hc0 zb_28_77
        have e19 : (m13 a0 77) = 0 := (Eq.trans (zs_ne hmm13 (Or.inr (by decide))) (Eq.trans (zs_ne hmm12 (Or.inr (by decide))) (Eq.trans (zs_ne hmm11 (Or.inr (by decide))) (zs_eq hmm10))))
        have r20 : (-1) ≤ (m13 a0 78) ∧ (m13 a0 78) ≤ 24 := zi_rd hIm13 hc0 zb_28_78
        have e21 : (m13 a0 78) = (-1) := (Eq.trans (zs_ne hmm13 (Or.inr (by decide))) (Eq.trans (zs_ne hmm12 (Or.inr (by decide))) (zs_eq hmm11)))
        have r22 : 0 ≤ (m13 a0 81) ∧ (m13 a0 81) ≤ 20 := zi_rd hIm13 hc0 zb_28_81
        have e23 : (m13 a0 81) = 0 := (Eq.trans (zs_ne hmm13 (Or.inr (by decide))) (zs_eq hmm12))
        have r24 : 0 ≤ (m13 a0 83) ∧ (m13 a0 83) ≤ 1 := zi_rd hIm13 hc0 zb_28_83
        have e25 : (m13 a0 83) = 0 := (zs_eq hmm13)
        exact zw_some ⟨hIm13, hFm13, hRC0m13, hRKNm13, hRLTm13, hRRIm13, hRRUm13, hRSEm13, hRTEm13, trivial, ⟨by omega, by omega⟩, ⟨by omega, by omega⟩, ⟨by omega, by omega⟩, ⟨by omega, by omega⟩, ⟨by omega, by omega⟩, ⟨by omega, by omega⟩⟩
      · refine zw_bd (zw_eq (zu_call_at (zt_T n) (zm_36 n) (zdp_36 n) _ _ _ _ _ rfl (zr_36_0 n _ _ a0 mh)) ?_)
        have r26 : 1 ≤ (mh a0 12) ∧ (mh a0 12) ≤ 8 := zi_rd hImh hc0 zb_28_12
        have r27 : 1 ≤ (mh a0 13) ∧ (mh a0 13) ≤ 6 := zi_rd hImh hc0 zb_28_13
        have p28 := zmul_bd (x := (mh a0 12)) (y := (mh a0 13)) (a := 1) (b := 1) (A := 8) (B := 6) (by omega) (by omega) (by omega) (by omega) (by omega) (by omega)
        have w29 := zu_w32_id (z := (mh a0 12) * (mh a0 13)) (by omega) (by omega)
        refine zw_some ?_
        refine zw_ite (fun h30 => ?_) (fun h30 => ?_)
        · have b31 : 0 ≤ x1 ∧ x1 < 48 := by omega
          refine zw_if b31 ?_
          generalize hmm32 : zu_up mh 222 x1 0 = m32
          have hIm32 := zi_up hmm32 hImh zq_222 (zb_131 _) (by omega) (by omega)
          have hFm32 := zfr_up hmm32 hFmh zq_222 rfl
          have hRC0m32 := zR_C0_fr (zdis_fr (zfr_up hmm32 (zfr_rf [(131, 0)] _) zq_222 rfl) rfl) hRC0mh
          have hRKNm32 := zR_KN_fr (zdis_fr (zfr_up hmm32 (zfr_rf [(131, 0)] _) zq_222 rfl) rfl) hRKNmh
          have hRLTm32 := zR_LT_fr (zdis_fr (zfr_up hmm32 (zfr_rf [(131, 0)] _) zq_222 rfl) rfl) hRLTmh
          have hRSEm32 := zR_SE_fr (zdis_fr (zfr_up hmm32 (zfr_rf [(131, 0)] _) zq_222 rfl) rfl) hRSEmh
          have hRTEm32 := zR_TE_fr (zdis_fr (zfr_up hmm32 (zfr_rf [(131, 0)] _) zq_222 rfl) rfl) hRTEmh
          have w33 := zu_w32_id (z := x1 + 1) (by omega) (by omega)
          have r34 : (-2147483648) ≤ (m32 a0 62) ∧ (m32 a0 62) ≤ 2147483647 := zi_rd hIm32 hc0 zb_28_62
          have e35 : (m32 a0 62) = (mh a0 62) := (zs_ne hmm32 (Or.inl (zc_ne hc0 zq_222 (by decide))))
          have r36 : (-9223372036854775808) ≤ (m32 a0 63) ∧ (m32 a0 63) ≤ 9223372036854775807 := zi_rd hIm32 hc0 zb_28_63
          have e37 : (m32 a0 63) = (mh a0 63) := (zs_ne hmm32 (Or.inl (zc_ne hc0 zq_222 (by decide))))
          have hM : (48 - (zu_w32 (x1 + 1))) * 1 + 0 < (k : Int) := by omega
          exact ih.2 (zu_w32 (x1 + 1)) m32 hIm32 hFm32 ⟨by omega, by omega⟩ ⟨by omega, by omega⟩ ⟨by omega, by omega⟩ hRC0m32 hRKNm32 hRLTm32 hRSEm32 hRTEm32 hM
        · refine zw_bd (zw_mono (zk_37 n hImh hc0 ⟨by omega, by omega⟩ hRKNmh hRLTmh) (fun v39 m38 hqm38 => ?_))
          obtain ⟨hIm38, hfm38, hvm38⟩ := hqm38
          have hFm38 := zfr_tr hFmh hfm38 rfl
          obtain ⟨hRKNm38, hRLTm38, hvm38⟩ := hvm38
          have hRC0m38 := zR_C0_fr (zdis_fr hfm38 rfl) hRC0mh
          have hRSEm38 := zR_SE_fr (zdis_fr hfm38 rfl) hRSEmh
          have hRTEm38 := zR_TE_fr (zdis_fr hfm38 rfl) hRTEmh
          have w40 := zu_w32_rg (1000 * v39)
          have b41 : 0 ≤ x1 ∧ x1 < 48 := by omega
          refine zw_if b41 ?_
          generalize hmm42 : zu_up m38 222 x1 (zu_w32 (1000 * v39)) = m42
          have hIm42 := zi_up hmm42 hIm38 zq_222 (zb_131 _) (by omega) (by omega)
          have hFm42 := zfr_up hmm42 hFm38 zq_222 rfl
          have hRC0m42 := zR_C0_fr (zdis_fr (zfr_up hmm42 (zfr_rf [(131, 0)] _) zq_222 rfl) rfl) hRC0m38
          have hRKNm42 := zR_KN_fr (zdis_fr (zfr_up hmm42 (zfr_rf [(131, 0)] _) zq_222 rfl) rfl) hRKNm38
          have hRLTm42 := zR_LT_fr (zdis_fr (zfr_up hmm42 (zfr_rf [(131, 0)] _) zq_222 rfl) rfl) hRLTm38
          have hRSEm42 := zR_SE_fr (zdis_fr (zfr_up hmm42 (zfr_rf [(131, 0)] _) zq_222 rfl) rfl) hRSEm38
          have hRTEm42 := zR_TE_fr (zdis_fr (zfr_up hmm42 (zfr_rf [(131, 0)] _) zq_222 rfl) rfl) hRTEm38
          have w43 := zu_w32_id (z := x1 + 1) (by omega) (by omega)
          have r44 : (-2147483648) ≤ (m42 a0 62) ∧ (m42 a0 62) ≤ 2147483647 := zi_rd hIm42 hc0 zb_28_62
          have e45 : (m42 a0 62) = (mh a0 62) := (Eq.trans (zs_ne hmm42 (Or.inl (zc_ne hc0 zq_222 (by decide)))) (zfr_ap hfm38 hc0 rfl))
          have r46 : (-9223372036854775808) ≤ (m42 a0 63) ∧ (m42 a0 63) ≤ 9223372036854775807 := zi_rd hIm42 hc0 zb_28_63
          have e47 : (m42 a0 63) = (mh a0 63) := (Eq.trans (zs_ne hmm42 (Or.inl (zc_ne hc0 zq_222 (by decide)))) (zfr_ap hfm38 hc0 rfl))
          have hM : (48 - (zu_w32 (x1 + 1))) * 1 + 0 < (k : Int) := by omega
          exact ih.2 (zu_w32 (x1 + 1)) m42 hIm42 hFm42 ⟨by omega, by omega⟩ ⟨by omega, by omega⟩ ⟨by omega, by omega⟩ hRC0m42 hRKNm42 hRLTm42 hRSEm42 hRTEm42 hM
set_option maxHeartbeats 4000000 in
theorem zk_33 (n : Nat) {a0 : Int} {m0 : zu_m} (hIm0 : zi_I m0) (hc0 : zcls a0 = 28)     (hRC0m0 : zR_C0 m0) (hRKNm0 : zR_KN m0) (hRLTm0 : zR_LT m0) : zw (zu_call (zt_T n) 33 [(40, a0)] m0) (fun v m => zi_I m ∧ zfr [(28, 54), (28, 63), (28, 64), (28, 65), (28, 66), (28, 67), (28, 68), (28, 69), (28, 70), (28, 78), (28, 79), (28, 82), (28, 84), (122, 0), (123, 0), (124, 0), (125, 0), (126, 0), (127, 0), (128, 0), (129, 0), (130, 0), (131, 0)] m0 m ∧ zR_C0 m ∧ zR_KN m ∧ zR_LT m ∧ zR_RI m ∧ zR_RU m ∧ zE1 m 0 ∧ zR_TE m ∧ True ∧ ((-1) ≤ m a0 62 ∧ m a0 62 ≤ 99999) ∧ ((-1) ≤ m a0 63 ∧ m a0 63 ≤ 99999) ∧ (0 ≤ m a0 77 ∧ m a0 77 ≤ 0) ∧ ((-1) ≤ m a0 78 ∧ m a0 78 ≤ (-1)) ∧ (0 ≤ m a0 81 ∧ m a0 81 ≤ 0) ∧ (0 ≤ m a0 83 ∧ m a0 83 ≤ 0)) := by
  have hFm0 : zfr [(28, 54), (28, 63), (28, 64), (28, 65), (28, 66), (28, 67), (28, 68), (28, 69), (28, 70), (28, 78), (28, 79), (28, 82), (28, 84), (122, 0), (123, 0), (124, 0), (125, 0), (126, 0), (127, 0), (128, 0), (129, 0), (130, 0), (131, 0)] m0 m0 := zfr_rf _ _
  refine zw_eq (zu_call_at (zt_T n) (zm_33 n) (zdp_33 n) _ _ _ _ _ rfl (zr_33_0 n _ _ a0 m0)) ?_
  refine zw_bd (zw_mono (zk_34 n hIm0 hc0 ⟨by omega, by omega⟩ hRC0m0) (fun v49 m48 hqm48 => ?_))
  obtain ⟨hIm48, hfm48, hvm48⟩ := hqm48
  have hFm48 := zfr_tr hFm0 hfm48 rfl
  obtain ⟨hRC0m48, hRSEm48, hvm48⟩ := hvm48
  have hRKNm48 := zR_KN_fr (zdis_fr hfm48 rfl) hRKNm0
  have hRLTm48 := zR_LT_fr (zdis_fr hfm48 rfl) hRLTm0
  have hRTEm48 := zTE_of (zone_190 hc0) ((hvm48.2.2) (Or.inr rfl))
  have b50 : 0 ≤ (0 : Int) ∧ (0 : Int) < 10 := by omega
  refine zw_if b50 ?_
  have r51 : (-1) ≤ (m48 194 0) ∧ (m48 194 0) ≤ 99999 := zi_rd hIm48 zq_194 (zb_103 _)
  generalize hmm52 : zu_up m48 a0 62 (m48 194 0) = m52
  have hIm52 := zi_up hmm52 hIm48 hc0 zb_28_62 (by omega) (by omega)
  have hFm52 := zfr_up hmm52 hFm48 hc0 rfl
  have hRC0m52 := zR_C0_fr (zdis_fr (zfr_up hmm52 (zfr_rf [(28, 63)] _) hc0 rfl) rfl) hRC0m48
  have hRKNm52 := zR_KN_fr (zdis_fr (zfr_up hmm52 (zfr_rf [(28, 63)] _) hc0 rfl) rfl) hRKNm48
  have hRLTm52 := zR_LT_fr (zdis_fr (zfr_up hmm52 (zfr_rf [(28, 63)] _) hc0 rfl) rfl) hRLTm48
  have hRSEm52 := zR_SE_fr (zdis_fr (zfr_up hmm52 (zfr_rf [(28, 63)] _) hc0 rfl) rfl) hRSEm48
  have hRTEm52 := zR_TE_fr (zdis_fr (zfr_up hmm52 (zfr_rf [(28, 63)] _) hc0 rfl) rfl) hRTEm48
  have b53 : 0 ≤ (4 : Int) ∧ (4 : Int) < 10 := by omega
  refine zw_if b53 ?_
  have r54 : (-1) ≤ (m52 194 4) ∧ (m52 194 4) ≤ 99999 := zi_rd hIm52 zq_194 (zb_103 _)
  generalize hmm55 : zu_up m52 a0 63 (m52 194 4) = m55
  have hIm55 := zi_up hmm55 hIm52 hc0 zb_28_63 (by omega) (by omega)
  have hFm55 := zfr_up hmm55 hFm52 hc0 rfl
  have hRC0m55 := zR_C0_fr (zdis_fr (zfr_up hmm55 (zfr_rf [(28, 64)] _) hc0 rfl) rfl) hRC0m52
  have hRKNm55 := zR_KN_fr (zdis_fr (zfr_up hmm55 (zfr_rf [(28, 64)] _) hc0 rfl) rfl) hRKNm52
  have hRLTm55 := zR_LT_fr (zdis_fr (zfr_up hmm55 (zfr_rf [(28, 64)] _) hc0 rfl) rfl) hRLTm52
  have hRSEm55 := zR_SE_fr (zdis_fr (zfr_up hmm55 (zfr_rf [(28, 64)] _) hc0 rfl) rfl) hRSEm52
  have hRTEm55 := zR_TE_fr (zdis_fr (zfr_up hmm55 (zfr_rf [(28, 64)] _) hc0 rfl) rfl) hRTEm52
  refine zw_bd (zw_mono (zk_35 n hIm55 hc0) (fun v57 m56 hqm56 => ?_))
  obtain ⟨hIm56, hfm56, hvm56⟩ := hqm56
  have hFm56 := zfr_tr hFm55 hfm56 rfl
  have hRC0m56 := zR_C0_fr (zdis_fr hfm56 rfl) hRC0m55
  have hRKNm56 := zR_KN_fr (zdis_fr hfm56 rfl) hRKNm55
  have hRLTm56 := zR_LT_fr (zdis_fr hfm56 rfl) hRLTm55
  have hRSEm56 := zR_SE_fr (zdis_fr hfm56 rfl) hRSEm55
  have hRTEm56 := zR_TE_fr (zdis_fr hfm56 rfl) hRTEm55
  have r58 : (-2147483648) ≤ (m56 a0 62) ∧ (m56 a0 62) ≤ 2147483647 := zi_rd hIm56 hc0 zb_28_62
  have e59 : (m56 a0 62) = (m48 194 0) := (Eq.trans (zfr_ap hfm56 hc0 rfl) (Eq.trans (zs_ne hmm55 (Or.inr (by decide))) (zs_eq hmm52)))
  have r60 : (-9223372036854775808) ≤ (m56 a0 63) ∧ (m56 a0 63) ≤ 9223372036854775807 := zi_rd hIm56 hc0 zb_28_63
  have e61 : (m56 a0 63) = (m52 194 4) := (Eq.trans (zfr_ap hfm56 hc0 rfl) (zs_eq hmm55))
  have hM : (4 - 0) * 1 + 49 < ((54 : Nat) : Int) := by omega
  exact (zl_33 n (m0 := m0) hc0 54).1 0 m56 hIm56 hFm56 ⟨by omega, by omega⟩ ⟨by omega, by omega⟩ ⟨by omega, by omega⟩ hRC0m56 hRKNm56 hRLTm56 hRSEm56 hRTEm56 hM
set_option maxHeartbeats 4000000 in
theorem zk_47 (n : Nat) {a0 a1 a2 : Int} {m0 : zu_m} (hIm0 : zi_I m0) (hc0 : zcls a0 = 2) (ha1 : (-2147483648) ≤ a1 ∧ a1 ≤ 2147483647) (ha2 : (-2147483648) ≤ a2 ∧ a2 ≤ 2147483647)    (hRK54m0 : zR_K54 m0) : zw (zu_call (zt_T n) 47 [(5, a0), (0, a1), (0, a2)] m0) (fun v m => zi_I m ∧ zfr [(56, 0), (59, 1), (59, 2), (59, 3), (59, 4), (59, 5), (59, 6), (59, 7)] m0 m ∧ zR_K54 m ∧ ((-2147483648) ≤ v ∧ v ≤ 2147483647)) := by
  have hFm0 : zfr [(56, 0), (59, 1), (59, 2), (59, 3), (59, 4), (59, 5), (59, 6), (59, 7)] m0 m0 := zfr_rf _ _
  refine zw_eq (zu_call_at (zt_T n) (zm_47 n) (zdp_47 n) _ _ _ _ _ rfl (zr_47_0 n _ _ a0 a1 a2 m0)) ?_
  refine zw_bd (zw_eq (zu_call_at (zt_T n) (zm_211 n) (zdp_211 n) _ _ _ _ _ rfl (zr_211_0 n _ _ 89 a1 m0)) ?_)
  refine zw_ite (fun h1 => ?_) (fun h1 => ?_)
  · refine zw_b (by omega) ?_
    refine zw_some ?_
    refine zw_ite (fun h2 => ?_) (fun h2 => ?_)
    · exfalso; omega
    · exact zw_some ⟨hIm0, hFm0, hRK54m0, ⟨by omega, by omega⟩⟩
  · have r3 : 0 ≤ (m0 89 4) ∧ (m0 89 4) ≤ 4 := zi_rd hIm0 zq_89 zb_16_4
    refine zw_ite (fun h4 => ?_) (fun h4 => ?_)
    · refine zw_b (by omega) ?_
      refine zw_some ?_
      refine zw_ite (fun h5 => ?_) (fun h5 => ?_)
      · exfalso; omega
      · exact zw_some ⟨hIm0, hFm0, hRK54m0, ⟨by omega, by omega⟩⟩
    · refine zw_b (by omega) ?_
      refine zw_some ?_
      refine zw_ite (fun h6 => ?_) (fun h6 => ?_)
      · have b7 : 0 ≤ a1 ∧ a1 < 4 := by omega
        refine zw_if b7 ?_
        refine zw_ite (fun h8 => ?_) (fun h8 => ?_)
        · have r9 : 0 ≤ (m0 ((89 + 2) + 20 + a1) 1) ∧ (m0 ((89 + 2) + 20 + a1) 1) ≤ 47 := zi_rd hIm0 (zc_66_e (zc_16_3 zq_89) b7) zb_18_1
          exact zw_some ⟨hIm0, hFm0, hRK54m0, ⟨by omega, by omega⟩⟩
        · refine zw_ite (fun h10 => ?_) (fun h10 => ?_)
          · have r11 : (-2147483648) ≤ (m0 ((89 + 2) + 20 + a1) 6) ∧ (m0 ((89 + 2) + 20 + a1) 6) ≤ 2147483647 := zi_rd hIm0 (zc_66_e (zc_16_3 zq_89) b7) zb_18_6
            exact zw_some ⟨hIm0, hFm0, hRK54m0, ⟨by omega, by omega⟩⟩
          · refine zw_ite (fun h12 => ?_) (fun h12 => ?_)
            · refine zw_bd (zw_mono (zk_236 n hIm0 zq_89 ⟨by omega, by omega⟩) (fun v14 m13 hqm13 => ?_))
              obtain ⟨hIm13, hfm13, hvm13⟩ := hqm13
              have hFm13 := zfr_tr hFm0 hfm13 rfl
              have hRK54m13 := zR_K54_fr (zdis_fr hfm13 rfl) hRK54m0
              exact zw_some ⟨hIm13, hFm13, hRK54m13, ⟨by omega, by omega⟩⟩
            · refine zw_ite (fun h15 => ?_) (fun h15 => ?_)
              · have r16 : (-2147483648) ≤ (m0 ((89 + 2) + 20 + a1) 5) ∧ (m0 ((89 + 2) + 20 + a1) 5) ≤ 2147483647 := zi_rd hIm0 (zc_66_e (zc_16_3 zq_89) b7) zb_18_5
                exact zw_some ⟨hIm0, hFm0, hRK54m0, ⟨by omega, by omega⟩⟩
              · refine zw_ite (fun h17 => ?_) (fun h17 => ?_)
                · refine zw_bd (zw_mono (zk_237 n hIm0 zq_89 ⟨by omega, by omega⟩ hRK54m0) (fun v19 m18 hqm18 => ?_))
                  obtain ⟨hIm18, hfm18, hvm18⟩ := hqm18
                  have hFm18 := zfr_tr hFm0 hfm18 rfl
                  obtain ⟨hRK54m18, hvm18⟩ := hvm18
                  exact zw_some ⟨hIm18, hFm18, hRK54m18, ⟨by omega, by omega⟩⟩
                · exact zw_some ⟨hIm0, hFm0, hRK54m0, ⟨by omega, by omega⟩⟩
      · exfalso; omega
set_option maxHeartbeats 4000000 in
theorem zk_57 (n : Nat) {a0 a1 : Int} {m0 : zu_m} (hIm0 : zi_I m0) (hc0 : zcls a0 = 2) (ha1 : (-2147483648) ≤ a1 ∧ a1 ≤ 2147483647)    (hRE89m0 : zE m0 89 50) (hRG5m0 : zgeo m0 50) (hRK54m0 : zR_K54 m0) (hRUNm0 : zR_UN m0) (hRUWm0 : zR_UW m0) : zw (zu_call (zt_T n) 57 [(5, a0), (0, a1)] m0) (fun v m => zi_I m ∧ zfr [(16, 9), (16, 10), (17, 4), (18, 2), (18, 6), (18, 7), (18, 8), (23, 5), (56, 0), (59, 1), (59, 2), (59, 3), (59, 4), (59, 5), (59, 6), (59, 7), (67, 0), (68, 0)] m0 m ∧ zE m 89 50 ∧ zgeo m 50 ∧ zR_K54 m ∧ zR_UN m ∧ zR_UW m ∧ ((-1) ≤ v ∧ v ≤ 9999)) := by
  have hFm0 : zfr [(16, 9), (16, 10), (17, 4), (18, 2), (18, 6), (18, 7), (18, 8), (23, 5), (56, 0), (59, 1), (59, 2), (59, 3), (59, 4), (59, 5), (59, 6), (59, 7), (67, 0), (68, 0)] m0 m0 := zfr_rf _ _
  refine zw_eq (zu_call_at (zt_T n) (zm_57 n) (zdp_57 n) _ _ _ _ _ rfl (zr_57_0 n _ _ a0 a1 m0)) ?_
  refine zw_ite (fun h1 => ?_) (fun h1 => ?_)
  · exact zw_some ⟨hIm0, hFm0, hRE89m0, hRG5m0, hRK54m0, hRUNm0, hRUWm0, ⟨by omega, by omega⟩⟩
  · refine zw_ite (fun h2 => ?_) (fun h2 => ?_)
    · exact zw_some ⟨hIm0, hFm0, hRE89m0, hRG5m0, hRK54m0, hRUNm0, hRUWm0, ⟨by omega, by omega⟩⟩
    · have r3 : 0 ≤ (m0 89 8) ∧ (m0 89 8) ≤ 9999 := zi_rd hIm0 zq_89 zb_16_8
      have w4 := zu_w32_id (z := (m0 89 8) + a1) (by omega) (by omega)
      refine zw_ite (fun h5 => ?_) (fun h5 => ?_)
      · refine zw_bd (zw_mono (zk_214_16 n hIm0 zq_89 ⟨by omega, by omega⟩ ⟨by omega, by omega⟩ (by omega) hRE89m0 hRG5m0 hRK54m0) (fun v7 m6 hqm6 => ?_))
        obtain ⟨hIm6, hfm6, hvm6⟩ := hqm6
        have hFm6 := zfr_tr hFm0 hfm6 rfl
        obtain ⟨hRE89m6, hRG5m6, hRK54m6, hvm6⟩ := hvm6
        have hRUNm6 := zR_UN_fr (zdis_fr hfm6 rfl) hRUNm0
        have hRUWm6 := zR_UW_fr (zdis_fr hfm6 rfl) hRUWm0
        refine zw_ite (fun h8 => ?_) (fun h8 => ?_)
        · have r9 : 0 ≤ (m6 89 8) ∧ (m6 89 8) ≤ 9999 := zi_rd hIm6 zq_89 zb_16_8
          exact zw_some ⟨hIm6, hFm6, hRE89m6, hRG5m6, hRK54m6, hRUNm6, hRUWm6, ⟨by omega, by omega⟩⟩
        · refine zw_bd (zw_mono (zk_28 n hIm6 zq_148) (fun v11 m10 hqm10 => ?_))
          obtain ⟨hIm10, hfm10, hvm10⟩ := hqm10
          have hFm10 := zfr_tr hFm6 hfm10 rfl
          obtain ⟨hRUNm10, hRUWm10, hvm10⟩ := hvm10
          have hRE89m10 := zR_E89_fr (zdis_fr hfm10 rfl) hRE89m6
          have hRG5m10 := zR_G5_fr (zdis_fr hfm10 rfl) hRG5m6
          have hRK54m10 := zR_K54_fr (zdis_fr hfm10 rfl) hRK54m6
          have r12 : 0 ≤ (m10 89 8) ∧ (m10 89 8) ≤ 9999 := zi_rd hIm10 zq_89 zb_16_8
          exact zw_some ⟨hIm10, hFm10, hRE89m10, hRG5m10, hRK54m10, hRUNm10, hRUWm10, ⟨by omega, by omega⟩⟩
      · exact zw_some ⟨hIm0, hFm0, hRE89m0, hRG5m0, hRK54m0, hRUNm0, hRUWm0, ⟨by omega, by omega⟩⟩
set_option maxHeartbeats 4000000 in
theorem zk_71 (n : Nat) {a0 a1 : Int} {m0 : zu_m} (hIm0 : zi_I m0) (hc0 : zcls a0 = 2) (ha1 : (-2147483648) ≤ a1 ∧ a1 ≤ 2147483647)    (hRK54m0 : zR_K54 m0) : zw (zu_call (zt_T n) 71 [(5, a0), (0, a1)] m0) (fun v m => zi_I m ∧ zfr [(56, 0), (59, 1), (59, 2), (59, 3), (59, 4), (59, 5), (59, 6), (59, 7), (69, 0)] m0 m ∧ zR_K54 m ∧ ((-8) ≤ v ∧ v ≤ 3)) := by
  have hFm0 : zfr [(56, 0), (59, 1), (59, 2), (59, 3), (59, 4), (59, 5), (59, 6), (59, 7), (69, 0)] m0 m0 := zfr_rf _ _
  refine zw_eq (zu_call_at (zt_T n) (zm_71 n) (zdp_71 n) _ _ _ _ _ rfl (zr_71_0 n _ _ a0 a1 m0)) ?_
  refine zw_bd (zw_eq (zu_call_at (zt_T n) (zm_210 n) (zdp_210 n) _ _ _ _ _ rfl (zr_210_0 n _ _ 89 a1 m0)) ?_)
  refine zw_ite (fun h1 => ?_) (fun h1 => ?_)
  · refine zw_b (by omega) ?_
    refine zw_some ?_
    refine zw_ite (fun h2 => ?_) (fun h2 => ?_)
    · exact zw_some ⟨hIm0, hFm0, hRK54m0, ⟨by omega, by omega⟩⟩
    · exfalso; omega
  · have r3 : 0 ≤ (m0 89 2) ∧ (m0 89 2) ≤ 16 := zi_rd hIm0 zq_89 zb_16_2
    refine zw_ite (fun h4 => ?_) (fun h4 => ?_)
    · refine zw_b (by omega) ?_
      refine zw_some ?_
      refine zw_ite (fun h5 => ?_) (fun h5 => ?_)
      · exact zw_some ⟨hIm0, hFm0, hRK54m0, ⟨by omega, by omega⟩⟩
      · exfalso; omega
    · refine zw_b (by omega) ?_
      refine zw_some ?_
      refine zw_ite (fun h6 => ?_) (fun h6 => ?_)
      · exfalso; omega
      · refine zw_bd (zw_mono (zk_243 n hIm0 zq_89 ⟨by omega, by omega⟩ ⟨by omega, by omega⟩ hRK54m0) (fun v8 m7 hqm7 => ?_))
        obtain ⟨hIm7, hfm7, hvm7⟩ := hqm7
        have hFm7 := zfr_tr hFm0 hfm7 rfl
        obtain ⟨hRK54m7, hvm7⟩ := hvm7
        exact zw_some ⟨hIm7, hFm7, hRK54m7, ⟨by omega, by omega⟩⟩
set_option maxHeartbeats 4000000 in
theorem zk_105 (n : Nat) {a0 : Int} {m0 : zu_m} (hIm0 : zi_I m0) (hc0 : zcls a0 = 28)   (he0 : 1 ≤ m0 a0 8 ∧ m0 a0 8 ≤ 6) (hxp0 : (m0 a0 21) = (m0 a0 48)) (hxp1 : (m0 a0 4) = 0) (hRC0m0 : zR_C0 m0) (hRCRm0 : zR_CR m0) (hRKNm0 : zR_KN m0) (hRLRm0 : zR_LR m0) (hRLTm0 : zR_LT m0) (hRNSm0 : zR_NS m0) (hRTRm0 : zR_TR m0) (hRWDm0 : zR_WD m0) : zw (zu_call (zt_T n) 105 [(40, a0)] m0) (fun v m => zi_I m ∧ zfr [(28, 5), (28, 6), (28, 8), (28, 9), (28, 10), (28, 11), (28, 12), (28, 18), (28, 19), (28, 20), (28, 21), (28, 22), (28, 23), (28, 24), (28, 43), (28, 46), (28, 47), (28, 48), (28, 49), (28, 50), (28, 51), (102, 0), (103, 0), (104, 0), (105, 0), (106, 0), (107, 0), (108, 0), (109, 0), (110, 0), (111, 0), (112, 0), (113, 0), (114, 0), (115, 0), (116, 0), (117, 0), (118, 0), (119, 0), (120, 0), (121, 0)] m0 m ∧ zR_C0 m ∧ zR_CR m ∧ zR_KN m ∧ zR_LR m ∧ zR_LT m ∧ zR_NS m ∧ zR_TR m ∧ zR_WD m ∧ (0 ≤ v ∧ v ≤ 1) ∧ (v = 1 → (m0 a0 7) < (m a0 7)) ∧ (v = 1 → (m a0 21) = (m a0 48)) ∧ (v = 1 → (m a0 4) = (m0 a0 4))) := by
  have hFm0 : zfr [(28, 5), (28, 6), (28, 8), (28, 9), (28, 10), (28, 11), (28, 12), (28, 18), (28, 19), (28, 20), (28, 21), (28, 22), (28, 23), (28, 24), (28, 43), (28, 46), (28, 47), (28, 48), (28, 49), (28, 50), (28, 51), (102, 0), (103, 0), (104, 0), (105, 0), (106, 0), (107, 0), (108, 0), (109, 0), (110, 0), (111, 0), (112, 0), (113, 0), (114, 0), (115, 0), (116, 0), (117, 0), (118, 0), (119, 0), (120, 0), (121, 0)] m0 m0 := zfr_rf _ _
  have r1 : 0 ≤ (m0 a0 21) ∧ (m0 a0 21) ≤ 64 := zi_rd hIm0 hc0 zb_28_21
  have r2 : 0 ≤ (m0 a0 48) ∧ (m0 a0 48) ≤ 64 := zi_rd hIm0 hc0 zb_28_48
  have r3 : (-2147483648) ≤ (m0 a0 4) ∧ (m0 a0 4) ≤ 2147483647 := zi_rd hIm0 hc0 zb_28_4
  have s4 := hRNSm0 a0 hc0
  have s5 := hRTRm0 a0 hc0
  refine zw_eq (zu_call_at (zt_T n) (zm_105 n) (zdp_105 n) _ _ _ _ _ rfl (zr_105_0 n _ _ a0 m0)) ?_
  refine zw_ite (fun h6 => ?_) (fun h6 => ?_)
  · refine zw_bd (zw_eq (zu_call_at (zt_T n) (zm_85 n) (zdp_85 n) _ _ _ _ _ rfl (zr_85_0 n _ _ a0 1 m0)) ?_)
    generalize hmm7 : zu_up m0 a0 4 1 = m7
    have hIm7 := zi_up hmm7 hIm0 hc0 zb_28_4 (by omega) (by omega)
    have hFm7 := zfr_up hmm7 hFm0 hc0 rfl
    have hRC0m7 := zR_C0_fr (zdis_fr (zfr_up hmm7 (zfr_rf [(28, 5)] _) hc0 rfl) rfl) hRC0m0
    have hRCRm7 := zR_CR_fr (zdis_fr (zfr_up hmm7 (zfr_rf [(28, 5)] _) hc0 rfl) rfl) hRCRm0
    have hRKNm7 := zR_KN_fr (zdis_fr (zfr_up hmm7 (zfr_rf [(28, 5)] _) hc0 rfl) rfl) hRKNm0
    have hRLTm7 := zR_LT_fr (zdis_fr (zfr_up hmm7 (zfr_rf [(28, 5)] _) hc0 rfl) rfl) hRLTm0
    have hRNSm7 := zR_NS_fr (zdis_fr (zfr_up hmm7 (zfr_rf [(28, 5)] _) hc0 rfl) rfl) hRNSm0
    have hRTRm7 := zR_TR_fr (zdis_fr (zfr_up hmm7 (zfr_rf [(28, 5)] _) hc0 rfl) rfl) hRTRm0
    have hRWDm7 := zR_WD_fr (zdis_fr (zfr_up hmm7 (zfr_rf [(28, 5)] _) hc0 rfl) rfl) hRWDm0
    have hRLRm7 := zLR_wr (zone_190 hc0) hmm7 (by decide)
    have r8 : 0 ≤ (m7 a0 10) ∧ (m7 a0 10) ≤ 700 := zi_rd hIm7 hc0 zb_28_10
    generalize hmm9 : zu_up m7 a0 5 (m7 a0 10) = m9
    have hIm9 := zi_up hmm9 hIm7 hc0 zb_28_5 (by omega) (by omega)
    have hFm9 := zfr_up hmm9 hFm7 hc0 rfl
    have hRC0m9 := zR_C0_fr (zdis_fr (zfr_up hmm9 (zfr_rf [(28, 6)] _) hc0 rfl) rfl) hRC0m7
    have hRCRm9 := zR_CR_fr (zdis_fr (zfr_up hmm9 (zfr_rf [(28, 6)] _) hc0 rfl) rfl) hRCRm7
    have hRKNm9 := zR_KN_fr (zdis_fr (zfr_up hmm9 (zfr_rf [(28, 6)] _) hc0 rfl) rfl) hRKNm7
    have hRLRm9 := zR_LR_fr (zdis_fr (zfr_up hmm9 (zfr_rf [(28, 6)] _) hc0 rfl) rfl) hRLRm7
    have hRLTm9 := zR_LT_fr (zdis_fr (zfr_up hmm9 (zfr_rf [(28, 6)] _) hc0 rfl) rfl) hRLTm7
    have hRNSm9 := zR_NS_fr (zdis_fr (zfr_up hmm9 (zfr_rf [(28, 6)] _) hc0 rfl) rfl) hRNSm7
    have hRTRm9 := zR_TR_fr (zdis_fr (zfr_up hmm9 (zfr_rf [(28, 6)] _) hc0 rfl) rfl) hRTRm7
    have hRWDm9 := zR_WD_fr (zdis_fr (zfr_up hmm9 (zfr_rf [(28, 6)] _) hc0 rfl) rfl) hRWDm7
    refine zw_b (by omega) ?_
    refine zw_some ?_
    refine zw_b (by omega) ?_
    have r10 : 0 ≤ (m9 a0 7) ∧ (m9 a0 7) ≤ 700 := zi_rd hIm9 hc0 zb_28_7
    have r11 : 0 ≤ (m9 a0 21) ∧ (m9 a0 21) ≤ 64 := zi_rd hIm9 hc0 zb_28_21
    have e12 : (m9 a0 21) = (m0 a0 21) := (Eq.trans (zs_ne hmm9 (Or.inr (by decide))) (zs_ne hmm7 (Or.inr (by decide))))
    have r13 : 0 ≤ (m9 a0 48) ∧ (m9 a0 48) ≤ 64 := zi_rd hIm9 hc0 zb_28_48
    have e14 : (m9 a0 48) = (m0 a0 48) := (Eq.trans (zs_ne hmm9 (Or.inr (by decide))) (zs_ne hmm7 (Or.inr (by decide))))
    have r15 : (-2147483648) ≤ (m9 a0 4) ∧ (m9 a0 4) ≤ 2147483647 := zi_rd hIm9 hc0 zb_28_4
    have e16 : (m9 a0 4) = 1 := (Eq.trans (zs_ne hmm9 (Or.inr (by decide))) (zs_eq hmm7))
    exact zw_some ⟨hIm9, hFm9, hRC0m9, hRCRm9, hRKNm9, hRLRm9, hRLTm9, hRNSm9, hRTRm9, hRWDm9, ⟨by omega, by omega⟩, by omega, by omega, by omega⟩
  · refine zw_ite (fun h17 => ?_) (fun h17 => ?_)
    · refine zw_ite (fun h18 => ?_) (fun h18 => ?_)
      · refine zw_ite (fun h19 => ?_) (fun h19 => ?_)
        · refine zw_ite (fun h20 => ?_) (fun h20 => ?_)
          · refine zw_ite (fun h21 => ?_) (fun h21 => ?_)
            · refine zw_ite (fun h22 => ?_) (fun h22 => ?_)
              · refine zw_bd (zw_mono (zk_104 n hIm0 hc0 ⟨by omega, by omega⟩ hRLRm0 hRNSm0 hRTRm0 hRWDm0) (fun v24 m23 hqm23 => ?_))
                obtain ⟨hIm23, hfm23, hvm23⟩ := hqm23
                have hFm23 := zfr_tr hFm0 hfm23 rfl
                obtain ⟨hRLRm23, hRNSm23, hRTRm23, hRWDm23, hvm23⟩ := hvm23
                have hRC0m23 := zR_C0_fr (zdis_fr hfm23 rfl) hRC0m0
                have hRCRm23 := zR_CR_fr (zdis_fr hfm23 rfl) hRCRm0
                have hRKNm23 := zR_KN_fr (zdis_fr hfm23 rfl) hRKNm0
                have hRLTm23 := zR_LT_fr (zdis_fr hfm23 rfl) hRLTm0
                have s25 := hRNSm23 a0 hc0
                have s26 := hRTRm23 a0 hc0
                refine zw_ite (fun h27 => ?_) (fun h27 => ?_)
                · refine zw_bd (zw_eq (zu_call_at (zt_T n) (zm_93 n) (zdp_93 n) _ _ _ _ _ rfl (zr_93_0 n _ _ a0 59 m23)) ?_)
                  have r28 : 0 ≤ (m23 a0 8) ∧ (m23 a0 8) ≤ 6 := zi_rd hIm23 hc0 zb_28_8
                  refine zw_ite (fun h29 => ?_) (fun h29 => ?_)
                  · refine zw_b (by omega) ?_
                    refine zw_some ?_
                    refine zw_ite (fun h30 => ?_) (fun h30 => ?_)
                    · exfalso; omega
                    · refine zw_bd (zw_eq (zu_call_at (zt_T n) (zm_85 n) (zdp_85 n) _ _ _ _ _ rfl (zr_85_0 n _ _ a0 1 m23)) ?_)
                      generalize hmm31 : zu_up m23 a0 4 1 = m31
                      have hIm31 := zi_up hmm31 hIm23 hc0 zb_28_4 (by omega) (by omega)
                      have hFm31 := zfr_up hmm31 hFm23 hc0 rfl
                      have hRC0m31 := zR_C0_fr (zdis_fr (zfr_up hmm31 (zfr_rf [(28, 5)] _) hc0 rfl) rfl) hRC0m23
                      have hRCRm31 := zR_CR_fr (zdis_fr (zfr_up hmm31 (zfr_rf [(28, 5)] _) hc0 rfl) rfl) hRCRm23
                      have hRKNm31 := zR_KN_fr (zdis_fr (zfr_up hmm31 (zfr_rf [(28, 5)] _) hc0 rfl) rfl) hRKNm23
                      have hRLTm31 := zR_LT_fr (zdis_fr (zfr_up hmm31 (zfr_rf [(28, 5)] _) hc0 rfl) rfl) hRLTm23
                      have hRNSm31 := zR_NS_fr (zdis_fr (zfr_up hmm31 (zfr_rf [(28, 5)] _) hc0 rfl) rfl) hRNSm23
                      have hRTRm31 := zR_TR_fr (zdis_fr (zfr_up hmm31 (zfr_rf [(28, 5)] _) hc0 rfl) rfl) hRTRm23
                      have hRWDm31 := zR_WD_fr (zdis_fr (zfr_up hmm31 (zfr_rf [(28, 5)] _) hc0 rfl) rfl) hRWDm23
                      have hRLRm31 := zLR_wr (zone_190 hc0) hmm31 (by decide)
                      have r32 : 0 ≤ (m31 a0 10) ∧ (m31 a0 10) ≤ 700 := zi_rd hIm31 hc0 zb_28_10
                      generalize hmm33 : zu_up m31 a0 5 (m31 a0 10) = m33
                      have hIm33 := zi_up hmm33 hIm31 hc0 zb_28_5 (by omega) (by omega)
                      have hFm33 := zfr_up hmm33 hFm31 hc0 rfl
                      have hRC0m33 := zR_C0_fr (zdis_fr (zfr_up hmm33 (zfr_rf [(28, 6)] _) hc0 rfl) rfl) hRC0m31
                      have hRCRm33 := zR_CR_fr (zdis_fr (zfr_up hmm33 (zfr_rf [(28, 6)] _) hc0 rfl) rfl) hRCRm31
                      have hRKNm33 := zR_KN_fr (zdis_fr (zfr_up hmm33 (zfr_rf [(28, 6)] _) hc0 rfl) rfl) hRKNm31
                      have hRLRm33 := zR_LR_fr (zdis_fr (zfr_up hmm33 (zfr_rf [(28, 6)] _) hc0 rfl) rfl) hRLRm31
                      have hRLTm33 := zR_LT_fr (zdis_fr (zfr_up hmm33 (zfr_rf [(28, 6)] _) hc0 rfl) rfl) hRLTm31
                      have hRNSm33 := zR_NS_fr (zdis_fr (zfr_up hmm33 (zfr_rf [(28, 6)] _) hc0 rfl) rfl) hRNSm31
                      have hRTRm33 := zR_TR_fr (zdis_fr (zfr_up hmm33 (zfr_rf [(28, 6)] _) hc0 rfl) rfl) hRTRm31
                      have hRWDm33 := zR_WD_fr (zdis_fr (zfr_up hmm33 (zfr_rf [(28, 6)] _) hc0 rfl) rfl) hRWDm31
                      refine zw_b (by omega) ?_
                      refine zw_some ?_
                      refine zw_b (by omega) ?_
                      have r34 : 0 ≤ (m33 a0 7) ∧ (m33 a0 7) ≤ 700 := zi_rd hIm33 hc0 zb_28_7
                      have r35 : 0 ≤ (m33 a0 21) ∧ (m33 a0 21) ≤ 64 := zi_rd hIm33 hc0 zb_28_21
                      have e36 : (m33 a0 21) = (m0 a0 21) := (Eq.trans (zs_ne hmm33 (Or.inr (by decide))) (Eq.trans (zs_ne hmm31 (Or.inr (by decide))) (zfr_ap hfm23 hc0 rfl)))
                      have r37 : 0 ≤ (m33 a0 48) ∧ (m33 a0 48) ≤ 64 := zi_rd hIm33 hc0 zb_28_48
                      have e38 : (m33 a0 48) = (m0 a0 48) := (Eq.trans (zs_ne hmm33 (Or.inr (by decide))) (Eq.trans (zs_ne hmm31 (Or.inr (by decide))) (zfr_ap hfm23 hc0 rfl)))
                      have r39 : (-2147483648) ≤ (m33 a0 4) ∧ (m33 a0 4) ≤ 2147483647 := zi_rd hIm33 hc0 zb_28_4
                      have e40 : (m33 a0 4) = 1 := (Eq.trans (zs_ne hmm33 (Or.inr (by decide))) (zs_eq hmm31))
                      exact zw_some ⟨hIm33, hFm33, hRC0m33, hRCRm33, hRKNm33, hRLRm33, hRLTm33, hRNSm33, hRTRm33, hRWDm33, ⟨by omega, by omega⟩, by omega, by omega, by omega⟩
                  · have r41 : (-2147483648) ≤ (m23 a0 9) ∧ (m23 a0 9) ≤ 2147483647 := zi_rd hIm23 hc0 zb_28_9
                    refine zw_ite (fun h42 => ?_) (fun h42 => ?_)
                    · refine zw_b (by omega) ?_
                      refine zw_some ?_
                      refine zw_ite (fun h43 => ?_) (fun h43 => ?_)
                      · exfalso; omega
                      · refine zw_bd (zw_eq (zu_call_at (zt_T n) (zm_85 n) (zdp_85 n) _ _ _ _ _ rfl (zr_85_0 n _ _ a0 1 m23)) ?_)
                        generalize hmm44 : zu_up m23 a0 4 1 = m44
                        have hIm44 := zi_up hmm44 hIm23 hc0 zb_28_4 (by omega) (by omega)
                        have hFm44 := zfr_up hmm44 hFm23 hc0 rfl
                        have hRC0m44 := zR_C0_fr (zdis_fr (zfr_up hmm44 (zfr_rf [(28, 5)] _) hc0 rfl) rfl) hRC0m23
                        have hRCRm44 := zR_CR_fr (zdis_fr (zfr_up hmm44 (zfr_rf [(28, 5)] _) hc0 rfl) rfl) hRCRm23
                        have hRKNm44 := zR_KN_fr (zdis_fr (zfr_up hmm44 (zfr_rf [(28, 5)] _) hc0 rfl) rfl) hRKNm23
                        have hRLTm44 := zR_LT_fr (zdis_fr (zfr_up hmm44 (zfr_rf [(28, 5)] _) hc0 rfl) rfl) hRLTm23
                        have hRNSm44 := zR_NS_fr (zdis_fr (zfr_up hmm44 (zfr_rf [(28, 5)] _) hc0 rfl) rfl) hRNSm23
                        have hRTRm44 := zR_TR_fr (zdis_fr (zfr_up hmm44 (zfr_rf [(28, 5)] _) hc0 rfl) rfl) hRTRm23
                        have hRWDm44 := zR_WD_fr (zdis_fr (zfr_up hmm44 (zfr_rf [(28, 5)] _) hc0 rfl) rfl) hRWDm23
                        have hRLRm44 := zLR_wr (zone_190 hc0) hmm44 (by decide)
                        have r45 : 0 ≤ (m44 a0 10) ∧ (m44 a0 10) ≤ 700 := zi_rd hIm44 hc0 zb_28_10
                        generalize hmm46 : zu_up m44 a0 5 (m44 a0 10) = m46
                        have hIm46 := zi_up hmm46 hIm44 hc0 zb_28_5 (by omega) (by omega)
                        have hFm46 := zfr_up hmm46 hFm44 hc0 rfl
                        have hRC0m46 := zR_C0_fr (zdis_fr (zfr_up hmm46 (zfr_rf [(28, 6)] _) hc0 rfl) rfl) hRC0m44
                        have hRCRm46 := zR_CR_fr (zdis_fr (zfr_up hmm46 (zfr_rf [(28, 6)] _) hc0 rfl) rfl) hRCRm44
                        have hRKNm46 := zR_KN_fr (zdis_fr (zfr_up hmm46 (zfr_rf [(28, 6)] _) hc0 rfl) rfl) hRKNm44
                        have hRLRm46 := zR_LR_fr (zdis_fr (zfr_up hmm46 (zfr_rf [(28, 6)] _) hc0 rfl) rfl) hRLRm44
                        have hRLTm46 := zR_LT_fr (zdis_fr (zfr_up hmm46 (zfr_rf [(28, 6)] _) hc0 rfl) rfl) hRLTm44
                        have hRNSm46 := zR_NS_fr (zdis_fr (zfr_up hmm46 (zfr_rf [(28, 6)] _) hc0 rfl) rfl) hRNSm44
                        have hRTRm46 := zR_TR_fr (zdis_fr (zfr_up hmm46 (zfr_rf [(28, 6)] _) hc0 rfl) rfl) hRTRm44
                        have hRWDm46 := zR_WD_fr (zdis_fr (zfr_up hmm46 (zfr_rf [(28, 6)] _) hc0 rfl) rfl) hRWDm44
                        refine zw_b (by omega) ?_
                        refine zw_some ?_
                        refine zw_b (by omega) ?_
                        have r47 : 0 ≤ (m46 a0 7) ∧ (m46 a0 7) ≤ 700 := zi_rd hIm46 hc0 zb_28_7
                        have r48 : 0 ≤ (m46 a0 21) ∧ (m46 a0 21) ≤ 64 := zi_rd hIm46 hc0 zb_28_21
                        have e49 : (m46 a0 21) = (m0 a0 21) := (Eq.trans (zs_ne hmm46 (Or.inr (by decide))) (Eq.trans (zs_ne hmm44 (Or.inr (by decide))) (zfr_ap hfm23 hc0 rfl)))
                        have r50 : 0 ≤ (m46 a0 48) ∧ (m46 a0 48) ≤ 64 := zi_rd hIm46 hc0 zb_28_48
                        have e51 : (m46 a0 48) = (m0 a0 48) := (Eq.trans (zs_ne hmm46 (Or.inr (by decide))) (Eq.trans (zs_ne hmm44 (Or.inr (by decide))) (zfr_ap hfm23 hc0 rfl)))
                        have r52 : (-2147483648) ≤ (m46 a0 4) ∧ (m46 a0 4) ≤ 2147483647 := zi_rd hIm46 hc0 zb_28_4
                        have e53 : (m46 a0 4) = 1 := (Eq.trans (zs_ne hmm46 (Or.inr (by decide))) (zs_eq hmm44))
                        exact zw_some ⟨hIm46, hFm46, hRC0m46, hRCRm46, hRKNm46, hRLRm46, hRLTm46, hRNSm46, hRTRm46, hRWDm46, ⟨by omega, by omega⟩, by omega, by omega, by omega⟩
                    · refine zw_b (by omega) ?_
                      refine zw_some ?_
                      refine zw_ite (fun h54 => ?_) (fun h54 => ?_)
                      · refine zw_bd (zw_mono (zk_89 n hIm23 hc0 hRNSm23 hRWDm23) (fun v56 m55 hqm55 => ?_))
                        obtain ⟨hIm55, hfm55, hvm55⟩ := hqm55
                        have hFm55 := zfr_tr hFm23 hfm55 rfl
                        obtain ⟨hRNSm55, hRTRm55, hRWDm55, hvm55⟩ := hvm55
                        have hRC0m55 := zR_C0_fr (zdis_fr hfm55 rfl) hRC0m23
                        have hRCRm55 := zR_CR_fr (zdis_fr hfm55 rfl) hRCRm23
                        have hRKNm55 := zR_KN_fr (zdis_fr hfm55 rfl) hRKNm23
                        have hRLRm55 := zR_LR_fr (zdis_fr hfm55 rfl) hRLRm23
                        have hRLTm55 := zR_LT_fr (zdis_fr hfm55 rfl) hRLTm23
                        have s57 := hRNSm55 a0 hc0
                        have s58 := hRTRm55 a0 hc0
                        refine zw_b (by omega) ?_
                        have r59 : 0 ≤ (m55 a0 7) ∧ (m55 a0 7) ≤ 700 := zi_rd hIm55 hc0 zb_28_7
                        have r60 : 0 ≤ (m55 a0 21) ∧ (m55 a0 21) ≤ 64 := zi_rd hIm55 hc0 zb_28_21
                        have e61 : (m55 a0 21) = (m0 a0 21) := (Eq.trans (zfr_ap hfm55 hc0 rfl) (zfr_ap hfm23 hc0 rfl))
                        have r62 : 0 ≤ (m55 a0 48) ∧ (m55 a0 48) ≤ 64 := zi_rd hIm55 hc0 zb_28_48
                        have e63 : (m55 a0 48) = (m0 a0 48) := (Eq.trans (zfr_ap hfm55 hc0 rfl) (zfr_ap hfm23 hc0 rfl))
                        have r64 : (-2147483648) ≤ (m55 a0 4) ∧ (m55 a0 4) ≤ 2147483647 := zi_rd hIm55 hc0 zb_28_4
                        exact zw_some ⟨hIm55, hFm55, hRC0m55, hRCRm55, hRKNm55, hRLRm55, hRLTm55, hRNSm55, hRTRm55, hRWDm55, ⟨by omega, by omega⟩, by omega, by omega, by omega⟩
                      · exfalso; omega
                · refine zw_b (by omega) ?_
                  have r65 : 0 ≤ (m23 a0 7) ∧ (m23 a0 7) ≤ 700 := zi_rd hIm23 hc0 zb_28_7
                  have r66 : 0 ≤ (m23 a0 21) ∧ (m23 a0 21) ≤ 64 := zi_rd hIm23 hc0 zb_28_21
                  have e67 : (m23 a0 21) = (m0 a0 21) := (zfr_ap hfm23 hc0 rfl)
                  have r68 : 0 ≤ (m23 a0 48) ∧ (m23 a0 48) ≤ 64 := zi_rd hIm23 hc0 zb_28_48
                  have e69 : (m23 a0 48) = (m0 a0 48) := (zfr_ap hfm23 hc0 rfl)
                  have r70 : (-2147483648) ≤ (m23 a0 4) ∧ (m23 a0 4) ≤ 2147483647 := zi_rd hIm23 hc0 zb_28_4
                  exact zw_some ⟨hIm23, hFm23, hRC0m23, hRCRm23, hRKNm23, hRLRm23, hRLTm23, hRNSm23, hRTRm23, hRWDm23, ⟨by omega, by omega⟩, by omega, by omega, by omega⟩
              · refine zw_bd (zw_mono (zk_103 n hIm0 hc0 ⟨by omega, by omega⟩ ⟨by omega, by omega⟩ (by omega) (by omega) hRKNm0 hRLRm0 hRLTm0 hRNSm0 hRTRm0 hRWDm0) (fun v72 m71 hqm71 => ?_))
                obtain ⟨hIm71, hfm71, hvm71⟩ := hqm71
                have hFm71 := zfr_tr hFm0 hfm71 rfl
                obtain ⟨hRKNm71, hRLRm71, hRLTm71, hRNSm71, hRTRm71, hRWDm71, hvm71⟩ := hvm71
                have hRC0m71 := zR_C0_fr (zdis_fr hfm71 rfl) hRC0m0
                have hRCRm71 := zR_CR_fr (zdis_fr hfm71 rfl) hRCRm0
                have s73 := hRNSm71 a0 hc0
                have s74 := hRTRm71 a0 hc0
                refine zw_ite (fun h75 => ?_) (fun h75 => ?_)
                · refine zw_bd (zw_eq (zu_call_at (zt_T n) (zm_93 n) (zdp_93 n) _ _ _ _ _ rfl (zr_93_0 n _ _ a0 59 m71)) ?_)
                  have r76 : 0 ≤ (m71 a0 8) ∧ (m71 a0 8) ≤ 6 := zi_rd hIm71 hc0 zb_28_8
                  refine zw_ite (fun h77 => ?_) (fun h77 => ?_)
                  · refine zw_b (by omega) ?_
                    refine zw_some ?_
                    refine zw_ite (fun h78 => ?_) (fun h78 => ?_)
                    · exfalso; omega
                    · refine zw_bd (zw_eq (zu_call_at (zt_T n) (zm_85 n) (zdp_85 n) _ _ _ _ _ rfl (zr_85_0 n _ _ a0 1 m71)) ?_)
                      generalize hmm79 : zu_up m71 a0 4 1 = m79
                      have hIm79 := zi_up hmm79 hIm71 hc0 zb_28_4 (by omega) (by omega)
                      have hFm79 := zfr_up hmm79 hFm71 hc0 rfl
                      have hRC0m79 := zR_C0_fr (zdis_fr (zfr_up hmm79 (zfr_rf [(28, 5)] _) hc0 rfl) rfl) hRC0m71
                      have hRCRm79 := zR_CR_fr (zdis_fr (zfr_up hmm79 (zfr_rf [(28, 5)] _) hc0 rfl) rfl) hRCRm71
                      have hRKNm79 := zR_KN_fr (zdis_fr (zfr_up hmm79 (zfr_rf [(28, 5)] _) hc0 rfl) rfl) hRKNm71
                      have hRLTm79 := zR_LT_fr (zdis_fr (zfr_up hmm79 (zfr_rf [(28, 5)] _) hc0 rfl) rfl) hRLTm71
                      have hRNSm79 := zR_NS_fr (zdis_fr (zfr_up hmm79 (zfr_rf [(28, 5)] _) hc0 rfl) rfl) hRNSm71
                      have hRTRm79 := zR_TR_fr (zdis_fr (zfr_up hmm79 (zfr_rf [(28, 5)] _) hc0 rfl) rfl) hRTRm71
                      have hRWDm79 := zR_WD_fr (zdis_fr (zfr_up hmm79 (zfr_rf [(28, 5)] _) hc0 rfl) rfl) hRWDm71
                      have hRLRm79 := zLR_wr (zone_190 hc0) hmm79 (by decide)
                      have r80 : 0 ≤ (m79 a0 10) ∧ (m79 a0 10) ≤ 700 := zi_rd hIm79 hc0 zb_28_10
                      generalize hmm81 : zu_up m79 a0 5 (m79 a0 10) = m81
                      have hIm81 := zi_up hmm81 hIm79 hc0 zb_28_5 (by omega) (by omega)
                      have hFm81 := zfr_up hmm81 hFm79 hc0 rfl
                      have hRC0m81 := zR_C0_fr (zdis_fr (zfr_up hmm81 (zfr_rf [(28, 6)] _) hc0 rfl) rfl) hRC0m79
                      have hRCRm81 := zR_CR_fr (zdis_fr (zfr_up hmm81 (zfr_rf [(28, 6)] _) hc0 rfl) rfl) hRCRm79
                      have hRKNm81 := zR_KN_fr (zdis_fr (zfr_up hmm81 (zfr_rf [(28, 6)] _) hc0 rfl) rfl) hRKNm79
                      have hRLRm81 := zR_LR_fr (zdis_fr (zfr_up hmm81 (zfr_rf [(28, 6)] _) hc0 rfl) rfl) hRLRm79
                      have hRLTm81 := zR_LT_fr (zdis_fr (zfr_up hmm81 (zfr_rf [(28, 6)] _) hc0 rfl) rfl) hRLTm79
                      have hRNSm81 := zR_NS_fr (zdis_fr (zfr_up hmm81 (zfr_rf [(28, 6)] _) hc0 rfl) rfl) hRNSm79
                      have hRTRm81 := zR_TR_fr (zdis_fr (zfr_up hmm81 (zfr_rf [(28, 6)] _) hc0 rfl) rfl) hRTRm79
                      have hRWDm81 := zR_WD_fr (zdis_fr (zfr_up hmm81 (zfr_rf [(28, 6)] _) hc0 rfl) rfl) hRWDm79
                      refine zw_b (by omega) ?_
                      refine zw_some ?_
                      refine zw_b (by omega) ?_
                      have r82 : 0 ≤ (m81 a0 7) ∧ (m81 a0 7) ≤ 700 := zi_rd hIm81 hc0 zb_28_7
                      have r83 : 0 ≤ (m81 a0 21) ∧ (m81 a0 21) ≤ 64 := zi_rd hIm81 hc0 zb_28_21
                      have r84 : 0 ≤ (m81 a0 48) ∧ (m81 a0 48) ≤ 64 := zi_rd hIm81 hc0 zb_28_48
                      have r85 : (-2147483648) ≤ (m81 a0 4) ∧ (m81 a0 4) ≤ 2147483647 := zi_rd hIm81 hc0 zb_28_4
                      have e86 : (m81 a0 4) = 1 := (Eq.trans (zs_ne hmm81 (Or.inr (by decide))) (zs_eq hmm79))
                      exact zw_some ⟨hIm81, hFm81, hRC0m81, hRCRm81, hRKNm81, hRLRm81, hRLTm81, hRNSm81, hRTRm81, hRWDm81, ⟨by omega, by omega⟩, by omega, by omega, by omega⟩
                  · have r87 : (-2147483648) ≤ (m71 a0 9) ∧ (m71 a0 9) ≤ 2147483647 := zi_rd hIm71 hc0 zb_28_9
                    refine zw_ite (fun h88 => ?_) (fun h88 => ?_)
                    · refine zw_b (by omega) ?_
                      refine zw_some ?_
                      refine zw_ite (fun h89 => ?_) (fun h89 => ?_)
                      · exfalso; omega
                      · refine zw_bd (zw_eq (zu_call_at (zt_T n) (zm_85 n) (zdp_85 n) _ _ _ _ _ rfl (zr_85_0 n _ _ a0 1 m71)) ?_)
                        generalize hmm90 : zu_up m71 a0 4 1 = m90
                        have hIm90 := zi_up hmm90 hIm71 hc0 zb_28_4 (by omega) (by omega)
                        have hFm90 := zfr_up hmm90 hFm71 hc0 rfl
                        have hRC0m90 := zR_C0_fr (zdis_fr (zfr_up hmm90 (zfr_rf [(28, 5)] _) hc0 rfl) rfl) hRC0m71
                        have hRCRm90 := zR_CR_fr (zdis_fr (zfr_up hmm90 (zfr_rf [(28, 5)] _) hc0 rfl) rfl) hRCRm71
                        have hRKNm90 := zR_KN_fr (zdis_fr (zfr_up hmm90 (zfr_rf [(28, 5)] _) hc0 rfl) rfl) hRKNm71
                        have hRLTm90 := zR_LT_fr (zdis_fr (zfr_up hmm90 (zfr_rf [(28, 5)] _) hc0 rfl) rfl) hRLTm71
                        have hRNSm90 := zR_NS_fr (zdis_fr (zfr_up hmm90 (zfr_rf [(28, 5)] _) hc0 rfl) rfl) hRNSm71
                        have hRTRm90 := zR_TR_fr (zdis_fr (zfr_up hmm90 (zfr_rf [(28, 5)] _) hc0 rfl) rfl) hRTRm71
                        have hRWDm90 := zR_WD_fr (zdis_fr (zfr_up hmm90 (zfr_rf [(28, 5)] _) hc0 rfl) rfl) hRWDm71
                        have hRLRm90 := zLR_wr (zone_190 hc0) hmm90 (by decide)
                        have r91 : 0 ≤ (m90 a0 10) ∧ (m90 a0 10) ≤ 700 := zi_rd hIm90 hc0 zb_28_10
                        generalize hmm92 : zu_up m90 a0 5 (m90 a0 10) = m92
                        have hIm92 := zi_up hmm92 hIm90 hc0 zb_28_5 (by omega) (by omega)
                        have hFm92 := zfr_up hmm92 hFm90 hc0 rfl
                        have hRC0m92 := zR_C0_fr (zdis_fr (zfr_up hmm92 (zfr_rf [(28, 6)] _) hc0 rfl) rfl) hRC0m90
                        have hRCRm92 := zR_CR_fr (zdis_fr (zfr_up hmm92 (zfr_rf [(28, 6)] _) hc0 rfl) rfl) hRCRm90
                        have hRKNm92 := zR_KN_fr (zdis_fr (zfr_up hmm92 (zfr_rf [(28, 6)] _) hc0 rfl) rfl) hRKNm90
                        have hRLRm92 := zR_LR_fr (zdis_fr (zfr_up hmm92 (zfr_rf [(28, 6)] _) hc0 rfl) rfl) hRLRm90
                        have hRLTm92 := zR_LT_fr (zdis_fr (zfr_up hmm92 (zfr_rf [(28, 6)] _) hc0 rfl) rfl) hRLTm90
                        have hRNSm92 := zR_NS_fr (zdis_fr (zfr_up hmm92 (zfr_rf [(28, 6)] _) hc0 rfl) rfl) hRNSm90
                        have hRTRm92 := zR_TR_fr (zdis_fr (zfr_up hmm92 (zfr_rf [(28, 6)] _) hc0 rfl) rfl) hRTRm90
                        have hRWDm92 := zR_WD_fr (zdis_fr (zfr_up hmm92 (zfr_rf [(28, 6)] _) hc0 rfl) rfl) hRWDm90
                        refine zw_b (by omega) ?_
                        refine zw_some ?_
                        refine zw_b (by omega) ?_
                        have r93 : 0 ≤ (m92 a0 7) ∧ (m92 a0 7) ≤ 700 := zi_rd hIm92 hc0 zb_28_7
                        have r94 : 0 ≤ (m92 a0 21) ∧ (m92 a0 21) ≤ 64 := zi_rd hIm92 hc0 zb_28_21
                        have r95 : 0 ≤ (m92 a0 48) ∧ (m92 a0 48) ≤ 64 := zi_rd hIm92 hc0 zb_28_48
                        have r96 : (-2147483648) ≤ (m92 a0 4) ∧ (m92 a0 4) ≤ 2147483647 := zi_rd hIm92 hc0 zb_28_4
                        have e97 : (m92 a0 4) = 1 := (Eq.trans (zs_ne hmm92 (Or.inr (by decide))) (zs_eq hmm90))
                        exact zw_some ⟨hIm92, hFm92, hRC0m92, hRCRm92, hRKNm92, hRLRm92, hRLTm92, hRNSm92, hRTRm92, hRWDm92, ⟨by omega, by omega⟩, by omega, by omega, by omega⟩
                    · refine zw_b (by omega) ?_
                      refine zw_some ?_
                      refine zw_ite (fun h98 => ?_) (fun h98 => ?_)
                      · refine zw_bd (zw_mono (zk_89 n hIm71 hc0 hRNSm71 hRWDm71) (fun v100 m99 hqm99 => ?_))
                        obtain ⟨hIm99, hfm99, hvm99⟩ := hqm99
                        have hFm99 := zfr_tr hFm71 hfm99 rfl
                        obtain ⟨hRNSm99, hRTRm99, hRWDm99, hvm99⟩ := hvm99
                        have hRC0m99 := zR_C0_fr (zdis_fr hfm99 rfl) hRC0m71
                        have hRCRm99 := zR_CR_fr (zdis_fr hfm99 rfl) hRCRm71
                        have hRKNm99 := zR_KN_fr (zdis_fr hfm99 rfl) hRKNm71
                        have hRLRm99 := zR_LR_fr (zdis_fr hfm99 rfl) hRLRm71
                        have hRLTm99 := zR_LT_fr (zdis_fr hfm99 rfl) hRLTm71
                        have s101 := hRNSm99 a0 hc0
                        have s102 := hRTRm99 a0 hc0
                        refine zw_b (by omega) ?_
                        have r103 : 0 ≤ (m99 a0 7) ∧ (m99 a0 7) ≤ 700 := zi_rd hIm99 hc0 zb_28_7
                        have r104 : 0 ≤ (m99 a0 21) ∧ (m99 a0 21) ≤ 64 := zi_rd hIm99 hc0 zb_28_21
                        have r105 : 0 ≤ (m99 a0 48) ∧ (m99 a0 48) ≤ 64 := zi_rd hIm99 hc0 zb_28_48
                        have r106 : (-2147483648) ≤ (m99 a0 4) ∧ (m99 a0 4) ≤ 2147483647 := zi_rd hIm99 hc0 zb_28_4
                        exact zw_some ⟨hIm99, hFm99, hRC0m99, hRCRm99, hRKNm99, hRLRm99, hRLTm99, hRNSm99, hRTRm99, hRWDm99, ⟨by omega, by omega⟩, by omega, by omega, by omega⟩
                      · exfalso; omega
                · refine zw_b (by omega) ?_
                  have r107 : 0 ≤ (m71 a0 7) ∧ (m71 a0 7) ≤ 700 := zi_rd hIm71 hc0 zb_28_7
                  have r108 : 0 ≤ (m71 a0 21) ∧ (m71 a0 21) ≤ 64 := zi_rd hIm71 hc0 zb_28_21
                  have r109 : 0 ≤ (m71 a0 48) ∧ (m71 a0 48) ≤ 64 := zi_rd hIm71 hc0 zb_28_48
                  have r110 : (-2147483648) ≤ (m71 a0 4) ∧ (m71 a0 4) ≤ 2147483647 := zi_rd hIm71 hc0 zb_28_4
                  exact zw_some ⟨hIm71, hFm71, hRC0m71, hRCRm71, hRKNm71, hRLRm71, hRLTm71, hRNSm71, hRTRm71, hRWDm71, ⟨by omega, by omega⟩, by omega, by omega, by omega⟩
            · refine zw_bd (zw_mono (zk_102 n hIm0 hc0 ⟨by omega, by omega⟩ ⟨by omega, by omega⟩ hRC0m0 hRCRm0 hRLRm0 hRNSm0 hRTRm0 hRWDm0) (fun v112 m111 hqm111 => ?_))
              obtain ⟨hIm111, hfm111, hvm111⟩ := hqm111
              have hFm111 := zfr_tr hFm0 hfm111 rfl
              obtain ⟨hRC0m111, hRCRm111, hRLRm111, hRNSm111, hRTRm111, hRWDm111, hvm111⟩ := hvm111
              have hRKNm111 := zR_KN_fr (zdis_fr hfm111 rfl) hRKNm0
              have hRLTm111 := zR_LT_fr (zdis_fr hfm111 rfl) hRLTm0
              have s113 := hRNSm111 a0 hc0
              have s114 := hRTRm111 a0 hc0
              refine zw_ite (fun h115 => ?_) (fun h115 => ?_)
              · refine zw_bd (zw_eq (zu_call_at (zt_T n) (zm_93 n) (zdp_93 n) _ _ _ _ _ rfl (zr_93_0 n _ _ a0 59 m111)) ?_)
                have r116 : 0 ≤ (m111 a0 8) ∧ (m111 a0 8) ≤ 6 := zi_rd hIm111 hc0 zb_28_8
                refine zw_ite (fun h117 => ?_) (fun h117 => ?_)
                · refine zw_b (by omega) ?_
                  refine zw_some ?_
                  refine zw_ite (fun h118 => ?_) (fun h118 => ?_)
                  · exfalso; omega
                  · refine zw_bd (zw_eq (zu_call_at (zt_T n) (zm_85 n) (zdp_85 n) _ _ _ _ _ rfl (zr_85_0 n _ _ a0 1 m111)) ?_)
                    generalize hmm119 : zu_up m111 a0 4 1 = m119
                    have hIm119 := zi_up hmm119 hIm111 hc0 zb_28_4 (by omega) (by omega)
                    have hFm119 := zfr_up hmm119 hFm111 hc0 rfl
                    have hRC0m119 := zR_C0_fr (zdis_fr (zfr_up hmm119 (zfr_rf [(28, 5)] _) hc0 rfl) rfl) hRC0m111
                    have hRCRm119 := zR_CR_fr (zdis_fr (zfr_up hmm119 (zfr_rf [(28, 5)] _) hc0 rfl) rfl) hRCRm111
                    have hRKNm119 := zR_KN_fr (zdis_fr (zfr_up hmm119 (zfr_rf [(28, 5)] _) hc0 rfl) rfl) hRKNm111
                    have hRLTm119 := zR_LT_fr (zdis_fr (zfr_up hmm119 (zfr_rf [(28, 5)] _) hc0 rfl) rfl) hRLTm111
                    have hRNSm119 := zR_NS_fr (zdis_fr (zfr_up hmm119 (zfr_rf [(28, 5)] _) hc0 rfl) rfl) hRNSm111
                    have hRTRm119 := zR_TR_fr (zdis_fr (zfr_up hmm119 (zfr_rf [(28, 5)] _) hc0 rfl) rfl) hRTRm111
                    have hRWDm119 := zR_WD_fr (zdis_fr (zfr_up hmm119 (zfr_rf [(28, 5)] _) hc0 rfl) rfl) hRWDm111
                    have hRLRm119 := zLR_wr (zone_190 hc0) hmm119 (by decide)
                    have r120 : 0 ≤ (m119 a0 10) ∧ (m119 a0 10) ≤ 700 := zi_rd hIm119 hc0 zb_28_10
                    generalize hmm121 : zu_up m119 a0 5 (m119 a0 10) = m121
                    have hIm121 := zi_up hmm121 hIm119 hc0 zb_28_5 (by omega) (by omega)
                    have hFm121 := zfr_up hmm121 hFm119 hc0 rfl
                    have hRC0m121 := zR_C0_fr (zdis_fr (zfr_up hmm121 (zfr_rf [(28, 6)] _) hc0 rfl) rfl) hRC0m119
                    have hRCRm121 := zR_CR_fr (zdis_fr (zfr_up hmm121 (zfr_rf [(28, 6)] _) hc0 rfl) rfl) hRCRm119
                    have hRKNm121 := zR_KN_fr (zdis_fr (zfr_up hmm121 (zfr_rf [(28, 6)] _) hc0 rfl) rfl) hRKNm119
                    have hRLRm121 := zR_LR_fr (zdis_fr (zfr_up hmm121 (zfr_rf [(28, 6)] _) hc0 rfl) rfl) hRLRm119
                    have hRLTm121 := zR_LT_fr (zdis_fr (zfr_up hmm121 (zfr_rf [(28, 6)] _) hc0 rfl) rfl) hRLTm119
                    have hRNSm121 := zR_NS_fr (zdis_fr (zfr_up hmm121 (zfr_rf [(28, 6)] _) hc0 rfl) rfl) hRNSm119
                    have hRTRm121 := zR_TR_fr (zdis_fr (zfr_up hmm121 (zfr_rf [(28, 6)] _) hc0 rfl) rfl) hRTRm119
                    have hRWDm121 := zR_WD_fr (zdis_fr (zfr_up hmm121 (zfr_rf [(28, 6)] _) hc0 rfl) rfl) hRWDm119
                    refine zw_b (by omega) ?_
                    refine zw_some ?_
                    refine zw_b (by omega) ?_
                    have r122 : 0 ≤ (m121 a0 7) ∧ (m121 a0 7) ≤ 700 := zi_rd hIm121 hc0 zb_28_7
                    have r123 : 0 ≤ (m121 a0 21) ∧ (m121 a0 21) ≤ 64 := zi_rd hIm121 hc0 zb_28_21
                    have e124 : (m121 a0 21) = (m0 a0 21) := (Eq.trans (zs_ne hmm121 (Or.inr (by decide))) (Eq.trans (zs_ne hmm119 (Or.inr (by decide))) (zfr_ap hfm111 hc0 rfl)))
                    have r125 : 0 ≤ (m121 a0 48) ∧ (m121 a0 48) ≤ 64 := zi_rd hIm121 hc0 zb_28_48
                    have e126 : (m121 a0 48) = (m0 a0 48) := (Eq.trans (zs_ne hmm121 (Or.inr (by decide))) (Eq.trans (zs_ne hmm119 (Or.inr (by decide))) (zfr_ap hfm111 hc0 rfl)))
                    have r127 : (-2147483648) ≤ (m121 a0 4) ∧ (m121 a0 4) ≤ 2147483647 := zi_rd hIm121 hc0 zb_28_4
                    have e128 : (m121 a0 4) = 1 := (Eq.trans (zs_ne hmm121 (Or.inr (by decide))) (zs_eq hmm119))
                    exact zw_some ⟨hIm121, hFm121, hRC0m121, hRCRm121, hRKNm121, hRLRm121, hRLTm121, hRNSm121, hRTRm121, hRWDm121, ⟨by omega, by omega⟩, by omega, by omega, by omega⟩
                · have r129 : (-2147483648) ≤ (m111 a0 9) ∧ (m111 a0 9) ≤ 2147483647 := zi_rd hIm111 hc0 zb_28_9
                  refine zw_ite (fun h130 => ?_) (fun h130 => ?_)
                  · refine zw_b (by omega) ?_
                    refine zw_some ?_
                    refine zw_ite (fun h131 => ?_) (fun h131 => ?_)
                    · exfalso; omega
                    · refine zw_bd (zw_eq (zu_call_at (zt_T n) (zm_85 n) (zdp_85 n) _ _ _ _ _ rfl (zr_85_0 n _ _ a0 1 m111)) ?_)
                      generalize hmm132 : zu_up m111 a0 4 1 = m132
                      have hIm132 := zi_up hmm132 hIm111 hc0 zb_28_4 (by omega) (by omega)
                      have hFm132 := zfr_up hmm132 hFm111 hc0 rfl
                      have hRC0m132 := zR_C0_fr (zdis_fr (zfr_up hmm132 (zfr_rf [(28, 5)] _) hc0 rfl) rfl) hRC0m111
                      have hRCRm132 := zR_CR_fr (zdis_fr (zfr_up hmm132 (zfr_rf [(28, 5)] _) hc0 rfl) rfl) hRCRm111
                      have hRKNm132 := zR_KN_fr (zdis_fr (zfr_up hmm132 (zfr_rf [(28, 5)] _) hc0 rfl) rfl) hRKNm111
                      have hRLTm132 := zR_LT_fr (zdis_fr (zfr_up hmm132 (zfr_rf [(28, 5)] _) hc0 rfl) rfl) hRLTm111
                      have hRNSm132 := zR_NS_fr (zdis_fr (zfr_up hmm132 (zfr_rf [(28, 5)] _) hc0 rfl) rfl) hRNSm111
                      have hRTRm132 := zR_TR_fr (zdis_fr (zfr_up hmm132 (zfr_rf [(28, 5)] _) hc0 rfl) rfl) hRTRm111
                      have hRWDm132 := zR_WD_fr (zdis_fr (zfr_up hmm132 (zfr_rf [(28, 5)] _) hc0 rfl) rfl) hRWDm111
                      have hRLRm132 := zLR_wr (zone_190 hc0) hmm132 (by decide)
                      have r133 : 0 ≤ (m132 a0 10) ∧ (m132 a0 10) ≤ 700 := zi_rd hIm132 hc0 zb_28_10
                      generalize hmm134 : zu_up m132 a0 5 (m132 a0 10) = m134
                      have hIm134 := zi_up hmm134 hIm132 hc0 zb_28_5 (by omega) (by omega)
                      have hFm134 := zfr_up hmm134 hFm132 hc0 rfl
                      have hRC0m134 := zR_C0_fr (zdis_fr (zfr_up hmm134 (zfr_rf [(28, 6)] _) hc0 rfl) rfl) hRC0m132
                      have hRCRm134 := zR_CR_fr (zdis_fr (zfr_up hmm134 (zfr_rf [(28, 6)] _) hc0 rfl) rfl) hRCRm132
                      have hRKNm134 := zR_KN_fr (zdis_fr (zfr_up hmm134 (zfr_rf [(28, 6)] _) hc0 rfl) rfl) hRKNm132
                      have hRLRm134 := zR_LR_fr (zdis_fr (zfr_up hmm134 (zfr_rf [(28, 6)] _) hc0 rfl) rfl) hRLRm132
                      have hRLTm134 := zR_LT_fr (zdis_fr (zfr_up hmm134 (zfr_rf [(28, 6)] _) hc0 rfl) rfl) hRLTm132
                      have hRNSm134 := zR_NS_fr (zdis_fr (zfr_up hmm134 (zfr_rf [(28, 6)] _) hc0 rfl) rfl) hRNSm132
                      have hRTRm134 := zR_TR_fr (zdis_fr (zfr_up hmm134 (zfr_rf [(28, 6)] _) hc0 rfl) rfl) hRTRm132
                      have hRWDm134 := zR_WD_fr (zdis_fr (zfr_up hmm134 (zfr_rf [(28, 6)] _) hc0 rfl) rfl) hRWDm132
                      refine zw_b (by omega) ?_
                      refine zw_some ?_
                      refine zw_b (by omega) ?_
                      have r135 : 0 ≤ (m134 a0 7) ∧ (m134 a0 7) ≤ 700 := zi_rd hIm134 hc0 zb_28_7
                      have r136 : 0 ≤ (m134 a0 21) ∧ (m134 a0 21) ≤ 64 := zi_rd hIm134 hc0 zb_28_21
                      have e137 : (m134 a0 21) = (m0 a0 21) := (Eq.trans (zs_ne hmm134 (Or.inr (by decide))) (Eq.trans (zs_ne hmm132 (Or.inr (by decide))) (zfr_ap hfm111 hc0 rfl)))
                      have r138 : 0 ≤ (m134 a0 48) ∧ (m134 a0 48) ≤ 64 := zi_rd hIm134 hc0 zb_28_48
                      have e139 : (m134 a0 48) = (m0 a0 48) := (Eq.trans (zs_ne hmm134 (Or.inr (by decide))) (Eq.trans (zs_ne hmm132 (Or.inr (by decide))) (zfr_ap hfm111 hc0 rfl)))
                      have r140 : (-2147483648) ≤ (m134 a0 4) ∧ (m134 a0 4) ≤ 2147483647 := zi_rd hIm134 hc0 zb_28_4
                      have e141 : (m134 a0 4) = 1 := (Eq.trans (zs_ne hmm134 (Or.inr (by decide))) (zs_eq hmm132))
                      exact zw_some ⟨hIm134, hFm134, hRC0m134, hRCRm134, hRKNm134, hRLRm134, hRLTm134, hRNSm134, hRTRm134, hRWDm134, ⟨by omega, by omega⟩, by omega, by omega, by omega⟩
                  · refine zw_b (by omega) ?_
                    refine zw_some ?_
                    refine zw_ite (fun h142 => ?_) (fun h142 => ?_)
                    · refine zw_bd (zw_mono (zk_89 n hIm111 hc0 hRNSm111 hRWDm111) (fun v144 m143 hqm143 => ?_))
                      obtain ⟨hIm143, hfm143, hvm143⟩ := hqm143
                      have hFm143 := zfr_tr hFm111 hfm143 rfl
                      obtain ⟨hRNSm143, hRTRm143, hRWDm143, hvm143⟩ := hvm143
                      have hRC0m143 := zR_C0_fr (zdis_fr hfm143 rfl) hRC0m111
                      have hRCRm143 := zR_CR_fr (zdis_fr hfm143 rfl) hRCRm111
                      have hRKNm143 := zR_KN_fr (zdis_fr hfm143 rfl) hRKNm111
                      have hRLRm143 := zR_LR_fr (zdis_fr hfm143 rfl) hRLRm111
                      have hRLTm143 := zR_LT_fr (zdis_fr hfm143 rfl) hRLTm111
                      have s145 := hRNSm143 a0 hc0
                      have s146 := hRTRm143 a0 hc0
                      refine zw_b (by omega) ?_
                      have r147 : 0 ≤ (m143 a0 7) ∧ (m143 a0 7) ≤ 700 := zi_rd hIm143 hc0 zb_28_7
                      have r148 : 0 ≤ (m143 a0 21) ∧ (m143 a0 21) ≤ 64 := zi_rd hIm143 hc0 zb_28_21
                      have e149 : (m143 a0 21) = (m0 a0 21) := (Eq.trans (zfr_ap hfm143 hc0 rfl) (zfr_ap hfm111 hc0 rfl))
                      have r150 : 0 ≤ (m143 a0 48) ∧ (m143 a0 48) ≤ 64 := zi_rd hIm143 hc0 zb_28_48
                      have e151 : (m143 a0 48) = (m0 a0 48) := (Eq.trans (zfr_ap hfm143 hc0 rfl) (zfr_ap hfm111 hc0 rfl))
                      have r152 : (-2147483648) ≤ (m143 a0 4) ∧ (m143 a0 4) ≤ 2147483647 := zi_rd hIm143 hc0 zb_28_4
                      exact zw_some ⟨hIm143, hFm143, hRC0m143, hRCRm143, hRKNm143, hRLRm143, hRLTm143, hRNSm143, hRTRm143, hRWDm143, ⟨by omega, by omega⟩, by omega, by omega, by omega⟩
                    · exfalso; omega
              · refine zw_b (by omega) ?_
                have r153 : 0 ≤ (m111 a0 7) ∧ (m111 a0 7) ≤ 700 := zi_rd hIm111 hc0 zb_28_7
                have r154 : 0 ≤ (m111 a0 21) ∧ (m111 a0 21) ≤ 64 := zi_rd hIm111 hc0 zb_28_21
                have e155 : (m111 a0 21) = (m0 a0 21) := (zfr_ap hfm111 hc0 rfl)
                have r156 : 0 ≤ (m111 a0 48) ∧ (m111 a0 48) ≤ 64 := zi_rd hIm111 hc0 zb_28_48
                have e157 : (m111 a0 48) = (m0 a0 48) := (zfr_ap hfm111 hc0 rfl)
                have r158 : (-2147483648) ≤ (m111 a0 4) ∧ (m111 a0 4) ≤ 2147483647 := zi_rd hIm111 hc0 zb_28_4
                exact zw_some ⟨hIm111, hFm111, hRC0m111, hRCRm111, hRKNm111, hRLRm111, hRLTm111, hRNSm111, hRTRm111, hRWDm111, ⟨by omega, by omega⟩, by omega, by omega, by omega⟩
          · refine zw_bd (zw_mono (zk_101 n hIm0 hc0 ⟨by omega, by omega⟩ ⟨by omega, by omega⟩ hRCRm0 hRLRm0 hRNSm0 hRTRm0 hRWDm0) (fun v160 m159 hqm159 => ?_))
            obtain ⟨hIm159, hfm159, hvm159⟩ := hqm159
            have hFm159 := zfr_tr hFm0 hfm159 rfl
            obtain ⟨hRCRm159, hRLRm159, hRNSm159, hRTRm159, hRWDm159, hvm159⟩ := hvm159
            have hRC0m159 := zR_C0_fr (zdis_fr hfm159 rfl) hRC0m0
            have hRKNm159 := zR_KN_fr (zdis_fr hfm159 rfl) hRKNm0
            have hRLTm159 := zR_LT_fr (zdis_fr hfm159 rfl) hRLTm0
            have s161 := hRNSm159 a0 hc0
            have s162 := hRTRm159 a0 hc0
            refine zw_ite (fun h163 => ?_) (fun h163 => ?_)
            · refine zw_bd (zw_eq (zu_call_at (zt_T n) (zm_93 n) (zdp_93 n) _ _ _ _ _ rfl (zr_93_0 n _ _ a0 59 m159)) ?_)
              have r164 : 0 ≤ (m159 a0 8) ∧ (m159 a0 8) ≤ 6 := zi_rd hIm159 hc0 zb_28_8
              refine zw_ite (fun h165 => ?_) (fun h165 => ?_)
              · refine zw_b (by omega) ?_
                refine zw_some ?_
                refine zw_ite (fun h166 => ?_) (fun h166 => ?_)
                · exfalso; omega
                · refine zw_bd (zw_eq (zu_call_at (zt_T n) (zm_85 n) (zdp_85 n) _ _ _ _ _ rfl (zr_85_0 n _ _ a0 1 m159)) ?_)
                  generalize hmm167 : zu_up m159 a0 4 1 = m167
                  have hIm167 := zi_up hmm167 hIm159 hc0 zb_28_4 (by omega) (by omega)
                  have hFm167 := zfr_up hmm167 hFm159 hc0 rfl
                  have hRC0m167 := zR_C0_fr (zdis_fr (zfr_up hmm167 (zfr_rf [(28, 5)] _) hc0 rfl) rfl) hRC0m159
                  have hRCRm167 := zR_CR_fr (zdis_fr (zfr_up hmm167 (zfr_rf [(28, 5)] _) hc0 rfl) rfl) hRCRm159
                  have hRKNm167 := zR_KN_fr (zdis_fr (zfr_up hmm167 (zfr_rf [(28, 5)] _) hc0 rfl) rfl) hRKNm159
                  have hRLTm167 := zR_LT_fr (zdis_fr (zfr_up hmm167 (zfr_rf [(28, 5)] _) hc0 rfl) rfl) hRLTm159
                  have hRNSm167 := zR_NS_fr (zdis_fr (zfr_up hmm167 (zfr_rf [(28, 5)] _) hc0 rfl) rfl) hRNSm159
                  have hRTRm167 := zR_TR_fr (zdis_fr (zfr_up hmm167 (zfr_rf [(28, 5)] _) hc0 rfl) rfl) hRTRm159
                  have hRWDm167 := zR_WD_fr (zdis_fr (zfr_up hmm167 (zfr_rf [(28, 5)] _) hc0 rfl) rfl) hRWDm159
                  have hRLRm167 := zLR_wr (zone_190 hc0) hmm167 (by decide)
                  have r168 : 0 ≤ (m167 a0 10) ∧ (m167 a0 10) ≤ 700 := zi_rd hIm167 hc0 zb_28_10
                  generalize hmm169 : zu_up m167 a0 5 (m167 a0 10) = m169
                  have hIm169 := zi_up hmm169 hIm167 hc0 zb_28_5 (by omega) (by omega)
                  have hFm169 := zfr_up hmm169 hFm167 hc0 rfl
                  have hRC0m169 := zR_C0_fr (zdis_fr (zfr_up hmm169 (zfr_rf [(28, 6)] _) hc0 rfl) rfl) hRC0m167
                  have hRCRm169 := zR_CR_fr (zdis_fr (zfr_up hmm169 (zfr_rf [(28, 6)] _) hc0 rfl) rfl) hRCRm167
                  have hRKNm169 := zR_KN_fr (zdis_fr (zfr_up hmm169 (zfr_rf [(28, 6)] _) hc0 rfl) rfl) hRKNm167
                  have hRLRm169 := zR_LR_fr (zdis_fr (zfr_up hmm169 (zfr_rf [(28, 6)] _) hc0 rfl) rfl) hRLRm167
                  have hRLTm169 := zR_LT_fr (zdis_fr (zfr_up hmm169 (zfr_rf [(28, 6)] _) hc0 rfl) rfl) hRLTm167
                  have hRNSm169 := zR_NS_fr (zdis_fr (zfr_up hmm169 (zfr_rf [(28, 6)] _) hc0 rfl) rfl) hRNSm167
                  have hRTRm169 := zR_TR_fr (zdis_fr (zfr_up hmm169 (zfr_rf [(28, 6)] _) hc0 rfl) rfl) hRTRm167
                  have hRWDm169 := zR_WD_fr (zdis_fr (zfr_up hmm169 (zfr_rf [(28, 6)] _) hc0 rfl) rfl) hRWDm167
                  refine zw_b (by omega) ?_
                  refine zw_some ?_
                  refine zw_b (by omega) ?_
                  have r170 : 0 ≤ (m169 a0 7) ∧ (m169 a0 7) ≤ 700 := zi_rd hIm169 hc0 zb_28_7
                  have r171 : 0 ≤ (m169 a0 21) ∧ (m169 a0 21) ≤ 64 := zi_rd hIm169 hc0 zb_28_21
                  have e172 : (m169 a0 21) = (m0 a0 21) := (Eq.trans (zs_ne hmm169 (Or.inr (by decide))) (Eq.trans (zs_ne hmm167 (Or.inr (by decide))) (zfr_ap hfm159 hc0 rfl)))
                  have r173 : 0 ≤ (m169 a0 48) ∧ (m169 a0 48) ≤ 64 := zi_rd hIm169 hc0 zb_28_48
                  have e174 : (m169 a0 48) = (m0 a0 48) := (Eq.trans (zs_ne hmm169 (Or.inr (by decide))) (Eq.trans (zs_ne hmm167 (Or.inr (by decide))) (zfr_ap hfm159 hc0 rfl)))
                  have r175 : (-2147483648) ≤ (m169 a0 4) ∧ (m169 a0 4) ≤ 2147483647 := zi_rd hIm169 hc0 zb_28_4
                  have e176 : (m169 a0 4) = 1 := (Eq.trans (zs_ne hmm169 (Or.inr (by decide))) (zs_eq hmm167))
                  exact zw_some ⟨hIm169, hFm169, hRC0m169, hRCRm169, hRKNm169, hRLRm169, hRLTm169, hRNSm169, hRTRm169, hRWDm169, ⟨by omega, by omega⟩, by omega, by omega, by omega⟩
              · have r177 : (-2147483648) ≤ (m159 a0 9) ∧ (m159 a0 9) ≤ 2147483647 := zi_rd hIm159 hc0 zb_28_9
                refine zw_ite (fun h178 => ?_) (fun h178 => ?_)
                · refine zw_b (by omega) ?_
                  refine zw_some ?_
                  refine zw_ite (fun h179 => ?_) (fun h179 => ?_)
                  · exfalso; omega
                  · refine zw_bd (zw_eq (zu_call_at (zt_T n) (zm_85 n) (zdp_85 n) _ _ _ _ _ rfl (zr_85_0 n _ _ a0 1 m159)) ?_)
                    generalize hmm180 : zu_up m159 a0 4 1 = m180
                    have hIm180 := zi_up hmm180 hIm159 hc0 zb_28_4 (by omega) (by omega)
                    have hFm180 := zfr_up hmm180 hFm159 hc0 rfl
                    have hRC0m180 := zR_C0_fr (zdis_fr (zfr_up hmm180 (zfr_rf [(28, 5)] _) hc0 rfl) rfl) hRC0m159
                    have hRCRm180 := zR_CR_fr (zdis_fr (zfr_up hmm180 (zfr_rf [(28, 5)] _) hc0 rfl) rfl) hRCRm159
                    have hRKNm180 := zR_KN_fr (zdis_fr (zfr_up hmm180 (zfr_rf [(28, 5)] _) hc0 rfl) rfl) hRKNm159
                    have hRLTm180 := zR_LT_fr (zdis_fr (zfr_up hmm180 (zfr_rf [(28, 5)] _) hc0 rfl) rfl) hRLTm159
                    have hRNSm180 := zR_NS_fr (zdis_fr (zfr_up hmm180 (zfr_rf [(28, 5)] _) hc0 rfl) rfl) hRNSm159
                    have hRTRm180 := zR_TR_fr (zdis_fr (zfr_up hmm180 (zfr_rf [(28, 5)] _) hc0 rfl) rfl) hRTRm159
                    have hRWDm180 := zR_WD_fr (zdis_fr (zfr_up hmm180 (zfr_rf [(28, 5)] _) hc0 rfl) rfl) hRWDm159
                    have hRLRm180 := zLR_wr (zone_190 hc0) hmm180 (by decide)
                    have r181 : 0 ≤ (m180 a0 10) ∧ (m180 a0 10) ≤ 700 := zi_rd hIm180 hc0 zb_28_10
                    generalize hmm182 : zu_up m180 a0 5 (m180 a0 10) = m182
                    have hIm182 := zi_up hmm182 hIm180 hc0 zb_28_5 (by omega) (by omega)
                    have hFm182 := zfr_up hmm182 hFm180 hc0 rfl
                    have hRC0m182 := zR_C0_fr (zdis_fr (zfr_up hmm182 (zfr_rf [(28, 6)] _) hc0 rfl) rfl) hRC0m180
                    have hRCRm182 := zR_CR_fr (zdis_fr (zfr_up hmm182 (zfr_rf [(28, 6)] _) hc0 rfl) rfl) hRCRm180
                    have hRKNm182 := zR_KN_fr (zdis_fr (zfr_up hmm182 (zfr_rf [(28, 6)] _) hc0 rfl) rfl) hRKNm180
                    have hRLRm182 := zR_LR_fr (zdis_fr (zfr_up hmm182 (zfr_rf [(28, 6)] _) hc0 rfl) rfl) hRLRm180
                    have hRLTm182 := zR_LT_fr (zdis_fr (zfr_up hmm182 (zfr_rf [(28, 6)] _) hc0 rfl) rfl) hRLTm180
                    have hRNSm182 := zR_NS_fr (zdis_fr (zfr_up hmm182 (zfr_rf [(28, 6)] _) hc0 rfl) rfl) hRNSm180
                    have hRTRm182 := zR_TR_fr (zdis_fr (zfr_up hmm182 (zfr_rf [(28, 6)] _) hc0 rfl) rfl) hRTRm180
                    have hRWDm182 := zR_WD_fr (zdis_fr (zfr_up hmm182 (zfr_rf [(28, 6)] _) hc0 rfl) rfl) hRWDm180
                    refine zw_b (by omega) ?_
                    refine zw_some ?_
                    refine zw_b (by omega) ?_
                    have r183 : 0 ≤ (m182 a0 7) ∧ (m182 a0 7) ≤ 700 := zi_rd hIm182 hc0 zb_28_7
                    have r184 : 0 ≤ (m182 a0 21) ∧ (m182 a0 21) ≤ 64 := zi_rd hIm182 hc0 zb_28_21
                    have e185 : (m182 a0 21) = (m0 a0 21) := (Eq.trans (zs_ne hmm182 (Or.inr (by decide))) (Eq.trans (zs_ne hmm180 (Or.inr (by decide))) (zfr_ap hfm159 hc0 rfl)))
                    have r186 : 0 ≤ (m182 a0 48) ∧ (m182 a0 48) ≤ 64 := zi_rd hIm182 hc0 zb_28_48
                    have e187 : (m182 a0 48) = (m0 a0 48) := (Eq.trans (zs_ne hmm182 (Or.inr (by decide))) (Eq.trans (zs_ne hmm180 (Or.inr (by decide))) (zfr_ap hfm159 hc0 rfl)))
                    have r188 : (-2147483648) ≤ (m182 a0 4) ∧ (m182 a0 4) ≤ 2147483647 := zi_rd hIm182 hc0 zb_28_4
                    have e189 : (m182 a0 4) = 1 := (Eq.trans (zs_ne hmm182 (Or.inr (by decide))) (zs_eq hmm180))
                    exact zw_some ⟨hIm182, hFm182, hRC0m182, hRCRm182, hRKNm182, hRLRm182, hRLTm182, hRNSm182, hRTRm182, hRWDm182, ⟨by omega, by omega⟩, by omega, by omega, by omega⟩
                · refine zw_b (by omega) ?_
                  refine zw_some ?_
                  refine zw_ite (fun h190 => ?_) (fun h190 => ?_)
                  · refine zw_bd (zw_mono (zk_89 n hIm159 hc0 hRNSm159 hRWDm159) (fun v192 m191 hqm191 => ?_))
                    obtain ⟨hIm191, hfm191, hvm191⟩ := hqm191
                    have hFm191 := zfr_tr hFm159 hfm191 rfl
                    obtain ⟨hRNSm191, hRTRm191, hRWDm191, hvm191⟩ := hvm191
                    have hRC0m191 := zR_C0_fr (zdis_fr hfm191 rfl) hRC0m159
                    have hRCRm191 := zR_CR_fr (zdis_fr hfm191 rfl) hRCRm159
                    have hRKNm191 := zR_KN_fr (zdis_fr hfm191 rfl) hRKNm159
                    have hRLRm191 := zR_LR_fr (zdis_fr hfm191 rfl) hRLRm159
                    have hRLTm191 := zR_LT_fr (zdis_fr hfm191 rfl) hRLTm159
                    have s193 := hRNSm191 a0 hc0
                    have s194 := hRTRm191 a0 hc0
                    refine zw_b (by omega) ?_
                    have r195 : 0 ≤ (m191 a0 7) ∧ (m191 a0 7) ≤ 700 := zi_rd hIm191 hc0 zb_28_7
                    have r196 : 0 ≤ (m191 a0 21) ∧ (m191 a0 21) ≤ 64 := zi_rd hIm191 hc0 zb_28_21
                    have e197 : (m191 a0 21) = (m0 a0 21) := (Eq.trans (zfr_ap hfm191 hc0 rfl) (zfr_ap hfm159 hc0 rfl))
                    have r198 : 0 ≤ (m191 a0 48) ∧ (m191 a0 48) ≤ 64 := zi_rd hIm191 hc0 zb_28_48
                    have e199 : (m191 a0 48) = (m0 a0 48) := (Eq.trans (zfr_ap hfm191 hc0 rfl) (zfr_ap hfm159 hc0 rfl))
                    have r200 : (-2147483648) ≤ (m191 a0 4) ∧ (m191 a0 4) ≤ 2147483647 := zi_rd hIm191 hc0 zb_28_4
                    exact zw_some ⟨hIm191, hFm191, hRC0m191, hRCRm191, hRKNm191, hRLRm191, hRLTm191, hRNSm191, hRTRm191, hRWDm191, ⟨by omega, by omega⟩, by omega, by omega, by omega⟩
                  · exfalso; omega
            · refine zw_b (by omega) ?_
              have r201 : 0 ≤ (m159 a0 7) ∧ (m159 a0 7) ≤ 700 := zi_rd hIm159 hc0 zb_28_7
              have r202 : 0 ≤ (m159 a0 21) ∧ (m159 a0 21) ≤ 64 := zi_rd hIm159 hc0 zb_28_21
              have e203 : (m159 a0 21) = (m0 a0 21) := (zfr_ap hfm159 hc0 rfl)
              have r204 : 0 ≤ (m159 a0 48) ∧ (m159 a0 48) ≤ 64 := zi_rd hIm159 hc0 zb_28_48
              have e205 : (m159 a0 48) = (m0 a0 48) := (zfr_ap hfm159 hc0 rfl)
              have r206 : (-2147483648) ≤ (m159 a0 4) ∧ (m159 a0 4) ≤ 2147483647 := zi_rd hIm159 hc0 zb_28_4
              exact zw_some ⟨hIm159, hFm159, hRC0m159, hRCRm159, hRKNm159, hRLRm159, hRLTm159, hRNSm159, hRTRm159, hRWDm159, ⟨by omega, by omega⟩, by omega, by omega, by omega⟩
        · have w207 := zu_w32_id (z := (m0 a0 9) - 1) (by omega) (by omega)
          have w208 := zu_w32_id (z := (zu_w32 ((m0 a0 9) - 1)) + 1) (by omega) (by omega)
          refine zw_bd (zw_mono (zk_100 n hIm0 hc0 ⟨by omega, by omega⟩ ⟨by omega, by omega⟩ ⟨by omega, by omega⟩ hRCRm0 hRLRm0 hRNSm0 hRTRm0 hRWDm0) (fun v210 m209 hqm209 => ?_))
          obtain ⟨hIm209, hfm209, hvm209⟩ := hqm209
          have hFm209 := zfr_tr hFm0 hfm209 rfl
          obtain ⟨hRCRm209, hRLRm209, hRNSm209, hRTRm209, hRWDm209, hvm209⟩ := hvm209
          have hRC0m209 := zR_C0_fr (zdis_fr hfm209 rfl) hRC0m0
          have hRKNm209 := zR_KN_fr (zdis_fr hfm209 rfl) hRKNm0
          have hRLTm209 := zR_LT_fr (zdis_fr hfm209 rfl) hRLTm0
          have s211 := hRNSm209 a0 hc0
          have s212 := hRTRm209 a0 hc0
          refine zw_ite (fun h213 => ?_) (fun h213 => ?_)
          · refine zw_bd (zw_eq (zu_call_at (zt_T n) (zm_93 n) (zdp_93 n) _ _ _ _ _ rfl (zr_93_0 n _ _ a0 59 m209)) ?_)
            have r214 : 0 ≤ (m209 a0 8) ∧ (m209 a0 8) ≤ 6 := zi_rd hIm209 hc0 zb_28_8
            refine zw_ite (fun h215 => ?_) (fun h215 => ?_)
            · refine zw_b (by omega) ?_
              refine zw_some ?_
              refine zw_ite (fun h216 => ?_) (fun h216 => ?_)
              · exfalso; omega
              · refine zw_bd (zw_eq (zu_call_at (zt_T n) (zm_85 n) (zdp_85 n) _ _ _ _ _ rfl (zr_85_0 n _ _ a0 1 m209)) ?_)
                generalize hmm217 : zu_up m209 a0 4 1 = m217
                have hIm217 := zi_up hmm217 hIm209 hc0 zb_28_4 (by omega) (by omega)
                have hFm217 := zfr_up hmm217 hFm209 hc0 rfl
                have hRC0m217 := zR_C0_fr (zdis_fr (zfr_up hmm217 (zfr_rf [(28, 5)] _) hc0 rfl) rfl) hRC0m209
                have hRCRm217 := zR_CR_fr (zdis_fr (zfr_up hmm217 (zfr_rf [(28, 5)] _) hc0 rfl) rfl) hRCRm209
                have hRKNm217 := zR_KN_fr (zdis_fr (zfr_up hmm217 (zfr_rf [(28, 5)] _) hc0 rfl) rfl) hRKNm209
                have hRLTm217 := zR_LT_fr (zdis_fr (zfr_up hmm217 (zfr_rf [(28, 5)] _) hc0 rfl) rfl) hRLTm209
                have hRNSm217 := zR_NS_fr (zdis_fr (zfr_up hmm217 (zfr_rf [(28, 5)] _) hc0 rfl) rfl) hRNSm209
                have hRTRm217 := zR_TR_fr (zdis_fr (zfr_up hmm217 (zfr_rf [(28, 5)] _) hc0 rfl) rfl) hRTRm209
                have hRWDm217 := zR_WD_fr (zdis_fr (zfr_up hmm217 (zfr_rf [(28, 5)] _) hc0 rfl) rfl) hRWDm209
                have hRLRm217 := zLR_wr (zone_190 hc0) hmm217 (by decide)
                have r218 : 0 ≤ (m217 a0 10) ∧ (m217 a0 10) ≤ 700 := zi_rd hIm217 hc0 zb_28_10
                generalize hmm219 : zu_up m217 a0 5 (m217 a0 10) = m219
                have hIm219 := zi_up hmm219 hIm217 hc0 zb_28_5 (by omega) (by omega)
                have hFm219 := zfr_up hmm219 hFm217 hc0 rfl
                have hRC0m219 := zR_C0_fr (zdis_fr (zfr_up hmm219 (zfr_rf [(28, 6)] _) hc0 rfl) rfl) hRC0m217
                have hRCRm219 := zR_CR_fr (zdis_fr (zfr_up hmm219 (zfr_rf [(28, 6)] _) hc0 rfl) rfl) hRCRm217
                have hRKNm219 := zR_KN_fr (zdis_fr (zfr_up hmm219 (zfr_rf [(28, 6)] _) hc0 rfl) rfl) hRKNm217
                have hRLRm219 := zR_LR_fr (zdis_fr (zfr_up hmm219 (zfr_rf [(28, 6)] _) hc0 rfl) rfl) hRLRm217
                have hRLTm219 := zR_LT_fr (zdis_fr (zfr_up hmm219 (zfr_rf [(28, 6)] _) hc0 rfl) rfl) hRLTm217
                have hRNSm219 := zR_NS_fr (zdis_fr (zfr_up hmm219 (zfr_rf [(28, 6)] _) hc0 rfl) rfl) hRNSm217
                have hRTRm219 := zR_TR_fr (zdis_fr (zfr_up hmm219 (zfr_rf [(28, 6)] _) hc0 rfl) rfl) hRTRm217
                have hRWDm219 := zR_WD_fr (zdis_fr (zfr_up hmm219 (zfr_rf [(28, 6)] _) hc0 rfl) rfl) hRWDm217
                refine zw_b (by omega) ?_
                refine zw_some ?_
                refine zw_b (by omega) ?_
                have r220 : 0 ≤ (m219 a0 7) ∧ (m219 a0 7) ≤ 700 := zi_rd hIm219 hc0 zb_28_7
                have r221 : 0 ≤ (m219 a0 21) ∧ (m219 a0 21) ≤ 64 := zi_rd hIm219 hc0 zb_28_21
                have e222 : (m219 a0 21) = (m0 a0 21) := (Eq.trans (zs_ne hmm219 (Or.inr (by decide))) (Eq.trans (zs_ne hmm217 (Or.inr (by decide))) (zfr_ap hfm209 hc0 rfl)))
                have r223 : 0 ≤ (m219 a0 48) ∧ (m219 a0 48) ≤ 64 := zi_rd hIm219 hc0 zb_28_48
                have e224 : (m219 a0 48) = (m0 a0 48) := (Eq.trans (zs_ne hmm219 (Or.inr (by decide))) (Eq.trans (zs_ne hmm217 (Or.inr (by decide))) (zfr_ap hfm209 hc0 rfl)))
                have r225 : (-2147483648) ≤ (m219 a0 4) ∧ (m219 a0 4) ≤ 2147483647 := zi_rd hIm219 hc0 zb_28_4
                have e226 : (m219 a0 4) = 1 := (Eq.trans (zs_ne hmm219 (Or.inr (by decide))) (zs_eq hmm217))
                exact zw_some ⟨hIm219, hFm219, hRC0m219, hRCRm219, hRKNm219, hRLRm219, hRLTm219, hRNSm219, hRTRm219, hRWDm219, ⟨by omega, by omega⟩, by omega, by omega, by omega⟩
            · have r227 : (-2147483648) ≤ (m209 a0 9) ∧ (m209 a0 9) ≤ 2147483647 := zi_rd hIm209 hc0 zb_28_9
              refine zw_ite (fun h228 => ?_) (fun h228 => ?_)
              · refine zw_b (by omega) ?_
                refine zw_some ?_
                refine zw_ite (fun h229 => ?_) (fun h229 => ?_)
                · exfalso; omega
                · refine zw_bd (zw_eq (zu_call_at (zt_T n) (zm_85 n) (zdp_85 n) _ _ _ _ _ rfl (zr_85_0 n _ _ a0 1 m209)) ?_)
                  generalize hmm230 : zu_up m209 a0 4 1 = m230
                  have hIm230 := zi_up hmm230 hIm209 hc0 zb_28_4 (by omega) (by omega)
                  have hFm230 := zfr_up hmm230 hFm209 hc0 rfl
                  have hRC0m230 := zR_C0_fr (zdis_fr (zfr_up hmm230 (zfr_rf [(28, 5)] _) hc0 rfl) rfl) hRC0m209
                  have hRCRm230 := zR_CR_fr (zdis_fr (zfr_up hmm230 (zfr_rf [(28, 5)] _) hc0 rfl) rfl) hRCRm209
                  have hRKNm230 := zR_KN_fr (zdis_fr (zfr_up hmm230 (zfr_rf [(28, 5)] _) hc0 rfl) rfl) hRKNm209
                  have hRLTm230 := zR_LT_fr (zdis_fr (zfr_up hmm230 (zfr_rf [(28, 5)] _) hc0 rfl) rfl) hRLTm209
                  have hRNSm230 := zR_NS_fr (zdis_fr (zfr_up hmm230 (zfr_rf [(28, 5)] _) hc0 rfl) rfl) hRNSm209
                  have hRTRm230 := zR_TR_fr (zdis_fr (zfr_up hmm230 (zfr_rf [(28, 5)] _) hc0 rfl) rfl) hRTRm209
                  have hRWDm230 := zR_WD_fr (zdis_fr (zfr_up hmm230 (zfr_rf [(28, 5)] _) hc0 rfl) rfl) hRWDm209
                  have hRLRm230 := zLR_wr (zone_190 hc0) hmm230 (by decide)
                  have r231 : 0 ≤ (m230 a0 10) ∧ (m230 a0 10) ≤ 700 := zi_rd hIm230 hc0 zb_28_10
                  generalize hmm232 : zu_up m230 a0 5 (m230 a0 10) = m232
                  have hIm232 := zi_up hmm232 hIm230 hc0 zb_28_5 (by omega) (by omega)
                  have hFm232 := zfr_up hmm232 hFm230 hc0 rfl
                  have hRC0m232 := zR_C0_fr (zdis_fr (zfr_up hmm232 (zfr_rf [(28, 6)] _) hc0 rfl) rfl) hRC0m230
                  have hRCRm232 := zR_CR_fr (zdis_fr (zfr_up hmm232 (zfr_rf [(28, 6)] _) hc0 rfl) rfl) hRCRm230
                  have hRKNm232 := zR_KN_fr (zdis_fr (zfr_up hmm232 (zfr_rf [(28, 6)] _) hc0 rfl) rfl) hRKNm230
                  have hRLRm232 := zR_LR_fr (zdis_fr (zfr_up hmm232 (zfr_rf [(28, 6)] _) hc0 rfl) rfl) hRLRm230
                  have hRLTm232 := zR_LT_fr (zdis_fr (zfr_up hmm232 (zfr_rf [(28, 6)] _) hc0 rfl) rfl) hRLTm230
                  have hRNSm232 := zR_NS_fr (zdis_fr (zfr_up hmm232 (zfr_rf [(28, 6)] _) hc0 rfl) rfl) hRNSm230
                  have hRTRm232 := zR_TR_fr (zdis_fr (zfr_up hmm232 (zfr_rf [(28, 6)] _) hc0 rfl) rfl) hRTRm230
                  have hRWDm232 := zR_WD_fr (zdis_fr (zfr_up hmm232 (zfr_rf [(28, 6)] _) hc0 rfl) rfl) hRWDm230
                  refine zw_b (by omega) ?_
                  refine zw_some ?_
                  refine zw_b (by omega) ?_
                  have r233 : 0 ≤ (m232 a0 7) ∧ (m232 a0 7) ≤ 700 := zi_rd hIm232 hc0 zb_28_7
                  have r234 : 0 ≤ (m232 a0 21) ∧ (m232 a0 21) ≤ 64 := zi_rd hIm232 hc0 zb_28_21
                  have e235 : (m232 a0 21) = (m0 a0 21) := (Eq.trans (zs_ne hmm232 (Or.inr (by decide))) (Eq.trans (zs_ne hmm230 (Or.inr (by decide))) (zfr_ap hfm209 hc0 rfl)))
                  have r236 : 0 ≤ (m232 a0 48) ∧ (m232 a0 48) ≤ 64 := zi_rd hIm232 hc0 zb_28_48
                  have e237 : (m232 a0 48) = (m0 a0 48) := (Eq.trans (zs_ne hmm232 (Or.inr (by decide))) (Eq.trans (zs_ne hmm230 (Or.inr (by decide))) (zfr_ap hfm209 hc0 rfl)))
                  have r238 : (-2147483648) ≤ (m232 a0 4) ∧ (m232 a0 4) ≤ 2147483647 := zi_rd hIm232 hc0 zb_28_4
                  have e239 : (m232 a0 4) = 1 := (Eq.trans (zs_ne hmm232 (Or.inr (by decide))) (zs_eq hmm230))
                  exact zw_some ⟨hIm232, hFm232, hRC0m232, hRCRm232, hRKNm232, hRLRm232, hRLTm232, hRNSm232, hRTRm232, hRWDm232, ⟨by omega, by omega⟩, by omega, by omega, by omega⟩
              · refine zw_b (by omega) ?_
                refine zw_some ?_
                refine zw_ite (fun h240 => ?_) (fun h240 => ?_)
                · refine zw_bd (zw_mono (zk_89 n hIm209 hc0 hRNSm209 hRWDm209) (fun v242 m241 hqm241 => ?_))
                  obtain ⟨hIm241, hfm241, hvm241⟩ := hqm241
                  have hFm241 := zfr_tr hFm209 hfm241 rfl
                  obtain ⟨hRNSm241, hRTRm241, hRWDm241, hvm241⟩ := hvm241
                  have hRC0m241 := zR_C0_fr (zdis_fr hfm241 rfl) hRC0m209
                  have hRCRm241 := zR_CR_fr (zdis_fr hfm241 rfl) hRCRm209
                  have hRKNm241 := zR_KN_fr (zdis_fr hfm241 rfl) hRKNm209
                  have hRLRm241 := zR_LR_fr (zdis_fr hfm241 rfl) hRLRm209
                  have hRLTm241 := zR_LT_fr (zdis_fr hfm241 rfl) hRLTm209
                  have s243 := hRNSm241 a0 hc0
                  have s244 := hRTRm241 a0 hc0
                  refine zw_b (by omega) ?_
                  have r245 : 0 ≤ (m241 a0 7) ∧ (m241 a0 7) ≤ 700 := zi_rd hIm241 hc0 zb_28_7
                  have r246 : 0 ≤ (m241 a0 21) ∧ (m241 a0 21) ≤ 64 := zi_rd hIm241 hc0 zb_28_21
                  have e247 : (m241 a0 21) = (m0 a0 21) := (Eq.trans (zfr_ap hfm241 hc0 rfl) (zfr_ap hfm209 hc0 rfl))
                  have r248 : 0 ≤ (m241 a0 48) ∧ (m241 a0 48) ≤ 64 := zi_rd hIm241 hc0 zb_28_48
                  have e249 : (m241 a0 48) = (m0 a0 48) := (Eq.trans (zfr_ap hfm241 hc0 rfl) (zfr_ap hfm209 hc0 rfl))
                  have r250 : (-2147483648) ≤ (m241 a0 4) ∧ (m241 a0 4) ≤ 2147483647 := zi_rd hIm241 hc0 zb_28_4
                  exact zw_some ⟨hIm241, hFm241, hRC0m241, hRCRm241, hRKNm241, hRLRm241, hRLTm241, hRNSm241, hRTRm241, hRWDm241, ⟨by omega, by omega⟩, by omega, by omega, by omega⟩
                · exfalso; omega
          · refine zw_b (by omega) ?_
            have r251 : 0 ≤ (m209 a0 7) ∧ (m209 a0 7) ≤ 700 := zi_rd hIm209 hc0 zb_28_7
            have r252 : 0 ≤ (m209 a0 21) ∧ (m209 a0 21) ≤ 64 := zi_rd hIm209 hc0 zb_28_21
            have e253 : (m209 a0 21) = (m0 a0 21) := (zfr_ap hfm209 hc0 rfl)
            have r254 : 0 ≤ (m209 a0 48) ∧ (m209 a0 48) ≤ 64 := zi_rd hIm209 hc0 zb_28_48
            have e255 : (m209 a0 48) = (m0 a0 48) := (zfr_ap hfm209 hc0 rfl)
            have r256 : (-2147483648) ≤ (m209 a0 4) ∧ (m209 a0 4) ≤ 2147483647 := zi_rd hIm209 hc0 zb_28_4
            exact zw_some ⟨hIm209, hFm209, hRC0m209, hRCRm209, hRKNm209, hRLRm209, hRLTm209, hRNSm209, hRTRm209, hRWDm209, ⟨by omega, by omega⟩, by omega, by omega, by omega⟩
      · refine zw_bd (zw_mono (zk_99 n hIm0 hc0 hRCRm0 hRLRm0 hRNSm0 hRTRm0 hRWDm0) (fun v258 m257 hqm257 => ?_))
        obtain ⟨hIm257, hfm257, hvm257⟩ := hqm257
        have hFm257 := zfr_tr hFm0 hfm257 rfl
        obtain ⟨hRCRm257, hRLRm257, hRNSm257, hRTRm257, hRWDm257, hvm257⟩ := hvm257
        have hRC0m257 := zR_C0_fr (zdis_fr hfm257 rfl) hRC0m0
        have hRKNm257 := zR_KN_fr (zdis_fr hfm257 rfl) hRKNm0
        have hRLTm257 := zR_LT_fr (zdis_fr hfm257 rfl) hRLTm0
        have s259 := hRNSm257 a0 hc0
        have s260 := hRTRm257 a0 hc0
        refine zw_ite (fun h261 => ?_) (fun h261 => ?_)
        · refine zw_bd (zw_eq (zu_call_at (zt_T n) (zm_93 n) (zdp_93 n) _ _ _ _ _ rfl (zr_93_0 n _ _ a0 59 m257)) ?_)
          have r262 : 0 ≤ (m257 a0 8) ∧ (m257 a0 8) ≤ 6 := zi_rd hIm257 hc0 zb_28_8
          refine zw_ite (fun h263 => ?_) (fun h263 => ?_)
          · refine zw_b (by omega) ?_
            refine zw_some ?_
            refine zw_ite (fun h264 => ?_) (fun h264 => ?_)
            · exfalso; omega
            · refine zw_bd (zw_eq (zu_call_at (zt_T n) (zm_85 n) (zdp_85 n) _ _ _ _ _ rfl (zr_85_0 n _ _ a0 1 m257)) ?_)
              generalize hmm265 : zu_up m257 a0 4 1 = m265
              have hIm265 := zi_up hmm265 hIm257 hc0 zb_28_4 (by omega) (by omega)
              have hFm265 := zfr_up hmm265 hFm257 hc0 rfl
              have hRC0m265 := zR_C0_fr (zdis_fr (zfr_up hmm265 (zfr_rf [(28, 5)] _) hc0 rfl) rfl) hRC0m257
              have hRCRm265 := zR_CR_fr (zdis_fr (zfr_up hmm265 (zfr_rf [(28, 5)] _) hc0 rfl) rfl) hRCRm257
              have hRKNm265 := zR_KN_fr (zdis_fr (zfr_up hmm265 (zfr_rf [(28, 5)] _) hc0 rfl) rfl) hRKNm257
              have hRLTm265 := zR_LT_fr (zdis_fr (zfr_up hmm265 (zfr_rf [(28, 5)] _) hc0 rfl) rfl) hRLTm257
              have hRNSm265 := zR_NS_fr (zdis_fr (zfr_up hmm265 (zfr_rf [(28, 5)] _) hc0 rfl) rfl) hRNSm257
              have hRTRm265 := zR_TR_fr (zdis_fr (zfr_up hmm265 (zfr_rf [(28, 5)] _) hc0 rfl) rfl) hRTRm257
              have hRWDm265 := zR_WD_fr (zdis_fr (zfr_up hmm265 (zfr_rf [(28, 5)] _) hc0 rfl) rfl) hRWDm257
              have hRLRm265 := zLR_wr (zone_190 hc0) hmm265 (by decide)
              have r266 : 0 ≤ (m265 a0 10) ∧ (m265 a0 10) ≤ 700 := zi_rd hIm265 hc0 zb_28_10
              generalize hmm267 : zu_up m265 a0 5 (m265 a0 10) = m267
              have hIm267 := zi_up hmm267 hIm265 hc0 zb_28_5 (by omega) (by omega)
              have hFm267 := zfr_up hmm267 hFm265 hc0 rfl
              have hRC0m267 := zR_C0_fr (zdis_fr (zfr_up hmm267 (zfr_rf [(28, 6)] _) hc0 rfl) rfl) hRC0m265
              have hRCRm267 := zR_CR_fr (zdis_fr (zfr_up hmm267 (zfr_rf [(28, 6)] _) hc0 rfl) rfl) hRCRm265
              have hRKNm267 := zR_KN_fr (zdis_fr (zfr_up hmm267 (zfr_rf [(28, 6)] _) hc0 rfl) rfl) hRKNm265
              have hRLRm267 := zR_LR_fr (zdis_fr (zfr_up hmm267 (zfr_rf [(28, 6)] _) hc0 rfl) rfl) hRLRm265
              have hRLTm267 := zR_LT_fr (zdis_fr (zfr_up hmm267 (zfr_rf [(28, 6)] _) hc0 rfl) rfl) hRLTm265
              have hRNSm267 := zR_NS_fr (zdis_fr (zfr_up hmm267 (zfr_rf [(28, 6)] _) hc0 rfl) rfl) hRNSm265
              have hRTRm267 := zR_TR_fr (zdis_fr (zfr_up hmm267 (zfr_rf [(28, 6)] _) hc0 rfl) rfl) hRTRm265
              have hRWDm267 := zR_WD_fr (zdis_fr (zfr_up hmm267 (zfr_rf [(28, 6)] _) hc0 rfl) rfl) hRWDm265
              refine zw_b (by omega) ?_
              refine zw_some ?_
              refine zw_b (by omega) ?_
              have r268 : 0 ≤ (m267 a0 7) ∧ (m267 a0 7) ≤ 700 := zi_rd hIm267 hc0 zb_28_7
              have r269 : 0 ≤ (m267 a0 21) ∧ (m267 a0 21) ≤ 64 := zi_rd hIm267 hc0 zb_28_21
              have e270 : (m267 a0 21) = (m0 a0 21) := (Eq.trans (zs_ne hmm267 (Or.inr (by decide))) (Eq.trans (zs_ne hmm265 (Or.inr (by decide))) (zfr_ap hfm257 hc0 rfl)))
              have r271 : 0 ≤ (m267 a0 48) ∧ (m267 a0 48) ≤ 64 := zi_rd hIm267 hc0 zb_28_48
              have e272 : (m267 a0 48) = (m0 a0 48) := (Eq.trans (zs_ne hmm267 (Or.inr (by decide))) (Eq.trans (zs_ne hmm265 (Or.inr (by decide))) (zfr_ap hfm257 hc0 rfl)))
              have r273 : (-2147483648) ≤ (m267 a0 4) ∧ (m267 a0 4) ≤ 2147483647 := zi_rd hIm267 hc0 zb_28_4
              have e274 : (m267 a0 4) = 1 := (Eq.trans (zs_ne hmm267 (Or.inr (by decide))) (zs_eq hmm265))
              exact zw_some ⟨hIm267, hFm267, hRC0m267, hRCRm267, hRKNm267, hRLRm267, hRLTm267, hRNSm267, hRTRm267, hRWDm267, ⟨by omega, by omega⟩, by omega, by omega, by omega⟩
          · have r275 : (-2147483648) ≤ (m257 a0 9) ∧ (m257 a0 9) ≤ 2147483647 := zi_rd hIm257 hc0 zb_28_9
            refine zw_ite (fun h276 => ?_) (fun h276 => ?_)
            · refine zw_b (by omega) ?_
              refine zw_some ?_
              refine zw_ite (fun h277 => ?_) (fun h277 => ?_)
              · exfalso; omega
              · refine zw_bd (zw_eq (zu_call_at (zt_T n) (zm_85 n) (zdp_85 n) _ _ _ _ _ rfl (zr_85_0 n _ _ a0 1 m257)) ?_)
                generalize hmm278 : zu_up m257 a0 4 1 = m278
                have hIm278 := zi_up hmm278 hIm257 hc0 zb_28_4 (by omega) (by omega)
                have hFm278 := zfr_up hmm278 hFm257 hc0 rfl
                have hRC0m278 := zR_C0_fr (zdis_fr (zfr_up hmm278 (zfr_rf [(28, 5)] _) hc0 rfl) rfl) hRC0m257
                have hRCRm278 := zR_CR_fr (zdis_fr (zfr_up hmm278 (zfr_rf [(28, 5)] _) hc0 rfl) rfl) hRCRm257
                have hRKNm278 := zR_KN_fr (zdis_fr (zfr_up hmm278 (zfr_rf [(28, 5)] _) hc0 rfl) rfl) hRKNm257
                have hRLTm278 := zR_LT_fr (zdis_fr (zfr_up hmm278 (zfr_rf [(28, 5)] _) hc0 rfl) rfl) hRLTm257
                have hRNSm278 := zR_NS_fr (zdis_fr (zfr_up hmm278 (zfr_rf [(28, 5)] _) hc0 rfl) rfl) hRNSm257
                have hRTRm278 := zR_TR_fr (zdis_fr (zfr_up hmm278 (zfr_rf [(28, 5)] _) hc0 rfl) rfl) hRTRm257
                have hRWDm278 := zR_WD_fr (zdis_fr (zfr_up hmm278 (zfr_rf [(28, 5)] _) hc0 rfl) rfl) hRWDm257
                have hRLRm278 := zLR_wr (zone_190 hc0) hmm278 (by decide)
                have r279 : 0 ≤ (m278 a0 10) ∧ (m278 a0 10) ≤ 700 := zi_rd hIm278 hc0 zb_28_10
                generalize hmm280 : zu_up m278 a0 5 (m278 a0 10) = m280
                have hIm280 := zi_up hmm280 hIm278 hc0 zb_28_5 (by omega) (by omega)
                have hFm280 := zfr_up hmm280 hFm278 hc0 rfl
                have hRC0m280 := zR_C0_fr (zdis_fr (zfr_up hmm280 (zfr_rf [(28, 6)] _) hc0 rfl) rfl) hRC0m278
                have hRCRm280 := zR_CR_fr (zdis_fr (zfr_up hmm280 (zfr_rf [(28, 6)] _) hc0 rfl) rfl) hRCRm278
                have hRKNm280 := zR_KN_fr (zdis_fr (zfr_up hmm280 (zfr_rf [(28, 6)] _) hc0 rfl) rfl) hRKNm278
                have hRLRm280 := zR_LR_fr (zdis_fr (zfr_up hmm280 (zfr_rf [(28, 6)] _) hc0 rfl) rfl) hRLRm278
                have hRLTm280 := zR_LT_fr (zdis_fr (zfr_up hmm280 (zfr_rf [(28, 6)] _) hc0 rfl) rfl) hRLTm278
                have hRNSm280 := zR_NS_fr (zdis_fr (zfr_up hmm280 (zfr_rf [(28, 6)] _) hc0 rfl) rfl) hRNSm278
                have hRTRm280 := zR_TR_fr (zdis_fr (zfr_up hmm280 (zfr_rf [(28, 6)] _) hc0 rfl) rfl) hRTRm278
                have hRWDm280 := zR_WD_fr (zdis_fr (zfr_up hmm280 (zfr_rf [(28, 6)] _) hc0 rfl) rfl) hRWDm278
                refine zw_b (by omega) ?_
                refine zw_some ?_
                refine zw_b (by omega) ?_
                have r281 : 0 ≤ (m280 a0 7) ∧ (m280 a0 7) ≤ 700 := zi_rd hIm280 hc0 zb_28_7
                have r282 : 0 ≤ (m280 a0 21) ∧ (m280 a0 21) ≤ 64 := zi_rd hIm280 hc0 zb_28_21
                have e283 : (m280 a0 21) = (m0 a0 21) := (Eq.trans (zs_ne hmm280 (Or.inr (by decide))) (Eq.trans (zs_ne hmm278 (Or.inr (by decide))) (zfr_ap hfm257 hc0 rfl)))
                have r284 : 0 ≤ (m280 a0 48) ∧ (m280 a0 48) ≤ 64 := zi_rd hIm280 hc0 zb_28_48
                have e285 : (m280 a0 48) = (m0 a0 48) := (Eq.trans (zs_ne hmm280 (Or.inr (by decide))) (Eq.trans (zs_ne hmm278 (Or.inr (by decide))) (zfr_ap hfm257 hc0 rfl)))
                have r286 : (-2147483648) ≤ (m280 a0 4) ∧ (m280 a0 4) ≤ 2147483647 := zi_rd hIm280 hc0 zb_28_4
                have e287 : (m280 a0 4) = 1 := (Eq.trans (zs_ne hmm280 (Or.inr (by decide))) (zs_eq hmm278))
                exact zw_some ⟨hIm280, hFm280, hRC0m280, hRCRm280, hRKNm280, hRLRm280, hRLTm280, hRNSm280, hRTRm280, hRWDm280, ⟨by omega, by omega⟩, by omega, by omega, by omega⟩
            · refine zw_b (by omega) ?_
              refine zw_some ?_
              refine zw_ite (fun h288 => ?_) (fun h288 => ?_)
              · refine zw_bd (zw_mono (zk_89 n hIm257 hc0 hRNSm257 hRWDm257) (fun v290 m289 hqm289 => ?_))
                obtain ⟨hIm289, hfm289, hvm289⟩ := hqm289
                have hFm289 := zfr_tr hFm257 hfm289 rfl
                obtain ⟨hRNSm289, hRTRm289, hRWDm289, hvm289⟩ := hvm289
                have hRC0m289 := zR_C0_fr (zdis_fr hfm289 rfl) hRC0m257
                have hRCRm289 := zR_CR_fr (zdis_fr hfm289 rfl) hRCRm257
                have hRKNm289 := zR_KN_fr (zdis_fr hfm289 rfl) hRKNm257
                have hRLRm289 := zR_LR_fr (zdis_fr hfm289 rfl) hRLRm257
                have hRLTm289 := zR_LT_fr (zdis_fr hfm289 rfl) hRLTm257
                have s291 := hRNSm289 a0 hc0
                have s292 := hRTRm289 a0 hc0
                refine zw_b (by omega) ?_
                have r293 : 0 ≤ (m289 a0 7) ∧ (m289 a0 7) ≤ 700 := zi_rd hIm289 hc0 zb_28_7
                have r294 : 0 ≤ (m289 a0 21) ∧ (m289 a0 21) ≤ 64 := zi_rd hIm289 hc0 zb_28_21
                have e295 : (m289 a0 21) = (m0 a0 21) := (Eq.trans (zfr_ap hfm289 hc0 rfl) (zfr_ap hfm257 hc0 rfl))
                have r296 : 0 ≤ (m289 a0 48) ∧ (m289 a0 48) ≤ 64 := zi_rd hIm289 hc0 zb_28_48
                have e297 : (m289 a0 48) = (m0 a0 48) := (Eq.trans (zfr_ap hfm289 hc0 rfl) (zfr_ap hfm257 hc0 rfl))
                have r298 : (-2147483648) ≤ (m289 a0 4) ∧ (m289 a0 4) ≤ 2147483647 := zi_rd hIm289 hc0 zb_28_4
                exact zw_some ⟨hIm289, hFm289, hRC0m289, hRCRm289, hRKNm289, hRLRm289, hRLTm289, hRNSm289, hRTRm289, hRWDm289, ⟨by omega, by omega⟩, by omega, by omega, by omega⟩
              · exfalso; omega
        · refine zw_b (by omega) ?_
          have r299 : 0 ≤ (m257 a0 7) ∧ (m257 a0 7) ≤ 700 := zi_rd hIm257 hc0 zb_28_7
          have r300 : 0 ≤ (m257 a0 21) ∧ (m257 a0 21) ≤ 64 := zi_rd hIm257 hc0 zb_28_21
          have e301 : (m257 a0 21) = (m0 a0 21) := (zfr_ap hfm257 hc0 rfl)
          have r302 : 0 ≤ (m257 a0 48) ∧ (m257 a0 48) ≤ 64 := zi_rd hIm257 hc0 zb_28_48
          have e303 : (m257 a0 48) = (m0 a0 48) := (zfr_ap hfm257 hc0 rfl)
          have r304 : (-2147483648) ≤ (m257 a0 4) ∧ (m257 a0 4) ≤ 2147483647 := zi_rd hIm257 hc0 zb_28_4
          exact zw_some ⟨hIm257, hFm257, hRC0m257, hRCRm257, hRKNm257, hRLRm257, hRLTm257, hRNSm257, hRTRm257, hRWDm257, ⟨by omega, by omega⟩, by omega, by omega, by omega⟩
    · refine zw_bd (zw_eq (zu_call_at (zt_T n) (zm_85 n) (zdp_85 n) _ _ _ _ _ rfl (zr_85_0 n _ _ a0 1 m0)) ?_)
      generalize hmm305 : zu_up m0 a0 4 1 = m305
      have hIm305 := zi_up hmm305 hIm0 hc0 zb_28_4 (by omega) (by omega)
      have hFm305 := zfr_up hmm305 hFm0 hc0 rfl
      have hRC0m305 := zR_C0_fr (zdis_fr (zfr_up hmm305 (zfr_rf [(28, 5)] _) hc0 rfl) rfl) hRC0m0
      have hRCRm305 := zR_CR_fr (zdis_fr (zfr_up hmm305 (zfr_rf [(28, 5)] _) hc0 rfl) rfl) hRCRm0
      have hRKNm305 := zR_KN_fr (zdis_fr (zfr_up hmm305 (zfr_rf [(28, 5)] _) hc0 rfl) rfl) hRKNm0
      have hRLTm305 := zR_LT_fr (zdis_fr (zfr_up hmm305 (zfr_rf [(28, 5)] _) hc0 rfl) rfl) hRLTm0
      have hRNSm305 := zR_NS_fr (zdis_fr (zfr_up hmm305 (zfr_rf [(28, 5)] _) hc0 rfl) rfl) hRNSm0
      have hRTRm305 := zR_TR_fr (zdis_fr (zfr_up hmm305 (zfr_rf [(28, 5)] _) hc0 rfl) rfl) hRTRm0
      have hRWDm305 := zR_WD_fr (zdis_fr (zfr_up hmm305 (zfr_rf [(28, 5)] _) hc0 rfl) rfl) hRWDm0
      have hRLRm305 := zLR_wr (zone_190 hc0) hmm305 (by decide)
      have r306 : 0 ≤ (m305 a0 10) ∧ (m305 a0 10) ≤ 700 := zi_rd hIm305 hc0 zb_28_10
      generalize hmm307 : zu_up m305 a0 5 (m305 a0 10) = m307
      have hIm307 := zi_up hmm307 hIm305 hc0 zb_28_5 (by omega) (by omega)
      have hFm307 := zfr_up hmm307 hFm305 hc0 rfl
      have hRC0m307 := zR_C0_fr (zdis_fr (zfr_up hmm307 (zfr_rf [(28, 6)] _) hc0 rfl) rfl) hRC0m305
      have hRCRm307 := zR_CR_fr (zdis_fr (zfr_up hmm307 (zfr_rf [(28, 6)] _) hc0 rfl) rfl) hRCRm305
      have hRKNm307 := zR_KN_fr (zdis_fr (zfr_up hmm307 (zfr_rf [(28, 6)] _) hc0 rfl) rfl) hRKNm305
      have hRLRm307 := zR_LR_fr (zdis_fr (zfr_up hmm307 (zfr_rf [(28, 6)] _) hc0 rfl) rfl) hRLRm305
      have hRLTm307 := zR_LT_fr (zdis_fr (zfr_up hmm307 (zfr_rf [(28, 6)] _) hc0 rfl) rfl) hRLTm305
      have hRNSm307 := zR_NS_fr (zdis_fr (zfr_up hmm307 (zfr_rf [(28, 6)] _) hc0 rfl) rfl) hRNSm305
      have hRTRm307 := zR_TR_fr (zdis_fr (zfr_up hmm307 (zfr_rf [(28, 6)] _) hc0 rfl) rfl) hRTRm305
      have hRWDm307 := zR_WD_fr (zdis_fr (zfr_up hmm307 (zfr_rf [(28, 6)] _) hc0 rfl) rfl) hRWDm305
      refine zw_b (by omega) ?_
      refine zw_some ?_
      refine zw_b (by omega) ?_
      have r308 : 0 ≤ (m307 a0 7) ∧ (m307 a0 7) ≤ 700 := zi_rd hIm307 hc0 zb_28_7
      have r309 : 0 ≤ (m307 a0 21) ∧ (m307 a0 21) ≤ 64 := zi_rd hIm307 hc0 zb_28_21
      have e310 : (m307 a0 21) = (m0 a0 21) := (Eq.trans (zs_ne hmm307 (Or.inr (by decide))) (zs_ne hmm305 (Or.inr (by decide))))
      have r311 : 0 ≤ (m307 a0 48) ∧ (m307 a0 48) ≤ 64 := zi_rd hIm307 hc0 zb_28_48
      have e312 : (m307 a0 48) = (m0 a0 48) := (Eq.trans (zs_ne hmm307 (Or.inr (by decide))) (zs_ne hmm305 (Or.inr (by decide))))
      have r313 : (-2147483648) ≤ (m307 a0 4) ∧ (m307 a0 4) ≤ 2147483647 := zi_rd hIm307 hc0 zb_28_4
      have e314 : (m307 a0 4) = 1 := (Eq.trans (zs_ne hmm307 (Or.inr (by decide))) (zs_eq hmm305))
      exact zw_some ⟨hIm307, hFm307, hRC0m307, hRCRm307, hRKNm307, hRLRm307, hRLTm307, hRNSm307, hRTRm307, hRWDm307, ⟨by omega, by omega⟩, by omega, by omega, by omega⟩
set_option maxHeartbeats 4000000 in
theorem zk_131 (n : Nat) {a0 a1 a2 a3 : Int} {m0 : zu_m} (hIm0 : zi_I m0) (hc0 : zcls a0 = 28) (ha1 : 0 ≤ a1 ∧ a1 ≤ 1) (ha2 : 0 ≤ a2 ∧ a2 ≤ 3) (ha3 : 0 ≤ a3 ∧ a3 ≤ 17)    (hRKNm0 : zR_KN m0) (hRLTm0 : zR_LT m0) : zw (zu_call (zt_T n) 131 [(40, a0), (0, a1), (0, a2), (0, a3)] m0) (fun v m => zi_I m ∧ zfr [(28, 54), (122, 0), (123, 0)] m0 m ∧ zR_KN m ∧ zR_LT m ∧ ((-2147483648) ≤ v ∧ v ≤ 2147483647)) := by
  have hFm0 : zfr [(28, 54), (122, 0), (123, 0)] m0 m0 := zfr_rf _ _
  refine zw_eq (zu_call_at (zt_T n) (zm_131 n) (zdp_131 n) _ _ _ _ _ rfl (zr_131_0 n _ _ a0 a1 a2 a3 m0)) ?_
  have b1 : 0 ≤ a3 ∧ a3 < 36 := by omega
  refine zw_if b1 ?_
  have r2 : 0 ≤ (m0 198 a3) ∧ (m0 198 a3) ≤ 3 := zi_rd hIm0 zq_198 (zb_107 _)
  have b3 : 0 ≤ a3 ∧ a3 < 36 := by omega
  refine zw_if b3 ?_
  have r4 : 0 ≤ (m0 199 a3) ∧ (m0 199 a3) ≤ 9 := zi_rd hIm0 zq_199 (zb_108 _)
  have b5 : 0 ≤ a3 ∧ a3 < 36 := by omega
  refine zw_if b5 ?_
  have r6 : 0 ≤ (m0 197 a3) ∧ (m0 197 a3) ≤ 47 := zi_rd hIm0 zq_197 (zb_106 _)
  refine zw_bd (zw_mono (zk_130 n hIm0 hc0 ⟨by omega, by omega⟩ ⟨by omega, by omega⟩) (fun v8 m7 hqm7 => ?_))
  obtain ⟨hIm7, hfm7, hvm7⟩ := hqm7
  have hFm7 := zfr_tr hFm0 hfm7 rfl
  have hRKNm7 := zR_KN_fr (zdis_fr hfm7 rfl) hRKNm0
  have hRLTm7 := zR_LT_fr (zdis_fr hfm7 rfl) hRLTm0
  refine zw_bd (zw_mono (zk_129 n hIm7 hc0 ⟨by omega, by omega⟩ ⟨by omega, by omega⟩ ⟨by omega, by omega⟩ ⟨by omega, by omega⟩ ⟨by omega, by omega⟩ hRKNm7 hRLTm7) (fun v10 m9 hqm9 => ?_))
  obtain ⟨hIm9, hfm9, hvm9⟩ := hqm9
  have hFm9 := zfr_tr hFm7 hfm9 rfl
  obtain ⟨hRKNm9, hRLTm9, hvm9⟩ := hvm9
  exact zw_some ⟨hIm9, hFm9, hRKNm9, hRLTm9, ⟨by omega, by omega⟩⟩
set_option maxHeartbeats 4000000 in
theorem zk_138 (n : Nat) {a0 a1 a2 a3 : Int} {m0 : zu_m} (hIm0 : zi_I m0) (hc0 : zcls a0 = 28) (ha1 : 0 ≤ a1 ∧ a1 ≤ 3) (ha2 : 0 ≤ a2 ∧ a2 ≤ 47) (ha3 : (-2147483648) ≤ a3 ∧ a3 ≤ 2147483647)    (hRKNm0 : zR_KN m0) (hRLTm0 : zR_LT m0) : zw (zu_call (zt_T n) 138 [(40, a0), (0, a1), (0, a2), (0, a3)] m0) (fun v m => zi_I m ∧ zfr [(28, 54), (122, 0), (123, 0)] m0 m ∧ zR_KN m ∧ zR_LT m ∧ ((-2147483648) ≤ v ∧ v ≤ 2147483647)) := by
  have hFm0 : zfr [(28, 54), (122, 0), (123, 0)] m0 m0 := zfr_rf _ _
  refine zw_eq (zu_call_at (zt_T n) (zm_138 n) (zdp_138 n) _ _ _ _ _ rfl (zr_138_0 n _ _ a0 a1 a2 a3 m0)) ?_
  refine zw_bd (zw_mono (zk_129 n hIm0 hc0 ⟨by omega, by omega⟩ ⟨by omega, by omega⟩ ⟨by omega, by omega⟩ ⟨by omega, by omega⟩ ⟨by omega, by omega⟩ hRKNm0 hRLTm0) (fun v2 m1 hqm1 => ?_))
  obtain ⟨hIm1, hfm1, hvm1⟩ := hqm1
  have hFm1 := zfr_tr hFm0 hfm1 rfl
  obtain ⟨hRKNm1, hRLTm1, hvm1⟩ := hvm1
  have w3 := zu_w32_rg (100 - v2)
  have w4 := zu_w64_rg (a3 * (zu_w32 (100 - v2)))
  refine zw_nif (by omega) ?_
  have w5 := zu_w64_rg (Int.tdiv (zu_w64 (a3 * (zu_w32 (100 - v2)))) 100)
  have w6 := zu_w32_rg (zu_w64 (Int.tdiv (zu_w64 (a3 * (zu_w32 (100 - v2)))) 100))
  exact zw_some ⟨hIm1, hFm1, hRKNm1, hRLTm1, ⟨by omega, by omega⟩⟩

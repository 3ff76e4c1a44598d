set_option maxHeartbeats 4000000 in
theorem zl_163 (n : Nat) {a0 a1 a2 : Int} {m0 : zu_m} (hc0 : zcls a0 = 28)   : ∀ k : Nat, (∀ (x3 x4 x5 : Int) (mh : zu_m), zi_I mh → zfr [(28, 54), (28, 64), (28, 65), (28, 66), (28, 67), (28, 68), (28, 69), (28, 70), (122, 0), (123, 0), (124, 0), (125, 2), (126, 0), (127, 0), (128, 0), (129, 0), (130, 0), (131, 0)] m0 mh → (0 ≤ a1 ∧ a1 ≤ 2) → (1 ≤ a2 ∧ a2 ≤ 200) → ((-2147483648) ≤ x3 ∧ x3 ≤ 2147483647) → (0 ≤ x4 ∧ x4 ≤ 0) → (0 ≤ x5 ∧ x5 ≤ 4) → (0 ≤ mh 216 1 ∧ mh 216 1 ≤ 16) → (zR_KN mh) → (zR_LT mh) → (zE1 mh 1) → (zE1 mh 0) → (4 - x5) * 1 + 5 < (k : Int) → zw (zu_ex (zt_T n) 163 22 [(40, a0), (0, a1), (0, a2), (0, x3), (0, x4), (0, x5)] [] mh) (fun v m => zi_I m ∧ zfr [(28, 54), (28, 64), (28, 65), (28, 66), (28, 67), (28, 68), (28, 69), (28, 70), (122, 0), (123, 0), (124, 0), (125, 2), (126, 0), (127, 0), (128, 0), (129, 0), (130, 0), (131, 0)] m0 m ∧ zR_KN m ∧ zR_LT m ∧ zE1 m 1 ∧ zE1 m 0 ∧ ((-2147483648) ≤ v ∧ v ≤ 2147483647))) ∧ (∀ (x3 x4 x5 : Int) (mh : zu_m), zi_I mh → zfr [(28, 54), (28, 64), (28, 65), (28, 66), (28, 67), (28, 68), (28, 69), (28, 70), (122, 0), (123, 0), (124, 0), (125, 2), (126, 0), (127, 0), (128, 0), (129, 0), (130, 0), (131, 0)] m0 mh → (0 ≤ a1 ∧ a1 ≤ 2) → (1 ≤ a2 ∧ a2 ≤ 200) → ((-2147483648) ≤ x3 ∧ x3 ≤ 2147483647) → ((-2147483648) ≤ x4 ∧ x4 ≤ 2147483647) → (0 ≤ x5 ∧ x5 ≤ 4) → (0 ≤ mh 216 1 ∧ mh 216 1 ≤ 16) → (zR_KN mh) → (zR_LT mh) → (zE1 mh 1) → (zE1 mh 0) → (4 - x5) * 1 + 0 < (k : Int) → zw (zu_ex (zt_T n) 163 63 [(40, a0), (0, a1), (0, a2), (0, x3), (0, x4), (0, x5)] [] mh) (fun v m => zi_I m ∧ zfr [(28, 54), (28, 64), (28, 65), (28, 66), (28, 67), (28, 68), (28, 69), (28, 70), (122, 0), (123, 0), (124, 0), (125, 2), (126, 0), (127, 0), (128, 0), (129, 0), (130, 0), (131, 0)] m0 m ∧ zR_KN m ∧ zR_LT m ∧ zE1 m 1 ∧ zE1 m 0 ∧ ((-2147483648) ≤ v ∧ v ≤ 2147483647))) := by
  intro k
  induction k with
  | zero => exact ⟨fun x3 x4 x5 mh hImh hFmh hba1 hba2 hbx3 hbx4 hbx5 hg5 hRKNmh hRLTmh hRS1mh hRSEmh hM => by exfalso; omega, fun x3 x4 x5 mh hImh hFmh hba1 hba2 hbx3 hbx4 hbx5 hg5 hRKNmh hRLTmh hRS1mh hRSEmh hM => by exfalso; omega⟩
  | succ k ih =>
    refine ⟨?_, ?_⟩
    · intro x3 x4 x5 mh hImh hFmh hba1 hba2 hbx3 hbx4 hbx5 hg5 hRKNmh hRLTmh hRS1mh hRSEmh hM
      refine zw_eq (zu_rega_at (zt_T n) (zm_163 n) (zdp_163 n) _ _ _ _ _ _ (zr_163_22 n _ _ a0 a1 a2 x3 x4 x5 mh)) ?_
      have r1 : 0 ≤ (mh a0 15) ∧ (mh a0 15) ≤ 4 := zi_rd hImh hc0 zb_28_15
      refine zw_ite (fun h2 => ?_) (fun h2 => ?_)
      · have hM : (4 - 0) * 1 + 0 < (k : Int) := by omega
        exact ih.2 x3 x4 0 mh hImh hFmh ⟨by omega, by omega⟩ ⟨by omega, by omega⟩ ⟨by omega, by omega⟩ ⟨by omega, by omega⟩ ⟨by omega, by omega⟩ ⟨by omega, by omega⟩ hRKNmh hRLTmh hRS1mh hRSEmh hM
      · refine zw_bd (zw_mono (zk_130 n hImh hc0 ⟨by decide, by decide⟩ ⟨by omega, by omega⟩) (fun v4 m3 hqm3 => ?_))
        obtain ⟨hIm3, hfm3, hvm3⟩ := hqm3
        have hFm3 := zfr_tr hFmh hfm3 rfl
        have hRKNm3 := zR_KN_fr (zdis_fr hfm3 rfl) hRKNmh
        have hRLTm3 := zR_LT_fr (zdis_fr hfm3 rfl) hRLTmh
        have hRS1m3 := zR_S1_fr (zdis_fr hfm3 rfl) hRS1mh
        have hRSEm3 := zR_SE_fr (zdis_fr hfm3 rfl) hRSEmh
        refine zw_ite (fun h5 => ?_) (fun h5 => ?_)
        · have w6 := zu_w32_id (z := x5 + 1) (by omega) (by omega)
          have r7 : 0 ≤ (m3 216 1) ∧ (m3 216 1) ≤ 18 := zi_rdr (m := 2) (r0 := 1) (r1 := 1) hIm3 zq_216 (by omega) (by decide +kernel)
          have e8 : (m3 216 1) = (mh 216 1) := (zfr_ap hfm3 zq_216 rfl)
          have hM : (4 - (zu_w32 (x5 + 1))) * 1 + 5 < (k : Int) := by omega
          exact ih.1 x3 x4 (zu_w32 (x5 + 1)) m3 hIm3 hFm3 ⟨by omega, by omega⟩ ⟨by omega, by omega⟩ ⟨by omega, by omega⟩ ⟨by omega, by omega⟩ ⟨by omega, by omega⟩ ⟨by omega, by omega⟩ hRKNm3 hRLTm3 hRS1m3 hRSEm3 hM
        · refine zw_bd (zw_mono (zk_130 n hIm3 hc0 ⟨by decide, by decide⟩ ⟨by omega, by omega⟩) (fun v10 m9 hqm9 => ?_))
          obtain ⟨hIm9, hfm9, hvm9⟩ := hqm9
          have hFm9 := zfr_tr hFm3 hfm9 rfl
          have hRKNm9 := zR_KN_fr (zdis_fr hfm9 rfl) hRKNm3
          have hRLTm9 := zR_LT_fr (zdis_fr hfm9 rfl) hRLTm3
          have hRS1m9 := zR_S1_fr (zdis_fr hfm9 rfl) hRS1m3
          have hRSEm9 := zR_SE_fr (zdis_fr hfm9 rfl) hRSEm3
          have w11 := zu_w32_id (z := x5 + 1) (by omega) (by omega)
          have r12 : 0 ≤ (m9 216 1) ∧ (m9 216 1) ≤ 18 := zi_rdr (m := 2) (r0 := 1) (r1 := 1) hIm9 zq_216 (by omega) (by decide +kernel)
          have e13 : (m9 216 1) = (mh 216 1) := (Eq.trans (zfr_ap hfm9 zq_216 rfl) (zfr_ap hfm3 zq_216 rfl))
          have hM : (4 - (zu_w32 (x5 + 1))) * 1 + 5 < (k : Int) := by omega
          exact ih.1 v10 x4 (zu_w32 (x5 + 1)) m9 hIm9 hFm9 ⟨by omega, by omega⟩ ⟨by omega, by omega⟩ ⟨by omega, by omega⟩ ⟨by omega, by omega⟩ ⟨by omega, by omega⟩ ⟨by omega, by omega⟩ hRKNm9 hRLTm9 hRS1m9 hRSEm9 hM
    · intro x3 x4 x5 mh hImh hFmh hba1 hba2 hbx3 hbx4 hbx5 hg5 hRKNmh hRLTmh hRS1mh hRSEmh hM
      refine zw_eq (zu_rega_at (zt_T n) (zm_163 n) (zdp_163 n) _ _ _ _ _ _ (zr_163_63 n _ _ a0 a1 a2 x3 x4 x5 mh)) ?_
      have r14 : 0 ≤ (mh a0 15) ∧ (mh a0 15) ≤ 4 := zi_rd hImh hc0 zb_28_15
      refine zw_ite (fun h15 => ?_) (fun h15 => ?_)
      · exact zw_some ⟨hImh, hFmh, hRKNmh, hRLTmh, hRS1mh, hRSEmh, ⟨by omega, by omega⟩⟩
      · refine zw_bd (zw_mono (zk_130 n hImh hc0 ⟨by decide, by decide⟩ ⟨by omega, by omega⟩) (fun v17 m16 hqm16 => ?_))
        obtain ⟨hIm16, hfm16, hvm16⟩ := hqm16
        have hFm16 := zfr_tr hFmh hfm16 rfl
        have hRKNm16 := zR_KN_fr (zdis_fr hfm16 rfl) hRKNmh
        have hRLTm16 := zR_LT_fr (zdis_fr hfm16 rfl) hRLTmh
        have hRS1m16 := zR_S1_fr (zdis_fr hfm16 rfl) hRS1mh
        have hRSEm16 := zR_SE_fr (zdis_fr hfm16 rfl) hRSEmh
        have w18 := zu_w32_rg (x3 - v17)
        have w19 := zu_w32_rg (x4 + (zu_w32 (x3 - v17)))
        have w20 := zu_w32_id (z := x5 + 1) (by omega) (by omega)
        have r21 : 0 ≤ (m16 216 1) ∧ (m16 216 1) ≤ 18 := zi_rdr (m := 2) (r0 := 1) (r1 := 1) hIm16 zq_216 (by omega) (by decide +kernel)
        have e22 : (m16 216 1) = (mh 216 1) := (zfr_ap hfm16 zq_216 rfl)
        have hM : (4 - (zu_w32 (x5 + 1))) * 1 + 0 < (k : Int) := by omega
        exact ih.2 x3 (zu_w32 (x4 + (zu_w32 (x3 - v17)))) (zu_w32 (x5 + 1)) m16 hIm16 hFm16 ⟨by omega, by omega⟩ ⟨by omega, by omega⟩ ⟨by omega, by omega⟩ ⟨by omega, by omega⟩ ⟨by omega, by omega⟩ ⟨by omega, by omega⟩ hRKNm16 hRLTm16 hRS1m16 hRSEm16 hM
set_option maxHeartbeats 4000000 in
theorem zk_163 (n : Nat) {a0 a1 a2 : Int} {m0 : zu_m} (hIm0 : zi_I m0) (hc0 : zcls a0 = 28) (ha1 : 0 ≤ a1 ∧ a1 ≤ 2) (ha2 : 1 ≤ a2 ∧ a2 ≤ 200)    (hRKNm0 : zR_KN m0) (hRLTm0 : zR_LT m0) (hRSEm0 : zE1 m0 0) : zw (zu_call (zt_T n) 163 [(40, a0), (0, a1), (0, a2)] m0) (fun v m => zi_I m ∧ zfr [(28, 54), (28, 64), (28, 65), (28, 66), (28, 67), (28, 68), (28, 69), (28, 70), (122, 0), (123, 0), (124, 0), (125, 2), (126, 0), (127, 0), (128, 0), (129, 0), (130, 0), (131, 0)] m0 m ∧ zR_KN m ∧ zR_LT m ∧ zE1 m 1 ∧ zE1 m 0 ∧ ((-2147483648) ≤ v ∧ v ≤ 2147483647)) := by
  have hFm0 : zfr [(28, 54), (28, 64), (28, 65), (28, 66), (28, 67), (28, 68), (28, 69), (28, 70), (122, 0), (123, 0), (124, 0), (125, 2), (126, 0), (127, 0), (128, 0), (129, 0), (130, 0), (131, 0)] m0 m0 := zfr_rf _ _
  refine zw_eq (zu_call_at (zt_T n) (zm_163 n) (zdp_163 n) _ _ _ _ _ rfl (zr_163_0 n _ _ a0 a1 a2 m0)) ?_
  refine zw_bd (zw_mono (zk_126 n hIm0 hc0 hRSEm0) (fun v24 m23 hqm23 => ?_))
  obtain ⟨hIm23, hfm23, hvm23⟩ := hqm23
  have hFm23 := zfr_tr hFm0 hfm23 rfl
  obtain ⟨hRS1m23, hRSEm23, hvm23⟩ := hvm23
  have hRKNm23 := zR_KN_fr (zdis_fr hfm23 rfl) hRKNm0
  have hRLTm23 := zR_LT_fr (zdis_fr hfm23 rfl) hRLTm0
  generalize hmm25 : zu_up m23 a0 64 a1 = m25
  have hIm25 := zi_up hmm25 hIm23 hc0 zb_28_64 (by omega) (by omega)
  have hFm25 := zfr_up hmm25 hFm23 hc0 rfl
  have hRKNm25 := zR_KN_fr (zdis_fr (zfr_up hmm25 (zfr_rf [(28, 65)] _) hc0 rfl) rfl) hRKNm23
  have hRLTm25 := zR_LT_fr (zdis_fr (zfr_up hmm25 (zfr_rf [(28, 65)] _) hc0 rfl) rfl) hRLTm23
  have hRS1m25 := zR_S1_fr (zdis_fr (zfr_up hmm25 (zfr_rf [(28, 65)] _) hc0 rfl) rfl) hRS1m23
  have hRSEm25 := zR_SE_fr (zdis_fr (zfr_up hmm25 (zfr_rf [(28, 65)] _) hc0 rfl) rfl) hRSEm23
  refine zw_bd (zw_mono (zk_159 n hIm25 hc0 ⟨by omega, by omega⟩ hRKNm25 hRLTm25 hRS1m25 hRSEm25) (fun v27 m26 hqm26 => ?_))
  obtain ⟨hIm26, hfm26, hvm26⟩ := hqm26
  have hFm26 := zfr_tr hFm25 hfm26 rfl
  obtain ⟨hRKNm26, hRLTm26, hRS1m26, hRSEm26, hvm26⟩ := hvm26
  have r28 : 0 ≤ (m26 216 1) ∧ (m26 216 1) ≤ 18 := zi_rdr (m := 2) (r0 := 1) (r1 := 1) hIm26 zq_216 (by omega) (by decide +kernel)
  have e29 : (m26 216 1) = (m23 216 1) := (Eq.trans (zfr_ap hfm26 zq_216 rfl) (zs_ne hmm25 (Or.inl (zc_ne zq_216 hc0 (by decide)))))
  have hM : (4 - 0) * 1 + 5 < ((10 : Nat) : Int) := by omega
  exact (zl_163 n (m0 := m0) hc0 10).1 0 0 0 m26 hIm26 hFm26 ⟨by omega, by omega⟩ ⟨by omega, by omega⟩ ⟨by omega, by omega⟩ ⟨by omega, by omega⟩ ⟨by omega, by omega⟩ ⟨by omega, by omega⟩ hRKNm26 hRLTm26 hRS1m26 hRSEm26 hM
set_option maxHeartbeats 4000000 in
theorem zl_187 (n : Nat) {a0 a1 a2 a3 : Int} {m0 : zu_m} (hc0 : zcls a0 = 28)   : ∀ k : Nat, (∀ (x4 : Int) (mh : zu_m), zi_I mh → zfr [(28, 3), (28, 54), (28, 64), (28, 65), (28, 66), (28, 67), (28, 68), (28, 69), (28, 70), (122, 0), (123, 0), (124, 0), (125, 2), (126, 0), (127, 0), (128, 0), (129, 0), (130, 0), (131, 0)] m0 mh → (0 ≤ a1 ∧ a1 ≤ 4) → (0 ≤ a2 ∧ a2 ≤ 3) → (0 ≤ a3 ∧ a3 ≤ 200) → (0 ≤ x4 ∧ x4 ≤ 4) → (0 ≤ mh 216 1 ∧ mh 216 1 ≤ 16) → (0 ≤ mh a0 2 ∧ mh a0 2 ≤ 0) → ((-1) ≤ mh a0 69 ∧ mh a0 69 ≤ 3) → (zR_KN mh) → (zR_LT mh) → (zE1 mh 1) → (zE1 mh 0) → (4 - x4) * 1 + 0 < (k : Int) → zw (zu_ex (zt_T n) 187 109 [(40, a0), (0, a1), (0, a2), (0, a3), (0, x4)] [] mh) (fun v m => zi_I m ∧ zfr [(28, 3), (28, 54), (28, 64), (28, 65), (28, 66), (28, 67), (28, 68), (28, 69), (28, 70), (122, 0), (123, 0), (124, 0), (125, 2), (126, 0), (127, 0), (128, 0), (129, 0), (130, 0), (131, 0)] m0 m ∧ zR_KN m ∧ zR_LT m ∧ zE1 m 0 ∧ ((-2147483648) ≤ v ∧ v ≤ 2147483647) ∧ (0 ≤ m a0 2 ∧ m a0 2 ≤ 0))) := by
  intro k
  induction k with
  | zero => exact fun x4 mh hImh hFmh hba1 hba2 hba3 hbx4 hg4 hg5 hg6 hRKNmh hRLTmh hRS1mh hRSEmh hM => by exfalso; omega
  | succ k ih =>
    intro x4 mh hImh hFmh hba1 hba2 hba3 hbx4 hg4 hg5 hg6 hRKNmh hRLTmh hRS1mh hRSEmh hM
    refine zw_eq (zu_rega_at (zt_T n) (zm_187 n) (zdp_187 n) _ _ _ _ _ _ (zr_187_109 n _ _ a0 a1 a2 a3 x4 mh)) ?_
    refine zw_ite (fun h1 => ?_) (fun h1 => ?_)
    · refine zw_bd (zw_mono (zk_159 n hImh hc0 ⟨by omega, by omega⟩ hRKNmh hRLTmh hRS1mh hRSEmh) (fun v3 m2 hqm2 => ?_))
      obtain ⟨hIm2, hfm2, hvm2⟩ := hqm2
      have hFm2 := zfr_tr hFmh hfm2 rfl
      obtain ⟨hRKNm2, hRLTm2, hRS1m2, hRSEm2, hvm2⟩ := hvm2
      refine zw_bd (zw_mono (zk_186 n hIm2 hc0 ⟨by decide, by decide⟩) (fun v5 m4 hqm4 => ?_))
      obtain ⟨hIm4, hfm4, hvm4⟩ := hqm4
      have hFm4 := zfr_tr hFm2 hfm4 rfl
      have hRKNm4 := zR_KN_fr (zdis_fr hfm4 rfl) hRKNm2
      have hRLTm4 := zR_LT_fr (zdis_fr hfm4 rfl) hRLTm2
      have hRS1m4 := zR_S1_fr (zdis_fr hfm4 rfl) hRS1m2
      have hRSEm4 := zR_SE_fr (zdis_fr hfm4 rfl) hRSEm2
      have r6 : (-2147483648) ≤ (m4 a0 2) ∧ (m4 a0 2) ≤ 2147483647 := zi_rd hIm4 hc0 zb_28_2
      have e7 : (m4 a0 2) = (mh a0 2) := (Eq.trans (zfr_ap hfm4 hc0 rfl) (zfr_ap hfm2 hc0 rfl))
      exact zw_some ⟨hIm4, hFm4, hRKNm4, hRLTm4, hRSEm4, ⟨by omega, by omega⟩, ⟨by omega, by omega⟩⟩
    · refine zw_ite (fun h8 => ?_) (fun h8 => ?_)
      · refine zw_bd (zw_mono (zk_159 n hImh hc0 ⟨by omega, by omega⟩ hRKNmh hRLTmh hRS1mh hRSEmh) (fun v10 m9 hqm9 => ?_))
        obtain ⟨hIm9, hfm9, hvm9⟩ := hqm9
        have hFm9 := zfr_tr hFmh hfm9 rfl
        obtain ⟨hRKNm9, hRLTm9, hRS1m9, hRSEm9, hvm9⟩ := hvm9
        refine zw_bd (zw_mono (zk_186 n hIm9 hc0 ⟨by decide, by decide⟩) (fun v12 m11 hqm11 => ?_))
        obtain ⟨hIm11, hfm11, hvm11⟩ := hqm11
        have hFm11 := zfr_tr hFm9 hfm11 rfl
        have hRKNm11 := zR_KN_fr (zdis_fr hfm11 rfl) hRKNm9
        have hRLTm11 := zR_LT_fr (zdis_fr hfm11 rfl) hRLTm9
        have hRS1m11 := zR_S1_fr (zdis_fr hfm11 rfl) hRS1m9
        have hRSEm11 := zR_SE_fr (zdis_fr hfm11 rfl) hRSEm9
        have r13 : (-2147483648) ≤ (m11 a0 2) ∧ (m11 a0 2) ≤ 2147483647 := zi_rd hIm11 hc0 zb_28_2
        have e14 : (m11 a0 2) = (mh a0 2) := (Eq.trans (zfr_ap hfm11 hc0 rfl) (zfr_ap hfm9 hc0 rfl))
        exact zw_some ⟨hIm11, hFm11, hRKNm11, hRLTm11, hRSEm11, ⟨by omega, by omega⟩, ⟨by omega, by omega⟩⟩
      · have w15 := zu_w32_id (z := 4 + x4) (by omega) (by omega)
        have b16 : 0 ≤ (zu_w32 (4 + x4)) ∧ (zu_w32 (4 + x4)) < 8 := by omega
        refine zw_if b16 ?_
        generalize hmm17 : zu_up mh 218 (zu_w32 (4 + x4)) 0 = m17
        have hIm17 := zi_up hmm17 hImh zq_218 (zb_127 _) (by omega) (by omega)
        have hFm17 := zfr_up hmm17 hFmh zq_218 rfl
        have hRKNm17 := zR_KN_fr (zdis_fr (zfr_up hmm17 (zfr_rf [(127, 0)] _) zq_218 rfl) rfl) hRKNmh
        have hRLTm17 := zR_LT_fr (zdis_fr (zfr_up hmm17 (zfr_rf [(127, 0)] _) zq_218 rfl) rfl) hRLTmh
        have hRS1m17 := zR_S1_fr (zdis_fr (zfr_up hmm17 (zfr_rf [(127, 0)] _) zq_218 rfl) rfl) hRS1mh
        have hRSEm17 := zR_SE_fr (zdis_fr (zfr_up hmm17 (zfr_rf [(127, 0)] _) zq_218 rfl) rfl) hRSEmh
        have w18 := zu_w32_id (z := x4 + 1) (by omega) (by omega)
        have r19 : (-2147483648) ≤ (m17 a0 2) ∧ (m17 a0 2) ≤ 2147483647 := zi_rd hIm17 hc0 zb_28_2
        have e20 : (m17 a0 2) = (mh a0 2) := (zs_ne hmm17 (Or.inl (zc_ne hc0 zq_218 (by decide))))
        have r21 : (-2147483648) ≤ (m17 a0 69) ∧ (m17 a0 69) ≤ 2147483647 := zi_rd hIm17 hc0 zb_28_69
        have e22 : (m17 a0 69) = (mh a0 69) := (zs_ne hmm17 (Or.inl (zc_ne hc0 zq_218 (by decide))))
        have r23 : 0 ≤ (m17 216 1) ∧ (m17 216 1) ≤ 18 := zi_rdr (m := 2) (r0 := 1) (r1 := 1) hIm17 zq_216 (by omega) (by decide +kernel)
        have e24 : (m17 216 1) = (mh 216 1) := (zs_ne hmm17 (Or.inl (zc_ne zq_216 zq_218 (by decide))))
        have hM : (4 - (zu_w32 (x4 + 1))) * 1 + 0 < (k : Int) := by omega
        exact ih (zu_w32 (x4 + 1)) m17 hIm17 hFm17 ⟨by omega, by omega⟩ ⟨by omega, by omega⟩ ⟨by omega, by omega⟩ ⟨by omega, by omega⟩ ⟨by omega, by omega⟩ ⟨by omega, by omega⟩ ⟨by omega, by omega⟩ hRKNm17 hRLTm17 hRS1m17 hRSEm17 hM
set_option maxHeartbeats 4000000 in
theorem zk_187 (n : Nat) {a0 a1 a2 a3 : Int} {m0 : zu_m} (hIm0 : zi_I m0) (hc0 : zcls a0 = 28) (ha1 : (-2147483648) ≤ a1 ∧ a1 ≤ 2147483647) (ha2 : (-2147483648) ≤ a2 ∧ a2 ≤ 2147483647) (ha3 : (-2147483648) ≤ a3 ∧ a3 ≤ 2147483647)    (hRKNm0 : zR_KN m0) (hRLTm0 : zR_LT m0) (hRSEm0 : zE1 m0 0) : zw (zu_call (zt_T n) 187 [(40, a0), (0, a1), (0, a2), (0, a3)] m0) (fun v m => zi_I m ∧ zfr [(28, 3), (28, 54), (28, 64), (28, 65), (28, 66), (28, 67), (28, 68), (28, 69), (28, 70), (122, 0), (123, 0), (124, 0), (125, 2), (126, 0), (127, 0), (128, 0), (129, 0), (130, 0), (131, 0)] m0 m ∧ zR_KN m ∧ zR_LT m ∧ zE1 m 0 ∧ ((-2147483648) ≤ v ∧ v ≤ 2147483647) ∧ (0 ≤ m a0 2 ∧ m a0 2 ≤ 0)) := by
  have hFm0 : zfr [(28, 3), (28, 54), (28, 64), (28, 65), (28, 66), (28, 67), (28, 68), (28, 69), (28, 70), (122, 0), (123, 0), (124, 0), (125, 2), (126, 0), (127, 0), (128, 0), (129, 0), (130, 0), (131, 0)] m0 m0 := zfr_rf _ _
  refine zw_eq (zu_call_at (zt_T n) (zm_187 n) (zdp_187 n) _ _ _ _ _ rfl (zr_187_0 n _ _ a0 a1 a2 a3 m0)) ?_
  generalize hmm25 : zu_up m0 a0 2 0 = m25
  have hIm25 := zi_up hmm25 hIm0 hc0 zb_28_2 (by omega) (by omega)
  have hFm25 := zfr_up hmm25 hFm0 hc0 rfl
  have hRKNm25 := zR_KN_fr (zdis_fr (zfr_up hmm25 (zfr_rf [(28, 3)] _) hc0 rfl) rfl) hRKNm0
  have hRLTm25 := zR_LT_fr (zdis_fr (zfr_up hmm25 (zfr_rf [(28, 3)] _) hc0 rfl) rfl) hRLTm0
  have hRSEm25 := zR_SE_fr (zdis_fr (zfr_up hmm25 (zfr_rf [(28, 3)] _) hc0 rfl) rfl) hRSEm0
  refine zw_bd (zw_eq (zu_call_at (zt_T n) (zm_83 n) (zdp_83 n) _ _ _ _ _ rfl (zr_83_0 n _ _ a1 0 4 m25)) ?_)
  refine zw_ite (fun h26 => ?_) (fun h26 => ?_)
  · refine zw_b (by omega) ?_
    refine zw_some ?_
    refine zw_ite (fun h27 => ?_) (fun h27 => ?_)
    · have r28 : (-2147483648) ≤ (m25 a0 2) ∧ (m25 a0 2) ≤ 2147483647 := zi_rd hIm25 hc0 zb_28_2
      have e29 : (m25 a0 2) = 0 := (zs_eq hmm25)
      exact zw_some ⟨hIm25, hFm25, hRKNm25, hRLTm25, hRSEm25, ⟨by decide, by decide⟩, ⟨by omega, by omega⟩⟩
    · exfalso; omega
  · refine zw_ite (fun h30 => ?_) (fun h30 => ?_)
    · refine zw_b (by omega) ?_
      refine zw_some ?_
      refine zw_ite (fun h31 => ?_) (fun h31 => ?_)
      · have r32 : (-2147483648) ≤ (m25 a0 2) ∧ (m25 a0 2) ≤ 2147483647 := zi_rd hIm25 hc0 zb_28_2
        have e33 : (m25 a0 2) = 0 := (zs_eq hmm25)
        exact zw_some ⟨hIm25, hFm25, hRKNm25, hRLTm25, hRSEm25, ⟨by decide, by decide⟩, ⟨by omega, by omega⟩⟩
      · exfalso; omega
    · refine zw_b (by omega) ?_
      refine zw_some ?_
      refine zw_ite (fun h34 => ?_) (fun h34 => ?_)
      · exfalso; omega
      · refine zw_bd (zw_eq (zu_call_at (zt_T n) (zm_83 n) (zdp_83 n) _ _ _ _ _ rfl (zr_83_0 n _ _ a3 0 200 m25)) ?_)
        refine zw_ite (fun h35 => ?_) (fun h35 => ?_)
        · refine zw_b (by omega) ?_
          refine zw_some ?_
          refine zw_ite (fun h36 => ?_) (fun h36 => ?_)
          · have r37 : (-2147483648) ≤ (m25 a0 2) ∧ (m25 a0 2) ≤ 2147483647 := zi_rd hIm25 hc0 zb_28_2
            have e38 : (m25 a0 2) = 0 := (zs_eq hmm25)
            exact zw_some ⟨hIm25, hFm25, hRKNm25, hRLTm25, hRSEm25, ⟨by decide, by decide⟩, ⟨by omega, by omega⟩⟩
          · exfalso; omega
        · refine zw_ite (fun h39 => ?_) (fun h39 => ?_)
          · refine zw_b (by omega) ?_
            refine zw_some ?_
            refine zw_ite (fun h40 => ?_) (fun h40 => ?_)
            · have r41 : (-2147483648) ≤ (m25 a0 2) ∧ (m25 a0 2) ≤ 2147483647 := zi_rd hIm25 hc0 zb_28_2
              have e42 : (m25 a0 2) = 0 := (zs_eq hmm25)
              exact zw_some ⟨hIm25, hFm25, hRKNm25, hRLTm25, hRSEm25, ⟨by decide, by decide⟩, ⟨by omega, by omega⟩⟩
            · exfalso; omega
          · refine zw_b (by omega) ?_
            refine zw_some ?_
            refine zw_ite (fun h43 => ?_) (fun h43 => ?_)
            · exfalso; omega
            · refine zw_ite (fun h44 => ?_) (fun h44 => ?_)
              · refine zw_ite (fun h45 => ?_) (fun h45 => ?_)
                · refine zw_bd (zw_mono (zk_126 n hIm25 hc0 hRSEm25) (fun v47 m46 hqm46 => ?_))
                  obtain ⟨hIm46, hfm46, hvm46⟩ := hqm46
                  have hFm46 := zfr_tr hFm25 hfm46 rfl
                  obtain ⟨hRS1m46, hRSEm46, hvm46⟩ := hvm46
                  have hRKNm46 := zR_KN_fr (zdis_fr hfm46 rfl) hRKNm25
                  have hRLTm46 := zR_LT_fr (zdis_fr hfm46 rfl) hRLTm25
                  refine zw_ite (fun h48 => ?_) (fun h48 => ?_)
                  · refine zw_b (by omega) ?_
                    generalize hmm49 : zu_up m46 a0 68 0 = m49
                    have hIm49 := zi_up hmm49 hIm46 hc0 zb_28_68 (by omega) (by omega)
                    have hFm49 := zfr_up hmm49 hFm46 hc0 rfl
                    have hRKNm49 := zR_KN_fr (zdis_fr (zfr_up hmm49 (zfr_rf [(28, 69)] _) hc0 rfl) rfl) hRKNm46
                    have hRLTm49 := zR_LT_fr (zdis_fr (zfr_up hmm49 (zfr_rf [(28, 69)] _) hc0 rfl) rfl) hRLTm46
                    have hRS1m49 := zR_S1_fr (zdis_fr (zfr_up hmm49 (zfr_rf [(28, 69)] _) hc0 rfl) rfl) hRS1m46
                    have hRSEm49 := zR_SE_fr (zdis_fr (zfr_up hmm49 (zfr_rf [(28, 69)] _) hc0 rfl) rfl) hRSEm46
                    refine zw_ite (fun h50 => ?_) (fun h50 => ?_)
                    · refine zw_b (by omega) ?_
                      generalize hmm51 : zu_up m49 a0 66 0 = m51
                      have hIm51 := zi_up hmm51 hIm49 hc0 zb_28_66 (by omega) (by omega)
                      have hFm51 := zfr_up hmm51 hFm49 hc0 rfl
                      have hRKNm51 := zR_KN_fr (zdis_fr (zfr_up hmm51 (zfr_rf [(28, 67)] _) hc0 rfl) rfl) hRKNm49
                      have hRLTm51 := zR_LT_fr (zdis_fr (zfr_up hmm51 (zfr_rf [(28, 67)] _) hc0 rfl) rfl) hRLTm49
                      have hRS1m51 := zR_S1_fr (zdis_fr (zfr_up hmm51 (zfr_rf [(28, 67)] _) hc0 rfl) rfl) hRS1m49
                      have hRSEm51 := zR_SE_fr (zdis_fr (zfr_up hmm51 (zfr_rf [(28, 67)] _) hc0 rfl) rfl) hRSEm49
                      refine zw_ite (fun h52 => ?_) (fun h52 => ?_)
                      · generalize hmm53 : zu_up m51 a0 69 (-1) = m53
                        have hIm53 := zi_up hmm53 hIm51 hc0 zb_28_69 (by omega) (by omega)
                        have hFm53 := zfr_up hmm53 hFm51 hc0 rfl
                        have hRKNm53 := zR_KN_fr (zdis_fr (zfr_up hmm53 (zfr_rf [(28, 70)] _) hc0 rfl) rfl) hRKNm51
                        have hRLTm53 := zR_LT_fr (zdis_fr (zfr_up hmm53 (zfr_rf [(28, 70)] _) hc0 rfl) rfl) hRLTm51
                        have hRS1m53 := zR_S1_fr (zdis_fr (zfr_up hmm53 (zfr_rf [(28, 70)] _) hc0 rfl) rfl) hRS1m51
                        have hRSEm53 := zR_SE_fr (zdis_fr (zfr_up hmm53 (zfr_rf [(28, 70)] _) hc0 rfl) rfl) hRSEm51
                        refine zw_ite (fun h54 => ?_) (fun h54 => ?_)
                        · refine zw_b (by omega) ?_
                          generalize hmm55 : zu_up m53 a0 67 0 = m55
                          have hIm55 := zi_up hmm55 hIm53 hc0 zb_28_67 (by omega) (by omega)
                          have hFm55 := zfr_up hmm55 hFm53 hc0 rfl
                          have hRKNm55 := zR_KN_fr (zdis_fr (zfr_up hmm55 (zfr_rf [(28, 68)] _) hc0 rfl) rfl) hRKNm53
                          have hRLTm55 := zR_LT_fr (zdis_fr (zfr_up hmm55 (zfr_rf [(28, 68)] _) hc0 rfl) rfl) hRLTm53
                          have hRS1m55 := zR_S1_fr (zdis_fr (zfr_up hmm55 (zfr_rf [(28, 68)] _) hc0 rfl) rfl) hRS1m53
                          have hRSEm55 := zR_SE_fr (zdis_fr (zfr_up hmm55 (zfr_rf [(28, 68)] _) hc0 rfl) rfl) hRSEm53
                          have r56 : (-2147483648) ≤ (m55 a0 2) ∧ (m55 a0 2) ≤ 2147483647 := zi_rd hIm55 hc0 zb_28_2
                          have e57 : (m55 a0 2) = 0 := (Eq.trans (zs_ne hmm55 (Or.inr (by decide))) (Eq.trans (zs_ne hmm53 (Or.inr (by decide))) (Eq.trans (zs_ne hmm51 (Or.inr (by decide))) (Eq.trans (zs_ne hmm49 (Or.inr (by decide))) (Eq.trans (zfr_ap hfm46 hc0 rfl) (zs_eq hmm25))))))
                          have r58 : (-2147483648) ≤ (m55 a0 69) ∧ (m55 a0 69) ≤ 2147483647 := zi_rd hIm55 hc0 zb_28_69
                          have e59 : (m55 a0 69) = (-1) := (Eq.trans (zs_ne hmm55 (Or.inr (by decide))) (zs_eq hmm53))
                          have r60 : 0 ≤ (m55 216 1) ∧ (m55 216 1) ≤ 18 := zi_rdr (m := 2) (r0 := 1) (r1 := 1) hIm55 zq_216 (by omega) (by decide +kernel)
                          have e61 : (m55 216 1) = (m46 216 1) := (Eq.trans (zs_ne hmm55 (Or.inl (zc_ne zq_216 hc0 (by decide)))) (Eq.trans (zs_ne hmm53 (Or.inl (zc_ne zq_216 hc0 (by decide)))) (Eq.trans (zs_ne hmm51 (Or.inl (zc_ne zq_216 hc0 (by decide)))) (zs_ne hmm49 (Or.inl (zc_ne zq_216 hc0 (by decide)))))))
                          have hM : (4 - 0) * 1 + 0 < ((5 : Nat) : Int) := by omega
                          exact (zl_187 n (m0 := m0) hc0 5) 0 m55 hIm55 hFm55 ⟨by omega, by omega⟩ ⟨by omega, by omega⟩ ⟨by omega, by omega⟩ ⟨by omega, by omega⟩ ⟨by omega, by omega⟩ ⟨by omega, by omega⟩ ⟨by omega, by omega⟩ hRKNm55 hRLTm55 hRS1m55 hRSEm55 hM
                        · refine zw_b (by omega) ?_
                          generalize hmm62 : zu_up m53 a0 67 1 = m62
                          have hIm62 := zi_up hmm62 hIm53 hc0 zb_28_67 (by omega) (by omega)
                          have hFm62 := zfr_up hmm62 hFm53 hc0 rfl
                          have hRKNm62 := zR_KN_fr (zdis_fr (zfr_up hmm62 (zfr_rf [(28, 68)] _) hc0 rfl) rfl) hRKNm53
                          have hRLTm62 := zR_LT_fr (zdis_fr (zfr_up hmm62 (zfr_rf [(28, 68)] _) hc0 rfl) rfl) hRLTm53
                          have hRS1m62 := zR_S1_fr (zdis_fr (zfr_up hmm62 (zfr_rf [(28, 68)] _) hc0 rfl) rfl) hRS1m53
                          have hRSEm62 := zR_SE_fr (zdis_fr (zfr_up hmm62 (zfr_rf [(28, 68)] _) hc0 rfl) rfl) hRSEm53
                          have r63 : (-2147483648) ≤ (m62 a0 2) ∧ (m62 a0 2) ≤ 2147483647 := zi_rd hIm62 hc0 zb_28_2
                          have e64 : (m62 a0 2) = 0 := (Eq.trans (zs_ne hmm62 (Or.inr (by decide))) (Eq.trans (zs_ne hmm53 (Or.inr (by decide))) (Eq.trans (zs_ne hmm51 (Or.inr (by decide))) (Eq.trans (zs_ne hmm49 (Or.inr (by decide))) (Eq.trans (zfr_ap hfm46 hc0 rfl) (zs_eq hmm25))))))
                          have r65 : (-2147483648) ≤ (m62 a0 69) ∧ (m62 a0 69) ≤ 2147483647 := zi_rd hIm62 hc0 zb_28_69
                          have e66 : (m62 a0 69) = (-1) := (Eq.trans (zs_ne hmm62 (Or.inr (by decide))) (zs_eq hmm53))
                          have r67 : 0 ≤ (m62 216 1) ∧ (m62 216 1) ≤ 18 := zi_rdr (m := 2) (r0 := 1) (r1 := 1) hIm62 zq_216 (by omega) (by decide +kernel)
                          have e68 : (m62 216 1) = (m46 216 1) := (Eq.trans (zs_ne hmm62 (Or.inl (zc_ne zq_216 hc0 (by decide)))) (Eq.trans (zs_ne hmm53 (Or.inl (zc_ne zq_216 hc0 (by decide)))) (Eq.trans (zs_ne hmm51 (Or.inl (zc_ne zq_216 hc0 (by decide)))) (zs_ne hmm49 (Or.inl (zc_ne zq_216 hc0 (by decide)))))))
                          have hM : (4 - 0) * 1 + 0 < ((5 : Nat) : Int) := by omega
                          exact (zl_187 n (m0 := m0) hc0 5) 0 m62 hIm62 hFm62 ⟨by omega, by omega⟩ ⟨by omega, by omega⟩ ⟨by omega, by omega⟩ ⟨by omega, by omega⟩ ⟨by omega, by omega⟩ ⟨by omega, by omega⟩ ⟨by omega, by omega⟩ hRKNm62 hRLTm62 hRS1m62 hRSEm62 hM
                      · exfalso; omega
                    · refine zw_b (by omega) ?_
                      generalize hmm69 : zu_up m49 a0 66 1 = m69
                      have hIm69 := zi_up hmm69 hIm49 hc0 zb_28_66 (by omega) (by omega)
                      have hFm69 := zfr_up hmm69 hFm49 hc0 rfl
                      have hRKNm69 := zR_KN_fr (zdis_fr (zfr_up hmm69 (zfr_rf [(28, 67)] _) hc0 rfl) rfl) hRKNm49
                      have hRLTm69 := zR_LT_fr (zdis_fr (zfr_up hmm69 (zfr_rf [(28, 67)] _) hc0 rfl) rfl) hRLTm49
                      have hRS1m69 := zR_S1_fr (zdis_fr (zfr_up hmm69 (zfr_rf [(28, 67)] _) hc0 rfl) rfl) hRS1m49
                      have hRSEm69 := zR_SE_fr (zdis_fr (zfr_up hmm69 (zfr_rf [(28, 67)] _) hc0 rfl) rfl) hRSEm49
                      refine zw_ite (fun h70 => ?_) (fun h70 => ?_)
                      · generalize hmm71 : zu_up m69 a0 69 (-1) = m71
                        have hIm71 := zi_up hmm71 hIm69 hc0 zb_28_69 (by omega) (by omega)
                        have hFm71 := zfr_up hmm71 hFm69 hc0 rfl
                        have hRKNm71 := zR_KN_fr (zdis_fr (zfr_up hmm71 (zfr_rf [(28, 70)] _) hc0 rfl) rfl) hRKNm69
                        have hRLTm71 := zR_LT_fr (zdis_fr (zfr_up hmm71 (zfr_rf [(28, 70)] _) hc0 rfl) rfl) hRLTm69
                        have hRS1m71 := zR_S1_fr (zdis_fr (zfr_up hmm71 (zfr_rf [(28, 70)] _) hc0 rfl) rfl) hRS1m69
                        have hRSEm71 := zR_SE_fr (zdis_fr (zfr_up hmm71 (zfr_rf [(28, 70)] _) hc0 rfl) rfl) hRSEm69
                        refine zw_ite (fun h72 => ?_) (fun h72 => ?_)
                        · refine zw_b (by omega) ?_
                          generalize hmm73 : zu_up m71 a0 67 0 = m73
                          have hIm73 := zi_up hmm73 hIm71 hc0 zb_28_67 (by omega) (by omega)
                          have hFm73 := zfr_up hmm73 hFm71 hc0 rfl
                          have hRKNm73 := zR_KN_fr (zdis_fr (zfr_up hmm73 (zfr_rf [(28, 68)] _) hc0 rfl) rfl) hRKNm71
                          have hRLTm73 := zR_LT_fr (zdis_fr (zfr_up hmm73 (zfr_rf [(28, 68)] _) hc0 rfl) rfl) hRLTm71
                          have hRS1m73 := zR_S1_fr (zdis_fr (zfr_up hmm73 (zfr_rf [(28, 68)] _) hc0 rfl) rfl) hRS1m71
                          have hRSEm73 := zR_SE_fr (zdis_fr (zfr_up hmm73 (zfr_rf [(28, 68)] _) hc0 rfl) rfl) hRSEm71
                          have r74 : (-2147483648) ≤ (m73 a0 2) ∧ (m73 a0 2) ≤ 2147483647 := zi_rd hIm73 hc0 zb_28_2
                          have e75 : (m73 a0 2) = 0 := (Eq.trans (zs_ne hmm73 (Or.inr (by decide))) (Eq.trans (zs_ne hmm71 (Or.inr (by decide))) (Eq.trans (zs_ne hmm69 (Or.inr (by decide))) (Eq.trans (zs_ne hmm49 (Or.inr (by decide))) (Eq.trans (zfr_ap hfm46 hc0 rfl) (zs_eq hmm25))))))
                          have r76 : (-2147483648) ≤ (m73 a0 69) ∧ (m73 a0 69) ≤ 2147483647 := zi_rd hIm73 hc0 zb_28_69
                          have e77 : (m73 a0 69) = (-1) := (Eq.trans (zs_ne hmm73 (Or.inr (by decide))) (zs_eq hmm71))
                          have r78 : 0 ≤ (m73 216 1) ∧ (m73 216 1) ≤ 18 := zi_rdr (m := 2) (r0 := 1) (r1 := 1) hIm73 zq_216 (by omega) (by decide +kernel)
                          have e79 : (m73 216 1) = (m46 216 1) := (Eq.trans (zs_ne hmm73 (Or.inl (zc_ne zq_216 hc0 (by decide)))) (Eq.trans (zs_ne hmm71 (Or.inl (zc_ne zq_216 hc0 (by decide)))) (Eq.trans (zs_ne hmm69 (Or.inl (zc_ne zq_216 hc0 (by decide)))) (zs_ne hmm49 (Or.inl (zc_ne zq_216 hc0 (by decide)))))))
                          have hM : (4 - 0) * 1 + 0 < ((5 : Nat) : Int) := by omega
                          exact (zl_187 n (m0 := m0) hc0 5) 0 m73 hIm73 hFm73 ⟨by omega, by omega⟩ ⟨by omega, by omega⟩ ⟨by omega, by omega⟩ ⟨by omega, by omega⟩ ⟨by omega, by omega⟩ ⟨by omega, by omega⟩ ⟨by omega, by omega⟩ hRKNm73 hRLTm73 hRS1m73 hRSEm73 hM
                        · exfalso; omega
                      · exfalso; omega
                  · refine zw_b (by omega) ?_
                    generalize hmm80 : zu_up m46 a0 68 1 = m80
                    have hIm80 := zi_up hmm80 hIm46 hc0 zb_28_68 (by omega) (by omega)
                    have hFm80 := zfr_up hmm80 hFm46 hc0 rfl
                    have hRKNm80 := zR_KN_fr (zdis_fr (zfr_up hmm80 (zfr_rf [(28, 69)] _) hc0 rfl) rfl) hRKNm46
                    have hRLTm80 := zR_LT_fr (zdis_fr (zfr_up hmm80 (zfr_rf [(28, 69)] _) hc0 rfl) rfl) hRLTm46
                    have hRS1m80 := zR_S1_fr (zdis_fr (zfr_up hmm80 (zfr_rf [(28, 69)] _) hc0 rfl) rfl) hRS1m46
                    have hRSEm80 := zR_SE_fr (zdis_fr (zfr_up hmm80 (zfr_rf [(28, 69)] _) hc0 rfl) rfl) hRSEm46
                    refine zw_ite (fun h81 => ?_) (fun h81 => ?_)
                    · refine zw_b (by omega) ?_
                      generalize hmm82 : zu_up m80 a0 66 0 = m82
                      have hIm82 := zi_up hmm82 hIm80 hc0 zb_28_66 (by omega) (by omega)
                      have hFm82 := zfr_up hmm82 hFm80 hc0 rfl
                      have hRKNm82 := zR_KN_fr (zdis_fr (zfr_up hmm82 (zfr_rf [(28, 67)] _) hc0 rfl) rfl) hRKNm80
                      have hRLTm82 := zR_LT_fr (zdis_fr (zfr_up hmm82 (zfr_rf [(28, 67)] _) hc0 rfl) rfl) hRLTm80
                      have hRS1m82 := zR_S1_fr (zdis_fr (zfr_up hmm82 (zfr_rf [(28, 67)] _) hc0 rfl) rfl) hRS1m80
                      have hRSEm82 := zR_SE_fr (zdis_fr (zfr_up hmm82 (zfr_rf [(28, 67)] _) hc0 rfl) rfl) hRSEm80
                      refine zw_ite (fun h83 => ?_) (fun h83 => ?_)
                      · generalize hmm84 : zu_up m82 a0 69 (-1) = m84
                        have hIm84 := zi_up hmm84 hIm82 hc0 zb_28_69 (by omega) (by omega)
                        have hFm84 := zfr_up hmm84 hFm82 hc0 rfl
                        have hRKNm84 := zR_KN_fr (zdis_fr (zfr_up hmm84 (zfr_rf [(28, 70)] _) hc0 rfl) rfl) hRKNm82
                        have hRLTm84 := zR_LT_fr (zdis_fr (zfr_up hmm84 (zfr_rf [(28, 70)] _) hc0 rfl) rfl) hRLTm82
                        have hRS1m84 := zR_S1_fr (zdis_fr (zfr_up hmm84 (zfr_rf [(28, 70)] _) hc0 rfl) rfl) hRS1m82
                        have hRSEm84 := zR_SE_fr (zdis_fr (zfr_up hmm84 (zfr_rf [(28, 70)] _) hc0 rfl) rfl) hRSEm82
                        refine zw_ite (fun h85 => ?_) (fun h85 => ?_)
                        · refine zw_b (by omega) ?_
                          generalize hmm86 : zu_up m84 a0 67 0 = m86
                          have hIm86 := zi_up hmm86 hIm84 hc0 zb_28_67 (by omega) (by omega)
                          have hFm86 := zfr_up hmm86 hFm84 hc0 rfl
                          have hRKNm86 := zR_KN_fr (zdis_fr (zfr_up hmm86 (zfr_rf [(28, 68)] _) hc0 rfl) rfl) hRKNm84
                          have hRLTm86 := zR_LT_fr (zdis_fr (zfr_up hmm86 (zfr_rf [(28, 68)] _) hc0 rfl) rfl) hRLTm84
                          have hRS1m86 := zR_S1_fr (zdis_fr (zfr_up hmm86 (zfr_rf [(28, 68)] _) hc0 rfl) rfl) hRS1m84
                          have hRSEm86 := zR_SE_fr (zdis_fr (zfr_up hmm86 (zfr_rf [(28, 68)] _) hc0 rfl) rfl) hRSEm84
                          have r87 : (-2147483648) ≤ (m86 a0 2) ∧ (m86 a0 2) ≤ 2147483647 := zi_rd hIm86 hc0 zb_28_2
                          have e88 : (m86 a0 2) = 0 := (Eq.trans (zs_ne hmm86 (Or.inr (by decide))) (Eq.trans (zs_ne hmm84 (Or.inr (by decide))) (Eq.trans (zs_ne hmm82 (Or.inr (by decide))) (Eq.trans (zs_ne hmm80 (Or.inr (by decide))) (Eq.trans (zfr_ap hfm46 hc0 rfl) (zs_eq hmm25))))))
                          have r89 : (-2147483648) ≤ (m86 a0 69) ∧ (m86 a0 69) ≤ 2147483647 := zi_rd hIm86 hc0 zb_28_69
                          have e90 : (m86 a0 69) = (-1) := (Eq.trans (zs_ne hmm86 (Or.inr (by decide))) (zs_eq hmm84))
                          have r91 : 0 ≤ (m86 216 1) ∧ (m86 216 1) ≤ 18 := zi_rdr (m := 2) (r0 := 1) (r1 := 1) hIm86 zq_216 (by omega) (by decide +kernel)
                          have e92 : (m86 216 1) = (m46 216 1) := (Eq.trans (zs_ne hmm86 (Or.inl (zc_ne zq_216 hc0 (by decide)))) (Eq.trans (zs_ne hmm84 (Or.inl (zc_ne zq_216 hc0 (by decide)))) (Eq.trans (zs_ne hmm82 (Or.inl (zc_ne zq_216 hc0 (by decide)))) (zs_ne hmm80 (Or.inl (zc_ne zq_216 hc0 (by decide)))))))
                          have hM : (4 - 0) * 1 + 0 < ((5 : Nat) : Int) := by omega
                          exact (zl_187 n (m0 := m0) hc0 5) 0 m86 hIm86 hFm86 ⟨by omega, by omega⟩ ⟨by omega, by omega⟩ ⟨by omega, by omega⟩ ⟨by omega, by omega⟩ ⟨by omega, by omega⟩ ⟨by omega, by omega⟩ ⟨by omega, by omega⟩ hRKNm86 hRLTm86 hRS1m86 hRSEm86 hM
                        · exfalso; omega
                      · exfalso; omega
                    · exfalso; omega
                · have r93 : (-2147483648) ≤ (m25 a0 2) ∧ (m25 a0 2) ≤ 2147483647 := zi_rd hIm25 hc0 zb_28_2
                  have e94 : (m25 a0 2) = 0 := (zs_eq hmm25)
                  exact zw_some ⟨hIm25, hFm25, hRKNm25, hRLTm25, hRSEm25, ⟨by decide, by decide⟩, ⟨by omega, by omega⟩⟩
              · refine zw_bd (zw_eq (zu_call_at (zt_T n) (zm_125 n) (zdp_125 n) _ _ _ _ _ rfl (zr_125_0 n _ _ a0 a2 m25)) ?_)
                refine zw_ite (fun h95 => ?_) (fun h95 => ?_)
                · refine zw_b (by omega) ?_
                  refine zw_some ?_
                  refine zw_ite (fun h96 => ?_) (fun h96 => ?_)
                  · exfalso; omega
                  · have r97 : (-2147483648) ≤ (m25 a0 2) ∧ (m25 a0 2) ≤ 2147483647 := zi_rd hIm25 hc0 zb_28_2
                    have e98 : (m25 a0 2) = 0 := (zs_eq hmm25)
                    exact zw_some ⟨hIm25, hFm25, hRKNm25, hRLTm25, hRSEm25, ⟨by decide, by decide⟩, ⟨by omega, by omega⟩⟩
                · have r99 : 0 ≤ (m25 a0 15) ∧ (m25 a0 15) ≤ 4 := zi_rd hIm25 hc0 zb_28_15
                  refine zw_ite (fun h100 => ?_) (fun h100 => ?_)
                  · refine zw_b (by omega) ?_
                    refine zw_some ?_
                    refine zw_ite (fun h101 => ?_) (fun h101 => ?_)
                    · exfalso; omega
                    · have r102 : (-2147483648) ≤ (m25 a0 2) ∧ (m25 a0 2) ≤ 2147483647 := zi_rd hIm25 hc0 zb_28_2
                      have e103 : (m25 a0 2) = 0 := (zs_eq hmm25)
                      exact zw_some ⟨hIm25, hFm25, hRKNm25, hRLTm25, hRSEm25, ⟨by decide, by decide⟩, ⟨by omega, by omega⟩⟩
                  · refine zw_b (by omega) ?_
                    refine zw_some ?_
                    refine zw_ite (fun h104 => ?_) (fun h104 => ?_)
                    · refine zw_bd (zw_mono (zk_126 n hIm25 hc0 hRSEm25) (fun v106 m105 hqm105 => ?_))
                      obtain ⟨hIm105, hfm105, hvm105⟩ := hqm105
                      have hFm105 := zfr_tr hFm25 hfm105 rfl
                      obtain ⟨hRS1m105, hRSEm105, hvm105⟩ := hvm105
                      have hRKNm105 := zR_KN_fr (zdis_fr hfm105 rfl) hRKNm25
                      have hRLTm105 := zR_LT_fr (zdis_fr hfm105 rfl) hRLTm25
                      refine zw_ite (fun h107 => ?_) (fun h107 => ?_)
                      · refine zw_b (by omega) ?_
                        generalize hmm108 : zu_up m105 a0 68 0 = m108
                        have hIm108 := zi_up hmm108 hIm105 hc0 zb_28_68 (by omega) (by omega)
                        have hFm108 := zfr_up hmm108 hFm105 hc0 rfl
                        have hRKNm108 := zR_KN_fr (zdis_fr (zfr_up hmm108 (zfr_rf [(28, 69)] _) hc0 rfl) rfl) hRKNm105
                        have hRLTm108 := zR_LT_fr (zdis_fr (zfr_up hmm108 (zfr_rf [(28, 69)] _) hc0 rfl) rfl) hRLTm105
                        have hRS1m108 := zR_S1_fr (zdis_fr (zfr_up hmm108 (zfr_rf [(28, 69)] _) hc0 rfl) rfl) hRS1m105
                        have hRSEm108 := zR_SE_fr (zdis_fr (zfr_up hmm108 (zfr_rf [(28, 69)] _) hc0 rfl) rfl) hRSEm105
                        refine zw_ite (fun h109 => ?_) (fun h109 => ?_)
                        · refine zw_b (by omega) ?_
                          generalize hmm110 : zu_up m108 a0 66 0 = m110
                          have hIm110 := zi_up hmm110 hIm108 hc0 zb_28_66 (by omega) (by omega)
                          have hFm110 := zfr_up hmm110 hFm108 hc0 rfl
                          have hRKNm110 := zR_KN_fr (zdis_fr (zfr_up hmm110 (zfr_rf [(28, 67)] _) hc0 rfl) rfl) hRKNm108
                          have hRLTm110 := zR_LT_fr (zdis_fr (zfr_up hmm110 (zfr_rf [(28, 67)] _) hc0 rfl) rfl) hRLTm108
                          have hRS1m110 := zR_S1_fr (zdis_fr (zfr_up hmm110 (zfr_rf [(28, 67)] _) hc0 rfl) rfl) hRS1m108
                          have hRSEm110 := zR_SE_fr (zdis_fr (zfr_up hmm110 (zfr_rf [(28, 67)] _) hc0 rfl) rfl) hRSEm108
                          refine zw_ite (fun h111 => ?_) (fun h111 => ?_)
                          · exfalso; omega
                          · generalize hmm112 : zu_up m110 a0 69 a2 = m112
                            have hIm112 := zi_up hmm112 hIm110 hc0 zb_28_69 (by omega) (by omega)
                            have hFm112 := zfr_up hmm112 hFm110 hc0 rfl
                            have hRKNm112 := zR_KN_fr (zdis_fr (zfr_up hmm112 (zfr_rf [(28, 70)] _) hc0 rfl) rfl) hRKNm110
                            have hRLTm112 := zR_LT_fr (zdis_fr (zfr_up hmm112 (zfr_rf [(28, 70)] _) hc0 rfl) rfl) hRLTm110
                            have hRS1m112 := zR_S1_fr (zdis_fr (zfr_up hmm112 (zfr_rf [(28, 70)] _) hc0 rfl) rfl) hRS1m110
                            have hRSEm112 := zR_SE_fr (zdis_fr (zfr_up hmm112 (zfr_rf [(28, 70)] _) hc0 rfl) rfl) hRSEm110
                            refine zw_ite (fun h113 => ?_) (fun h113 => ?_)
                            · refine zw_b (by omega) ?_
                              generalize hmm114 : zu_up m112 a0 67 0 = m114
                              have hIm114 := zi_up hmm114 hIm112 hc0 zb_28_67 (by omega) (by omega)
                              have hFm114 := zfr_up hmm114 hFm112 hc0 rfl
                              have hRKNm114 := zR_KN_fr (zdis_fr (zfr_up hmm114 (zfr_rf [(28, 68)] _) hc0 rfl) rfl) hRKNm112
                              have hRLTm114 := zR_LT_fr (zdis_fr (zfr_up hmm114 (zfr_rf [(28, 68)] _) hc0 rfl) rfl) hRLTm112
                              have hRS1m114 := zR_S1_fr (zdis_fr (zfr_up hmm114 (zfr_rf [(28, 68)] _) hc0 rfl) rfl) hRS1m112
                              have hRSEm114 := zR_SE_fr (zdis_fr (zfr_up hmm114 (zfr_rf [(28, 68)] _) hc0 rfl) rfl) hRSEm112
                              have r115 : (-2147483648) ≤ (m114 a0 2) ∧ (m114 a0 2) ≤ 2147483647 := zi_rd hIm114 hc0 zb_28_2
                              have e116 : (m114 a0 2) = 0 := (Eq.trans (zs_ne hmm114 (Or.inr (by decide))) (Eq.trans (zs_ne hmm112 (Or.inr (by decide))) (Eq.trans (zs_ne hmm110 (Or.inr (by decide))) (Eq.trans (zs_ne hmm108 (Or.inr (by decide))) (Eq.trans (zfr_ap hfm105 hc0 rfl) (zs_eq hmm25))))))
                              have r117 : (-2147483648) ≤ (m114 a0 69) ∧ (m114 a0 69) ≤ 2147483647 := zi_rd hIm114 hc0 zb_28_69
                              have e118 : (m114 a0 69) = a2 := (Eq.trans (zs_ne hmm114 (Or.inr (by decide))) (zs_eq hmm112))
                              have r119 : 0 ≤ (m114 216 1) ∧ (m114 216 1) ≤ 18 := zi_rdr (m := 2) (r0 := 1) (r1 := 1) hIm114 zq_216 (by omega) (by decide +kernel)
                              have e120 : (m114 216 1) = (m105 216 1) := (Eq.trans (zs_ne hmm114 (Or.inl (zc_ne zq_216 hc0 (by decide)))) (Eq.trans (zs_ne hmm112 (Or.inl (zc_ne zq_216 hc0 (by decide)))) (Eq.trans (zs_ne hmm110 (Or.inl (zc_ne zq_216 hc0 (by decide)))) (zs_ne hmm108 (Or.inl (zc_ne zq_216 hc0 (by decide)))))))
                              have hM : (4 - 0) * 1 + 0 < ((5 : Nat) : Int) := by omega
                              exact (zl_187 n (m0 := m0) hc0 5) 0 m114 hIm114 hFm114 ⟨by omega, by omega⟩ ⟨by omega, by omega⟩ ⟨by omega, by omega⟩ ⟨by omega, by omega⟩ ⟨by omega, by omega⟩ ⟨by omega, by omega⟩ ⟨by omega, by omega⟩ hRKNm114 hRLTm114 hRS1m114 hRSEm114 hM
                            · exfalso; omega
                        · exfalso; omega
                      · exfalso; omega
                    · exfalso; omega
set_option maxHeartbeats 4000000 in
theorem zk_161 (n : Nat) {a0 a1 a2 a3 a4 a5 : Int} {m0 : zu_m} (hIm0 : zi_I m0) (hc0 : zcls a0 = 28) (ha1 : (-2147483648) ≤ a1 ∧ a1 ≤ 2147483647) (ha2 : (-2147483648) ≤ a2 ∧ a2 ≤ 2147483647) (ha3 : (-2147483648) ≤ a3 ∧ a3 ≤ 2147483647) (ha4 : (-2147483648) ≤ a4 ∧ a4 ≤ 2147483647) (ha5 : (-2147483648) ≤ a5 ∧ a5 ≤ 2147483647)    (hRKNm0 : zR_KN m0) (hRLTm0 : zR_LT m0) (hRSEm0 : zE1 m0 0) : zw (zu_call (zt_T n) 161 [(40, a0), (0, a1), (0, a2), (0, a3), (0, a4), (0, a5)] m0) (fun v m => zi_I m ∧ zfr [(28, 3), (28, 54), (28, 64), (28, 65), (28, 66), (28, 67), (28, 68), (28, 69), (28, 70), (28, 72), (28, 73), (28, 74), (106, 0), (107, 0), (108, 0), (122, 0), (123, 0), (124, 0), (125, 2), (126, 0), (127, 0), (128, 0), (129, 0), (130, 0), (131, 0)] m0 m ∧ zR_KN m ∧ zR_LT m ∧ zE1 m 0 ∧ ((-2147483648) ≤ v ∧ v ≤ 2147483647) ∧ (0 ≤ m a0 2 ∧ m a0 2 ≤ 0)) := by
  have hFm0 : zfr [(28, 3), (28, 54), (28, 64), (28, 65), (28, 66), (28, 67), (28, 68), (28, 69), (28, 70), (28, 72), (28, 73), (28, 74), (106, 0), (107, 0), (108, 0), (122, 0), (123, 0), (124, 0), (125, 2), (126, 0), (127, 0), (128, 0), (129, 0), (130, 0), (131, 0)] m0 m0 := zfr_rf _ _
  refine zw_eq (zu_call_at (zt_T n) (zm_161 n) (zdp_161 n) _ _ _ _ _ rfl (zr_161_0 n _ _ a0 a1 a2 a3 a4 a5 m0)) ?_
  generalize hmm1 : zu_up m0 a0 2 0 = m1
  have hIm1 := zi_up hmm1 hIm0 hc0 zb_28_2 (by omega) (by omega)
  have hFm1 := zfr_up hmm1 hFm0 hc0 rfl
  have hRKNm1 := zR_KN_fr (zdis_fr (zfr_up hmm1 (zfr_rf [(28, 3)] _) hc0 rfl) rfl) hRKNm0
  have hRLTm1 := zR_LT_fr (zdis_fr (zfr_up hmm1 (zfr_rf [(28, 3)] _) hc0 rfl) rfl) hRLTm0
  have hRSEm1 := zR_SE_fr (zdis_fr (zfr_up hmm1 (zfr_rf [(28, 3)] _) hc0 rfl) rfl) hRSEm0
  refine zw_bd (zw_eq (zu_call_at (zt_T n) (zm_83 n) (zdp_83 n) _ _ _ _ _ rfl (zr_83_0 n _ _ a1 1 2 m1)) ?_)
  refine zw_ite (fun h2 => ?_) (fun h2 => ?_)
  · refine zw_b (by omega) ?_
    refine zw_some ?_
    refine zw_ite (fun h3 => ?_) (fun h3 => ?_)
    · have r4 : (-2147483648) ≤ (m1 a0 2) ∧ (m1 a0 2) ≤ 2147483647 := zi_rd hIm1 hc0 zb_28_2
      have e5 : (m1 a0 2) = 0 := (zs_eq hmm1)
      exact zw_some ⟨hIm1, hFm1, hRKNm1, hRLTm1, hRSEm1, ⟨by decide, by decide⟩, ⟨by omega, by omega⟩⟩
    · exfalso; omega
  · refine zw_ite (fun h6 => ?_) (fun h6 => ?_)
    · refine zw_b (by omega) ?_
      refine zw_some ?_
      refine zw_ite (fun h7 => ?_) (fun h7 => ?_)
      · have r8 : (-2147483648) ≤ (m1 a0 2) ∧ (m1 a0 2) ≤ 2147483647 := zi_rd hIm1 hc0 zb_28_2
        have e9 : (m1 a0 2) = 0 := (zs_eq hmm1)
        exact zw_some ⟨hIm1, hFm1, hRKNm1, hRLTm1, hRSEm1, ⟨by decide, by decide⟩, ⟨by omega, by omega⟩⟩
      · exfalso; omega
    · refine zw_b (by omega) ?_
      refine zw_some ?_
      refine zw_ite (fun h10 => ?_) (fun h10 => ?_)
      · exfalso; omega
      · refine zw_bd (zw_eq (zu_call_at (zt_T n) (zm_83 n) (zdp_83 n) _ _ _ _ _ rfl (zr_83_0 n _ _ a2 0 3 m1)) ?_)
        refine zw_ite (fun h11 => ?_) (fun h11 => ?_)
        · refine zw_b (by omega) ?_
          refine zw_some ?_
          refine zw_ite (fun h12 => ?_) (fun h12 => ?_)
          · have r13 : (-2147483648) ≤ (m1 a0 2) ∧ (m1 a0 2) ≤ 2147483647 := zi_rd hIm1 hc0 zb_28_2
            have e14 : (m1 a0 2) = 0 := (zs_eq hmm1)
            exact zw_some ⟨hIm1, hFm1, hRKNm1, hRLTm1, hRSEm1, ⟨by decide, by decide⟩, ⟨by omega, by omega⟩⟩
          · exfalso; omega
        · refine zw_ite (fun h15 => ?_) (fun h15 => ?_)
          · refine zw_b (by omega) ?_
            refine zw_some ?_
            refine zw_ite (fun h16 => ?_) (fun h16 => ?_)
            · have r17 : (-2147483648) ≤ (m1 a0 2) ∧ (m1 a0 2) ≤ 2147483647 := zi_rd hIm1 hc0 zb_28_2
              have e18 : (m1 a0 2) = 0 := (zs_eq hmm1)
              exact zw_some ⟨hIm1, hFm1, hRKNm1, hRLTm1, hRSEm1, ⟨by decide, by decide⟩, ⟨by omega, by omega⟩⟩
            · exfalso; omega
          · refine zw_b (by omega) ?_
            refine zw_some ?_
            refine zw_ite (fun h19 => ?_) (fun h19 => ?_)
            · exfalso; omega
            · refine zw_bd (zw_eq (zu_call_at (zt_T n) (zm_83 n) (zdp_83 n) _ _ _ _ _ rfl (zr_83_0 n _ _ a3 0 9 m1)) ?_)
              refine zw_ite (fun h20 => ?_) (fun h20 => ?_)
              · refine zw_b (by omega) ?_
                refine zw_some ?_
                refine zw_ite (fun h21 => ?_) (fun h21 => ?_)
                · have r22 : (-2147483648) ≤ (m1 a0 2) ∧ (m1 a0 2) ≤ 2147483647 := zi_rd hIm1 hc0 zb_28_2
                  have e23 : (m1 a0 2) = 0 := (zs_eq hmm1)
                  exact zw_some ⟨hIm1, hFm1, hRKNm1, hRLTm1, hRSEm1, ⟨by decide, by decide⟩, ⟨by omega, by omega⟩⟩
                · exfalso; omega
              · refine zw_ite (fun h24 => ?_) (fun h24 => ?_)
                · refine zw_b (by omega) ?_
                  refine zw_some ?_
                  refine zw_ite (fun h25 => ?_) (fun h25 => ?_)
                  · have r26 : (-2147483648) ≤ (m1 a0 2) ∧ (m1 a0 2) ≤ 2147483647 := zi_rd hIm1 hc0 zb_28_2
                    have e27 : (m1 a0 2) = 0 := (zs_eq hmm1)
                    exact zw_some ⟨hIm1, hFm1, hRKNm1, hRLTm1, hRSEm1, ⟨by decide, by decide⟩, ⟨by omega, by omega⟩⟩
                  · exfalso; omega
                · refine zw_b (by omega) ?_
                  refine zw_some ?_
                  refine zw_ite (fun h28 => ?_) (fun h28 => ?_)
                  · exfalso; omega
                  · refine zw_bd (zw_eq (zu_call_at (zt_T n) (zm_83 n) (zdp_83 n) _ _ _ _ _ rfl (zr_83_0 n _ _ a4 1 40 m1)) ?_)
                    refine zw_ite (fun h29 => ?_) (fun h29 => ?_)
                    · refine zw_b (by omega) ?_
                      refine zw_some ?_
                      refine zw_ite (fun h30 => ?_) (fun h30 => ?_)
                      · have r31 : (-2147483648) ≤ (m1 a0 2) ∧ (m1 a0 2) ≤ 2147483647 := zi_rd hIm1 hc0 zb_28_2
                        have e32 : (m1 a0 2) = 0 := (zs_eq hmm1)
                        exact zw_some ⟨hIm1, hFm1, hRKNm1, hRLTm1, hRSEm1, ⟨by decide, by decide⟩, ⟨by omega, by omega⟩⟩
                      · exfalso; omega
                    · refine zw_ite (fun h33 => ?_) (fun h33 => ?_)
                      · refine zw_b (by omega) ?_
                        refine zw_some ?_
                        refine zw_ite (fun h34 => ?_) (fun h34 => ?_)
                        · have r35 : (-2147483648) ≤ (m1 a0 2) ∧ (m1 a0 2) ≤ 2147483647 := zi_rd hIm1 hc0 zb_28_2
                          have e36 : (m1 a0 2) = 0 := (zs_eq hmm1)
                          exact zw_some ⟨hIm1, hFm1, hRKNm1, hRLTm1, hRSEm1, ⟨by decide, by decide⟩, ⟨by omega, by omega⟩⟩
                        · exfalso; omega
                      · refine zw_b (by omega) ?_
                        refine zw_some ?_
                        refine zw_ite (fun h37 => ?_) (fun h37 => ?_)
                        · exfalso; omega
                        · refine zw_bd (zw_eq (zu_call_at (zt_T n) (zm_83 n) (zdp_83 n) _ _ _ _ _ rfl (zr_83_0 n _ _ a5 0 2 m1)) ?_)
                          refine zw_ite (fun h38 => ?_) (fun h38 => ?_)
                          · refine zw_b (by omega) ?_
                            refine zw_some ?_
                            refine zw_ite (fun h39 => ?_) (fun h39 => ?_)
                            · have r40 : (-2147483648) ≤ (m1 a0 2) ∧ (m1 a0 2) ≤ 2147483647 := zi_rd hIm1 hc0 zb_28_2
                              have e41 : (m1 a0 2) = 0 := (zs_eq hmm1)
                              exact zw_some ⟨hIm1, hFm1, hRKNm1, hRLTm1, hRSEm1, ⟨by decide, by decide⟩, ⟨by omega, by omega⟩⟩
                            · exfalso; omega
                          · refine zw_ite (fun h42 => ?_) (fun h42 => ?_)
                            · refine zw_b (by omega) ?_
                              refine zw_some ?_
                              refine zw_ite (fun h43 => ?_) (fun h43 => ?_)
                              · have r44 : (-2147483648) ≤ (m1 a0 2) ∧ (m1 a0 2) ≤ 2147483647 := zi_rd hIm1 hc0 zb_28_2
                                have e45 : (m1 a0 2) = 0 := (zs_eq hmm1)
                                exact zw_some ⟨hIm1, hFm1, hRKNm1, hRLTm1, hRSEm1, ⟨by decide, by decide⟩, ⟨by omega, by omega⟩⟩
                              · exfalso; omega
                            · refine zw_b (by omega) ?_
                              refine zw_some ?_
                              refine zw_ite (fun h46 => ?_) (fun h46 => ?_)
                              · exfalso; omega
                              · have r47 : 0 ≤ (m1 a0 15) ∧ (m1 a0 15) ≤ 4 := zi_rd hIm1 hc0 zb_28_15
                                refine zw_ite (fun h48 => ?_) (fun h48 => ?_)
                                · refine zw_bd (zw_eq (zu_call_at (zt_T n) (zm_36 n) (zdp_36 n) _ _ _ _ _ rfl (zr_36_0 n _ _ a0 m1)) ?_)
                                  have r49 : 1 ≤ (m1 a0 12) ∧ (m1 a0 12) ≤ 8 := zi_rd hIm1 hc0 zb_28_12
                                  have r50 : 1 ≤ (m1 a0 13) ∧ (m1 a0 13) ≤ 6 := zi_rd hIm1 hc0 zb_28_13
                                  have p51 := zmul_bd (x := (m1 a0 12)) (y := (m1 a0 13)) (a := 1) (b := 1) (A := 8) (B := 6) (by omega) (by omega) (by omega) (by omega) (by omega) (by omega)
                                  have w52 := zu_w32_id (z := (m1 a0 12) * (m1 a0 13)) (by omega) (by omega)
                                  refine zw_some ?_
                                  refine zw_ite (fun h53 => ?_) (fun h53 => ?_)
                                  · refine zw_ite (fun h54 => ?_) (fun h54 => ?_)
                                    · refine zw_bd (zw_mono (zk_160 n hIm1 hc0 ⟨by omega, by omega⟩ ⟨by omega, by omega⟩ ⟨by omega, by omega⟩ ⟨by omega, by omega⟩ hRKNm1 hRLTm1 hRSEm1) (fun v56 m55 hqm55 => ?_))
                                      obtain ⟨hIm55, hfm55, hvm55⟩ := hqm55
                                      have hFm55 := zfr_tr hFm1 hfm55 rfl
                                      obtain ⟨hRKNm55, hRLTm55, hRSEm55, hvm55⟩ := hvm55
                                      refine zw_ite (fun h57 => ?_) (fun h57 => ?_)
                                      · refine zw_ite (fun h58 => ?_) (fun h58 => ?_)
                                        · have r59 : (-2147483648) ≤ (m55 a0 73) ∧ (m55 a0 73) ≤ 2147483647 := zi_rd hIm55 hc0 zb_28_73
                                          have r60 : (-2147483648) ≤ (m55 a0 2) ∧ (m55 a0 2) ≤ 2147483647 := zi_rd hIm55 hc0 zb_28_2
                                          have e61 : (m55 a0 2) = 0 := (Eq.trans (zfr_ap hfm55 hc0 rfl) (zs_eq hmm1))
                                          exact zw_some ⟨hIm55, hFm55, hRKNm55, hRLTm55, hRSEm55, ⟨by omega, by omega⟩, ⟨by omega, by omega⟩⟩
                                        · have r62 : (-2147483648) ≤ (m55 a0 72) ∧ (m55 a0 72) ≤ 2147483647 := zi_rd hIm55 hc0 zb_28_72
                                          have r63 : (-2147483648) ≤ (m55 a0 2) ∧ (m55 a0 2) ≤ 2147483647 := zi_rd hIm55 hc0 zb_28_2
                                          have e64 : (m55 a0 2) = 0 := (Eq.trans (zfr_ap hfm55 hc0 rfl) (zs_eq hmm1))
                                          exact zw_some ⟨hIm55, hFm55, hRKNm55, hRLTm55, hRSEm55, ⟨by omega, by omega⟩, ⟨by omega, by omega⟩⟩
                                      · have r65 : (-2147483648) ≤ (m55 a0 71) ∧ (m55 a0 71) ≤ 2147483647 := zi_rd hIm55 hc0 zb_28_71
                                        have r66 : (-2147483648) ≤ (m55 a0 2) ∧ (m55 a0 2) ≤ 2147483647 := zi_rd hIm55 hc0 zb_28_2
                                        have e67 : (m55 a0 2) = 0 := (Eq.trans (zfr_ap hfm55 hc0 rfl) (zs_eq hmm1))
                                        exact zw_some ⟨hIm55, hFm55, hRKNm55, hRLTm55, hRSEm55, ⟨by omega, by omega⟩, ⟨by omega, by omega⟩⟩
                                    · have r68 : (-2147483648) ≤ (m1 a0 2) ∧ (m1 a0 2) ≤ 2147483647 := zi_rd hIm1 hc0 zb_28_2
                                      have e69 : (m1 a0 2) = 0 := (zs_eq hmm1)
                                      exact zw_some ⟨hIm1, hFm1, hRKNm1, hRLTm1, hRSEm1, ⟨by decide, by decide⟩, ⟨by omega, by omega⟩⟩
                                  · have r70 : (-2147483648) ≤ (m1 a0 2) ∧ (m1 a0 2) ≤ 2147483647 := zi_rd hIm1 hc0 zb_28_2
                                    have e71 : (m1 a0 2) = 0 := (zs_eq hmm1)
                                    exact zw_some ⟨hIm1, hFm1, hRKNm1, hRLTm1, hRSEm1, ⟨by decide, by decide⟩, ⟨by omega, by omega⟩⟩
                                · have r72 : (-2147483648) ≤ (m1 a0 2) ∧ (m1 a0 2) ≤ 2147483647 := zi_rd hIm1 hc0 zb_28_2
                                  have e73 : (m1 a0 2) = 0 := (zs_eq hmm1)
                                  exact zw_some ⟨hIm1, hFm1, hRKNm1, hRLTm1, hRSEm1, ⟨by decide, by decide⟩, ⟨by omega, by omega⟩⟩
set_option maxHeartbeats 4000000 in
theorem zk_164 (n : Nat) {a0 a1 a2 : Int} {m0 : zu_m} (hIm0 : zi_I m0) (hc0 : zcls a0 = 28) (ha1 : (-2147483648) ≤ a1 ∧ a1 ≤ 2147483647) (ha2 : (-2147483648) ≤ a2 ∧ a2 ≤ 2147483647)    (hRKNm0 : zR_KN m0) (hRLTm0 : zR_LT m0) (hRSEm0 : zE1 m0 0) : zw (zu_call (zt_T n) 164 [(40, a0), (0, a1), (0, a2)] m0) (fun v m => zi_I m ∧ zfr [(28, 3), (28, 54), (28, 64), (28, 65), (28, 66), (28, 67), (28, 68), (28, 69), (28, 70), (122, 0), (123, 0), (124, 0), (125, 2), (126, 0), (127, 0), (128, 0), (129, 0), (130, 0), (131, 0)] m0 m ∧ zR_KN m ∧ zR_LT m ∧ zE1 m 0 ∧ ((-2147483648) ≤ v ∧ v ≤ 2147483647) ∧ (0 ≤ m a0 2 ∧ m a0 2 ≤ 0)) := by
  have hFm0 : zfr [(28, 3), (28, 54), (28, 64), (28, 65), (28, 66), (28, 67), (28, 68), (28, 69), (28, 70), (122, 0), (123, 0), (124, 0), (125, 2), (126, 0), (127, 0), (128, 0), (129, 0), (130, 0), (131, 0)] m0 m0 := zfr_rf _ _
  refine zw_eq (zu_call_at (zt_T n) (zm_164 n) (zdp_164 n) _ _ _ _ _ rfl (zr_164_0 n _ _ a0 a1 a2 m0)) ?_
  generalize hmm1 : zu_up m0 a0 2 0 = m1
  have hIm1 := zi_up hmm1 hIm0 hc0 zb_28_2 (by omega) (by omega)
  have hFm1 := zfr_up hmm1 hFm0 hc0 rfl
  have hRKNm1 := zR_KN_fr (zdis_fr (zfr_up hmm1 (zfr_rf [(28, 3)] _) hc0 rfl) rfl) hRKNm0
  have hRLTm1 := zR_LT_fr (zdis_fr (zfr_up hmm1 (zfr_rf [(28, 3)] _) hc0 rfl) rfl) hRLTm0
  have hRSEm1 := zR_SE_fr (zdis_fr (zfr_up hmm1 (zfr_rf [(28, 3)] _) hc0 rfl) rfl) hRSEm0
  refine zw_bd (zw_eq (zu_call_at (zt_T n) (zm_83 n) (zdp_83 n) _ _ _ _ _ rfl (zr_83_0 n _ _ a1 0 2 m1)) ?_)
  refine zw_ite (fun h2 => ?_) (fun h2 => ?_)
  · refine zw_b (by omega) ?_
    refine zw_some ?_
    refine zw_ite (fun h3 => ?_) (fun h3 => ?_)
    · have r4 : (-2147483648) ≤ (m1 a0 2) ∧ (m1 a0 2) ≤ 2147483647 := zi_rd hIm1 hc0 zb_28_2
      have e5 : (m1 a0 2) = 0 := (zs_eq hmm1)
      exact zw_some ⟨hIm1, hFm1, hRKNm1, hRLTm1, hRSEm1, ⟨by decide, by decide⟩, ⟨by omega, by omega⟩⟩
    · exfalso; omega
  · refine zw_ite (fun h6 => ?_) (fun h6 => ?_)
    · refine zw_b (by omega) ?_
      refine zw_some ?_
      refine zw_ite (fun h7 => ?_) (fun h7 => ?_)
      · have r8 : (-2147483648) ≤ (m1 a0 2) ∧ (m1 a0 2) ≤ 2147483647 := zi_rd hIm1 hc0 zb_28_2
        have e9 : (m1 a0 2) = 0 := (zs_eq hmm1)
        exact zw_some ⟨hIm1, hFm1, hRKNm1, hRLTm1, hRSEm1, ⟨by decide, by decide⟩, ⟨by omega, by omega⟩⟩
      · exfalso; omega
    · refine zw_b (by omega) ?_
      refine zw_some ?_
      refine zw_ite (fun h10 => ?_) (fun h10 => ?_)
      · exfalso; omega
      · refine zw_bd (zw_eq (zu_call_at (zt_T n) (zm_83 n) (zdp_83 n) _ _ _ _ _ rfl (zr_83_0 n _ _ a2 1 200 m1)) ?_)
        refine zw_ite (fun h11 => ?_) (fun h11 => ?_)
        · refine zw_b (by omega) ?_
          refine zw_some ?_
          refine zw_ite (fun h12 => ?_) (fun h12 => ?_)
          · have r13 : (-2147483648) ≤ (m1 a0 2) ∧ (m1 a0 2) ≤ 2147483647 := zi_rd hIm1 hc0 zb_28_2
            have e14 : (m1 a0 2) = 0 := (zs_eq hmm1)
            exact zw_some ⟨hIm1, hFm1, hRKNm1, hRLTm1, hRSEm1, ⟨by decide, by decide⟩, ⟨by omega, by omega⟩⟩
          · exfalso; omega
        · refine zw_ite (fun h15 => ?_) (fun h15 => ?_)
          · refine zw_b (by omega) ?_
            refine zw_some ?_
            refine zw_ite (fun h16 => ?_) (fun h16 => ?_)
            · have r17 : (-2147483648) ≤ (m1 a0 2) ∧ (m1 a0 2) ≤ 2147483647 := zi_rd hIm1 hc0 zb_28_2
              have e18 : (m1 a0 2) = 0 := (zs_eq hmm1)
              exact zw_some ⟨hIm1, hFm1, hRKNm1, hRLTm1, hRSEm1, ⟨by decide, by decide⟩, ⟨by omega, by omega⟩⟩
            · exfalso; omega
          · refine zw_b (by omega) ?_
            refine zw_some ?_
            refine zw_ite (fun h19 => ?_) (fun h19 => ?_)
            · exfalso; omega
            · refine zw_bd (zw_mono (zk_163 n hIm1 hc0 ⟨by omega, by omega⟩ ⟨by omega, by omega⟩ hRKNm1 hRLTm1 hRSEm1) (fun v21 m20 hqm20 => ?_))
              obtain ⟨hIm20, hfm20, hvm20⟩ := hqm20
              have hFm20 := zfr_tr hFm1 hfm20 rfl
              obtain ⟨hRKNm20, hRLTm20, hRS1m20, hRSEm20, hvm20⟩ := hvm20
              have r22 : (-2147483648) ≤ (m20 a0 2) ∧ (m20 a0 2) ≤ 2147483647 := zi_rd hIm20 hc0 zb_28_2
              have e23 : (m20 a0 2) = 0 := (Eq.trans (zfr_ap hfm20 hc0 rfl) (zs_eq hmm1))
              exact zw_some ⟨hIm20, hFm20, hRKNm20, hRLTm20, hRSEm20, ⟨by omega, by omega⟩, ⟨by omega, by omega⟩⟩
set_option maxHeartbeats 4000000 in
theorem zl_165 (n : Nat) {a0 a1 : Int} {m0 : zu_m} (hc0 : zcls a0 = 28)   : ∀ k : Nat, (∀ (x2 x3 : Int) (mh : zu_m), zi_I mh → zfr [(28, 3), (28, 54), (28, 64), (28, 65), (28, 66), (28, 67), (28, 68), (28, 69), (28, 70), (122, 0), (123, 0), (124, 0), (125, 2), (126, 0), (127, 0), (128, 0), (129, 0), (130, 0), (131, 0)] m0 mh → (1 ≤ a1 ∧ a1 ≤ 200) → (0 ≤ x2 ∧ x2 ≤ 2) → (1 ≤ x3 ∧ x3 ≤ 3) → (0 ≤ mh a0 2 ∧ mh a0 2 ≤ 0) → (zR_KN mh) → (zR_LT mh) → (zE1 mh 0) → (3 - x3) * 1 + 0 < (k : Int) → zw (zu_ex (zt_T n) 165 22 [(40, a0), (0, a1), (0, x2), (0, x3)] [] mh) (fun v m => zi_I m ∧ zfr [(28, 3), (28, 54), (28, 64), (28, 65), (28, 66), (28, 67), (28, 68), (28, 69), (28, 70), (122, 0), (123, 0), (124, 0), (125, 2), (126, 0), (127, 0), (128, 0), (129, 0), (130, 0), (131, 0)] m0 m ∧ zR_KN m ∧ zR_LT m ∧ zE1 m 0 ∧ ((-1) ≤ v ∧ v ≤ 2) ∧ (0 ≤ m a0 2 ∧ m a0 2 ≤ 0))) := by
  intro k
  induction k with
  | zero => exact fun x2 x3 mh hImh hFmh hba1 hbx2 hbx3 hg3 hRKNmh hRLTmh hRSEmh hM => by exfalso; omega
  | succ k ih =>
    intro x2 x3 mh hImh hFmh hba1 hbx2 hbx3 hg3 hRKNmh hRLTmh hRSEmh hM
    refine zw_eq (zu_rega_at (zt_T n) (zm_165 n) (zdp_165 n) _ _ _ _ _ _ (zr_165_22 n _ _ a0 a1 x2 x3 mh)) ?_
    refine zw_ite (fun h1 => ?_) (fun h1 => ?_)
    · exact zw_some ⟨hImh, hFmh, hRKNmh, hRLTmh, hRSEmh, ⟨by omega, by omega⟩, ⟨by omega, by omega⟩⟩
    · refine zw_bd (zw_mono (zk_163 n hImh hc0 ⟨by omega, by omega⟩ ⟨by omega, by omega⟩ hRKNmh hRLTmh hRSEmh) (fun v3 m2 hqm2 => ?_))
      obtain ⟨hIm2, hfm2, hvm2⟩ := hqm2
      have hFm2 := zfr_tr hFmh hfm2 rfl
      obtain ⟨hRKNm2, hRLTm2, hRS1m2, hRSEm2, hvm2⟩ := hvm2
      refine zw_bd (zw_mono (zk_163 n hIm2 hc0 ⟨by omega, by omega⟩ ⟨by omega, by omega⟩ hRKNm2 hRLTm2 hRSEm2) (fun v5 m4 hqm4 => ?_))
      obtain ⟨hIm4, hfm4, hvm4⟩ := hqm4
      have hFm4 := zfr_tr hFm2 hfm4 rfl
      obtain ⟨hRKNm4, hRLTm4, hRS1m4, hRSEm4, hvm4⟩ := hvm4
      refine zw_ite (fun h6 => ?_) (fun h6 => ?_)
      · have w7 := zu_w32_id (z := x3 + 1) (by omega) (by omega)
        have r8 : (-2147483648) ≤ (m4 a0 2) ∧ (m4 a0 2) ≤ 2147483647 := zi_rd hIm4 hc0 zb_28_2
        have e9 : (m4 a0 2) = (mh a0 2) := (Eq.trans (zfr_ap hfm4 hc0 rfl) (zfr_ap hfm2 hc0 rfl))
        have hM : (3 - (zu_w32 (x3 + 1))) * 1 + 0 < (k : Int) := by omega
        exact ih x2 (zu_w32 (x3 + 1)) m4 hIm4 hFm4 ⟨by omega, by omega⟩ ⟨by omega, by omega⟩ ⟨by omega, by omega⟩ ⟨by omega, by omega⟩ hRKNm4 hRLTm4 hRSEm4 hM
      · have w10 := zu_w32_id (z := x3 + 1) (by omega) (by omega)
        have r11 : (-2147483648) ≤ (m4 a0 2) ∧ (m4 a0 2) ≤ 2147483647 := zi_rd hIm4 hc0 zb_28_2
        have e12 : (m4 a0 2) = (mh a0 2) := (Eq.trans (zfr_ap hfm4 hc0 rfl) (zfr_ap hfm2 hc0 rfl))
        have hM : (3 - (zu_w32 (x3 + 1))) * 1 + 0 < (k : Int) := by omega
        exact ih x3 (zu_w32 (x3 + 1)) m4 hIm4 hFm4 ⟨by omega, by omega⟩ ⟨by omega, by omega⟩ ⟨by omega, by omega⟩ ⟨by omega, by omega⟩ hRKNm4 hRLTm4 hRSEm4 hM
set_option maxHeartbeats 4000000 in
theorem zk_165 (n : Nat) {a0 a1 : Int} {m0 : zu_m} (hIm0 : zi_I m0) (hc0 : zcls a0 = 28) (ha1 : (-2147483648) ≤ a1 ∧ a1 ≤ 2147483647)    (hRKNm0 : zR_KN m0) (hRLTm0 : zR_LT m0) (hRSEm0 : zE1 m0 0) : zw (zu_call (zt_T n) 165 [(40, a0), (0, a1)] m0) (fun v m => zi_I m ∧ zfr [(28, 3), (28, 54), (28, 64), (28, 65), (28, 66), (28, 67), (28, 68), (28, 69), (28, 70), (122, 0), (123, 0), (124, 0), (125, 2), (126, 0), (127, 0), (128, 0), (129, 0), (130, 0), (131, 0)] m0 m ∧ zR_KN m ∧ zR_LT m ∧ zE1 m 0 ∧ ((-1) ≤ v ∧ v ≤ 2) ∧ (0 ≤ m a0 2 ∧ m a0 2 ≤ 0)) := by
  have hFm0 : zfr [(28, 3), (28, 54), (28, 64), (28, 65), (28, 66), (28, 67), (28, 68), (28, 69), (28, 70), (122, 0), (123, 0), (124, 0), (125, 2), (126, 0), (127, 0), (128, 0), (129, 0), (130, 0), (131, 0)] m0 m0 := zfr_rf _ _
  refine zw_eq (zu_call_at (zt_T n) (zm_165 n) (zdp_165 n) _ _ _ _ _ rfl (zr_165_0 n _ _ a0 a1 m0)) ?_
  generalize hmm13 : zu_up m0 a0 2 0 = m13
  have hIm13 := zi_up hmm13 hIm0 hc0 zb_28_2 (by omega) (by omega)
  have hFm13 := zfr_up hmm13 hFm0 hc0 rfl
  have hRKNm13 := zR_KN_fr (zdis_fr (zfr_up hmm13 (zfr_rf [(28, 3)] _) hc0 rfl) rfl) hRKNm0
  have hRLTm13 := zR_LT_fr (zdis_fr (zfr_up hmm13 (zfr_rf [(28, 3)] _) hc0 rfl) rfl) hRLTm0
  have hRSEm13 := zR_SE_fr (zdis_fr (zfr_up hmm13 (zfr_rf [(28, 3)] _) hc0 rfl) rfl) hRSEm0
  refine zw_bd (zw_eq (zu_call_at (zt_T n) (zm_83 n) (zdp_83 n) _ _ _ _ _ rfl (zr_83_0 n _ _ a1 1 200 m13)) ?_)
  refine zw_ite (fun h14 => ?_) (fun h14 => ?_)
  · refine zw_b (by omega) ?_
    refine zw_some ?_
    refine zw_ite (fun h15 => ?_) (fun h15 => ?_)
    · exfalso; omega
    · have r16 : (-2147483648) ≤ (m13 a0 2) ∧ (m13 a0 2) ≤ 2147483647 := zi_rd hIm13 hc0 zb_28_2
      have e17 : (m13 a0 2) = 0 := (zs_eq hmm13)
      exact zw_some ⟨hIm13, hFm13, hRKNm13, hRLTm13, hRSEm13, ⟨by decide, by decide⟩, ⟨by omega, by omega⟩⟩
  · refine zw_ite (fun h18 => ?_) (fun h18 => ?_)
    · refine zw_b (by omega) ?_
      refine zw_some ?_
      refine zw_ite (fun h19 => ?_) (fun h19 => ?_)
      · exfalso; omega
      · have r20 : (-2147483648) ≤ (m13 a0 2) ∧ (m13 a0 2) ≤ 2147483647 := zi_rd hIm13 hc0 zb_28_2
        have e21 : (m13 a0 2) = 0 := (zs_eq hmm13)
        exact zw_some ⟨hIm13, hFm13, hRKNm13, hRLTm13, hRSEm13, ⟨by decide, by decide⟩, ⟨by omega, by omega⟩⟩
    · refine zw_b (by omega) ?_
      refine zw_some ?_
      refine zw_ite (fun h22 => ?_) (fun h22 => ?_)
      · have r23 : (-2147483648) ≤ (m13 a0 2) ∧ (m13 a0 2) ≤ 2147483647 := zi_rd hIm13 hc0 zb_28_2
        have e24 : (m13 a0 2) = 0 := (zs_eq hmm13)
        have hM : (3 - 1) * 1 + 0 < ((3 : Nat) : Int) := by omega
        exact (zl_165 n (m0 := m0) hc0 3) 0 1 m13 hIm13 hFm13 ⟨by omega, by omega⟩ ⟨by omega, by omega⟩ ⟨by omega, by omega⟩ ⟨by omega, by omega⟩ hRKNm13 hRLTm13 hRSEm13 hM
      · exfalso; omega

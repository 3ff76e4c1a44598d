set_option maxHeartbeats 4000000 in
theorem zl_184H0 (n : Nat) {a0 a1 : Int} {m0 : zu_m} (hc0 : zcls a0 = 28)   (k : Nat) (ih : (∀ (x2 x3 : Int) (mh : zu_m), zi_I mh → zfr [(28, 3), (28, 54), (28, 64), (28, 65), (28, 66), (28, 67), (28, 68), (28, 69), (28, 70), (122, 0), (123, 0), (124, 0), (125, 0), (126, 0), (127, 0), (128, 0), (129, 0), (130, 0), (131, 0), (136, 0)] m0 mh → (0 ≤ a1 ∧ a1 ≤ 3) → (0 ≤ x2 ∧ x2 ≤ 0) → (0 ≤ x3 ∧ x3 ≤ 24) → (1 ≤ mh a0 15 ∧ mh a0 15 ≤ 4) → (0 ≤ mh a0 2 ∧ mh a0 2 ≤ 0) → (zR_C0 mh) → (zR_KN mh) → (zR_LT mh) → (zE1 mh 0) → (zR_TE mh) → (24 - x3) * 1 + 6514 < (k : Int) → zw (zu_ex (zt_T n) 184 19 [(40, a0), (0, a1), (0, x2), (0, x3), (2, 0), (2, 0), (2, 0)] [] mh) (fun v m => zi_I m ∧ zfr [(28, 3), (28, 54), (28, 64), (28, 65), (28, 66), (28, 67), (28, 68), (28, 69), (28, 70), (122, 0), (123, 0), (124, 0), (125, 0), (126, 0), (127, 0), (128, 0), (129, 0), (130, 0), (131, 0), (136, 0)] m0 m ∧ zR_C0 m ∧ zR_KN m ∧ zR_LT m ∧ zE1 m 0 ∧ zR_TE m ∧ ((-2147483648) ≤ v ∧ v ≤ 2147483647) ∧ (0 ≤ m a0 2 ∧ m a0 2 ≤ 0))) ∧ (∀ (x2 x3 : Int) (mh : zu_m), zi_I mh → zfr [(28, 3), (28, 54), (28, 64), (28, 65), (28, 66), (28, 67), (28, 68), (28, 69), (28, 70), (122, 0), (123, 0), (124, 0), (125, 0), (126, 0), (127, 0), (128, 0), (129, 0), (130, 0), (131, 0), (136, 0)] m0 mh → (0 ≤ a1 ∧ a1 ≤ 3) → (0 ≤ x2 ∧ x2 ≤ 0) → ((-1) ≤ x3 ∧ x3 ≤ 23) → (1 ≤ mh a0 15 ∧ mh a0 15 ≤ 4) → (0 ≤ mh a0 2 ∧ mh a0 2 ≤ 0) → (zR_C0 mh) → (zR_KN mh) → (zR_LT mh) → (zE1 mh 0) → (zR_TE mh) → (x3 - (-1)) * 1 + 6489 < (k : Int) → zw (zu_ex (zt_T n) 184 47 [(40, a0), (0, a1), (0, x2), (0, x3), (2, 0), (2, 0), (2, 0)] [] mh) (fun v m => zi_I m ∧ zfr [(28, 3), (28, 54), (28, 64), (28, 65), (28, 66), (28, 67), (28, 68), (28, 69), (28, 70), (122, 0), (123, 0), (124, 0), (125, 0), (126, 0), (127, 0), (128, 0), (129, 0), (130, 0), (131, 0), (136, 0)] m0 m ∧ zR_C0 m ∧ zR_KN m ∧ zR_LT m ∧ zE1 m 0 ∧ zR_TE m ∧ ((-2147483648) ≤ v ∧ v ≤ 2147483647) ∧ (0 ≤ m a0 2 ∧ m a0 2 ≤ 0))) ∧ (∀ (x2 x3 : Int) (mh : zu_m), zi_I mh → zfr [(28, 3), (28, 54), (28, 64), (28, 65), (28, 66), (28, 67), (28, 68), (28, 69), (28, 70), (122, 0), (123, 0), (124, 0), (125, 0), (126, 0), (127, 0), (128, 0), (129, 0), (130, 0), (131, 0), (136, 0)] m0 mh → (0 ≤ a1 ∧ a1 ≤ 3) → (0 ≤ x2 ∧ x2 ≤ 200) → (0 ≤ x3 ∧ x3 ≤ 24) → (1 ≤ mh a0 15 ∧ mh a0 15 ≤ 4) → (0 ≤ mh a0 2 ∧ mh a0 2 ≤ 0) → (zR_C0 mh) → (zR_KN mh) → (zR_LT mh) → (zE1 mh 0) → (zR_TE mh) → (24 - x3) * 1 + 6464 < (k : Int) → zw (zu_ex (zt_T n) 184 95 [(40, a0), (0, a1), (0, x2), (0, x3), (2, 0), (2, 0), (2, 0)] [] mh) (fun v m => zi_I m ∧ zfr [(28, 3), (28, 54), (28, 64), (28, 65), (28, 66), (28, 67), (28, 68), (28, 69), (28, 70), (122, 0), (123, 0), (124, 0), (125, 0), (126, 0), (127, 0), (128, 0), (129, 0), (130, 0), (131, 0), (136, 0)] m0 m ∧ zR_C0 m ∧ zR_KN m ∧ zR_LT m ∧ zE1 m 0 ∧ zR_TE m ∧ ((-2147483648) ≤ v ∧ v ≤ 2147483647) ∧ (0 ≤ m a0 2 ∧ m a0 2 ≤ 0))) ∧ (∀ (x2 x3 x4 : Int) (mh : zu_m), zi_I mh → zfr [(28, 3), (28, 54), (28, 64), (28, 65), (28, 66), (28, 67), (28, 68), (28, 69), (28, 70), (122, 0), (123, 0), (124, 0), (125, 0), (126, 0), (127, 0), (128, 0), (129, 0), (130, 0), (131, 0), (136, 0)] m0 mh → (0 ≤ a1 ∧ a1 ≤ 3) → (0 ≤ x2 ∧ x2 ≤ 200) → ((-2147483648) ≤ x3 ∧ x3 ≤ 2147483647) → (0 ≤ x4 ∧ x4 ≤ 31) → (1 ≤ mh a0 15 ∧ mh a0 15 ≤ 4) → (0 ≤ mh a0 2 ∧ mh a0 2 ≤ 0) → (zR_C0 mh) → (zR_KN mh) → (zR_LT mh) → (zE1 mh 0) → (zR_TE mh) → (31 - x4) * 202 + 201 < (k : Int) → zw (zu_ex (zt_T n) 184 148 [(40, a0), (0, a1), (0, x2), (0, x3), (0, x4), (2, 0), (2, 0)] [] mh) (fun v m => zi_I m ∧ zfr [(28, 3), (28, 54), (28, 64), (28, 65), (28, 66), (28, 67), (28, 68), (28, 69), (28, 70), (122, 0), (123, 0), (124, 0), (125, 0), (126, 0), (127, 0), (128, 0), (129, 0), (130, 0), (131, 0), (136, 0)] m0 m ∧ zR_C0 m ∧ zR_KN m ∧ zR_LT m ∧ zE1 m 0 ∧ zR_TE m ∧ ((-2147483648) ≤ v ∧ v ≤ 2147483647) ∧ (0 ≤ m a0 2 ∧ m a0 2 ≤ 0))) ∧ (∀ (x2 x3 x4 x5 x6 : Int) (mh : zu_m), zi_I mh → zfr [(28, 3), (28, 54), (28, 64), (28, 65), (28, 66), (28, 67), (28, 68), (28, 69), (28, 70), (122, 0), (123, 0), (124, 0), (125, 0), (126, 0), (127, 0), (128, 0), (129, 0), (130, 0), (131, 0), (136, 0)] m0 mh → (0 ≤ a1 ∧ a1 ≤ 3) → (0 ≤ x2 ∧ x2 ≤ 200) → ((-2147483648) ≤ x3 ∧ x3 ≤ 2147483647) → (0 ≤ x4 ∧ x4 ≤ 30) → (0 ≤ x5 ∧ x5 ≤ 1) → (1 ≤ x6 ∧ x6 ≤ 201) → (1 ≤ mh a0 15 ∧ mh a0 15 ≤ 4) → (0 ≤ mh a0 2 ∧ mh a0 2 ≤ 0) → ((-1) ≤ mh a0 64 ∧ mh a0 64 ≤ 99999) → (1 ≤ mh a0 65 ∧ mh a0 65 ≤ 1) → (0 ≤ mh a0 66 ∧ mh a0 66 ≤ 0) → (0 ≤ mh a0 67 ∧ mh a0 67 ≤ 0) → (0 ≤ mh a0 68 ∧ mh a0 68 ≤ 0) → ((-1) ≤ mh a0 69 ∧ mh a0 69 ≤ (-1)) → (zR_C0 mh) → (zR_KN mh) → (zR_LT mh) → (zE1 mh 1) → (zE1 mh 0) → (zR_TE mh) → (201 - x6) * 1 + (31 - x4) * 202 + 0 < (k : Int) → zw (zu_ex (zt_T n) 184 195 [(40, a0), (0, a1), (0, x2), (0, x3), (0, x4), (0, x5), (0, x6)] [] mh) (fun v m => zi_I m ∧ zfr [(28, 3), (28, 54), (28, 64), (28, 65), (28, 66), (28, 67), (28, 68), (28, 69), (28, 70), (122, 0), (123, 0), (124, 0), (125, 0), (126, 0), (127, 0), (128, 0), (129, 0), (130, 0), (131, 0), (136, 0)] m0 m ∧ zR_C0 m ∧ zR_KN m ∧ zR_LT m ∧ zE1 m 0 ∧ zR_TE m ∧ ((-2147483648) ≤ v ∧ v ≤ 2147483647) ∧ (0 ≤ m a0 2 ∧ m a0 2 ≤ 0)))) : (∀ (x2 x3 : Int) (mh : zu_m), zi_I mh → zfr [(28, 3), (28, 54), (28, 64), (28, 65), (28, 66), (28, 67), (28, 68), (28, 69), (28, 70), (122, 0), (123, 0), (124, 0), (125, 0), (126, 0), (127, 0), (128, 0), (129, 0), (130, 0), (131, 0), (136, 0)] m0 mh → (0 ≤ a1 ∧ a1 ≤ 3) → (0 ≤ x2 ∧ x2 ≤ 0) → (0 ≤ x3 ∧ x3 ≤ 24) → (1 ≤ mh a0 15 ∧ mh a0 15 ≤ 4) → (0 ≤ mh a0 2 ∧ mh a0 2 ≤ 0) → (zR_C0 mh) → (zR_KN mh) → (zR_LT mh) → (zE1 mh 0) → (zR_TE mh) → (24 - x3) * 1 + 6514 < ((k + 1 : Nat) : Int) → zw (zu_ex (zt_T n) 184 19 [(40, a0), (0, a1), (0, x2), (0, x3), (2, 0), (2, 0), (2, 0)] [] mh) (fun v m => zi_I m ∧ zfr [(28, 3), (28, 54), (28, 64), (28, 65), (28, 66), (28, 67), (28, 68), (28, 69), (28, 70), (122, 0), (123, 0), (124, 0), (125, 0), (126, 0), (127, 0), (128, 0), (129, 0), (130, 0), (131, 0), (136, 0)] m0 m ∧ zR_C0 m ∧ zR_KN m ∧ zR_LT m ∧ zE1 m 0 ∧ zR_TE m ∧ ((-2147483648) ≤ v ∧ v ≤ 2147483647) ∧ (0 ≤ m a0 2 ∧ m a0 2 ≤ 0))) := by
      intro x2 x3 mh hImh hFmh hba1 hbx2 hbx3 hg3 hg4 hRC0mh hRKNmh hRLTmh hRSEmh hRTEmh hM
      refine zw_eq (zu_rega_at (zt_T n) (zm_184 n) (zdp_184 n) _ _ _ _ _ _ (zr_184_19 n _ _ a0 a1 x2 x3 mh)) ?_
      refine zw_bd (zw_eq (zu_call_at (zt_T n) (zm_182 n) (zdp_182 n) _ _ _ _ _ rfl (zr_182_0 n _ _ a0 mh)) ?_)
      have r1 : (-1) ≤ (mh a0 78) ∧ (mh a0 78) ≤ 24 := zi_rd hImh hc0 zb_28_78
      refine zw_ite (fun h2 => ?_) (fun h2 => ?_)
      · refine zw_some ?_
        refine zw_ite (fun h3 => ?_) (fun h3 => ?_)
        · refine zw_bd (zw_eq (zu_call_at (zt_T n) (zm_182 n) (zdp_182 n) _ _ _ _ _ rfl (zr_182_0 n _ _ a0 mh)) ?_)
          refine zw_ite (fun h4 => ?_) (fun h4 => ?_)
          · refine zw_some ?_
            have w5 := zu_w32_id (z := (mh a0 78) - 1) (by omega) (by omega)
            have hM : ((zu_w32 ((mh a0 78) - 1)) - (-1)) * 1 + 6489 < (k : Int) := by omega
            exact ih.2.1 x2 (zu_w32 ((mh a0 78) - 1)) mh hImh hFmh ⟨by omega, by omega⟩ ⟨by omega, by omega⟩ ⟨by omega, by omega⟩ ⟨by omega, by omega⟩ ⟨by omega, by omega⟩ hRC0mh hRKNmh hRLTmh hRSEmh hRTEmh hM
          · exfalso; omega
        · refine zw_b (by omega) ?_
          have b6 : 0 ≤ x3 ∧ x3 < 24 := by omega
          refine zw_if b6 ?_
          generalize hmm7 : zu_up mh 227 x3 1 = m7
          have hIm7 := zi_up hmm7 hImh zq_227 (zb_136 _) (by omega) (by omega)
          have hFm7 := zfr_up hmm7 hFmh zq_227 rfl
          have hRC0m7 := zR_C0_fr (zdis_fr (zfr_up hmm7 (zfr_rf [(136, 0)] _) zq_227 rfl) rfl) hRC0mh
          have hRKNm7 := zR_KN_fr (zdis_fr (zfr_up hmm7 (zfr_rf [(136, 0)] _) zq_227 rfl) rfl) hRKNmh
          have hRLTm7 := zR_LT_fr (zdis_fr (zfr_up hmm7 (zfr_rf [(136, 0)] _) zq_227 rfl) rfl) hRLTmh
          have hRSEm7 := zR_SE_fr (zdis_fr (zfr_up hmm7 (zfr_rf [(136, 0)] _) zq_227 rfl) rfl) hRSEmh
          have hRTEm7 := zR_TE_fr (zdis_fr (zfr_up hmm7 (zfr_rf [(136, 0)] _) zq_227 rfl) rfl) hRTEmh
          have w8 := zu_w32_id (z := x3 + 1) (by omega) (by omega)
          have r9 : (-2147483648) ≤ (m7 a0 2) ∧ (m7 a0 2) ≤ 2147483647 := zi_rd hIm7 hc0 zb_28_2
          have e10 : (m7 a0 2) = (mh a0 2) := (zs_ne hmm7 (Or.inl (zc_ne hc0 zq_227 (by decide))))
          have r11 : 0 ≤ (m7 a0 15) ∧ (m7 a0 15) ≤ 4 := zi_rd hIm7 hc0 zb_28_15
          have e12 : (m7 a0 15) = (mh a0 15) := (zs_ne hmm7 (Or.inl (zc_ne hc0 zq_227 (by decide))))
          have hM : (24 - (zu_w32 (x3 + 1))) * 1 + 6514 < (k : Int) := by omega
          exact ih.1 x2 (zu_w32 (x3 + 1)) m7 hIm7 hFm7 ⟨by omega, by omega⟩ ⟨by omega, by omega⟩ ⟨by omega, by omega⟩ ⟨by omega, by omega⟩ ⟨by omega, by omega⟩ hRC0m7 hRKNm7 hRLTm7 hRSEm7 hRTEm7 hM
      · have r13 : 0 ≤ (mh a0 77) ∧ (mh a0 77) ≤ 24 := zi_rd hImh hc0 zb_28_77
        refine zw_some ?_
        refine zw_ite (fun h14 => ?_) (fun h14 => ?_)
        · refine zw_bd (zw_eq (zu_call_at (zt_T n) (zm_182 n) (zdp_182 n) _ _ _ _ _ rfl (zr_182_0 n _ _ a0 mh)) ?_)
          refine zw_ite (fun h15 => ?_) (fun h15 => ?_)
          · exfalso; omega
          · refine zw_some ?_
            have w16 := zu_w32_id (z := (mh a0 77) - 1) (by omega) (by omega)
            have hM : ((zu_w32 ((mh a0 77) - 1)) - (-1)) * 1 + 6489 < (k : Int) := by omega
            exact ih.2.1 x2 (zu_w32 ((mh a0 77) - 1)) mh hImh hFmh ⟨by omega, by omega⟩ ⟨by omega, by omega⟩ ⟨by omega, by omega⟩ ⟨by omega, by omega⟩ ⟨by omega, by omega⟩ hRC0mh hRKNmh hRLTmh hRSEmh hRTEmh hM
        · refine zw_b (by omega) ?_
          have b17 : 0 ≤ x3 ∧ x3 < 24 := by omega
          refine zw_if b17 ?_
          generalize hmm18 : zu_up mh 227 x3 1 = m18
          have hIm18 := zi_up hmm18 hImh zq_227 (zb_136 _) (by omega) (by omega)
          have hFm18 := zfr_up hmm18 hFmh zq_227 rfl
          have hRC0m18 := zR_C0_fr (zdis_fr (zfr_up hmm18 (zfr_rf [(136, 0)] _) zq_227 rfl) rfl) hRC0mh
          have hRKNm18 := zR_KN_fr (zdis_fr (zfr_up hmm18 (zfr_rf [(136, 0)] _) zq_227 rfl) rfl) hRKNmh
          have hRLTm18 := zR_LT_fr (zdis_fr (zfr_up hmm18 (zfr_rf [(136, 0)] _) zq_227 rfl) rfl) hRLTmh
          have hRSEm18 := zR_SE_fr (zdis_fr (zfr_up hmm18 (zfr_rf [(136, 0)] _) zq_227 rfl) rfl) hRSEmh
          have hRTEm18 := zR_TE_fr (zdis_fr (zfr_up hmm18 (zfr_rf [(136, 0)] _) zq_227 rfl) rfl) hRTEmh
          have w19 := zu_w32_id (z := x3 + 1) (by omega) (by omega)
          have r20 : (-2147483648) ≤ (m18 a0 2) ∧ (m18 a0 2) ≤ 2147483647 := zi_rd hIm18 hc0 zb_28_2
          have e21 : (m18 a0 2) = (mh a0 2) := (zs_ne hmm18 (Or.inl (zc_ne hc0 zq_227 (by decide))))
          have r22 : 0 ≤ (m18 a0 15) ∧ (m18 a0 15) ≤ 4 := zi_rd hIm18 hc0 zb_28_15
          have e23 : (m18 a0 15) = (mh a0 15) := (zs_ne hmm18 (Or.inl (zc_ne hc0 zq_227 (by decide))))
          have hM : (24 - (zu_w32 (x3 + 1))) * 1 + 6514 < (k : Int) := by omega
          exact ih.1 x2 (zu_w32 (x3 + 1)) m18 hIm18 hFm18 ⟨by omega, by omega⟩ ⟨by omega, by omega⟩ ⟨by omega, by omega⟩ ⟨by omega, by omega⟩ ⟨by omega, by omega⟩ hRC0m18 hRKNm18 hRLTm18 hRSEm18 hRTEm18 hM
set_option maxHeartbeats 4000000 in
theorem zl_184H1 (n : Nat) {a0 a1 : Int} {m0 : zu_m} (hc0 : zcls a0 = 28)   (k : Nat) (ih : (∀ (x2 x3 : Int) (mh : zu_m), zi_I mh → zfr [(28, 3), (28, 54), (28, 64), (28, 65), (28, 66), (28, 67), (28, 68), (28, 69), (28, 70), (122, 0), (123, 0), (124, 0), (125, 0), (126, 0), (127, 0), (128, 0), (129, 0), (130, 0), (131, 0), (136, 0)] m0 mh → (0 ≤ a1 ∧ a1 ≤ 3) → (0 ≤ x2 ∧ x2 ≤ 0) → (0 ≤ x3 ∧ x3 ≤ 24) → (1 ≤ mh a0 15 ∧ mh a0 15 ≤ 4) → (0 ≤ mh a0 2 ∧ mh a0 2 ≤ 0) → (zR_C0 mh) → (zR_KN mh) → (zR_LT mh) → (zE1 mh 0) → (zR_TE mh) → (24 - x3) * 1 + 6514 < (k : Int) → zw (zu_ex (zt_T n) 184 19 [(40, a0), (0, a1), (0, x2), (0, x3), (2, 0), (2, 0), (2, 0)] [] mh) (fun v m => zi_I m ∧ zfr [(28, 3), (28, 54), (28, 64), (28, 65), (28, 66), (28, 67), (28, 68), (28, 69), (28, 70), (122, 0), (123, 0), (124, 0), (125, 0), (126, 0), (127, 0), (128, 0), (129, 0), (130, 0), (131, 0), (136, 0)] m0 m ∧ zR_C0 m ∧ zR_KN m ∧ zR_LT m ∧ zE1 m 0 ∧ zR_TE m ∧ ((-2147483648) ≤ v ∧ v ≤ 2147483647) ∧ (0 ≤ m a0 2 ∧ m a0 2 ≤ 0))) ∧ (∀ (x2 x3 : Int) (mh : zu_m), zi_I mh → zfr [(28, 3), (28, 54), (28, 64), (28, 65), (28, 66), (28, 67), (28, 68), (28, 69), (28, 70), (122, 0), (123, 0), (124, 0), (125, 0), (126, 0), (127, 0), (128, 0), (129, 0), (130, 0), (131, 0), (136, 0)] m0 mh → (0 ≤ a1 ∧ a1 ≤ 3) → (0 ≤ x2 ∧ x2 ≤ 0) → ((-1) ≤ x3 ∧ x3 ≤ 23) → (1 ≤ mh a0 15 ∧ mh a0 15 ≤ 4) → (0 ≤ mh a0 2 ∧ mh a0 2 ≤ 0) → (zR_C0 mh) → (zR_KN mh) → (zR_LT mh) → (zE1 mh 0) → (zR_TE mh) → (x3 - (-1)) * 1 + 6489 < (k : Int) → zw (zu_ex (zt_T n) 184 47 [(40, a0), (0, a1), (0, x2), (0, x3), (2, 0), (2, 0), (2, 0)] [] mh) (fun v m => zi_I m ∧ zfr [(28, 3), (28, 54), (28, 64), (28, 65), (28, 66), (28, 67), (28, 68), (28, 69), (28, 70), (122, 0), (123, 0), (124, 0), (125, 0), (126, 0), (127, 0), (128, 0), (129, 0), (130, 0), (131, 0), (136, 0)] m0 m ∧ zR_C0 m ∧ zR_KN m ∧ zR_LT m ∧ zE1 m 0 ∧ zR_TE m ∧ ((-2147483648) ≤ v ∧ v ≤ 2147483647) ∧ (0 ≤ m a0 2 ∧ m a0 2 ≤ 0))) ∧ (∀ (x2 x3 : Int) (mh : zu_m), zi_I mh → zfr [(28, 3), (28, 54), (28, 64), (28, 65), (28, 66), (28, 67), (28, 68), (28, 69), (28, 70), (122, 0), (123, 0), (124, 0), (125, 0), (126, 0), (127, 0), (128, 0), (129, 0), (130, 0), (131, 0), (136, 0)] m0 mh → (0 ≤ a1 ∧ a1 ≤ 3) → (0 ≤ x2 ∧ x2 ≤ 200) → (0 ≤ x3 ∧ x3 ≤ 24) → (1 ≤ mh a0 15 ∧ mh a0 15 ≤ 4) → (0 ≤ mh a0 2 ∧ mh a0 2 ≤ 0) → (zR_C0 mh) → (zR_KN mh) → (zR_LT mh) → (zE1 mh 0) → (zR_TE mh) → (24 - x3) * 1 + 6464 < (k : Int) → zw (zu_ex (zt_T n) 184 95 [(40, a0), (0, a1), (0, x2), (0, x3), (2, 0), (2, 0), (2, 0)] [] mh) (fun v m => zi_I m ∧ zfr [(28, 3), (28, 54), (28, 64), (28, 65), (28, 66), (28, 67), (28, 68), (28, 69), (28, 70), (122, 0), (123, 0), (124, 0), (125, 0), (126, 0), (127, 0), (128, 0), (129, 0), (130, 0), (131, 0), (136, 0)] m0 m ∧ zR_C0 m ∧ zR_KN m ∧ zR_LT m ∧ zE1 m 0 ∧ zR_TE m ∧ ((-2147483648) ≤ v ∧ v ≤ 2147483647) ∧ (0 ≤ m a0 2 ∧ m a0 2 ≤ 0))) ∧ (∀ (x2 x3 x4 : Int) (mh : zu_m), zi_I mh → zfr [(28, 3), (28, 54), (28, 64), (28, 65), (28, 66), (28, 67), (28, 68), (28, 69), (28, 70), (122, 0), (123, 0), (124, 0), (125, 0), (126, 0), (127, 0), (128, 0), (129, 0), (130, 0), (131, 0), (136, 0)] m0 mh → (0 ≤ a1 ∧ a1 ≤ 3) → (0 ≤ x2 ∧ x2 ≤ 200) → ((-2147483648) ≤ x3 ∧ x3 ≤ 2147483647) → (0 ≤ x4 ∧ x4 ≤ 31) → (1 ≤ mh a0 15 ∧ mh a0 15 ≤ 4) → (0 ≤ mh a0 2 ∧ mh a0 2 ≤ 0) → (zR_C0 mh) → (zR_KN mh) → (zR_LT mh) → (zE1 mh 0) → (zR_TE mh) → (31 - x4) * 202 + 201 < (k : Int) → zw (zu_ex (zt_T n) 184 148 [(40, a0), (0, a1), (0, x2), (0, x3), (0, x4), (2, 0), (2, 0)] [] mh) (fun v m => zi_I m ∧ zfr [(28, 3), (28, 54), (28, 64), (28, 65), (28, 66), (28, 67), (28, 68), (28, 69), (28, 70), (122, 0), (123, 0), (124, 0), (125, 0), (126, 0), (127, 0), (128, 0), (129, 0), (130, 0), (131, 0), (136, 0)] m0 m ∧ zR_C0 m ∧ zR_KN m ∧ zR_LT m ∧ zE1 m 0 ∧ zR_TE m ∧ ((-2147483648) ≤ v ∧ v ≤ 2147483647) ∧ (0 ≤ m a0 2 ∧ m a0 2 ≤ 0))) ∧ (∀ (x2 x3 x4 x5 x6 : Int) (mh : zu_m), zi_I mh → zfr [(28, 3), (28, 54), (28, 64), (28, 65), (28, 66), (28, 67), (28, 68), (28, 69), (28, 70), (122, 0), (123, 0), (124, 0), (125, 0), (126, 0), (127, 0), (128, 0), (129, 0), (130, 0), (131, 0), (136, 0)] m0 mh → (0 ≤ a1 ∧ a1 ≤ 3) → (0 ≤ x2 ∧ x2 ≤ 200) → ((-2147483648) ≤ x3 ∧ x3 ≤ 2147483647) → (0 ≤ x4 ∧ x4 ≤ 30) → (0 ≤ x5 ∧ x5 ≤ 1) → (1 ≤ x6 ∧ x6 ≤ 201) → (1 ≤ mh a0 15 ∧ mh a0 15 ≤ 4) → (0 ≤ mh a0 2 ∧ mh a0 2 ≤ 0) → ((-1) ≤ mh a0 64 ∧ mh a0 64 ≤ 99999) → (1 ≤ mh a0 65 ∧ mh a0 65 ≤ 1) → (0 ≤ mh a0 66 ∧ mh a0 66 ≤ 0) → (0 ≤ mh a0 67 ∧ mh a0 67 ≤ 0) → (0 ≤ mh a0 68 ∧ mh a0 68 ≤ 0) → ((-1) ≤ mh a0 69 ∧ mh a0 69 ≤ (-1)) → (zR_C0 mh) → (zR_KN mh) → (zR_LT mh) → (zE1 mh 1) → (zE1 mh 0) → (zR_TE mh) → (201 - x6) * 1 + (31 - x4) * 202 + 0 < (k : Int) → zw (zu_ex (zt_T n) 184 195 [(40, a0), (0, a1), (0, x2), (0, x3), (0, x4), (0, x5), (0, x6)] [] mh) (fun v m => zi_I m ∧ zfr [(28, 3), (28, 54), (28, 64), (28, 65), (28, 66), (28, 67), (28, 68), (28, 69), (28, 70), (122, 0), (123, 0), (124, 0), (125, 0), (126, 0), (127, 0), (128, 0), (129, 0), (130, 0), (131, 0), (136, 0)] m0 m ∧ zR_C0 m ∧ zR_KN m ∧ zR_LT m ∧ zE1 m 0 ∧ zR_TE m ∧ ((-2147483648) ≤ v ∧ v ≤ 2147483647) ∧ (0 ≤ m a0 2 ∧ m a0 2 ≤ 0)))) : (∀ (x2 x3 : Int) (mh : zu_m), zi_I mh → zfr [(28, 3), (28, 54), (28, 64), (28, 65), (28, 66), (28, 67), (28, 68), (28, 69), (28, 70), (122, 0), (123, 0), (124, 0), (125, 0), (126, 0), (127, 0), (128, 0), (129, 0), (130, 0), (131, 0), (136, 0)] m0 mh → (0 ≤ a1 ∧ a1 ≤ 3) → (0 ≤ x2 ∧ x2 ≤ 0) → ((-1) ≤ x3 ∧ x3 ≤ 23) → (1 ≤ mh a0 15 ∧ mh a0 15 ≤ 4) → (0 ≤ mh a0 2 ∧ mh a0 2 ≤ 0) → (zR_C0 mh) → (zR_KN mh) → (zR_LT mh) → (zE1 mh 0) → (zR_TE mh) → (x3 - (-1)) * 1 + 6489 < ((k + 1 : Nat) : Int) → zw (zu_ex (zt_T n) 184 47 [(40, a0), (0, a1), (0, x2), (0, x3), (2, 0), (2, 0), (2, 0)] [] mh) (fun v m => zi_I m ∧ zfr [(28, 3), (28, 54), (28, 64), (28, 65), (28, 66), (28, 67), (28, 68), (28, 69), (28, 70), (122, 0), (123, 0), (124, 0), (125, 0), (126, 0), (127, 0), (128, 0), (129, 0), (130, 0), (131, 0), (136, 0)] m0 m ∧ zR_C0 m ∧ zR_KN m ∧ zR_LT m ∧ zE1 m 0 ∧ zR_TE m ∧ ((-2147483648) ≤ v ∧ v ≤ 2147483647) ∧ (0 ≤ m a0 2 ∧ m a0 2 ≤ 0))) := by
      intro x2 x3 mh hImh hFmh hba1 hbx2 hbx3 hg3 hg4 hRC0mh hRKNmh hRLTmh hRSEmh hRTEmh hM
      refine zw_eq (zu_rega_at (zt_T n) (zm_184 n) (zdp_184 n) _ _ _ _ _ _ (zr_184_47 n _ _ a0 a1 x2 x3 mh)) ?_
      refine zw_ite (fun h24 => ?_) (fun h24 => ?_)
      · have hM : (24 - 0) * 1 + 6464 < (k : Int) := by omega
        exact ih.2.2.1 x2 0 mh hImh hFmh ⟨by omega, by omega⟩ ⟨by omega, by omega⟩ ⟨by omega, by omega⟩ ⟨by omega, by omega⟩ ⟨by omega, by omega⟩ hRC0mh hRKNmh hRLTmh hRSEmh hRTEmh hM
      · have b25 : 0 ≤ x3 ∧ x3 < 24 := by omega
        refine zw_if b25 ?_
        have r26 : 0 ≤ (mh 227 x3) ∧ (mh 227 x3) ≤ 1 := zi_rd hImh zq_227 (zb_136 _)
        refine zw_ite (fun h27 => ?_) (fun h27 => ?_)
        · have w28 := zu_w32_id (z := x3 + (-1)) (by omega) (by omega)
          have hM : ((zu_w32 (x3 + (-1))) - (-1)) * 1 + 6489 < (k : Int) := by omega
          exact ih.2.1 x2 (zu_w32 (x3 + (-1))) mh hImh hFmh ⟨by omega, by omega⟩ ⟨by omega, by omega⟩ ⟨by omega, by omega⟩ ⟨by omega, by omega⟩ ⟨by omega, by omega⟩ hRC0mh hRKNmh hRLTmh hRSEmh hRTEmh hM
        · have w29 := zu_w32_id (z := 4 * x3) (by omega) (by omega)
          have b30 : 0 ≤ (zu_w32 (4 * x3)) ∧ (zu_w32 (4 * x3)) < 96 := by omega
          refine zw_if b30 ?_
          have r31 : (-1) ≤ (mh 226 (zu_w32 (4 * x3))) ∧ (mh 226 (zu_w32 (4 * x3))) ≤ 200 := zi_rdr (m := 4) (r0 := 0) (r1 := 0) hImh zq_226 (by omega) (by decide +kernel)
          refine zw_ite (fun h32 => ?_) (fun h32 => ?_)
          · have w33 := zu_w32_id (z := x3 + (-1)) (by omega) (by omega)
            have hM : ((zu_w32 (x3 + (-1))) - (-1)) * 1 + 6489 < (k : Int) := by omega
            exact ih.2.1 x2 (zu_w32 (x3 + (-1))) mh hImh hFmh ⟨by omega, by omega⟩ ⟨by omega, by omega⟩ ⟨by omega, by omega⟩ ⟨by omega, by omega⟩ ⟨by omega, by omega⟩ hRC0mh hRKNmh hRLTmh hRSEmh hRTEmh hM
          · have w34 := zu_w32_id (z := (zu_w32 (4 * x3)) + 1) (by omega) (by omega)
            have b35 : 0 ≤ (zu_w32 ((zu_w32 (4 * x3)) + 1)) ∧ (zu_w32 ((zu_w32 (4 * x3)) + 1)) < 96 := by omega
            refine zw_if b35 ?_
            have r36 : 0 ≤ (mh 226 (zu_w32 ((zu_w32 (4 * x3)) + 1))) ∧ (mh 226 (zu_w32 ((zu_w32 (4 * x3)) + 1))) ≤ 23 := zi_rdr (m := 4) (r0 := 1) (r1 := 1) hImh zq_226 (by omega) (by decide +kernel)
            refine zw_b (by omega) ?_
            have b37 : 0 ≤ (mh 226 (zu_w32 ((zu_w32 (4 * x3)) + 1))) ∧ (mh 226 (zu_w32 ((zu_w32 (4 * x3)) + 1))) < 24 := by omega
            refine zw_if b37 ?_
            generalize hmm38 : zu_up mh 227 (mh 226 (zu_w32 ((zu_w32 (4 * x3)) + 1))) 0 = m38
            have hIm38 := zi_up hmm38 hImh zq_227 (zb_136 _) (by omega) (by omega)
            have hFm38 := zfr_up hmm38 hFmh zq_227 rfl
            have hRC0m38 := zR_C0_fr (zdis_fr (zfr_up hmm38 (zfr_rf [(136, 0)] _) zq_227 rfl) rfl) hRC0mh
            have hRKNm38 := zR_KN_fr (zdis_fr (zfr_up hmm38 (zfr_rf [(136, 0)] _) zq_227 rfl) rfl) hRKNmh
            have hRLTm38 := zR_LT_fr (zdis_fr (zfr_up hmm38 (zfr_rf [(136, 0)] _) zq_227 rfl) rfl) hRLTmh
            have hRSEm38 := zR_SE_fr (zdis_fr (zfr_up hmm38 (zfr_rf [(136, 0)] _) zq_227 rfl) rfl) hRSEmh
            have hRTEm38 := zR_TE_fr (zdis_fr (zfr_up hmm38 (zfr_rf [(136, 0)] _) zq_227 rfl) rfl) hRTEmh
            have w39 := zu_w32_id (z := x3 + (-1)) (by omega) (by omega)
            have r40 : (-2147483648) ≤ (m38 a0 2) ∧ (m38 a0 2) ≤ 2147483647 := zi_rd hIm38 hc0 zb_28_2
            have e41 : (m38 a0 2) = (mh a0 2) := (zs_ne hmm38 (Or.inl (zc_ne hc0 zq_227 (by decide))))
            have r42 : 0 ≤ (m38 a0 15) ∧ (m38 a0 15) ≤ 4 := zi_rd hIm38 hc0 zb_28_15
            have e43 : (m38 a0 15) = (mh a0 15) := (zs_ne hmm38 (Or.inl (zc_ne hc0 zq_227 (by decide))))
            have hM : ((zu_w32 (x3 + (-1))) - (-1)) * 1 + 6489 < (k : Int) := by omega
            exact ih.2.1 x2 (zu_w32 (x3 + (-1))) m38 hIm38 hFm38 ⟨by omega, by omega⟩ ⟨by omega, by omega⟩ ⟨by omega, by omega⟩ ⟨by omega, by omega⟩ ⟨by omega, by omega⟩ hRC0m38 hRKNm38 hRLTm38 hRSEm38 hRTEm38 hM
set_option maxHeartbeats 4000000 in
theorem zl_184H2 (n : Nat) {a0 a1 : Int} {m0 : zu_m} (hc0 : zcls a0 = 28)   (k : Nat) (ih : (∀ (x2 x3 : Int) (mh : zu_m), zi_I mh → zfr [(28, 3), (28, 54), (28, 64), (28, 65), (28, 66), (28, 67), (28, 68), (28, 69), (28, 70), (122, 0), (123, 0), (124, 0), (125, 0), (126, 0), (127, 0), (128, 0), (129, 0), (130, 0), (131, 0), (136, 0)] m0 mh → (0 ≤ a1 ∧ a1 ≤ 3) → (0 ≤ x2 ∧ x2 ≤ 0) → (0 ≤ x3 ∧ x3 ≤ 24) → (1 ≤ mh a0 15 ∧ mh a0 15 ≤ 4) → (0 ≤ mh a0 2 ∧ mh a0 2 ≤ 0) → (zR_C0 mh) → (zR_KN mh) → (zR_LT mh) → (zE1 mh 0) → (zR_TE mh) → (24 - x3) * 1 + 6514 < (k : Int) → zw (zu_ex (zt_T n) 184 19 [(40, a0), (0, a1), (0, x2), (0, x3), (2, 0), (2, 0), (2, 0)] [] mh) (fun v m => zi_I m ∧ zfr [(28, 3), (28, 54), (28, 64), (28, 65), (28, 66), (28, 67), (28, 68), (28, 69), (28, 70), (122, 0), (123, 0), (124, 0), (125, 0), (126, 0), (127, 0), (128, 0), (129, 0), (130, 0), (131, 0), (136, 0)] m0 m ∧ zR_C0 m ∧ zR_KN m ∧ zR_LT m ∧ zE1 m 0 ∧ zR_TE m ∧ ((-2147483648) ≤ v ∧ v ≤ 2147483647) ∧ (0 ≤ m a0 2 ∧ m a0 2 ≤ 0))) ∧ (∀ (x2 x3 : Int) (mh : zu_m), zi_I mh → zfr [(28, 3), (28, 54), (28, 64), (28, 65), (28, 66), (28, 67), (28, 68), (28, 69), (28, 70), (122, 0), (123, 0), (124, 0), (125, 0), (126, 0), (127, 0), (128, 0), (129, 0), (130, 0), (131, 0), (136, 0)] m0 mh → (0 ≤ a1 ∧ a1 ≤ 3) → (0 ≤ x2 ∧ x2 ≤ 0) → ((-1) ≤ x3 ∧ x3 ≤ 23) → (1 ≤ mh a0 15 ∧ mh a0 15 ≤ 4) → (0 ≤ mh a0 2 ∧ mh a0 2 ≤ 0) → (zR_C0 mh) → (zR_KN mh) → (zR_LT mh) → (zE1 mh 0) → (zR_TE mh) → (x3 - (-1)) * 1 + 6489 < (k : Int) → zw (zu_ex (zt_T n) 184 47 [(40, a0), (0, a1), (0, x2), (0, x3), (2, 0), (2, 0), (2, 0)] [] mh) (fun v m => zi_I m ∧ zfr [(28, 3), (28, 54), (28, 64), (28, 65), (28, 66), (28, 67), (28, 68), (28, 69), (28, 70), (122, 0), (123, 0), (124, 0), (125, 0), (126, 0), (127, 0), (128, 0), (129, 0), (130, 0), (131, 0), (136, 0)] m0 m ∧ zR_C0 m ∧ zR_KN m ∧ zR_LT m ∧ zE1 m 0 ∧ zR_TE m ∧ ((-2147483648) ≤ v ∧ v ≤ 2147483647) ∧ (0 ≤ m a0 2 ∧ m a0 2 ≤ 0))) ∧ (∀ (x2 x3 : Int) (mh : zu_m), zi_I mh → zfr [(28, 3), (28, 54), (28, 64), (28, 65), (28, 66), (28, 67), (28, 68), (28, 69), (28, 70), (122, 0), (123, 0), (124, 0), (125, 0), (126, 0), (127, 0), (128, 0), (129, 0), (130, 0), (131, 0), (136, 0)] m0 mh → (0 ≤ a1 ∧ a1 ≤ 3) → (0 ≤ x2 ∧ x2 ≤ 200) → (0 ≤ x3 ∧ x3 ≤ 24) → (1 ≤ mh a0 15 ∧ mh a0 15 ≤ 4) → (0 ≤ mh a0 2 ∧ mh a0 2 ≤ 0) → (zR_C0 mh) → (zR_KN mh) → (zR_LT mh) → (zE1 mh 0) → (zR_TE mh) → (24 - x3) * 1 + 6464 < (k : Int) → zw (zu_ex (zt_T n) 184 95 [(40, a0), (0, a1), (0, x2), (0, x3), (2, 0), (2, 0), (2, 0)] [] mh) (fun v m => zi_I m ∧ zfr [(28, 3), (28, 54), (28, 64), (28, 65), (28, 66), (28, 67), (28, 68), (28, 69), (28, 70), (122, 0), (123, 0), (124, 0), (125, 0), (126, 0), (127, 0), (128, 0), (129, 0), (130, 0), (131, 0), (136, 0)] m0 m ∧ zR_C0 m ∧ zR_KN m ∧ zR_LT m ∧ zE1 m 0 ∧ zR_TE m ∧ ((-2147483648) ≤ v ∧ v ≤ 2147483647) ∧ (0 ≤ m a0 2 ∧ m a0 2 ≤ 0))) ∧ (∀ (x2 x3 x4 : Int) (mh : zu_m), zi_I mh → zfr [(28, 3), (28, 54), (28, 64), (28, 65), (28, 66), (28, 67), (28, 68), (28, 69), (28, 70), (122, 0), (123, 0), (124, 0), (125, 0), (126, 0), (127, 0), (128, 0), (129, 0), (130, 0), (131, 0), (136, 0)] m0 mh → (0 ≤ a1 ∧ a1 ≤ 3) → (0 ≤ x2 ∧ x2 ≤ 200) → ((-2147483648) ≤ x3 ∧ x3 ≤ 2147483647) → (0 ≤ x4 ∧ x4 ≤ 31) → (1 ≤ mh a0 15 ∧ mh a0 15 ≤ 4) → (0 ≤ mh a0 2 ∧ mh a0 2 ≤ 0) → (zR_C0 mh) → (zR_KN mh) → (zR_LT mh) → (zE1 mh 0) → (zR_TE mh) → (31 - x4) * 202 + 201 < (k : Int) → zw (zu_ex (zt_T n) 184 148 [(40, a0), (0, a1), (0, x2), (0, x3), (0, x4), (2, 0), (2, 0)] [] mh) (fun v m => zi_I m ∧ zfr [(28, 3), (28, 54), (28, 64), (28, 65), (28, 66), (28, 67), (28, 68), (28, 69), (28, 70), (122, 0), (123, 0), (124, 0), (125, 0), (126, 0), (127, 0), (128, 0), (129, 0), (130, 0), (131, 0), (136, 0)] m0 m ∧ zR_C0 m ∧ zR_KN m ∧ zR_LT m ∧ zE1 m 0 ∧ zR_TE m ∧ ((-2147483648) ≤ v ∧ v ≤ 2147483647) ∧ (0 ≤ m a0 2 ∧ m a0 2 ≤ 0))) ∧ (∀ (x2 x3 x4 x5 x6 : Int) (mh : zu_m), zi_I mh → zfr [(28, 3), (28, 54), (28, 64), (28, 65), (28, 66), (28, 67), (28, 68), (28, 69), (28, 70), (122, 0), (123, 0), (124, 0), (125, 0), (126, 0), (127, 0), (128, 0), (129, 0), (130, 0), (131, 0), (136, 0)] m0 mh → (0 ≤ a1 ∧ a1 ≤ 3) → (0 ≤ x2 ∧ x2 ≤ 200) → ((-2147483648) ≤ x3 ∧ x3 ≤ 2147483647) → (0 ≤ x4 ∧ x4 ≤ 30) → (0 ≤ x5 ∧ x5 ≤ 1) → (1 ≤ x6 ∧ x6 ≤ 201) → (1 ≤ mh a0 15 ∧ mh a0 15 ≤ 4) → (0 ≤ mh a0 2 ∧ mh a0 2 ≤ 0) → ((-1) ≤ mh a0 64 ∧ mh a0 64 ≤ 99999) → (1 ≤ mh a0 65 ∧ mh a0 65 ≤ 1) → (0 ≤ mh a0 66 ∧ mh a0 66 ≤ 0) → (0 ≤ mh a0 67 ∧ mh a0 67 ≤ 0) → (0 ≤ mh a0 68 ∧ mh a0 68 ≤ 0) → ((-1) ≤ mh a0 69 ∧ mh a0 69 ≤ (-1)) → (zR_C0 mh) → (zR_KN mh) → (zR_LT mh) → (zE1 mh 1) → (zE1 mh 0) → (zR_TE mh) → (201 - x6) * 1 + (31 - x4) * 202 + 0 < (k : Int) → zw (zu_ex (zt_T n) 184 195 [(40, a0), (0, a1), (0, x2), (0, x3), (0, x4), (0, x5), (0, x6)] [] mh) (fun v m => zi_I m ∧ zfr [(28, 3), (28, 54), (28, 64), (28, 65), (28, 66), (28, 67), (28, 68), (28, 69), (28, 70), (122, 0), (123, 0), (124, 0), (125, 0), (126, 0), (127, 0), (128, 0), (129, 0), (130, 0), (131, 0), (136, 0)] m0 m ∧ zR_C0 m ∧ zR_KN m ∧ zR_LT m ∧ zE1 m 0 ∧ zR_TE m ∧ ((-2147483648) ≤ v ∧ v ≤ 2147483647) ∧ (0 ≤ m a0 2 ∧ m a0 2 ≤ 0)))) : (∀ (x2 x3 : Int) (mh : zu_m), zi_I mh → zfr [(28, 3), (28, 54), (28, 64), (28, 65), (28, 66), (28, 67), (28, 68), (28, 69), (28, 70), (122, 0), (123, 0), (124, 0), (125, 0), (126, 0), (127, 0), (128, 0), (129, 0), (130, 0), (131, 0), (136, 0)] m0 mh → (0 ≤ a1 ∧ a1 ≤ 3) → (0 ≤ x2 ∧ x2 ≤ 200) → (0 ≤ x3 ∧ x3 ≤ 24) → (1 ≤ mh a0 15 ∧ mh a0 15 ≤ 4) → (0 ≤ mh a0 2 ∧ mh a0 2 ≤ 0) → (zR_C0 mh) → (zR_KN mh) → (zR_LT mh) → (zE1 mh 0) → (zR_TE mh) → (24 - x3) * 1 + 6464 < ((k + 1 : Nat) : Int) → zw (zu_ex (zt_T n) 184 95 [(40, a0), (0, a1), (0, x2), (0, x3), (2, 0), (2, 0), (2, 0)] [] mh) (fun v m => zi_I m ∧ zfr [(28, 3), (28, 54), (28, 64), (28, 65), (28, 66), (28, 67), (28, 68), (28, 69), (28, 70), (122, 0), (123, 0), (124, 0), (125, 0), (126, 0), (127, 0), (128, 0), (129, 0), (130, 0), (131, 0), (136, 0)] m0 m ∧ zR_C0 m ∧ zR_KN m ∧ zR_LT m ∧ zE1 m 0 ∧ zR_TE m ∧ ((-2147483648) ≤ v ∧ v ≤ 2147483647) ∧ (0 ≤ m a0 2 ∧ m a0 2 ≤ 0))) := by
      intro x2 x3 mh hImh hFmh hba1 hbx2 hbx3 hg3 hg4 hRC0mh hRKNmh hRLTmh hRSEmh hRTEmh hM
      refine zw_eq (zu_rega_at (zt_T n) (zm_184 n) (zdp_184 n) _ _ _ _ _ _ (zr_184_95 n _ _ a0 a1 x2 x3 mh)) ?_
      refine zw_bd (zw_eq (zu_call_at (zt_T n) (zm_182 n) (zdp_182 n) _ _ _ _ _ rfl (zr_182_0 n _ _ a0 mh)) ?_)
      have r44 : (-1) ≤ (mh a0 78) ∧ (mh a0 78) ≤ 24 := zi_rd hImh hc0 zb_28_78
      refine zw_ite (fun h45 => ?_) (fun h45 => ?_)
      · refine zw_some ?_
        refine zw_ite (fun h46 => ?_) (fun h46 => ?_)
        · have hM : (31 - 0) * 202 + 201 < (k : Int) := by omega
          exact ih.2.2.2.1 x2 0 0 mh hImh hFmh ⟨by omega, by omega⟩ ⟨by omega, by omega⟩ ⟨by omega, by omega⟩ ⟨by omega, by omega⟩ ⟨by omega, by omega⟩ ⟨by omega, by omega⟩ hRC0mh hRKNmh hRLTmh hRSEmh hRTEmh hM
        · have b47 : 0 ≤ x3 ∧ x3 < 24 := by omega
          refine zw_if b47 ?_
          have r48 : 0 ≤ (mh 227 x3) ∧ (mh 227 x3) ≤ 1 := zi_rd hImh zq_227 (zb_136 _)
          refine zw_ite (fun h49 => ?_) (fun h49 => ?_)
          · have w50 := zu_w32_id (z := x3 + 1) (by omega) (by omega)
            have hM : (24 - (zu_w32 (x3 + 1))) * 1 + 6464 < (k : Int) := by omega
            exact ih.2.2.1 x2 (zu_w32 (x3 + 1)) mh hImh hFmh ⟨by omega, by omega⟩ ⟨by omega, by omega⟩ ⟨by omega, by omega⟩ ⟨by omega, by omega⟩ ⟨by omega, by omega⟩ hRC0mh hRKNmh hRLTmh hRSEmh hRTEmh hM
          · have w51 := zu_w32_id (z := 4 * x3) (by omega) (by omega)
            have b52 : 0 ≤ (zu_w32 (4 * x3)) ∧ (zu_w32 (4 * x3)) < 96 := by omega
            refine zw_if b52 ?_
            have r53 : (-1) ≤ (mh 226 (zu_w32 (4 * x3))) ∧ (mh 226 (zu_w32 (4 * x3))) ≤ 200 := zi_rdr (m := 4) (r0 := 0) (r1 := 0) hImh zq_226 (by omega) (by decide +kernel)
            refine zw_ite (fun h54 => ?_) (fun h54 => ?_)
            · have w55 := zu_w32_id (z := x3 + 1) (by omega) (by omega)
              have hM : (24 - (zu_w32 (x3 + 1))) * 1 + 6464 < (k : Int) := by omega
              exact ih.2.2.1 x2 (zu_w32 (x3 + 1)) mh hImh hFmh ⟨by omega, by omega⟩ ⟨by omega, by omega⟩ ⟨by omega, by omega⟩ ⟨by omega, by omega⟩ ⟨by omega, by omega⟩ hRC0mh hRKNmh hRLTmh hRSEmh hRTEmh hM
            · have b56 : 0 ≤ (zu_w32 (4 * x3)) ∧ (zu_w32 (4 * x3)) < 96 := by omega
              refine zw_if b56 ?_
              have w57 := zu_w32_id (z := x3 + 1) (by omega) (by omega)
              have hM : (24 - (zu_w32 (x3 + 1))) * 1 + 6464 < (k : Int) := by omega
              exact ih.2.2.1 (mh 226 (zu_w32 (4 * x3))) (zu_w32 (x3 + 1)) mh hImh hFmh ⟨by omega, by omega⟩ ⟨by omega, by omega⟩ ⟨by omega, by omega⟩ ⟨by omega, by omega⟩ ⟨by omega, by omega⟩ hRC0mh hRKNmh hRLTmh hRSEmh hRTEmh hM
      · have r58 : 0 ≤ (mh a0 77) ∧ (mh a0 77) ≤ 24 := zi_rd hImh hc0 zb_28_77
        refine zw_some ?_
        refine zw_ite (fun h59 => ?_) (fun h59 => ?_)
        · have hM : (31 - 0) * 202 + 201 < (k : Int) := by omega
          exact ih.2.2.2.1 x2 0 0 mh hImh hFmh ⟨by omega, by omega⟩ ⟨by omega, by omega⟩ ⟨by omega, by omega⟩ ⟨by omega, by omega⟩ ⟨by omega, by omega⟩ ⟨by omega, by omega⟩ hRC0mh hRKNmh hRLTmh hRSEmh hRTEmh hM
        · have b60 : 0 ≤ x3 ∧ x3 < 24 := by omega
          refine zw_if b60 ?_
          have r61 : 0 ≤ (mh 227 x3) ∧ (mh 227 x3) ≤ 1 := zi_rd hImh zq_227 (zb_136 _)
          refine zw_ite (fun h62 => ?_) (fun h62 => ?_)
          · have w63 := zu_w32_id (z := x3 + 1) (by omega) (by omega)
            have hM : (24 - (zu_w32 (x3 + 1))) * 1 + 6464 < (k : Int) := by omega
            exact ih.2.2.1 x2 (zu_w32 (x3 + 1)) mh hImh hFmh ⟨by omega, by omega⟩ ⟨by omega, by omega⟩ ⟨by omega, by omega⟩ ⟨by omega, by omega⟩ ⟨by omega, by omega⟩ hRC0mh hRKNmh hRLTmh hRSEmh hRTEmh hM
          · have w64 := zu_w32_id (z := 4 * x3) (by omega) (by omega)
            have b65 : 0 ≤ (zu_w32 (4 * x3)) ∧ (zu_w32 (4 * x3)) < 96 := by omega
            refine zw_if b65 ?_
            have r66 : (-1) ≤ (mh 226 (zu_w32 (4 * x3))) ∧ (mh 226 (zu_w32 (4 * x3))) ≤ 200 := zi_rdr (m := 4) (r0 := 0) (r1 := 0) hImh zq_226 (by omega) (by decide +kernel)
            refine zw_ite (fun h67 => ?_) (fun h67 => ?_)
            · have w68 := zu_w32_id (z := x3 + 1) (by omega) (by omega)
              have hM : (24 - (zu_w32 (x3 + 1))) * 1 + 6464 < (k : Int) := by omega
              exact ih.2.2.1 x2 (zu_w32 (x3 + 1)) mh hImh hFmh ⟨by omega, by omega⟩ ⟨by omega, by omega⟩ ⟨by omega, by omega⟩ ⟨by omega, by omega⟩ ⟨by omega, by omega⟩ hRC0mh hRKNmh hRLTmh hRSEmh hRTEmh hM
            · have b69 : 0 ≤ (zu_w32 (4 * x3)) ∧ (zu_w32 (4 * x3)) < 96 := by omega
              refine zw_if b69 ?_
              have w70 := zu_w32_id (z := x3 + 1) (by omega) (by omega)
              have hM : (24 - (zu_w32 (x3 + 1))) * 1 + 6464 < (k : Int) := by omega
              exact ih.2.2.1 (mh 226 (zu_w32 (4 * x3))) (zu_w32 (x3 + 1)) mh hImh hFmh ⟨by omega, by omega⟩ ⟨by omega, by omega⟩ ⟨by omega, by omega⟩ ⟨by omega, by omega⟩ ⟨by omega, by omega⟩ hRC0mh hRKNmh hRLTmh hRSEmh hRTEmh hM
set_option maxHeartbeats 4000000 in
theorem zl_184H3 (n : Nat) {a0 a1 : Int} {m0 : zu_m} (hc0 : zcls a0 = 28)   (k : Nat) (ih : (∀ (x2 x3 : Int) (mh : zu_m), zi_I mh → zfr [(28, 3), (28, 54), (28, 64), (28, 65), (28, 66), (28, 67), (28, 68), (28, 69), (28, 70), (122, 0), (123, 0), (124, 0), (125, 0), (126, 0), (127, 0), (128, 0), (129, 0), (130, 0), (131, 0), (136, 0)] m0 mh → (0 ≤ a1 ∧ a1 ≤ 3) → (0 ≤ x2 ∧ x2 ≤ 0) → (0 ≤ x3 ∧ x3 ≤ 24) → (1 ≤ mh a0 15 ∧ mh a0 15 ≤ 4) → (0 ≤ mh a0 2 ∧ mh a0 2 ≤ 0) → (zR_C0 mh) → (zR_KN mh) → (zR_LT mh) → (zE1 mh 0) → (zR_TE mh) → (24 - x3) * 1 + 6514 < (k : Int) → zw (zu_ex (zt_T n) 184 19 [(40, a0), (0, a1), (0, x2), (0, x3), (2, 0), (2, 0), (2, 0)] [] mh) (fun v m => zi_I m ∧ zfr [(28, 3), (28, 54), (28, 64), (28, 65), (28, 66), (28, 67), (28, 68), (28, 69), (28, 70), (122, 0), (123, 0), (124, 0), (125, 0), (126, 0), (127, 0), (128, 0), (129, 0), (130, 0), (131, 0), (136, 0)] m0 m ∧ zR_C0 m ∧ zR_KN m ∧ zR_LT m ∧ zE1 m 0 ∧ zR_TE m ∧ ((-2147483648) ≤ v ∧ v ≤ 2147483647) ∧ (0 ≤ m a0 2 ∧ m a0 2 ≤ 0))) ∧ (∀ (x2 x3 : Int) (mh : zu_m), zi_I mh → zfr [(28, 3), (28, 54), (28, 64), (28, 65), (28, 66), (28, 67), (28, 68), (28, 69), (28, 70), (122, 0), (123, 0), (124, 0), (125, 0), (126, 0), (127, 0), (128, 0), (129, 0), (130, 0), (131, 0), (136, 0)] m0 mh → (0 ≤ a1 ∧ a1 ≤ 3) → (0 ≤ x2 ∧ x2 ≤ 0) → ((-1) ≤ x3 ∧ x3 ≤ 23) → (1 ≤ mh a0 15 ∧ mh a0 15 ≤ 4) → (0 ≤ mh a0 2 ∧ mh a0 2 ≤ 0) → (zR_C0 mh) → (zR_KN mh) → (zR_LT mh) → (zE1 mh 0) → (zR_TE mh) → (x3 - (-1)) * 1 + 6489 < (k : Int) → zw (zu_ex (zt_T n) 184 47 [(40, a0), (0, a1), (0, x2), (0, x3), (2, 0), (2, 0), (2, 0)] [] mh) (fun v m => zi_I m ∧ zfr [(28, 3), (28, 54), (28, 64), (28, 65), (28, 66), (28, 67), (28, 68), (28, 69), (28, 70), (122, 0), (123, 0), (124, 0), (125, 0), (126, 0), (127, 0), (128, 0), (129, 0), (130, 0), (131, 0), (136, 0)] m0 m ∧ zR_C0 m ∧ zR_KN m ∧ zR_LT m ∧ zE1 m 0 ∧ zR_TE m ∧ ((-2147483648) ≤ v ∧ v ≤ 2147483647) ∧ (0 ≤ m a0 2 ∧ m a0 2 ≤ 0))) ∧ (∀ (x2 x3 : Int) (mh : zu_m), zi_I mh → zfr [(28, 3), (28, 54), (28, 64), (28, 65), (28, 66), (28, 67), (28, 68), (28, 69), (28, 70), (122, 0), (123, 0), (124, 0), (125, 0), (126, 0), (127, 0), (128, 0), (129, 0), (130, 0), (131, 0), (136, 0)] m0 mh → (0 ≤ a1 ∧ a1 ≤ 3) → (0 ≤ x2 ∧ x2 ≤ 200) → (0 ≤ x3 ∧ x3 ≤ 24) → (1 ≤ mh a0 15 ∧ mh a0 15 ≤ 4) → (0 ≤ mh a0 2 ∧ mh a0 2 ≤ 0) → (zR_C0 mh) → (zR_KN mh) → (zR_LT mh) → (zE1 mh 0) → (zR_TE mh) → (24 - x3) * 1 + 6464 < (k : Int) → zw (zu_ex (zt_T n) 184 95 [(40, a0), (0, a1), (0, x2), (0, x3), (2, 0), (2, 0), (2, 0)] [] mh) (fun v m => zi_I m ∧ zfr [(28, 3), (28, 54), (28, 64), (28, 65), (28, 66), (28, 67), (28, 68), (28, 69), (28, 70), (122, 0), (123, 0), (124, 0), (125, 0), (126, 0), (127, 0), (128, 0), (129, 0), (130, 0), (131, 0), (136, 0)] m0 m ∧ zR_C0 m ∧ zR_KN m ∧ zR_LT m ∧ zE1 m 0 ∧ zR_TE m ∧ ((-2147483648) ≤ v ∧ v ≤ 2147483647) ∧ (0 ≤ m a0 2 ∧ m a0 2 ≤ 0))) ∧ (∀ (x2 x3 x4 : Int) (mh : zu_m), zi_I mh → zfr [(28, 3), (28, 54), (28, 64), (28, 65), (28, 66), (28, 67), (28, 68), (28, 69), (28, 70), (122, 0), (123, 0), (124, 0), (125, 0), (126, 0), (127, 0), (128, 0), (129, 0), (130, 0), (131, 0), (136, 0)] m0 mh → (0 ≤ a1 ∧ a1 ≤ 3) → (0 ≤ x2 ∧ x2 ≤ 200) → ((-2147483648) ≤ x3 ∧ x3 ≤ 2147483647) → (0 ≤ x4 ∧ x4 ≤ 31) → (1 ≤ mh a0 15 ∧ mh a0 15 ≤ 4) → (0 ≤ mh a0 2 ∧ mh a0 2 ≤ 0) → (zR_C0 mh) → (zR_KN mh) → (zR_LT mh) → (zE1 mh 0) → (zR_TE mh) → (31 - x4) * 202 + 201 < (k : Int) → zw (zu_ex (zt_T n) 184 148 [(40, a0), (0, a1), (0, x2), (0, x3), (0, x4), (2, 0), (2, 0)] [] mh) (fun v m => zi_I m ∧ zfr [(28, 3), (28, 54), (28, 64), (28, 65), (28, 66), (28, 67), (28, 68), (28, 69), (28, 70), (122, 0), (123, 0), (124, 0), (125, 0), (126, 0), (127, 0), (128, 0), (129, 0), (130, 0), (131, 0), (136, 0)] m0 m ∧ zR_C0 m ∧ zR_KN m ∧ zR_LT m ∧ zE1 m 0 ∧ zR_TE m ∧ ((-2147483648) ≤ v ∧ v ≤ 2147483647) ∧ (0 ≤ m a0 2 ∧ m a0 2 ≤ 0))) ∧ (∀ (x2 x3 x4 x5 x6 : Int) (mh : zu_m), zi_I mh → zfr [(28, 3), (28, 54), (28, 64), (28, 65), (28, 66), (28, 67), (28, 68), (28, 69), (28, 70), (122, 0), (123, 0), (124, 0), (125, 0), (126, 0), (127, 0), (128, 0), (129, 0), (130, 0), (131, 0), (136, 0)] m0 mh → (0 ≤ a1 ∧ a1 ≤ 3) → (0 ≤ x2 ∧ x2 ≤ 200) → ((-2147483648) ≤ x3 ∧ x3 ≤ 2147483647) → (0 ≤ x4 ∧ x4 ≤ 30) → (0 ≤ x5 ∧ x5 ≤ 1) → (1 ≤ x6 ∧ x6 ≤ 201) → (1 ≤ mh a0 15 ∧ mh a0 15 ≤ 4) → (0 ≤ mh a0 2 ∧ mh a0 2 ≤ 0) → ((-1) ≤ mh a0 64 ∧ mh a0 64 ≤ 99999) → (1 ≤ mh a0 65 ∧ mh a0 65 ≤ 1) → (0 ≤ mh a0 66 ∧ mh a0 66 ≤ 0) → (0 ≤ mh a0 67 ∧ mh a0 67 ≤ 0) → (0 ≤ mh a0 68 ∧ mh a0 68 ≤ 0) → ((-1) ≤ mh a0 69 ∧ mh a0 69 ≤ (-1)) → (zR_C0 mh) → (zR_KN mh) → (zR_LT mh) → (zE1 mh 1) → (zE1 mh 0) → (zR_TE mh) → (201 - x6) * 1 + (31 - x4) * 202 + 0 < (k : Int) → zw (zu_ex (zt_T n) 184 195 [(40, a0), (0, a1), (0, x2), (0, x3), (0, x4), (0, x5), (0, x6)] [] mh) (fun v m => zi_I m ∧ zfr [(28, 3), (28, 54), (28, 64), (28, 65), (28, 66), (28, 67), (28, 68), (28, 69), (28, 70), (122, 0), (123, 0), (124, 0), (125, 0), (126, 0), (127, 0), (128, 0), (129, 0), (130, 0), (131, 0), (136, 0)] m0 m ∧ zR_C0 m ∧ zR_KN m ∧ zR_LT m ∧ zE1 m 0 ∧ zR_TE m ∧ ((-2147483648) ≤ v ∧ v ≤ 2147483647) ∧ (0 ≤ m a0 2 ∧ m a0 2 ≤ 0)))) : (∀ (x2 x3 x4 : Int) (mh : zu_m), zi_I mh → zfr [(28, 3), (28, 54), (28, 64), (28, 65), (28, 66), (28, 67), (28, 68), (28, 69), (28, 70), (122, 0), (123, 0), (124, 0), (125, 0), (126, 0), (127, 0), (128, 0), (129, 0), (130, 0), (131, 0), (136, 0)] m0 mh → (0 ≤ a1 ∧ a1 ≤ 3) → (0 ≤ x2 ∧ x2 ≤ 200) → ((-2147483648) ≤ x3 ∧ x3 ≤ 2147483647) → (0 ≤ x4 ∧ x4 ≤ 31) → (1 ≤ mh a0 15 ∧ mh a0 15 ≤ 4) → (0 ≤ mh a0 2 ∧ mh a0 2 ≤ 0) → (zR_C0 mh) → (zR_KN mh) → (zR_LT mh) → (zE1 mh 0) → (zR_TE mh) → (31 - x4) * 202 + 201 < ((k + 1 : Nat) : Int) → zw (zu_ex (zt_T n) 184 148 [(40, a0), (0, a1), (0, x2), (0, x3), (0, x4), (2, 0), (2, 0)] [] mh) (fun v m => zi_I m ∧ zfr [(28, 3), (28, 54), (28, 64), (28, 65), (28, 66), (28, 67), (28, 68), (28, 69), (28, 70), (122, 0), (123, 0), (124, 0), (125, 0), (126, 0), (127, 0), (128, 0), (129, 0), (130, 0), (131, 0), (136, 0)] m0 m ∧ zR_C0 m ∧ zR_KN m ∧ zR_LT m ∧ zE1 m 0 ∧ zR_TE m ∧ ((-2147483648) ≤ v ∧ v ≤ 2147483647) ∧ (0 ≤ m a0 2 ∧ m a0 2 ≤ 0))) := by
      intro x2 x3 x4 mh hImh hFmh hba1 hbx2 hbx3 hbx4 hg4 hg5 hRC0mh hRKNmh hRLTmh hRSEmh hRTEmh hM
      refine zw_eq (zu_rega_at (zt_T n) (zm_184 n) (zdp_184 n) _ _ _ _ _ _ (zr_184_148 n _ _ a0 a1 x2 x3 x4 mh)) ?_
      refine zw_ite (fun h71 => ?_) (fun h71 => ?_)
      · refine zw_bd (zw_mono (zk_35 n hImh hc0) (fun v73 m72 hqm72 => ?_))
        obtain ⟨hIm72, hfm72, hvm72⟩ := hqm72
        have hFm72 := zfr_tr hFmh hfm72 rfl
        have hRC0m72 := zR_C0_fr (zdis_fr hfm72 rfl) hRC0mh
        have hRKNm72 := zR_KN_fr (zdis_fr hfm72 rfl) hRKNmh
        have hRLTm72 := zR_LT_fr (zdis_fr hfm72 rfl) hRLTmh
        have hRSEm72 := zR_SE_fr (zdis_fr hfm72 rfl) hRSEmh
        have hRTEm72 := zR_TE_fr (zdis_fr hfm72 rfl) hRTEmh
        have r74 : (-2147483648) ≤ (m72 a0 2) ∧ (m72 a0 2) ≤ 2147483647 := zi_rd hIm72 hc0 zb_28_2
        have e75 : (m72 a0 2) = (mh a0 2) := (zfr_ap hfm72 hc0 rfl)
        exact zw_some ⟨hIm72, hFm72, hRC0m72, hRKNm72, hRLTm72, hRSEm72, hRTEm72, ⟨by omega, by omega⟩, ⟨by omega, by omega⟩⟩
      · refine zw_bd (zw_mono (zk_35 n hImh hc0) (fun v77 m76 hqm76 => ?_))
        obtain ⟨hIm76, hfm76, hvm76⟩ := hqm76
        have hFm76 := zfr_tr hFmh hfm76 rfl
        have hRC0m76 := zR_C0_fr (zdis_fr hfm76 rfl) hRC0mh
        have hRKNm76 := zR_KN_fr (zdis_fr hfm76 rfl) hRKNmh
        have hRLTm76 := zR_LT_fr (zdis_fr hfm76 rfl) hRLTmh
        have hRSEm76 := zR_SE_fr (zdis_fr hfm76 rfl) hRSEmh
        have hRTEm76 := zR_TE_fr (zdis_fr hfm76 rfl) hRTEmh
        refine zw_bd (zw_mono (zk_34 n hIm76 hc0 ⟨by decide, by decide⟩ hRC0m76) (fun v79 m78 hqm78 => ?_))
        obtain ⟨hIm78, hfm78, hvm78⟩ := hqm78
        have hFm78 := zfr_tr hFm76 hfm78 rfl
        obtain ⟨hRC0m78, hRS1m78, hvm78⟩ := hvm78
        have hRKNm78 := zR_KN_fr (zdis_fr hfm78 rfl) hRKNm76
        have hRLTm78 := zR_LT_fr (zdis_fr hfm78 rfl) hRLTm76
        have r80 : 0 ≤ (m78 a0 14) ∧ (m78 a0 14) ≤ 12 := zi_rd hIm78 hc0 zb_28_14
        have r81 : 0 ≤ (m78 216 0) ∧ (m78 216 0) ≤ 16 := zi_rdr (m := 2) (r0 := 0) (r1 := 0) hIm78 zq_216 (by omega) (by decide +kernel)
        have hRSEm78 := (hvm78.2.1) hRSEm76
        have hRTEm78 := zTE_of (zone_190 hc0) ((hvm78.2.2) (Or.inl (zTE_rd hRTEm76 (zone_190 hc0))))
        have w82 := zu_w32_id (z := 4 + a1) (by omega) (by omega)
        have b83 : 0 ≤ (zu_w32 (4 + a1)) ∧ (zu_w32 (4 + a1)) < 8 := by omega
        refine zw_if b83 ?_
        generalize hmm84 : zu_up m78 218 (zu_w32 (4 + a1)) x4 = m84
        have hIm84 := zi_up hmm84 hIm78 zq_218 (zb_127 _) (by omega) (by omega)
        have hFm84 := zfr_up hmm84 hFm78 zq_218 rfl
        have hRC0m84 := zR_C0_fr (zdis_fr (zfr_up hmm84 (zfr_rf [(127, 0)] _) zq_218 rfl) rfl) hRC0m78
        have hRKNm84 := zR_KN_fr (zdis_fr (zfr_up hmm84 (zfr_rf [(127, 0)] _) zq_218 rfl) rfl) hRKNm78
        have hRLTm84 := zR_LT_fr (zdis_fr (zfr_up hmm84 (zfr_rf [(127, 0)] _) zq_218 rfl) rfl) hRLTm78
        have hRS1m84 := zR_S1_fr (zdis_fr (zfr_up hmm84 (zfr_rf [(127, 0)] _) zq_218 rfl) rfl) hRS1m78
        have hRSEm84 := zR_SE_fr (zdis_fr (zfr_up hmm84 (zfr_rf [(127, 0)] _) zq_218 rfl) rfl) hRSEm78
        have hRTEm84 := zR_TE_fr (zdis_fr (zfr_up hmm84 (zfr_rf [(127, 0)] _) zq_218 rfl) rfl) hRTEm78
        have b85 : 0 ≤ (0 : Int) ∧ (0 : Int) < 10 := by omega
        refine zw_if b85 ?_
        have r86 : (-1) ≤ (m84 194 0) ∧ (m84 194 0) ≤ 99999 := zi_rd hIm84 zq_194 (zb_103 _)
        generalize hmm87 : zu_up m84 a0 64 (m84 194 0) = m87
        have hIm87 := zi_up hmm87 hIm84 hc0 zb_28_64 (by omega) (by omega)
        have hFm87 := zfr_up hmm87 hFm84 hc0 rfl
        have hRC0m87 := zR_C0_fr (zdis_fr (zfr_up hmm87 (zfr_rf [(28, 65)] _) hc0 rfl) rfl) hRC0m84
        have hRKNm87 := zR_KN_fr (zdis_fr (zfr_up hmm87 (zfr_rf [(28, 65)] _) hc0 rfl) rfl) hRKNm84
        have hRLTm87 := zR_LT_fr (zdis_fr (zfr_up hmm87 (zfr_rf [(28, 65)] _) hc0 rfl) rfl) hRLTm84
        have hRS1m87 := zR_S1_fr (zdis_fr (zfr_up hmm87 (zfr_rf [(28, 65)] _) hc0 rfl) rfl) hRS1m84
        have hRSEm87 := zR_SE_fr (zdis_fr (zfr_up hmm87 (zfr_rf [(28, 65)] _) hc0 rfl) rfl) hRSEm84
        have hRTEm87 := zR_TE_fr (zdis_fr (zfr_up hmm87 (zfr_rf [(28, 65)] _) hc0 rfl) rfl) hRTEm84
        refine zw_b (by omega) ?_
        generalize hmm88 : zu_up m87 a0 65 1 = m88
        have hIm88 := zi_up hmm88 hIm87 hc0 zb_28_65 (by omega) (by omega)
        have hFm88 := zfr_up hmm88 hFm87 hc0 rfl
        have hRC0m88 := zR_C0_fr (zdis_fr (zfr_up hmm88 (zfr_rf [(28, 66)] _) hc0 rfl) rfl) hRC0m87
        have hRKNm88 := zR_KN_fr (zdis_fr (zfr_up hmm88 (zfr_rf [(28, 66)] _) hc0 rfl) rfl) hRKNm87
        have hRLTm88 := zR_LT_fr (zdis_fr (zfr_up hmm88 (zfr_rf [(28, 66)] _) hc0 rfl) rfl) hRLTm87
        have hRS1m88 := zR_S1_fr (zdis_fr (zfr_up hmm88 (zfr_rf [(28, 66)] _) hc0 rfl) rfl) hRS1m87
        have hRSEm88 := zR_SE_fr (zdis_fr (zfr_up hmm88 (zfr_rf [(28, 66)] _) hc0 rfl) rfl) hRSEm87
        have hRTEm88 := zR_TE_fr (zdis_fr (zfr_up hmm88 (zfr_rf [(28, 66)] _) hc0 rfl) rfl) hRTEm87
        have r89 : (-2147483648) ≤ (m88 a0 2) ∧ (m88 a0 2) ≤ 2147483647 := zi_rd hIm88 hc0 zb_28_2
        have e90 : (m88 a0 2) = (mh a0 2) := (Eq.trans (zs_ne hmm88 (Or.inr (by decide))) (Eq.trans (zs_ne hmm87 (Or.inr (by decide))) (Eq.trans (zs_ne hmm84 (Or.inl (zc_ne hc0 zq_218 (by decide)))) (Eq.trans (zfr_ap hfm78 hc0 rfl) (zfr_ap hfm76 hc0 rfl)))))
        have r91 : 0 ≤ (m88 a0 15) ∧ (m88 a0 15) ≤ 4 := zi_rd hIm88 hc0 zb_28_15
        have e92 : (m88 a0 15) = (mh a0 15) := (Eq.trans (zs_ne hmm88 (Or.inr (by decide))) (Eq.trans (zs_ne hmm87 (Or.inr (by decide))) (Eq.trans (zs_ne hmm84 (Or.inl (zc_ne hc0 zq_218 (by decide)))) (Eq.trans (zfr_ap hfm78 hc0 rfl) (zfr_ap hfm76 hc0 rfl)))))
        have r93 : (-2147483648) ≤ (m88 a0 64) ∧ (m88 a0 64) ≤ 2147483647 := zi_rd hIm88 hc0 zb_28_64
        have e94 : (m88 a0 64) = (m84 194 0) := (Eq.trans (zs_ne hmm88 (Or.inr (by decide))) (zs_eq hmm87))
        have r95 : 0 ≤ (m88 a0 65) ∧ (m88 a0 65) ≤ 1 := zi_rd hIm88 hc0 zb_28_65
        have e96 : (m88 a0 65) = 1 := (zs_eq hmm88)
        have r97 : (-2147483648) ≤ (m88 a0 69) ∧ (m88 a0 69) ≤ 2147483647 := zi_rd hIm88 hc0 zb_28_69
        have e98 : (m88 a0 69) = (m76 a0 69) := (Eq.trans (zs_ne hmm88 (Or.inr (by decide))) (Eq.trans (zs_ne hmm87 (Or.inr (by decide))) (Eq.trans (zs_ne hmm84 (Or.inl (zc_ne hc0 zq_218 (by decide)))) (zfr_ap hfm78 hc0 rfl))))
        have r99 : 0 ≤ (m88 a0 66) ∧ (m88 a0 66) ≤ 1 := zi_rd hIm88 hc0 zb_28_66
        have e100 : (m88 a0 66) = (m76 a0 66) := (Eq.trans (zs_ne hmm88 (Or.inr (by decide))) (Eq.trans (zs_ne hmm87 (Or.inr (by decide))) (Eq.trans (zs_ne hmm84 (Or.inl (zc_ne hc0 zq_218 (by decide)))) (zfr_ap hfm78 hc0 rfl))))
        have r101 : 0 ≤ (m88 a0 67) ∧ (m88 a0 67) ≤ 1 := zi_rd hIm88 hc0 zb_28_67
        have e102 : (m88 a0 67) = (m76 a0 67) := (Eq.trans (zs_ne hmm88 (Or.inr (by decide))) (Eq.trans (zs_ne hmm87 (Or.inr (by decide))) (Eq.trans (zs_ne hmm84 (Or.inl (zc_ne hc0 zq_218 (by decide)))) (zfr_ap hfm78 hc0 rfl))))
        have r103 : 0 ≤ (m88 a0 68) ∧ (m88 a0 68) ≤ 1 := zi_rd hIm88 hc0 zb_28_68
        have e104 : (m88 a0 68) = (m76 a0 68) := (Eq.trans (zs_ne hmm88 (Or.inr (by decide))) (Eq.trans (zs_ne hmm87 (Or.inr (by decide))) (Eq.trans (zs_ne hmm84 (Or.inl (zc_ne hc0 zq_218 (by decide)))) (zfr_ap hfm78 hc0 rfl))))
        have hM : (201 - 1) * 1 + (31 - x4) * 202 + 0 < (k : Int) := by omega
        exact ih.2.2.2.2 x2 x3 x4 1 1 m88 hIm88 hFm88 ⟨by omega, by omega⟩ ⟨by omega, by omega⟩ ⟨by omega, by omega⟩ ⟨by omega, by omega⟩ ⟨by omega, by omega⟩ ⟨by omega, by omega⟩ ⟨by omega, by omega⟩ ⟨by omega, by omega⟩ ⟨by omega, by omega⟩ ⟨by omega, by omega⟩ ⟨by omega, by omega⟩ ⟨by omega, by omega⟩ ⟨by omega, by omega⟩ ⟨by omega, by omega⟩ hRC0m88 hRKNm88 hRLTm88 hRS1m88 hRSEm88 hRTEm88 hM
set_option maxHeartbeats 4000000 in
theorem zl_184H4 (n : Nat) {a0 a1 : Int} {m0 : zu_m} (hc0 : zcls a0 = 28)   (k : Nat) (ih : (∀ (x2 x3 : Int) (mh : zu_m), zi_I mh → zfr [(28, 3), (28, 54), (28, 64), (28, 65), (28, 66), (28, 67), (28, 68), (28, 69), (28, 70), (122, 0), (123, 0), (124, 0), (125, 0), (126, 0), (127, 0), (128, 0), (129, 0), (130, 0), (131, 0), (136, 0)] m0 mh → (0 ≤ a1 ∧ a1 ≤ 3) → (0 ≤ x2 ∧ x2 ≤ 0) → (0 ≤ x3 ∧ x3 ≤ 24) → (1 ≤ mh a0 15 ∧ mh a0 15 ≤ 4) → (0 ≤ mh a0 2 ∧ mh a0 2 ≤ 0) → (zR_C0 mh) → (zR_KN mh) → (zR_LT mh) → (zE1 mh 0) → (zR_TE mh) → (24 - x3) * 1 + 6514 < (k : Int) → zw (zu_ex (zt_T n) 184 19 [(40, a0), (0, a1), (0, x2), (0, x3), (2, 0), (2, 0), (2, 0)] [] mh) (fun v m => zi_I m ∧ zfr [(28, 3), (28, 54), (28, 64), (28, 65), (28, 66), (28, 67), (28, 68), (28, 69), (28, 70), (122, 0), (123, 0), (124, 0), (125, 0), (126, 0), (127, 0), (128, 0), (129, 0), (130, 0), (131, 0), (136, 0)] m0 m ∧ zR_C0 m ∧ zR_KN m ∧ zR_LT m ∧ zE1 m 0 ∧ zR_TE m ∧ ((-2147483648) ≤ v ∧ v ≤ 2147483647) ∧ (0 ≤ m a0 2 ∧ m a0 2 ≤ 0))) ∧ (∀ (x2 x3 : Int) (mh : zu_m), zi_I mh → zfr [(28, 3), (28, 54), (28, 64), (28, 65), (28, 66), (28, 67), (28, 68), (28, 69), (28, 70), (122, 0), (123, 0), (124, 0), (125, 0), (126, 0), (127, 0), (128, 0), (129, 0), (130, 0), (131, 0), (136, 0)] m0 mh → (0 ≤ a1 ∧ a1 ≤ 3) → (0 ≤ x2 ∧ x2 ≤ 0) → ((-1) ≤ x3 ∧ x3 ≤ 23) → (1 ≤ mh a0 15 ∧ mh a0 15 ≤ 4) → (0 ≤ mh a0 2 ∧ mh a0 2 ≤ 0) → (zR_C0 mh) → (zR_KN mh) → (zR_LT mh) → (zE1 mh 0) → (zR_TE mh) → (x3 - (-1)) * 1 + 6489 < (k : Int) → zw (zu_ex (zt_T n) 184 47 [(40, a0), (0, a1), (0, x2), (0, x3), (2, 0), (2, 0), (2, 0)] [] mh) (fun v m => zi_I m ∧ zfr [(28, 3), (28, 54), (28, 64), (28, 65), (28, 66), (28, 67), (28, 68), (28, 69), (28, 70), (122, 0), (123, 0), (124, 0), (125, 0), (126, 0), (127, 0), (128, 0), (129, 0), (130, 0), (131, 0), (136, 0)] m0 m ∧ zR_C0 m ∧ zR_KN m ∧ zR_LT m ∧ zE1 m 0 ∧ zR_TE m ∧ ((-2147483648) ≤ v ∧ v ≤ 2147483647) ∧ (0 ≤ m a0 2 ∧ m a0 2 ≤ 0))) ∧ (∀ (x2 x3 : Int) (mh : zu_m), zi_I mh → zfr [(28, 3), (28, 54), (28, 64), (28, 65), (28, 66), (28, 67), (28, 68), (28, 69), (28, 70), (122, 0), (123, 0), (124, 0), (125, 0), (126, 0), (127, 0), (128, 0), (129, 0), (130, 0), (131, 0), (136, 0)] m0 mh → (0 ≤ a1 ∧ a1 ≤ 3) → (0 ≤ x2 ∧ x2 ≤ 200) → (0 ≤ x3 ∧ x3 ≤ 24) → (1 ≤ mh a0 15 ∧ mh a0 15 ≤ 4) → (0 ≤ mh a0 2 ∧ mh a0 2 ≤ 0) → (zR_C0 mh) → (zR_KN mh) → (zR_LT mh) → (zE1 mh 0) → (zR_TE mh) → (24 - x3) * 1 + 6464 < (k : Int) → zw (zu_ex (zt_T n) 184 95 [(40, a0), (0, a1), (0, x2), (0, x3), (2, 0), (2, 0), (2, 0)] [] mh) (fun v m => zi_I m ∧ zfr [(28, 3), (28, 54), (28, 64), (28, 65), (28, 66), (28, 67), (28, 68), (28, 69), (28, 70), (122, 0), (123, 0), (124, 0), (125, 0), (126, 0), (127, 0), (128, 0), (129, 0), (130, 0), (131, 0), (136, 0)] m0 m ∧ zR_C0 m ∧ zR_KN m ∧ zR_LT m ∧ zE1 m 0 ∧ zR_TE m ∧ ((-2147483648) ≤ v ∧ v ≤ 2147483647) ∧ (0 ≤ m a0 2 ∧ m a0 2 ≤ 0))) ∧ (∀ (x2 x3 x4 : Int) (mh : zu_m), zi_I mh → zfr [(28, 3), (28, 54), (28, 64), (28, 65), (28, 66), (28, 67), (28, 68), (28, 69), (28, 70), (122, 0), (123, 0), (124, 0), (125, 0), (126, 0), (127, 0), (128, 0), (129, 0), (130, 0), (131, 0), (136, 0)] m0 mh → (0 ≤ a1 ∧ a1 ≤ 3) → (0 ≤ x2 ∧ x2 ≤ 200) → ((-2147483648) ≤ x3 ∧ x3 ≤ 2147483647) → (0 ≤ x4 ∧ x4 ≤ 31) → (1 ≤ mh a0 15 ∧ mh a0 15 ≤ 4) → (0 ≤ mh a0 2 ∧ mh a0 2 ≤ 0) → (zR_C0 mh) → (zR_KN mh) → (zR_LT mh) → (zE1 mh 0) → (zR_TE mh) → (31 - x4) * 202 + 201 < (k : Int) → zw (zu_ex (zt_T n) 184 148 [(40, a0), (0, a1), (0, x2), (0, x3), (0, x4), (2, 0), (2, 0)] [] mh) (fun v m => zi_I m ∧ zfr [(28, 3), (28, 54), (28, 64), (28, 65), (28, 66), (28, 67), (28, 68), (28, 69), (28, 70), (122, 0), (123, 0), (124, 0), (125, 0), (126, 0), (127, 0), (128, 0), (129, 0), (130, 0), (131, 0), (136, 0)] m0 m ∧ zR_C0 m ∧ zR_KN m ∧ zR_LT m ∧ zE1 m 0 ∧ zR_TE m ∧ ((-2147483648) ≤ v ∧ v ≤ 2147483647) ∧ (0 ≤ m a0 2 ∧ m a0 2 ≤ 0))) ∧ (∀ (x2 x3 x4 x5 x6 : Int) (mh : zu_m), zi_I mh → zfr [(28, 3), (28, 54), (28, 64), (28, 65), (28, 66), (28, 67), (28, 68), (28, 69), (28, 70), (122, 0), (123, 0), (124, 0), (125, 0), (126, 0), (127, 0), (128, 0), (129, 0), (130, 0), (131, 0), (136, 0)] m0 mh → (0 ≤ a1 ∧ a1 ≤ 3) → (0 ≤ x2 ∧ x2 ≤ 200) → ((-2147483648) ≤ x3 ∧ x3 ≤ 2147483647) → (0 ≤ x4 ∧ x4 ≤ 30) → (0 ≤ x5 ∧ x5 ≤ 1) → (1 ≤ x6 ∧ x6 ≤ 201) → (1 ≤ mh a0 15 ∧ mh a0 15 ≤ 4) → (0 ≤ mh a0 2 ∧ mh a0 2 ≤ 0) → ((-1) ≤ mh a0 64 ∧ mh a0 64 ≤ 99999) → (1 ≤ mh a0 65 ∧ mh a0 65 ≤ 1) → (0 ≤ mh a0 66 ∧ mh a0 66 ≤ 0) → (0 ≤ mh a0 67 ∧ mh a0 67 ≤ 0) → (0 ≤ mh a0 68 ∧ mh a0 68 ≤ 0) → ((-1) ≤ mh a0 69 ∧ mh a0 69 ≤ (-1)) → (zR_C0 mh) → (zR_KN mh) → (zR_LT mh) → (zE1 mh 1) → (zE1 mh 0) → (zR_TE mh) → (201 - x6) * 1 + (31 - x4) * 202 + 0 < (k : Int) → zw (zu_ex (zt_T n) 184 195 [(40, a0), (0, a1), (0, x2), (0, x3), (0, x4), (0, x5), (0, x6)] [] mh) (fun v m => zi_I m ∧ zfr [(28, 3), (28, 54), (28, 64), (28, 65), (28, 66), (28, 67), (28, 68), (28, 69), (28, 70), (122, 0), (123, 0), (124, 0), (125, 0), (126, 0), (127, 0), (128, 0), (129, 0), (130, 0), (131, 0), (136, 0)] m0 m ∧ zR_C0 m ∧ zR_KN m ∧ zR_LT m ∧ zE1 m 0 ∧ zR_TE m ∧ ((-2147483648) ≤ v ∧ v ≤ 2147483647) ∧ (0 ≤ m a0 2 ∧ m a0 2 ≤ 0)))) : (∀ (x2 x3 x4 x5 x6 : Int) (mh : zu_m), zi_I mh → zfr [(28, 3), (28, 54), (28, 64), (28, 65), (28, 66), (28, 67), (28, 68), (28, 69), (28, 70), (122, 0), (123, 0), (124, 0), (125, 0), (126, 0), (127, 0), (128, 0), (129, 0), (130, 0), (131, 0), (136, 0)] m0 mh → (0 ≤ a1 ∧ a1 ≤ 3) → (0 ≤ x2 ∧ x2 ≤ 200) → ((-2147483648) ≤ x3 ∧ x3 ≤ 2147483647) → (0 ≤ x4 ∧ x4 ≤ 30) → (0 ≤ x5 ∧ x5 ≤ 1) → (1 ≤ x6 ∧ x6 ≤ 201) → (1 ≤ mh a0 15 ∧ mh a0 15 ≤ 4) → (0 ≤ mh a0 2 ∧ mh a0 2 ≤ 0) → ((-1) ≤ mh a0 64 ∧ mh a0 64 ≤ 99999) → (1 ≤ mh a0 65 ∧ mh a0 65 ≤ 1) → (0 ≤ mh a0 66 ∧ mh a0 66 ≤ 0) → (0 ≤ mh a0 67 ∧ mh a0 67 ≤ 0) → (0 ≤ mh a0 68 ∧ mh a0 68 ≤ 0) → ((-1) ≤ mh a0 69 ∧ mh a0 69 ≤ (-1)) → (zR_C0 mh) → (zR_KN mh) → (zR_LT mh) → (zE1 mh 1) → (zE1 mh 0) → (zR_TE mh) → (201 - x6) * 1 + (31 - x4) * 202 + 0 < ((k + 1 : Nat) : Int) → zw (zu_ex (zt_T n) 184 195 [(40, a0), (0, a1), (0, x2), (0, x3), (0, x4), (0, x5), (0, x6)] [] mh) (fun v m => zi_I m ∧ zfr [(28, 3), (28, 54), (28, 64), (28, 65), (28, 66), (28, 67), (28, 68), (28, 69), (28, 70), (122, 0), (123, 0), (124, 0), (125, 0), (126, 0), (127, 0), (128, 0), (129, 0), (130, 0), (131, 0), (136, 0)] m0 m ∧ zR_C0 m ∧ zR_KN m ∧ zR_LT m ∧ zE1 m 0 ∧ zR_TE m ∧ ((-2147483648) ≤ v ∧ v ≤ 2147483647) ∧ (0 ≤ m a0 2 ∧ m a0 2 ≤ 0))) := by
      intro x2 x3 x4 x5 x6 mh hImh hFmh hba1 hbx2 hbx3 hbx4 hbx5 hbx6 hg6 hg7 hg8 hg9 hg10 hg11 hg12 hg13 hRC0mh hRKNmh hRLTmh hRS1mh hRSEmh hRTEmh hM
      refine zw_eq (zu_rega_at (zt_T n) (zm_184 n) (zdp_184 n) _ _ _ _ _ _ (zr_184_195 n _ _ a0 a1 x2 x3 x4 x5 x6 mh)) ?_
      refine zw_ite (fun h105 => ?_) (fun h105 => ?_)
      · refine zw_ite (fun h106 => ?_) (fun h106 => ?_)
        · have b107 := zu_i32_rg 4 x3 0
          have w108 := zu_w32_id (z := x4 + 1) (by omega) (by omega)
          have hM : (31 - (zu_w32 (x4 + 1))) * 202 + 201 < (k : Int) := by omega
          exact zw_le (zu_forget (zu_lr_same (zu_lr_same (zu_lr_same (zu_lr_same (zu_lr_same (zu_lr_drop (zu_lr_drop zu_lr_nil)))))))) (ih.2.2.2.1 x2 (zu_i32 4 x3 0) (zu_w32 (x4 + 1)) mh hImh hFmh ⟨by omega, by omega⟩ ⟨by omega, by omega⟩ ⟨by omega, by omega⟩ ⟨by omega, by omega⟩ ⟨by omega, by omega⟩ ⟨by omega, by omega⟩ hRC0mh hRKNmh hRLTmh hRSEmh hRTEmh hM)
        · have b109 := zu_i32_rg 5 1 x4
          have b110 := zu_i32_rg 4 x3 (zu_i32 5 1 x4)
          have w111 := zu_w32_id (z := x4 + 1) (by omega) (by omega)
          have hM : (31 - (zu_w32 (x4 + 1))) * 202 + 201 < (k : Int) := by omega
          exact zw_le (zu_forget (zu_lr_same (zu_lr_same (zu_lr_same (zu_lr_same (zu_lr_same (zu_lr_drop (zu_lr_drop zu_lr_nil)))))))) (ih.2.2.2.1 x2 (zu_i32 4 x3 (zu_i32 5 1 x4)) (zu_w32 (x4 + 1)) mh hImh hFmh ⟨by omega, by omega⟩ ⟨by omega, by omega⟩ ⟨by omega, by omega⟩ ⟨by omega, by omega⟩ ⟨by omega, by omega⟩ ⟨by omega, by omega⟩ hRC0mh hRKNmh hRLTmh hRSEmh hRTEmh hM)
      · refine zw_ite (fun h112 => ?_) (fun h112 => ?_)
        · refine zw_ite (fun h113 => ?_) (fun h113 => ?_)
          · have b114 := zu_i32_rg 4 x3 0
            have w115 := zu_w32_id (z := x4 + 1) (by omega) (by omega)
            have hM : (31 - (zu_w32 (x4 + 1))) * 202 + 201 < (k : Int) := by omega
            exact zw_le (zu_forget (zu_lr_same (zu_lr_same (zu_lr_same (zu_lr_same (zu_lr_same (zu_lr_drop (zu_lr_drop zu_lr_nil)))))))) (ih.2.2.2.1 x2 (zu_i32 4 x3 0) (zu_w32 (x4 + 1)) mh hImh hFmh ⟨by omega, by omega⟩ ⟨by omega, by omega⟩ ⟨by omega, by omega⟩ ⟨by omega, by omega⟩ ⟨by omega, by omega⟩ ⟨by omega, by omega⟩ hRC0mh hRKNmh hRLTmh hRSEmh hRTEmh hM)
          · exfalso; omega
        · refine zw_bd (zw_mono (zk_140 n hImh hc0 ⟨by decide, by decide⟩ hRS1mh hRKNmh hRLTmh hRSEmh) (fun v117 m116 hqm116 => ?_))
          obtain ⟨hIm116, hfm116, hvm116⟩ := hqm116
          have hFm116 := zfr_tr hFmh hfm116 rfl
          obtain ⟨hRS1m116, hRKNm116, hRLTm116, hRSEm116, hvm116⟩ := hvm116
          have hRC0m116 := zR_C0_fr (zdis_fr hfm116 rfl) hRC0mh
          have hRTEm116 := zR_TE_fr (zdis_fr hfm116 rfl) hRTEmh
          refine zw_bd (zw_mono (zk_183 n hIm116 hc0 ⟨by omega, by omega⟩) (fun v119 m118 hqm118 => ?_))
          obtain ⟨hIm118, hfm118, hvm118⟩ := hqm118
          have hFm118 := zfr_tr hFm116 hfm118 rfl
          have hRC0m118 := zR_C0_fr (zdis_fr hfm118 rfl) hRC0m116
          have hRKNm118 := zR_KN_fr (zdis_fr hfm118 rfl) hRKNm116
          have hRLTm118 := zR_LT_fr (zdis_fr hfm118 rfl) hRLTm116
          have hRS1m118 := zR_S1_fr (zdis_fr hfm118 rfl) hRS1m116
          have hRSEm118 := zR_SE_fr (zdis_fr hfm118 rfl) hRSEm116
          have hRTEm118 := zR_TE_fr (zdis_fr hfm118 rfl) hRTEm116
          have w120 := zu_w32_id (z := x6 + 1) (by omega) (by omega)
          have r121 : (-2147483648) ≤ (m118 a0 2) ∧ (m118 a0 2) ≤ 2147483647 := zi_rd hIm118 hc0 zb_28_2
          have e122 : (m118 a0 2) = (mh a0 2) := (Eq.trans (zfr_ap hfm118 hc0 rfl) (zfr_ap hfm116 hc0 rfl))
          have r123 : 0 ≤ (m118 a0 15) ∧ (m118 a0 15) ≤ 4 := zi_rd hIm118 hc0 zb_28_15
          have e124 : (m118 a0 15) = (mh a0 15) := (Eq.trans (zfr_ap hfm118 hc0 rfl) (zfr_ap hfm116 hc0 rfl))
          have r125 : (-2147483648) ≤ (m118 a0 64) ∧ (m118 a0 64) ≤ 2147483647 := zi_rd hIm118 hc0 zb_28_64
          have e126 : (m118 a0 64) = (mh a0 64) := (Eq.trans (zfr_ap hfm118 hc0 rfl) (zfr_ap hfm116 hc0 rfl))
          have r127 : 0 ≤ (m118 a0 65) ∧ (m118 a0 65) ≤ 1 := zi_rd hIm118 hc0 zb_28_65
          have e128 : (m118 a0 65) = (mh a0 65) := (Eq.trans (zfr_ap hfm118 hc0 rfl) (zfr_ap hfm116 hc0 rfl))
          have r129 : (-2147483648) ≤ (m118 a0 69) ∧ (m118 a0 69) ≤ 2147483647 := zi_rd hIm118 hc0 zb_28_69
          have e130 : (m118 a0 69) = (mh a0 69) := (Eq.trans (zfr_ap hfm118 hc0 rfl) (zfr_ap hfm116 hc0 rfl))
          have r131 : 0 ≤ (m118 a0 66) ∧ (m118 a0 66) ≤ 1 := zi_rd hIm118 hc0 zb_28_66
          have e132 : (m118 a0 66) = (mh a0 66) := (Eq.trans (zfr_ap hfm118 hc0 rfl) (zfr_ap hfm116 hc0 rfl))
          have r133 : 0 ≤ (m118 a0 67) ∧ (m118 a0 67) ≤ 1 := zi_rd hIm118 hc0 zb_28_67
          have e134 : (m118 a0 67) = (mh a0 67) := (Eq.trans (zfr_ap hfm118 hc0 rfl) (zfr_ap hfm116 hc0 rfl))
          have r135 : 0 ≤ (m118 a0 68) ∧ (m118 a0 68) ≤ 1 := zi_rd hIm118 hc0 zb_28_68
          have e136 : (m118 a0 68) = (mh a0 68) := (Eq.trans (zfr_ap hfm118 hc0 rfl) (zfr_ap hfm116 hc0 rfl))
          have hM : (201 - (zu_w32 (x6 + 1))) * 1 + (31 - x4) * 202 + 0 < (k : Int) := by omega
          exact ih.2.2.2.2 x2 x3 x4 v119 (zu_w32 (x6 + 1)) m118 hIm118 hFm118 ⟨by omega, by omega⟩ ⟨by omega, by omega⟩ ⟨by omega, by omega⟩ ⟨by omega, by omega⟩ ⟨by omega, by omega⟩ ⟨by omega, by omega⟩ ⟨by omega, by omega⟩ ⟨by omega, by omega⟩ ⟨by omega, by omega⟩ ⟨by omega, by omega⟩ ⟨by omega, by omega⟩ ⟨by omega, by omega⟩ ⟨by omega, by omega⟩ ⟨by omega, by omega⟩ hRC0m118 hRKNm118 hRLTm118 hRS1m118 hRSEm118 hRTEm118 hM
set_option maxHeartbeats 4000000 in
theorem zl_184 (n : Nat) {a0 a1 : Int} {m0 : zu_m} (hc0 : zcls a0 = 28)   : ∀ k : Nat, (∀ (x2 x3 : Int) (mh : zu_m), zi_I mh → zfr [(28, 3), (28, 54), (28, 64), (28, 65), (28, 66), (28, 67), (28, 68), (28, 69), (28, 70), (122, 0), (123, 0), (124, 0), (125, 0), (126, 0), (127, 0), (128, 0), (129, 0), (130, 0), (131, 0), (136, 0)] m0 mh → (0 ≤ a1 ∧ a1 ≤ 3) → (0 ≤ x2 ∧ x2 ≤ 0) → (0 ≤ x3 ∧ x3 ≤ 24) → (1 ≤ mh a0 15 ∧ mh a0 15 ≤ 4) → (0 ≤ mh a0 2 ∧ mh a0 2 ≤ 0) → (zR_C0 mh) → (zR_KN mh) → (zR_LT mh) → (zE1 mh 0) → (zR_TE mh) → (24 - x3) * 1 + 6514 < (k : Int) → zw (zu_ex (zt_T n) 184 19 [(40, a0), (0, a1), (0, x2), (0, x3), (2, 0), (2, 0), (2, 0)] [] mh) (fun v m => zi_I m ∧ zfr [(28, 3), (28, 54), (28, 64), (28, 65), (28, 66), (28, 67), (28, 68), (28, 69), (28, 70), (122, 0), (123, 0), (124, 0), (125, 0), (126, 0), (127, 0), (128, 0), (129, 0), (130, 0), (131, 0), (136, 0)] m0 m ∧ zR_C0 m ∧ zR_KN m ∧ zR_LT m ∧ zE1 m 0 ∧ zR_TE m ∧ ((-2147483648) ≤ v ∧ v ≤ 2147483647) ∧ (0 ≤ m a0 2 ∧ m a0 2 ≤ 0))) ∧ (∀ (x2 x3 : Int) (mh : zu_m), zi_I mh → zfr [(28, 3), (28, 54), (28, 64), (28, 65), (28, 66), (28, 67), (28, 68), (28, 69), (28, 70), (122, 0), (123, 0), (124, 0), (125, 0), (126, 0), (127, 0), (128, 0), (129, 0), (130, 0), (131, 0), (136, 0)] m0 mh → (0 ≤ a1 ∧ a1 ≤ 3) → (0 ≤ x2 ∧ x2 ≤ 0) → ((-1) ≤ x3 ∧ x3 ≤ 23) → (1 ≤ mh a0 15 ∧ mh a0 15 ≤ 4) → (0 ≤ mh a0 2 ∧ mh a0 2 ≤ 0) → (zR_C0 mh) → (zR_KN mh) → (zR_LT mh) → (zE1 mh 0) → (zR_TE mh) → (x3 - (-1)) * 1 + 6489 < (k : Int) → zw (zu_ex (zt_T n) 184 47 [(40, a0), (0, a1), (0, x2), (0, x3), (2, 0), (2, 0), (2, 0)] [] mh) (fun v m => zi_I m ∧ zfr [(28, 3), (28, 54), (28, 64), (28, 65), (28, 66), (28, 67), (28, 68), (28, 69), (28, 70), (122, 0), (123, 0), (124, 0), (125, 0), (126, 0), (127, 0), (128, 0), (129, 0), (130, 0), (131, 0), (136, 0)] m0 m ∧ zR_C0 m ∧ zR_KN m ∧ zR_LT m ∧ zE1 m 0 ∧ zR_TE m ∧ ((-2147483648) ≤ v ∧ v ≤ 2147483647) ∧ (0 ≤ m a0 2 ∧ m a0 2 ≤ 0))) ∧ (∀ (x2 x3 : Int) (mh : zu_m), zi_I mh → zfr [(28, 3), (28, 54), (28, 64), (28, 65), (28, 66), (28, 67), (28, 68), (28, 69), (28, 70), (122, 0), (123, 0), (124, 0), (125, 0), (126, 0), (127, 0), (128, 0), (129, 0), (130, 0), (131, 0), (136, 0)] m0 mh → (0 ≤ a1 ∧ a1 ≤ 3) → (0 ≤ x2 ∧ x2 ≤ 200) → (0 ≤ x3 ∧ x3 ≤ 24) → (1 ≤ mh a0 15 ∧ mh a0 15 ≤ 4) → (0 ≤ mh a0 2 ∧ mh a0 2 ≤ 0) → (zR_C0 mh) → (zR_KN mh) → (zR_LT mh) → (zE1 mh 0) → (zR_TE mh) → (24 - x3) * 1 + 6464 < (k : Int) → zw (zu_ex (zt_T n) 184 95 [(40, a0), (0, a1), (0, x2), (0, x3), (2, 0), (2, 0), (2, 0)] [] mh) (fun v m => zi_I m ∧ zfr [(28, 3), (28, 54), (28, 64), (28, 65), (28, 66), (28, 67), (28, 68), (28, 69), (28, 70), (122, 0), (123, 0), (124, 0), (125, 0), (126, 0), (127, 0), (128, 0), (129, 0), (130, 0), (131, 0), (136, 0)] m0 m ∧ zR_C0 m ∧ zR_KN m ∧ zR_LT m ∧ zE1 m 0 ∧ zR_TE m ∧ ((-2147483648) ≤ v ∧ v ≤ 2147483647) ∧ (0 ≤ m a0 2 ∧ m a0 2 ≤ 0))) ∧ (∀ (x2 x3 x4 : Int) (mh : zu_m), zi_I mh → zfr [(28, 3), (28, 54), (28, 64), (28, 65), (28, 66), (28, 67), (28, 68), (28, 69), (28, 70), (122, 0), (123, 0), (124, 0), (125, 0), (126, 0), (127, 0), (128, 0), (129, 0), (130, 0), (131, 0), (136, 0)] m0 mh → (0 ≤ a1 ∧ a1 ≤ 3) → (0 ≤ x2 ∧ x2 ≤ 200) → ((-2147483648) ≤ x3 ∧ x3 ≤ 2147483647) → (0 ≤ x4 ∧ x4 ≤ 31) → (1 ≤ mh a0 15 ∧ mh a0 15 ≤ 4) → (0 ≤ mh a0 2 ∧ mh a0 2 ≤ 0) → (zR_C0 mh) → (zR_KN mh) → (zR_LT mh) → (zE1 mh 0) → (zR_TE mh) → (31 - x4) * 202 + 201 < (k : Int) → zw (zu_ex (zt_T n) 184 148 [(40, a0), (0, a1), (0, x2), (0, x3), (0, x4), (2, 0), (2, 0)] [] mh) (fun v m => zi_I m ∧ zfr [(28, 3), (28, 54), (28, 64), (28, 65), (28, 66), (28, 67), (28, 68), (28, 69), (28, 70), (122, 0), (123, 0), (124, 0), (125, 0), (126, 0), (127, 0), (128, 0), (129, 0), (130, 0), (131, 0), (136, 0)] m0 m ∧ zR_C0 m ∧ zR_KN m ∧ zR_LT m ∧ zE1 m 0 ∧ zR_TE m ∧ ((-2147483648) ≤ v ∧ v ≤ 2147483647) ∧ (0 ≤ m a0 2 ∧ m a0 2 ≤ 0))) ∧ (∀ (x2 x3 x4 x5 x6 : Int) (mh : zu_m), zi_I mh → zfr [(28, 3), (28, 54), (28, 64), (28, 65), (28, 66), (28, 67), (28, 68), (28, 69), (28, 70), (122, 0), (123, 0), (124, 0), (125, 0), (126, 0), (127, 0), (128, 0), (129, 0), (130, 0), (131, 0), (136, 0)] m0 mh → (0 ≤ a1 ∧ a1 ≤ 3) → (0 ≤ x2 ∧ x2 ≤ 200) → ((-2147483648) ≤ x3 ∧ x3 ≤ 2147483647) → (0 ≤ x4 ∧ x4 ≤ 30) → (0 ≤ x5 ∧ x5 ≤ 1) → (1 ≤ x6 ∧ x6 ≤ 201) → (1 ≤ mh a0 15 ∧ mh a0 15 ≤ 4) → (0 ≤ mh a0 2 ∧ mh a0 2 ≤ 0) → ((-1) ≤ mh a0 64 ∧ mh a0 64 ≤ 99999) → (1 ≤ mh a0 65 ∧ mh a0 65 ≤ 1) → (0 ≤ mh a0 66 ∧ mh a0 66 ≤ 0) → (0 ≤ mh a0 67 ∧ mh a0 67 ≤ 0) → (0 ≤ mh a0 68 ∧ mh a0 68 ≤ 0) → ((-1) ≤ mh a0 69 ∧ mh a0 69 ≤ (-1)) → (zR_C0 mh) → (zR_KN mh) → (zR_LT mh) → (zE1 mh 1) → (zE1 mh 0) → (zR_TE mh) → (201 - x6) * 1 + (31 - x4) * 202 + 0 < (k : Int) → zw (zu_ex (zt_T n) 184 195 [(40, a0), (0, a1), (0, x2), (0, x3), (0, x4), (0, x5), (0, x6)] [] mh) (fun v m => zi_I m ∧ zfr [(28, 3), (28, 54), (28, 64), (28, 65), (28, 66), (28, 67), (28, 68), (28, 69), (28, 70), (122, 0), (123, 0), (124, 0), (125, 0), (126, 0), (127, 0), (128, 0), (129, 0), (130, 0), (131, 0), (136, 0)] m0 m ∧ zR_C0 m ∧ zR_KN m ∧ zR_LT m ∧ zE1 m 0 ∧ zR_TE m ∧ ((-2147483648) ≤ v ∧ v ≤ 2147483647) ∧ (0 ≤ m a0 2 ∧ m a0 2 ≤ 0))) := by
  intro k
  induction k with
  | zero => exact ⟨fun x2 x3 mh hImh hFmh hba1 hbx2 hbx3 hg3 hg4 hRC0mh hRKNmh hRLTmh hRSEmh hRTEmh hM => by exfalso; omega, fun x2 x3 mh hImh hFmh hba1 hbx2 hbx3 hg3 hg4 hRC0mh hRKNmh hRLTmh hRSEmh hRTEmh hM => by exfalso; omega, fun x2 x3 mh hImh hFmh hba1 hbx2 hbx3 hg3 hg4 hRC0mh hRKNmh hRLTmh hRSEmh hRTEmh hM => by exfalso; omega, fun x2 x3 x4 mh hImh hFmh hba1 hbx2 hbx3 hbx4 hg4 hg5 hRC0mh hRKNmh hRLTmh hRSEmh hRTEmh hM => by exfalso; omega, fun x2 x3 x4 x5 x6 mh hImh hFmh hba1 hbx2 hbx3 hbx4 hbx5 hbx6 hg6 hg7 hg8 hg9 hg10 hg11 hg12 hg13 hRC0mh hRKNmh hRLTmh hRS1mh hRSEmh hRTEmh hM => by exfalso; omega⟩
  | succ k ih => exact ⟨zl_184H0 n (m0 := m0) hc0 k ih, zl_184H1 n (m0 := m0) hc0 k ih, zl_184H2 n (m0 := m0) hc0 k ih, zl_184H3 n (m0 := m0) hc0 k ih, zl_184H4 n (m0 := m0) hc0 k ih⟩
set_option maxHeartbeats 4000000 in
theorem zk_184 (n : Nat) {a0 a1 : Int} {m0 : zu_m} (hIm0 : zi_I m0) (hc0 : zcls a0 = 28) (ha1 : (-2147483648) ≤ a1 ∧ a1 ≤ 2147483647)    (hRC0m0 : zR_C0 m0) (hRKNm0 : zR_KN m0) (hRLTm0 : zR_LT m0) (hRSEm0 : zE1 m0 0) (hRTEm0 : zR_TE m0) : zw (zu_call (zt_T n) 184 [(40, a0), (0, a1)] m0) (fun v m => zi_I m ∧ zfr [(28, 3), (28, 54), (28, 64), (28, 65), (28, 66), (28, 67), (28, 68), (28, 69), (28, 70), (122, 0), (123, 0), (124, 0), (125, 0), (126, 0), (127, 0), (128, 0), (129, 0), (130, 0), (131, 0), (136, 0)] m0 m ∧ zR_C0 m ∧ zR_KN m ∧ zR_LT m ∧ zE1 m 0 ∧ zR_TE m ∧ ((-2147483648) ≤ v ∧ v ≤ 2147483647) ∧ (0 ≤ m a0 2 ∧ m a0 2 ≤ 0)) := by
  have hFm0 : zfr [(28, 3), (28, 54), (28, 64), (28, 65), (28, 66), (28, 67), (28, 68), (28, 69), (28, 70), (122, 0), (123, 0), (124, 0), (125, 0), (126, 0), (127, 0), (128, 0), (129, 0), (130, 0), (131, 0), (136, 0)] m0 m0 := zfr_rf _ _
  refine zw_eq (zu_call_at (zt_T n) (zm_184 n) (zdp_184 n) _ _ _ _ _ rfl (zr_184_0 n _ _ a0 a1 m0)) ?_
  generalize hmm137 : zu_up m0 a0 2 0 = m137
  have hIm137 := zi_up hmm137 hIm0 hc0 zb_28_2 (by omega) (by omega)
  have hFm137 := zfr_up hmm137 hFm0 hc0 rfl
  have hRC0m137 := zR_C0_fr (zdis_fr (zfr_up hmm137 (zfr_rf [(28, 3)] _) hc0 rfl) rfl) hRC0m0
  have hRKNm137 := zR_KN_fr (zdis_fr (zfr_up hmm137 (zfr_rf [(28, 3)] _) hc0 rfl) rfl) hRKNm0
  have hRLTm137 := zR_LT_fr (zdis_fr (zfr_up hmm137 (zfr_rf [(28, 3)] _) hc0 rfl) rfl) hRLTm0
  have hRSEm137 := zR_SE_fr (zdis_fr (zfr_up hmm137 (zfr_rf [(28, 3)] _) hc0 rfl) rfl) hRSEm0
  have hRTEm137 := zR_TE_fr (zdis_fr (zfr_up hmm137 (zfr_rf [(28, 3)] _) hc0 rfl) rfl) hRTEm0
  refine zw_bd (zw_eq (zu_call_at (zt_T n) (zm_125 n) (zdp_125 n) _ _ _ _ _ rfl (zr_125_0 n _ _ a0 a1 m137)) ?_)
  refine zw_ite (fun h138 => ?_) (fun h138 => ?_)
  · refine zw_b (by omega) ?_
    refine zw_some ?_
    refine zw_ite (fun h139 => ?_) (fun h139 => ?_)
    · exfalso; omega
    · have r140 : (-2147483648) ≤ (m137 a0 2) ∧ (m137 a0 2) ≤ 2147483647 := zi_rd hIm137 hc0 zb_28_2
      have e141 : (m137 a0 2) = 0 := (zs_eq hmm137)
      exact zw_some ⟨hIm137, hFm137, hRC0m137, hRKNm137, hRLTm137, hRSEm137, hRTEm137, ⟨by decide, by decide⟩, ⟨by omega, by omega⟩⟩
  · have r142 : 0 ≤ (m137 a0 15) ∧ (m137 a0 15) ≤ 4 := zi_rd hIm137 hc0 zb_28_15
    refine zw_ite (fun h143 => ?_) (fun h143 => ?_)
    · refine zw_b (by omega) ?_
      refine zw_some ?_
      refine zw_ite (fun h144 => ?_) (fun h144 => ?_)
      · exfalso; omega
      · have r145 : (-2147483648) ≤ (m137 a0 2) ∧ (m137 a0 2) ≤ 2147483647 := zi_rd hIm137 hc0 zb_28_2
        have e146 : (m137 a0 2) = 0 := (zs_eq hmm137)
        exact zw_some ⟨hIm137, hFm137, hRC0m137, hRKNm137, hRLTm137, hRSEm137, hRTEm137, ⟨by decide, by decide⟩, ⟨by omega, by omega⟩⟩
    · refine zw_b (by omega) ?_
      refine zw_some ?_
      refine zw_ite (fun h147 => ?_) (fun h147 => ?_)
      · have r148 : (-2147483648) ≤ (m137 a0 2) ∧ (m137 a0 2) ≤ 2147483647 := zi_rd hIm137 hc0 zb_28_2
        have e149 : (m137 a0 2) = 0 := (zs_eq hmm137)
        have hM : (24 - 0) * 1 + 6514 < ((6539 : Nat) : Int) := by omega
        exact (zl_184 n (m0 := m0) hc0 6539).1 0 0 m137 hIm137 hFm137 ⟨by omega, by omega⟩ ⟨by omega, by omega⟩ ⟨by omega, by omega⟩ ⟨by omega, by omega⟩ ⟨by omega, by omega⟩ hRC0m137 hRKNm137 hRLTm137 hRSEm137 hRTEm137 hM
      · exfalso; omega
set_option maxHeartbeats 4000000 in
theorem zl_185 (n : Nat) {a0 a1 a2 a3 a4 : Int} {m0 : zu_m} (hc0 : zcls a0 = 28)   : ∀ k : Nat, (∀ (x5 x7 x8 : Int) (mh : zu_m), zi_I mh → zfr [(28, 3), (28, 54), (28, 64), (28, 65), (28, 66), (28, 67), (28, 68), (28, 69), (28, 70), (122, 0), (123, 0), (124, 0), (125, 2), (126, 0), (127, 0), (128, 0), (129, 0), (130, 0), (131, 0)] m0 mh → (0 ≤ a1 ∧ a1 ≤ 2147483647) → (1 ≤ a2 ∧ a2 ≤ 200) → (0 ≤ a3 ∧ a3 ≤ 3) → (0 ≤ a4 ∧ a4 ≤ 16) → ((-9223372036854775808) ≤ x5 ∧ x5 ≤ 9223372036854775807) → ((-2147483648) ≤ x7 ∧ x7 ≤ 2147483647) → (0 ≤ x8 ∧ x8 ≤ 10) → (1 ≤ mh a0 15 ∧ mh a0 15 ≤ 4) → (0 ≤ mh a0 2 ∧ mh a0 2 ≤ 0) → (zR_KN mh) → (zR_LT mh) → (zE1 mh 0) → (10 - x8) * 202 + 201 < (k : Int) → zw (zu_ex (zt_T n) 185 59 [(40, a0), (0, a1), (0, a2), (0, a3), (0, a4), (1, x5), (2, 0), (0, x7), (0, x8), (2, 0)] [] mh) (fun v m => zi_I m ∧ zfr [(28, 3), (28, 54), (28, 64), (28, 65), (28, 66), (28, 67), (28, 68), (28, 69), (28, 70), (122, 0), (123, 0), (124, 0), (125, 2), (126, 0), (127, 0), (128, 0), (129, 0), (130, 0), (131, 0)] m0 m ∧ zR_KN m ∧ zR_LT m ∧ zE1 m 0 ∧ ((-2147483648) ≤ v ∧ v ≤ 2147483647) ∧ (0 ≤ m a0 2 ∧ m a0 2 ≤ 0))) ∧ (∀ (x5 x7 x8 x9 : Int) (mh : zu_m), zi_I mh → zfr [(28, 3), (28, 54), (28, 64), (28, 65), (28, 66), (28, 67), (28, 68), (28, 69), (28, 70), (122, 0), (123, 0), (124, 0), (125, 2), (126, 0), (127, 0), (128, 0), (129, 0), (130, 0), (131, 0)] m0 mh → (0 ≤ a1 ∧ a1 ≤ 2147483647) → (1 ≤ a2 ∧ a2 ≤ 200) → (0 ≤ a3 ∧ a3 ≤ 3) → (0 ≤ a4 ∧ a4 ≤ 16) → ((-9223372036854775808) ≤ x5 ∧ x5 ≤ 9223372036854775807) → ((-2147483648) ≤ x7 ∧ x7 ≤ 2147483647) → (0 ≤ x8 ∧ x8 ≤ 9) → (0 ≤ x9 ∧ x9 ≤ 200) → (0 ≤ mh 216 1 ∧ mh 216 1 ≤ 16) → (1 ≤ mh a0 15 ∧ mh a0 15 ≤ 4) → (0 ≤ mh a0 2 ∧ mh a0 2 ≤ 0) → (zR_KN mh) → (zR_LT mh) → (zE1 mh 1) → (zE1 mh 0) → (200 - x9) * 1 + (10 - x8) * 202 + 0 < (k : Int) → zw (zu_ex (zt_T n) 185 73 [(40, a0), (0, a1), (0, a2), (0, a3), (0, a4), (1, x5), (2, 0), (0, x7), (0, x8), (0, x9)] [] mh) (fun v m => zi_I m ∧ zfr [(28, 3), (28, 54), (28, 64), (28, 65), (28, 66), (28, 67), (28, 68), (28, 69), (28, 70), (122, 0), (123, 0), (124, 0), (125, 2), (126, 0), (127, 0), (128, 0), (129, 0), (130, 0), (131, 0)] m0 m ∧ zR_KN m ∧ zR_LT m ∧ zE1 m 0 ∧ ((-2147483648) ≤ v ∧ v ≤ 2147483647) ∧ (0 ≤ m a0 2 ∧ m a0 2 ≤ 0))) := by
  intro k
  induction k with
  | zero => exact ⟨fun x5 x7 x8 mh hImh hFmh hba1 hba2 hba3 hba4 hbx5 hbx7 hbx8 hg7 hg8 hRKNmh hRLTmh hRSEmh hM => by exfalso; omega, fun x5 x7 x8 x9 mh hImh hFmh hba1 hba2 hba3 hba4 hbx5 hbx7 hbx8 hbx9 hg8 hg9 hg10 hRKNmh hRLTmh hRS1mh hRSEmh hM => by exfalso; omega⟩
  | succ k ih =>
    refine ⟨?_, ?_⟩
    · intro x5 x7 x8 mh hImh hFmh hba1 hba2 hba3 hba4 hbx5 hbx7 hbx8 hg7 hg8 hRKNmh hRLTmh hRSEmh hM
      refine zw_eq (zu_rega_at (zt_T n) (zm_185 n) (zdp_185 n) _ _ _ _ _ _ (zr_185_59 n _ _ a0 a1 a2 a3 a4 x5 x7 x8 mh)) ?_
      refine zw_ite (fun h1 => ?_) (fun h1 => ?_)
      · generalize hmm2 : zu_up mh a0 63 x5 = m2
        have hIm2 := zi_up hmm2 hImh hc0 zb_28_63 (by omega) (by omega)
        have hFm2 := zfr_up hmm2 hFmh hc0 rfl
        have hRKNm2 := zR_KN_fr (zdis_fr (zfr_up hmm2 (zfr_rf [(28, 64)] _) hc0 rfl) rfl) hRKNmh
        have hRLTm2 := zR_LT_fr (zdis_fr (zfr_up hmm2 (zfr_rf [(28, 64)] _) hc0 rfl) rfl) hRLTmh
        have hRSEm2 := zR_SE_fr (zdis_fr (zfr_up hmm2 (zfr_rf [(28, 64)] _) hc0 rfl) rfl) hRSEmh
        have r3 : (-2147483648) ≤ (m2 a0 2) ∧ (m2 a0 2) ≤ 2147483647 := zi_rd hIm2 hc0 zb_28_2
        have e4 : (m2 a0 2) = (mh a0 2) := (zs_ne hmm2 (Or.inr (by decide)))
        exact zw_some ⟨hIm2, hFm2, hRKNm2, hRLTm2, hRSEm2, ⟨by omega, by omega⟩, ⟨by omega, by omega⟩⟩
      · refine zw_bd (zw_mono (zk_126 n hImh hc0 hRSEmh) (fun v6 m5 hqm5 => ?_))
        obtain ⟨hIm5, hfm5, hvm5⟩ := hqm5
        have hFm5 := zfr_tr hFmh hfm5 rfl
        obtain ⟨hRS1m5, hRSEm5, hvm5⟩ := hvm5
        have hRKNm5 := zR_KN_fr (zdis_fr hfm5 rfl) hRKNmh
        have hRLTm5 := zR_LT_fr (zdis_fr hfm5 rfl) hRLTmh
        have r7 : (-2147483648) ≤ (m5 a0 2) ∧ (m5 a0 2) ≤ 2147483647 := zi_rd hIm5 hc0 zb_28_2
        have e8 : (m5 a0 2) = (mh a0 2) := (zfr_ap hfm5 hc0 rfl)
        have r9 : 0 ≤ (m5 a0 15) ∧ (m5 a0 15) ≤ 4 := zi_rd hIm5 hc0 zb_28_15
        have e10 : (m5 a0 15) = (mh a0 15) := (zfr_ap hfm5 hc0 rfl)
        have hM : (200 - 0) * 1 + (10 - x8) * 202 + 0 < (k : Int) := by omega
        exact ih.2 x5 x7 x8 0 m5 hIm5 hFm5 ⟨by omega, by omega⟩ ⟨by omega, by omega⟩ ⟨by omega, by omega⟩ ⟨by omega, by omega⟩ ⟨by omega, by omega⟩ ⟨by omega, by omega⟩ ⟨by omega, by omega⟩ ⟨by omega, by omega⟩ ⟨by omega, by omega⟩ ⟨by omega, by omega⟩ ⟨by omega, by omega⟩ hRKNm5 hRLTm5 hRS1m5 hRSEm5 hM
    · intro x5 x7 x8 x9 mh hImh hFmh hba1 hba2 hba3 hba4 hbx5 hbx7 hbx8 hbx9 hg8 hg9 hg10 hRKNmh hRLTmh hRS1mh hRSEmh hM
      refine zw_eq (zu_rega_at (zt_T n) (zm_185 n) (zdp_185 n) _ _ _ _ _ _ (zr_185_73 n _ _ a0 a1 a2 a3 a4 x5 x7 x8 x9 mh)) ?_
      refine zw_ite (fun h11 => ?_) (fun h11 => ?_)
      · refine zw_bd (zw_mono (zk_130 n hImh hc0 ⟨by decide, by decide⟩ ⟨by omega, by omega⟩) (fun v13 m12 hqm12 => ?_))
        obtain ⟨hIm12, hfm12, hvm12⟩ := hqm12
        have hFm12 := zfr_tr hFmh hfm12 rfl
        have hRKNm12 := zR_KN_fr (zdis_fr hfm12 rfl) hRKNmh
        have hRLTm12 := zR_LT_fr (zdis_fr hfm12 rfl) hRLTmh
        have hRS1m12 := zR_S1_fr (zdis_fr hfm12 rfl) hRS1mh
        have hRSEm12 := zR_SE_fr (zdis_fr hfm12 rfl) hRSEmh
        refine zw_ite (fun h14 => ?_) (fun h14 => ?_)
        · have w15 := zu_w32_id (z := x7 + 0) (by omega) (by omega)
          have w16 := zu_w32_id (z := x8 + 1) (by omega) (by omega)
          have r17 : (-2147483648) ≤ (m12 a0 2) ∧ (m12 a0 2) ≤ 2147483647 := zi_rd hIm12 hc0 zb_28_2
          have e18 : (m12 a0 2) = (mh a0 2) := (zfr_ap hfm12 hc0 rfl)
          have r19 : 0 ≤ (m12 a0 15) ∧ (m12 a0 15) ≤ 4 := zi_rd hIm12 hc0 zb_28_15
          have e20 : (m12 a0 15) = (mh a0 15) := (zfr_ap hfm12 hc0 rfl)
          have hM : (10 - (zu_w32 (x8 + 1))) * 202 + 201 < (k : Int) := by omega
          exact zw_le (zu_forget (zu_lr_same (zu_lr_same (zu_lr_same (zu_lr_same (zu_lr_same (zu_lr_same (zu_lr_same (zu_lr_same (zu_lr_same (zu_lr_drop zu_lr_nil))))))))))) (ih.1 x5 (zu_w32 (x7 + 0)) (zu_w32 (x8 + 1)) m12 hIm12 hFm12 ⟨by omega, by omega⟩ ⟨by omega, by omega⟩ ⟨by omega, by omega⟩ ⟨by omega, by omega⟩ ⟨by omega, by omega⟩ ⟨by omega, by omega⟩ ⟨by omega, by omega⟩ ⟨by omega, by omega⟩ ⟨by omega, by omega⟩ hRKNm12 hRLTm12 hRSEm12 hM)
        · have w21 := zu_w32_rg (x7 + 1)
          have w22 := zu_w32_id (z := x8 + 1) (by omega) (by omega)
          have r23 : (-2147483648) ≤ (m12 a0 2) ∧ (m12 a0 2) ≤ 2147483647 := zi_rd hIm12 hc0 zb_28_2
          have e24 : (m12 a0 2) = (mh a0 2) := (zfr_ap hfm12 hc0 rfl)
          have r25 : 0 ≤ (m12 a0 15) ∧ (m12 a0 15) ≤ 4 := zi_rd hIm12 hc0 zb_28_15
          have e26 : (m12 a0 15) = (mh a0 15) := (zfr_ap hfm12 hc0 rfl)
          have hM : (10 - (zu_w32 (x8 + 1))) * 202 + 201 < (k : Int) := by omega
          exact zw_le (zu_forget (zu_lr_same (zu_lr_same (zu_lr_same (zu_lr_same (zu_lr_same (zu_lr_same (zu_lr_same (zu_lr_same (zu_lr_same (zu_lr_drop zu_lr_nil))))))))))) (ih.1 x5 (zu_w32 (x7 + 1)) (zu_w32 (x8 + 1)) m12 hIm12 hFm12 ⟨by omega, by omega⟩ ⟨by omega, by omega⟩ ⟨by omega, by omega⟩ ⟨by omega, by omega⟩ ⟨by omega, by omega⟩ ⟨by omega, by omega⟩ ⟨by omega, by omega⟩ ⟨by omega, by omega⟩ ⟨by omega, by omega⟩ hRKNm12 hRLTm12 hRSEm12 hM)
      · refine zw_bd (zw_mono (zk_140 n hImh hc0 ⟨by decide, by decide⟩ hRS1mh hRKNmh hRLTmh hRSEmh) (fun v28 m27 hqm27 => ?_))
        obtain ⟨hIm27, hfm27, hvm27⟩ := hqm27
        have hFm27 := zfr_tr hFmh hfm27 rfl
        obtain ⟨hRS1m27, hRKNm27, hRLTm27, hRSEm27, hvm27⟩ := hvm27
        have w29 := zu_w32_id (z := x9 + 1) (by omega) (by omega)
        have r30 : (-2147483648) ≤ (m27 a0 2) ∧ (m27 a0 2) ≤ 2147483647 := zi_rd hIm27 hc0 zb_28_2
        have e31 : (m27 a0 2) = (mh a0 2) := (zfr_ap hfm27 hc0 rfl)
        have r32 : 0 ≤ (m27 a0 15) ∧ (m27 a0 15) ≤ 4 := zi_rd hIm27 hc0 zb_28_15
        have e33 : (m27 a0 15) = (mh a0 15) := (zfr_ap hfm27 hc0 rfl)
        have r34 : 0 ≤ (m27 216 1) ∧ (m27 216 1) ≤ 18 := zi_rdr (m := 2) (r0 := 1) (r1 := 1) hIm27 zq_216 (by omega) (by decide +kernel)
        have e35 : (m27 216 1) = (mh 216 1) := (zfr_ap hfm27 zq_216 rfl)
        have hM : (200 - (zu_w32 (x9 + 1))) * 1 + (10 - x8) * 202 + 0 < (k : Int) := by omega
        exact ih.2 x5 x7 x8 (zu_w32 (x9 + 1)) m27 hIm27 hFm27 ⟨by omega, by omega⟩ ⟨by omega, by omega⟩ ⟨by omega, by omega⟩ ⟨by omega, by omega⟩ ⟨by omega, by omega⟩ ⟨by omega, by omega⟩ ⟨by omega, by omega⟩ ⟨by omega, by omega⟩ ⟨by omega, by omega⟩ ⟨by omega, by omega⟩ ⟨by omega, by omega⟩ hRKNm27 hRLTm27 hRS1m27 hRSEm27 hM
set_option maxHeartbeats 4000000 in
theorem zk_185 (n : Nat) {a0 a1 a2 a3 a4 : Int} {m0 : zu_m} (hIm0 : zi_I m0) (hc0 : zcls a0 = 28) (ha1 : (-2147483648) ≤ a1 ∧ a1 ≤ 2147483647) (ha2 : (-2147483648) ≤ a2 ∧ a2 ≤ 2147483647) (ha3 : (-2147483648) ≤ a3 ∧ a3 ≤ 2147483647) (ha4 : (-2147483648) ≤ a4 ∧ a4 ≤ 2147483647)    (hRKNm0 : zR_KN m0) (hRLTm0 : zR_LT m0) (hRSEm0 : zE1 m0 0) : zw (zu_call (zt_T n) 185 [(40, a0), (0, a1), (0, a2), (0, a3), (0, a4)] m0) (fun v m => zi_I m ∧ zfr [(28, 3), (28, 54), (28, 64), (28, 65), (28, 66), (28, 67), (28, 68), (28, 69), (28, 70), (122, 0), (123, 0), (124, 0), (125, 2), (126, 0), (127, 0), (128, 0), (129, 0), (130, 0), (131, 0)] m0 m ∧ zR_KN m ∧ zR_LT m ∧ zE1 m 0 ∧ ((-2147483648) ≤ v ∧ v ≤ 2147483647) ∧ (0 ≤ m a0 2 ∧ m a0 2 ≤ 0)) := by
  have hFm0 : zfr [(28, 3), (28, 54), (28, 64), (28, 65), (28, 66), (28, 67), (28, 68), (28, 69), (28, 70), (122, 0), (123, 0), (124, 0), (125, 2), (126, 0), (127, 0), (128, 0), (129, 0), (130, 0), (131, 0)] m0 m0 := zfr_rf _ _
  refine zw_eq (zu_call_at (zt_T n) (zm_185 n) (zdp_185 n) _ _ _ _ _ rfl (zr_185_0 n _ _ a0 a1 a2 a3 a4 m0)) ?_
  generalize hmm36 : zu_up m0 a0 2 0 = m36
  have hIm36 := zi_up hmm36 hIm0 hc0 zb_28_2 (by omega) (by omega)
  have hFm36 := zfr_up hmm36 hFm0 hc0 rfl
  have hRKNm36 := zR_KN_fr (zdis_fr (zfr_up hmm36 (zfr_rf [(28, 3)] _) hc0 rfl) rfl) hRKNm0
  have hRLTm36 := zR_LT_fr (zdis_fr (zfr_up hmm36 (zfr_rf [(28, 3)] _) hc0 rfl) rfl) hRLTm0
  have hRSEm36 := zR_SE_fr (zdis_fr (zfr_up hmm36 (zfr_rf [(28, 3)] _) hc0 rfl) rfl) hRSEm0
  refine zw_ite (fun h37 => ?_) (fun h37 => ?_)
  · have r38 : (-2147483648) ≤ (m36 a0 2) ∧ (m36 a0 2) ≤ 2147483647 := zi_rd hIm36 hc0 zb_28_2
    have e39 : (m36 a0 2) = 0 := (zs_eq hmm36)
    exact zw_some ⟨hIm36, hFm36, hRKNm36, hRLTm36, hRSEm36, ⟨by decide, by decide⟩, ⟨by omega, by omega⟩⟩
  · refine zw_bd (zw_eq (zu_call_at (zt_T n) (zm_83 n) (zdp_83 n) _ _ _ _ _ rfl (zr_83_0 n _ _ a2 1 200 m36)) ?_)
    refine zw_ite (fun h40 => ?_) (fun h40 => ?_)
    · refine zw_b (by omega) ?_
      refine zw_some ?_
      refine zw_ite (fun h41 => ?_) (fun h41 => ?_)
      · have r42 : (-2147483648) ≤ (m36 a0 2) ∧ (m36 a0 2) ≤ 2147483647 := zi_rd hIm36 hc0 zb_28_2
        have e43 : (m36 a0 2) = 0 := (zs_eq hmm36)
        exact zw_some ⟨hIm36, hFm36, hRKNm36, hRLTm36, hRSEm36, ⟨by decide, by decide⟩, ⟨by omega, by omega⟩⟩
      · exfalso; omega
    · refine zw_ite (fun h44 => ?_) (fun h44 => ?_)
      · refine zw_b (by omega) ?_
        refine zw_some ?_
        refine zw_ite (fun h45 => ?_) (fun h45 => ?_)
        · have r46 : (-2147483648) ≤ (m36 a0 2) ∧ (m36 a0 2) ≤ 2147483647 := zi_rd hIm36 hc0 zb_28_2
          have e47 : (m36 a0 2) = 0 := (zs_eq hmm36)
          exact zw_some ⟨hIm36, hFm36, hRKNm36, hRLTm36, hRSEm36, ⟨by decide, by decide⟩, ⟨by omega, by omega⟩⟩
        · exfalso; omega
      · refine zw_b (by omega) ?_
        refine zw_some ?_
        refine zw_ite (fun h48 => ?_) (fun h48 => ?_)
        · exfalso; omega
        · refine zw_bd (zw_eq (zu_call_at (zt_T n) (zm_125 n) (zdp_125 n) _ _ _ _ _ rfl (zr_125_0 n _ _ a0 a3 m36)) ?_)
          refine zw_ite (fun h49 => ?_) (fun h49 => ?_)
          · refine zw_b (by omega) ?_
            refine zw_some ?_
            refine zw_ite (fun h50 => ?_) (fun h50 => ?_)
            · have r51 : (-2147483648) ≤ (m36 a0 2) ∧ (m36 a0 2) ≤ 2147483647 := zi_rd hIm36 hc0 zb_28_2
              have e52 : (m36 a0 2) = 0 := (zs_eq hmm36)
              exact zw_some ⟨hIm36, hFm36, hRKNm36, hRLTm36, hRSEm36, ⟨by decide, by decide⟩, ⟨by omega, by omega⟩⟩
            · exfalso; omega
          · have r53 : 0 ≤ (m36 a0 15) ∧ (m36 a0 15) ≤ 4 := zi_rd hIm36 hc0 zb_28_15
            refine zw_ite (fun h54 => ?_) (fun h54 => ?_)
            · refine zw_b (by omega) ?_
              refine zw_some ?_
              refine zw_ite (fun h55 => ?_) (fun h55 => ?_)
              · have r56 : (-2147483648) ≤ (m36 a0 2) ∧ (m36 a0 2) ≤ 2147483647 := zi_rd hIm36 hc0 zb_28_2
                have e57 : (m36 a0 2) = 0 := (zs_eq hmm36)
                exact zw_some ⟨hIm36, hFm36, hRKNm36, hRLTm36, hRSEm36, ⟨by decide, by decide⟩, ⟨by omega, by omega⟩⟩
              · exfalso; omega
            · refine zw_b (by omega) ?_
              refine zw_some ?_
              refine zw_ite (fun h58 => ?_) (fun h58 => ?_)
              · exfalso; omega
              · refine zw_bd (zw_eq (zu_call_at (zt_T n) (zm_83 n) (zdp_83 n) _ _ _ _ _ rfl (zr_83_0 n _ _ a4 0 16 m36)) ?_)
                refine zw_ite (fun h59 => ?_) (fun h59 => ?_)
                · refine zw_b (by omega) ?_
                  refine zw_some ?_
                  refine zw_ite (fun h60 => ?_) (fun h60 => ?_)
                  · exfalso; omega
                  · have r61 : (-2147483648) ≤ (m36 a0 2) ∧ (m36 a0 2) ≤ 2147483647 := zi_rd hIm36 hc0 zb_28_2
                    have e62 : (m36 a0 2) = 0 := (zs_eq hmm36)
                    exact zw_some ⟨hIm36, hFm36, hRKNm36, hRLTm36, hRSEm36, ⟨by decide, by decide⟩, ⟨by omega, by omega⟩⟩
                · refine zw_ite (fun h63 => ?_) (fun h63 => ?_)
                  · refine zw_b (by omega) ?_
                    refine zw_some ?_
                    refine zw_ite (fun h64 => ?_) (fun h64 => ?_)
                    · exfalso; omega
                    · have r65 : (-2147483648) ≤ (m36 a0 2) ∧ (m36 a0 2) ≤ 2147483647 := zi_rd hIm36 hc0 zb_28_2
                      have e66 : (m36 a0 2) = 0 := (zs_eq hmm36)
                      exact zw_some ⟨hIm36, hFm36, hRKNm36, hRLTm36, hRSEm36, ⟨by decide, by decide⟩, ⟨by omega, by omega⟩⟩
                  · refine zw_b (by omega) ?_
                    refine zw_some ?_
                    refine zw_ite (fun h67 => ?_) (fun h67 => ?_)
                    · have r68 : (-9223372036854775808) ≤ (m36 a0 63) ∧ (m36 a0 63) ≤ 9223372036854775807 := zi_rd hIm36 hc0 zb_28_63
                      generalize hmm69 : zu_up m36 a0 63 a1 = m69
                      have hIm69 := zi_up hmm69 hIm36 hc0 zb_28_63 (by omega) (by omega)
                      have hFm69 := zfr_up hmm69 hFm36 hc0 rfl
                      have hRKNm69 := zR_KN_fr (zdis_fr (zfr_up hmm69 (zfr_rf [(28, 64)] _) hc0 rfl) rfl) hRKNm36
                      have hRLTm69 := zR_LT_fr (zdis_fr (zfr_up hmm69 (zfr_rf [(28, 64)] _) hc0 rfl) rfl) hRLTm36
                      have hRSEm69 := zR_SE_fr (zdis_fr (zfr_up hmm69 (zfr_rf [(28, 64)] _) hc0 rfl) rfl) hRSEm36
                      have r70 : (-2147483648) ≤ (m69 a0 2) ∧ (m69 a0 2) ≤ 2147483647 := zi_rd hIm69 hc0 zb_28_2
                      have e71 : (m69 a0 2) = 0 := (Eq.trans (zs_ne hmm69 (Or.inr (by decide))) (zs_eq hmm36))
                      have r72 : 0 ≤ (m69 a0 15) ∧ (m69 a0 15) ≤ 4 := zi_rd hIm69 hc0 zb_28_15
                      have e73 : (m69 a0 15) = (m36 a0 15) := (zs_ne hmm69 (Or.inr (by decide)))
                      have hM : (10 - 0) * 202 + 201 < ((2222 : Nat) : Int) := by omega
                      exact (zl_185 n (m0 := m0) hc0 2222).1 (m36 a0 63) 0 0 m69 hIm69 hFm69 ⟨by omega, by omega⟩ ⟨by omega, by omega⟩ ⟨by omega, by omega⟩ ⟨by omega, by omega⟩ ⟨by omega, by omega⟩ ⟨by omega, by omega⟩ ⟨by omega, by omega⟩ ⟨by omega, by omega⟩ ⟨by omega, by omega⟩ hRKNm69 hRLTm69 hRSEm69 hM
                    · exfalso; omega
set_option maxHeartbeats 4000000 in
theorem zl_160H0 (n : Nat) {a0 a1 a2 a3 a4 : Int} {m0 : zu_m} (hc0 : zcls a0 = 28)   (k : Nat) (ih : (∀ (x5 : Int) (mh : zu_m), zi_I mh → zfr [(28, 54), (28, 64), (28, 65), (28, 66), (28, 67), (28, 68), (28, 69), (28, 70), (28, 72), (28, 73), (28, 74), (106, 0), (107, 0), (108, 0), (122, 0), (123, 0), (124, 0), (125, 2), (126, 0), (127, 0), (128, 0), (129, 0), (130, 0), (131, 0)] m0 mh → (1 ≤ a1 ∧ a1 ≤ 2) → (0 ≤ a2 ∧ a2 ≤ 3) → (0 ≤ a3 ∧ a3 ≤ 9) → (1 ≤ a4 ∧ a4 ≤ 40) → (0 ≤ x5 ∧ x5 ≤ 48) → (zR_KN mh) → (zR_LT mh) → (zE1 mh 0) → (48 - x5) * 49 + 48 < (k : Int) → zw (zu_ex (zt_T n) 160 8 [(40, a0), (0, a1), (0, a2), (0, a3), (0, a4), (0, x5), (2, 0), (2, 0)] [] mh) (fun v m => zi_I m ∧ zfr [(28, 54), (28, 64), (28, 65), (28, 66), (28, 67), (28, 68), (28, 69), (28, 70), (28, 72), (28, 73), (28, 74), (106, 0), (107, 0), (108, 0), (122, 0), (123, 0), (124, 0), (125, 2), (126, 0), (127, 0), (128, 0), (129, 0), (130, 0), (131, 0)] m0 m ∧ zR_KN m ∧ zR_LT m ∧ zE1 m 0 ∧ True)) ∧ (∀ (x5 x6 : Int) (mh : zu_m), zi_I mh → zfr [(28, 54), (28, 64), (28, 65), (28, 66), (28, 67), (28, 68), (28, 69), (28, 70), (28, 72), (28, 73), (28, 74), (106, 0), (107, 0), (108, 0), (122, 0), (123, 0), (124, 0), (125, 2), (126, 0), (127, 0), (128, 0), (129, 0), (130, 0), (131, 0)] m0 mh → (1 ≤ a1 ∧ a1 ≤ 2) → (0 ≤ a2 ∧ a2 ≤ 3) → (0 ≤ a3 ∧ a3 ≤ 9) → (1 ≤ a4 ∧ a4 ≤ 40) → (0 ≤ x5 ∧ x5 ≤ 47) → (1 ≤ x6 ∧ x6 ≤ 48) → (zR_KN mh) → (zR_LT mh) → (zE1 mh 0) → (48 - x6) * 1 + (48 - x5) * 49 + 0 < (k : Int) → zw (zu_ex (zt_T n) 160 33 [(40, a0), (0, a1), (0, a2), (0, a3), (0, a4), (0, x5), (0, x6), (2, 0)] [] mh) (fun v m => zi_I m ∧ zfr [(28, 54), (28, 64), (28, 65), (28, 66), (28, 67), (28, 68), (28, 69), (28, 70), (28, 72), (28, 73), (28, 74), (106, 0), (107, 0), (108, 0), (122, 0), (123, 0), (124, 0), (125, 2), (126, 0), (127, 0), (128, 0), (129, 0), (130, 0), (131, 0)] m0 m ∧ zR_KN m ∧ zR_LT m ∧ zE1 m 0 ∧ True))) : (∀ (x5 : Int) (mh : zu_m), zi_I mh → zfr [(28, 54), (28, 64), (28, 65), (28, 66), (28, 67), (28, 68), (28, 69), (28, 70), (28, 72), (28, 73), (28, 74), (106, 0), (107, 0), (108, 0), (122, 0), (123, 0), (124, 0), (125, 2), (126, 0), (127, 0), (128, 0), (129, 0), (130, 0), (131, 0)] m0 mh → (1 ≤ a1 ∧ a1 ≤ 2) → (0 ≤ a2 ∧ a2 ≤ 3) → (0 ≤ a3 ∧ a3 ≤ 9) → (1 ≤ a4 ∧ a4 ≤ 40) → (0 ≤ x5 ∧ x5 ≤ 48) → (zR_KN mh) → (zR_LT mh) → (zE1 mh 0) → (48 - x5) * 49 + 48 < ((k + 1 : Nat) : Int) → zw (zu_ex (zt_T n) 160 8 [(40, a0), (0, a1), (0, a2), (0, a3), (0, a4), (0, x5), (2, 0), (2, 0)] [] mh) (fun v m => zi_I m ∧ zfr [(28, 54), (28, 64), (28, 65), (28, 66), (28, 67), (28, 68), (28, 69), (28, 70), (28, 72), (28, 73), (28, 74), (106, 0), (107, 0), (108, 0), (122, 0), (123, 0), (124, 0), (125, 2), (126, 0), (127, 0), (128, 0), (129, 0), (130, 0), (131, 0)] m0 m ∧ zR_KN m ∧ zR_LT m ∧ zE1 m 0 ∧ True)) := by
      intro x5 mh hImh hFmh hba1 hba2 hba3 hba4 hbx5 hRKNmh hRLTmh hRSEmh hM
      refine zw_eq (zu_rega_at (zt_T n) (zm_160 n) (zdp_160 n) _ _ _ _ _ _ (zr_160_8 n _ _ a0 a1 a2 a3 a4 x5 mh)) ?_
      refine zw_bd (zw_eq (zu_call_at (zt_T n) (zm_36 n) (zdp_36 n) _ _ _ _ _ rfl (zr_36_0 n _ _ a0 mh)) ?_)
      have r1 : 1 ≤ (mh a0 12) ∧ (mh a0 12) ≤ 8 := zi_rd hImh hc0 zb_28_12
      have r2 : 1 ≤ (mh a0 13) ∧ (mh a0 13) ≤ 6 := zi_rd hImh hc0 zb_28_13
      have p3 := zmul_bd (x := (mh a0 12)) (y := (mh a0 13)) (a := 1) (b := 1) (A := 8) (B := 6) (by omega) (by omega) (by omega) (by omega) (by omega) (by omega)
      have w4 := zu_w32_id (z := (mh a0 12) * (mh a0 13)) (by omega) (by omega)
      refine zw_some ?_
      refine zw_ite (fun h5 => ?_) (fun h5 => ?_)
      · exact zw_some ⟨hImh, hFmh, hRKNmh, hRLTmh, hRSEmh, trivial⟩
      · refine zw_ite (fun h6 => ?_) (fun h6 => ?_)
        · have w7 := zu_w32_id (z := x5 + 1) (by omega) (by omega)
          have hM : (48 - (zu_w32 (x5 + 1))) * 1 + (48 - x5) * 49 + 0 < (k : Int) := by omega
          exact ih.2 x5 (zu_w32 (x5 + 1)) mh hImh hFmh ⟨by omega, by omega⟩ ⟨by omega, by omega⟩ ⟨by omega, by omega⟩ ⟨by omega, by omega⟩ ⟨by omega, by omega⟩ ⟨by omega, by omega⟩ hRKNmh hRLTmh hRSEmh hM
        · have hM : (48 - 47) * 1 + (48 - x5) * 49 + 0 < (k : Int) := by omega
          exact ih.2 x5 47 mh hImh hFmh ⟨by omega, by omega⟩ ⟨by omega, by omega⟩ ⟨by omega, by omega⟩ ⟨by omega, by omega⟩ ⟨by omega, by omega⟩ ⟨by omega, by omega⟩ hRKNmh hRLTmh hRSEmh hM
set_option maxHeartbeats 4000000 in
theorem zl_160H1 (n : Nat) {a0 a1 a2 a3 a4 : Int} {m0 : zu_m} (hc0 : zcls a0 = 28)   (k : Nat) (ih : (∀ (x5 : Int) (mh : zu_m), zi_I mh → zfr [(28, 54), (28, 64), (28, 65), (28, 66), (28, 67), (28, 68), (28, 69), (28, 70), (28, 72), (28, 73), (28, 74), (106, 0), (107, 0), (108, 0), (122, 0), (123, 0), (124, 0), (125, 2), (126, 0), (127, 0), (128, 0), (129, 0), (130, 0), (131, 0)] m0 mh → (1 ≤ a1 ∧ a1 ≤ 2) → (0 ≤ a2 ∧ a2 ≤ 3) → (0 ≤ a3 ∧ a3 ≤ 9) → (1 ≤ a4 ∧ a4 ≤ 40) → (0 ≤ x5 ∧ x5 ≤ 48) → (zR_KN mh) → (zR_LT mh) → (zE1 mh 0) → (48 - x5) * 49 + 48 < (k : Int) → zw (zu_ex (zt_T n) 160 8 [(40, a0), (0, a1), (0, a2), (0, a3), (0, a4), (0, x5), (2, 0), (2, 0)] [] mh) (fun v m => zi_I m ∧ zfr [(28, 54), (28, 64), (28, 65), (28, 66), (28, 67), (28, 68), (28, 69), (28, 70), (28, 72), (28, 73), (28, 74), (106, 0), (107, 0), (108, 0), (122, 0), (123, 0), (124, 0), (125, 2), (126, 0), (127, 0), (128, 0), (129, 0), (130, 0), (131, 0)] m0 m ∧ zR_KN m ∧ zR_LT m ∧ zE1 m 0 ∧ True)) ∧ (∀ (x5 x6 : Int) (mh : zu_m), zi_I mh → zfr [(28, 54), (28, 64), (28, 65), (28, 66), (28, 67), (28, 68), (28, 69), (28, 70), (28, 72), (28, 73), (28, 74), (106, 0), (107, 0), (108, 0), (122, 0), (123, 0), (124, 0), (125, 2), (126, 0), (127, 0), (128, 0), (129, 0), (130, 0), (131, 0)] m0 mh → (1 ≤ a1 ∧ a1 ≤ 2) → (0 ≤ a2 ∧ a2 ≤ 3) → (0 ≤ a3 ∧ a3 ≤ 9) → (1 ≤ a4 ∧ a4 ≤ 40) → (0 ≤ x5 ∧ x5 ≤ 47) → (1 ≤ x6 ∧ x6 ≤ 48) → (zR_KN mh) → (zR_LT mh) → (zE1 mh 0) → (48 - x6) * 1 + (48 - x5) * 49 + 0 < (k : Int) → zw (zu_ex (zt_T n) 160 33 [(40, a0), (0, a1), (0, a2), (0, a3), (0, a4), (0, x5), (0, x6), (2, 0)] [] mh) (fun v m => zi_I m ∧ zfr [(28, 54), (28, 64), (28, 65), (28, 66), (28, 67), (28, 68), (28, 69), (28, 70), (28, 72), (28, 73), (28, 74), (106, 0), (107, 0), (108, 0), (122, 0), (123, 0), (124, 0), (125, 2), (126, 0), (127, 0), (128, 0), (129, 0), (130, 0), (131, 0)] m0 m ∧ zR_KN m ∧ zR_LT m ∧ zE1 m 0 ∧ True))) : (∀ (x5 x6 : Int) (mh : zu_m), zi_I mh → zfr [(28, 54), (28, 64), (28, 65), (28, 66), (28, 67), (28, 68), (28, 69), (28, 70), (28, 72), (28, 73), (28, 74), (106, 0), (107, 0), (108, 0), (122, 0), (123, 0), (124, 0), (125, 2), (126, 0), (127, 0), (128, 0), (129, 0), (130, 0), (131, 0)] m0 mh → (1 ≤ a1 ∧ a1 ≤ 2) → (0 ≤ a2 ∧ a2 ≤ 3) → (0 ≤ a3 ∧ a3 ≤ 9) → (1 ≤ a4 ∧ a4 ≤ 40) → (0 ≤ x5 ∧ x5 ≤ 47) → (1 ≤ x6 ∧ x6 ≤ 48) → (zR_KN mh) → (zR_LT mh) → (zE1 mh 0) → (48 - x6) * 1 + (48 - x5) * 49 + 0 < ((k + 1 : Nat) : Int) → zw (zu_ex (zt_T n) 160 33 [(40, a0), (0, a1), (0, a2), (0, a3), (0, a4), (0, x5), (0, x6), (2, 0)] [] mh) (fun v m => zi_I m ∧ zfr [(28, 54), (28, 64), (28, 65), (28, 66), (28, 67), (28, 68), (28, 69), (28, 70), (28, 72), (28, 73), (28, 74), (106, 0), (107, 0), (108, 0), (122, 0), (123, 0), (124, 0), (125, 2), (126, 0), (127, 0), (128, 0), (129, 0), (130, 0), (131, 0)] m0 m ∧ zR_KN m ∧ zR_LT m ∧ zE1 m 0 ∧ True)) := by
      intro x5 x6 mh hImh hFmh hba1 hba2 hba3 hba4 hbx5 hbx6 hRKNmh hRLTmh hRSEmh hM
      refine zw_eq (zu_rega_at (zt_T n) (zm_160 n) (zdp_160 n) _ _ _ _ _ _ (zr_160_33 n _ _ a0 a1 a2 a3 a4 x5 x6 mh)) ?_
      refine zw_ite (fun h8 => ?_) (fun h8 => ?_)
      · refine zw_bd (zw_eq (zu_call_at (zt_T n) (zm_36 n) (zdp_36 n) _ _ _ _ _ rfl (zr_36_0 n _ _ a0 mh)) ?_)
        have r9 : 1 ≤ (mh a0 12) ∧ (mh a0 12) ≤ 8 := zi_rd hImh hc0 zb_28_12
        have r10 : 1 ≤ (mh a0 13) ∧ (mh a0 13) ≤ 6 := zi_rd hImh hc0 zb_28_13
        have p11 := zmul_bd (x := (mh a0 12)) (y := (mh a0 13)) (a := 1) (b := 1) (A := 8) (B := 6) (by omega) (by omega) (by omega) (by omega) (by omega) (by omega)
        have w12 := zu_w32_id (z := (mh a0 12) * (mh a0 13)) (by omega) (by omega)
        refine zw_some ?_
        refine zw_ite (fun h13 => ?_) (fun h13 => ?_)
        · have w14 := zu_w32_id (z := x5 + 1) (by omega) (by omega)
          have hM : (48 - (zu_w32 (x5 + 1))) * 49 + 48 < (k : Int) := by omega
          exact zw_le (zu_forget (zu_lr_same (zu_lr_same (zu_lr_same (zu_lr_same (zu_lr_same (zu_lr_same (zu_lr_drop (zu_lr_same zu_lr_nil))))))))) (ih.1 (zu_w32 (x5 + 1)) mh hImh hFmh ⟨by omega, by omega⟩ ⟨by omega, by omega⟩ ⟨by omega, by omega⟩ ⟨by omega, by omega⟩ ⟨by omega, by omega⟩ hRKNmh hRLTmh hRSEmh hM)
        · refine zw_bd (zw_mono (zk_126 n hImh hc0 hRSEmh) (fun v16 m15 hqm15 => ?_))
          obtain ⟨hIm15, hfm15, hvm15⟩ := hqm15
          have hFm15 := zfr_tr hFmh hfm15 rfl
          obtain ⟨hRS1m15, hRSEm15, hvm15⟩ := hvm15
          have hRKNm15 := zR_KN_fr (zdis_fr hfm15 rfl) hRKNmh
          have hRLTm15 := zR_LT_fr (zdis_fr hfm15 rfl) hRLTmh
          refine zw_bd (zw_eq (zu_call_at (zt_T n) (zm_149 n) (zdp_149 n) _ _ _ _ _ rfl (zr_149_0 n _ _ a0 1 x5 a2 a3 m15)) ?_)
          have b17 : 0 ≤ (1 : Int) ∧ (1 : Int) < 2 := by omega
          refine zw_if b17 ?_
          have b18 : 0 ≤ (m15 216 1) ∧ (m15 216 1) < 36 := by omega
          refine zw_if b18 ?_
          generalize hmm19 : zu_up m15 197 (m15 216 1) x5 = m19
          have hIm19 := zi_up hmm19 hIm15 zq_197 (zb_106 _) (by omega) (by omega)
          have hFm19 := zfr_up hmm19 hFm15 zq_197 rfl
          have hRKNm19 := zR_KN_fr (zdis_fr (zfr_up hmm19 (zfr_rf [(106, 0)] _) zq_197 rfl) rfl) hRKNm15
          have hRLTm19 := zR_LT_fr (zdis_fr (zfr_up hmm19 (zfr_rf [(106, 0)] _) zq_197 rfl) rfl) hRLTm15
          have hRS1m19 := zR_S1_fr (zdis_fr (zfr_up hmm19 (zfr_rf [(106, 0)] _) zq_197 rfl) rfl) hRS1m15
          have hRSEm19 := zR_SE_fr (zdis_fr (zfr_up hmm19 (zfr_rf [(106, 0)] _) zq_197 rfl) rfl) hRSEm15
          have b20 : 0 ≤ (m15 216 1) ∧ (m15 216 1) < 36 := by omega
          refine zw_if b20 ?_
          generalize hmm21 : zu_up m19 198 (m15 216 1) a2 = m21
          have hIm21 := zi_up hmm21 hIm19 zq_198 (zb_107 _) (by omega) (by omega)
          have hFm21 := zfr_up hmm21 hFm19 zq_198 rfl
          have hRKNm21 := zR_KN_fr (zdis_fr (zfr_up hmm21 (zfr_rf [(107, 0)] _) zq_198 rfl) rfl) hRKNm19
          have hRLTm21 := zR_LT_fr (zdis_fr (zfr_up hmm21 (zfr_rf [(107, 0)] _) zq_198 rfl) rfl) hRLTm19
          have hRS1m21 := zR_S1_fr (zdis_fr (zfr_up hmm21 (zfr_rf [(107, 0)] _) zq_198 rfl) rfl) hRS1m19
          have hRSEm21 := zR_SE_fr (zdis_fr (zfr_up hmm21 (zfr_rf [(107, 0)] _) zq_198 rfl) rfl) hRSEm19
          have b22 : 0 ≤ (m15 216 1) ∧ (m15 216 1) < 36 := by omega
          refine zw_if b22 ?_
          generalize hmm23 : zu_up m21 199 (m15 216 1) a3 = m23
          have hIm23 := zi_up hmm23 hIm21 zq_199 (zb_108 _) (by omega) (by omega)
          have hFm23 := zfr_up hmm23 hFm21 zq_199 rfl
          have hRKNm23 := zR_KN_fr (zdis_fr (zfr_up hmm23 (zfr_rf [(108, 0)] _) zq_199 rfl) rfl) hRKNm21
          have hRLTm23 := zR_LT_fr (zdis_fr (zfr_up hmm23 (zfr_rf [(108, 0)] _) zq_199 rfl) rfl) hRLTm21
          have hRS1m23 := zR_S1_fr (zdis_fr (zfr_up hmm23 (zfr_rf [(108, 0)] _) zq_199 rfl) rfl) hRS1m21
          have hRSEm23 := zR_SE_fr (zdis_fr (zfr_up hmm23 (zfr_rf [(108, 0)] _) zq_199 rfl) rfl) hRSEm21
          have w24 := zu_w32_id (z := 18 * 1) (by omega) (by omega)
          have w25 := zu_w32_id (z := (zu_w32 (18 * 1)) + (m15 216 1)) (by omega) (by omega)
          have b26 : 0 ≤ (zu_w32 ((zu_w32 (18 * 1)) + (m15 216 1))) ∧ (zu_w32 ((zu_w32 (18 * 1)) + (m15 216 1))) < 36 := by omega
          refine zw_if b26 ?_
          generalize hmm27 : zu_up m23 215 (zu_w32 ((zu_w32 (18 * 1)) + (m15 216 1))) (-1) = m27
          have hIm27 := zi_up hmm27 hIm23 zq_215 (zb_124 _) (by omega) (by omega)
          have hFm27 := zfr_up hmm27 hFm23 zq_215 rfl
          have hRKNm27 := zR_KN_fr (zdis_fr (zfr_up hmm27 (zfr_rf [(124, 0)] _) zq_215 rfl) rfl) hRKNm23
          have hRLTm27 := zR_LT_fr (zdis_fr (zfr_up hmm27 (zfr_rf [(124, 0)] _) zq_215 rfl) rfl) hRLTm23
          have hRS1m27 := zR_S1_fr (zdis_fr (zfr_up hmm27 (zfr_rf [(124, 0)] _) zq_215 rfl) rfl) hRS1m23
          have hRSEm27 := zR_SE_fr (zdis_fr (zfr_up hmm27 (zfr_rf [(124, 0)] _) zq_215 rfl) rfl) hRSEm23
          have b28 : 0 ≤ (1 : Int) ∧ (1 : Int) < 2 := by omega
          refine zw_if b28 ?_
          have r29 : 0 ≤ (m27 216 1) ∧ (m27 216 1) ≤ 18 := zi_rdr (m := 2) (r0 := 1) (r1 := 1) hIm27 zq_216 (by omega) (by decide +kernel)
          have e30 : (m27 216 1) = (m15 216 1) := (Eq.trans (zs_ne hmm27 (Or.inl (zc_ne zq_216 zq_215 (by decide)))) (Eq.trans (zs_ne hmm23 (Or.inl (zc_ne zq_216 zq_199 (by decide)))) (Eq.trans (zs_ne hmm21 (Or.inl (zc_ne zq_216 zq_198 (by decide)))) (zs_ne hmm19 (Or.inl (zc_ne zq_216 zq_197 (by decide)))))))
          have w31 := zu_w32_id (z := (m27 216 1) + 1) (by omega) (by omega)
          have b32 : 0 ≤ (1 : Int) ∧ (1 : Int) < 2 := by omega
          refine zw_if b32 ?_
          generalize hmm33 : zu_up m27 216 1 (zu_w32 ((m27 216 1) + 1)) = m33
          have hIm33 := zi_upr (m := 2) (r0 := 1) (r1 := 1) (lo := 0) (hi := 18) hmm33 hIm27 zq_216 (by omega) (by decide +kernel) (by omega) (by omega)
          have hFm33 := zfr_up hmm33 hFm27 zq_216 rfl
          have hRKNm33 := zR_KN_fr (zdis_fr (zfr_up hmm33 (zfr_rf [(125, 2)] _) zq_216 rfl) rfl) hRKNm27
          have hRLTm33 := zR_LT_fr (zdis_fr (zfr_up hmm33 (zfr_rf [(125, 2)] _) zq_216 rfl) rfl) hRLTm27
          have hRS1m33 := zR_S1_fr (zdis_fr (zfr_up hmm33 (zfr_rf [(125, 2)] _) zq_216 rfl) rfl) hRS1m27
          have hRSEm33 := zR_SE_fr (zdis_fr (zfr_up hmm33 (zfr_rf [(125, 2)] _) zq_216 rfl) rfl) hRSEm27
          refine zw_some ?_
          refine zw_ite (fun h34 => ?_) (fun h34 => ?_)
          · exfalso; omega
          · refine zw_bd (zw_eq (zu_call_at (zt_T n) (zm_149 n) (zdp_149 n) _ _ _ _ _ rfl (zr_149_0 n _ _ a0 1 x6 a2 a3 m33)) ?_)
            have b35 : 0 ≤ (1 : Int) ∧ (1 : Int) < 2 := by omega
            refine zw_if b35 ?_
            have r36 : 0 ≤ (m33 216 1) ∧ (m33 216 1) ≤ 18 := zi_rdr (m := 2) (r0 := 1) (r1 := 1) hIm33 zq_216 (by omega) (by decide +kernel)
            have e37 : (m33 216 1) = (zu_w32 ((m27 216 1) + 1)) := (zs_eq hmm33)
            have b38 : 0 ≤ (m33 216 1) ∧ (m33 216 1) < 36 := by omega
            refine zw_if b38 ?_
            generalize hmm39 : zu_up m33 197 (m33 216 1) x6 = m39
            have hIm39 := zi_up hmm39 hIm33 zq_197 (zb_106 _) (by omega) (by omega)
            have hFm39 := zfr_up hmm39 hFm33 zq_197 rfl
            have hRKNm39 := zR_KN_fr (zdis_fr (zfr_up hmm39 (zfr_rf [(106, 0)] _) zq_197 rfl) rfl) hRKNm33
            have hRLTm39 := zR_LT_fr (zdis_fr (zfr_up hmm39 (zfr_rf [(106, 0)] _) zq_197 rfl) rfl) hRLTm33
            have hRS1m39 := zR_S1_fr (zdis_fr (zfr_up hmm39 (zfr_rf [(106, 0)] _) zq_197 rfl) rfl) hRS1m33
            have hRSEm39 := zR_SE_fr (zdis_fr (zfr_up hmm39 (zfr_rf [(106, 0)] _) zq_197 rfl) rfl) hRSEm33
            have b40 : 0 ≤ (m33 216 1) ∧ (m33 216 1) < 36 := by omega
            refine zw_if b40 ?_
            generalize hmm41 : zu_up m39 198 (m33 216 1) a2 = m41
            have hIm41 := zi_up hmm41 hIm39 zq_198 (zb_107 _) (by omega) (by omega)
            have hFm41 := zfr_up hmm41 hFm39 zq_198 rfl
            have hRKNm41 := zR_KN_fr (zdis_fr (zfr_up hmm41 (zfr_rf [(107, 0)] _) zq_198 rfl) rfl) hRKNm39
            have hRLTm41 := zR_LT_fr (zdis_fr (zfr_up hmm41 (zfr_rf [(107, 0)] _) zq_198 rfl) rfl) hRLTm39
            have hRS1m41 := zR_S1_fr (zdis_fr (zfr_up hmm41 (zfr_rf [(107, 0)] _) zq_198 rfl) rfl) hRS1m39
            have hRSEm41 := zR_SE_fr (zdis_fr (zfr_up hmm41 (zfr_rf [(107, 0)] _) zq_198 rfl) rfl) hRSEm39
            have b42 : 0 ≤ (m33 216 1) ∧ (m33 216 1) < 36 := by omega
            refine zw_if b42 ?_
            generalize hmm43 : zu_up m41 199 (m33 216 1) a3 = m43
            have hIm43 := zi_up hmm43 hIm41 zq_199 (zb_108 _) (by omega) (by omega)
            have hFm43 := zfr_up hmm43 hFm41 zq_199 rfl
            have hRKNm43 := zR_KN_fr (zdis_fr (zfr_up hmm43 (zfr_rf [(108, 0)] _) zq_199 rfl) rfl) hRKNm41
            have hRLTm43 := zR_LT_fr (zdis_fr (zfr_up hmm43 (zfr_rf [(108, 0)] _) zq_199 rfl) rfl) hRLTm41
            have hRS1m43 := zR_S1_fr (zdis_fr (zfr_up hmm43 (zfr_rf [(108, 0)] _) zq_199 rfl) rfl) hRS1m41
            have hRSEm43 := zR_SE_fr (zdis_fr (zfr_up hmm43 (zfr_rf [(108, 0)] _) zq_199 rfl) rfl) hRSEm41
            have w44 := zu_w32_id (z := (zu_w32 (18 * 1)) + (m33 216 1)) (by omega) (by omega)
            have b45 : 0 ≤ (zu_w32 ((zu_w32 (18 * 1)) + (m33 216 1))) ∧ (zu_w32 ((zu_w32 (18 * 1)) + (m33 216 1))) < 36 := by omega
            refine zw_if b45 ?_
            generalize hmm46 : zu_up m43 215 (zu_w32 ((zu_w32 (18 * 1)) + (m33 216 1))) (-1) = m46
            have hIm46 := zi_up hmm46 hIm43 zq_215 (zb_124 _) (by omega) (by omega)
            have hFm46 := zfr_up hmm46 hFm43 zq_215 rfl
            have hRKNm46 := zR_KN_fr (zdis_fr (zfr_up hmm46 (zfr_rf [(124, 0)] _) zq_215 rfl) rfl) hRKNm43
            have hRLTm46 := zR_LT_fr (zdis_fr (zfr_up hmm46 (zfr_rf [(124, 0)] _) zq_215 rfl) rfl) hRLTm43
            have hRS1m46 := zR_S1_fr (zdis_fr (zfr_up hmm46 (zfr_rf [(124, 0)] _) zq_215 rfl) rfl) hRS1m43
            have hRSEm46 := zR_SE_fr (zdis_fr (zfr_up hmm46 (zfr_rf [(124, 0)] _) zq_215 rfl) rfl) hRSEm43
            have b47 : 0 ≤ (1 : Int) ∧ (1 : Int) < 2 := by omega
            refine zw_if b47 ?_
            have r48 : 0 ≤ (m46 216 1) ∧ (m46 216 1) ≤ 18 := zi_rdr (m := 2) (r0 := 1) (r1 := 1) hIm46 zq_216 (by omega) (by decide +kernel)
            have e49 : (m46 216 1) = (m33 216 1) := (Eq.trans (zs_ne hmm46 (Or.inl (zc_ne zq_216 zq_215 (by decide)))) (Eq.trans (zs_ne hmm43 (Or.inl (zc_ne zq_216 zq_199 (by decide)))) (Eq.trans (zs_ne hmm41 (Or.inl (zc_ne zq_216 zq_198 (by decide)))) (zs_ne hmm39 (Or.inl (zc_ne zq_216 zq_197 (by decide)))))))
            have w50 := zu_w32_id (z := (m46 216 1) + 1) (by omega) (by omega)
            have b51 : 0 ≤ (1 : Int) ∧ (1 : Int) < 2 := by omega
            refine zw_if b51 ?_
            generalize hmm52 : zu_up m46 216 1 (zu_w32 ((m46 216 1) + 1)) = m52
            have hIm52 := zi_upr (m := 2) (r0 := 1) (r1 := 1) (lo := 0) (hi := 18) hmm52 hIm46 zq_216 (by omega) (by decide +kernel) (by omega) (by omega)
            have hFm52 := zfr_up hmm52 hFm46 zq_216 rfl
            have hRKNm52 := zR_KN_fr (zdis_fr (zfr_up hmm52 (zfr_rf [(125, 2)] _) zq_216 rfl) rfl) hRKNm46
            have hRLTm52 := zR_LT_fr (zdis_fr (zfr_up hmm52 (zfr_rf [(125, 2)] _) zq_216 rfl) rfl) hRLTm46
            have hRS1m52 := zR_S1_fr (zdis_fr (zfr_up hmm52 (zfr_rf [(125, 2)] _) zq_216 rfl) rfl) hRS1m46
            have hRSEm52 := zR_SE_fr (zdis_fr (zfr_up hmm52 (zfr_rf [(125, 2)] _) zq_216 rfl) rfl) hRSEm46
            refine zw_some ?_
            refine zw_bd (zw_mono (zk_159 n hIm52 hc0 ⟨by omega, by omega⟩ hRKNm52 hRLTm52 hRS1m52 hRSEm52) (fun v54 m53 hqm53 => ?_))
            obtain ⟨hIm53, hfm53, hvm53⟩ := hqm53
            have hFm53 := zfr_tr hFm52 hfm53 rfl
            obtain ⟨hRKNm53, hRLTm53, hRS1m53, hRSEm53, hvm53⟩ := hvm53
            refine zw_bd (zw_mono (zk_141 n hIm53 hc0 ⟨by decide, by decide⟩) (fun v56 m55 hqm55 => ?_))
            obtain ⟨hIm55, hfm55, hvm55⟩ := hqm55
            have hFm55 := zfr_tr hFm53 hfm55 rfl
            have hRKNm55 := zR_KN_fr (zdis_fr hfm55 rfl) hRKNm53
            have hRLTm55 := zR_LT_fr (zdis_fr hfm55 rfl) hRLTm53
            have hRS1m55 := zR_S1_fr (zdis_fr hfm55 rfl) hRS1m53
            have hRSEm55 := zR_SE_fr (zdis_fr hfm55 rfl) hRSEm53
            have r57 : (-2147483648) ≤ (m55 a0 71) ∧ (m55 a0 71) ≤ 2147483647 := zi_rd hIm55 hc0 zb_28_71
            refine zw_ite (fun h58 => ?_) (fun h58 => ?_)
            · generalize hmm59 : zu_up m55 a0 71 v56 = m59
              have hIm59 := zi_up hmm59 hIm55 hc0 zb_28_71 (by omega) (by omega)
              have hFm59 := zfr_up hmm59 hFm55 hc0 rfl
              have hRKNm59 := zR_KN_fr (zdis_fr (zfr_up hmm59 (zfr_rf [(28, 72)] _) hc0 rfl) rfl) hRKNm55
              have hRLTm59 := zR_LT_fr (zdis_fr (zfr_up hmm59 (zfr_rf [(28, 72)] _) hc0 rfl) rfl) hRLTm55
              have hRS1m59 := zR_S1_fr (zdis_fr (zfr_up hmm59 (zfr_rf [(28, 72)] _) hc0 rfl) rfl) hRS1m55
              have hRSEm59 := zR_SE_fr (zdis_fr (zfr_up hmm59 (zfr_rf [(28, 72)] _) hc0 rfl) rfl) hRSEm55
              generalize hmm60 : zu_up m59 a0 72 x5 = m60
              have hIm60 := zi_up hmm60 hIm59 hc0 zb_28_72 (by omega) (by omega)
              have hFm60 := zfr_up hmm60 hFm59 hc0 rfl
              have hRKNm60 := zR_KN_fr (zdis_fr (zfr_up hmm60 (zfr_rf [(28, 73)] _) hc0 rfl) rfl) hRKNm59
              have hRLTm60 := zR_LT_fr (zdis_fr (zfr_up hmm60 (zfr_rf [(28, 73)] _) hc0 rfl) rfl) hRLTm59
              have hRS1m60 := zR_S1_fr (zdis_fr (zfr_up hmm60 (zfr_rf [(28, 73)] _) hc0 rfl) rfl) hRS1m59
              have hRSEm60 := zR_SE_fr (zdis_fr (zfr_up hmm60 (zfr_rf [(28, 73)] _) hc0 rfl) rfl) hRSEm59
              generalize hmm61 : zu_up m60 a0 73 x6 = m61
              have hIm61 := zi_up hmm61 hIm60 hc0 zb_28_73 (by omega) (by omega)
              have hFm61 := zfr_up hmm61 hFm60 hc0 rfl
              have hRKNm61 := zR_KN_fr (zdis_fr (zfr_up hmm61 (zfr_rf [(28, 74)] _) hc0 rfl) rfl) hRKNm60
              have hRLTm61 := zR_LT_fr (zdis_fr (zfr_up hmm61 (zfr_rf [(28, 74)] _) hc0 rfl) rfl) hRLTm60
              have hRS1m61 := zR_S1_fr (zdis_fr (zfr_up hmm61 (zfr_rf [(28, 74)] _) hc0 rfl) rfl) hRS1m60
              have hRSEm61 := zR_SE_fr (zdis_fr (zfr_up hmm61 (zfr_rf [(28, 74)] _) hc0 rfl) rfl) hRSEm60
              have w62 := zu_w32_id (z := x6 + 1) (by omega) (by omega)
              have hM : (48 - (zu_w32 (x6 + 1))) * 1 + (48 - x5) * 49 + 0 < (k : Int) := by omega
              exact zw_le (zu_forget (zu_lr_same (zu_lr_same (zu_lr_same (zu_lr_same (zu_lr_same (zu_lr_same (zu_lr_same (zu_lr_drop zu_lr_nil))))))))) (ih.2 x5 (zu_w32 (x6 + 1)) m61 hIm61 hFm61 ⟨by omega, by omega⟩ ⟨by omega, by omega⟩ ⟨by omega, by omega⟩ ⟨by omega, by omega⟩ ⟨by omega, by omega⟩ ⟨by omega, by omega⟩ hRKNm61 hRLTm61 hRSEm61 hM)
            · refine zw_ite (fun h63 => ?_) (fun h63 => ?_)
              · generalize hmm64 : zu_up m55 a0 71 v56 = m64
                have hIm64 := zi_up hmm64 hIm55 hc0 zb_28_71 (by omega) (by omega)
                have hFm64 := zfr_up hmm64 hFm55 hc0 rfl
                have hRKNm64 := zR_KN_fr (zdis_fr (zfr_up hmm64 (zfr_rf [(28, 72)] _) hc0 rfl) rfl) hRKNm55
                have hRLTm64 := zR_LT_fr (zdis_fr (zfr_up hmm64 (zfr_rf [(28, 72)] _) hc0 rfl) rfl) hRLTm55
                have hRS1m64 := zR_S1_fr (zdis_fr (zfr_up hmm64 (zfr_rf [(28, 72)] _) hc0 rfl) rfl) hRS1m55
                have hRSEm64 := zR_SE_fr (zdis_fr (zfr_up hmm64 (zfr_rf [(28, 72)] _) hc0 rfl) rfl) hRSEm55
                generalize hmm65 : zu_up m64 a0 72 x5 = m65
                have hIm65 := zi_up hmm65 hIm64 hc0 zb_28_72 (by omega) (by omega)
                have hFm65 := zfr_up hmm65 hFm64 hc0 rfl
                have hRKNm65 := zR_KN_fr (zdis_fr (zfr_up hmm65 (zfr_rf [(28, 73)] _) hc0 rfl) rfl) hRKNm64
                have hRLTm65 := zR_LT_fr (zdis_fr (zfr_up hmm65 (zfr_rf [(28, 73)] _) hc0 rfl) rfl) hRLTm64
                have hRS1m65 := zR_S1_fr (zdis_fr (zfr_up hmm65 (zfr_rf [(28, 73)] _) hc0 rfl) rfl) hRS1m64
                have hRSEm65 := zR_SE_fr (zdis_fr (zfr_up hmm65 (zfr_rf [(28, 73)] _) hc0 rfl) rfl) hRSEm64
                generalize hmm66 : zu_up m65 a0 73 x6 = m66
                have hIm66 := zi_up hmm66 hIm65 hc0 zb_28_73 (by omega) (by omega)
                have hFm66 := zfr_up hmm66 hFm65 hc0 rfl
                have hRKNm66 := zR_KN_fr (zdis_fr (zfr_up hmm66 (zfr_rf [(28, 74)] _) hc0 rfl) rfl) hRKNm65
                have hRLTm66 := zR_LT_fr (zdis_fr (zfr_up hmm66 (zfr_rf [(28, 74)] _) hc0 rfl) rfl) hRLTm65
                have hRS1m66 := zR_S1_fr (zdis_fr (zfr_up hmm66 (zfr_rf [(28, 74)] _) hc0 rfl) rfl) hRS1m65
                have hRSEm66 := zR_SE_fr (zdis_fr (zfr_up hmm66 (zfr_rf [(28, 74)] _) hc0 rfl) rfl) hRSEm65
                have w67 := zu_w32_id (z := x6 + 1) (by omega) (by omega)
                have hM : (48 - (zu_w32 (x6 + 1))) * 1 + (48 - x5) * 49 + 0 < (k : Int) := by omega
                exact zw_le (zu_forget (zu_lr_same (zu_lr_same (zu_lr_same (zu_lr_same (zu_lr_same (zu_lr_same (zu_lr_same (zu_lr_drop zu_lr_nil))))))))) (ih.2 x5 (zu_w32 (x6 + 1)) m66 hIm66 hFm66 ⟨by omega, by omega⟩ ⟨by omega, by omega⟩ ⟨by omega, by omega⟩ ⟨by omega, by omega⟩ ⟨by omega, by omega⟩ ⟨by omega, by omega⟩ hRKNm66 hRLTm66 hRSEm66 hM)
              · have w68 := zu_w32_id (z := x6 + 1) (by omega) (by omega)
                have hM : (48 - (zu_w32 (x6 + 1))) * 1 + (48 - x5) * 49 + 0 < (k : Int) := by omega
                exact zw_le (zu_forget (zu_lr_same (zu_lr_same (zu_lr_same (zu_lr_same (zu_lr_same (zu_lr_same (zu_lr_same (zu_lr_drop zu_lr_nil))))))))) (ih.2 x5 (zu_w32 (x6 + 1)) m55 hIm55 hFm55 ⟨by omega, by omega⟩ ⟨by omega, by omega⟩ ⟨by omega, by omega⟩ ⟨by omega, by omega⟩ ⟨by omega, by omega⟩ ⟨by omega, by omega⟩ hRKNm55 hRLTm55 hRSEm55 hM)
      · refine zw_ite (fun h69 => ?_) (fun h69 => ?_)
        · have w70 := zu_w32_id (z := x5 + 1) (by omega) (by omega)
          have hM : (48 - (zu_w32 (x5 + 1))) * 49 + 48 < (k : Int) := by omega
          exact zw_le (zu_forget (zu_lr_same (zu_lr_same (zu_lr_same (zu_lr_same (zu_lr_same (zu_lr_same (zu_lr_drop (zu_lr_same zu_lr_nil))))))))) (ih.1 (zu_w32 (x5 + 1)) mh hImh hFmh ⟨by omega, by omega⟩ ⟨by omega, by omega⟩ ⟨by omega, by omega⟩ ⟨by omega, by omega⟩ ⟨by omega, by omega⟩ hRKNmh hRLTmh hRSEmh hM)
        · refine zw_bd (zw_mono (zk_126 n hImh hc0 hRSEmh) (fun v72 m71 hqm71 => ?_))
          obtain ⟨hIm71, hfm71, hvm71⟩ := hqm71
          have hFm71 := zfr_tr hFmh hfm71 rfl
          obtain ⟨hRS1m71, hRSEm71, hvm71⟩ := hvm71
          have hRKNm71 := zR_KN_fr (zdis_fr hfm71 rfl) hRKNmh
          have hRLTm71 := zR_LT_fr (zdis_fr hfm71 rfl) hRLTmh
          refine zw_bd (zw_eq (zu_call_at (zt_T n) (zm_149 n) (zdp_149 n) _ _ _ _ _ rfl (zr_149_0 n _ _ a0 1 x5 a2 a3 m71)) ?_)
          have b73 : 0 ≤ (1 : Int) ∧ (1 : Int) < 2 := by omega
          refine zw_if b73 ?_
          have b74 : 0 ≤ (m71 216 1) ∧ (m71 216 1) < 36 := by omega
          refine zw_if b74 ?_
          generalize hmm75 : zu_up m71 197 (m71 216 1) x5 = m75
          have hIm75 := zi_up hmm75 hIm71 zq_197 (zb_106 _) (by omega) (by omega)
          have hFm75 := zfr_up hmm75 hFm71 zq_197 rfl
          have hRKNm75 := zR_KN_fr (zdis_fr (zfr_up hmm75 (zfr_rf [(106, 0)] _) zq_197 rfl) rfl) hRKNm71
          have hRLTm75 := zR_LT_fr (zdis_fr (zfr_up hmm75 (zfr_rf [(106, 0)] _) zq_197 rfl) rfl) hRLTm71
          have hRS1m75 := zR_S1_fr (zdis_fr (zfr_up hmm75 (zfr_rf [(106, 0)] _) zq_197 rfl) rfl) hRS1m71
          have hRSEm75 := zR_SE_fr (zdis_fr (zfr_up hmm75 (zfr_rf [(106, 0)] _) zq_197 rfl) rfl) hRSEm71
          have b76 : 0 ≤ (m71 216 1) ∧ (m71 216 1) < 36 := by omega
          refine zw_if b76 ?_
          generalize hmm77 : zu_up m75 198 (m71 216 1) a2 = m77
          have hIm77 := zi_up hmm77 hIm75 zq_198 (zb_107 _) (by omega) (by omega)
          have hFm77 := zfr_up hmm77 hFm75 zq_198 rfl
          have hRKNm77 := zR_KN_fr (zdis_fr (zfr_up hmm77 (zfr_rf [(107, 0)] _) zq_198 rfl) rfl) hRKNm75
          have hRLTm77 := zR_LT_fr (zdis_fr (zfr_up hmm77 (zfr_rf [(107, 0)] _) zq_198 rfl) rfl) hRLTm75
          have hRS1m77 := zR_S1_fr (zdis_fr (zfr_up hmm77 (zfr_rf [(107, 0)] _) zq_198 rfl) rfl) hRS1m75
          have hRSEm77 := zR_SE_fr (zdis_fr (zfr_up hmm77 (zfr_rf [(107, 0)] _) zq_198 rfl) rfl) hRSEm75
          have b78 : 0 ≤ (m71 216 1) ∧ (m71 216 1) < 36 := by omega
          refine zw_if b78 ?_
          generalize hmm79 : zu_up m77 199 (m71 216 1) a3 = m79
          have hIm79 := zi_up hmm79 hIm77 zq_199 (zb_108 _) (by omega) (by omega)
          have hFm79 := zfr_up hmm79 hFm77 zq_199 rfl
          have hRKNm79 := zR_KN_fr (zdis_fr (zfr_up hmm79 (zfr_rf [(108, 0)] _) zq_199 rfl) rfl) hRKNm77
          have hRLTm79 := zR_LT_fr (zdis_fr (zfr_up hmm79 (zfr_rf [(108, 0)] _) zq_199 rfl) rfl) hRLTm77
          have hRS1m79 := zR_S1_fr (zdis_fr (zfr_up hmm79 (zfr_rf [(108, 0)] _) zq_199 rfl) rfl) hRS1m77
          have hRSEm79 := zR_SE_fr (zdis_fr (zfr_up hmm79 (zfr_rf [(108, 0)] _) zq_199 rfl) rfl) hRSEm77
          have w80 := zu_w32_id (z := 18 * 1) (by omega) (by omega)
          have w81 := zu_w32_id (z := (zu_w32 (18 * 1)) + (m71 216 1)) (by omega) (by omega)
          have b82 : 0 ≤ (zu_w32 ((zu_w32 (18 * 1)) + (m71 216 1))) ∧ (zu_w32 ((zu_w32 (18 * 1)) + (m71 216 1))) < 36 := by omega
          refine zw_if b82 ?_
          generalize hmm83 : zu_up m79 215 (zu_w32 ((zu_w32 (18 * 1)) + (m71 216 1))) (-1) = m83
          have hIm83 := zi_up hmm83 hIm79 zq_215 (zb_124 _) (by omega) (by omega)
          have hFm83 := zfr_up hmm83 hFm79 zq_215 rfl
          have hRKNm83 := zR_KN_fr (zdis_fr (zfr_up hmm83 (zfr_rf [(124, 0)] _) zq_215 rfl) rfl) hRKNm79
          have hRLTm83 := zR_LT_fr (zdis_fr (zfr_up hmm83 (zfr_rf [(124, 0)] _) zq_215 rfl) rfl) hRLTm79
          have hRS1m83 := zR_S1_fr (zdis_fr (zfr_up hmm83 (zfr_rf [(124, 0)] _) zq_215 rfl) rfl) hRS1m79
          have hRSEm83 := zR_SE_fr (zdis_fr (zfr_up hmm83 (zfr_rf [(124, 0)] _) zq_215 rfl) rfl) hRSEm79
          have b84 : 0 ≤ (1 : Int) ∧ (1 : Int) < 2 := by omega
          refine zw_if b84 ?_
          have r85 : 0 ≤ (m83 216 1) ∧ (m83 216 1) ≤ 18 := zi_rdr (m := 2) (r0 := 1) (r1 := 1) hIm83 zq_216 (by omega) (by decide +kernel)
          have e86 : (m83 216 1) = (m71 216 1) := (Eq.trans (zs_ne hmm83 (Or.inl (zc_ne zq_216 zq_215 (by decide)))) (Eq.trans (zs_ne hmm79 (Or.inl (zc_ne zq_216 zq_199 (by decide)))) (Eq.trans (zs_ne hmm77 (Or.inl (zc_ne zq_216 zq_198 (by decide)))) (zs_ne hmm75 (Or.inl (zc_ne zq_216 zq_197 (by decide)))))))
          have w87 := zu_w32_id (z := (m83 216 1) + 1) (by omega) (by omega)
          have b88 : 0 ≤ (1 : Int) ∧ (1 : Int) < 2 := by omega
          refine zw_if b88 ?_
          generalize hmm89 : zu_up m83 216 1 (zu_w32 ((m83 216 1) + 1)) = m89
          have hIm89 := zi_upr (m := 2) (r0 := 1) (r1 := 1) (lo := 0) (hi := 18) hmm89 hIm83 zq_216 (by omega) (by decide +kernel) (by omega) (by omega)
          have hFm89 := zfr_up hmm89 hFm83 zq_216 rfl
          have hRKNm89 := zR_KN_fr (zdis_fr (zfr_up hmm89 (zfr_rf [(125, 2)] _) zq_216 rfl) rfl) hRKNm83
          have hRLTm89 := zR_LT_fr (zdis_fr (zfr_up hmm89 (zfr_rf [(125, 2)] _) zq_216 rfl) rfl) hRLTm83
          have hRS1m89 := zR_S1_fr (zdis_fr (zfr_up hmm89 (zfr_rf [(125, 2)] _) zq_216 rfl) rfl) hRS1m83
          have hRSEm89 := zR_SE_fr (zdis_fr (zfr_up hmm89 (zfr_rf [(125, 2)] _) zq_216 rfl) rfl) hRSEm83
          refine zw_some ?_
          refine zw_ite (fun h90 => ?_) (fun h90 => ?_)
          · refine zw_bd (zw_mono (zk_159 n hIm89 hc0 ⟨by omega, by omega⟩ hRKNm89 hRLTm89 hRS1m89 hRSEm89) (fun v92 m91 hqm91 => ?_))
            obtain ⟨hIm91, hfm91, hvm91⟩ := hqm91
            have hFm91 := zfr_tr hFm89 hfm91 rfl
            obtain ⟨hRKNm91, hRLTm91, hRS1m91, hRSEm91, hvm91⟩ := hvm91
            refine zw_bd (zw_mono (zk_141 n hIm91 hc0 ⟨by decide, by decide⟩) (fun v94 m93 hqm93 => ?_))
            obtain ⟨hIm93, hfm93, hvm93⟩ := hqm93
            have hFm93 := zfr_tr hFm91 hfm93 rfl
            have hRKNm93 := zR_KN_fr (zdis_fr hfm93 rfl) hRKNm91
            have hRLTm93 := zR_LT_fr (zdis_fr hfm93 rfl) hRLTm91
            have hRS1m93 := zR_S1_fr (zdis_fr hfm93 rfl) hRS1m91
            have hRSEm93 := zR_SE_fr (zdis_fr hfm93 rfl) hRSEm91
            have r95 : (-2147483648) ≤ (m93 a0 71) ∧ (m93 a0 71) ≤ 2147483647 := zi_rd hIm93 hc0 zb_28_71
            refine zw_ite (fun h96 => ?_) (fun h96 => ?_)
            · generalize hmm97 : zu_up m93 a0 71 v94 = m97
              have hIm97 := zi_up hmm97 hIm93 hc0 zb_28_71 (by omega) (by omega)
              have hFm97 := zfr_up hmm97 hFm93 hc0 rfl
              have hRKNm97 := zR_KN_fr (zdis_fr (zfr_up hmm97 (zfr_rf [(28, 72)] _) hc0 rfl) rfl) hRKNm93
              have hRLTm97 := zR_LT_fr (zdis_fr (zfr_up hmm97 (zfr_rf [(28, 72)] _) hc0 rfl) rfl) hRLTm93
              have hRS1m97 := zR_S1_fr (zdis_fr (zfr_up hmm97 (zfr_rf [(28, 72)] _) hc0 rfl) rfl) hRS1m93
              have hRSEm97 := zR_SE_fr (zdis_fr (zfr_up hmm97 (zfr_rf [(28, 72)] _) hc0 rfl) rfl) hRSEm93
              generalize hmm98 : zu_up m97 a0 72 x5 = m98
              have hIm98 := zi_up hmm98 hIm97 hc0 zb_28_72 (by omega) (by omega)
              have hFm98 := zfr_up hmm98 hFm97 hc0 rfl
              have hRKNm98 := zR_KN_fr (zdis_fr (zfr_up hmm98 (zfr_rf [(28, 73)] _) hc0 rfl) rfl) hRKNm97
              have hRLTm98 := zR_LT_fr (zdis_fr (zfr_up hmm98 (zfr_rf [(28, 73)] _) hc0 rfl) rfl) hRLTm97
              have hRS1m98 := zR_S1_fr (zdis_fr (zfr_up hmm98 (zfr_rf [(28, 73)] _) hc0 rfl) rfl) hRS1m97
              have hRSEm98 := zR_SE_fr (zdis_fr (zfr_up hmm98 (zfr_rf [(28, 73)] _) hc0 rfl) rfl) hRSEm97
              generalize hmm99 : zu_up m98 a0 73 x6 = m99
              have hIm99 := zi_up hmm99 hIm98 hc0 zb_28_73 (by omega) (by omega)
              have hFm99 := zfr_up hmm99 hFm98 hc0 rfl
              have hRKNm99 := zR_KN_fr (zdis_fr (zfr_up hmm99 (zfr_rf [(28, 74)] _) hc0 rfl) rfl) hRKNm98
              have hRLTm99 := zR_LT_fr (zdis_fr (zfr_up hmm99 (zfr_rf [(28, 74)] _) hc0 rfl) rfl) hRLTm98
              have hRS1m99 := zR_S1_fr (zdis_fr (zfr_up hmm99 (zfr_rf [(28, 74)] _) hc0 rfl) rfl) hRS1m98
              have hRSEm99 := zR_SE_fr (zdis_fr (zfr_up hmm99 (zfr_rf [(28, 74)] _) hc0 rfl) rfl) hRSEm98
              have w100 := zu_w32_id (z := x6 + 1) (by omega) (by omega)
              have hM : (48 - (zu_w32 (x6 + 1))) * 1 + (48 - x5) * 49 + 0 < (k : Int) := by omega
              exact zw_le (zu_forget (zu_lr_same (zu_lr_same (zu_lr_same (zu_lr_same (zu_lr_same (zu_lr_same (zu_lr_same (zu_lr_drop zu_lr_nil))))))))) (ih.2 x5 (zu_w32 (x6 + 1)) m99 hIm99 hFm99 ⟨by omega, by omega⟩ ⟨by omega, by omega⟩ ⟨by omega, by omega⟩ ⟨by omega, by omega⟩ ⟨by omega, by omega⟩ ⟨by omega, by omega⟩ hRKNm99 hRLTm99 hRSEm99 hM)
            · refine zw_ite (fun h101 => ?_) (fun h101 => ?_)
              · generalize hmm102 : zu_up m93 a0 71 v94 = m102
                have hIm102 := zi_up hmm102 hIm93 hc0 zb_28_71 (by omega) (by omega)
                have hFm102 := zfr_up hmm102 hFm93 hc0 rfl
                have hRKNm102 := zR_KN_fr (zdis_fr (zfr_up hmm102 (zfr_rf [(28, 72)] _) hc0 rfl) rfl) hRKNm93
                have hRLTm102 := zR_LT_fr (zdis_fr (zfr_up hmm102 (zfr_rf [(28, 72)] _) hc0 rfl) rfl) hRLTm93
                have hRS1m102 := zR_S1_fr (zdis_fr (zfr_up hmm102 (zfr_rf [(28, 72)] _) hc0 rfl) rfl) hRS1m93
                have hRSEm102 := zR_SE_fr (zdis_fr (zfr_up hmm102 (zfr_rf [(28, 72)] _) hc0 rfl) rfl) hRSEm93
                generalize hmm103 : zu_up m102 a0 72 x5 = m103
                have hIm103 := zi_up hmm103 hIm102 hc0 zb_28_72 (by omega) (by omega)
                have hFm103 := zfr_up hmm103 hFm102 hc0 rfl
                have hRKNm103 := zR_KN_fr (zdis_fr (zfr_up hmm103 (zfr_rf [(28, 73)] _) hc0 rfl) rfl) hRKNm102
                have hRLTm103 := zR_LT_fr (zdis_fr (zfr_up hmm103 (zfr_rf [(28, 73)] _) hc0 rfl) rfl) hRLTm102
                have hRS1m103 := zR_S1_fr (zdis_fr (zfr_up hmm103 (zfr_rf [(28, 73)] _) hc0 rfl) rfl) hRS1m102
                have hRSEm103 := zR_SE_fr (zdis_fr (zfr_up hmm103 (zfr_rf [(28, 73)] _) hc0 rfl) rfl) hRSEm102
                generalize hmm104 : zu_up m103 a0 73 x6 = m104
                have hIm104 := zi_up hmm104 hIm103 hc0 zb_28_73 (by omega) (by omega)
                have hFm104 := zfr_up hmm104 hFm103 hc0 rfl
                have hRKNm104 := zR_KN_fr (zdis_fr (zfr_up hmm104 (zfr_rf [(28, 74)] _) hc0 rfl) rfl) hRKNm103
                have hRLTm104 := zR_LT_fr (zdis_fr (zfr_up hmm104 (zfr_rf [(28, 74)] _) hc0 rfl) rfl) hRLTm103
                have hRS1m104 := zR_S1_fr (zdis_fr (zfr_up hmm104 (zfr_rf [(28, 74)] _) hc0 rfl) rfl) hRS1m103
                have hRSEm104 := zR_SE_fr (zdis_fr (zfr_up hmm104 (zfr_rf [(28, 74)] _) hc0 rfl) rfl) hRSEm103
                have w105 := zu_w32_id (z := x6 + 1) (by omega) (by omega)
                have hM : (48 - (zu_w32 (x6 + 1))) * 1 + (48 - x5) * 49 + 0 < (k : Int) := by omega
                exact zw_le (zu_forget (zu_lr_same (zu_lr_same (zu_lr_same (zu_lr_same (zu_lr_same (zu_lr_same (zu_lr_same (zu_lr_drop zu_lr_nil))))))))) (ih.2 x5 (zu_w32 (x6 + 1)) m104 hIm104 hFm104 ⟨by omega, by omega⟩ ⟨by omega, by omega⟩ ⟨by omega, by omega⟩ ⟨by omega, by omega⟩ ⟨by omega, by omega⟩ ⟨by omega, by omega⟩ hRKNm104 hRLTm104 hRSEm104 hM)
              · have w106 := zu_w32_id (z := x6 + 1) (by omega) (by omega)
                have hM : (48 - (zu_w32 (x6 + 1))) * 1 + (48 - x5) * 49 + 0 < (k : Int) := by omega
                exact zw_le (zu_forget (zu_lr_same (zu_lr_same (zu_lr_same (zu_lr_same (zu_lr_same (zu_lr_same (zu_lr_same (zu_lr_drop zu_lr_nil))))))))) (ih.2 x5 (zu_w32 (x6 + 1)) m93 hIm93 hFm93 ⟨by omega, by omega⟩ ⟨by omega, by omega⟩ ⟨by omega, by omega⟩ ⟨by omega, by omega⟩ ⟨by omega, by omega⟩ ⟨by omega, by omega⟩ hRKNm93 hRLTm93 hRSEm93 hM)
          · exfalso; omega
set_option maxHeartbeats 4000000 in
theorem zl_160 (n : Nat) {a0 a1 a2 a3 a4 : Int} {m0 : zu_m} (hc0 : zcls a0 = 28)   : ∀ k : Nat, (∀ (x5 : Int) (mh : zu_m), zi_I mh → zfr [(28, 54), (28, 64), (28, 65), (28, 66), (28, 67), (28, 68), (28, 69), (28, 70), (28, 72), (28, 73), (28, 74), (106, 0), (107, 0), (108, 0), (122, 0), (123, 0), (124, 0), (125, 2), (126, 0), (127, 0), (128, 0), (129, 0), (130, 0), (131, 0)] m0 mh → (1 ≤ a1 ∧ a1 ≤ 2) → (0 ≤ a2 ∧ a2 ≤ 3) → (0 ≤ a3 ∧ a3 ≤ 9) → (1 ≤ a4 ∧ a4 ≤ 40) → (0 ≤ x5 ∧ x5 ≤ 48) → (zR_KN mh) → (zR_LT mh) → (zE1 mh 0) → (48 - x5) * 49 + 48 < (k : Int) → zw (zu_ex (zt_T n) 160 8 [(40, a0), (0, a1), (0, a2), (0, a3), (0, a4), (0, x5), (2, 0), (2, 0)] [] mh) (fun v m => zi_I m ∧ zfr [(28, 54), (28, 64), (28, 65), (28, 66), (28, 67), (28, 68), (28, 69), (28, 70), (28, 72), (28, 73), (28, 74), (106, 0), (107, 0), (108, 0), (122, 0), (123, 0), (124, 0), (125, 2), (126, 0), (127, 0), (128, 0), (129, 0), (130, 0), (131, 0)] m0 m ∧ zR_KN m ∧ zR_LT m ∧ zE1 m 0 ∧ True)) ∧ (∀ (x5 x6 : Int) (mh : zu_m), zi_I mh → zfr [(28, 54), (28, 64), (28, 65), (28, 66), (28, 67), (28, 68), (28, 69), (28, 70), (28, 72), (28, 73), (28, 74), (106, 0), (107, 0), (108, 0), (122, 0), (123, 0), (124, 0), (125, 2), (126, 0), (127, 0), (128, 0), (129, 0), (130, 0), (131, 0)] m0 mh → (1 ≤ a1 ∧ a1 ≤ 2) → (0 ≤ a2 ∧ a2 ≤ 3) → (0 ≤ a3 ∧ a3 ≤ 9) → (1 ≤ a4 ∧ a4 ≤ 40) → (0 ≤ x5 ∧ x5 ≤ 47) → (1 ≤ x6 ∧ x6 ≤ 48) → (zR_KN mh) → (zR_LT mh) → (zE1 mh 0) → (48 - x6) * 1 + (48 - x5) * 49 + 0 < (k : Int) → zw (zu_ex (zt_T n) 160 33 [(40, a0), (0, a1), (0, a2), (0, a3), (0, a4), (0, x5), (0, x6), (2, 0)] [] mh) (fun v m => zi_I m ∧ zfr [(28, 54), (28, 64), (28, 65), (28, 66), (28, 67), (28, 68), (28, 69), (28, 70), (28, 72), (28, 73), (28, 74), (106, 0), (107, 0), (108, 0), (122, 0), (123, 0), (124, 0), (125, 2), (126, 0), (127, 0), (128, 0), (129, 0), (130, 0), (131, 0)] m0 m ∧ zR_KN m ∧ zR_LT m ∧ zE1 m 0 ∧ True)) := by
  intro k
  induction k with
  | zero => exact ⟨fun x5 mh hImh hFmh hba1 hba2 hba3 hba4 hbx5 hRKNmh hRLTmh hRSEmh hM => by exfalso; omega, fun x5 x6 mh hImh hFmh hba1 hba2 hba3 hba4 hbx5 hbx6 hRKNmh hRLTmh hRSEmh hM => by exfalso; omega⟩
  | succ k ih => exact ⟨zl_160H0 n (m0 := m0) hc0 k ih, zl_160H1 n (m0 := m0) hc0 k ih⟩
set_option maxHeartbeats 4000000 in
theorem zk_160 (n : Nat) {a0 a1 a2 a3 a4 : Int} {m0 : zu_m} (hIm0 : zi_I m0) (hc0 : zcls a0 = 28) (ha1 : 1 ≤ a1 ∧ a1 ≤ 2) (ha2 : 0 ≤ a2 ∧ a2 ≤ 3) (ha3 : 0 ≤ a3 ∧ a3 ≤ 9) (ha4 : 1 ≤ a4 ∧ a4 ≤ 40)    (hRKNm0 : zR_KN m0) (hRLTm0 : zR_LT m0) (hRSEm0 : zE1 m0 0) : zw (zu_call (zt_T n) 160 [(40, a0), (0, a1), (0, a2), (0, a3), (0, a4)] m0) (fun v m => zi_I m ∧ zfr [(28, 54), (28, 64), (28, 65), (28, 66), (28, 67), (28, 68), (28, 69), (28, 70), (28, 72), (28, 73), (28, 74), (106, 0), (107, 0), (108, 0), (122, 0), (123, 0), (124, 0), (125, 2), (126, 0), (127, 0), (128, 0), (129, 0), (130, 0), (131, 0)] m0 m ∧ zR_KN m ∧ zR_LT m ∧ zE1 m 0 ∧ True) := by
  have hFm0 : zfr [(28, 54), (28, 64), (28, 65), (28, 66), (28, 67), (28, 68), (28, 69), (28, 70), (28, 72), (28, 73), (28, 74), (106, 0), (107, 0), (108, 0), (122, 0), (123, 0), (124, 0), (125, 2), (126, 0), (127, 0), (128, 0), (129, 0), (130, 0), (131, 0)] m0 m0 := zfr_rf _ _
  refine zw_eq (zu_call_at (zt_T n) (zm_160 n) (zdp_160 n) _ _ _ _ _ rfl (zr_160_0 n _ _ a0 a1 a2 a3 a4 m0)) ?_
  generalize hmm107 : zu_up m0 a0 71 (-1) = m107
  have hIm107 := zi_up hmm107 hIm0 hc0 zb_28_71 (by omega) (by omega)
  have hFm107 := zfr_up hmm107 hFm0 hc0 rfl
  have hRKNm107 := zR_KN_fr (zdis_fr (zfr_up hmm107 (zfr_rf [(28, 72)] _) hc0 rfl) rfl) hRKNm0
  have hRLTm107 := zR_LT_fr (zdis_fr (zfr_up hmm107 (zfr_rf [(28, 72)] _) hc0 rfl) rfl) hRLTm0
  have hRSEm107 := zR_SE_fr (zdis_fr (zfr_up hmm107 (zfr_rf [(28, 72)] _) hc0 rfl) rfl) hRSEm0
  have hM : (48 - 0) * 49 + 48 < ((2401 : Nat) : Int) := by omega
  exact (zl_160 n (m0 := m0) hc0 2401).1 0 m107 hIm107 hFm107 ⟨by omega, by omega⟩ ⟨by omega, by omega⟩ ⟨by omega, by omega⟩ ⟨by omega, by omega⟩ ⟨by omega, by omega⟩ hRKNm107 hRLTm107 hRSEm107 hM
set_option maxHeartbeats 4000000 in
theorem zl_162 (n : Nat) {a0 a1 a2 : Int} {m0 : zu_m} (hc0 : zcls a0 = 28)   : ∀ k : Nat, (∀ (x3 x4 : Int) (mh : zu_m), zi_I mh → zfr [(28, 3), (28, 54), (28, 64), (28, 65), (28, 66), (28, 67), (28, 68), (28, 69), (28, 70), (122, 0), (123, 0), (124, 0), (125, 2), (126, 0), (127, 0), (128, 0), (129, 0), (130, 0), (131, 0)] m0 mh → (1 ≤ a1 ∧ a1 ≤ 200) → (0 ≤ a2 ∧ a2 ≤ 1) → (0 ≤ x3 ∧ x3 ≤ 3) → (1 ≤ x4 ∧ x4 ≤ 4) → (1 ≤ mh a0 15 ∧ mh a0 15 ≤ 4) → (0 ≤ mh a0 2 ∧ mh a0 2 ≤ 0) → (zR_KN mh) → (zR_LT mh) → (zE1 mh 0) → (4 - x4) * 1 + 32 < (k : Int) → zw (zu_ex (zt_T n) 162 39 [(40, a0), (0, a1), (0, a2), (0, x3), (0, x4), (2, 0), (2, 0), (2, 0)] [] mh) (fun v m => zi_I m ∧ zfr [(28, 3), (28, 54), (28, 64), (28, 65), (28, 66), (28, 67), (28, 68), (28, 69), (28, 70), (122, 0), (123, 0), (124, 0), (125, 2), (126, 0), (127, 0), (128, 0), (129, 0), (130, 0), (131, 0)] m0 m ∧ zR_KN m ∧ zR_LT m ∧ zE1 m 0 ∧ ((-2147483648) ≤ v ∧ v ≤ 2147483647) ∧ (0 ≤ m a0 2 ∧ m a0 2 ≤ 0))) ∧ (∀ (x3 x4 x5 x6 : Int) (mh : zu_m), zi_I mh → zfr [(28, 3), (28, 54), (28, 64), (28, 65), (28, 66), (28, 67), (28, 68), (28, 69), (28, 70), (122, 0), (123, 0), (124, 0), (125, 2), (126, 0), (127, 0), (128, 0), (129, 0), (130, 0), (131, 0)] m0 mh → (1 ≤ a1 ∧ a1 ≤ 200) → (0 ≤ a2 ∧ a2 ≤ 1) → (0 ≤ x3 ∧ x3 ≤ 3) → (0 ≤ x4 ∧ x4 ≤ 30) → ((-2147483648) ≤ x5 ∧ x5 ≤ 2147483647) → (0 ≤ x6 ∧ x6 ≤ 31) → (1 ≤ mh a0 15 ∧ mh a0 15 ≤ 4) → (0 ≤ mh a0 2 ∧ mh a0 2 ≤ 0) → (zR_KN mh) → (zR_LT mh) → (zE1 mh 0) → (31 - x6) * 1 + 0 < (k : Int) → zw (zu_ex (zt_T n) 162 86 [(40, a0), (0, a1), (0, a2), (0, x3), (0, x4), (0, x5), (0, x6), (2, 0)] [] mh) (fun v m => zi_I m ∧ zfr [(28, 3), (28, 54), (28, 64), (28, 65), (28, 66), (28, 67), (28, 68), (28, 69), (28, 70), (122, 0), (123, 0), (124, 0), (125, 2), (126, 0), (127, 0), (128, 0), (129, 0), (130, 0), (131, 0)] m0 m ∧ zR_KN m ∧ zR_LT m ∧ zE1 m 0 ∧ ((-2147483648) ≤ v ∧ v ≤ 2147483647) ∧ (0 ≤ m a0 2 ∧ m a0 2 ≤ 0))) := by
  intro k
  induction k with
  | zero => exact ⟨fun x3 x4 mh hImh hFmh hba1 hba2 hbx3 hbx4 hg4 hg5 hRKNmh hRLTmh hRSEmh hM => by exfalso; omega, fun x3 x4 x5 x6 mh hImh hFmh hba1 hba2 hbx3 hbx4 hbx5 hbx6 hg6 hg7 hRKNmh hRLTmh hRSEmh hM => by exfalso; omega⟩
  | succ k ih =>
    refine ⟨?_, ?_⟩
    · intro x3 x4 mh hImh hFmh hba1 hba2 hbx3 hbx4 hg4 hg5 hRKNmh hRLTmh hRSEmh hM
      refine zw_eq (zu_rega_at (zt_T n) (zm_162 n) (zdp_162 n) _ _ _ _ _ _ (zr_162_39 n _ _ a0 a1 a2 x3 x4 mh)) ?_
      refine zw_ite (fun h1 => ?_) (fun h1 => ?_)
      · have hM : (31 - 0) * 1 + 0 < (k : Int) := by omega
        exact ih.2 x3 0 (-1) 0 mh hImh hFmh ⟨by omega, by omega⟩ ⟨by omega, by omega⟩ ⟨by omega, by omega⟩ ⟨by omega, by omega⟩ ⟨by omega, by omega⟩ ⟨by omega, by omega⟩ ⟨by omega, by omega⟩ ⟨by omega, by omega⟩ hRKNmh hRLTmh hRSEmh hM
      · have b2 : 0 ≤ x4 ∧ x4 < 8 := by omega
        refine zw_if b2 ?_
        have r3 : 0 ≤ (mh 202 x4) ∧ (mh 202 x4) ≤ 15 := zi_rd hImh zq_202 (zb_111 _)
        have b4 : 0 ≤ x3 ∧ x3 < 8 := by omega
        refine zw_if b4 ?_
        have r5 : 0 ≤ (mh 202 x3) ∧ (mh 202 x3) ≤ 15 := zi_rd hImh zq_202 (zb_111 _)
        refine zw_ite (fun h6 => ?_) (fun h6 => ?_)
        · have w7 := zu_w32_id (z := x4 + 1) (by omega) (by omega)
          have hM : (4 - (zu_w32 (x4 + 1))) * 1 + 32 < (k : Int) := by omega
          exact ih.1 x3 (zu_w32 (x4 + 1)) mh hImh hFmh ⟨by omega, by omega⟩ ⟨by omega, by omega⟩ ⟨by omega, by omega⟩ ⟨by omega, by omega⟩ ⟨by omega, by omega⟩ ⟨by omega, by omega⟩ hRKNmh hRLTmh hRSEmh hM
        · have w8 := zu_w32_id (z := x4 + 1) (by omega) (by omega)
          have hM : (4 - (zu_w32 (x4 + 1))) * 1 + 32 < (k : Int) := by omega
          exact ih.1 x4 (zu_w32 (x4 + 1)) mh hImh hFmh ⟨by omega, by omega⟩ ⟨by omega, by omega⟩ ⟨by omega, by omega⟩ ⟨by omega, by omega⟩ ⟨by omega, by omega⟩ ⟨by omega, by omega⟩ hRKNmh hRLTmh hRSEmh hM
    · intro x3 x4 x5 x6 mh hImh hFmh hba1 hba2 hbx3 hbx4 hbx5 hbx6 hg6 hg7 hRKNmh hRLTmh hRSEmh hM
      refine zw_eq (zu_rega_at (zt_T n) (zm_162 n) (zdp_162 n) _ _ _ _ _ _ (zr_162_86 n _ _ a0 a1 a2 x3 x4 x5 x6 mh)) ?_
      refine zw_ite (fun h9 => ?_) (fun h9 => ?_)
      · refine zw_ite (fun h10 => ?_) (fun h10 => ?_)
        · exact zw_some ⟨hImh, hFmh, hRKNmh, hRLTmh, hRSEmh, ⟨by omega, by omega⟩, ⟨by omega, by omega⟩⟩
        · exact zw_some ⟨hImh, hFmh, hRKNmh, hRLTmh, hRSEmh, ⟨by omega, by omega⟩, ⟨by omega, by omega⟩⟩
      · refine zw_bd (zw_mono (zk_126 n hImh hc0 hRSEmh) (fun v12 m11 hqm11 => ?_))
        obtain ⟨hIm11, hfm11, hvm11⟩ := hqm11
        have hFm11 := zfr_tr hFmh hfm11 rfl
        obtain ⟨hRS1m11, hRSEm11, hvm11⟩ := hvm11
        have hRKNm11 := zR_KN_fr (zdis_fr hfm11 rfl) hRKNmh
        have hRLTm11 := zR_LT_fr (zdis_fr hfm11 rfl) hRLTmh
        have w13 := zu_w32_id (z := 4 + x3) (by omega) (by omega)
        have b14 : 0 ≤ (zu_w32 (4 + x3)) ∧ (zu_w32 (4 + x3)) < 8 := by omega
        refine zw_if b14 ?_
        have r15 : (-2147483648) ≤ (m11 218 (zu_w32 (4 + x3))) ∧ (m11 218 (zu_w32 (4 + x3))) ≤ 2147483647 := zi_rd hIm11 zq_218 (zb_127 _)
        have w16 := zu_w32_rg ((m11 218 (zu_w32 (4 + x3))) + x6)
        have b17 : 0 ≤ (zu_w32 (4 + x3)) ∧ (zu_w32 (4 + x3)) < 8 := by omega
        refine zw_if b17 ?_
        generalize hmm18 : zu_up m11 218 (zu_w32 (4 + x3)) (zu_w32 ((m11 218 (zu_w32 (4 + x3))) + x6)) = m18
        have hIm18 := zi_up hmm18 hIm11 zq_218 (zb_127 _) (by omega) (by omega)
        have hFm18 := zfr_up hmm18 hFm11 zq_218 rfl
        have hRKNm18 := zR_KN_fr (zdis_fr (zfr_up hmm18 (zfr_rf [(127, 0)] _) zq_218 rfl) rfl) hRKNm11
        have hRLTm18 := zR_LT_fr (zdis_fr (zfr_up hmm18 (zfr_rf [(127, 0)] _) zq_218 rfl) rfl) hRLTm11
        have hRS1m18 := zR_S1_fr (zdis_fr (zfr_up hmm18 (zfr_rf [(127, 0)] _) zq_218 rfl) rfl) hRS1m11
        have hRSEm18 := zR_SE_fr (zdis_fr (zfr_up hmm18 (zfr_rf [(127, 0)] _) zq_218 rfl) rfl) hRSEm11
        refine zw_bd (zw_mono (zk_159 n hIm18 hc0 ⟨by omega, by omega⟩ hRKNm18 hRLTm18 hRS1m18 hRSEm18) (fun v20 m19 hqm19 => ?_))
        obtain ⟨hIm19, hfm19, hvm19⟩ := hqm19
        have hFm19 := zfr_tr hFm18 hfm19 rfl
        obtain ⟨hRKNm19, hRLTm19, hRS1m19, hRSEm19, hvm19⟩ := hvm19
        refine zw_bd (zw_mono (zk_141 n hIm19 hc0 ⟨by decide, by decide⟩) (fun v22 m21 hqm21 => ?_))
        obtain ⟨hIm21, hfm21, hvm21⟩ := hqm21
        have hFm21 := zfr_tr hFm19 hfm21 rfl
        have hRKNm21 := zR_KN_fr (zdis_fr hfm21 rfl) hRKNm19
        have hRLTm21 := zR_LT_fr (zdis_fr hfm21 rfl) hRLTm19
        have hRS1m21 := zR_S1_fr (zdis_fr hfm21 rfl) hRS1m19
        have hRSEm21 := zR_SE_fr (zdis_fr hfm21 rfl) hRSEm19
        refine zw_ite (fun h23 => ?_) (fun h23 => ?_)
        · have w24 := zu_w32_id (z := x6 + 1) (by omega) (by omega)
          have r25 : (-2147483648) ≤ (m21 a0 2) ∧ (m21 a0 2) ≤ 2147483647 := zi_rd hIm21 hc0 zb_28_2
          have e26 : (m21 a0 2) = (mh a0 2) := (Eq.trans (zfr_ap hfm21 hc0 rfl) (Eq.trans (zfr_ap hfm19 hc0 rfl) (Eq.trans (zs_ne hmm18 (Or.inl (zc_ne hc0 zq_218 (by decide)))) (zfr_ap hfm11 hc0 rfl))))
          have r27 : 0 ≤ (m21 a0 15) ∧ (m21 a0 15) ≤ 4 := zi_rd hIm21 hc0 zb_28_15
          have e28 : (m21 a0 15) = (mh a0 15) := (Eq.trans (zfr_ap hfm21 hc0 rfl) (Eq.trans (zfr_ap hfm19 hc0 rfl) (Eq.trans (zs_ne hmm18 (Or.inl (zc_ne hc0 zq_218 (by decide)))) (zfr_ap hfm11 hc0 rfl))))
          have hM : (31 - (zu_w32 (x6 + 1))) * 1 + 0 < (k : Int) := by omega
          exact zw_le (zu_forget (zu_lr_same (zu_lr_same (zu_lr_same (zu_lr_same (zu_lr_same (zu_lr_same (zu_lr_same (zu_lr_drop zu_lr_nil))))))))) (ih.2 x3 x6 v22 (zu_w32 (x6 + 1)) m21 hIm21 hFm21 ⟨by omega, by omega⟩ ⟨by omega, by omega⟩ ⟨by omega, by omega⟩ ⟨by omega, by omega⟩ ⟨by omega, by omega⟩ ⟨by omega, by omega⟩ ⟨by omega, by omega⟩ ⟨by omega, by omega⟩ hRKNm21 hRLTm21 hRSEm21 hM)
        · refine zw_ite (fun h29 => ?_) (fun h29 => ?_)
          · have w30 := zu_w32_id (z := x6 + 1) (by omega) (by omega)
            have r31 : (-2147483648) ≤ (m21 a0 2) ∧ (m21 a0 2) ≤ 2147483647 := zi_rd hIm21 hc0 zb_28_2
            have e32 : (m21 a0 2) = (mh a0 2) := (Eq.trans (zfr_ap hfm21 hc0 rfl) (Eq.trans (zfr_ap hfm19 hc0 rfl) (Eq.trans (zs_ne hmm18 (Or.inl (zc_ne hc0 zq_218 (by decide)))) (zfr_ap hfm11 hc0 rfl))))
            have r33 : 0 ≤ (m21 a0 15) ∧ (m21 a0 15) ≤ 4 := zi_rd hIm21 hc0 zb_28_15
            have e34 : (m21 a0 15) = (mh a0 15) := (Eq.trans (zfr_ap hfm21 hc0 rfl) (Eq.trans (zfr_ap hfm19 hc0 rfl) (Eq.trans (zs_ne hmm18 (Or.inl (zc_ne hc0 zq_218 (by decide)))) (zfr_ap hfm11 hc0 rfl))))
            have hM : (31 - (zu_w32 (x6 + 1))) * 1 + 0 < (k : Int) := by omega
            exact zw_le (zu_forget (zu_lr_same (zu_lr_same (zu_lr_same (zu_lr_same (zu_lr_same (zu_lr_same (zu_lr_same (zu_lr_drop zu_lr_nil))))))))) (ih.2 x3 x6 v22 (zu_w32 (x6 + 1)) m21 hIm21 hFm21 ⟨by omega, by omega⟩ ⟨by omega, by omega⟩ ⟨by omega, by omega⟩ ⟨by omega, by omega⟩ ⟨by omega, by omega⟩ ⟨by omega, by omega⟩ ⟨by omega, by omega⟩ ⟨by omega, by omega⟩ hRKNm21 hRLTm21 hRSEm21 hM)
          · have w35 := zu_w32_id (z := x6 + 1) (by omega) (by omega)
            have r36 : (-2147483648) ≤ (m21 a0 2) ∧ (m21 a0 2) ≤ 2147483647 := zi_rd hIm21 hc0 zb_28_2
            have e37 : (m21 a0 2) = (mh a0 2) := (Eq.trans (zfr_ap hfm21 hc0 rfl) (Eq.trans (zfr_ap hfm19 hc0 rfl) (Eq.trans (zs_ne hmm18 (Or.inl (zc_ne hc0 zq_218 (by decide)))) (zfr_ap hfm11 hc0 rfl))))
            have r38 : 0 ≤ (m21 a0 15) ∧ (m21 a0 15) ≤ 4 := zi_rd hIm21 hc0 zb_28_15
            have e39 : (m21 a0 15) = (mh a0 15) := (Eq.trans (zfr_ap hfm21 hc0 rfl) (Eq.trans (zfr_ap hfm19 hc0 rfl) (Eq.trans (zs_ne hmm18 (Or.inl (zc_ne hc0 zq_218 (by decide)))) (zfr_ap hfm11 hc0 rfl))))
            have hM : (31 - (zu_w32 (x6 + 1))) * 1 + 0 < (k : Int) := by omega
            exact zw_le (zu_forget (zu_lr_same (zu_lr_same (zu_lr_same (zu_lr_same (zu_lr_same (zu_lr_same (zu_lr_same (zu_lr_drop zu_lr_nil))))))))) (ih.2 x3 x4 x5 (zu_w32 (x6 + 1)) m21 hIm21 hFm21 ⟨by omega, by omega⟩ ⟨by omega, by omega⟩ ⟨by omega, by omega⟩ ⟨by omega, by omega⟩ ⟨by omega, by omega⟩ ⟨by omega, by omega⟩ ⟨by omega, by omega⟩ ⟨by omega, by omega⟩ hRKNm21 hRLTm21 hRSEm21 hM)
set_option maxHeartbeats 4000000 in
theorem zk_162 (n : Nat) {a0 a1 a2 : Int} {m0 : zu_m} (hIm0 : zi_I m0) (hc0 : zcls a0 = 28) (ha1 : (-2147483648) ≤ a1 ∧ a1 ≤ 2147483647) (ha2 : (-2147483648) ≤ a2 ∧ a2 ≤ 2147483647)    (hRKNm0 : zR_KN m0) (hRLTm0 : zR_LT m0) (hRSEm0 : zE1 m0 0) : zw (zu_call (zt_T n) 162 [(40, a0), (0, a1), (0, a2)] m0) (fun v m => zi_I m ∧ zfr [(28, 3), (28, 54), (28, 64), (28, 65), (28, 66), (28, 67), (28, 68), (28, 69), (28, 70), (122, 0), (123, 0), (124, 0), (125, 2), (126, 0), (127, 0), (128, 0), (129, 0), (130, 0), (131, 0)] m0 m ∧ zR_KN m ∧ zR_LT m ∧ zE1 m 0 ∧ ((-2147483648) ≤ v ∧ v ≤ 2147483647) ∧ (0 ≤ m a0 2 ∧ m a0 2 ≤ 0)) := by
  have hFm0 : zfr [(28, 3), (28, 54), (28, 64), (28, 65), (28, 66), (28, 67), (28, 68), (28, 69), (28, 70), (122, 0), (123, 0), (124, 0), (125, 2), (126, 0), (127, 0), (128, 0), (129, 0), (130, 0), (131, 0)] m0 m0 := zfr_rf _ _
  refine zw_eq (zu_call_at (zt_T n) (zm_162 n) (zdp_162 n) _ _ _ _ _ rfl (zr_162_0 n _ _ a0 a1 a2 m0)) ?_
  generalize hmm40 : zu_up m0 a0 2 0 = m40
  have hIm40 := zi_up hmm40 hIm0 hc0 zb_28_2 (by omega) (by omega)
  have hFm40 := zfr_up hmm40 hFm0 hc0 rfl
  have hRKNm40 := zR_KN_fr (zdis_fr (zfr_up hmm40 (zfr_rf [(28, 3)] _) hc0 rfl) rfl) hRKNm0
  have hRLTm40 := zR_LT_fr (zdis_fr (zfr_up hmm40 (zfr_rf [(28, 3)] _) hc0 rfl) rfl) hRLTm0
  have hRSEm40 := zR_SE_fr (zdis_fr (zfr_up hmm40 (zfr_rf [(28, 3)] _) hc0 rfl) rfl) hRSEm0
  refine zw_bd (zw_eq (zu_call_at (zt_T n) (zm_83 n) (zdp_83 n) _ _ _ _ _ rfl (zr_83_0 n _ _ a1 1 200 m40)) ?_)
  refine zw_ite (fun h41 => ?_) (fun h41 => ?_)
  · refine zw_b (by omega) ?_
    refine zw_some ?_
    refine zw_ite (fun h42 => ?_) (fun h42 => ?_)
    · have r43 : (-2147483648) ≤ (m40 a0 2) ∧ (m40 a0 2) ≤ 2147483647 := zi_rd hIm40 hc0 zb_28_2
      have e44 : (m40 a0 2) = 0 := (zs_eq hmm40)
      exact zw_some ⟨hIm40, hFm40, hRKNm40, hRLTm40, hRSEm40, ⟨by decide, by decide⟩, ⟨by omega, by omega⟩⟩
    · exfalso; omega
  · refine zw_ite (fun h45 => ?_) (fun h45 => ?_)
    · refine zw_b (by omega) ?_
      refine zw_some ?_
      refine zw_ite (fun h46 => ?_) (fun h46 => ?_)
      · have r47 : (-2147483648) ≤ (m40 a0 2) ∧ (m40 a0 2) ≤ 2147483647 := zi_rd hIm40 hc0 zb_28_2
        have e48 : (m40 a0 2) = 0 := (zs_eq hmm40)
        exact zw_some ⟨hIm40, hFm40, hRKNm40, hRLTm40, hRSEm40, ⟨by decide, by decide⟩, ⟨by omega, by omega⟩⟩
      · exfalso; omega
    · refine zw_b (by omega) ?_
      refine zw_some ?_
      refine zw_ite (fun h49 => ?_) (fun h49 => ?_)
      · exfalso; omega
      · refine zw_bd (zw_eq (zu_call_at (zt_T n) (zm_83 n) (zdp_83 n) _ _ _ _ _ rfl (zr_83_0 n _ _ a2 0 1 m40)) ?_)
        refine zw_ite (fun h50 => ?_) (fun h50 => ?_)
        · refine zw_b (by omega) ?_
          refine zw_some ?_
          refine zw_ite (fun h51 => ?_) (fun h51 => ?_)
          · have r52 : (-2147483648) ≤ (m40 a0 2) ∧ (m40 a0 2) ≤ 2147483647 := zi_rd hIm40 hc0 zb_28_2
            have e53 : (m40 a0 2) = 0 := (zs_eq hmm40)
            exact zw_some ⟨hIm40, hFm40, hRKNm40, hRLTm40, hRSEm40, ⟨by decide, by decide⟩, ⟨by omega, by omega⟩⟩
          · exfalso; omega
        · refine zw_ite (fun h54 => ?_) (fun h54 => ?_)
          · refine zw_b (by omega) ?_
            refine zw_some ?_
            refine zw_ite (fun h55 => ?_) (fun h55 => ?_)
            · have r56 : (-2147483648) ≤ (m40 a0 2) ∧ (m40 a0 2) ≤ 2147483647 := zi_rd hIm40 hc0 zb_28_2
              have e57 : (m40 a0 2) = 0 := (zs_eq hmm40)
              exact zw_some ⟨hIm40, hFm40, hRKNm40, hRLTm40, hRSEm40, ⟨by decide, by decide⟩, ⟨by omega, by omega⟩⟩
            · exfalso; omega
          · refine zw_b (by omega) ?_
            refine zw_some ?_
            refine zw_ite (fun h58 => ?_) (fun h58 => ?_)
            · exfalso; omega
            · have r59 : 0 ≤ (m40 a0 15) ∧ (m40 a0 15) ≤ 4 := zi_rd hIm40 hc0 zb_28_15
              refine zw_ite (fun h60 => ?_) (fun h60 => ?_)
              · have r61 : (-2147483648) ≤ (m40 a0 2) ∧ (m40 a0 2) ≤ 2147483647 := zi_rd hIm40 hc0 zb_28_2
                have e62 : (m40 a0 2) = 0 := (zs_eq hmm40)
                have hM : (4 - 1) * 1 + 32 < ((36 : Nat) : Int) := by omega
                exact (zl_162 n (m0 := m0) hc0 36).1 0 1 m40 hIm40 hFm40 ⟨by omega, by omega⟩ ⟨by omega, by omega⟩ ⟨by omega, by omega⟩ ⟨by omega, by omega⟩ ⟨by omega, by omega⟩ ⟨by omega, by omega⟩ hRKNm40 hRLTm40 hRSEm40 hM
              · have r63 : (-2147483648) ≤ (m40 a0 2) ∧ (m40 a0 2) ≤ 2147483647 := zi_rd hIm40 hc0 zb_28_2
                have e64 : (m40 a0 2) = 0 := (zs_eq hmm40)
                exact zw_some ⟨hIm40, hFm40, hRKNm40, hRLTm40, hRSEm40, ⟨by decide, by decide⟩, ⟨by omega, by omega⟩⟩

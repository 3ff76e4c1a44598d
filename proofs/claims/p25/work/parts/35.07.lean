set_option maxHeartbeats 4000000 in
theorem zl_193 (n : Nat) {a0 : Int} {m0 : zu_m} (hc0 : zcls a0 = 28)   : ∀ k : Nat, (∀ (x1 : Int) (mh : zu_m), zi_I mh → zfr [(28, 3), (28, 63), (28, 64), (28, 82), (106, 0), (107, 0), (108, 0), (124, 0), (125, 1), (126, 0), (128, 0), (129, 0), (130, 0), (131, 0)] m0 mh → (0 ≤ x1 ∧ x1 ≤ 16) → (0 ≤ mh a0 2 ∧ mh a0 2 ≤ 0) → (1 ≤ mh a0 83 ∧ mh a0 83 ≤ 1) → (zR_RI mh) → (zR_RU mh) → (zE1 mh 0) → (zR_TE mh) → (16 - x1) * 1 + 54 < (k : Int) → zw (zu_ex (zt_T n) 193 25 [(40, a0), (0, x1)] [] mh) (fun v m => zi_I m ∧ zfr [(28, 3), (28, 63), (28, 64), (28, 82), (106, 0), (107, 0), (108, 0), (124, 0), (125, 1), (126, 0), (128, 0), (129, 0), (130, 0), (131, 0)] m0 m ∧ zR_RI m ∧ zR_RU m ∧ zE1 m 0 ∧ zR_TE m ∧ ((-2147483648) ≤ v ∧ v ≤ 2147483647) ∧ (0 ≤ m a0 2 ∧ m a0 2 ≤ 0))) ∧ (∀ (x1 : Int) (mh : zu_m), zi_I mh → zfr [(28, 3), (28, 63), (28, 64), (28, 82), (106, 0), (107, 0), (108, 0), (124, 0), (125, 1), (126, 0), (128, 0), (129, 0), (130, 0), (131, 0)] m0 mh → (0 ≤ x1 ∧ x1 ≤ 4) → (0 ≤ mh a0 2 ∧ mh a0 2 ≤ 0) → (1 ≤ mh a0 83 ∧ mh a0 83 ≤ 1) → (zR_RI mh) → (zR_RU mh) → (zE1 mh 0) → (zR_TE mh) → (4 - x1) * 1 + 49 < (k : Int) → zw (zu_ex (zt_T n) 193 51 [(40, a0), (0, x1)] [] mh) (fun v m => zi_I m ∧ zfr [(28, 3), (28, 63), (28, 64), (28, 82), (106, 0), (107, 0), (108, 0), (124, 0), (125, 1), (126, 0), (128, 0), (129, 0), (130, 0), (131, 0)] m0 m ∧ zR_RI m ∧ zR_RU m ∧ zE1 m 0 ∧ zR_TE m ∧ ((-2147483648) ≤ v ∧ v ≤ 2147483647) ∧ (0 ≤ m a0 2 ∧ m a0 2 ≤ 0))) ∧ (∀ (x1 : Int) (mh : zu_m), zi_I mh → zfr [(28, 3), (28, 63), (28, 64), (28, 82), (106, 0), (107, 0), (108, 0), (124, 0), (125, 1), (126, 0), (128, 0), (129, 0), (130, 0), (131, 0)] m0 mh → (0 ≤ x1 ∧ x1 ≤ 48) → (0 ≤ mh a0 2 ∧ mh a0 2 ≤ 0) → (1 ≤ mh a0 83 ∧ mh a0 83 ≤ 1) → (zR_RI mh) → (zR_RU mh) → (zE1 mh 0) → (zR_TE mh) → (48 - x1) * 1 + 0 < (k : Int) → zw (zu_ex (zt_T n) 193 76 [(40, a0), (0, x1)] [] mh) (fun v m => zi_I m ∧ zfr [(28, 3), (28, 63), (28, 64), (28, 82), (106, 0), (107, 0), (108, 0), (124, 0), (125, 1), (126, 0), (128, 0), (129, 0), (130, 0), (131, 0)] m0 m ∧ zR_RI m ∧ zR_RU m ∧ zE1 m 0 ∧ zR_TE m ∧ ((-2147483648) ≤ v ∧ v ≤ 2147483647) ∧ (0 ≤ m a0 2 ∧ m a0 2 ≤ 0))) := by
  intro k
  induction k with
  | zero => exact ⟨fun x1 mh hImh hFmh hbx1 hg1 hg2 hRRImh hRRUmh hRSEmh hRTEmh hM => by exfalso; omega, fun x1 mh hImh hFmh hbx1 hg1 hg2 hRRImh hRRUmh hRSEmh hRTEmh hM => by exfalso; omega, fun x1 mh hImh hFmh hbx1 hg1 hg2 hRRImh hRRUmh hRSEmh hRTEmh hM => by exfalso; omega⟩
  | succ k ih =>
    refine ⟨?_, ?_, ?_⟩
    · intro x1 mh hImh hFmh hbx1 hg1 hg2 hRRImh hRRUmh hRSEmh hRTEmh hM
      refine zw_eq (zu_rega_at (zt_T n) (zm_193 n) (zdp_193 n) _ _ _ _ _ _ (zr_193_25 n _ _ a0 x1 mh)) ?_
      refine zw_ite (fun h1 => ?_) (fun h1 => ?_)
      · have hM : (4 - 0) * 1 + 49 < (k : Int) := by omega
        exact ih.2.1 0 mh hImh hFmh ⟨by omega, by omega⟩ ⟨by omega, by omega⟩ ⟨by omega, by omega⟩ hRRImh hRRUmh hRSEmh hRTEmh hM
      · have b2 : 0 ≤ x1 ∧ x1 < 16 := by omega
        refine zw_if b2 ?_
        have r3 : (-3) ≤ (mh 230 x1) ∧ (mh 230 x1) ≤ 3 := zi_rd hImh zq_230 (zb_139 _)
        have b4 : 0 ≤ x1 ∧ x1 < 36 := by omega
        refine zw_if b4 ?_
        generalize hmm5 : zu_up mh 215 x1 (mh 230 x1) = m5
        have hIm5 := zi_up hmm5 hImh zq_215 (zb_124 _) (by omega) (by omega)
        have hFm5 := zfr_up hmm5 hFmh zq_215 rfl
        have hRRIm5 := zR_RI_fr (zdis_fr (zfr_up hmm5 (zfr_rf [(124, 0)] _) zq_215 rfl) rfl) hRRImh
        have hRRUm5 := zR_RU_fr (zdis_fr (zfr_up hmm5 (zfr_rf [(124, 0)] _) zq_215 rfl) rfl) hRRUmh
        have hRSEm5 := zR_SE_fr (zdis_fr (zfr_up hmm5 (zfr_rf [(124, 0)] _) zq_215 rfl) rfl) hRSEmh
        have hRTEm5 := zR_TE_fr (zdis_fr (zfr_up hmm5 (zfr_rf [(124, 0)] _) zq_215 rfl) rfl) hRTEmh
        have w6 := zu_w32_id (z := x1 + 1) (by omega) (by omega)
        have r7 : (-2147483648) ≤ (m5 a0 2) ∧ (m5 a0 2) ≤ 2147483647 := zi_rd hIm5 hc0 zb_28_2
        have e8 : (m5 a0 2) = (mh a0 2) := (zs_ne hmm5 (Or.inl (zc_ne hc0 zq_215 (by decide))))
        have r9 : 0 ≤ (m5 a0 83) ∧ (m5 a0 83) ≤ 1 := zi_rd hIm5 hc0 zb_28_83
        have e10 : (m5 a0 83) = (mh a0 83) := (zs_ne hmm5 (Or.inl (zc_ne hc0 zq_215 (by decide))))
        have hM : (16 - (zu_w32 (x1 + 1))) * 1 + 54 < (k : Int) := by omega
        exact ih.1 (zu_w32 (x1 + 1)) m5 hIm5 hFm5 ⟨by omega, by omega⟩ ⟨by omega, by omega⟩ ⟨by omega, by omega⟩ hRRIm5 hRRUm5 hRSEm5 hRTEm5 hM
    · intro x1 mh hImh hFmh hbx1 hg1 hg2 hRRImh hRRUmh hRSEmh hRTEmh hM
      refine zw_eq (zu_rega_at (zt_T n) (zm_193 n) (zdp_193 n) _ _ _ _ _ _ (zr_193_51 n _ _ a0 x1 mh)) ?_
      refine zw_ite (fun h11 => ?_) (fun h11 => ?_)
      · have hM : (48 - 0) * 1 + 0 < (k : Int) := by omega
        exact ih.2.2 0 mh hImh hFmh ⟨by omega, by omega⟩ ⟨by omega, by omega⟩ ⟨by omega, by omega⟩ hRRImh hRRUmh hRSEmh hRTEmh hM
      · have b12 : 0 ≤ x1 ∧ x1 < 4 := by omega
        refine zw_if b12 ?_
        have r13 : (-2147483648) ≤ (mh 231 x1) ∧ (mh 231 x1) ≤ 2147483647 := zi_rd hImh zq_231 (zb_140 _)
        have b14 : 0 ≤ x1 ∧ x1 < 4 := by omega
        refine zw_if b14 ?_
        generalize hmm15 : zu_up mh 219 x1 (mh 231 x1) = m15
        have hIm15 := zi_up hmm15 hImh zq_219 (zb_128 _) (by omega) (by omega)
        have hFm15 := zfr_up hmm15 hFmh zq_219 rfl
        have hRRIm15 := zR_RI_fr (zdis_fr (zfr_up hmm15 (zfr_rf [(128, 0)] _) zq_219 rfl) rfl) hRRImh
        have hRRUm15 := zR_RU_fr (zdis_fr (zfr_up hmm15 (zfr_rf [(128, 0)] _) zq_219 rfl) rfl) hRRUmh
        have hRSEm15 := zR_SE_fr (zdis_fr (zfr_up hmm15 (zfr_rf [(128, 0)] _) zq_219 rfl) rfl) hRSEmh
        have hRTEm15 := zR_TE_fr (zdis_fr (zfr_up hmm15 (zfr_rf [(128, 0)] _) zq_219 rfl) rfl) hRTEmh
        have w16 := zu_w32_id (z := x1 + 1) (by omega) (by omega)
        have r17 : (-2147483648) ≤ (m15 a0 2) ∧ (m15 a0 2) ≤ 2147483647 := zi_rd hIm15 hc0 zb_28_2
        have e18 : (m15 a0 2) = (mh a0 2) := (zs_ne hmm15 (Or.inl (zc_ne hc0 zq_219 (by decide))))
        have r19 : 0 ≤ (m15 a0 83) ∧ (m15 a0 83) ≤ 1 := zi_rd hIm15 hc0 zb_28_83
        have e20 : (m15 a0 83) = (mh a0 83) := (zs_ne hmm15 (Or.inl (zc_ne hc0 zq_219 (by decide))))
        have hM : (4 - (zu_w32 (x1 + 1))) * 1 + 49 < (k : Int) := by omega
        exact ih.2.1 (zu_w32 (x1 + 1)) m15 hIm15 hFm15 ⟨by omega, by omega⟩ ⟨by omega, by omega⟩ ⟨by omega, by omega⟩ hRRIm15 hRRUm15 hRSEm15 hRTEm15 hM
    · intro x1 mh hImh hFmh hbx1 hg1 hg2 hRRImh hRRUmh hRSEmh hRTEmh hM
      refine zw_eq (zu_rega_at (zt_T n) (zm_193 n) (zdp_193 n) _ _ _ _ _ _ (zr_193_76 n _ _ a0 x1 mh)) ?_
      refine zw_ite (fun h21 => ?_) (fun h21 => ?_)
      · have r22 : (-9223372036854775808) ≤ (mh a0 88) ∧ (mh a0 88) ≤ 9223372036854775807 := zi_rd hImh hc0 zb_28_88
        have b23 : 0 ≤ (0 : Int) ∧ (0 : Int) < 2 := by omega
        refine zw_if b23 ?_
        generalize hmm24 : zu_up mh 220 0 (mh a0 88) = m24
        have hIm24 := zi_up hmm24 hImh zq_220 (zb_129 _) (by omega) (by omega)
        have hFm24 := zfr_up hmm24 hFmh zq_220 rfl
        have hRRIm24 := zR_RI_fr (zdis_fr (zfr_up hmm24 (zfr_rf [(129, 0)] _) zq_220 rfl) rfl) hRRImh
        have hRRUm24 := zR_RU_fr (zdis_fr (zfr_up hmm24 (zfr_rf [(129, 0)] _) zq_220 rfl) rfl) hRRUmh
        have hRSEm24 := zR_SE_fr (zdis_fr (zfr_up hmm24 (zfr_rf [(129, 0)] _) zq_220 rfl) rfl) hRSEmh
        have hRTEm24 := zR_TE_fr (zdis_fr (zfr_up hmm24 (zfr_rf [(129, 0)] _) zq_220 rfl) rfl) hRTEmh
        have r25 : (-2147483648) ≤ (m24 a0 89) ∧ (m24 a0 89) ≤ 2147483647 := zi_rd hIm24 hc0 zb_28_89
        have b26 : 0 ≤ (0 : Int) ∧ (0 : Int) < 2 := by omega
        refine zw_if b26 ?_
        generalize hmm27 : zu_up m24 221 0 (m24 a0 89) = m27
        have hIm27 := zi_up hmm27 hIm24 zq_221 (zb_130 _) (by omega) (by omega)
        have hFm27 := zfr_up hmm27 hFm24 zq_221 rfl
        have hRRIm27 := zR_RI_fr (zdis_fr (zfr_up hmm27 (zfr_rf [(130, 0)] _) zq_221 rfl) rfl) hRRIm24
        have hRRUm27 := zR_RU_fr (zdis_fr (zfr_up hmm27 (zfr_rf [(130, 0)] _) zq_221 rfl) rfl) hRRUm24
        have hRSEm27 := zR_SE_fr (zdis_fr (zfr_up hmm27 (zfr_rf [(130, 0)] _) zq_221 rfl) rfl) hRSEm24
        have hRTEm27 := zR_TE_fr (zdis_fr (zfr_up hmm27 (zfr_rf [(130, 0)] _) zq_221 rfl) rfl) hRTEm24
        have r28 : (-9223372036854775808) ≤ (m27 a0 90) ∧ (m27 a0 90) ≤ 9223372036854775807 := zi_rd hIm27 hc0 zb_28_90
        generalize hmm29 : zu_up m27 a0 63 (m27 a0 90) = m29
        have hIm29 := zi_up hmm29 hIm27 hc0 zb_28_63 (by omega) (by omega)
        have hFm29 := zfr_up hmm29 hFm27 hc0 rfl
        have hRRIm29 := zR_RI_fr (zdis_fr (zfr_up hmm29 (zfr_rf [(28, 64)] _) hc0 rfl) rfl) hRRIm27
        have hRRUm29 := zR_RU_fr (zdis_fr (zfr_up hmm29 (zfr_rf [(28, 64)] _) hc0 rfl) rfl) hRRUm27
        have hRSEm29 := zR_SE_fr (zdis_fr (zfr_up hmm29 (zfr_rf [(28, 64)] _) hc0 rfl) rfl) hRSEm27
        have hRTEm29 := zR_TE_fr (zdis_fr (zfr_up hmm29 (zfr_rf [(28, 64)] _) hc0 rfl) rfl) hRTEm27
        generalize hmm30 : zu_up m29 a0 81 0 = m30
        have hIm30 := zi_up hmm30 hIm29 hc0 zb_28_81 (by omega) (by omega)
        have hFm30 := zfr_up hmm30 hFm29 hc0 rfl
        have hRRIm30 := zR_RI_fr (zdis_fr (zfr_up hmm30 (zfr_rf [(28, 82)] _) hc0 rfl) rfl) hRRIm29
        have hRSEm30 := zR_SE_fr (zdis_fr (zfr_up hmm30 (zfr_rf [(28, 82)] _) hc0 rfl) rfl) hRSEm29
        have hRTEm30 := zR_TE_fr (zdis_fr (zfr_up hmm30 (zfr_rf [(28, 82)] _) hc0 rfl) rfl) hRTEm29
        have hRRUm30 := zRU_zero (m := m30) (zone_190 hc0) (by rw [zs_eq hmm30]; decide)
        have b31 : 0 ≤ (0 : Int) ∧ (0 : Int) < 2 := by omega
        refine zw_if b31 ?_
        have r32 : (-2147483648) ≤ (m30 221 0) ∧ (m30 221 0) ≤ 2147483647 := zi_rd hIm30 zq_221 (zb_130 _)
        have e33 : (m30 221 0) = (m24 a0 89) := (Eq.trans (zs_ne hmm30 (Or.inl (zc_ne zq_221 hc0 (by decide)))) (Eq.trans (zs_ne hmm29 (Or.inl (zc_ne zq_221 hc0 (by decide)))) (zs_eq hmm27)))
        have r34 : (-2147483648) ≤ (m30 a0 2) ∧ (m30 a0 2) ≤ 2147483647 := zi_rd hIm30 hc0 zb_28_2
        have e35 : (m30 a0 2) = (mh a0 2) := (Eq.trans (zs_ne hmm30 (Or.inr (by decide))) (Eq.trans (zs_ne hmm29 (Or.inr (by decide))) (Eq.trans (zs_ne hmm27 (Or.inl (zc_ne hc0 zq_221 (by decide)))) (zs_ne hmm24 (Or.inl (zc_ne hc0 zq_220 (by decide)))))))
        exact zw_some ⟨hIm30, hFm30, hRRIm30, hRRUm30, hRSEm30, hRTEm30, ⟨by omega, by omega⟩, ⟨by omega, by omega⟩⟩
      · have b36 : 0 ≤ x1 ∧ x1 < 48 := by omega
        refine zw_if b36 ?_
        have r37 : (-2147483648) ≤ (mh 232 x1) ∧ (mh 232 x1) ≤ 2147483647 := zi_rd hImh zq_232 (zb_141 _)
        have b38 : 0 ≤ x1 ∧ x1 < 48 := by omega
        refine zw_if b38 ?_
        generalize hmm39 : zu_up mh 222 x1 (mh 232 x1) = m39
        have hIm39 := zi_up hmm39 hImh zq_222 (zb_131 _) (by omega) (by omega)
        have hFm39 := zfr_up hmm39 hFmh zq_222 rfl
        have hRRIm39 := zR_RI_fr (zdis_fr (zfr_up hmm39 (zfr_rf [(131, 0)] _) zq_222 rfl) rfl) hRRImh
        have hRRUm39 := zR_RU_fr (zdis_fr (zfr_up hmm39 (zfr_rf [(131, 0)] _) zq_222 rfl) rfl) hRRUmh
        have hRSEm39 := zR_SE_fr (zdis_fr (zfr_up hmm39 (zfr_rf [(131, 0)] _) zq_222 rfl) rfl) hRSEmh
        have hRTEm39 := zR_TE_fr (zdis_fr (zfr_up hmm39 (zfr_rf [(131, 0)] _) zq_222 rfl) rfl) hRTEmh
        have w40 := zu_w32_id (z := x1 + 1) (by omega) (by omega)
        have r41 : (-2147483648) ≤ (m39 a0 2) ∧ (m39 a0 2) ≤ 2147483647 := zi_rd hIm39 hc0 zb_28_2
        have e42 : (m39 a0 2) = (mh a0 2) := (zs_ne hmm39 (Or.inl (zc_ne hc0 zq_222 (by decide))))
        have r43 : 0 ≤ (m39 a0 83) ∧ (m39 a0 83) ≤ 1 := zi_rd hIm39 hc0 zb_28_83
        have e44 : (m39 a0 83) = (mh a0 83) := (zs_ne hmm39 (Or.inl (zc_ne hc0 zq_222 (by decide))))
        have hM : (48 - (zu_w32 (x1 + 1))) * 1 + 0 < (k : Int) := by omega
        exact ih.2.2 (zu_w32 (x1 + 1)) m39 hIm39 hFm39 ⟨by omega, by omega⟩ ⟨by omega, by omega⟩ ⟨by omega, by omega⟩ hRRIm39 hRRUm39 hRSEm39 hRTEm39 hM
set_option maxHeartbeats 4000000 in
theorem zk_193 (n : Nat) {a0 : Int} {m0 : zu_m} (hIm0 : zi_I m0) (hc0 : zcls a0 = 28)     (hRRIm0 : zR_RI m0) (hRRUm0 : zR_RU m0) (hRSEm0 : zE1 m0 0) (hRTEm0 : zR_TE m0) : zw (zu_call (zt_T n) 193 [(40, a0)] m0) (fun v m => zi_I m ∧ zfr [(28, 3), (28, 63), (28, 64), (28, 82), (106, 0), (107, 0), (108, 0), (124, 0), (125, 1), (126, 0), (128, 0), (129, 0), (130, 0), (131, 0)] m0 m ∧ zR_RI m ∧ zR_RU m ∧ zE1 m 0 ∧ zR_TE m ∧ ((-2147483648) ≤ v ∧ v ≤ 2147483647) ∧ (0 ≤ m a0 2 ∧ m a0 2 ≤ 0)) := by
  have hFm0 : zfr [(28, 3), (28, 63), (28, 64), (28, 82), (106, 0), (107, 0), (108, 0), (124, 0), (125, 1), (126, 0), (128, 0), (129, 0), (130, 0), (131, 0)] m0 m0 := zfr_rf _ _
  refine zw_eq (zu_call_at (zt_T n) (zm_193 n) (zdp_193 n) _ _ _ _ _ rfl (zr_193_0 n _ _ a0 m0)) ?_
  generalize hmm45 : zu_up m0 a0 2 0 = m45
  have hIm45 := zi_up hmm45 hIm0 hc0 zb_28_2 (by omega) (by omega)
  have hFm45 := zfr_up hmm45 hFm0 hc0 rfl
  have hRRIm45 := zR_RI_fr (zdis_fr (zfr_up hmm45 (zfr_rf [(28, 3)] _) hc0 rfl) rfl) hRRIm0
  have hRRUm45 := zR_RU_fr (zdis_fr (zfr_up hmm45 (zfr_rf [(28, 3)] _) hc0 rfl) rfl) hRRUm0
  have hRSEm45 := zR_SE_fr (zdis_fr (zfr_up hmm45 (zfr_rf [(28, 3)] _) hc0 rfl) rfl) hRSEm0
  have hRTEm45 := zR_TE_fr (zdis_fr (zfr_up hmm45 (zfr_rf [(28, 3)] _) hc0 rfl) rfl) hRTEm0
  have r46 : 0 ≤ (m45 a0 83) ∧ (m45 a0 83) ≤ 1 := zi_rd hIm45 hc0 zb_28_83
  refine zw_ite (fun h47 => ?_) (fun h47 => ?_)
  · have hrow := zRI_ap hRRIm45 (zone_190 hc0) (by omega)
    refine zw_bd (zw_mono (zk_189_28_138 n hIm45 hc0 zq_229 ⟨by omega, by omega⟩ (by omega) (zrow_i hrow (by omega)) hRSEm45) (fun v49 m48 hqm48 => ?_))
    obtain ⟨hIm48, hfm48, hvm48⟩ := hqm48
    have hFm48 := zfr_tr hFm45 hfm48 rfl
    obtain ⟨hRSEm48, hRTEm48, hvm48⟩ := hvm48
    have hRRIm48 := zR_RI_fr (zdis_fr hfm48 rfl) hRRIm45
    have hRRUm48 := zR_RU_fr (zdis_fr hfm48 rfl) hRRUm45
    have r50 : (-2147483648) ≤ (m48 a0 2) ∧ (m48 a0 2) ≤ 2147483647 := zi_rd hIm48 hc0 zb_28_2
    have e51 : (m48 a0 2) = 0 := (Eq.trans (zfr_ap hfm48 hc0 rfl) (zs_eq hmm45))
    have r52 : 0 ≤ (m48 a0 83) ∧ (m48 a0 83) ≤ 1 := zi_rd hIm48 hc0 zb_28_83
    have e53 : (m48 a0 83) = (m45 a0 83) := (zfr_ap hfm48 hc0 rfl)
    have hM : (16 - 0) * 1 + 54 < ((71 : Nat) : Int) := by omega
    exact (zl_193 n (m0 := m0) hc0 71).1 0 m48 hIm48 hFm48 ⟨by omega, by omega⟩ ⟨by omega, by omega⟩ ⟨by omega, by omega⟩ hRRIm48 hRRUm48 hRSEm48 hRTEm48 hM
  · have r54 : (-2147483648) ≤ (m45 a0 2) ∧ (m45 a0 2) ≤ 2147483647 := zi_rd hIm45 hc0 zb_28_2
    have e55 : (m45 a0 2) = 0 := (zs_eq hmm45)
    exact zw_some ⟨hIm45, hFm45, hRRIm45, hRRUm45, hRSEm45, hRTEm45, ⟨by omega, by omega⟩, ⟨by omega, by omega⟩⟩
set_option maxHeartbeats 4000000 in
theorem zl_206 (n : Nat) {a0 a1 : Int} {m0 : zu_m} (hc0 : zcls a0 = 10)  (hxp0 : 1 ≤ a1) : ∀ k : Nat, (∀ (mh : zu_m), zi_I mh → zfr [(5, 7), (10, 4), (33, 0), (34, 0)] m0 mh → (1 ≤ a1 ∧ a1 ≤ 6) → (zop mh = zop m0) → (zR_BN mh) → (zR_K10 mh) → (mh a0 3) * 1 + 0 < (k : Int) → zw (zu_ex (zt_T n) 206 0 [(24, a0), (0, a1)] [] mh) (fun v m => zi_I m ∧ zfr [(5, 7), (10, 4), (33, 0), (34, 0)] m0 m ∧ zR_BN m ∧ zR_K10 m ∧ True ∧ (zop m = zop m0))) := by
  intro k
  induction k with
  | zero => exact fun mh hImh hFmh hba1 hH0 hRBNmh hRK10mh hM => by have zq0 := zi_rd hImh hc0 zb_10_3; exfalso; omega
  | succ k ih =>
    intro mh hImh hFmh hba1 hH0 hRBNmh hRK10mh hM
    refine zw_eq (zu_rega_at (zt_T n) (zm_206 n) (zdp_206 n) _ _ _ _ _ _ (zr_206_0 n _ _ a0 a1 mh)) ?_
    have r1 : 0 ≤ (mh a0 3) ∧ (mh a0 3) ≤ 72 := zi_rd hImh hc0 zb_10_3
    have g2 := zop_bd hImh hc0
    refine zw_ite (fun h3 => ?_) (fun h3 => ?_)
    · exact zw_some ⟨hImh, hFmh, hRBNmh, hRK10mh, trivial, by omega⟩
    · have w4 := zu_w32_id (z := (mh a0 3) - 1) (by omega) (by omega)
      have b5 : 0 ≤ (zu_w32 ((mh a0 3) - 1)) ∧ (zu_w32 ((mh a0 3) - 1)) < 72 := by omega
      refine zw_if b5 ?_
      have r6 : 0 ≤ (mh 48 (zu_w32 ((mh a0 3) - 1))) ∧ (mh 48 (zu_w32 ((mh a0 3) - 1))) ≤ 17 := zi_rd hImh zq_48 (zb_47 _)
      have s7 : (mh 48 (zu_w32 ((mh a0 3) - 1))) = 1 → mh 2 (mh 48 (zu_w32 ((mh a0 3) - 1))) = 0 := fun e => by rw [e]; exact hRBNmh.1
      have b8 : 0 ≤ (mh 48 (zu_w32 ((mh a0 3) - 1))) ∧ (mh 48 (zu_w32 ((mh a0 3) - 1))) < 18 := by omega
      refine zw_if b8 ?_
      have r9 : 0 ≤ (mh 2 (mh 48 (zu_w32 ((mh a0 3) - 1)))) ∧ (mh 2 (mh 48 (zu_w32 ((mh a0 3) - 1)))) ≤ 6 := zi_rd hImh zq_2 (zb_1 _)
      refine zw_ite (fun h10 => ?_) (fun h10 => ?_)
      · exact zw_some ⟨hImh, hFmh, hRBNmh, hRK10mh, trivial, by omega⟩
      · generalize hmm11 : zu_up mh a0 3 (zu_w32 ((mh a0 3) - 1)) = m11
        have hIm11 := zi_up hmm11 hImh hc0 zb_10_3 (by omega) (by omega)
        have hFm11 := zfr_up hmm11 hFmh hc0 rfl
        have hRBNm11 := zR_BN_fr (zdis_fr (zfr_up hmm11 (zfr_rf [(10, 4)] _) hc0 rfl) rfl) hRBNmh
        have hRK10m11 := zR_K10_fr (zdis_fr (zfr_up hmm11 (zfr_rf [(10, 4)] _) hc0 rfl) rfl) hRK10mh
        have g12 := zop_pop hmm11 hc0 (by omega) (by omega)
        have g13 := zop_bd hIm11 hc0
        have r14 : 0 ≤ (m11 a0 3) ∧ (m11 a0 3) ≤ 72 := zi_rd hIm11 hc0 zb_10_3
        have e15 : (m11 a0 3) = (zu_w32 ((mh a0 3) - 1)) := (zs_eq hmm11)
        have b16 : 0 ≤ (m11 a0 3) ∧ (m11 a0 3) < 72 := by omega
        refine zw_if b16 ?_
        have r17 : 0 ≤ (m11 48 (m11 a0 3)) ∧ (m11 48 (m11 a0 3)) ≤ 17 := zi_rd hIm11 zq_48 (zb_47 _)
        refine zw_bd (zw_mono (zk_207 n hIm11 zq_10 ⟨by omega, by omega⟩ ⟨by omega, by omega⟩ (by omega) hRK10m11) (fun v19 m18 hqm18 => ?_))
        obtain ⟨hIm18, hfm18, hvm18⟩ := hqm18
        have hFm18 := zfr_tr hFm11 hfm18 rfl
        obtain ⟨hRK10m18, hvm18⟩ := hvm18
        have g20 := zop_fr (zdis_fr hfm18 rfl)
        have hRBNm18 := zR_BN_fr (zdis_fr hfm18 rfl) hRBNm11
        have g21 := zop_bd hIm18 hc0
        have r22 : 0 ≤ (m18 a0 3) ∧ (m18 a0 3) ≤ 72 := zi_rd hIm18 hc0 zb_10_3
        have e23 : (m18 a0 3) = (m11 a0 3) := (zfr_ap hfm18 hc0 rfl)
        have hM : (m18 a0 3) * 1 + 0 < (k : Int) := by omega
        exact ih  m18 hIm18 hFm18 ⟨by omega, by omega⟩ (by omega) hRBNm18 hRK10m18 hM
set_option maxHeartbeats 4000000 in
theorem zk_206 (n : Nat) {a0 a1 : Int} {m0 : zu_m} (hIm0 : zi_I m0) (hc0 : zcls a0 = 10) (ha1 : 1 ≤ a1 ∧ a1 ≤ 6)   (hxp0 : 1 ≤ a1) (hRBNm0 : zR_BN m0) (hRK10m0 : zR_K10 m0) : zw (zu_call (zt_T n) 206 [(24, a0), (0, a1)] m0) (fun v m => zi_I m ∧ zfr [(5, 7), (10, 4), (33, 0), (34, 0)] m0 m ∧ zR_BN m ∧ zR_K10 m ∧ True ∧ (zop m = zop m0)) := by
  have hFm0 : zfr [(5, 7), (10, 4), (33, 0), (34, 0)] m0 m0 := zfr_rf _ _
  have g24 := zop_bd hIm0 hc0
  show zw (zu_ex (zt_T n) 206 0 [(24, a0), (0, a1)] [] m0) _
  have r25 : 0 ≤ (m0 a0 3) ∧ (m0 a0 3) ≤ 72 := zi_rd hIm0 hc0 zb_10_3
  have hM : (m0 a0 3) * 1 + 0 < ((73 : Nat) : Int) := by omega
  exact (zl_206 n (m0 := m0) hc0 hxp0 73)  m0 hIm0 hFm0 ⟨by omega, by omega⟩ (by omega) hRBNm0 hRK10m0 hM
set_option maxHeartbeats 4000000 in
theorem zl_220_16 (n : Nat) {a0 a1 : Int} {m0 : zu_m} (hc0 : zcls a0 = 16)   : ∀ k : Nat, (∀ (x2 x3 x4 : Int) (mh : zu_m), zi_I mh → zfr [] m0 mh → (0 ≤ a1 ∧ a1 ≤ 3) → ((-1) ≤ x2 ∧ x2 ≤ 47) → (0 ≤ x3 ∧ x3 ≤ 1000000) → (0 ≤ x4 ∧ x4 ≤ 48) → (x2 < (mh 50 2)) → (48 - x4) * 1 + 0 < (k : Int) → zw (zu_ex (zt_T n) 220 8 [(27, a0), (0, a1), (0, x2), (0, x3), (0, x4), (2, 0)] [] mh) (fun v m => zi_I m ∧ zfr [] m0 m ∧ ((-1) ≤ v ∧ v ≤ 47) ∧ (v < (m 50 2)))) := by
  intro k
  induction k with
  | zero => exact fun x2 x3 x4 mh hImh hFmh hba1 hbx2 hbx3 hbx4 hH0 hM => by exfalso; omega
  | succ k ih =>
    intro x2 x3 x4 mh hImh hFmh hba1 hbx2 hbx3 hbx4 hH0 hM
    refine zw_eq (zu_rega_at (zt_T n) (zm_220 n) (zdp_220 n) _ _ _ _ _ _ (zr_220_8 n _ _ a0 a1 x2 x3 x4 mh)) ?_
    have r1 : 1 ≤ (mh 50 2) ∧ (mh 50 2) ≤ 48 := zi_rd hImh zq_50 zb_11_2
    refine zw_ite (fun h2 => ?_) (fun h2 => ?_)
    · exact zw_some ⟨hImh, hFmh, ⟨by omega, by omega⟩, by omega⟩
    · have b3 : 0 ≤ x4 ∧ x4 < 48 := by omega
      refine zw_if b3 ?_
      have r4 : 0 ≤ (mh (a0 + 3) x4) ∧ (mh (a0 + 3) x4) ≤ 1 := zi_rd hImh (zc_16_5 hc0) (zb_67 _)
      refine zw_ite (fun h5 => ?_) (fun h5 => ?_)
      · have w6 := zu_w32_id (z := x4 + 1) (by omega) (by omega)
        have hM : (48 - (zu_w32 (x4 + 1))) * 1 + 0 < (k : Int) := by omega
        exact ih x2 x3 (zu_w32 (x4 + 1)) mh hImh hFmh ⟨by omega, by omega⟩ ⟨by omega, by omega⟩ ⟨by omega, by omega⟩ ⟨by omega, by omega⟩ (by omega) hM
      · refine zw_bd (zw_mono (zk_218_16 n hImh hc0 ⟨by omega, by omega⟩ ⟨by omega, by omega⟩) (fun v8 m7 hqm7 => ?_))
        obtain ⟨hIm7, hfm7, hvm7⟩ := hqm7
        have hFm7 := zfr_tr hFmh hfm7 rfl
        refine zw_ite (fun h9 => ?_) (fun h9 => ?_)
        · have w10 := zu_w32_id (z := x4 + 1) (by omega) (by omega)
          have r11 : 1 ≤ (m7 50 2) ∧ (m7 50 2) ≤ 48 := zi_rd hIm7 zq_50 zb_11_2
          have e12 : (m7 50 2) = (mh 50 2) := (zfr_ap hfm7 zq_50 rfl)
          have hM : (48 - (zu_w32 (x4 + 1))) * 1 + 0 < (k : Int) := by omega
          exact ih x2 x3 (zu_w32 (x4 + 1)) m7 hIm7 hFm7 ⟨by omega, by omega⟩ ⟨by omega, by omega⟩ ⟨by omega, by omega⟩ ⟨by omega, by omega⟩ (by omega) hM
        · have b13 : 0 ≤ a1 ∧ a1 < 4 := by omega
          refine zw_if b13 ?_
          have r14 : 0 ≤ (m7 ((a0 + 2) + 20 + a1) 1) ∧ (m7 ((a0 + 2) + 20 + a1) 1) ≤ 47 := zi_rd hIm7 (zc_66_e (zc_16_3 hc0) b13) zb_18_1
          refine zw_bd (zw_mono (zk_245 n hIm7 zq_50 ⟨by omega, by omega⟩ ⟨by omega, by omega⟩) (fun v16 m15 hqm15 => ?_))
          obtain ⟨hIm15, hfm15, hvm15⟩ := hqm15
          have hFm15 := zfr_tr hFm7 hfm15 rfl
          refine zw_ite (fun h17 => ?_) (fun h17 => ?_)
          · have w18 := zu_w32_id (z := x4 + 1) (by omega) (by omega)
            have r19 : 1 ≤ (m15 50 2) ∧ (m15 50 2) ≤ 48 := zi_rd hIm15 zq_50 zb_11_2
            have e20 : (m15 50 2) = (mh 50 2) := (Eq.trans (zfr_ap hfm15 zq_50 rfl) (zfr_ap hfm7 zq_50 rfl))
            have hM : (48 - (zu_w32 (x4 + 1))) * 1 + 0 < (k : Int) := by omega
            exact zw_le (zu_forget (zu_lr_same (zu_lr_same (zu_lr_same (zu_lr_same (zu_lr_same (zu_lr_drop zu_lr_nil))))))) (ih x2 x3 (zu_w32 (x4 + 1)) m15 hIm15 hFm15 ⟨by omega, by omega⟩ ⟨by omega, by omega⟩ ⟨by omega, by omega⟩ ⟨by omega, by omega⟩ (by omega) hM)
          · have w21 := zu_w32_id (z := x4 + 1) (by omega) (by omega)
            have r22 : 1 ≤ (m15 50 2) ∧ (m15 50 2) ≤ 48 := zi_rd hIm15 zq_50 zb_11_2
            have e23 : (m15 50 2) = (mh 50 2) := (Eq.trans (zfr_ap hfm15 zq_50 rfl) (zfr_ap hfm7 zq_50 rfl))
            have hM : (48 - (zu_w32 (x4 + 1))) * 1 + 0 < (k : Int) := by omega
            exact zw_le (zu_forget (zu_lr_same (zu_lr_same (zu_lr_same (zu_lr_same (zu_lr_same (zu_lr_drop zu_lr_nil))))))) (ih x4 v16 (zu_w32 (x4 + 1)) m15 hIm15 hFm15 ⟨by omega, by omega⟩ ⟨by omega, by omega⟩ ⟨by omega, by omega⟩ ⟨by omega, by omega⟩ (by omega) hM)
set_option maxHeartbeats 4000000 in
theorem zk_220_16 (n : Nat) {a0 a1 : Int} {m0 : zu_m} (hIm0 : zi_I m0) (hc0 : zcls a0 = 16) (ha1 : 0 ≤ a1 ∧ a1 ≤ 3)     : zw (zu_call (zt_T n) 220 [(27, a0), (0, a1)] m0) (fun v m => zi_I m ∧ zfr [] m0 m ∧ ((-1) ≤ v ∧ v ≤ 47) ∧ (v < (m 50 2))) := by
  have hFm0 : zfr [] m0 m0 := zfr_rf _ _
  refine zw_eq (zu_call_at (zt_T n) (zm_220 n) (zdp_220 n) _ _ _ _ _ rfl (zr_220_0 n _ _ a0 a1 m0)) ?_
  have r24 : 1 ≤ (m0 50 2) ∧ (m0 50 2) ≤ 48 := zi_rd hIm0 zq_50 zb_11_2
  have hM : (48 - 0) * 1 + 0 < ((49 : Nat) : Int) := by omega
  exact (zl_220_16 n (m0 := m0) hc0 49) (-1) 1000000 0 m0 hIm0 hFm0 ⟨by omega, by omega⟩ ⟨by omega, by omega⟩ ⟨by omega, by omega⟩ ⟨by omega, by omega⟩ (by omega) hM
set_option maxHeartbeats 4000000 in
theorem zl_220_25 (n : Nat) {a0 a1 : Int} {m0 : zu_m} (hc0 : zcls a0 = 25)   : ∀ k : Nat, (∀ (x2 x3 x4 : Int) (mh : zu_m), zi_I mh → zfr [] m0 mh → (0 ≤ a1 ∧ a1 ≤ 3) → ((-1) ≤ x2 ∧ x2 ≤ 47) → (0 ≤ x3 ∧ x3 ≤ 1000000) → (0 ≤ x4 ∧ x4 ≤ 48) → (x2 < (mh 50 2)) → (48 - x4) * 1 + 0 < (k : Int) → zw (zu_ex (zt_T n) 220 8 [(27, a0), (0, a1), (0, x2), (0, x3), (0, x4), (2, 0)] [] mh) (fun v m => zi_I m ∧ zfr [] m0 m ∧ ((-1) ≤ v ∧ v ≤ 47) ∧ (v < (m 50 2)))) := by
  intro k
  induction k with
  | zero => exact fun x2 x3 x4 mh hImh hFmh hba1 hbx2 hbx3 hbx4 hH0 hM => by exfalso; omega
  | succ k ih =>
    intro x2 x3 x4 mh hImh hFmh hba1 hbx2 hbx3 hbx4 hH0 hM
    refine zw_eq (zu_rega_at (zt_T n) (zm_220 n) (zdp_220 n) _ _ _ _ _ _ (zr_220_8 n _ _ a0 a1 x2 x3 x4 mh)) ?_
    have r1 : 1 ≤ (mh 50 2) ∧ (mh 50 2) ≤ 48 := zi_rd hImh zq_50 zb_11_2
    refine zw_ite (fun h2 => ?_) (fun h2 => ?_)
    · exact zw_some ⟨hImh, hFmh, ⟨by omega, by omega⟩, by omega⟩
    · have b3 : 0 ≤ x4 ∧ x4 < 48 := by omega
      refine zw_if b3 ?_
      have r4 : 0 ≤ (mh (a0 + 3) x4) ∧ (mh (a0 + 3) x4) ≤ 1 := zi_rd hImh (zc_25_5 hc0) (zb_97 _)
      refine zw_ite (fun h5 => ?_) (fun h5 => ?_)
      · have w6 := zu_w32_id (z := x4 + 1) (by omega) (by omega)
        have hM : (48 - (zu_w32 (x4 + 1))) * 1 + 0 < (k : Int) := by omega
        exact ih x2 x3 (zu_w32 (x4 + 1)) mh hImh hFmh ⟨by omega, by omega⟩ ⟨by omega, by omega⟩ ⟨by omega, by omega⟩ ⟨by omega, by omega⟩ (by omega) hM
      · refine zw_bd (zw_mono (zk_218_25 n hImh hc0 ⟨by omega, by omega⟩ ⟨by omega, by omega⟩) (fun v8 m7 hqm7 => ?_))
        obtain ⟨hIm7, hfm7, hvm7⟩ := hqm7
        have hFm7 := zfr_tr hFmh hfm7 rfl
        refine zw_ite (fun h9 => ?_) (fun h9 => ?_)
        · have w10 := zu_w32_id (z := x4 + 1) (by omega) (by omega)
          have r11 : 1 ≤ (m7 50 2) ∧ (m7 50 2) ≤ 48 := zi_rd hIm7 zq_50 zb_11_2
          have e12 : (m7 50 2) = (mh 50 2) := (zfr_ap hfm7 zq_50 rfl)
          have hM : (48 - (zu_w32 (x4 + 1))) * 1 + 0 < (k : Int) := by omega
          exact ih x2 x3 (zu_w32 (x4 + 1)) m7 hIm7 hFm7 ⟨by omega, by omega⟩ ⟨by omega, by omega⟩ ⟨by omega, by omega⟩ ⟨by omega, by omega⟩ (by omega) hM
        · have b13 : 0 ≤ a1 ∧ a1 < 4 := by omega
          refine zw_if b13 ?_
          have r14 : 0 ≤ (m7 ((a0 + 2) + 20 + a1) 1) ∧ (m7 ((a0 + 2) + 20 + a1) 1) ≤ 47 := zi_rd hIm7 (zc_96_e (zc_25_3 hc0) b13) zb_27_1
          refine zw_bd (zw_mono (zk_245 n hIm7 zq_50 ⟨by omega, by omega⟩ ⟨by omega, by omega⟩) (fun v16 m15 hqm15 => ?_))
          obtain ⟨hIm15, hfm15, hvm15⟩ := hqm15
          have hFm15 := zfr_tr hFm7 hfm15 rfl
          refine zw_ite (fun h17 => ?_) (fun h17 => ?_)
          · have w18 := zu_w32_id (z := x4 + 1) (by omega) (by omega)
            have r19 : 1 ≤ (m15 50 2) ∧ (m15 50 2) ≤ 48 := zi_rd hIm15 zq_50 zb_11_2
            have e20 : (m15 50 2) = (mh 50 2) := (Eq.trans (zfr_ap hfm15 zq_50 rfl) (zfr_ap hfm7 zq_50 rfl))
            have hM : (48 - (zu_w32 (x4 + 1))) * 1 + 0 < (k : Int) := by omega
            exact zw_le (zu_forget (zu_lr_same (zu_lr_same (zu_lr_same (zu_lr_same (zu_lr_same (zu_lr_drop zu_lr_nil))))))) (ih x2 x3 (zu_w32 (x4 + 1)) m15 hIm15 hFm15 ⟨by omega, by omega⟩ ⟨by omega, by omega⟩ ⟨by omega, by omega⟩ ⟨by omega, by omega⟩ (by omega) hM)
          · have w21 := zu_w32_id (z := x4 + 1) (by omega) (by omega)
            have r22 : 1 ≤ (m15 50 2) ∧ (m15 50 2) ≤ 48 := zi_rd hIm15 zq_50 zb_11_2
            have e23 : (m15 50 2) = (mh 50 2) := (Eq.trans (zfr_ap hfm15 zq_50 rfl) (zfr_ap hfm7 zq_50 rfl))
            have hM : (48 - (zu_w32 (x4 + 1))) * 1 + 0 < (k : Int) := by omega
            exact zw_le (zu_forget (zu_lr_same (zu_lr_same (zu_lr_same (zu_lr_same (zu_lr_same (zu_lr_drop zu_lr_nil))))))) (ih x4 v16 (zu_w32 (x4 + 1)) m15 hIm15 hFm15 ⟨by omega, by omega⟩ ⟨by omega, by omega⟩ ⟨by omega, by omega⟩ ⟨by omega, by omega⟩ (by omega) hM)
set_option maxHeartbeats 4000000 in
theorem zk_220_25 (n : Nat) {a0 a1 : Int} {m0 : zu_m} (hIm0 : zi_I m0) (hc0 : zcls a0 = 25) (ha1 : 0 ≤ a1 ∧ a1 ≤ 3)     : zw (zu_call (zt_T n) 220 [(27, a0), (0, a1)] m0) (fun v m => zi_I m ∧ zfr [] m0 m ∧ ((-1) ≤ v ∧ v ≤ 47) ∧ (v < (m 50 2))) := by
  have hFm0 : zfr [] m0 m0 := zfr_rf _ _
  refine zw_eq (zu_call_at (zt_T n) (zm_220 n) (zdp_220 n) _ _ _ _ _ rfl (zr_220_0 n _ _ a0 a1 m0)) ?_
  have r24 : 1 ≤ (m0 50 2) ∧ (m0 50 2) ≤ 48 := zi_rd hIm0 zq_50 zb_11_2
  have hM : (48 - 0) * 1 + 0 < ((49 : Nat) : Int) := by omega
  exact (zl_220_25 n (m0 := m0) hc0 49) (-1) 1000000 0 m0 hIm0 hFm0 ⟨by omega, by omega⟩ ⟨by omega, by omega⟩ ⟨by omega, by omega⟩ ⟨by omega, by omega⟩ (by omega) hM
set_option maxHeartbeats 4000000 in
theorem zl_221_16 (n : Nat) {a0 : Int} {m0 : zu_m} (hc0 : zcls a0 = 16)   : ∀ k : Nat, (∀ (x1 x2 : Int) (mh : zu_m), zi_I mh → zfr [(16, 10), (17, 4)] m0 mh → ((-47) ≤ x1 ∧ x1 ≤ 47) → (0 ≤ x2 ∧ x2 ≤ 16) → (1 ≤ mh 50 4 ∧ mh 50 4 ≤ 99) → (1 ≤ mh a0 8 ∧ mh a0 8 ≤ 9999) → (16 - x2) * 1 + 0 < (k : Int) → zw (zu_ex (zt_T n) 221 58 [(27, a0), (0, x1), (0, x2)] [] mh) (fun v m => zi_I m ∧ zfr [(16, 10), (17, 4)] m0 m ∧ True)) := by
  intro k
  induction k with
  | zero => exact fun x1 x2 mh hImh hFmh hbx1 hbx2 hg2 hg3 hM => by exfalso; omega
  | succ k ih =>
    intro x1 x2 mh hImh hFmh hbx1 hbx2 hg2 hg3 hM
    refine zw_eq (zu_rega_at (zt_T n) (zm_221 n) (zdp_221 n) _ _ _ _ _ _ (zr_221_58 n _ _ a0 x1 x2 mh)) ?_
    have r1 : 0 ≤ (mh a0 2) ∧ (mh a0 2) ≤ 16 := zi_rd hImh hc0 zb_16_2
    refine zw_ite (fun h2 => ?_) (fun h2 => ?_)
    · exact zw_some ⟨hImh, hFmh, trivial⟩
    · have b3 : 0 ≤ x2 ∧ x2 < 16 := by omega
      refine zw_if b3 ?_
      have r4 : (-3) ≤ (mh ((a0 + 1) + 5 + x2) 3) ∧ (mh ((a0 + 1) + 5 + x2) 3) ≤ 3 := zi_rd hImh (zc_65_e (zc_16_1 hc0) b3) zb_17_3
      refine zw_ite (fun h5 => ?_) (fun h5 => ?_)
      · have w6 := zu_w32_id (z := x2 + 1) (by omega) (by omega)
        have hM : (16 - (zu_w32 (x2 + 1))) * 1 + 0 < (k : Int) := by omega
        exact ih x1 (zu_w32 (x2 + 1)) mh hImh hFmh ⟨by omega, by omega⟩ ⟨by omega, by omega⟩ ⟨by omega, by omega⟩ ⟨by omega, by omega⟩ hM
      · have b7 : 0 ≤ x2 ∧ x2 < 16 := by omega
        refine zw_if b7 ?_
        have r8 : 0 ≤ (mh ((a0 + 1) + 5 + x2) 0) ∧ (mh ((a0 + 1) + 5 + x2) 0) ≤ 47 := zi_rd hImh (zc_65_e (zc_16_1 hc0) b7) zb_17_0
        refine zw_ite (fun h9 => ?_) (fun h9 => ?_)
        · have w10 := zu_w32_id (z := x2 + 1) (by omega) (by omega)
          have hM : (16 - (zu_w32 (x2 + 1))) * 1 + 0 < (k : Int) := by omega
          exact ih x1 (zu_w32 (x2 + 1)) mh hImh hFmh ⟨by omega, by omega⟩ ⟨by omega, by omega⟩ ⟨by omega, by omega⟩ ⟨by omega, by omega⟩ hM
        · have b11 : 0 ≤ x2 ∧ x2 < 16 := by omega
          refine zw_if b11 ?_
          generalize hmm12 : zu_up mh ((a0 + 1) + 5 + x2) 3 (-2) = m12
          have hIm12 := zi_up hmm12 hImh (zc_65_e (zc_16_1 hc0) b11) zb_17_3 (by omega) (by omega)
          have hFm12 := zfr_up hmm12 hFmh (zc_65_e (zc_16_1 hc0) b11) rfl
          exact zw_some ⟨hIm12, hFm12, trivial⟩
set_option maxHeartbeats 4000000 in
theorem zk_221_16 (n : Nat) {a0 : Int} {m0 : zu_m} (hIm0 : zi_I m0) (hc0 : zcls a0 = 16)      : zw (zu_call (zt_T n) 221 [(27, a0)] m0) (fun v m => zi_I m ∧ zfr [(16, 10), (17, 4)] m0 m ∧ True) := by
  have hFm0 : zfr [(16, 10), (17, 4)] m0 m0 := zfr_rf _ _
  refine zw_eq (zu_call_at (zt_T n) (zm_221 n) (zdp_221 n) _ _ _ _ _ rfl (zr_221_0 n _ _ a0 m0)) ?_
  have r13 : 0 ≤ (m0 50 4) ∧ (m0 50 4) ≤ 99 := zi_rd hIm0 zq_50 zb_11_4
  refine zw_ite (fun h14 => ?_) (fun h14 => ?_)
  · exact zw_some ⟨hIm0, hFm0, trivial⟩
  · have r15 : 1 ≤ (m0 50 2) ∧ (m0 50 2) ≤ 48 := zi_rd hIm0 zq_50 zb_11_2
    refine zw_ite (fun h16 => ?_) (fun h16 => ?_)
    · exfalso; omega
    · have r17 : 0 ≤ (m0 a0 8) ∧ (m0 a0 8) ≤ 9999 := zi_rd hIm0 hc0 zb_16_8
      refine zw_ite (fun h18 => ?_) (fun h18 => ?_)
      · exact zw_some ⟨hIm0, hFm0, trivial⟩
      · refine zw_nif (by omega) ?_
        have d19 := ztmod_bd (x := (m0 a0 8)) (y := (m0 50 4)) (by omega) (by omega)
        refine zw_ite (fun h20 => ?_) (fun h20 => ?_)
        · refine zw_bd (zw_mono (zk_215_16 n hIm0 hc0) (fun v22 m21 hqm21 => ?_))
          obtain ⟨hIm21, hfm21, hvm21⟩ := hqm21
          have hFm21 := zfr_tr hFm0 hfm21 rfl
          have r23 : 1 ≤ (m21 50 2) ∧ (m21 50 2) ≤ 48 := zi_rd hIm21 zq_50 zb_11_2
          have e24 : (m21 50 2) = (m0 50 2) := (zfr_ap hfm21 zq_50 rfl)
          refine zw_nif (by omega) ?_
          have d25 := ztmod_b2 (x := v22) (y := (m21 50 2)) (by omega)
          have r26 : 0 ≤ (m21 50 4) ∧ (m21 50 4) ≤ 99 := zi_rd hIm21 zq_50 zb_11_4
          have e27 : (m21 50 4) = (m0 50 4) := (zfr_ap hfm21 zq_50 rfl)
          have r28 : 0 ≤ (m21 a0 8) ∧ (m21 a0 8) ≤ 9999 := zi_rd hIm21 hc0 zb_16_8
          have e29 : (m21 a0 8) = (m0 a0 8) := (zfr_ap hfm21 hc0 rfl)
          have hM : (16 - 0) * 1 + 0 < ((17 : Nat) : Int) := by omega
          exact (zl_221_16 n (m0 := m0) hc0 17) (Int.tmod v22 (m21 50 2)) 0 m21 hIm21 hFm21 ⟨by omega, by omega⟩ ⟨by omega, by omega⟩ ⟨by omega, by omega⟩ ⟨by omega, by omega⟩ hM
        · exact zw_some ⟨hIm0, hFm0, trivial⟩
set_option maxHeartbeats 4000000 in
theorem zl_221_25 (n : Nat) {a0 : Int} {m0 : zu_m} (hc0 : zcls a0 = 25)   : ∀ k : Nat, (∀ (x1 x2 : Int) (mh : zu_m), zi_I mh → zfr [(25, 10), (26, 4)] m0 mh → ((-47) ≤ x1 ∧ x1 ≤ 47) → (0 ≤ x2 ∧ x2 ≤ 16) → (1 ≤ mh 50 4 ∧ mh 50 4 ≤ 99) → (1 ≤ mh a0 8 ∧ mh a0 8 ≤ 20000) → (16 - x2) * 1 + 0 < (k : Int) → zw (zu_ex (zt_T n) 221 58 [(27, a0), (0, x1), (0, x2)] [] mh) (fun v m => zi_I m ∧ zfr [(25, 10), (26, 4)] m0 m ∧ True)) := by
  intro k
  induction k with
  | zero => exact fun x1 x2 mh hImh hFmh hbx1 hbx2 hg2 hg3 hM => by exfalso; omega
  | succ k ih =>
    intro x1 x2 mh hImh hFmh hbx1 hbx2 hg2 hg3 hM
    refine zw_eq (zu_rega_at (zt_T n) (zm_221 n) (zdp_221 n) _ _ _ _ _ _ (zr_221_58 n _ _ a0 x1 x2 mh)) ?_
    have r1 : 0 ≤ (mh a0 2) ∧ (mh a0 2) ≤ 16 := zi_rd hImh hc0 zb_25_2
    refine zw_ite (fun h2 => ?_) (fun h2 => ?_)
    · exact zw_some ⟨hImh, hFmh, trivial⟩
    · have b3 : 0 ≤ x2 ∧ x2 < 16 := by omega
      refine zw_if b3 ?_
      have r4 : (-3) ≤ (mh ((a0 + 1) + 5 + x2) 3) ∧ (mh ((a0 + 1) + 5 + x2) 3) ≤ 3 := zi_rd hImh (zc_95_e (zc_25_1 hc0) b3) zb_26_3
      refine zw_ite (fun h5 => ?_) (fun h5 => ?_)
      · have w6 := zu_w32_id (z := x2 + 1) (by omega) (by omega)
        have hM : (16 - (zu_w32 (x2 + 1))) * 1 + 0 < (k : Int) := by omega
        exact ih x1 (zu_w32 (x2 + 1)) mh hImh hFmh ⟨by omega, by omega⟩ ⟨by omega, by omega⟩ ⟨by omega, by omega⟩ ⟨by omega, by omega⟩ hM
      · have b7 : 0 ≤ x2 ∧ x2 < 16 := by omega
        refine zw_if b7 ?_
        have r8 : 0 ≤ (mh ((a0 + 1) + 5 + x2) 0) ∧ (mh ((a0 + 1) + 5 + x2) 0) ≤ 47 := zi_rd hImh (zc_95_e (zc_25_1 hc0) b7) zb_26_0
        refine zw_ite (fun h9 => ?_) (fun h9 => ?_)
        · have w10 := zu_w32_id (z := x2 + 1) (by omega) (by omega)
          have hM : (16 - (zu_w32 (x2 + 1))) * 1 + 0 < (k : Int) := by omega
          exact ih x1 (zu_w32 (x2 + 1)) mh hImh hFmh ⟨by omega, by omega⟩ ⟨by omega, by omega⟩ ⟨by omega, by omega⟩ ⟨by omega, by omega⟩ hM
        · have b11 : 0 ≤ x2 ∧ x2 < 16 := by omega
          refine zw_if b11 ?_
          generalize hmm12 : zu_up mh ((a0 + 1) + 5 + x2) 3 (-2) = m12
          have hIm12 := zi_up hmm12 hImh (zc_95_e (zc_25_1 hc0) b11) zb_26_3 (by omega) (by omega)
          have hFm12 := zfr_up hmm12 hFmh (zc_95_e (zc_25_1 hc0) b11) rfl
          exact zw_some ⟨hIm12, hFm12, trivial⟩
set_option maxHeartbeats 4000000 in
theorem zk_221_25 (n : Nat) {a0 : Int} {m0 : zu_m} (hIm0 : zi_I m0) (hc0 : zcls a0 = 25)      : zw (zu_call (zt_T n) 221 [(27, a0)] m0) (fun v m => zi_I m ∧ zfr [(25, 10), (26, 4)] m0 m ∧ True) := by
  have hFm0 : zfr [(25, 10), (26, 4)] m0 m0 := zfr_rf _ _
  refine zw_eq (zu_call_at (zt_T n) (zm_221 n) (zdp_221 n) _ _ _ _ _ rfl (zr_221_0 n _ _ a0 m0)) ?_
  have r13 : 0 ≤ (m0 50 4) ∧ (m0 50 4) ≤ 99 := zi_rd hIm0 zq_50 zb_11_4
  refine zw_ite (fun h14 => ?_) (fun h14 => ?_)
  · exact zw_some ⟨hIm0, hFm0, trivial⟩
  · have r15 : 1 ≤ (m0 50 2) ∧ (m0 50 2) ≤ 48 := zi_rd hIm0 zq_50 zb_11_2
    refine zw_ite (fun h16 => ?_) (fun h16 => ?_)
    · exfalso; omega
    · have r17 : 0 ≤ (m0 a0 8) ∧ (m0 a0 8) ≤ 20000 := zi_rd hIm0 hc0 zb_25_8
      refine zw_ite (fun h18 => ?_) (fun h18 => ?_)
      · exact zw_some ⟨hIm0, hFm0, trivial⟩
      · refine zw_nif (by omega) ?_
        have d19 := ztmod_bd (x := (m0 a0 8)) (y := (m0 50 4)) (by omega) (by omega)
        refine zw_ite (fun h20 => ?_) (fun h20 => ?_)
        · refine zw_bd (zw_mono (zk_215_25 n hIm0 hc0) (fun v22 m21 hqm21 => ?_))
          obtain ⟨hIm21, hfm21, hvm21⟩ := hqm21
          have hFm21 := zfr_tr hFm0 hfm21 rfl
          have r23 : 1 ≤ (m21 50 2) ∧ (m21 50 2) ≤ 48 := zi_rd hIm21 zq_50 zb_11_2
          have e24 : (m21 50 2) = (m0 50 2) := (zfr_ap hfm21 zq_50 rfl)
          refine zw_nif (by omega) ?_
          have d25 := ztmod_b2 (x := v22) (y := (m21 50 2)) (by omega)
          have r26 : 0 ≤ (m21 50 4) ∧ (m21 50 4) ≤ 99 := zi_rd hIm21 zq_50 zb_11_4
          have e27 : (m21 50 4) = (m0 50 4) := (zfr_ap hfm21 zq_50 rfl)
          have r28 : 0 ≤ (m21 a0 8) ∧ (m21 a0 8) ≤ 20000 := zi_rd hIm21 hc0 zb_25_8
          have e29 : (m21 a0 8) = (m0 a0 8) := (zfr_ap hfm21 hc0 rfl)
          have hM : (16 - 0) * 1 + 0 < ((17 : Nat) : Int) := by omega
          exact (zl_221_25 n (m0 := m0) hc0 17) (Int.tmod v22 (m21 50 2)) 0 m21 hIm21 hFm21 ⟨by omega, by omega⟩ ⟨by omega, by omega⟩ ⟨by omega, by omega⟩ ⟨by omega, by omega⟩ hM
        · exact zw_some ⟨hIm0, hFm0, trivial⟩
set_option maxHeartbeats 4000000 in
theorem zl_223_16 (n : Nat) {a0 a1 a2 : Int} {m0 : zu_m} (hc0 : zcls a0 = 16)   : ∀ k : Nat, (∀ (x3 x4 x5 : Int) (mh : zu_m), zi_I mh → zfr [] m0 mh → (0 ≤ a1 ∧ a1 ≤ 3) → (0 ≤ a2 ∧ a2 ≤ 47) → ((-1) ≤ x3 ∧ x3 ≤ 47) → (0 ≤ x4 ∧ x4 ≤ 13) → (0 ≤ x5 ∧ x5 ≤ 48) → (48 - x5) * 1 + 0 < (k : Int) → zw (zu_ex (zt_T n) 223 8 [(27, a0), (0, a1), (0, a2), (0, x3), (0, x4), (0, x5), (2, 0)] [] mh) (fun v m => zi_I m ∧ zfr [] m0 m ∧ ((-1) ≤ v ∧ v ≤ 47))) := by
  intro k
  induction k with
  | zero => exact fun x3 x4 x5 mh hImh hFmh hba1 hba2 hbx3 hbx4 hbx5 hM => by exfalso; omega
  | succ k ih =>
    intro x3 x4 x5 mh hImh hFmh hba1 hba2 hbx3 hbx4 hbx5 hM
    refine zw_eq (zu_rega_at (zt_T n) (zm_223 n) (zdp_223 n) _ _ _ _ _ _ (zr_223_8 n _ _ a0 a1 a2 x3 x4 x5 mh)) ?_
    have r1 : 1 ≤ (mh 50 2) ∧ (mh 50 2) ≤ 48 := zi_rd hImh zq_50 zb_11_2
    refine zw_ite (fun h2 => ?_) (fun h2 => ?_)
    · exact zw_some ⟨hImh, hFmh, ⟨by omega, by omega⟩⟩
    · refine zw_bd (zw_mono (zk_218_16 n hImh hc0 ⟨by omega, by omega⟩ ⟨by omega, by omega⟩) (fun v4 m3 hqm3 => ?_))
      obtain ⟨hIm3, hfm3, hvm3⟩ := hqm3
      have hFm3 := zfr_tr hFmh hfm3 rfl
      refine zw_ite (fun h5 => ?_) (fun h5 => ?_)
      · have w6 := zu_w32_id (z := x5 + 1) (by omega) (by omega)
        have hM : (48 - (zu_w32 (x5 + 1))) * 1 + 0 < (k : Int) := by omega
        exact ih x3 x4 (zu_w32 (x5 + 1)) m3 hIm3 hFm3 ⟨by omega, by omega⟩ ⟨by omega, by omega⟩ ⟨by omega, by omega⟩ ⟨by omega, by omega⟩ ⟨by omega, by omega⟩ hM
      · refine zw_bd (zw_mono (zk_245 n hIm3 zq_50 ⟨by omega, by omega⟩ ⟨by omega, by omega⟩) (fun v8 m7 hqm7 => ?_))
        obtain ⟨hIm7, hfm7, hvm7⟩ := hqm7
        have hFm7 := zfr_tr hFm3 hfm7 rfl
        have w9 := zu_w32_id (z := v8 + 1) (by omega) (by omega)
        refine zw_ite (fun h10 => ?_) (fun h10 => ?_)
        · have w11 := zu_w32_id (z := x5 + 1) (by omega) (by omega)
          have hM : (48 - (zu_w32 (x5 + 1))) * 1 + 0 < (k : Int) := by omega
          exact zw_le (zu_forget (zu_lr_same (zu_lr_same (zu_lr_same (zu_lr_same (zu_lr_same (zu_lr_same (zu_lr_drop zu_lr_nil)))))))) (ih x5 (zu_w32 (v8 + 1)) (zu_w32 (x5 + 1)) m7 hIm7 hFm7 ⟨by omega, by omega⟩ ⟨by omega, by omega⟩ ⟨by omega, by omega⟩ ⟨by omega, by omega⟩ ⟨by omega, by omega⟩ hM)
        · have b12 : 0 ≤ x5 ∧ x5 < 48 := by omega
          refine zw_if b12 ?_
          have r13 : 0 ≤ (m7 (a0 + 4) x5) ∧ (m7 (a0 + 4) x5) ≤ 999000 := zi_rd hIm7 (zc_16_6 hc0) (zb_68 _)
          have p14 := zmul_bd (x := (m7 (a0 + 4) x5)) (y := x4) (a := 0) (b := 0) (A := 999000) (B := 13) (by omega) (by omega) (by omega) (by omega) (by omega) (by omega)
          have w15 := zu_w64_id (z := (m7 (a0 + 4) x5) * x4) (by omega) (by omega)
          have b16 : 0 ≤ x3 ∧ x3 < 48 := by omega
          refine zw_if b16 ?_
          have r17 : 0 ≤ (m7 (a0 + 4) x3) ∧ (m7 (a0 + 4) x3) ≤ 999000 := zi_rd hIm7 (zc_16_6 hc0) (zb_68 _)
          have p18 := zmul_bd (x := (m7 (a0 + 4) x3)) (y := (zu_w32 (v8 + 1))) (a := 0) (b := 1) (A := 999000) (B := 13) (by omega) (by omega) (by omega) (by omega) (by omega) (by omega)
          have w19 := zu_w64_id (z := (m7 (a0 + 4) x3) * (zu_w32 (v8 + 1))) (by omega) (by omega)
          have c20 := zu_lcmp_sp (zu_w64 ((m7 (a0 + 4) x5) * x4)) (zu_w64 ((m7 (a0 + 4) x3) * (zu_w32 (v8 + 1))))
          refine zw_ite (fun h21 => ?_) (fun h21 => ?_)
          · have w22 := zu_w32_id (z := x5 + 1) (by omega) (by omega)
            have hM : (48 - (zu_w32 (x5 + 1))) * 1 + 0 < (k : Int) := by omega
            exact zw_le (zu_forget (zu_lr_same (zu_lr_same (zu_lr_same (zu_lr_same (zu_lr_same (zu_lr_same (zu_lr_drop zu_lr_nil)))))))) (ih x3 x4 (zu_w32 (x5 + 1)) m7 hIm7 hFm7 ⟨by omega, by omega⟩ ⟨by omega, by omega⟩ ⟨by omega, by omega⟩ ⟨by omega, by omega⟩ ⟨by omega, by omega⟩ hM)
          · have w23 := zu_w32_id (z := x5 + 1) (by omega) (by omega)
            have hM : (48 - (zu_w32 (x5 + 1))) * 1 + 0 < (k : Int) := by omega
            exact zw_le (zu_forget (zu_lr_same (zu_lr_same (zu_lr_same (zu_lr_same (zu_lr_same (zu_lr_same (zu_lr_drop zu_lr_nil)))))))) (ih x5 (zu_w32 (v8 + 1)) (zu_w32 (x5 + 1)) m7 hIm7 hFm7 ⟨by omega, by omega⟩ ⟨by omega, by omega⟩ ⟨by omega, by omega⟩ ⟨by omega, by omega⟩ ⟨by omega, by omega⟩ hM)
set_option maxHeartbeats 4000000 in
theorem zk_223_16 (n : Nat) {a0 a1 a2 : Int} {m0 : zu_m} (hIm0 : zi_I m0) (hc0 : zcls a0 = 16) (ha1 : 0 ≤ a1 ∧ a1 ≤ 3) (ha2 : 0 ≤ a2 ∧ a2 ≤ 47)     : zw (zu_call (zt_T n) 223 [(27, a0), (0, a1), (0, a2)] m0) (fun v m => zi_I m ∧ zfr [] m0 m ∧ ((-1) ≤ v ∧ v ≤ 47)) := by
  have hFm0 : zfr [] m0 m0 := zfr_rf _ _
  refine zw_eq (zu_call_at (zt_T n) (zm_223 n) (zdp_223 n) _ _ _ _ _ rfl (zr_223_0 n _ _ a0 a1 a2 m0)) ?_
  have hM : (48 - 0) * 1 + 0 < ((49 : Nat) : Int) := by omega
  exact (zl_223_16 n (m0 := m0) hc0 49) (-1) 0 0 m0 hIm0 hFm0 ⟨by omega, by omega⟩ ⟨by omega, by omega⟩ ⟨by omega, by omega⟩ ⟨by omega, by omega⟩ ⟨by omega, by omega⟩ hM
set_option maxHeartbeats 4000000 in
theorem zl_223_25 (n : Nat) {a0 a1 a2 : Int} {m0 : zu_m} (hc0 : zcls a0 = 25)   : ∀ k : Nat, (∀ (x3 x4 x5 : Int) (mh : zu_m), zi_I mh → zfr [] m0 mh → (0 ≤ a1 ∧ a1 ≤ 3) → (0 ≤ a2 ∧ a2 ≤ 47) → ((-1) ≤ x3 ∧ x3 ≤ 47) → (0 ≤ x4 ∧ x4 ≤ 13) → (0 ≤ x5 ∧ x5 ≤ 48) → (48 - x5) * 1 + 0 < (k : Int) → zw (zu_ex (zt_T n) 223 8 [(27, a0), (0, a1), (0, a2), (0, x3), (0, x4), (0, x5), (2, 0)] [] mh) (fun v m => zi_I m ∧ zfr [] m0 m ∧ ((-1) ≤ v ∧ v ≤ 47))) := by
  intro k
  induction k with
  | zero => exact fun x3 x4 x5 mh hImh hFmh hba1 hba2 hbx3 hbx4 hbx5 hM => by exfalso; omega
  | succ k ih =>
    intro x3 x4 x5 mh hImh hFmh hba1 hba2 hbx3 hbx4 hbx5 hM
    refine zw_eq (zu_rega_at (zt_T n) (zm_223 n) (zdp_223 n) _ _ _ _ _ _ (zr_223_8 n _ _ a0 a1 a2 x3 x4 x5 mh)) ?_
    have r1 : 1 ≤ (mh 50 2) ∧ (mh 50 2) ≤ 48 := zi_rd hImh zq_50 zb_11_2
    refine zw_ite (fun h2 => ?_) (fun h2 => ?_)
    · exact zw_some ⟨hImh, hFmh, ⟨by omega, by omega⟩⟩
    · refine zw_bd (zw_mono (zk_218_25 n hImh hc0 ⟨by omega, by omega⟩ ⟨by omega, by omega⟩) (fun v4 m3 hqm3 => ?_))
      obtain ⟨hIm3, hfm3, hvm3⟩ := hqm3
      have hFm3 := zfr_tr hFmh hfm3 rfl
      refine zw_ite (fun h5 => ?_) (fun h5 => ?_)
      · have w6 := zu_w32_id (z := x5 + 1) (by omega) (by omega)
        have hM : (48 - (zu_w32 (x5 + 1))) * 1 + 0 < (k : Int) := by omega
        exact ih x3 x4 (zu_w32 (x5 + 1)) m3 hIm3 hFm3 ⟨by omega, by omega⟩ ⟨by omega, by omega⟩ ⟨by omega, by omega⟩ ⟨by omega, by omega⟩ ⟨by omega, by omega⟩ hM
      · refine zw_bd (zw_mono (zk_245 n hIm3 zq_50 ⟨by omega, by omega⟩ ⟨by omega, by omega⟩) (fun v8 m7 hqm7 => ?_))
        obtain ⟨hIm7, hfm7, hvm7⟩ := hqm7
        have hFm7 := zfr_tr hFm3 hfm7 rfl
        have w9 := zu_w32_id (z := v8 + 1) (by omega) (by omega)
        refine zw_ite (fun h10 => ?_) (fun h10 => ?_)
        · have w11 := zu_w32_id (z := x5 + 1) (by omega) (by omega)
          have hM : (48 - (zu_w32 (x5 + 1))) * 1 + 0 < (k : Int) := by omega
          exact zw_le (zu_forget (zu_lr_same (zu_lr_same (zu_lr_same (zu_lr_same (zu_lr_same (zu_lr_same (zu_lr_drop zu_lr_nil)))))))) (ih x5 (zu_w32 (v8 + 1)) (zu_w32 (x5 + 1)) m7 hIm7 hFm7 ⟨by omega, by omega⟩ ⟨by omega, by omega⟩ ⟨by omega, by omega⟩ ⟨by omega, by omega⟩ ⟨by omega, by omega⟩ hM)
        · have b12 : 0 ≤ x5 ∧ x5 < 48 := by omega
          refine zw_if b12 ?_
          have r13 : 0 ≤ (m7 (a0 + 4) x5) ∧ (m7 (a0 + 4) x5) ≤ 999000 := zi_rd hIm7 (zc_25_6 hc0) (zb_98 _)
          have p14 := zmul_bd (x := (m7 (a0 + 4) x5)) (y := x4) (a := 0) (b := 0) (A := 999000) (B := 13) (by omega) (by omega) (by omega) (by omega) (by omega) (by omega)
          have w15 := zu_w64_id (z := (m7 (a0 + 4) x5) * x4) (by omega) (by omega)
          have b16 : 0 ≤ x3 ∧ x3 < 48 := by omega
          refine zw_if b16 ?_
          have r17 : 0 ≤ (m7 (a0 + 4) x3) ∧ (m7 (a0 + 4) x3) ≤ 999000 := zi_rd hIm7 (zc_25_6 hc0) (zb_98 _)
          have p18 := zmul_bd (x := (m7 (a0 + 4) x3)) (y := (zu_w32 (v8 + 1))) (a := 0) (b := 1) (A := 999000) (B := 13) (by omega) (by omega) (by omega) (by omega) (by omega) (by omega)
          have w19 := zu_w64_id (z := (m7 (a0 + 4) x3) * (zu_w32 (v8 + 1))) (by omega) (by omega)
          have c20 := zu_lcmp_sp (zu_w64 ((m7 (a0 + 4) x5) * x4)) (zu_w64 ((m7 (a0 + 4) x3) * (zu_w32 (v8 + 1))))
          refine zw_ite (fun h21 => ?_) (fun h21 => ?_)
          · have w22 := zu_w32_id (z := x5 + 1) (by omega) (by omega)
            have hM : (48 - (zu_w32 (x5 + 1))) * 1 + 0 < (k : Int) := by omega
            exact zw_le (zu_forget (zu_lr_same (zu_lr_same (zu_lr_same (zu_lr_same (zu_lr_same (zu_lr_same (zu_lr_drop zu_lr_nil)))))))) (ih x3 x4 (zu_w32 (x5 + 1)) m7 hIm7 hFm7 ⟨by omega, by omega⟩ ⟨by omega, by omega⟩ ⟨by omega, by omega⟩ ⟨by omega, by omega⟩ ⟨by omega, by omega⟩ hM)
          · have w23 := zu_w32_id (z := x5 + 1) (by omega) (by omega)
            have hM : (48 - (zu_w32 (x5 + 1))) * 1 + 0 < (k : Int) := by omega
            exact zw_le (zu_forget (zu_lr_same (zu_lr_same (zu_lr_same (zu_lr_same (zu_lr_same (zu_lr_same (zu_lr_drop zu_lr_nil)))))))) (ih x5 (zu_w32 (v8 + 1)) (zu_w32 (x5 + 1)) m7 hIm7 hFm7 ⟨by omega, by omega⟩ ⟨by omega, by omega⟩ ⟨by omega, by omega⟩ ⟨by omega, by omega⟩ ⟨by omega, by omega⟩ hM)
set_option maxHeartbeats 4000000 in
theorem zk_223_25 (n : Nat) {a0 a1 a2 : Int} {m0 : zu_m} (hIm0 : zi_I m0) (hc0 : zcls a0 = 25) (ha1 : 0 ≤ a1 ∧ a1 ≤ 3) (ha2 : 0 ≤ a2 ∧ a2 ≤ 47)     : zw (zu_call (zt_T n) 223 [(27, a0), (0, a1), (0, a2)] m0) (fun v m => zi_I m ∧ zfr [] m0 m ∧ ((-1) ≤ v ∧ v ≤ 47)) := by
  have hFm0 : zfr [] m0 m0 := zfr_rf _ _
  refine zw_eq (zu_call_at (zt_T n) (zm_223 n) (zdp_223 n) _ _ _ _ _ rfl (zr_223_0 n _ _ a0 a1 a2 m0)) ?_
  have hM : (48 - 0) * 1 + 0 < ((49 : Nat) : Int) := by omega
  exact (zl_223_25 n (m0 := m0) hc0 49) (-1) 0 0 m0 hIm0 hFm0 ⟨by omega, by omega⟩ ⟨by omega, by omega⟩ ⟨by omega, by omega⟩ ⟨by omega, by omega⟩ ⟨by omega, by omega⟩ hM
set_option maxHeartbeats 4000000 in
theorem zk_224_16 (n : Nat) {a0 a1 a2 a3 : Int} {m0 : zu_m} (hIm0 : zi_I m0) (hc0 : zcls a0 = 16) (ha1 : 0 ≤ a1 ∧ a1 ≤ 3) (ha2 : 0 ≤ a2 ∧ a2 ≤ 15) (ha3 : (-2147483648) ≤ a3 ∧ a3 ≤ 2147483647)     : zw (zu_call (zt_T n) 224 [(27, a0), (0, a1), (0, a2), (0, a3)] m0) (fun v m => zi_I m ∧ zfr [(59, 1), (59, 2), (59, 3), (59, 4), (59, 5), (59, 6), (59, 7)] m0 m ∧ True) := by
  have hFm0 : zfr [(59, 1), (59, 2), (59, 3), (59, 4), (59, 5), (59, 6), (59, 7)] m0 m0 := zfr_rf _ _
  refine zw_eq (zu_call_at (zt_T n) (zm_224 n) (zdp_224 n) _ _ _ _ _ rfl (zr_224_0 n _ _ a0 a1 a2 a3 m0)) ?_
  have b1 : 0 ≤ a2 ∧ a2 < 16 := by omega
  refine zw_if b1 ?_
  have r2 : 0 ≤ (m0 ((a0 + 1) + 5 + a2) 0) ∧ (m0 ((a0 + 1) + 5 + a2) 0) ≤ 47 := zi_rd hIm0 (zc_65_e (zc_16_1 hc0) b1) zb_17_0
  have b3 : 0 ≤ a2 ∧ a2 < 16 := by omega
  refine zw_if b3 ?_
  have r4 : 0 ≤ (m0 ((a0 + 1) + 5 + a2) 1) ∧ (m0 ((a0 + 1) + 5 + a2) 1) ≤ 3 := zi_rd hIm0 (zc_65_e (zc_16_1 hc0) b3) zb_17_1
  have b5 : 0 ≤ a2 ∧ a2 < 16 := by omega
  refine zw_if b5 ?_
  have r6 : 0 ≤ (m0 ((a0 + 1) + 5 + a2) 2) ∧ (m0 ((a0 + 1) + 5 + a2) 2) ≤ 9 := zi_rd hIm0 (zc_65_e (zc_16_1 hc0) b5) zb_17_2
  refine zw_bd (zw_mono (zk_25 n hIm0 zq_50 ⟨by omega, by omega⟩ ⟨by omega, by omega⟩ ⟨by omega, by omega⟩) (fun v8 m7 hqm7 => ?_))
  obtain ⟨hIm7, hfm7, hvm7⟩ := hqm7
  have hFm7 := zfr_tr hFm0 hfm7 rfl
  have b9 : 0 ≤ a1 ∧ a1 < 4 := by omega
  refine zw_if b9 ?_
  have r10 : 0 ≤ (m7 ((a0 + 2) + 20 + a1) 2) ∧ (m7 ((a0 + 2) + 20 + a1) 2) ≤ 15 := zi_rd hIm7 (zc_66_e (zc_16_3 hc0) b9) zb_18_2
  refine zw_bd (zw_mono (zk_247 n hIm7 zq_50 ⟨by omega, by omega⟩ ⟨by omega, by omega⟩ ⟨by omega, by omega⟩) (fun v12 m11 hqm11 => ?_))
  obtain ⟨hIm11, hfm11, hvm11⟩ := hqm11
  have hFm11 := zfr_tr hFm7 hfm11 rfl
  exact zw_some ⟨hIm11, hFm11, trivial⟩
set_option maxHeartbeats 4000000 in
theorem zk_224_25 (n : Nat) {a0 a1 a2 a3 : Int} {m0 : zu_m} (hIm0 : zi_I m0) (hc0 : zcls a0 = 25) (ha1 : 0 ≤ a1 ∧ a1 ≤ 3) (ha2 : 0 ≤ a2 ∧ a2 ≤ 15) (ha3 : (-2147483648) ≤ a3 ∧ a3 ≤ 2147483647)     : zw (zu_call (zt_T n) 224 [(27, a0), (0, a1), (0, a2), (0, a3)] m0) (fun v m => zi_I m ∧ zfr [(59, 1), (59, 2), (59, 3), (59, 4), (59, 5), (59, 6), (59, 7)] m0 m ∧ True) := by
  have hFm0 : zfr [(59, 1), (59, 2), (59, 3), (59, 4), (59, 5), (59, 6), (59, 7)] m0 m0 := zfr_rf _ _
  refine zw_eq (zu_call_at (zt_T n) (zm_224 n) (zdp_224 n) _ _ _ _ _ rfl (zr_224_0 n _ _ a0 a1 a2 a3 m0)) ?_
  have b1 : 0 ≤ a2 ∧ a2 < 16 := by omega
  refine zw_if b1 ?_
  have r2 : 0 ≤ (m0 ((a0 + 1) + 5 + a2) 0) ∧ (m0 ((a0 + 1) + 5 + a2) 0) ≤ 47 := zi_rd hIm0 (zc_95_e (zc_25_1 hc0) b1) zb_26_0
  have b3 : 0 ≤ a2 ∧ a2 < 16 := by omega
  refine zw_if b3 ?_
  have r4 : 0 ≤ (m0 ((a0 + 1) + 5 + a2) 1) ∧ (m0 ((a0 + 1) + 5 + a2) 1) ≤ 3 := zi_rd hIm0 (zc_95_e (zc_25_1 hc0) b3) zb_26_1
  have b5 : 0 ≤ a2 ∧ a2 < 16 := by omega
  refine zw_if b5 ?_
  have r6 : 0 ≤ (m0 ((a0 + 1) + 5 + a2) 2) ∧ (m0 ((a0 + 1) + 5 + a2) 2) ≤ 9 := zi_rd hIm0 (zc_95_e (zc_25_1 hc0) b5) zb_26_2
  refine zw_bd (zw_mono (zk_25 n hIm0 zq_50 ⟨by omega, by omega⟩ ⟨by omega, by omega⟩ ⟨by omega, by omega⟩) (fun v8 m7 hqm7 => ?_))
  obtain ⟨hIm7, hfm7, hvm7⟩ := hqm7
  have hFm7 := zfr_tr hFm0 hfm7 rfl
  have b9 : 0 ≤ a1 ∧ a1 < 4 := by omega
  refine zw_if b9 ?_
  have r10 : 0 ≤ (m7 ((a0 + 2) + 20 + a1) 2) ∧ (m7 ((a0 + 2) + 20 + a1) 2) ≤ 15 := zi_rd hIm7 (zc_96_e (zc_25_3 hc0) b9) zb_27_2
  refine zw_bd (zw_mono (zk_247 n hIm7 zq_50 ⟨by omega, by omega⟩ ⟨by omega, by omega⟩ ⟨by omega, by omega⟩) (fun v12 m11 hqm11 => ?_))
  obtain ⟨hIm11, hfm11, hvm11⟩ := hqm11
  have hFm11 := zfr_tr hFm7 hfm11 rfl
  exact zw_some ⟨hIm11, hFm11, trivial⟩
set_option maxHeartbeats 4000000 in
theorem zk_228 (n : Nat) {a0 a1 : Int} {m0 : zu_m} (hIm0 : zi_I m0) (hc0 : zcls a0 = 16) (ha1 : 0 ≤ a1 ∧ a1 ≤ 15)     : zw (zu_call (zt_T n) 228 [(27, a0), (0, a1)] m0) (fun v m => zi_I m ∧ zfr [(59, 1), (59, 2), (59, 3), (59, 4), (59, 5), (59, 6), (59, 7)] m0 m ∧ True) := by
  have hFm0 : zfr [(59, 1), (59, 2), (59, 3), (59, 4), (59, 5), (59, 6), (59, 7)] m0 m0 := zfr_rf _ _
  refine zw_eq (zu_call_at (zt_T n) (zm_228 n) (zdp_228 n) _ _ _ _ _ rfl (zr_228_0 n _ _ a0 a1 m0)) ?_
  have b1 : 0 ≤ a1 ∧ a1 < 16 := by omega
  refine zw_if b1 ?_
  have r2 : 0 ≤ (m0 ((a0 + 1) + 5 + a1) 0) ∧ (m0 ((a0 + 1) + 5 + a1) 0) ≤ 47 := zi_rd hIm0 (zc_65_e (zc_16_1 hc0) b1) zb_17_0
  have b3 : 0 ≤ a1 ∧ a1 < 16 := by omega
  refine zw_if b3 ?_
  have r4 : 0 ≤ (m0 ((a0 + 1) + 5 + a1) 1) ∧ (m0 ((a0 + 1) + 5 + a1) 1) ≤ 3 := zi_rd hIm0 (zc_65_e (zc_16_1 hc0) b3) zb_17_1
  have b5 : 0 ≤ a1 ∧ a1 < 16 := by omega
  refine zw_if b5 ?_
  have r6 : 0 ≤ (m0 ((a0 + 1) + 5 + a1) 2) ∧ (m0 ((a0 + 1) + 5 + a1) 2) ≤ 9 := zi_rd hIm0 (zc_65_e (zc_16_1 hc0) b5) zb_17_2
  refine zw_bd (zw_mono (zk_25 n hIm0 zq_50 ⟨by omega, by omega⟩ ⟨by omega, by omega⟩ ⟨by omega, by omega⟩) (fun v8 m7 hqm7 => ?_))
  obtain ⟨hIm7, hfm7, hvm7⟩ := hqm7
  have hFm7 := zfr_tr hFm0 hfm7 rfl
  have r9 : 0 ≤ (m7 a0 8) ∧ (m7 a0 8) ≤ 9999 := zi_rd hIm7 hc0 zb_16_8
  refine zw_bd (zw_eq (zu_call_at (zt_T n) (zm_248 n) (zdp_248 n) _ _ _ _ _ rfl (zr_248_0 n _ _ 50 (m7 a0 8) m7)) ?_)
  have b10 : 0 ≤ (6 : Int) ∧ (6 : Int) < 7 := by omega
  refine zw_if b10 ?_
  generalize hmm11 : zu_up m7 (50 + 12) 6 (m7 a0 8) = m11
  have hIm11 := zi_upr (m := 7) (r0 := 6) (r1 := 6) (lo := (-2147483648)) (hi := 2147483647) hmm11 hIm7 (zc_11_12 zq_50) (by omega) (by decide +kernel) (by omega) (by omega)
  have hFm11 := zfr_up hmm11 hFm7 (zc_11_12 zq_50) rfl
  refine zw_some ?_
  exact zw_some ⟨hIm11, hFm11, trivial⟩
set_option maxHeartbeats 4000000 in
theorem zl_239_16 (n : Nat) {a0 : Int} {m0 : zu_m} (hc0 : zcls a0 = 16)   : ∀ k : Nat, (∀ (x1 x2 x3 : Int) (mh : zu_m), zi_I mh → zfr [] m0 mh → (0 ≤ x1 ∧ x1 ≤ 2147483647) → ((-2147483648) ≤ x2 ∧ x2 ≤ 2147483647) → (0 ≤ x3 ∧ x3 ≤ 4) → (4 - x3) * 1 + 0 < (k : Int) → zw (zu_ex (zt_T n) 239 9 [(27, a0), (0, x1), (0, x2), (0, x3)] [] mh) (fun v m => zi_I m ∧ zfr [] m0 m ∧ ((-2147483648) ≤ v ∧ v ≤ 2147483647))) := by
  intro k
  induction k with
  | zero => exact fun x1 x2 x3 mh hImh hFmh hbx1 hbx2 hbx3 hM => by exfalso; omega
  | succ k ih =>
    intro x1 x2 x3 mh hImh hFmh hbx1 hbx2 hbx3 hM
    refine zw_eq (zu_rega_at (zt_T n) (zm_239 n) (zdp_239 n) _ _ _ _ _ _ (zr_239_9 n _ _ a0 x1 x2 x3 mh)) ?_
    have r1 : 0 ≤ (mh a0 4) ∧ (mh a0 4) ≤ 4 := zi_rd hImh hc0 zb_16_4
    refine zw_ite (fun h2 => ?_) (fun h2 => ?_)
    · have w3 := zu_w32_rg (x1 - x2)
      exact zw_some ⟨hImh, hFmh, ⟨by omega, by omega⟩⟩
    · have b4 : 0 ≤ x3 ∧ x3 < 4 := by omega
      refine zw_if b4 ?_
      have r5 : (-2147483648) ≤ (mh ((a0 + 2) + 20 + x3) 6) ∧ (mh ((a0 + 2) + 20 + x3) 6) ≤ 2147483647 := zi_rd hImh (zc_66_e (zc_16_3 hc0) b4) zb_18_6
      have k6 := zmin_bd x2 (mh ((a0 + 2) + 20 + x3) 6)
      have w7 := zu_w32_id (z := x3 + 1) (by omega) (by omega)
      have hM : (4 - (zu_w32 (x3 + 1))) * 1 + 0 < (k : Int) := by omega
      exact ih x1 (zu_min x2 (mh ((a0 + 2) + 20 + x3) 6)) (zu_w32 (x3 + 1)) mh hImh hFmh ⟨by omega, by omega⟩ ⟨by omega, by omega⟩ ⟨by omega, by omega⟩ hM
set_option maxHeartbeats 4000000 in
theorem zk_239_16 (n : Nat) {a0 : Int} {m0 : zu_m} (hIm0 : zi_I m0) (hc0 : zcls a0 = 16)      : zw (zu_call (zt_T n) 239 [(27, a0)] m0) (fun v m => zi_I m ∧ zfr [] m0 m ∧ ((-2147483648) ≤ v ∧ v ≤ 2147483647)) := by
  have hFm0 : zfr [] m0 m0 := zfr_rf _ _
  refine zw_eq (zu_call_at (zt_T n) (zm_239 n) (zdp_239 n) _ _ _ _ _ rfl (zr_239_0 n _ _ a0 m0)) ?_
  refine zw_bd (zw_mono (zk_238_16 n hIm0 hc0) (fun v9 m8 hqm8 => ?_))
  obtain ⟨hIm8, hfm8, hvm8⟩ := hqm8
  have hFm8 := zfr_tr hFm0 hfm8 rfl
  have hM : (4 - 0) * 1 + 0 < ((5 : Nat) : Int) := by omega
  exact (zl_239_16 n (m0 := m0) hc0 5) v9 v9 0 m8 hIm8 hFm8 ⟨by omega, by omega⟩ ⟨by omega, by omega⟩ ⟨by omega, by omega⟩ hM
set_option maxHeartbeats 4000000 in
theorem zl_239_25 (n : Nat) {a0 : Int} {m0 : zu_m} (hc0 : zcls a0 = 25)   : ∀ k : Nat, (∀ (x1 x2 x3 : Int) (mh : zu_m), zi_I mh → zfr [] m0 mh → (0 ≤ x1 ∧ x1 ≤ 2147483647) → ((-2147483648) ≤ x2 ∧ x2 ≤ 2147483647) → (0 ≤ x3 ∧ x3 ≤ 4) → (4 - x3) * 1 + 0 < (k : Int) → zw (zu_ex (zt_T n) 239 9 [(27, a0), (0, x1), (0, x2), (0, x3)] [] mh) (fun v m => zi_I m ∧ zfr [] m0 m ∧ ((-2147483648) ≤ v ∧ v ≤ 2147483647))) := by
  intro k
  induction k with
  | zero => exact fun x1 x2 x3 mh hImh hFmh hbx1 hbx2 hbx3 hM => by exfalso; omega
  | succ k ih =>
    intro x1 x2 x3 mh hImh hFmh hbx1 hbx2 hbx3 hM
    refine zw_eq (zu_rega_at (zt_T n) (zm_239 n) (zdp_239 n) _ _ _ _ _ _ (zr_239_9 n _ _ a0 x1 x2 x3 mh)) ?_
    have r1 : 0 ≤ (mh a0 4) ∧ (mh a0 4) ≤ 4 := zi_rd hImh hc0 zb_25_4
    refine zw_ite (fun h2 => ?_) (fun h2 => ?_)
    · have w3 := zu_w32_rg (x1 - x2)
      exact zw_some ⟨hImh, hFmh, ⟨by omega, by omega⟩⟩
    · have b4 : 0 ≤ x3 ∧ x3 < 4 := by omega
      refine zw_if b4 ?_
      have r5 : (-2147483648) ≤ (mh ((a0 + 2) + 20 + x3) 6) ∧ (mh ((a0 + 2) + 20 + x3) 6) ≤ 2147483647 := zi_rd hImh (zc_96_e (zc_25_3 hc0) b4) zb_27_6
      have k6 := zmin_bd x2 (mh ((a0 + 2) + 20 + x3) 6)
      have w7 := zu_w32_id (z := x3 + 1) (by omega) (by omega)
      have hM : (4 - (zu_w32 (x3 + 1))) * 1 + 0 < (k : Int) := by omega
      exact ih x1 (zu_min x2 (mh ((a0 + 2) + 20 + x3) 6)) (zu_w32 (x3 + 1)) mh hImh hFmh ⟨by omega, by omega⟩ ⟨by omega, by omega⟩ ⟨by omega, by omega⟩ hM
set_option maxHeartbeats 4000000 in
theorem zk_239_25 (n : Nat) {a0 : Int} {m0 : zu_m} (hIm0 : zi_I m0) (hc0 : zcls a0 = 25)      : zw (zu_call (zt_T n) 239 [(27, a0)] m0) (fun v m => zi_I m ∧ zfr [] m0 m ∧ ((-2147483648) ≤ v ∧ v ≤ 2147483647)) := by
  have hFm0 : zfr [] m0 m0 := zfr_rf _ _
  refine zw_eq (zu_call_at (zt_T n) (zm_239 n) (zdp_239 n) _ _ _ _ _ rfl (zr_239_0 n _ _ a0 m0)) ?_
  refine zw_bd (zw_mono (zk_238_25 n hIm0 hc0) (fun v9 m8 hqm8 => ?_))
  obtain ⟨hIm8, hfm8, hvm8⟩ := hqm8
  have hFm8 := zfr_tr hFm0 hfm8 rfl
  have hM : (4 - 0) * 1 + 0 < ((5 : Nat) : Int) := by omega
  exact (zl_239_25 n (m0 := m0) hc0 5) v9 v9 0 m8 hIm8 hFm8 ⟨by omega, by omega⟩ ⟨by omega, by omega⟩ ⟨by omega, by omega⟩ hM
set_option maxHeartbeats 4000000 in
theorem zl_240 (n : Nat) {a0 : Int} {m0 : zu_m} (hc0 : zcls a0 = 25)   : ∀ k : Nat, (∀ (x1 x2 x3 : Int) (mh : zu_m), zi_I mh → zfr [] m0 mh → (0 ≤ x1 ∧ x1 ≤ 2147483647) → ((-2147483648) ≤ x2 ∧ x2 ≤ 2147483647) → (0 ≤ x3 ∧ x3 ≤ 4) → (4 - x3) * 1 + 0 < (k : Int) → zw (zu_ex (zt_T n) 240 9 [(27, a0), (0, x1), (0, x2), (0, x3)] [] mh) (fun v m => zi_I m ∧ zfr [] m0 m ∧ ((-2147483648) ≤ v ∧ v ≤ 2147483647))) := by
  intro k
  induction k with
  | zero => exact fun x1 x2 x3 mh hImh hFmh hbx1 hbx2 hbx3 hM => by exfalso; omega
  | succ k ih =>
    intro x1 x2 x3 mh hImh hFmh hbx1 hbx2 hbx3 hM
    refine zw_eq (zu_rega_at (zt_T n) (zm_240 n) (zdp_240 n) _ _ _ _ _ _ (zr_240_9 n _ _ a0 x1 x2 x3 mh)) ?_
    have r1 : 0 ≤ (mh a0 4) ∧ (mh a0 4) ≤ 4 := zi_rd hImh hc0 zb_25_4
    refine zw_ite (fun h2 => ?_) (fun h2 => ?_)
    · exact zw_some ⟨hImh, hFmh, ⟨by omega, by omega⟩⟩
    · have b3 : 0 ≤ x3 ∧ x3 < 4 := by omega
      refine zw_if b3 ?_
      have r4 : (-2147483648) ≤ (mh ((a0 + 2) + 20 + x3) 6) ∧ (mh ((a0 + 2) + 20 + x3) 6) ≤ 2147483647 := zi_rd hImh (zc_96_e (zc_25_3 hc0) b3) zb_27_6
      have w5 := zu_w32_rg (x1 - (mh ((a0 + 2) + 20 + x3) 6))
      have w6 := zu_w32_rg (x2 + (zu_w32 (x1 - (mh ((a0 + 2) + 20 + x3) 6))))
      have w7 := zu_w32_id (z := x3 + 1) (by omega) (by omega)
      have hM : (4 - (zu_w32 (x3 + 1))) * 1 + 0 < (k : Int) := by omega
      exact ih x1 (zu_w32 (x2 + (zu_w32 (x1 - (mh ((a0 + 2) + 20 + x3) 6))))) (zu_w32 (x3 + 1)) mh hImh hFmh ⟨by omega, by omega⟩ ⟨by omega, by omega⟩ ⟨by omega, by omega⟩ hM
set_option maxHeartbeats 4000000 in
theorem zk_240 (n : Nat) {a0 : Int} {m0 : zu_m} (hIm0 : zi_I m0) (hc0 : zcls a0 = 25)      : zw (zu_call (zt_T n) 240 [(27, a0)] m0) (fun v m => zi_I m ∧ zfr [] m0 m ∧ ((-2147483648) ≤ v ∧ v ≤ 2147483647)) := by
  have hFm0 : zfr [] m0 m0 := zfr_rf _ _
  refine zw_eq (zu_call_at (zt_T n) (zm_240 n) (zdp_240 n) _ _ _ _ _ rfl (zr_240_0 n _ _ a0 m0)) ?_
  refine zw_bd (zw_mono (zk_238_25 n hIm0 hc0) (fun v9 m8 hqm8 => ?_))
  obtain ⟨hIm8, hfm8, hvm8⟩ := hqm8
  have hFm8 := zfr_tr hFm0 hfm8 rfl
  have hM : (4 - 0) * 1 + 0 < ((5 : Nat) : Int) := by omega
  exact (zl_240 n (m0 := m0) hc0 5) v9 0 0 m8 hIm8 hFm8 ⟨by omega, by omega⟩ ⟨by omega, by omega⟩ ⟨by omega, by omega⟩ hM
set_option maxHeartbeats 4000000 in
theorem zl_255 (n : Nat) {a0 a1 : Int} {m0 : zu_m} (hc0 : zcls a0 = 11)   : ∀ k : Nat, (∀ (x2 x4 x6 : Int) (mh : zu_m), zi_I mh → zfr [] m0 mh → (0 ≤ a1 ∧ a1 ≤ 1) → ((-9223372036854775808) ≤ x2 ∧ x2 ≤ 9223372036854775807) → ((-9223372036854775808) ≤ x4 ∧ x4 ≤ 9223372036854775807) → (0 ≤ x6 ∧ x6 ≤ 48) → (48 - x6) * 1 + 0 < (k : Int) → zw (zu_ex (zt_T n) 255 8 [(8, a0), (0, a1), (1, x2), (2, 0), (1, x4), (2, 0), (0, x6), (2, 0)] [] mh) (fun v m => zi_I m ∧ zfr [] m0 m ∧ ((-9223372036854775808) ≤ v ∧ v ≤ 9223372036854775807))) := by
  intro k
  induction k with
  | zero => exact fun x2 x4 x6 mh hImh hFmh hba1 hbx2 hbx4 hbx6 hM => by exfalso; omega
  | succ k ih =>
    intro x2 x4 x6 mh hImh hFmh hba1 hbx2 hbx4 hbx6 hM
    refine zw_eq (zu_rega_at (zt_T n) (zm_255 n) (zdp_255 n) _ _ _ _ _ _ (zr_255_8 n _ _ a0 a1 x2 x4 x6 mh)) ?_
    have r1 : 1 ≤ (mh a0 2) ∧ (mh a0 2) ≤ 48 := zi_rd hImh hc0 zb_11_2
    refine zw_ite (fun h2 => ?_) (fun h2 => ?_)
    · have w3 := zu_w64_rg (x2 * x2)
      refine zw_bd (zw_mono (zk_256 n hImh ⟨by omega, by omega⟩ ⟨by omega, by omega⟩) (fun v5 m4 hqm4 => ?_))
      obtain ⟨hIm4, hfm4, hvm4⟩ := hqm4
      have hFm4 := zfr_tr hFmh hfm4 rfl
      have c6 := zu_lcmp_sp v5 0
      refine zw_ite (fun h7 => ?_) (fun h7 => ?_)
      · refine zw_ite (fun h8 => ?_) (fun h8 => ?_)
        · refine zw_nif (by omega) ?_
          have w9 := zu_w64_rg (Int.tdiv (zu_w64 (x2 * x2)) v5)
          exact zw_some ⟨hIm4, hFm4, ⟨by omega, by omega⟩⟩
        · refine zw_nif (by omega) ?_
          have w10 := zu_w64_rg (Int.tdiv x4 v5)
          exact zw_some ⟨hIm4, hFm4, ⟨by omega, by omega⟩⟩
      · exact zw_some ⟨hIm4, hFm4, ⟨by omega, by omega⟩⟩
    · have b11 : 0 ≤ x6 ∧ x6 < 48 := by omega
      refine zw_if b11 ?_
      have r12 : 0 ≤ (mh (a0 + 10) x6) ∧ (mh (a0 + 10) x6) ≤ 999 := zi_rd hImh (zc_11_10 hc0) (zb_57 _)
      have w13 := zu_w64_rg (x2 + (mh (a0 + 10) x6))
      have b14 : 0 ≤ x6 ∧ x6 < 48 := by omega
      refine zw_if b14 ?_
      have b15 : 0 ≤ x6 ∧ x6 < 48 := by omega
      refine zw_if b15 ?_
      have p16 := zmul_bd (x := (mh (a0 + 10) x6)) (y := (mh (a0 + 10) x6)) (a := 0) (b := 0) (A := 999) (B := 999) (by omega) (by omega) (by omega) (by omega) (by omega) (by omega)
      have w17 := zu_w64_id (z := (mh (a0 + 10) x6) * (mh (a0 + 10) x6)) (by omega) (by omega)
      have w18 := zu_w64_rg (x4 + (zu_w64 ((mh (a0 + 10) x6) * (mh (a0 + 10) x6))))
      have w19 := zu_w32_id (z := x6 + 1) (by omega) (by omega)
      have hM : (48 - (zu_w32 (x6 + 1))) * 1 + 0 < (k : Int) := by omega
      exact ih (zu_w64 (x2 + (mh (a0 + 10) x6))) (zu_w64 (x4 + (zu_w64 ((mh (a0 + 10) x6) * (mh (a0 + 10) x6))))) (zu_w32 (x6 + 1)) mh hImh hFmh ⟨by omega, by omega⟩ ⟨by omega, by omega⟩ ⟨by omega, by omega⟩ ⟨by omega, by omega⟩ hM
set_option maxHeartbeats 4000000 in
theorem zk_255 (n : Nat) {a0 a1 : Int} {m0 : zu_m} (hIm0 : zi_I m0) (hc0 : zcls a0 = 11) (ha1 : 0 ≤ a1 ∧ a1 ≤ 1)     : zw (zu_call (zt_T n) 255 [(8, a0), (0, a1)] m0) (fun v m => zi_I m ∧ zfr [] m0 m ∧ ((-9223372036854775808) ≤ v ∧ v ≤ 9223372036854775807)) := by
  have hFm0 : zfr [] m0 m0 := zfr_rf _ _
  refine zw_eq (zu_call_at (zt_T n) (zm_255 n) (zdp_255 n) _ _ _ _ _ rfl (zr_255_0 n _ _ a0 a1 m0)) ?_
  have hM : (48 - 0) * 1 + 0 < ((49 : Nat) : Int) := by omega
  exact (zl_255 n (m0 := m0) hc0 49) 0 0 0 m0 hIm0 hFm0 ⟨by omega, by omega⟩ ⟨by omega, by omega⟩ ⟨by omega, by omega⟩ ⟨by omega, by omega⟩ hM
set_option maxHeartbeats 4000000 in
theorem zl_274 (n : Nat) {a0 : Int} {m0 : zu_m} (hc0 : zcls a0 = 22)   : ∀ k : Nat, (∀ (x1 x2 : Int) (mh : zu_m), zi_I mh → zfr [(80, 0)] m0 mh → (0 ≤ x1 ∧ x1 ≤ 24) → (0 ≤ x2 ∧ x2 ≤ 24) → (24 - x2) * 1 + 25 < (k : Int) → zw (zu_ex (zt_T n) 274 7 [(28, a0), (0, x1), (0, x2)] [] mh) (fun v m => zi_I m ∧ zfr [(80, 0)] m0 m ∧ True)) ∧ (∀ (x1 x2 : Int) (mh : zu_m), zi_I mh → zfr [(80, 0)] m0 mh → (0 ≤ x1 ∧ x1 ≤ 24) → ((-1) ≤ x2 ∧ x2 ≤ 23) → (x2 - (-1)) * 1 + 0 < (k : Int) → zw (zu_ex (zt_T n) 274 29 [(28, a0), (0, x1), (0, x2)] [] mh) (fun v m => zi_I m ∧ zfr [(80, 0)] m0 m ∧ True)) := by
  intro k
  induction k with
  | zero => exact ⟨fun x1 x2 mh hImh hFmh hbx1 hbx2 hM => by exfalso; omega, fun x1 x2 mh hImh hFmh hbx1 hbx2 hM => by exfalso; omega⟩
  | succ k ih =>
    refine ⟨?_, ?_⟩
    · intro x1 x2 mh hImh hFmh hbx1 hbx2 hM
      refine zw_eq (zu_rega_at (zt_T n) (zm_274 n) (zdp_274 n) _ _ _ _ _ _ (zr_274_7 n _ _ a0 x1 x2 mh)) ?_
      refine zw_ite (fun h1 => ?_) (fun h1 => ?_)
      · have w2 := zu_w32_id (z := x1 - 1) (by omega) (by omega)
        have hM : ((zu_w32 (x1 - 1)) - (-1)) * 1 + 0 < (k : Int) := by omega
        exact ih.2 x1 (zu_w32 (x1 - 1)) mh hImh hFmh ⟨by omega, by omega⟩ ⟨by omega, by omega⟩ hM
      · refine zw_b (by omega) ?_
        have b3 : 0 ≤ x2 ∧ x2 < 24 := by omega
        refine zw_if b3 ?_
        generalize hmm4 : zu_up mh 147 x2 0 = m4
        have hIm4 := zi_up hmm4 hImh zq_147 (zb_80 _) (by omega) (by omega)
        have hFm4 := zfr_up hmm4 hFmh zq_147 rfl
        have w5 := zu_w32_id (z := x2 + 1) (by omega) (by omega)
        have hM : (24 - (zu_w32 (x2 + 1))) * 1 + 25 < (k : Int) := by omega
        exact ih.1 x1 (zu_w32 (x2 + 1)) m4 hIm4 hFm4 ⟨by omega, by omega⟩ ⟨by omega, by omega⟩ hM
    · intro x1 x2 mh hImh hFmh hbx1 hbx2 hM
      refine zw_eq (zu_rega_at (zt_T n) (zm_274 n) (zdp_274 n) _ _ _ _ _ _ (zr_274_29 n _ _ a0 x1 x2 mh)) ?_
      refine zw_ite (fun h6 => ?_) (fun h6 => ?_)
      · exact zw_some ⟨hImh, hFmh, trivial⟩
      · have b7 : 0 ≤ x2 ∧ x2 < 24 := by omega
        refine zw_if b7 ?_
        have r8 : 0 ≤ (mh 147 x2) ∧ (mh 147 x2) ≤ 1 := zi_rd hImh zq_147 (zb_80 _)
        refine zw_ite (fun h9 => ?_) (fun h9 => ?_)
        · have w10 := zu_w32_id (z := x2 + (-1)) (by omega) (by omega)
          have hM : ((zu_w32 (x2 + (-1))) - (-1)) * 1 + 0 < (k : Int) := by omega
          exact ih.2 x1 (zu_w32 (x2 + (-1))) mh hImh hFmh ⟨by omega, by omega⟩ ⟨by omega, by omega⟩ hM
        · have b11 : 0 ≤ x2 ∧ x2 < 24 := by omega
          refine zw_if b11 ?_
          have r12 : (-1) ≤ (mh 146 x2) ∧ (mh 146 x2) ≤ 23 := zi_rd hImh zq_146 (zb_79 _)
          refine zw_ite (fun h13 => ?_) (fun h13 => ?_)
          · have w14 := zu_w32_id (z := x2 + (-1)) (by omega) (by omega)
            have hM : ((zu_w32 (x2 + (-1))) - (-1)) * 1 + 0 < (k : Int) := by omega
            exact ih.2 x1 (zu_w32 (x2 + (-1))) mh hImh hFmh ⟨by omega, by omega⟩ ⟨by omega, by omega⟩ hM
          · have b15 : 0 ≤ x2 ∧ x2 < 24 := by omega
            refine zw_if b15 ?_
            refine zw_b (by omega) ?_
            have b16 : 0 ≤ (mh 146 x2) ∧ (mh 146 x2) < 24 := by omega
            refine zw_if b16 ?_
            generalize hmm17 : zu_up mh 147 (mh 146 x2) 1 = m17
            have hIm17 := zi_up hmm17 hImh zq_147 (zb_80 _) (by omega) (by omega)
            have hFm17 := zfr_up hmm17 hFmh zq_147 rfl
            have w18 := zu_w32_id (z := x2 + (-1)) (by omega) (by omega)
            have hM : ((zu_w32 (x2 + (-1))) - (-1)) * 1 + 0 < (k : Int) := by omega
            exact ih.2 x1 (zu_w32 (x2 + (-1))) m17 hIm17 hFm17 ⟨by omega, by omega⟩ ⟨by omega, by omega⟩ hM
set_option maxHeartbeats 4000000 in
theorem zk_274 (n : Nat) {a0 : Int} {m0 : zu_m} (hIm0 : zi_I m0) (hc0 : zcls a0 = 22)      : zw (zu_call (zt_T n) 274 [(28, a0)] m0) (fun v m => zi_I m ∧ zfr [(80, 0)] m0 m ∧ True) := by
  have hFm0 : zfr [(80, 0)] m0 m0 := zfr_rf _ _
  refine zw_eq (zu_call_at (zt_T n) (zm_274 n) (zdp_274 n) _ _ _ _ _ rfl (zr_274_0 n _ _ a0 m0)) ?_
  refine zw_bd (zw_eq (zu_call_at (zt_T n) (zm_271 n) (zdp_271 n) _ _ _ _ _ rfl (zr_271_0 n _ _ a0 m0)) ?_)
  have r19 : (-1) ≤ (m0 a0 7) ∧ (m0 a0 7) ≤ 24 := zi_rd hIm0 hc0 zb_22_7
  refine zw_ite (fun h20 => ?_) (fun h20 => ?_)
  · refine zw_some ?_
    have hM : (24 - 0) * 1 + 25 < ((50 : Nat) : Int) := by omega
    exact (zl_274 n (m0 := m0) hc0 50).1 (m0 a0 7) 0 m0 hIm0 hFm0 ⟨by omega, by omega⟩ ⟨by omega, by omega⟩ hM
  · have r21 : 0 ≤ (m0 a0 6) ∧ (m0 a0 6) ≤ 24 := zi_rd hIm0 hc0 zb_22_6
    refine zw_some ?_
    have hM : (24 - 0) * 1 + 25 < ((50 : Nat) : Int) := by omega
    exact (zl_274 n (m0 := m0) hc0 50).1 (m0 a0 6) 0 m0 hIm0 hFm0 ⟨by omega, by omega⟩ ⟨by omega, by omega⟩ hM
set_option maxHeartbeats 4000000 in
theorem zl_276 (n : Nat) {a0 : Int} {m0 : zu_m} (hc0 : zcls a0 = 22)   : ∀ k : Nat, (∀ (x1 x2 x3 : Int) (mh : zu_m), zi_I mh → zfr [] m0 mh → (0 ≤ x1 ∧ x1 ≤ 200) → (0 ≤ x2 ∧ x2 ≤ 24) → (0 ≤ x3 ∧ x3 ≤ 24) → (24 - x3) * 1 + 0 < (k : Int) → zw (zu_ex (zt_T n) 276 9 [(28, a0), (0, x1), (0, x2), (0, x3)] [] mh) (fun v m => zi_I m ∧ zfr [] m0 m ∧ (0 ≤ v ∧ v ≤ 200))) := by
  intro k
  induction k with
  | zero => exact fun x1 x2 x3 mh hImh hFmh hbx1 hbx2 hbx3 hM => by exfalso; omega
  | succ k ih =>
    intro x1 x2 x3 mh hImh hFmh hbx1 hbx2 hbx3 hM
    refine zw_eq (zu_rega_at (zt_T n) (zm_276 n) (zdp_276 n) _ _ _ _ _ _ (zr_276_9 n _ _ a0 x1 x2 x3 mh)) ?_
    refine zw_ite (fun h1 => ?_) (fun h1 => ?_)
    · exact zw_some ⟨hImh, hFmh, ⟨by omega, by omega⟩⟩
    · refine zw_bd (zw_eq (zu_call_at (zt_T n) (zm_275 n) (zdp_275 n) _ _ _ _ _ rfl (zr_275_0 n _ _ a0 x3 mh)) ?_)
      have b2 : 0 ≤ x3 ∧ x3 < 24 := by omega
      refine zw_if b2 ?_
      have r3 : 0 ≤ (mh 147 x3) ∧ (mh 147 x3) ≤ 1 := zi_rd hImh zq_147 (zb_80 _)
      refine zw_ite (fun h4 => ?_) (fun h4 => ?_)
      · refine zw_b (by omega) ?_
        refine zw_some ?_
        refine zw_ite (fun h5 => ?_) (fun h5 => ?_)
        · have w6 := zu_w32_id (z := x3 + 1) (by omega) (by omega)
          have hM : (24 - (zu_w32 (x3 + 1))) * 1 + 0 < (k : Int) := by omega
          exact ih x1 x2 (zu_w32 (x3 + 1)) mh hImh hFmh ⟨by omega, by omega⟩ ⟨by omega, by omega⟩ ⟨by omega, by omega⟩ hM
        · exfalso; omega
      · have b7 : 0 ≤ x3 ∧ x3 < 24 := by omega
        refine zw_if b7 ?_
        have r8 : (-1) ≤ (mh 146 x3) ∧ (mh 146 x3) ≤ 23 := zi_rd hImh zq_146 (zb_79 _)
        refine zw_ite (fun h9 => ?_) (fun h9 => ?_)
        · refine zw_b (by omega) ?_
          refine zw_some ?_
          refine zw_ite (fun h10 => ?_) (fun h10 => ?_)
          · have w11 := zu_w32_id (z := x3 + 1) (by omega) (by omega)
            have hM : (24 - (zu_w32 (x3 + 1))) * 1 + 0 < (k : Int) := by omega
            exact ih x1 x2 (zu_w32 (x3 + 1)) mh hImh hFmh ⟨by omega, by omega⟩ ⟨by omega, by omega⟩ ⟨by omega, by omega⟩ hM
          · exfalso; omega
        · refine zw_b (by omega) ?_
          refine zw_some ?_
          refine zw_ite (fun h12 => ?_) (fun h12 => ?_)
          · exfalso; omega
          · have b13 : 0 ≤ x3 ∧ x3 < 24 := by omega
            refine zw_if b13 ?_
            have r14 : 0 ≤ (mh 142 x3) ∧ (mh 142 x3) ≤ 200 := zi_rd hImh zq_142 (zb_75 _)
            have k15 := zmax_bd x1 (mh 142 x3)
            have w16 := zu_w32_id (z := x3 + 1) (by omega) (by omega)
            have hM : (24 - (zu_w32 (x3 + 1))) * 1 + 0 < (k : Int) := by omega
            exact ih (zu_max x1 (mh 142 x3)) x2 (zu_w32 (x3 + 1)) mh hImh hFmh ⟨by omega, by omega⟩ ⟨by omega, by omega⟩ ⟨by omega, by omega⟩ hM
set_option maxHeartbeats 4000000 in
theorem zk_276 (n : Nat) {a0 : Int} {m0 : zu_m} (hIm0 : zi_I m0) (hc0 : zcls a0 = 22)      : zw (zu_call (zt_T n) 276 [(28, a0)] m0) (fun v m => zi_I m ∧ zfr [] m0 m ∧ (0 ≤ v ∧ v ≤ 200)) := by
  have hFm0 : zfr [] m0 m0 := zfr_rf _ _
  refine zw_eq (zu_call_at (zt_T n) (zm_276 n) (zdp_276 n) _ _ _ _ _ rfl (zr_276_0 n _ _ a0 m0)) ?_
  refine zw_bd (zw_eq (zu_call_at (zt_T n) (zm_271 n) (zdp_271 n) _ _ _ _ _ rfl (zr_271_0 n _ _ a0 m0)) ?_)
  have r17 : (-1) ≤ (m0 a0 7) ∧ (m0 a0 7) ≤ 24 := zi_rd hIm0 hc0 zb_22_7
  refine zw_ite (fun h18 => ?_) (fun h18 => ?_)
  · refine zw_some ?_
    have hM : (24 - 0) * 1 + 0 < ((25 : Nat) : Int) := by omega
    exact (zl_276 n (m0 := m0) hc0 25) 0 (m0 a0 7) 0 m0 hIm0 hFm0 ⟨by omega, by omega⟩ ⟨by omega, by omega⟩ ⟨by omega, by omega⟩ hM
  · have r19 : 0 ≤ (m0 a0 6) ∧ (m0 a0 6) ≤ 24 := zi_rd hIm0 hc0 zb_22_6
    refine zw_some ?_
    have hM : (24 - 0) * 1 + 0 < ((25 : Nat) : Int) := by omega
    exact (zl_276 n (m0 := m0) hc0 25) 0 (m0 a0 6) 0 m0 hIm0 hFm0 ⟨by omega, by omega⟩ ⟨by omega, by omega⟩ ⟨by omega, by omega⟩ hM
set_option maxHeartbeats 4000000 in
theorem zl_277 (n : Nat) {a0 a1 : Int} {m0 : zu_m} (hc0 : zcls a0 = 22) (hc1 : zcls a1 = 25)   : ∀ k : Nat, (∀ (x2 x3 : Int) (mh : zu_m), zi_I mh → zfr [] m0 mh → (0 ≤ x2 ∧ x2 ≤ 24) → (0 ≤ x3 ∧ x3 ≤ 24) → (24 - x3) * 1 + 0 < (k : Int) → zw (zu_ex (zt_T n) 277 7 [(28, a0), (27, a1), (0, x2), (0, x3)] [] mh) (fun v m => zi_I m ∧ zfr [] m0 m ∧ (0 ≤ v ∧ v ≤ 1))) := by
  intro k
  induction k with
  | zero => exact fun x2 x3 mh hImh hFmh hbx2 hbx3 hM => by exfalso; omega
  | succ k ih =>
    intro x2 x3 mh hImh hFmh hbx2 hbx3 hM
    refine zw_eq (zu_rega_at (zt_T n) (zm_277 n) (zdp_277 n) _ _ _ _ _ _ (zr_277_7 n _ _ a0 a1 x2 x3 mh)) ?_
    refine zw_ite (fun h1 => ?_) (fun h1 => ?_)
    · refine zw_b (by omega) ?_
      exact zw_some ⟨hImh, hFmh, ⟨by omega, by omega⟩⟩
    · refine zw_bd (zw_eq (zu_call_at (zt_T n) (zm_275 n) (zdp_275 n) _ _ _ _ _ rfl (zr_275_0 n _ _ a0 x3 mh)) ?_)
      have b2 : 0 ≤ x3 ∧ x3 < 24 := by omega
      refine zw_if b2 ?_
      have r3 : 0 ≤ (mh 147 x3) ∧ (mh 147 x3) ≤ 1 := zi_rd hImh zq_147 (zb_80 _)
      refine zw_ite (fun h4 => ?_) (fun h4 => ?_)
      · refine zw_b (by omega) ?_
        refine zw_some ?_
        refine zw_ite (fun h5 => ?_) (fun h5 => ?_)
        · have w6 := zu_w32_id (z := x3 + 1) (by omega) (by omega)
          have hM : (24 - (zu_w32 (x3 + 1))) * 1 + 0 < (k : Int) := by omega
          exact ih x2 (zu_w32 (x3 + 1)) mh hImh hFmh ⟨by omega, by omega⟩ ⟨by omega, by omega⟩ hM
        · exfalso; omega
      · have b7 : 0 ≤ x3 ∧ x3 < 24 := by omega
        refine zw_if b7 ?_
        have r8 : (-1) ≤ (mh 146 x3) ∧ (mh 146 x3) ≤ 23 := zi_rd hImh zq_146 (zb_79 _)
        refine zw_ite (fun h9 => ?_) (fun h9 => ?_)
        · refine zw_b (by omega) ?_
          refine zw_some ?_
          refine zw_ite (fun h10 => ?_) (fun h10 => ?_)
          · have w11 := zu_w32_id (z := x3 + 1) (by omega) (by omega)
            have hM : (24 - (zu_w32 (x3 + 1))) * 1 + 0 < (k : Int) := by omega
            exact ih x2 (zu_w32 (x3 + 1)) mh hImh hFmh ⟨by omega, by omega⟩ ⟨by omega, by omega⟩ hM
          · exfalso; omega
        · refine zw_b (by omega) ?_
          refine zw_some ?_
          refine zw_ite (fun h12 => ?_) (fun h12 => ?_)
          · exfalso; omega
          · have b13 : 0 ≤ x3 ∧ x3 < 24 := by omega
            refine zw_if b13 ?_
            have r14 : 0 ≤ (mh 142 x3) ∧ (mh 142 x3) ≤ 200 := zi_rd hImh zq_142 (zb_75 _)
            have r15 : 0 ≤ (mh a1 8) ∧ (mh a1 8) ≤ 20000 := zi_rd hImh hc1 zb_25_8
            refine zw_ite (fun h16 => ?_) (fun h16 => ?_)
            · have w17 := zu_w32_id (z := x3 + 1) (by omega) (by omega)
              have hM : (24 - (zu_w32 (x3 + 1))) * 1 + 0 < (k : Int) := by omega
              exact ih x2 (zu_w32 (x3 + 1)) mh hImh hFmh ⟨by omega, by omega⟩ ⟨by omega, by omega⟩ hM
            · have b18 : 0 ≤ x3 ∧ x3 < 24 := by omega
              refine zw_if b18 ?_
              have r19 : 0 ≤ (mh 143 x3) ∧ (mh 143 x3) ≤ 3 := zi_rd hImh zq_143 (zb_76 _)
              have b20 : 0 ≤ (mh 143 x3) ∧ (mh 143 x3) < 4 := by omega
              refine zw_if b20 ?_
              have r21 : (-2147483648) ≤ (mh ((a1 + 2) + 20 + (mh 143 x3)) 6) ∧ (mh ((a1 + 2) + 20 + (mh 143 x3)) 6) ≤ 2147483647 := zi_rd hImh (zc_96_e (zc_25_3 hc1) b20) zb_27_6
              have b22 : 0 ≤ x3 ∧ x3 < 24 := by omega
              refine zw_if b22 ?_
              have r23 : 0 ≤ (mh 144 x3) ∧ (mh 144 x3) ≤ 16 := zi_rd hImh zq_144 (zb_77 _)
              refine zw_ite (fun h24 => ?_) (fun h24 => ?_)
              · have b25 : 0 ≤ x3 ∧ x3 < 24 := by omega
                refine zw_if b25 ?_
                have r26 : 0 ≤ (mh 145 x3) ∧ (mh 145 x3) ≤ 1 := zi_rd hImh zq_145 (zb_78 _)
                refine zw_ite (fun h27 => ?_) (fun h27 => ?_)
                · have w28 := zu_w32_id (z := x3 + 1) (by omega) (by omega)
                  have hM : (24 - (zu_w32 (x3 + 1))) * 1 + 0 < (k : Int) := by omega
                  exact ih x2 (zu_w32 (x3 + 1)) mh hImh hFmh ⟨by omega, by omega⟩ ⟨by omega, by omega⟩ hM
                · refine zw_b (by omega) ?_
                  exact zw_some ⟨hImh, hFmh, ⟨by omega, by omega⟩⟩
              · have b29 : 0 ≤ x3 ∧ x3 < 24 := by omega
                refine zw_if b29 ?_
                have r30 : 0 ≤ (mh 145 x3) ∧ (mh 145 x3) ≤ 1 := zi_rd hImh zq_145 (zb_78 _)
                refine zw_ite (fun h31 => ?_) (fun h31 => ?_)
                · have w32 := zu_w32_id (z := x3 + 1) (by omega) (by omega)
                  have hM : (24 - (zu_w32 (x3 + 1))) * 1 + 0 < (k : Int) := by omega
                  exact ih x2 (zu_w32 (x3 + 1)) mh hImh hFmh ⟨by omega, by omega⟩ ⟨by omega, by omega⟩ hM
                · refine zw_b (by omega) ?_
                  exact zw_some ⟨hImh, hFmh, ⟨by omega, by omega⟩⟩
set_option maxHeartbeats 4000000 in
theorem zk_277 (n : Nat) {a0 a1 : Int} {m0 : zu_m} (hIm0 : zi_I m0) (hc0 : zcls a0 = 22) (hc1 : zcls a1 = 25)      : zw (zu_call (zt_T n) 277 [(28, a0), (27, a1)] m0) (fun v m => zi_I m ∧ zfr [] m0 m ∧ (0 ≤ v ∧ v ≤ 1)) := by
  have hFm0 : zfr [] m0 m0 := zfr_rf _ _
  refine zw_eq (zu_call_at (zt_T n) (zm_277 n) (zdp_277 n) _ _ _ _ _ rfl (zr_277_0 n _ _ a0 a1 m0)) ?_
  refine zw_bd (zw_eq (zu_call_at (zt_T n) (zm_271 n) (zdp_271 n) _ _ _ _ _ rfl (zr_271_0 n _ _ a0 m0)) ?_)
  have r33 : (-1) ≤ (m0 a0 7) ∧ (m0 a0 7) ≤ 24 := zi_rd hIm0 hc0 zb_22_7
  refine zw_ite (fun h34 => ?_) (fun h34 => ?_)
  · refine zw_some ?_
    have hM : (24 - 0) * 1 + 0 < ((25 : Nat) : Int) := by omega
    exact (zl_277 n (m0 := m0) hc0 hc1 25) (m0 a0 7) 0 m0 hIm0 hFm0 ⟨by omega, by omega⟩ ⟨by omega, by omega⟩ hM
  · have r35 : 0 ≤ (m0 a0 6) ∧ (m0 a0 6) ≤ 24 := zi_rd hIm0 hc0 zb_22_6
    refine zw_some ?_
    have hM : (24 - 0) * 1 + 0 < ((25 : Nat) : Int) := by omega
    exact (zl_277 n (m0 := m0) hc0 hc1 25) (m0 a0 6) 0 m0 hIm0 hFm0 ⟨by omega, by omega⟩ ⟨by omega, by omega⟩ hM
set_option maxHeartbeats 4000000 in
theorem zk_292 (n : Nat) {a0 a1 a2 : Int} {m0 : zu_m} (hIm0 : zi_I m0) (hc0 : zcls a0 = 24) (ha1 : 0 ≤ a1 ∧ a1 ≤ 3) (ha2 : 0 ≤ a2 ∧ a2 ≤ 17)     : zw (zu_call (zt_T n) 292 [(33, a0), (0, a1), (0, a2)] m0) (fun v m => zi_I m ∧ zfr [(59, 1), (59, 2), (59, 3), (59, 4), (59, 5), (59, 6), (59, 7)] m0 m ∧ True) := by
  have hFm0 : zfr [(59, 1), (59, 2), (59, 3), (59, 4), (59, 5), (59, 6), (59, 7)] m0 m0 := zfr_rf _ _
  refine zw_eq (zu_call_at (zt_T n) (zm_292 n) (zdp_292 n) _ _ _ _ _ rfl (zr_292_0 n _ _ a0 a1 a2 m0)) ?_
  have r1 : 0 ≤ (m0 89 2) ∧ (m0 89 2) ≤ 16 := zi_rd hIm0 zq_89 zb_16_2
  refine zw_ite (fun h2 => ?_) (fun h2 => ?_)
  · have b3 : 0 ≤ a2 ∧ a2 < 18 := by omega
    refine zw_if b3 ?_
    have r4 : 0 ≤ (m0 155 a2) ∧ (m0 155 a2) ≤ 47 := zi_rd hIm0 zq_155 (zb_86 _)
    have r5 : 0 ≤ (m0 a0 13) ∧ (m0 a0 13) ≤ 3 := zi_rd hIm0 hc0 zb_24_13
    have r6 : 0 ≤ (m0 a0 14) ∧ (m0 a0 14) ≤ 9 := zi_rd hIm0 hc0 zb_24_14
    refine zw_bd (zw_mono (zk_25 n hIm0 zq_50 ⟨by omega, by omega⟩ ⟨by omega, by omega⟩ ⟨by omega, by omega⟩) (fun v8 m7 hqm7 => ?_))
    obtain ⟨hIm7, hfm7, hvm7⟩ := hqm7
    have hFm7 := zfr_tr hFm0 hfm7 rfl
    have b9 : 0 ≤ a1 ∧ a1 < 4 := by omega
    refine zw_if b9 ?_
    have r10 : 0 ≤ (m7 ((89 + 2) + 20 + a1) 2) ∧ (m7 ((89 + 2) + 20 + a1) 2) ≤ 15 := zi_rd hIm7 (zc_66_e (zc_16_3 zq_89) b9) zb_18_2
    have b11 : 0 ≤ a1 ∧ a1 < 4 := by omega
    refine zw_if b11 ?_
    have r12 : (-2147483648) ≤ (m7 158 a1) ∧ (m7 158 a1) ≤ 2147483647 := zi_rd hIm7 zq_158 (zb_89 _)
    refine zw_bd (zw_mono (zk_247 n hIm7 zq_50 ⟨by omega, by omega⟩ ⟨by omega, by omega⟩ ⟨by omega, by omega⟩) (fun v14 m13 hqm13 => ?_))
    obtain ⟨hIm13, hfm13, hvm13⟩ := hqm13
    have hFm13 := zfr_tr hFm7 hfm13 rfl
    exact zw_some ⟨hIm13, hFm13, trivial⟩
  · have b15 : 0 ≤ a2 ∧ a2 < 18 := by omega
    refine zw_if b15 ?_
    have r16 : 0 ≤ (m0 155 a2) ∧ (m0 155 a2) ≤ 47 := zi_rd hIm0 zq_155 (zb_86 _)
    have b17 : 0 ≤ a2 ∧ a2 < 16 := by omega
    refine zw_if b17 ?_
    have r18 : 0 ≤ (m0 ((89 + 1) + 5 + a2) 1) ∧ (m0 ((89 + 1) + 5 + a2) 1) ≤ 3 := zi_rd hIm0 (zc_65_e (zc_16_1 zq_89) b17) zb_17_1
    have b19 : 0 ≤ a2 ∧ a2 < 16 := by omega
    refine zw_if b19 ?_
    have r20 : 0 ≤ (m0 ((89 + 1) + 5 + a2) 2) ∧ (m0 ((89 + 1) + 5 + a2) 2) ≤ 9 := zi_rd hIm0 (zc_65_e (zc_16_1 zq_89) b19) zb_17_2
    refine zw_bd (zw_mono (zk_25 n hIm0 zq_50 ⟨by omega, by omega⟩ ⟨by omega, by omega⟩ ⟨by omega, by omega⟩) (fun v22 m21 hqm21 => ?_))
    obtain ⟨hIm21, hfm21, hvm21⟩ := hqm21
    have hFm21 := zfr_tr hFm0 hfm21 rfl
    have b23 : 0 ≤ a1 ∧ a1 < 4 := by omega
    refine zw_if b23 ?_
    have r24 : 0 ≤ (m21 ((89 + 2) + 20 + a1) 2) ∧ (m21 ((89 + 2) + 20 + a1) 2) ≤ 15 := zi_rd hIm21 (zc_66_e (zc_16_3 zq_89) b23) zb_18_2
    have b25 : 0 ≤ a1 ∧ a1 < 4 := by omega
    refine zw_if b25 ?_
    have r26 : (-2147483648) ≤ (m21 158 a1) ∧ (m21 158 a1) ≤ 2147483647 := zi_rd hIm21 zq_158 (zb_89 _)
    refine zw_bd (zw_mono (zk_247 n hIm21 zq_50 ⟨by omega, by omega⟩ ⟨by omega, by omega⟩ ⟨by omega, by omega⟩) (fun v28 m27 hqm27 => ?_))
    obtain ⟨hIm27, hfm27, hvm27⟩ := hqm27
    have hFm27 := zfr_tr hFm21 hfm27 rfl
    exact zw_some ⟨hIm27, hFm27, trivial⟩
set_option maxHeartbeats 4000000 in
theorem zl_297 (n : Nat) {a0 a1 a2 : Int} {m0 : zu_m} (hc0 : zcls a0 = 24)   : ∀ k : Nat, (∀ (x3 : Int) (mh : zu_m), zi_I mh → zfr [] m0 mh → (0 ≤ a1 ∧ a1 ≤ 3) → (0 ≤ a2 ∧ a2 ≤ 3) → (0 ≤ x3 ∧ x3 ≤ 4) → (1 ≤ mh a0 18 ∧ mh a0 18 ≤ 4) → (4 - x3) * 1 + 0 < (k : Int) → zw (zu_ex (zt_T n) 297 2 [(33, a0), (0, a1), (0, a2), (0, x3)] [] mh) (fun v m => zi_I m ∧ zfr [] m0 m ∧ (0 ≤ v ∧ v ≤ 1))) := by
  intro k
  induction k with
  | zero => exact fun x3 mh hImh hFmh hba1 hba2 hbx3 hg3 hM => by exfalso; omega
  | succ k ih =>
    intro x3 mh hImh hFmh hba1 hba2 hbx3 hg3 hM
    refine zw_eq (zu_rega_at (zt_T n) (zm_297 n) (zdp_297 n) _ _ _ _ _ _ (zr_297_2 n _ _ a0 a1 a2 x3 mh)) ?_
    refine zw_ite (fun h1 => ?_) (fun h1 => ?_)
    · refine zw_b (by omega) ?_
      exact zw_some ⟨hImh, hFmh, ⟨by omega, by omega⟩⟩
    · refine zw_bd (zw_mono (zk_296 n hImh hc0 ⟨by omega, by omega⟩ ⟨by omega, by omega⟩) (fun v3 m2 hqm2 => ?_))
      obtain ⟨hIm2, hfm2, hvm2⟩ := hqm2
      have hFm2 := zfr_tr hFmh hfm2 rfl
      refine zw_bd (zw_mono (zk_296 n hIm2 hc0 ⟨by omega, by omega⟩ ⟨by omega, by omega⟩) (fun v5 m4 hqm4 => ?_))
      obtain ⟨hIm4, hfm4, hvm4⟩ := hqm4
      have hFm4 := zfr_tr hFm2 hfm4 rfl
      refine zw_ite (fun h6 => ?_) (fun h6 => ?_)
      · have w7 := zu_w32_id (z := x3 + 1) (by omega) (by omega)
        have r8 : 0 ≤ (m4 a0 18) ∧ (m4 a0 18) ≤ 4 := zi_rd hIm4 hc0 zb_24_18
        have e9 : (m4 a0 18) = (mh a0 18) := (Eq.trans (zfr_ap hfm4 hc0 rfl) (zfr_ap hfm2 hc0 rfl))
        have hM : (4 - (zu_w32 (x3 + 1))) * 1 + 0 < (k : Int) := by omega
        exact ih (zu_w32 (x3 + 1)) m4 hIm4 hFm4 ⟨by omega, by omega⟩ ⟨by omega, by omega⟩ ⟨by omega, by omega⟩ ⟨by omega, by omega⟩ hM
      · refine zw_b (by omega) ?_
        exact zw_some ⟨hIm4, hFm4, ⟨by omega, by omega⟩⟩
set_option maxHeartbeats 4000000 in
theorem zk_297 (n : Nat) {a0 a1 a2 : Int} {m0 : zu_m} (hIm0 : zi_I m0) (hc0 : zcls a0 = 24) (ha1 : 0 ≤ a1 ∧ a1 ≤ 3) (ha2 : 0 ≤ a2 ∧ a2 ≤ 3)  (he0 : 1 ≤ m0 a0 18 ∧ m0 a0 18 ≤ 4)   : zw (zu_call (zt_T n) 297 [(33, a0), (0, a1), (0, a2)] m0) (fun v m => zi_I m ∧ zfr [] m0 m ∧ (0 ≤ v ∧ v ≤ 1)) := by
  have hFm0 : zfr [] m0 m0 := zfr_rf _ _
  refine zw_eq (zu_call_at (zt_T n) (zm_297 n) (zdp_297 n) _ _ _ _ _ rfl (zr_297_0 n _ _ a0 a1 a2 m0)) ?_
  have hM : (4 - 0) * 1 + 0 < ((5 : Nat) : Int) := by omega
  exact (zl_297 n (m0 := m0) hc0 5) 0 m0 hIm0 hFm0 ⟨by omega, by omega⟩ ⟨by omega, by omega⟩ ⟨by omega, by omega⟩ ⟨by omega, by omega⟩ hM
set_option maxHeartbeats 4000000 in
theorem zk_305 (n : Nat) {a0 a1 a2 a3 a4 : Int} {m0 : zu_m} (hIm0 : zi_I m0) (hc0 : zcls a0 = 23) (ha1 : 0 ≤ a1 ∧ a1 ≤ 3) (ha2 : 0 ≤ a2 ∧ a2 ≤ 3) (ha3 : 0 ≤ a3 ∧ a3 ≤ 47) (ha4 : 0 ≤ a4 ∧ a4 ≤ 9)   (hxp0 : a1 = 2 → a3 < (m0 50 2)) (hRUWm0 : zR_UW m0) : zw (zu_call (zt_T n) 305 [(31, a0), (0, a1), (0, a2), (0, a3), (0, a4)] m0) (fun v m => zi_I m ∧ zfr [(23, 5), (81, 0), (82, 0), (83, 0), (84, 0)] m0 m ∧ zR_UW m ∧ True ∧ (1 ≤ m a0 4 ∧ m a0 4 ≤ 20) ∧ (∀ s, zUN m0 s → 0 ≤ m0 89 2 + s + zdl a1 → m0 89 2 + s + zdl a1 ≤ 16 → zUN m (s + zdl a1))) := by
  have hFm0 : zfr [(23, 5), (81, 0), (82, 0), (83, 0), (84, 0)] m0 m0 := zfr_rf _ _
  have r1 : 1 ≤ (m0 50 2) ∧ (m0 50 2) ≤ 48 := zi_rd hIm0 zq_50 zb_11_2
  refine zw_eq (zu_call_at (zt_T n) (zm_305 n) (zdp_305 n) _ _ _ _ _ rfl (zr_305_0 n _ _ a0 a1 a2 a3 a4 m0)) ?_
  have r2 : 0 ≤ (m0 a0 4) ∧ (m0 a0 4) ≤ 20 := zi_rd hIm0 hc0 zb_23_4
  refine zw_ite (fun h3 => ?_) (fun h3 => ?_)
  · have b4 : 0 ≤ (m0 a0 4) ∧ (m0 a0 4) < 20 := by omega
    refine zw_if b4 ?_
    generalize hmm5 : zu_up m0 149 (m0 a0 4) a1 = m5
    have hIm5 := zi_up hmm5 hIm0 zq_149 (zb_81 _) (by omega) (by omega)
    have hFm5 := zfr_up hmm5 hFm0 zq_149 rfl
    have r6 : 0 ≤ (m5 a0 4) ∧ (m5 a0 4) ≤ 20 := zi_rd hIm5 hc0 zb_23_4
    have e7 : (m5 a0 4) = (m0 a0 4) := (zs_ne hmm5 (Or.inl (zc_ne hc0 zq_149 (by decide))))
    have b8 : 0 ≤ (m5 a0 4) ∧ (m5 a0 4) < 20 := by omega
    refine zw_if b8 ?_
    generalize hmm9 : zu_up m5 150 (m5 a0 4) a2 = m9
    have hIm9 := zi_up hmm9 hIm5 zq_150 (zb_82 _) (by omega) (by omega)
    have hFm9 := zfr_up hmm9 hFm5 zq_150 rfl
    have r10 : 0 ≤ (m9 a0 4) ∧ (m9 a0 4) ≤ 20 := zi_rd hIm9 hc0 zb_23_4
    have e11 : (m9 a0 4) = (m5 a0 4) := (zs_ne hmm9 (Or.inl (zc_ne hc0 zq_150 (by decide))))
    have b12 : 0 ≤ (m9 a0 4) ∧ (m9 a0 4) < 20 := by omega
    refine zw_if b12 ?_
    generalize hmm13 : zu_up m9 151 (m9 a0 4) a3 = m13
    have hIm13 := zi_up hmm13 hIm9 zq_151 (zb_83 _) (by omega) (by omega)
    have hFm13 := zfr_up hmm13 hFm9 zq_151 rfl
    have r14 : 0 ≤ (m13 a0 4) ∧ (m13 a0 4) ≤ 20 := zi_rd hIm13 hc0 zb_23_4
    have e15 : (m13 a0 4) = (m9 a0 4) := (zs_ne hmm13 (Or.inl (zc_ne hc0 zq_151 (by decide))))
    have b16 : 0 ≤ (m13 a0 4) ∧ (m13 a0 4) < 20 := by omega
    refine zw_if b16 ?_
    generalize hmm17 : zu_up m13 152 (m13 a0 4) a4 = m17
    have hIm17 := zi_up hmm17 hIm13 zq_152 (zb_84 _) (by omega) (by omega)
    have hFm17 := zfr_up hmm17 hFm13 zq_152 rfl
    have r18 : 0 ≤ (m17 a0 4) ∧ (m17 a0 4) ≤ 20 := zi_rd hIm17 hc0 zb_23_4
    have e19 : (m17 a0 4) = (m13 a0 4) := (zs_ne hmm17 (Or.inl (zc_ne hc0 zq_152 (by decide))))
    have w20 := zu_w32_id (z := (m17 a0 4) + 1) (by omega) (by omega)
    generalize hmm21 : zu_up m17 a0 4 (zu_w32 ((m17 a0 4) + 1)) = m21
    have hIm21 := zi_up hmm21 hIm17 hc0 zb_23_4 (by omega) (by omega)
    have hFm21 := zfr_up hmm21 hFm17 hc0 rfl
    have r22 : 0 ≤ (m0 89 2) ∧ (m0 89 2) ≤ 16 := zi_rd hIm0 zq_89 zb_16_2
    have hun : ∀ s, zUN m0 s → 0 ≤ m0 89 2 + s + zdl a1 → m0 89 2 + s + zdl a1 ≤ 16 → zUN m21 (s + zdl a1) := fun s h h1 h2 => zUN_note (zone_148 hc0) hmm5 hmm9 hmm13 hmm17 hmm21 (by omega) (by omega) (h) ⟨by omega, by omega⟩
    have hRUWm21 := zUW_note (zone_148 hc0) hmm5 hmm9 hmm13 hmm17 hmm21 (by omega) (by omega) (by omega) hRUWm0 (by omega)
    have r23 : 0 ≤ (m21 a0 4) ∧ (m21 a0 4) ≤ 20 := zi_rd hIm21 hc0 zb_23_4
    have e24 : (m21 a0 4) = (zu_w32 ((m17 a0 4) + 1)) := (zs_eq hmm21)
    exact zw_some ⟨hIm21, hFm21, hRUWm21, trivial, ⟨by omega, by omega⟩, hun⟩
  · refine zw_bd (zw_mono (zk_306 n hIm0 hc0 ⟨by omega, by omega⟩) (fun v26 m25 hqm25 => ?_))
    obtain ⟨hIm25, hfm25, hvm25⟩ := hqm25
    have hFm25 := zfr_tr hFm0 hfm25 rfl
    have hdum25 := (hvm25.2.2.1)
    have hRUWm25 := (hvm25.2.2.2) hRUWm0
    have b27 : 0 ≤ (m25 a0 4) ∧ (m25 a0 4) < 20 := by omega
    refine zw_if b27 ?_
    generalize hmm28 : zu_up m25 149 (m25 a0 4) a1 = m28
    have hIm28 := zi_up hmm28 hIm25 zq_149 (zb_81 _) (by omega) (by omega)
    have hFm28 := zfr_up hmm28 hFm25 zq_149 rfl
    have r29 : 0 ≤ (m28 a0 4) ∧ (m28 a0 4) ≤ 20 := zi_rd hIm28 hc0 zb_23_4
    have e30 : (m28 a0 4) = (m25 a0 4) := (zs_ne hmm28 (Or.inl (zc_ne hc0 zq_149 (by decide))))
    have b31 : 0 ≤ (m28 a0 4) ∧ (m28 a0 4) < 20 := by omega
    refine zw_if b31 ?_
    generalize hmm32 : zu_up m28 150 (m28 a0 4) a2 = m32
    have hIm32 := zi_up hmm32 hIm28 zq_150 (zb_82 _) (by omega) (by omega)
    have hFm32 := zfr_up hmm32 hFm28 zq_150 rfl
    have r33 : 0 ≤ (m32 a0 4) ∧ (m32 a0 4) ≤ 20 := zi_rd hIm32 hc0 zb_23_4
    have e34 : (m32 a0 4) = (m28 a0 4) := (zs_ne hmm32 (Or.inl (zc_ne hc0 zq_150 (by decide))))
    have b35 : 0 ≤ (m32 a0 4) ∧ (m32 a0 4) < 20 := by omega
    refine zw_if b35 ?_
    generalize hmm36 : zu_up m32 151 (m32 a0 4) a3 = m36
    have hIm36 := zi_up hmm36 hIm32 zq_151 (zb_83 _) (by omega) (by omega)
    have hFm36 := zfr_up hmm36 hFm32 zq_151 rfl
    have r37 : 0 ≤ (m36 a0 4) ∧ (m36 a0 4) ≤ 20 := zi_rd hIm36 hc0 zb_23_4
    have e38 : (m36 a0 4) = (m32 a0 4) := (zs_ne hmm36 (Or.inl (zc_ne hc0 zq_151 (by decide))))
    have b39 : 0 ≤ (m36 a0 4) ∧ (m36 a0 4) < 20 := by omega
    refine zw_if b39 ?_
    generalize hmm40 : zu_up m36 152 (m36 a0 4) a4 = m40
    have hIm40 := zi_up hmm40 hIm36 zq_152 (zb_84 _) (by omega) (by omega)
    have hFm40 := zfr_up hmm40 hFm36 zq_152 rfl
    have r41 : 0 ≤ (m40 a0 4) ∧ (m40 a0 4) ≤ 20 := zi_rd hIm40 hc0 zb_23_4
    have e42 : (m40 a0 4) = (m36 a0 4) := (zs_ne hmm40 (Or.inl (zc_ne hc0 zq_152 (by decide))))
    have w43 := zu_w32_id (z := (m40 a0 4) + 1) (by omega) (by omega)
    generalize hmm44 : zu_up m40 a0 4 (zu_w32 ((m40 a0 4) + 1)) = m44
    have hIm44 := zi_up hmm44 hIm40 hc0 zb_23_4 (by omega) (by omega)
    have hFm44 := zfr_up hmm44 hFm40 hc0 rfl
    have r45 : 0 ≤ (m0 89 2) ∧ (m0 89 2) ≤ 16 := zi_rd hIm0 zq_89 zb_16_2
    have r46 : 0 ≤ (m25 89 2) ∧ (m25 89 2) ≤ 16 := zi_rd hIm25 zq_89 zb_16_2
    have e47 : (m25 89 2) = (m0 89 2) := (zfr_ap hfm25 zq_89 rfl)
    have r48 : 1 ≤ (m25 50 2) ∧ (m25 50 2) ≤ 48 := zi_rd hIm25 zq_50 zb_11_2
    have e49 : (m25 50 2) = (m0 50 2) := (zfr_ap hfm25 zq_50 rfl)
    have hun : ∀ s, zUN m0 s → 0 ≤ m0 89 2 + s + zdl a1 → m0 89 2 + s + zdl a1 ≤ 16 → zUN m44 (s + zdl a1) := fun s h h1 h2 => zUN_note (zone_148 hc0) hmm28 hmm32 hmm36 hmm40 hmm44 (by omega) (by omega) (hdum25 s h) ⟨by omega, by omega⟩
    have hRUWm44 := zUW_note (zone_148 hc0) hmm28 hmm32 hmm36 hmm40 hmm44 (by omega) (by omega) (by omega) hRUWm25 (by omega)
    have r50 : 0 ≤ (m44 a0 4) ∧ (m44 a0 4) ≤ 20 := zi_rd hIm44 hc0 zb_23_4
    have e51 : (m44 a0 4) = (zu_w32 ((m40 a0 4) + 1)) := (zs_eq hmm44)
    exact zw_some ⟨hIm44, hFm44, hRUWm44, trivial, ⟨by omega, by omega⟩, hun⟩
set_option maxHeartbeats 4000000 in
theorem zk_311 (n : Nat) {a0 a1 : Int} {m0 : zu_m} (hIm0 : zi_I m0) (hc0 : zcls a0 = 23) (hc1 : zcls a1 = 16)     (hRE89m0 : zE m0 89 50) (hRUNm0 : zR_UN m0) (hRUWm0 : zR_UW m0) : zw (zu_call (zt_T n) 311 [(31, a0), (27, a1)] m0) (fun v m => zi_I m ∧ zfr [(16, 3), (16, 11), (17, 1), (17, 2), (17, 3), (17, 4), (18, 2), (23, 5)] m0 m ∧ zE m 89 50 ∧ zR_UN m ∧ zR_UW m ∧ (0 ≤ v ∧ v ≤ 1) ∧ (0 ≤ m a0 4 ∧ m a0 4 ≤ 19)) := by
  have hFm0 : zfr [(16, 3), (16, 11), (17, 1), (17, 2), (17, 3), (17, 4), (18, 2), (23, 5)] m0 m0 := zfr_rf _ _
  refine zw_eq (zu_call_at (zt_T n) (zm_311 n) (zdp_311 n) _ _ _ _ _ rfl (zr_311_0 n _ _ a0 a1 m0)) ?_
  have r1 : 0 ≤ (m0 a0 4) ∧ (m0 a0 4) ≤ 20 := zi_rd hIm0 hc0 zb_23_4
  refine zw_ite (fun h2 => ?_) (fun h2 => ?_)
  · have w3 := zu_w32_id (z := (m0 a0 4) - 1) (by omega) (by omega)
    generalize hmm4 : zu_up m0 a0 4 (zu_w32 ((m0 a0 4) - 1)) = m4
    have hIm4 := zi_up hmm4 hIm0 hc0 zb_23_4 (by omega) (by omega)
    have hFm4 := zfr_up hmm4 hFm0 hc0 rfl
    have hRE89m4 := zR_E89_fr (zdis_fr (zfr_up hmm4 (zfr_rf [(23, 5)] _) hc0 rfl) rfl) hRE89m0
    have r5 : 0 ≤ (m4 a0 4) ∧ (m4 a0 4) ≤ 20 := zi_rd hIm4 hc0 zb_23_4
    have e6 : (m4 a0 4) = (zu_w32 ((m0 a0 4) - 1)) := (zs_eq hmm4)
    have r7 : 0 ≤ (m0 149 (m4 a0 4)) ∧ (m0 149 (m4 a0 4)) ≤ 3 := zi_rd hIm0 zq_149 (zb_81 _)
    have r8 : 0 ≤ (m4 149 (m4 a0 4)) ∧ (m4 149 (m4 a0 4)) ≤ 3 := zi_rd hIm4 zq_149 (zb_81 _)
    have e9 : (m4 149 (m4 a0 4)) = (m0 149 (m4 a0 4)) := (zs_ne hmm4 (Or.inl (zc_ne zq_149 hc0 (by decide))))
    have r10 : 0 ≤ (m4 89 2) ∧ (m4 89 2) ≤ 16 := zi_rd hIm4 zq_89 zb_16_2
    have r11 : 0 ≤ (m4 a1 2) ∧ (m4 a1 2) ≤ 16 := zi_rd hIm4 hc1 zb_16_2
    have z12 := zone_89 hc1
    have hup := zUN_pop (w := (m4 149 (m4 a0 4))) (zone_148 hc0) hmm4 (by omega) (by omega) hRUNm0 (by rw [zs_eq hmm4]; exact zs_ne hmm4 (Or.inl (zc_ne zq_149 hc0 (by decide))))
    have s13 := zUN_bd hup (zone_148 hc0) (by omega)
    have z14 := zdl_v (m4 149 (m4 a0 4))
    have he1 : m4 a1 2 = m4 89 2 := by rw [zone_89 hc1]
    have hut := zUW_top (i := (m4 a0 4)) (zone_148 hc0) hmm4 (by omega) (by omega) (by omega) hRUWm0
    have hRUWm4 := zUW_pop (zone_148 hc0) hmm4 (by omega) hRUWm0
    have b15 : 0 ≤ (m4 a0 4) ∧ (m4 a0 4) < 20 := by omega
    refine zw_if b15 ?_
    refine zw_ite (fun h16 => ?_) (fun h16 => ?_)
    · have w17 := zu_w32_id (z := (m4 a1 2) - 1) (by omega) (by omega)
      generalize hmm18 : zu_up m4 a1 2 (zu_w32 ((m4 a1 2) - 1)) = m18
      have hIm18 := zi_up hmm18 hIm4 hc1 zb_16_2 (by omega) (by omega)
      have hFm18 := zfr_up hmm18 hFm4 hc1 rfl
      have hRE89m18 := zR_E89_fr (zdis_fr (zfr_up hmm18 (zfr_rf [(16, 3)] _) hc1 rfl) rfl) hRE89m4
      have hRUWm18 := zR_UW_fr (zdis_fr (zfr_up hmm18 (zfr_rf [(16, 3)] _) hc1 rfl) rfl) hRUWm4
      refine zw_b (by omega) ?_
      have r19 : 0 ≤ (m18 a1 2) ∧ (m18 a1 2) ≤ 16 := zi_rd hIm18 hc1 zb_16_2
      have e20 : (m18 a1 2) = (zu_w32 ((m4 a1 2) - 1)) := (zs_eq hmm18)
      have r21 : 0 ≤ (m18 89 2) ∧ (m18 89 2) ≤ 16 := zi_rd hIm18 zq_89 zb_16_2
      have he2 : m18 a1 2 = m18 89 2 := by rw [zone_89 hc1]
      have hRUNm18 : zR_UN m18 := zUN_mv (a := 148) hup rfl (fun _ => (zs_ne hmm18 (Or.inl (zc_ne zq_149 hc1 (by decide))))) (zs_ne hmm18 (Or.inl (zc_ne zq_148 hc1 (by decide)))) (by omega)
      have r22 : 0 ≤ (m18 a0 4) ∧ (m18 a0 4) ≤ 20 := zi_rd hIm18 hc0 zb_23_4
      have e23 : (m18 a0 4) = (m4 a0 4) := (zs_ne hmm18 (Or.inl (zc_ne hc0 hc1 (by decide))))
      exact zw_some ⟨hIm18, hFm18, hRE89m18, hRUNm18, hRUWm18, ⟨by omega, by omega⟩, ⟨by omega, by omega⟩⟩
    · refine zw_ite (fun h24 => ?_) (fun h24 => ?_)
      · have b25 : 0 ≤ (m4 a0 4) ∧ (m4 a0 4) < 20 := by omega
        refine zw_if b25 ?_
        have r26 : 0 ≤ (m4 151 (m4 a0 4)) ∧ (m4 151 (m4 a0 4)) ≤ 47 := zi_rd hIm4 zq_151 (zb_83 _)
        have b27 : 0 ≤ (m4 a0 4) ∧ (m4 a0 4) < 20 := by omega
        refine zw_if b27 ?_
        have r28 : 0 ≤ (m4 150 (m4 a0 4)) ∧ (m4 150 (m4 a0 4)) ≤ 3 := zi_rd hIm4 zq_150 (zb_82 _)
        have b29 : 0 ≤ (m4 a0 4) ∧ (m4 a0 4) < 20 := by omega
        refine zw_if b29 ?_
        have r30 : 0 ≤ (m4 152 (m4 a0 4)) ∧ (m4 152 (m4 a0 4)) ≤ 9 := zi_rd hIm4 zq_152 (zb_84 _)
        refine zw_bd (zw_eq (zu_call_at (zt_T n) (zm_213 n) (zdp_213 n) _ _ _ _ _ rfl (zr_213_0 n _ _ a1 (m4 151 (m4 a0 4)) (m4 150 (m4 a0 4)) (m4 152 (m4 a0 4)) m4)) ?_)
        refine zw_ite (fun h31 => ?_) (fun h31 => ?_)
        · refine zw_some ?_
          refine zw_b (by omega) ?_
          have he2 : m4 a1 2 = m4 89 2 := by rw [zone_89 hc1]
          have hRUNm4 : zR_UN m4 := zUN_mv (a := 148) hup rfl (fun _ => rfl) rfl (by omega)
          exact zw_some ⟨hIm4, hFm4, hRE89m4, hRUNm4, hRUWm4, ⟨by omega, by omega⟩, ⟨by omega, by omega⟩⟩
        · have b32 : 0 ≤ (m4 a1 2) ∧ (m4 a1 2) < 16 := by omega
          refine zw_if b32 ?_
          generalize hmm33 : zu_up m4 ((a1 + 1) + 5 + (m4 a1 2)) 0 (m4 151 (m4 a0 4)) = m33
          have hIm33 := zi_up hmm33 hIm4 (zc_65_e (zc_16_1 hc1) b32) zb_17_0 (by omega) (by omega)
          have hFm33 := zfr_up hmm33 hFm4 (zc_65_e (zc_16_1 hc1) b32) rfl
          have hRE89m33 := zR_E89_fr (zdis_fr (zfr_up hmm33 (zfr_rf [(17, 1)] _) (zc_65_e (zc_16_1 hc1) b32) rfl) rfl) hRE89m4
          have hRUWm33 := zR_UW_fr (zdis_fr (zfr_up hmm33 (zfr_rf [(17, 1)] _) (zc_65_e (zc_16_1 hc1) b32) rfl) rfl) hRUWm4
          generalize hmm34 : zu_up m33 ((a1 + 1) + 5 + (m4 a1 2)) 1 (m4 150 (m4 a0 4)) = m34
          have hIm34 := zi_up hmm34 hIm33 (zc_65_e (zc_16_1 hc1) b32) zb_17_1 (by omega) (by omega)
          have hFm34 := zfr_up hmm34 hFm33 (zc_65_e (zc_16_1 hc1) b32) rfl
          have hRE89m34 := zR_E89_fr (zdis_fr (zfr_up hmm34 (zfr_rf [(17, 2)] _) (zc_65_e (zc_16_1 hc1) b32) rfl) rfl) hRE89m33
          have hRUWm34 := zR_UW_fr (zdis_fr (zfr_up hmm34 (zfr_rf [(17, 2)] _) (zc_65_e (zc_16_1 hc1) b32) rfl) rfl) hRUWm33
          generalize hmm35 : zu_up m34 ((a1 + 1) + 5 + (m4 a1 2)) 2 (m4 152 (m4 a0 4)) = m35
          have hIm35 := zi_up hmm35 hIm34 (zc_65_e (zc_16_1 hc1) b32) zb_17_2 (by omega) (by omega)
          have hFm35 := zfr_up hmm35 hFm34 (zc_65_e (zc_16_1 hc1) b32) rfl
          have hRE89m35 := zR_E89_fr (zdis_fr (zfr_up hmm35 (zfr_rf [(17, 3)] _) (zc_65_e (zc_16_1 hc1) b32) rfl) rfl) hRE89m34
          have hRUWm35 := zR_UW_fr (zdis_fr (zfr_up hmm35 (zfr_rf [(17, 3)] _) (zc_65_e (zc_16_1 hc1) b32) rfl) rfl) hRUWm34
          generalize hmm36 : zu_up m35 ((a1 + 1) + 5 + (m4 a1 2)) 3 (-1) = m36
          have hIm36 := zi_up hmm36 hIm35 (zc_65_e (zc_16_1 hc1) b32) zb_17_3 (by omega) (by omega)
          have hFm36 := zfr_up hmm36 hFm35 (zc_65_e (zc_16_1 hc1) b32) rfl
          have hRE89m36 := zR_E89_fr (zdis_fr (zfr_up hmm36 (zfr_rf [(17, 4)] _) (zc_65_e (zc_16_1 hc1) b32) rfl) rfl) hRE89m35
          have hRUWm36 := zR_UW_fr (zdis_fr (zfr_up hmm36 (zfr_rf [(17, 4)] _) (zc_65_e (zc_16_1 hc1) b32) rfl) rfl) hRUWm35
          have r37 : 0 ≤ (m36 a1 2) ∧ (m36 a1 2) ≤ 16 := zi_rd hIm36 hc1 zb_16_2
          have e38 : (m36 a1 2) = (m4 a1 2) := (Eq.trans (zs_ne hmm36 (Or.inl (zc_ne hc1 (zc_65_e (zc_16_1 hc1) b32) (by decide)))) (Eq.trans (zs_ne hmm35 (Or.inl (zc_ne hc1 (zc_65_e (zc_16_1 hc1) b32) (by decide)))) (Eq.trans (zs_ne hmm34 (Or.inl (zc_ne hc1 (zc_65_e (zc_16_1 hc1) b32) (by decide)))) (zs_ne hmm33 (Or.inl (zc_ne hc1 (zc_65_e (zc_16_1 hc1) b32) (by decide)))))))
          have w39 := zu_w32_id (z := (m36 a1 2) + 1) (by omega) (by omega)
          generalize hmm40 : zu_up m36 a1 2 (zu_w32 ((m36 a1 2) + 1)) = m40
          have hIm40 := zi_up hmm40 hIm36 hc1 zb_16_2 (by omega) (by omega)
          have hFm40 := zfr_up hmm40 hFm36 hc1 rfl
          have hRE89m40 := zR_E89_fr (zdis_fr (zfr_up hmm40 (zfr_rf [(16, 3)] _) hc1 rfl) rfl) hRE89m36
          have hRUWm40 := zR_UW_fr (zdis_fr (zfr_up hmm40 (zfr_rf [(16, 3)] _) hc1 rfl) rfl) hRUWm36
          refine zw_some ?_
          refine zw_b (by omega) ?_
          have r41 : 0 ≤ (m40 a1 2) ∧ (m40 a1 2) ≤ 16 := zi_rd hIm40 hc1 zb_16_2
          have e42 : (m40 a1 2) = (zu_w32 ((m36 a1 2) + 1)) := (zs_eq hmm40)
          have r43 : 0 ≤ (m40 89 2) ∧ (m40 89 2) ≤ 16 := zi_rd hIm40 zq_89 zb_16_2
          have he2 : m40 a1 2 = m40 89 2 := by rw [zone_89 hc1]
          have hRUNm40 : zR_UN m40 := zUN_mv (a := 148) hup rfl (fun _ => (Eq.trans (zs_ne hmm40 (Or.inl (zc_ne zq_149 hc1 (by decide)))) (Eq.trans (zs_ne hmm36 (Or.inl (zc_ne zq_149 (zc_65_e (zc_16_1 hc1) b32) (by decide)))) (Eq.trans (zs_ne hmm35 (Or.inl (zc_ne zq_149 (zc_65_e (zc_16_1 hc1) b32) (by decide)))) (Eq.trans (zs_ne hmm34 (Or.inl (zc_ne zq_149 (zc_65_e (zc_16_1 hc1) b32) (by decide)))) (zs_ne hmm33 (Or.inl (zc_ne zq_149 (zc_65_e (zc_16_1 hc1) b32) (by decide))))))))) (Eq.trans (zs_ne hmm40 (Or.inl (zc_ne zq_148 hc1 (by decide)))) (Eq.trans (zs_ne hmm36 (Or.inl (zc_ne zq_148 (zc_65_e (zc_16_1 hc1) b32) (by decide)))) (Eq.trans (zs_ne hmm35 (Or.inl (zc_ne zq_148 (zc_65_e (zc_16_1 hc1) b32) (by decide)))) (Eq.trans (zs_ne hmm34 (Or.inl (zc_ne zq_148 (zc_65_e (zc_16_1 hc1) b32) (by decide)))) (zs_ne hmm33 (Or.inl (zc_ne zq_148 (zc_65_e (zc_16_1 hc1) b32) (by decide)))))))) (by omega)
          have r44 : 0 ≤ (m40 a0 4) ∧ (m40 a0 4) ≤ 20 := zi_rd hIm40 hc0 zb_23_4
          have e45 : (m40 a0 4) = (m4 a0 4) := (Eq.trans (zs_ne hmm40 (Or.inl (zc_ne hc0 hc1 (by decide)))) (Eq.trans (zs_ne hmm36 (Or.inl (zc_ne hc0 (zc_65_e (zc_16_1 hc1) b32) (by decide)))) (Eq.trans (zs_ne hmm35 (Or.inl (zc_ne hc0 (zc_65_e (zc_16_1 hc1) b32) (by decide)))) (Eq.trans (zs_ne hmm34 (Or.inl (zc_ne hc0 (zc_65_e (zc_16_1 hc1) b32) (by decide)))) (zs_ne hmm33 (Or.inl (zc_ne hc0 (zc_65_e (zc_16_1 hc1) b32) (by decide))))))))
          exact zw_some ⟨hIm40, hFm40, hRE89m40, hRUNm40, hRUWm40, ⟨by omega, by omega⟩, ⟨by omega, by omega⟩⟩
      · refine zw_ite (fun h46 => ?_) (fun h46 => ?_)
        · have b47 : 0 ≤ (m4 a0 4) ∧ (m4 a0 4) < 20 := by omega
          refine zw_if b47 ?_
          have r48 : 0 ≤ (m4 150 (m4 a0 4)) ∧ (m4 150 (m4 a0 4)) ≤ 3 := zi_rd hIm4 zq_150 (zb_82 _)
          have b49 : 0 ≤ (m4 150 (m4 a0 4)) ∧ (m4 150 (m4 a0 4)) < 4 := by omega
          refine zw_if b49 ?_
          have b50 : 0 ≤ (m4 a0 4) ∧ (m4 a0 4) < 20 := by omega
          refine zw_if b50 ?_
          have r51 : 0 ≤ (m4 151 (m4 a0 4)) ∧ (m4 151 (m4 a0 4)) ≤ 47 := zi_rd hIm4 zq_151 (zb_83 _)
          generalize hmm52 : zu_up m4 ((a1 + 2) + 20 + (m4 150 (m4 a0 4))) 1 (m4 151 (m4 a0 4)) = m52
          have hIm52 := zi_up hmm52 hIm4 (zc_66_e (zc_16_3 hc1) b49) zb_18_1 (by omega) (by omega)
          have hFm52 := zfr_up hmm52 hFm4 (zc_66_e (zc_16_3 hc1) b49) rfl
          have hRUWm52 := zR_UW_fr (zdis_fr (zfr_up hmm52 (zfr_rf [(18, 2)] _) (zc_66_e (zc_16_3 hc1) b49) rfl) rfl) hRUWm4
          have r53 : 1 ≤ (m52 50 2) ∧ (m52 50 2) ≤ 48 := zi_rd hIm52 zq_50 zb_11_2
          have r54 : 1 ≤ (m4 50 2) ∧ (m4 50 2) ≤ 48 := zi_rd hIm4 zq_50 zb_11_2
          have hRE89m52 : zE m52 89 50 := zE_up hmm52 (by omega) hRE89m4
          refine zw_b (by omega) ?_
          have r55 : 0 ≤ (m52 a1 2) ∧ (m52 a1 2) ≤ 16 := zi_rd hIm52 hc1 zb_16_2
          have e56 : (m52 a1 2) = (m4 a1 2) := (zs_ne hmm52 (Or.inl (zc_ne hc1 (zc_66_e (zc_16_3 hc1) b49) (by decide))))
          have r57 : 0 ≤ (m52 89 2) ∧ (m52 89 2) ≤ 16 := zi_rd hIm52 zq_89 zb_16_2
          have e58 : (m52 89 2) = (m4 89 2) := (zs_ne hmm52 (Or.inl (zc_ne zq_89 (zc_66_e (zc_16_3 hc1) b49) (by decide))))
          have he2 : m52 a1 2 = m52 89 2 := by rw [zone_89 hc1]
          have hRUNm52 : zR_UN m52 := zUN_mv (a := 148) hup rfl (fun _ => (zs_ne hmm52 (Or.inl (zc_ne zq_149 (zc_66_e (zc_16_3 hc1) b49) (by decide))))) (zs_ne hmm52 (Or.inl (zc_ne zq_148 (zc_66_e (zc_16_3 hc1) b49) (by decide)))) (by omega)
          have r59 : 0 ≤ (m52 a0 4) ∧ (m52 a0 4) ≤ 20 := zi_rd hIm52 hc0 zb_23_4
          have e60 : (m52 a0 4) = (m4 a0 4) := (zs_ne hmm52 (Or.inl (zc_ne hc0 (zc_66_e (zc_16_3 hc1) b49) (by decide))))
          exact zw_some ⟨hIm52, hFm52, hRE89m52, hRUNm52, hRUWm52, ⟨by omega, by omega⟩, ⟨by omega, by omega⟩⟩
        · have b61 : 0 ≤ (m4 a0 4) ∧ (m4 a0 4) < 20 := by omega
          refine zw_if b61 ?_
          have r62 : 0 ≤ (m4 150 (m4 a0 4)) ∧ (m4 150 (m4 a0 4)) ≤ 3 := zi_rd hIm4 zq_150 (zb_82 _)
          generalize hmm63 : zu_up m4 a1 10 (m4 150 (m4 a0 4)) = m63
          have hIm63 := zi_up hmm63 hIm4 hc1 zb_16_10 (by omega) (by omega)
          have hFm63 := zfr_up hmm63 hFm4 hc1 rfl
          have hRE89m63 := zR_E89_fr (zdis_fr (zfr_up hmm63 (zfr_rf [(16, 11)] _) hc1 rfl) rfl) hRE89m4
          have hRUWm63 := zR_UW_fr (zdis_fr (zfr_up hmm63 (zfr_rf [(16, 11)] _) hc1 rfl) rfl) hRUWm4
          refine zw_b (by omega) ?_
          have r64 : 0 ≤ (m63 a1 2) ∧ (m63 a1 2) ≤ 16 := zi_rd hIm63 hc1 zb_16_2
          have e65 : (m63 a1 2) = (m4 a1 2) := (zs_ne hmm63 (Or.inr (by decide)))
          have r66 : 0 ≤ (m63 89 2) ∧ (m63 89 2) ≤ 16 := zi_rd hIm63 zq_89 zb_16_2
          have e67 : (m63 89 2) = (m4 89 2) := (zs_ne hmm63 (Or.inr (by decide)))
          have he2 : m63 a1 2 = m63 89 2 := by rw [zone_89 hc1]
          have hRUNm63 : zR_UN m63 := zUN_mv (a := 148) hup rfl (fun _ => (zs_ne hmm63 (Or.inl (zc_ne zq_149 hc1 (by decide))))) (zs_ne hmm63 (Or.inl (zc_ne zq_148 hc1 (by decide)))) (by omega)
          have r68 : 0 ≤ (m63 a0 4) ∧ (m63 a0 4) ≤ 20 := zi_rd hIm63 hc0 zb_23_4
          have e69 : (m63 a0 4) = (m4 a0 4) := (zs_ne hmm63 (Or.inl (zc_ne hc0 hc1 (by decide))))
          exact zw_some ⟨hIm63, hFm63, hRE89m63, hRUNm63, hRUWm63, ⟨by omega, by omega⟩, ⟨by omega, by omega⟩⟩
  · refine zw_b (by omega) ?_
    exact zw_some ⟨hIm0, hFm0, hRE89m0, hRUNm0, hRUWm0, ⟨by omega, by omega⟩, ⟨by omega, by omega⟩⟩
set_option maxHeartbeats 4000000 in
theorem zk_24 (n : Nat) {a0 a1 : Int} {m0 : zu_m} (hIm0 : zi_I m0) (hc0 : zcls a0 = 11) (ha1 : 0 ≤ a1 ∧ a1 ≤ 47)    (hRK54m0 : zR_K54 m0) : zw (zu_call (zt_T n) 24 [(8, a0), (0, a1)] m0) (fun v m => zi_I m ∧ zfr [(56, 0), (59, 1), (59, 2), (59, 3), (59, 4), (59, 5), (59, 6), (59, 7)] m0 m ∧ zR_K54 m ∧ ((-9223372036854775808) ≤ v ∧ v ≤ 9223372036854775807)) := by
  have hFm0 : zfr [(56, 0), (59, 1), (59, 2), (59, 3), (59, 4), (59, 5), (59, 6), (59, 7)] m0 m0 := zfr_rf _ _
  refine zw_eq (zu_call_at (zt_T n) (zm_24 n) (zdp_24 n) _ _ _ _ _ rfl (zr_24_0 n _ _ a0 a1 m0)) ?_
  refine zw_bd (zw_mono (zk_25 n hIm0 hc0 ⟨by omega, by omega⟩ ⟨by omega, by omega⟩ ⟨by omega, by omega⟩) (fun v2 m1 hqm1 => ?_))
  obtain ⟨hIm1, hfm1, hvm1⟩ := hqm1
  have hFm1 := zfr_tr hFm0 hfm1 rfl
  have hRK54m1 := zR_K54_fr (zdis_fr hfm1 rfl) hRK54m0
  refine zw_bd (zw_mono (zk_26 n hIm1 (zc_11_9 hc0) (zc_11_12 hc0) ⟨by omega, by omega⟩ hRK54m1) (fun v4 m3 hqm3 => ?_))
  obtain ⟨hIm3, hfm3, hvm3⟩ := hqm3
  have hFm3 := zfr_tr hFm1 hfm3 rfl
  obtain ⟨hRK54m3, hvm3⟩ := hvm3
  exact zw_some ⟨hIm3, hFm3, hRK54m3, ⟨by omega, by omega⟩⟩
set_option maxHeartbeats 4000000 in
theorem zk_59 (n : Nat) {a0 a1 : Int} {m0 : zu_m} (hIm0 : zi_I m0) (hc0 : zcls a0 = 2) (ha1 : (-2147483648) ≤ a1 ∧ a1 ≤ 2147483647)     : zw (zu_call (zt_T n) 59 [(5, a0), (0, a1)] m0) (fun v m => zi_I m ∧ zfr [] m0 m ∧ ((-1) ≤ v ∧ v ≤ 47)) := by
  have hFm0 : zfr [] m0 m0 := zfr_rf _ _
  refine zw_eq (zu_call_at (zt_T n) (zm_59 n) (zdp_59 n) _ _ _ _ _ rfl (zr_59_0 n _ _ a0 a1 m0)) ?_
  refine zw_bd (zw_eq (zu_call_at (zt_T n) (zm_211 n) (zdp_211 n) _ _ _ _ _ rfl (zr_211_0 n _ _ 89 a1 m0)) ?_)
  refine zw_ite (fun h1 => ?_) (fun h1 => ?_)
  · refine zw_b (by omega) ?_
    refine zw_some ?_
    refine zw_ite (fun h2 => ?_) (fun h2 => ?_)
    · exfalso; omega
    · exact zw_some ⟨hIm0, hFm0, ⟨by omega, by omega⟩⟩
  · have r3 : 0 ≤ (m0 89 4) ∧ (m0 89 4) ≤ 4 := zi_rd hIm0 zq_89 zb_16_4
    refine zw_ite (fun h4 => ?_) (fun h4 => ?_)
    · refine zw_b (by omega) ?_
      refine zw_some ?_
      refine zw_ite (fun h5 => ?_) (fun h5 => ?_)
      · exfalso; omega
      · exact zw_some ⟨hIm0, hFm0, ⟨by omega, by omega⟩⟩
    · refine zw_b (by omega) ?_
      refine zw_some ?_
      refine zw_ite (fun h6 => ?_) (fun h6 => ?_)
      · have b7 : 0 ≤ a1 ∧ a1 < 4 := by omega
        refine zw_if b7 ?_
        have r8 : 0 ≤ (m0 ((89 + 2) + 20 + a1) 1) ∧ (m0 ((89 + 2) + 20 + a1) 1) ≤ 47 := zi_rd hIm0 (zc_66_e (zc_16_3 zq_89) b7) zb_18_1
        refine zw_bd (zw_mono (zk_223_16 n hIm0 zq_89 ⟨by omega, by omega⟩ ⟨by omega, by omega⟩) (fun v10 m9 hqm9 => ?_))
        obtain ⟨hIm9, hfm9, hvm9⟩ := hqm9
        have hFm9 := zfr_tr hFm0 hfm9 rfl
        exact zw_some ⟨hIm9, hFm9, ⟨by omega, by omega⟩⟩
      · exfalso; omega
set_option maxHeartbeats 4000000 in
theorem zk_67 (n : Nat) {a0 a1 : Int} {m0 : zu_m} (hIm0 : zi_I m0) (hc0 : zcls a0 = 2) (ha1 : (-2147483648) ≤ a1 ∧ a1 ≤ 2147483647)     : zw (zu_call (zt_T n) 67 [(5, a0), (0, a1)] m0) (fun v m => zi_I m ∧ zfr [] m0 m ∧ ((-9223372036854775808) ≤ v ∧ v ≤ 9223372036854775807)) := by
  have hFm0 : zfr [] m0 m0 := zfr_rf _ _
  refine zw_eq (zu_call_at (zt_T n) (zm_67 n) (zdp_67 n) _ _ _ _ _ rfl (zr_67_0 n _ _ a0 a1 m0)) ?_
  refine zw_ite (fun h1 => ?_) (fun h1 => ?_)
  · exact zw_some ⟨hIm0, hFm0, ⟨by omega, by omega⟩⟩
  · refine zw_ite (fun h2 => ?_) (fun h2 => ?_)
    · refine zw_ite (fun h3 => ?_) (fun h3 => ?_)
      · refine zw_bd (zw_mono (zk_255 n hIm0 zq_50 ⟨by omega, by omega⟩) (fun v5 m4 hqm4 => ?_))
        obtain ⟨hIm4, hfm4, hvm4⟩ := hqm4
        have hFm4 := zfr_tr hFm0 hfm4 rfl
        exact zw_some ⟨hIm4, hFm4, ⟨by omega, by omega⟩⟩
      · refine zw_bd (zw_mono (zk_255 n hIm0 zq_50 ⟨by omega, by omega⟩) (fun v7 m6 hqm6 => ?_))
        obtain ⟨hIm6, hfm6, hvm6⟩ := hqm6
        have hFm6 := zfr_tr hFm0 hfm6 rfl
        exact zw_some ⟨hIm6, hFm6, ⟨by omega, by omega⟩⟩
    · exact zw_some ⟨hIm0, hFm0, ⟨by omega, by omega⟩⟩
set_option maxHeartbeats 4000000 in
theorem zk_78 (n : Nat) {a0 : Int} {m0 : zu_m} (hIm0 : zi_I m0) (hc0 : zcls a0 = 2)     (hRE89m0 : zE m0 89 50) (hRUNm0 : zR_UN m0) (hRUWm0 : zR_UW m0) : zw (zu_call (zt_T n) 78 [(5, a0)] m0) (fun v m => zi_I m ∧ zfr [(16, 3), (16, 11), (17, 1), (17, 2), (17, 3), (17, 4), (18, 2), (23, 5)] m0 m ∧ zE m 89 50 ∧ zR_UN m ∧ zR_UW m ∧ ((-1) ≤ v ∧ v ≤ 20)) := by
  have hFm0 : zfr [(16, 3), (16, 11), (17, 1), (17, 2), (17, 3), (17, 4), (18, 2), (23, 5)] m0 m0 := zfr_rf _ _
  refine zw_eq (zu_call_at (zt_T n) (zm_78 n) (zdp_78 n) _ _ _ _ _ rfl (zr_78_0 n _ _ a0 m0)) ?_
  refine zw_bd (zw_mono (zk_311 n hIm0 zq_148 zq_89 hRE89m0 hRUNm0 hRUWm0) (fun v2 m1 hqm1 => ?_))
  obtain ⟨hIm1, hfm1, hvm1⟩ := hqm1
  have hFm1 := zfr_tr hFm0 hfm1 rfl
  obtain ⟨hRE89m1, hRUNm1, hRUWm1, hvm1⟩ := hvm1
  refine zw_ite (fun h3 => ?_) (fun h3 => ?_)
  · exact zw_some ⟨hIm1, hFm1, hRE89m1, hRUNm1, hRUWm1, ⟨by omega, by omega⟩⟩
  · exact zw_some ⟨hIm1, hFm1, hRE89m1, hRUNm1, hRUWm1, ⟨by omega, by omega⟩⟩
set_option maxHeartbeats 4000000 in
theorem zk_79 (n : Nat) {a0 : Int} {m0 : zu_m} (hIm0 : zi_I m0) (hc0 : zcls a0 = 2)     (hRE89m0 : zE m0 89 50) : zw (zu_call (zt_T n) 79 [(5, a0)] m0) (fun v m => zi_I m ∧ zfr [(2, 10), (19, 3), (19, 5), (19, 9), (19, 10), (19, 11), (19, 12), (20, 1), (20, 2), (20, 3), (20, 4), (21, 1), (21, 2), (21, 3), (21, 4), (21, 5), (21, 6), (21, 7), (21, 8), (72, 0), (73, 0)] m0 m ∧ (m 3 9 = 1 → zE m 115 50) ∧ zE m 89 50 ∧ zE m 115 50 ∧ (0 ≤ v ∧ v ≤ 9999) ∧ (1 ≤ m a0 9 ∧ m a0 9 ≤ 1)) := by
  have hFm0 : zfr [(2, 10), (19, 3), (19, 5), (19, 9), (19, 10), (19, 11), (19, 12), (20, 1), (20, 2), (20, 3), (20, 4), (21, 1), (21, 2), (21, 3), (21, 4), (21, 5), (21, 6), (21, 7), (21, 8), (72, 0), (73, 0)] m0 m0 := zfr_rf _ _
  refine zw_eq (zu_call_at (zt_T n) (zm_79 n) (zdp_79 n) _ _ _ _ _ rfl (zr_79_0 n _ _ a0 m0)) ?_
  refine zw_bd (zw_mono (zk_22_19_16 n hIm0 zq_115 zq_89) (fun v2 m1 hqm1 => ?_))
  obtain ⟨hIm1, hfm1, hvm1⟩ := hqm1
  have hFm1 := zfr_tr hFm0 hfm1 rfl
  have hRE89m1 := zR_E89_fr (zdis_fr hfm1 rfl) hRE89m0
  have hRESm1 : zE m1 115 50 := (hvm1.2) hRE89m0
  refine zw_b (by omega) ?_
  generalize hmm3 : zu_up m1 a0 9 1 = m3
  have hIm3 := zi_up hmm3 hIm1 hc0 zb_2_9 (by omega) (by omega)
  have hFm3 := zfr_up hmm3 hFm1 hc0 rfl
  have hRE89m3 := zR_E89_fr (zdis_fr (zfr_up hmm3 (zfr_rf [(2, 10)] _) hc0 rfl) rfl) hRE89m1
  have hRESm3 := zR_ES_fr (zdis_fr (zfr_up hmm3 (zfr_rf [(2, 10)] _) hc0 rfl) rfl) hRESm1
  have hRE115m3 : (m3 3 9 = 1 → zE m3 115 50) := fun _ => hRESm3
  have r4 : 0 ≤ (m3 89 8) ∧ (m3 89 8) ≤ 9999 := zi_rd hIm3 zq_89 zb_16_8
  have r5 : 0 ≤ (m3 a0 9) ∧ (m3 a0 9) ≤ 1 := zi_rd hIm3 hc0 zb_2_9
  have e6 : (m3 a0 9) = 1 := (zs_eq hmm3)
  exact zw_some ⟨hIm3, hFm3, hRE115m3, hRE89m3, hRESm3, ⟨by omega, by omega⟩, ⟨by omega, by omega⟩⟩

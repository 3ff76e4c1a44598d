set_option maxHeartbeats 4000000 in
theorem zl_188_28_138 (n : Nat) {a0 a1 a2 : Int} {m0 : zu_m} (hc0 : zcls a0 = 28) (hc1 : zcls a1 = 138) (hmd2 : a2 % 22 = 0)  : ∀ k : Nat, (∀ (x3 : Int) (mh : zu_m), zi_I mh → zfr [(138, 0)] m0 mh → (0 ≤ a2 ∧ a2 ≤ 0) → (0 ≤ x3 ∧ x3 ≤ 4) → (zputp mh a1 a2 x3) → (zout m0 mh a1 a2) → (4 - x3) * 1 + 17 < (k : Int) → zw (zu_ex (zt_T n) 188 20 [(40, a0), (52, a1), (0, a2), (0, x3)] [] mh) (fun v m => zi_I m ∧ zfr [(138, 0)] m0 m ∧ True ∧ (zputp m a1 a2 4) ∧ (zout m0 m a1 a2))) ∧ (∀ (x3 : Int) (mh : zu_m), zi_I mh → zfr [(138, 0)] m0 mh → (0 ≤ a2 ∧ a2 ≤ 0) → (0 ≤ x3 ∧ x3 ≤ 16) → (zputp mh a1 a2 4) → (zout m0 mh a1 a2) → (16 - x3) * 1 + 0 < (k : Int) → zw (zu_ex (zt_T n) 188 46 [(40, a0), (52, a1), (0, a2), (0, x3)] [] mh) (fun v m => zi_I m ∧ zfr [(138, 0)] m0 m ∧ True ∧ (zputp m a1 a2 4) ∧ (zout m0 m a1 a2))) := by
  intro k
  induction k with
  | zero => exact ⟨fun x3 mh hImh hFmh hba2 hbx3 hH0 hH1 hM => by exfalso; omega, fun x3 mh hImh hFmh hba2 hbx3 hH0 hH1 hM => by exfalso; omega⟩
  | succ k ih =>
    refine ⟨?_, ?_⟩
    · intro x3 mh hImh hFmh hba2 hbx3 hH0 hH1 hM
      refine zw_eq (zu_rega_at (zt_T n) (zm_188 n) (zdp_188 n) _ _ _ _ _ _ (zr_188b_20 n _ _ a0 a1 a2 x3 mh)) ?_
      refine zw_ite (fun h1 => ?_) (fun h1 => ?_)
      · have hM : (16 - 0) * 1 + 0 < (k : Int) := by omega
        exact ih.2 0 mh hImh hFmh ⟨by omega, by omega⟩ ⟨by omega, by omega⟩ (zputp_x hH0 (by omega)) hH1 hM
      · have w2 := zu_w32_id (z := a2 + 2) (by omega) (by omega)
        have w3 := zu_w32_id (z := (zu_w32 (a2 + 2)) + x3) (by omega) (by omega)
        have b4 : 0 ≤ x3 ∧ x3 < 8 := by omega
        refine zw_if b4 ?_
        have r5 : 0 ≤ (mh 217 x3) ∧ (mh 217 x3) ≤ 47 := zi_rd hImh zq_217 (zb_126 _)
        have b6 : 0 ≤ (zu_w32 ((zu_w32 (a2 + 2)) + x3)) ∧ (zu_w32 ((zu_w32 (a2 + 2)) + x3)) < 22 := by omega
        refine zw_if b6 ?_
        generalize hmm7 : zu_up mh a1 (zu_w32 ((zu_w32 (a2 + 2)) + x3)) (mh 217 x3) = m7
        have hIm7 := zi_upr (m := 22) (r0 := 2) (r1 := 5) (lo := 0) (hi := 47) hmm7 hImh hc1 (by omega) (by decide +kernel) (by omega) (by omega)
        have hFm7 := zfr_up hmm7 hFmh hc1 rfl
        have w8 := zu_w32_id (z := x3 + 1) (by omega) (by omega)
        have hM : (4 - (zu_w32 (x3 + 1))) * 1 + 17 < (k : Int) := by omega
        exact ih.1 (zu_w32 (x3 + 1)) m7 hIm7 hFm7 ⟨by omega, by omega⟩ ⟨by omega, by omega⟩ (zputp_s hmm7 (Or.inr (zone_229 hc1)) (by omega) rfl (by omega) (by omega) hH0) (zout_s hmm7 (by omega) (by omega) hH1) hM
    · intro x3 mh hImh hFmh hba2 hbx3 hH0 hH1 hM
      refine zw_eq (zu_rega_at (zt_T n) (zm_188 n) (zdp_188 n) _ _ _ _ _ _ (zr_188b_46 n _ _ a0 a1 a2 x3 mh)) ?_
      refine zw_ite (fun h9 => ?_) (fun h9 => ?_)
      · exact zw_some ⟨hImh, hFmh, trivial, hH0, hH1⟩
      · have w10 := zu_w32_id (z := a2 + 6) (by omega) (by omega)
        have w11 := zu_w32_id (z := (zu_w32 (a2 + 6)) + x3) (by omega) (by omega)
        have b12 : 0 ≤ x3 ∧ x3 < 36 := by omega
        refine zw_if b12 ?_
        have r13 : 0 ≤ (mh 197 x3) ∧ (mh 197 x3) ≤ 47 := zi_rd hImh zq_197 (zb_106 _)
        have b14 : 0 ≤ x3 ∧ x3 < 36 := by omega
        refine zw_if b14 ?_
        have r15 : 0 ≤ (mh 198 x3) ∧ (mh 198 x3) ≤ 3 := zi_rd hImh zq_198 (zb_107 _)
        have b16 : 0 ≤ x3 ∧ x3 < 36 := by omega
        refine zw_if b16 ?_
        have r17 : 0 ≤ (mh 199 x3) ∧ (mh 199 x3) ≤ 9 := zi_rd hImh zq_199 (zb_108 _)
        have w18 := zu_w32_id (z := 4 * (mh 199 x3)) (by omega) (by omega)
        have w19 := zu_w32_id (z := (mh 198 x3) + (zu_w32 (4 * (mh 199 x3)))) (by omega) (by omega)
        have w20 := zu_w32_id (z := 48 * (zu_w32 ((mh 198 x3) + (zu_w32 (4 * (mh 199 x3)))))) (by omega) (by omega)
        have w21 := zu_w32_id (z := (mh 197 x3) + (zu_w32 (48 * (zu_w32 ((mh 198 x3) + (zu_w32 (4 * (mh 199 x3)))))))) (by omega) (by omega)
        have b22 : 0 ≤ (zu_w32 ((zu_w32 (a2 + 6)) + x3)) ∧ (zu_w32 ((zu_w32 (a2 + 6)) + x3)) < 22 := by omega
        refine zw_if b22 ?_
        generalize hmm23 : zu_up mh a1 (zu_w32 ((zu_w32 (a2 + 6)) + x3)) (zu_w32 ((mh 197 x3) + (zu_w32 (48 * (zu_w32 ((mh 198 x3) + (zu_w32 (4 * (mh 199 x3))))))))) = m23
        have hIm23 := zi_upr (m := 22) (r0 := 6) (r1 := 21) (lo := 0) (hi := 1919) hmm23 hImh hc1 (by omega) (by decide +kernel) (by omega) (by omega)
        have hFm23 := zfr_up hmm23 hFmh hc1 rfl
        have w24 := zu_w32_id (z := x3 + 1) (by omega) (by omega)
        have hM : (16 - (zu_w32 (x3 + 1))) * 1 + 0 < (k : Int) := by omega
        exact ih.2 (zu_w32 (x3 + 1)) m23 hIm23 hFm23 ⟨by omega, by omega⟩ ⟨by omega, by omega⟩ (zputp_hi hmm23 (Or.inr (zone_229 hc1)) (by omega) (by omega) hH0) (zout_s hmm23 (by omega) (by omega) hH1) hM
set_option maxHeartbeats 4000000 in
theorem zk_188_28_138 (n : Nat) {a0 a1 a2 : Int} {m0 : zu_m} (hIm0 : zi_I m0) (hc0 : zcls a0 = 28) (hc1 : zcls a1 = 138) (ha2 : 0 ≤ a2 ∧ a2 ≤ 0) (hmd2 : a2 % 22 = 0)    : zw (zu_call (zt_T n) 188 [(40, a0), (52, a1), (0, a2)] m0) (fun v m => zi_I m ∧ zfr [(138, 0)] m0 m ∧ True ∧ (zputp m a1 a2 4) ∧ (zout m0 m a1 a2)) := by
  have hFm0 : zfr [(138, 0)] m0 m0 := zfr_rf _ _
  refine zw_eq (zu_call_at (zt_T n) (zm_188 n) (zdp_188 n) _ _ _ _ _ rfl (zr_188b_0 n _ _ a0 a1 a2 m0)) ?_
  have b25 : 0 ≤ (0 : Int) ∧ (0 : Int) < 2 := by omega
  refine zw_if b25 ?_
  have r26 : 0 ≤ (m0 216 0) ∧ (m0 216 0) ≤ 16 := zi_rdr (m := 2) (r0 := 0) (r1 := 0) hIm0 zq_216 (by omega) (by decide +kernel)
  have b27 : 0 ≤ a2 ∧ a2 < 22 := by omega
  refine zw_if b27 ?_
  generalize hmm28 : zu_up m0 a1 a2 (m0 216 0) = m28
  have hIm28 := zi_upr (m := 22) (r0 := 0) (r1 := 0) (lo := 0) (hi := 16) hmm28 hIm0 hc1 (by omega) (by decide +kernel) (by omega) (by omega)
  have hFm28 := zfr_up hmm28 hFm0 hc1 rfl
  have w29 := zu_w32_id (z := a2 + 1) (by omega) (by omega)
  have r30 : (-2147483648) ≤ (m28 a0 62) ∧ (m28 a0 62) ≤ 2147483647 := zi_rd hIm28 hc0 zb_28_62
  have b31 : 0 ≤ (zu_w32 (a2 + 1)) ∧ (zu_w32 (a2 + 1)) < 22 := by omega
  refine zw_if b31 ?_
  generalize hmm32 : zu_up m28 a1 (zu_w32 (a2 + 1)) (m28 a0 62) = m32
  have hIm32 := zi_upr (m := 22) (r0 := 1) (r1 := 1) (lo := (-2147483648)) (hi := 2147483647) hmm32 hIm28 hc1 (by omega) (by decide +kernel) (by omega) (by omega)
  have hFm32 := zfr_up hmm32 hFm28 hc1 rfl
  have hM : (4 - 0) * 1 + 17 < ((22 : Nat) : Int) := by omega
  exact (zl_188_28_138 n (m0 := m0) hc0 hc1 hmd2 22).1 0 m32 hIm32 hFm32 ⟨by omega, by omega⟩ ⟨by omega, by omega⟩ (zputp_0 hmm28 hmm32 (Or.inr (zone_229 hc1)) (by omega) rfl) (zout_s hmm32 (by omega) (by omega) (zout_s hmm28 (by omega) (by omega) (fun _ _ => rfl))) hM
set_option maxHeartbeats 4000000 in
theorem zl_189_28_137 (n : Nat) {a0 a1 a2 : Int} {m0 : zu_m} (hc0 : zcls a0 = 28) (hc1 : zcls a1 = 137) (hmd2 : a2 % 22 = 0) (hxp0 : zrow m0 a1 a2) : ∀ k : Nat, (∀ (x3 : Int) (mh : zu_m), zi_I mh → zfr [(28, 63), (106, 0), (107, 0), (108, 0), (125, 1), (126, 0)] m0 mh → (0 ≤ a2 ∧ a2 ≤ 418) → (0 ≤ x3 ∧ x3 ≤ 4) → (zE1 mh 0) → (zR_TE mh) → (4 - x3) * 1 + 17 < (k : Int) → zw (zu_ex (zt_T n) 189 20 [(40, a0), (51, a1), (0, a2), (0, x3)] [] mh) (fun v m => zi_I m ∧ zfr [(28, 63), (106, 0), (107, 0), (108, 0), (125, 1), (126, 0)] m0 m ∧ zE1 m 0 ∧ zR_TE m ∧ True)) ∧ (∀ (x3 : Int) (mh : zu_m), zi_I mh → zfr [(28, 63), (106, 0), (107, 0), (108, 0), (125, 1), (126, 0)] m0 mh → (0 ≤ a2 ∧ a2 ≤ 418) → (0 ≤ x3 ∧ x3 ≤ 16) → (zE1 mh 0) → (zR_TE mh) → (16 - x3) * 1 + 0 < (k : Int) → zw (zu_ex (zt_T n) 189 46 [(40, a0), (51, a1), (0, a2), (0, x3)] [] mh) (fun v m => zi_I m ∧ zfr [(28, 63), (106, 0), (107, 0), (108, 0), (125, 1), (126, 0)] m0 m ∧ zE1 m 0 ∧ zR_TE m ∧ True)) := by
  intro k
  induction k with
  | zero => exact ⟨fun x3 mh hImh hFmh hba2 hbx3 hRSEmh hRTEmh hM => by exfalso; omega, fun x3 mh hImh hFmh hba2 hbx3 hRSEmh hRTEmh hM => by exfalso; omega⟩
  | succ k ih =>
    refine ⟨?_, ?_⟩
    · intro x3 mh hImh hFmh hba2 hbx3 hRSEmh hRTEmh hM
      refine zw_eq (zu_rega_at (zt_T n) (zm_189 n) (zdp_189 n) _ _ _ _ _ _ (zr_189_20 n _ _ a0 a1 a2 x3 mh)) ?_
      refine zw_ite (fun h1 => ?_) (fun h1 => ?_)
      · have hM : (16 - 0) * 1 + 0 < (k : Int) := by omega
        exact ih.2 0 mh hImh hFmh ⟨by omega, by omega⟩ ⟨by omega, by omega⟩ hRSEmh hRTEmh hM
      · have w2 := zu_w32_id (z := a2 + 2) (by omega) (by omega)
        have w3 := zu_w32_id (z := (zu_w32 (a2 + 2)) + x3) (by omega) (by omega)
        have b4 : 0 ≤ (zu_w32 ((zu_w32 (a2 + 2)) + x3)) ∧ (zu_w32 ((zu_w32 (a2 + 2)) + x3)) < 440 := by omega
        refine zw_if b4 ?_
        have r5 : 0 ≤ (mh a1 (zu_w32 ((zu_w32 (a2 + 2)) + x3))) ∧ (mh a1 (zu_w32 ((zu_w32 (a2 + 2)) + x3))) ≤ 47 := zi_rdr (m := 22) (r0 := 2) (r1 := 5) hImh hc1 (by omega) (by decide +kernel)
        have r7 : 0 ≤ (mh a0 15) ∧ (mh a0 15) ≤ 4 := zi_rd hImh hc0 zb_28_15
        have r8 : 1 ≤ (mh a0 12) ∧ (mh a0 12) ≤ 8 := zi_rd hImh hc0 zb_28_12
        have r9 : 1 ≤ (mh a0 13) ∧ (mh a0 13) ≤ 6 := zi_rd hImh hc0 zb_28_13
        have s6 : (mh a1 (zu_w32 ((zu_w32 (a2 + 2)) + x3))) = m0 a1 (zu_w32 ((zu_w32 (a2 + 2)) + x3)) := zfr_ap hFmh hc1 rfl
        have s10 := zrow_rd (c := x3) (j := (zu_w32 ((zu_w32 (a2 + 2)) + x3))) hxp0 (zone_190 hc0) (by omega) (by omega) (by omega)
        have hte : mh a0 15 = m0 a0 15 := zfr_ap hFmh hc0 rfl
        have htp := zprod (a := a0) (m := m0) (m' := mh) (zfr_ap hFmh hc0 rfl) (zfr_ap hFmh hc0 rfl)
        have b11 : 0 ≤ x3 ∧ x3 < 8 := by omega
        refine zw_if b11 ?_
        generalize hmm12 : zu_up mh 217 x3 (mh a1 (zu_w32 ((zu_w32 (a2 + 2)) + x3))) = m12
        have hIm12 := zi_up hmm12 hImh zq_217 (zb_126 _) (by omega) (by omega)
        have hFm12 := zfr_up hmm12 hFmh zq_217 rfl
        have hRTEm12 := zR_TE_fr (zdis_fr (zfr_up hmm12 (zfr_rf [(126, 0)] _) zq_217 rfl) rfl) hRTEmh
        have hRSEm12 := zE1_upx (b' := 0) (x := x3) hmm12 (zone_190 hc0) (by omega) (by omega) (by omega) (by omega) hRSEmh
        have w13 := zu_w32_id (z := x3 + 1) (by omega) (by omega)
        have hM : (4 - (zu_w32 (x3 + 1))) * 1 + 17 < (k : Int) := by omega
        exact ih.1 (zu_w32 (x3 + 1)) m12 hIm12 hFm12 ⟨by omega, by omega⟩ ⟨by omega, by omega⟩ hRSEm12 hRTEm12 hM
    · intro x3 mh hImh hFmh hba2 hbx3 hRSEmh hRTEmh hM
      refine zw_eq (zu_rega_at (zt_T n) (zm_189 n) (zdp_189 n) _ _ _ _ _ _ (zr_189_46 n _ _ a0 a1 a2 x3 mh)) ?_
      refine zw_ite (fun h14 => ?_) (fun h14 => ?_)
      · exact zw_some ⟨hImh, hFmh, hRSEmh, hRTEmh, trivial⟩
      · have w15 := zu_w32_id (z := a2 + 6) (by omega) (by omega)
        have w16 := zu_w32_id (z := (zu_w32 (a2 + 6)) + x3) (by omega) (by omega)
        have b17 : 0 ≤ (zu_w32 ((zu_w32 (a2 + 6)) + x3)) ∧ (zu_w32 ((zu_w32 (a2 + 6)) + x3)) < 440 := by omega
        refine zw_if b17 ?_
        have r18 : 0 ≤ (mh a1 (zu_w32 ((zu_w32 (a2 + 6)) + x3))) ∧ (mh a1 (zu_w32 ((zu_w32 (a2 + 6)) + x3))) ≤ 1919 := zi_rdr (m := 22) (r0 := 6) (r1 := 21) hImh hc1 (by omega) (by decide +kernel)
        refine zw_nif (by omega) ?_
        have d19 : Int.tmod (mh a1 (zu_w32 ((zu_w32 (a2 + 6)) + x3))) 48 = (mh a1 (zu_w32 ((zu_w32 (a2 + 6)) + x3))) % 48 := Int.tmod_eq_emod_of_nonneg (by omega)
        have b20 : 0 ≤ x3 ∧ x3 < 36 := by omega
        refine zw_if b20 ?_
        generalize hmm21 : zu_up mh 197 x3 (Int.tmod (mh a1 (zu_w32 ((zu_w32 (a2 + 6)) + x3))) 48) = m21
        have hIm21 := zi_up hmm21 hImh zq_197 (zb_106 _) (by omega) (by omega)
        have hFm21 := zfr_up hmm21 hFmh zq_197 rfl
        have hRSEm21 := zR_SE_fr (zdis_fr (zfr_up hmm21 (zfr_rf [(106, 0)] _) zq_197 rfl) rfl) hRSEmh
        have hRTEm21 := zR_TE_fr (zdis_fr (zfr_up hmm21 (zfr_rf [(106, 0)] _) zq_197 rfl) rfl) hRTEmh
        have b22 : 0 ≤ (zu_w32 ((zu_w32 (a2 + 6)) + x3)) ∧ (zu_w32 ((zu_w32 (a2 + 6)) + x3)) < 440 := by omega
        refine zw_if b22 ?_
        have r23 : 0 ≤ (m21 a1 (zu_w32 ((zu_w32 (a2 + 6)) + x3))) ∧ (m21 a1 (zu_w32 ((zu_w32 (a2 + 6)) + x3))) ≤ 1919 := zi_rdr (m := 22) (r0 := 6) (r1 := 21) hIm21 hc1 (by omega) (by decide +kernel)
        have e24 : (m21 a1 (zu_w32 ((zu_w32 (a2 + 6)) + x3))) = (mh a1 (zu_w32 ((zu_w32 (a2 + 6)) + x3))) := (zs_ne hmm21 (Or.inl (zc_ne hc1 zq_197 (by decide))))
        refine zw_nif (by omega) ?_
        have d25 : Int.tdiv (m21 a1 (zu_w32 ((zu_w32 (a2 + 6)) + x3))) 48 = (m21 a1 (zu_w32 ((zu_w32 (a2 + 6)) + x3))) / 48 := Int.tdiv_eq_ediv_of_nonneg (by omega)
        have w26 := zu_w32_id (z := Int.tdiv (m21 a1 (zu_w32 ((zu_w32 (a2 + 6)) + x3))) 48) (by omega) (by omega)
        refine zw_nif (by omega) ?_
        have d27 : Int.tmod (zu_w32 (Int.tdiv (m21 a1 (zu_w32 ((zu_w32 (a2 + 6)) + x3))) 48)) 4 = (zu_w32 (Int.tdiv (m21 a1 (zu_w32 ((zu_w32 (a2 + 6)) + x3))) 48)) % 4 := Int.tmod_eq_emod_of_nonneg (by omega)
        have b28 : 0 ≤ x3 ∧ x3 < 36 := by omega
        refine zw_if b28 ?_
        generalize hmm29 : zu_up m21 198 x3 (Int.tmod (zu_w32 (Int.tdiv (m21 a1 (zu_w32 ((zu_w32 (a2 + 6)) + x3))) 48)) 4) = m29
        have hIm29 := zi_up hmm29 hIm21 zq_198 (zb_107 _) (by omega) (by omega)
        have hFm29 := zfr_up hmm29 hFm21 zq_198 rfl
        have hRSEm29 := zR_SE_fr (zdis_fr (zfr_up hmm29 (zfr_rf [(107, 0)] _) zq_198 rfl) rfl) hRSEm21
        have hRTEm29 := zR_TE_fr (zdis_fr (zfr_up hmm29 (zfr_rf [(107, 0)] _) zq_198 rfl) rfl) hRTEm21
        have b30 : 0 ≤ (zu_w32 ((zu_w32 (a2 + 6)) + x3)) ∧ (zu_w32 ((zu_w32 (a2 + 6)) + x3)) < 440 := by omega
        refine zw_if b30 ?_
        have r31 : 0 ≤ (m29 a1 (zu_w32 ((zu_w32 (a2 + 6)) + x3))) ∧ (m29 a1 (zu_w32 ((zu_w32 (a2 + 6)) + x3))) ≤ 1919 := zi_rdr (m := 22) (r0 := 6) (r1 := 21) hIm29 hc1 (by omega) (by decide +kernel)
        have e32 : (m29 a1 (zu_w32 ((zu_w32 (a2 + 6)) + x3))) = (m21 a1 (zu_w32 ((zu_w32 (a2 + 6)) + x3))) := (zs_ne hmm29 (Or.inl (zc_ne hc1 zq_198 (by decide))))
        refine zw_nif (by omega) ?_
        have d33 : Int.tdiv (m29 a1 (zu_w32 ((zu_w32 (a2 + 6)) + x3))) 192 = (m29 a1 (zu_w32 ((zu_w32 (a2 + 6)) + x3))) / 192 := Int.tdiv_eq_ediv_of_nonneg (by omega)
        have w34 := zu_w32_id (z := Int.tdiv (m29 a1 (zu_w32 ((zu_w32 (a2 + 6)) + x3))) 192) (by omega) (by omega)
        have b35 : 0 ≤ x3 ∧ x3 < 36 := by omega
        refine zw_if b35 ?_
        generalize hmm36 : zu_up m29 199 x3 (zu_w32 (Int.tdiv (m29 a1 (zu_w32 ((zu_w32 (a2 + 6)) + x3))) 192)) = m36
        have hIm36 := zi_up hmm36 hIm29 zq_199 (zb_108 _) (by omega) (by omega)
        have hFm36 := zfr_up hmm36 hFm29 zq_199 rfl
        have hRSEm36 := zR_SE_fr (zdis_fr (zfr_up hmm36 (zfr_rf [(108, 0)] _) zq_199 rfl) rfl) hRSEm29
        have hRTEm36 := zR_TE_fr (zdis_fr (zfr_up hmm36 (zfr_rf [(108, 0)] _) zq_199 rfl) rfl) hRTEm29
        have w37 := zu_w32_id (z := x3 + 1) (by omega) (by omega)
        have hM : (16 - (zu_w32 (x3 + 1))) * 1 + 0 < (k : Int) := by omega
        exact ih.2 (zu_w32 (x3 + 1)) m36 hIm36 hFm36 ⟨by omega, by omega⟩ ⟨by omega, by omega⟩ hRSEm36 hRTEm36 hM
set_option maxHeartbeats 4000000 in
theorem zk_189_28_137 (n : Nat) {a0 a1 a2 : Int} {m0 : zu_m} (hIm0 : zi_I m0) (hc0 : zcls a0 = 28) (hc1 : zcls a1 = 137) (ha2 : 0 ≤ a2 ∧ a2 ≤ 418) (hmd2 : a2 % 22 = 0)  (hxp0 : zrow m0 a1 a2) (hRSEm0 : zE1 m0 0) : zw (zu_call (zt_T n) 189 [(40, a0), (51, a1), (0, a2)] m0) (fun v m => zi_I m ∧ zfr [(28, 63), (106, 0), (107, 0), (108, 0), (125, 1), (126, 0)] m0 m ∧ zE1 m 0 ∧ zR_TE m ∧ True) := by
  have hFm0 : zfr [(28, 63), (106, 0), (107, 0), (108, 0), (125, 1), (126, 0)] m0 m0 := zfr_rf _ _
  refine zw_eq (zu_call_at (zt_T n) (zm_189 n) (zdp_189 n) _ _ _ _ _ rfl (zr_189_0 n _ _ a0 a1 a2 m0)) ?_
  have b38 : 0 ≤ a2 ∧ a2 < 440 := by omega
  refine zw_if b38 ?_
  have r39 : 0 ≤ (m0 a1 a2) ∧ (m0 a1 a2) ≤ 16 := zi_rdr (m := 22) (r0 := 0) (r1 := 0) hIm0 hc1 (by omega) (by decide +kernel)
  have b40 : 0 ≤ (0 : Int) ∧ (0 : Int) < 2 := by omega
  refine zw_if b40 ?_
  generalize hmm41 : zu_up m0 216 0 (m0 a1 a2) = m41
  have hIm41 := zi_upr (m := 2) (r0 := 0) (r1 := 0) (lo := 0) (hi := 16) hmm41 hIm0 zq_216 (by omega) (by decide +kernel) (by omega) (by omega)
  have hFm41 := zfr_up hmm41 hFm0 zq_216 rfl
  have hRSEm41 := zR_SE_fr (zdis_fr (zfr_up hmm41 (zfr_rf [(125, 1)] _) zq_216 rfl) rfl) hRSEm0
  have r42 : 0 ≤ (m41 a0 14) ∧ (m41 a0 14) ≤ 12 := zi_rd hIm41 hc0 zb_28_14
  have r43 : 0 ≤ (m41 216 0) ∧ (m41 216 0) ≤ 16 := zi_rdr (m := 2) (r0 := 0) (r1 := 0) hIm41 zq_216 (by omega) (by decide +kernel)
  have e44 : (m41 216 0) = (m0 a1 a2) := (zs_eq hmm41)
  have e45 : m41 a0 14 = m0 a0 14 := (zs_ne hmm41 (Or.inl (zc_ne hc0 zq_216 (by decide))))
  have s46 := zrow_te hxp0 (zone_190 hc0)
  have hRTEm41 := zTE_of (m := m41) (zone_190 hc0) (by omega)
  have w47 := zu_w32_id (z := a2 + 1) (by omega) (by omega)
  have b48 : 0 ≤ (zu_w32 (a2 + 1)) ∧ (zu_w32 (a2 + 1)) < 440 := by omega
  refine zw_if b48 ?_
  have r49 : (-2147483648) ≤ (m41 a1 (zu_w32 (a2 + 1))) ∧ (m41 a1 (zu_w32 (a2 + 1))) ≤ 2147483647 := zi_rdr (m := 22) (r0 := 1) (r1 := 1) hIm41 hc1 (by omega) (by decide +kernel)
  generalize hmm50 : zu_up m41 a0 62 (m41 a1 (zu_w32 (a2 + 1))) = m50
  have hIm50 := zi_up hmm50 hIm41 hc0 zb_28_62 (by omega) (by omega)
  have hFm50 := zfr_up hmm50 hFm41 hc0 rfl
  have hRSEm50 := zR_SE_fr (zdis_fr (zfr_up hmm50 (zfr_rf [(28, 63)] _) hc0 rfl) rfl) hRSEm41
  have hRTEm50 := zR_TE_fr (zdis_fr (zfr_up hmm50 (zfr_rf [(28, 63)] _) hc0 rfl) rfl) hRTEm41
  have hM : (4 - 0) * 1 + 17 < ((22 : Nat) : Int) := by omega
  exact (zl_189_28_137 n (m0 := m0) hc0 hc1 hmd2 hxp0 22).1 0 m50 hIm50 hFm50 ⟨by omega, by omega⟩ ⟨by omega, by omega⟩ hRSEm50 hRTEm50 hM
set_option maxHeartbeats 4000000 in
theorem zl_189_28_138 (n : Nat) {a0 a1 a2 : Int} {m0 : zu_m} (hc0 : zcls a0 = 28) (hc1 : zcls a1 = 138) (hmd2 : a2 % 22 = 0) (hxp0 : zrow m0 a1 a2) : ∀ k : Nat, (∀ (x3 : Int) (mh : zu_m), zi_I mh → zfr [(28, 63), (106, 0), (107, 0), (108, 0), (125, 1), (126, 0)] m0 mh → (0 ≤ a2 ∧ a2 ≤ 0) → (0 ≤ x3 ∧ x3 ≤ 4) → (zE1 mh 0) → (zR_TE mh) → (4 - x3) * 1 + 17 < (k : Int) → zw (zu_ex (zt_T n) 189 20 [(40, a0), (52, a1), (0, a2), (0, x3)] [] mh) (fun v m => zi_I m ∧ zfr [(28, 63), (106, 0), (107, 0), (108, 0), (125, 1), (126, 0)] m0 m ∧ zE1 m 0 ∧ zR_TE m ∧ True)) ∧ (∀ (x3 : Int) (mh : zu_m), zi_I mh → zfr [(28, 63), (106, 0), (107, 0), (108, 0), (125, 1), (126, 0)] m0 mh → (0 ≤ a2 ∧ a2 ≤ 0) → (0 ≤ x3 ∧ x3 ≤ 16) → (zE1 mh 0) → (zR_TE mh) → (16 - x3) * 1 + 0 < (k : Int) → zw (zu_ex (zt_T n) 189 46 [(40, a0), (52, a1), (0, a2), (0, x3)] [] mh) (fun v m => zi_I m ∧ zfr [(28, 63), (106, 0), (107, 0), (108, 0), (125, 1), (126, 0)] m0 m ∧ zE1 m 0 ∧ zR_TE m ∧ True)) := by
  intro k
  induction k with
  | zero => exact ⟨fun x3 mh hImh hFmh hba2 hbx3 hRSEmh hRTEmh hM => by exfalso; omega, fun x3 mh hImh hFmh hba2 hbx3 hRSEmh hRTEmh hM => by exfalso; omega⟩
  | succ k ih =>
    refine ⟨?_, ?_⟩
    · intro x3 mh hImh hFmh hba2 hbx3 hRSEmh hRTEmh hM
      refine zw_eq (zu_rega_at (zt_T n) (zm_189 n) (zdp_189 n) _ _ _ _ _ _ (zr_189b_20 n _ _ a0 a1 a2 x3 mh)) ?_
      refine zw_ite (fun h1 => ?_) (fun h1 => ?_)
      · have hM : (16 - 0) * 1 + 0 < (k : Int) := by omega
        exact ih.2 0 mh hImh hFmh ⟨by omega, by omega⟩ ⟨by omega, by omega⟩ hRSEmh hRTEmh hM
      · have w2 := zu_w32_id (z := a2 + 2) (by omega) (by omega)
        have w3 := zu_w32_id (z := (zu_w32 (a2 + 2)) + x3) (by omega) (by omega)
        have b4 : 0 ≤ (zu_w32 ((zu_w32 (a2 + 2)) + x3)) ∧ (zu_w32 ((zu_w32 (a2 + 2)) + x3)) < 22 := by omega
        refine zw_if b4 ?_
        have r5 : 0 ≤ (mh a1 (zu_w32 ((zu_w32 (a2 + 2)) + x3))) ∧ (mh a1 (zu_w32 ((zu_w32 (a2 + 2)) + x3))) ≤ 47 := zi_rdr (m := 22) (r0 := 2) (r1 := 5) hImh hc1 (by omega) (by decide +kernel)
        have r7 : 0 ≤ (mh a0 15) ∧ (mh a0 15) ≤ 4 := zi_rd hImh hc0 zb_28_15
        have r8 : 1 ≤ (mh a0 12) ∧ (mh a0 12) ≤ 8 := zi_rd hImh hc0 zb_28_12
        have r9 : 1 ≤ (mh a0 13) ∧ (mh a0 13) ≤ 6 := zi_rd hImh hc0 zb_28_13
        have s6 : (mh a1 (zu_w32 ((zu_w32 (a2 + 2)) + x3))) = m0 a1 (zu_w32 ((zu_w32 (a2 + 2)) + x3)) := zfr_ap hFmh hc1 rfl
        have s10 := zrow_rd (c := x3) (j := (zu_w32 ((zu_w32 (a2 + 2)) + x3))) hxp0 (zone_190 hc0) (by omega) (by omega) (by omega)
        have hte : mh a0 15 = m0 a0 15 := zfr_ap hFmh hc0 rfl
        have htp := zprod (a := a0) (m := m0) (m' := mh) (zfr_ap hFmh hc0 rfl) (zfr_ap hFmh hc0 rfl)
        have b11 : 0 ≤ x3 ∧ x3 < 8 := by omega
        refine zw_if b11 ?_
        generalize hmm12 : zu_up mh 217 x3 (mh a1 (zu_w32 ((zu_w32 (a2 + 2)) + x3))) = m12
        have hIm12 := zi_up hmm12 hImh zq_217 (zb_126 _) (by omega) (by omega)
        have hFm12 := zfr_up hmm12 hFmh zq_217 rfl
        have hRTEm12 := zR_TE_fr (zdis_fr (zfr_up hmm12 (zfr_rf [(126, 0)] _) zq_217 rfl) rfl) hRTEmh
        have hRSEm12 := zE1_upx (b' := 0) (x := x3) hmm12 (zone_190 hc0) (by omega) (by omega) (by omega) (by omega) hRSEmh
        have w13 := zu_w32_id (z := x3 + 1) (by omega) (by omega)
        have hM : (4 - (zu_w32 (x3 + 1))) * 1 + 17 < (k : Int) := by omega
        exact ih.1 (zu_w32 (x3 + 1)) m12 hIm12 hFm12 ⟨by omega, by omega⟩ ⟨by omega, by omega⟩ hRSEm12 hRTEm12 hM
    · intro x3 mh hImh hFmh hba2 hbx3 hRSEmh hRTEmh hM
      refine zw_eq (zu_rega_at (zt_T n) (zm_189 n) (zdp_189 n) _ _ _ _ _ _ (zr_189b_46 n _ _ a0 a1 a2 x3 mh)) ?_
      refine zw_ite (fun h14 => ?_) (fun h14 => ?_)
      · exact zw_some ⟨hImh, hFmh, hRSEmh, hRTEmh, trivial⟩
      · have w15 := zu_w32_id (z := a2 + 6) (by omega) (by omega)
        have w16 := zu_w32_id (z := (zu_w32 (a2 + 6)) + x3) (by omega) (by omega)
        have b17 : 0 ≤ (zu_w32 ((zu_w32 (a2 + 6)) + x3)) ∧ (zu_w32 ((zu_w32 (a2 + 6)) + x3)) < 22 := by omega
        refine zw_if b17 ?_
        have r18 : 0 ≤ (mh a1 (zu_w32 ((zu_w32 (a2 + 6)) + x3))) ∧ (mh a1 (zu_w32 ((zu_w32 (a2 + 6)) + x3))) ≤ 1919 := zi_rdr (m := 22) (r0 := 6) (r1 := 21) hImh hc1 (by omega) (by decide +kernel)
        refine zw_nif (by omega) ?_
        have d19 : Int.tmod (mh a1 (zu_w32 ((zu_w32 (a2 + 6)) + x3))) 48 = (mh a1 (zu_w32 ((zu_w32 (a2 + 6)) + x3))) % 48 := Int.tmod_eq_emod_of_nonneg (by omega)
        have b20 : 0 ≤ x3 ∧ x3 < 36 := by omega
        refine zw_if b20 ?_
        generalize hmm21 : zu_up mh 197 x3 (Int.tmod (mh a1 (zu_w32 ((zu_w32 (a2 + 6)) + x3))) 48) = m21
        have hIm21 := zi_up hmm21 hImh zq_197 (zb_106 _) (by omega) (by omega)
        have hFm21 := zfr_up hmm21 hFmh zq_197 rfl
        have hRSEm21 := zR_SE_fr (zdis_fr (zfr_up hmm21 (zfr_rf [(106, 0)] _) zq_197 rfl) rfl) hRSEmh
        have hRTEm21 := zR_TE_fr (zdis_fr (zfr_up hmm21 (zfr_rf [(106, 0)] _) zq_197 rfl) rfl) hRTEmh
        have b22 : 0 ≤ (zu_w32 ((zu_w32 (a2 + 6)) + x3)) ∧ (zu_w32 ((zu_w32 (a2 + 6)) + x3)) < 22 := by omega
        refine zw_if b22 ?_
        have r23 : 0 ≤ (m21 a1 (zu_w32 ((zu_w32 (a2 + 6)) + x3))) ∧ (m21 a1 (zu_w32 ((zu_w32 (a2 + 6)) + x3))) ≤ 1919 := zi_rdr (m := 22) (r0 := 6) (r1 := 21) hIm21 hc1 (by omega) (by decide +kernel)
        have e24 : (m21 a1 (zu_w32 ((zu_w32 (a2 + 6)) + x3))) = (mh a1 (zu_w32 ((zu_w32 (a2 + 6)) + x3))) := (zs_ne hmm21 (Or.inl (zc_ne hc1 zq_197 (by decide))))
        refine zw_nif (by omega) ?_
        have d25 : Int.tdiv (m21 a1 (zu_w32 ((zu_w32 (a2 + 6)) + x3))) 48 = (m21 a1 (zu_w32 ((zu_w32 (a2 + 6)) + x3))) / 48 := Int.tdiv_eq_ediv_of_nonneg (by omega)
        have w26 := zu_w32_id (z := Int.tdiv (m21 a1 (zu_w32 ((zu_w32 (a2 + 6)) + x3))) 48) (by omega) (by omega)
        refine zw_nif (by omega) ?_
        have d27 : Int.tmod (zu_w32 (Int.tdiv (m21 a1 (zu_w32 ((zu_w32 (a2 + 6)) + x3))) 48)) 4 = (zu_w32 (Int.tdiv (m21 a1 (zu_w32 ((zu_w32 (a2 + 6)) + x3))) 48)) % 4 := Int.tmod_eq_emod_of_nonneg (by omega)
        have b28 : 0 ≤ x3 ∧ x3 < 36 := by omega
        refine zw_if b28 ?_
        generalize hmm29 : zu_up m21 198 x3 (Int.tmod (zu_w32 (Int.tdiv (m21 a1 (zu_w32 ((zu_w32 (a2 + 6)) + x3))) 48)) 4) = m29
        have hIm29 := zi_up hmm29 hIm21 zq_198 (zb_107 _) (by omega) (by omega)
        have hFm29 := zfr_up hmm29 hFm21 zq_198 rfl
        have hRSEm29 := zR_SE_fr (zdis_fr (zfr_up hmm29 (zfr_rf [(107, 0)] _) zq_198 rfl) rfl) hRSEm21
        have hRTEm29 := zR_TE_fr (zdis_fr (zfr_up hmm29 (zfr_rf [(107, 0)] _) zq_198 rfl) rfl) hRTEm21
        have b30 : 0 ≤ (zu_w32 ((zu_w32 (a2 + 6)) + x3)) ∧ (zu_w32 ((zu_w32 (a2 + 6)) + x3)) < 22 := by omega
        refine zw_if b30 ?_
        have r31 : 0 ≤ (m29 a1 (zu_w32 ((zu_w32 (a2 + 6)) + x3))) ∧ (m29 a1 (zu_w32 ((zu_w32 (a2 + 6)) + x3))) ≤ 1919 := zi_rdr (m := 22) (r0 := 6) (r1 := 21) hIm29 hc1 (by omega) (by decide +kernel)
        have e32 : (m29 a1 (zu_w32 ((zu_w32 (a2 + 6)) + x3))) = (m21 a1 (zu_w32 ((zu_w32 (a2 + 6)) + x3))) := (zs_ne hmm29 (Or.inl (zc_ne hc1 zq_198 (by decide))))
        refine zw_nif (by omega) ?_
        have d33 : Int.tdiv (m29 a1 (zu_w32 ((zu_w32 (a2 + 6)) + x3))) 192 = (m29 a1 (zu_w32 ((zu_w32 (a2 + 6)) + x3))) / 192 := Int.tdiv_eq_ediv_of_nonneg (by omega)
        have w34 := zu_w32_id (z := Int.tdiv (m29 a1 (zu_w32 ((zu_w32 (a2 + 6)) + x3))) 192) (by omega) (by omega)
        have b35 : 0 ≤ x3 ∧ x3 < 36 := by omega
        refine zw_if b35 ?_
        generalize hmm36 : zu_up m29 199 x3 (zu_w32 (Int.tdiv (m29 a1 (zu_w32 ((zu_w32 (a2 + 6)) + x3))) 192)) = m36
        have hIm36 := zi_up hmm36 hIm29 zq_199 (zb_108 _) (by omega) (by omega)
        have hFm36 := zfr_up hmm36 hFm29 zq_199 rfl
        have hRSEm36 := zR_SE_fr (zdis_fr (zfr_up hmm36 (zfr_rf [(108, 0)] _) zq_199 rfl) rfl) hRSEm29
        have hRTEm36 := zR_TE_fr (zdis_fr (zfr_up hmm36 (zfr_rf [(108, 0)] _) zq_199 rfl) rfl) hRTEm29
        have w37 := zu_w32_id (z := x3 + 1) (by omega) (by omega)
        have hM : (16 - (zu_w32 (x3 + 1))) * 1 + 0 < (k : Int) := by omega
        exact ih.2 (zu_w32 (x3 + 1)) m36 hIm36 hFm36 ⟨by omega, by omega⟩ ⟨by omega, by omega⟩ hRSEm36 hRTEm36 hM
set_option maxHeartbeats 4000000 in
theorem zk_189_28_138 (n : Nat) {a0 a1 a2 : Int} {m0 : zu_m} (hIm0 : zi_I m0) (hc0 : zcls a0 = 28) (hc1 : zcls a1 = 138) (ha2 : 0 ≤ a2 ∧ a2 ≤ 0) (hmd2 : a2 % 22 = 0)  (hxp0 : zrow m0 a1 a2) (hRSEm0 : zE1 m0 0) : zw (zu_call (zt_T n) 189 [(40, a0), (52, a1), (0, a2)] m0) (fun v m => zi_I m ∧ zfr [(28, 63), (106, 0), (107, 0), (108, 0), (125, 1), (126, 0)] m0 m ∧ zE1 m 0 ∧ zR_TE m ∧ True) := by
  have hFm0 : zfr [(28, 63), (106, 0), (107, 0), (108, 0), (125, 1), (126, 0)] m0 m0 := zfr_rf _ _
  refine zw_eq (zu_call_at (zt_T n) (zm_189 n) (zdp_189 n) _ _ _ _ _ rfl (zr_189b_0 n _ _ a0 a1 a2 m0)) ?_
  have b38 : 0 ≤ a2 ∧ a2 < 22 := by omega
  refine zw_if b38 ?_
  have r39 : 0 ≤ (m0 a1 a2) ∧ (m0 a1 a2) ≤ 16 := zi_rdr (m := 22) (r0 := 0) (r1 := 0) hIm0 hc1 (by omega) (by decide +kernel)
  have b40 : 0 ≤ (0 : Int) ∧ (0 : Int) < 2 := by omega
  refine zw_if b40 ?_
  generalize hmm41 : zu_up m0 216 0 (m0 a1 a2) = m41
  have hIm41 := zi_upr (m := 2) (r0 := 0) (r1 := 0) (lo := 0) (hi := 16) hmm41 hIm0 zq_216 (by omega) (by decide +kernel) (by omega) (by omega)
  have hFm41 := zfr_up hmm41 hFm0 zq_216 rfl
  have hRSEm41 := zR_SE_fr (zdis_fr (zfr_up hmm41 (zfr_rf [(125, 1)] _) zq_216 rfl) rfl) hRSEm0
  have r42 : 0 ≤ (m41 a0 14) ∧ (m41 a0 14) ≤ 12 := zi_rd hIm41 hc0 zb_28_14
  have r43 : 0 ≤ (m41 216 0) ∧ (m41 216 0) ≤ 16 := zi_rdr (m := 2) (r0 := 0) (r1 := 0) hIm41 zq_216 (by omega) (by decide +kernel)
  have e44 : (m41 216 0) = (m0 a1 a2) := (zs_eq hmm41)
  have e45 : m41 a0 14 = m0 a0 14 := (zs_ne hmm41 (Or.inl (zc_ne hc0 zq_216 (by decide))))
  have s46 := zrow_te hxp0 (zone_190 hc0)
  have hRTEm41 := zTE_of (m := m41) (zone_190 hc0) (by omega)
  have w47 := zu_w32_id (z := a2 + 1) (by omega) (by omega)
  have b48 : 0 ≤ (zu_w32 (a2 + 1)) ∧ (zu_w32 (a2 + 1)) < 22 := by omega
  refine zw_if b48 ?_
  have r49 : (-2147483648) ≤ (m41 a1 (zu_w32 (a2 + 1))) ∧ (m41 a1 (zu_w32 (a2 + 1))) ≤ 2147483647 := zi_rdr (m := 22) (r0 := 1) (r1 := 1) hIm41 hc1 (by omega) (by decide +kernel)
  generalize hmm50 : zu_up m41 a0 62 (m41 a1 (zu_w32 (a2 + 1))) = m50
  have hIm50 := zi_up hmm50 hIm41 hc0 zb_28_62 (by omega) (by omega)
  have hFm50 := zfr_up hmm50 hFm41 hc0 rfl
  have hRSEm50 := zR_SE_fr (zdis_fr (zfr_up hmm50 (zfr_rf [(28, 63)] _) hc0 rfl) rfl) hRSEm41
  have hRTEm50 := zR_TE_fr (zdis_fr (zfr_up hmm50 (zfr_rf [(28, 63)] _) hc0 rfl) rfl) hRTEm41
  have hM : (4 - 0) * 1 + 17 < ((22 : Nat) : Int) := by omega
  exact (zl_189_28_138 n (m0 := m0) hc0 hc1 hmd2 hxp0 22).1 0 m50 hIm50 hFm50 ⟨by omega, by omega⟩ ⟨by omega, by omega⟩ hRSEm50 hRTEm50 hM
set_option maxHeartbeats 4000000 in
theorem zl_194 (n : Nat) {a0 a1 : Int} {m0 : zu_m} (hc0 : zcls a0 = 28)   : ∀ k : Nat, (∀ (x2 x3 : Int) (mh : zu_m), zi_I mh → zfr [] m0 mh → ((-8) ≤ a1 ∧ a1 ≤ (-1)) → ((-2147483648) ≤ x2 ∧ x2 ≤ 2147483647) → (0 ≤ x3 ∧ x3 ≤ 16) → (16 - x3) * 1 + 0 < (k : Int) → zw (zu_ex (zt_T n) 194 4 [(40, a0), (0, a1), (0, x2), (0, x3)] [] mh) (fun v m => zi_I m ∧ zfr [] m0 m ∧ ((-2147483648) ≤ v ∧ v ≤ 2147483647))) := by
  intro k
  induction k with
  | zero => exact fun x2 x3 mh hImh hFmh hba1 hbx2 hbx3 hM => by exfalso; omega
  | succ k ih =>
    intro x2 x3 mh hImh hFmh hba1 hbx2 hbx3 hM
    refine zw_eq (zu_rega_at (zt_T n) (zm_194 n) (zdp_194 n) _ _ _ _ _ _ (zr_194_4 n _ _ a0 a1 x2 x3 mh)) ?_
    have b1 : 0 ≤ (0 : Int) ∧ (0 : Int) < 2 := by omega
    refine zw_if b1 ?_
    have r2 : 0 ≤ (mh 216 0) ∧ (mh 216 0) ≤ 16 := zi_rdr (m := 2) (r0 := 0) (r1 := 0) hImh zq_216 (by omega) (by decide +kernel)
    refine zw_ite (fun h3 => ?_) (fun h3 => ?_)
    · exact zw_some ⟨hImh, hFmh, ⟨by omega, by omega⟩⟩
    · have b4 : 0 ≤ x3 ∧ x3 < 36 := by omega
      refine zw_if b4 ?_
      have r5 : (-3) ≤ (mh 215 x3) ∧ (mh 215 x3) ≤ 3 := zi_rd hImh zq_215 (zb_124 _)
      refine zw_ite (fun h6 => ?_) (fun h6 => ?_)
      · have w7 := zu_w32_id (z := x2 + 0) (by omega) (by omega)
        have w8 := zu_w32_id (z := x3 + 1) (by omega) (by omega)
        have hM : (16 - (zu_w32 (x3 + 1))) * 1 + 0 < (k : Int) := by omega
        exact ih (zu_w32 (x2 + 0)) (zu_w32 (x3 + 1)) mh hImh hFmh ⟨by omega, by omega⟩ ⟨by omega, by omega⟩ ⟨by omega, by omega⟩ hM
      · have w9 := zu_w32_rg (x2 + 1)
        have w10 := zu_w32_id (z := x3 + 1) (by omega) (by omega)
        have hM : (16 - (zu_w32 (x3 + 1))) * 1 + 0 < (k : Int) := by omega
        exact ih (zu_w32 (x2 + 1)) (zu_w32 (x3 + 1)) mh hImh hFmh ⟨by omega, by omega⟩ ⟨by omega, by omega⟩ ⟨by omega, by omega⟩ hM
set_option maxHeartbeats 4000000 in
theorem zk_194 (n : Nat) {a0 a1 : Int} {m0 : zu_m} (hIm0 : zi_I m0) (hc0 : zcls a0 = 28) (ha1 : (-8) ≤ a1 ∧ a1 ≤ (-1))     : zw (zu_call (zt_T n) 194 [(40, a0), (0, a1)] m0) (fun v m => zi_I m ∧ zfr [] m0 m ∧ ((-2147483648) ≤ v ∧ v ≤ 2147483647)) := by
  have hFm0 : zfr [] m0 m0 := zfr_rf _ _
  refine zw_eq (zu_call_at (zt_T n) (zm_194 n) (zdp_194 n) _ _ _ _ _ rfl (zr_194_0 n _ _ a0 a1 m0)) ?_
  have hM : (16 - 0) * 1 + 0 < ((17 : Nat) : Int) := by omega
  exact (zl_194 n (m0 := m0) hc0 17) 0 0 m0 hIm0 hFm0 ⟨by omega, by omega⟩ ⟨by omega, by omega⟩ ⟨by omega, by omega⟩ hM
set_option maxHeartbeats 4000000 in
theorem zk_196_15_8 (n : Nat) {a0 a1 : Int} {m0 : zu_m} (hIm0 : zi_I m0) (hc0 : zcls a0 = 15) (hc1 : zcls a1 = 8)      : zw (zu_call (zt_T n) 196 [(21, a0), (21, a1)] m0) (fun v m => zi_I m ∧ zfr [(15, 1), (15, 2), (15, 3), (15, 4), (15, 5), (15, 6), (15, 7), (15, 8)] m0 m ∧ True ∧ ((m a0 1) = (m0 a1 1)) ∧ (∀ d, d ≠ a0 → m d 1 = m0 d 1)) := by
  have hFm0 : zfr [(15, 1), (15, 2), (15, 3), (15, 4), (15, 5), (15, 6), (15, 7), (15, 8)] m0 m0 := zfr_rf _ _
  have r1 : 0 ≤ (m0 a1 1) ∧ (m0 a1 1) ≤ 47 := zi_rd hIm0 hc1 zb_8_1
  refine zw_eq (zu_call_at (zt_T n) (zm_196 n) (zdp_196 n) _ _ _ _ _ rfl (zr_196_0 n _ _ a0 a1 m0)) ?_
  have r2 : (-2147483648) ≤ (m0 a1 0) ∧ (m0 a1 0) ≤ 2147483647 := zi_rd hIm0 hc1 zb_8_0
  generalize hmm3 : zu_up m0 a0 0 (m0 a1 0) = m3
  have hIm3 := zi_up hmm3 hIm0 hc0 zb_15_0 (by omega) (by omega)
  have hFm3 := zfr_up hmm3 hFm0 hc0 rfl
  have r4 : 0 ≤ (m3 a1 1) ∧ (m3 a1 1) ≤ 47 := zi_rd hIm3 hc1 zb_8_1
  have e5 : (m3 a1 1) = (m0 a1 1) := (zs_ne hmm3 (Or.inl (zc_ne hc1 hc0 (by decide))))
  generalize hmm6 : zu_up m3 a0 1 (m3 a1 1) = m6
  have hIm6 := zi_up hmm6 hIm3 hc0 zb_15_1 (by omega) (by omega)
  have hFm6 := zfr_up hmm6 hFm3 hc0 rfl
  have r7 : 0 ≤ (m6 a1 2) ∧ (m6 a1 2) ≤ 15 := zi_rd hIm6 hc1 zb_8_2
  generalize hmm8 : zu_up m6 a0 2 (m6 a1 2) = m8
  have hIm8 := zi_up hmm8 hIm6 hc0 zb_15_2 (by omega) (by omega)
  have hFm8 := zfr_up hmm8 hFm6 hc0 rfl
  have r9 : 0 ≤ (m8 a1 3) ∧ (m8 a1 3) ≤ 3 := zi_rd hIm8 hc1 zb_8_3
  generalize hmm10 : zu_up m8 a0 3 (m8 a1 3) = m10
  have hIm10 := zi_up hmm10 hIm8 hc0 zb_15_3 (by omega) (by omega)
  have hFm10 := zfr_up hmm10 hFm8 hc0 rfl
  have r11 : (-2147483648) ≤ (m10 a1 4) ∧ (m10 a1 4) ≤ 2147483647 := zi_rd hIm10 hc1 zb_8_4
  generalize hmm12 : zu_up m10 a0 4 (m10 a1 4) = m12
  have hIm12 := zi_up hmm12 hIm10 hc0 zb_15_4 (by omega) (by omega)
  have hFm12 := zfr_up hmm12 hFm10 hc0 rfl
  have r13 : (-2147483648) ≤ (m12 a1 5) ∧ (m12 a1 5) ≤ 2147483647 := zi_rd hIm12 hc1 zb_8_5
  generalize hmm14 : zu_up m12 a0 5 (m12 a1 5) = m14
  have hIm14 := zi_up hmm14 hIm12 hc0 zb_15_5 (by omega) (by omega)
  have hFm14 := zfr_up hmm14 hFm12 hc0 rfl
  have r15 : (-2147483648) ≤ (m14 a1 6) ∧ (m14 a1 6) ≤ 2147483647 := zi_rd hIm14 hc1 zb_8_6
  generalize hmm16 : zu_up m14 a0 6 (m14 a1 6) = m16
  have hIm16 := zi_up hmm16 hIm14 hc0 zb_15_6 (by omega) (by omega)
  have hFm16 := zfr_up hmm16 hFm14 hc0 rfl
  have r17 : (-2147483648) ≤ (m16 a1 7) ∧ (m16 a1 7) ≤ 2147483647 := zi_rd hIm16 hc1 zb_8_7
  generalize hmm18 : zu_up m16 a0 7 (m16 a1 7) = m18
  have hIm18 := zi_up hmm18 hIm16 hc0 zb_15_7 (by omega) (by omega)
  have hFm18 := zfr_up hmm18 hFm16 hc0 rfl
  have r19 : 0 ≤ (m18 a0 1) ∧ (m18 a0 1) ≤ 47 := zi_rd hIm18 hc0 zb_15_1
  have e20 : (m18 a0 1) = (m3 a1 1) := (Eq.trans (zs_ne hmm18 (Or.inr (by decide))) (Eq.trans (zs_ne hmm16 (Or.inr (by decide))) (Eq.trans (zs_ne hmm14 (Or.inr (by decide))) (Eq.trans (zs_ne hmm12 (Or.inr (by decide))) (Eq.trans (zs_ne hmm10 (Or.inr (by decide))) (Eq.trans (zs_ne hmm8 (Or.inr (by decide))) (zs_eq hmm6)))))))
  have r21 : 0 ≤ (m18 a1 1) ∧ (m18 a1 1) ≤ 47 := zi_rd hIm18 hc1 zb_8_1
  have e22 : (m18 a1 1) = (m3 a1 1) := (Eq.trans (zs_ne hmm18 (Or.inl (zc_ne hc1 hc0 (by decide)))) (Eq.trans (zs_ne hmm16 (Or.inl (zc_ne hc1 hc0 (by decide)))) (Eq.trans (zs_ne hmm14 (Or.inl (zc_ne hc1 hc0 (by decide)))) (Eq.trans (zs_ne hmm12 (Or.inl (zc_ne hc1 hc0 (by decide)))) (Eq.trans (zs_ne hmm10 (Or.inl (zc_ne hc1 hc0 (by decide)))) (Eq.trans (zs_ne hmm8 (Or.inl (zc_ne hc1 hc0 (by decide)))) (zs_ne hmm6 (Or.inl (zc_ne hc1 hc0 (by decide))))))))))
  exact zw_some ⟨hIm18, hFm18, trivial, by omega, (fun d hd => (Eq.trans (zs_ne hmm18 (Or.inr (by decide))) (Eq.trans (zs_ne hmm16 (Or.inr (by decide))) (Eq.trans (zs_ne hmm14 (Or.inr (by decide))) (Eq.trans (zs_ne hmm12 (Or.inr (by decide))) (Eq.trans (zs_ne hmm10 (Or.inr (by decide))) (Eq.trans (zs_ne hmm8 (Or.inr (by decide))) (Eq.trans (zs_ne hmm6 (Or.inl hd)) (zs_ne hmm3 (Or.inr (by decide)))))))))))⟩
set_option maxHeartbeats 4000000 in
theorem zk_196_18_15 (n : Nat) {a0 a1 : Int} {m0 : zu_m} (hIm0 : zi_I m0) (hc0 : zcls a0 = 18) (hc1 : zcls a1 = 15)      : zw (zu_call (zt_T n) 196 [(21, a0), (21, a1)] m0) (fun v m => zi_I m ∧ zfr [(18, 1), (18, 2), (18, 3), (18, 4), (18, 5), (18, 6), (18, 7), (18, 8)] m0 m ∧ True ∧ ((m a0 1) = (m0 a1 1)) ∧ (∀ d, d ≠ a0 → m d 1 = m0 d 1)) := by
  have hFm0 : zfr [(18, 1), (18, 2), (18, 3), (18, 4), (18, 5), (18, 6), (18, 7), (18, 8)] m0 m0 := zfr_rf _ _
  have r1 : 0 ≤ (m0 a1 1) ∧ (m0 a1 1) ≤ 47 := zi_rd hIm0 hc1 zb_15_1
  refine zw_eq (zu_call_at (zt_T n) (zm_196 n) (zdp_196 n) _ _ _ _ _ rfl (zr_196_0 n _ _ a0 a1 m0)) ?_
  have r2 : (-2147483648) ≤ (m0 a1 0) ∧ (m0 a1 0) ≤ 2147483647 := zi_rd hIm0 hc1 zb_15_0
  generalize hmm3 : zu_up m0 a0 0 (m0 a1 0) = m3
  have hIm3 := zi_up hmm3 hIm0 hc0 zb_18_0 (by omega) (by omega)
  have hFm3 := zfr_up hmm3 hFm0 hc0 rfl
  have r4 : 0 ≤ (m3 a1 1) ∧ (m3 a1 1) ≤ 47 := zi_rd hIm3 hc1 zb_15_1
  have e5 : (m3 a1 1) = (m0 a1 1) := (zs_ne hmm3 (Or.inl (zc_ne hc1 hc0 (by decide))))
  generalize hmm6 : zu_up m3 a0 1 (m3 a1 1) = m6
  have hIm6 := zi_up hmm6 hIm3 hc0 zb_18_1 (by omega) (by omega)
  have hFm6 := zfr_up hmm6 hFm3 hc0 rfl
  have r7 : 0 ≤ (m6 a1 2) ∧ (m6 a1 2) ≤ 15 := zi_rd hIm6 hc1 zb_15_2
  generalize hmm8 : zu_up m6 a0 2 (m6 a1 2) = m8
  have hIm8 := zi_up hmm8 hIm6 hc0 zb_18_2 (by omega) (by omega)
  have hFm8 := zfr_up hmm8 hFm6 hc0 rfl
  have r9 : 0 ≤ (m8 a1 3) ∧ (m8 a1 3) ≤ 3 := zi_rd hIm8 hc1 zb_15_3
  generalize hmm10 : zu_up m8 a0 3 (m8 a1 3) = m10
  have hIm10 := zi_up hmm10 hIm8 hc0 zb_18_3 (by omega) (by omega)
  have hFm10 := zfr_up hmm10 hFm8 hc0 rfl
  have r11 : (-2147483648) ≤ (m10 a1 4) ∧ (m10 a1 4) ≤ 2147483647 := zi_rd hIm10 hc1 zb_15_4
  generalize hmm12 : zu_up m10 a0 4 (m10 a1 4) = m12
  have hIm12 := zi_up hmm12 hIm10 hc0 zb_18_4 (by omega) (by omega)
  have hFm12 := zfr_up hmm12 hFm10 hc0 rfl
  have r13 : (-2147483648) ≤ (m12 a1 5) ∧ (m12 a1 5) ≤ 2147483647 := zi_rd hIm12 hc1 zb_15_5
  generalize hmm14 : zu_up m12 a0 5 (m12 a1 5) = m14
  have hIm14 := zi_up hmm14 hIm12 hc0 zb_18_5 (by omega) (by omega)
  have hFm14 := zfr_up hmm14 hFm12 hc0 rfl
  have r15 : (-2147483648) ≤ (m14 a1 6) ∧ (m14 a1 6) ≤ 2147483647 := zi_rd hIm14 hc1 zb_15_6
  generalize hmm16 : zu_up m14 a0 6 (m14 a1 6) = m16
  have hIm16 := zi_up hmm16 hIm14 hc0 zb_18_6 (by omega) (by omega)
  have hFm16 := zfr_up hmm16 hFm14 hc0 rfl
  have r17 : (-2147483648) ≤ (m16 a1 7) ∧ (m16 a1 7) ≤ 2147483647 := zi_rd hIm16 hc1 zb_15_7
  generalize hmm18 : zu_up m16 a0 7 (m16 a1 7) = m18
  have hIm18 := zi_up hmm18 hIm16 hc0 zb_18_7 (by omega) (by omega)
  have hFm18 := zfr_up hmm18 hFm16 hc0 rfl
  have r19 : 0 ≤ (m18 a0 1) ∧ (m18 a0 1) ≤ 47 := zi_rd hIm18 hc0 zb_18_1
  have e20 : (m18 a0 1) = (m3 a1 1) := (Eq.trans (zs_ne hmm18 (Or.inr (by decide))) (Eq.trans (zs_ne hmm16 (Or.inr (by decide))) (Eq.trans (zs_ne hmm14 (Or.inr (by decide))) (Eq.trans (zs_ne hmm12 (Or.inr (by decide))) (Eq.trans (zs_ne hmm10 (Or.inr (by decide))) (Eq.trans (zs_ne hmm8 (Or.inr (by decide))) (zs_eq hmm6)))))))
  have r21 : 0 ≤ (m18 a1 1) ∧ (m18 a1 1) ≤ 47 := zi_rd hIm18 hc1 zb_15_1
  have e22 : (m18 a1 1) = (m3 a1 1) := (Eq.trans (zs_ne hmm18 (Or.inl (zc_ne hc1 hc0 (by decide)))) (Eq.trans (zs_ne hmm16 (Or.inl (zc_ne hc1 hc0 (by decide)))) (Eq.trans (zs_ne hmm14 (Or.inl (zc_ne hc1 hc0 (by decide)))) (Eq.trans (zs_ne hmm12 (Or.inl (zc_ne hc1 hc0 (by decide)))) (Eq.trans (zs_ne hmm10 (Or.inl (zc_ne hc1 hc0 (by decide)))) (Eq.trans (zs_ne hmm8 (Or.inl (zc_ne hc1 hc0 (by decide)))) (zs_ne hmm6 (Or.inl (zc_ne hc1 hc0 (by decide))))))))))
  exact zw_some ⟨hIm18, hFm18, trivial, by omega, (fun d hd => (Eq.trans (zs_ne hmm18 (Or.inr (by decide))) (Eq.trans (zs_ne hmm16 (Or.inr (by decide))) (Eq.trans (zs_ne hmm14 (Or.inr (by decide))) (Eq.trans (zs_ne hmm12 (Or.inr (by decide))) (Eq.trans (zs_ne hmm10 (Or.inr (by decide))) (Eq.trans (zs_ne hmm8 (Or.inr (by decide))) (Eq.trans (zs_ne hmm6 (Or.inl hd)) (zs_ne hmm3 (Or.inr (by decide)))))))))))⟩
set_option maxHeartbeats 4000000 in
theorem zk_196_18_21 (n : Nat) {a0 a1 : Int} {m0 : zu_m} (hIm0 : zi_I m0) (hc0 : zcls a0 = 18) (hc1 : zcls a1 = 21)      : zw (zu_call (zt_T n) 196 [(21, a0), (21, a1)] m0) (fun v m => zi_I m ∧ zfr [(18, 1), (18, 2), (18, 3), (18, 4), (18, 5), (18, 6), (18, 7), (18, 8)] m0 m ∧ True ∧ ((m a0 1) = (m0 a1 1)) ∧ (∀ d, d ≠ a0 → m d 1 = m0 d 1)) := by
  have hFm0 : zfr [(18, 1), (18, 2), (18, 3), (18, 4), (18, 5), (18, 6), (18, 7), (18, 8)] m0 m0 := zfr_rf _ _
  have r1 : 0 ≤ (m0 a1 1) ∧ (m0 a1 1) ≤ 47 := zi_rd hIm0 hc1 zb_21_1
  refine zw_eq (zu_call_at (zt_T n) (zm_196 n) (zdp_196 n) _ _ _ _ _ rfl (zr_196_0 n _ _ a0 a1 m0)) ?_
  have r2 : (-2147483648) ≤ (m0 a1 0) ∧ (m0 a1 0) ≤ 2147483647 := zi_rd hIm0 hc1 zb_21_0
  generalize hmm3 : zu_up m0 a0 0 (m0 a1 0) = m3
  have hIm3 := zi_up hmm3 hIm0 hc0 zb_18_0 (by omega) (by omega)
  have hFm3 := zfr_up hmm3 hFm0 hc0 rfl
  have r4 : 0 ≤ (m3 a1 1) ∧ (m3 a1 1) ≤ 47 := zi_rd hIm3 hc1 zb_21_1
  have e5 : (m3 a1 1) = (m0 a1 1) := (zs_ne hmm3 (Or.inl (zc_ne hc1 hc0 (by decide))))
  generalize hmm6 : zu_up m3 a0 1 (m3 a1 1) = m6
  have hIm6 := zi_up hmm6 hIm3 hc0 zb_18_1 (by omega) (by omega)
  have hFm6 := zfr_up hmm6 hFm3 hc0 rfl
  have r7 : 0 ≤ (m6 a1 2) ∧ (m6 a1 2) ≤ 15 := zi_rd hIm6 hc1 zb_21_2
  generalize hmm8 : zu_up m6 a0 2 (m6 a1 2) = m8
  have hIm8 := zi_up hmm8 hIm6 hc0 zb_18_2 (by omega) (by omega)
  have hFm8 := zfr_up hmm8 hFm6 hc0 rfl
  have r9 : 0 ≤ (m8 a1 3) ∧ (m8 a1 3) ≤ 3 := zi_rd hIm8 hc1 zb_21_3
  generalize hmm10 : zu_up m8 a0 3 (m8 a1 3) = m10
  have hIm10 := zi_up hmm10 hIm8 hc0 zb_18_3 (by omega) (by omega)
  have hFm10 := zfr_up hmm10 hFm8 hc0 rfl
  have r11 : (-2147483648) ≤ (m10 a1 4) ∧ (m10 a1 4) ≤ 2147483647 := zi_rd hIm10 hc1 zb_21_4
  generalize hmm12 : zu_up m10 a0 4 (m10 a1 4) = m12
  have hIm12 := zi_up hmm12 hIm10 hc0 zb_18_4 (by omega) (by omega)
  have hFm12 := zfr_up hmm12 hFm10 hc0 rfl
  have r13 : (-2147483648) ≤ (m12 a1 5) ∧ (m12 a1 5) ≤ 2147483647 := zi_rd hIm12 hc1 zb_21_5
  generalize hmm14 : zu_up m12 a0 5 (m12 a1 5) = m14
  have hIm14 := zi_up hmm14 hIm12 hc0 zb_18_5 (by omega) (by omega)
  have hFm14 := zfr_up hmm14 hFm12 hc0 rfl
  have r15 : (-2147483648) ≤ (m14 a1 6) ∧ (m14 a1 6) ≤ 2147483647 := zi_rd hIm14 hc1 zb_21_6
  generalize hmm16 : zu_up m14 a0 6 (m14 a1 6) = m16
  have hIm16 := zi_up hmm16 hIm14 hc0 zb_18_6 (by omega) (by omega)
  have hFm16 := zfr_up hmm16 hFm14 hc0 rfl
  have r17 : (-2147483648) ≤ (m16 a1 7) ∧ (m16 a1 7) ≤ 2147483647 := zi_rd hIm16 hc1 zb_21_7
  generalize hmm18 : zu_up m16 a0 7 (m16 a1 7) = m18
  have hIm18 := zi_up hmm18 hIm16 hc0 zb_18_7 (by omega) (by omega)
  have hFm18 := zfr_up hmm18 hFm16 hc0 rfl
  have r19 : 0 ≤ (m18 a0 1) ∧ (m18 a0 1) ≤ 47 := zi_rd hIm18 hc0 zb_18_1
  have e20 : (m18 a0 1) = (m3 a1 1) := (Eq.trans (zs_ne hmm18 (Or.inr (by decide))) (Eq.trans (zs_ne hmm16 (Or.inr (by decide))) (Eq.trans (zs_ne hmm14 (Or.inr (by decide))) (Eq.trans (zs_ne hmm12 (Or.inr (by decide))) (Eq.trans (zs_ne hmm10 (Or.inr (by decide))) (Eq.trans (zs_ne hmm8 (Or.inr (by decide))) (zs_eq hmm6)))))))
  have r21 : 0 ≤ (m18 a1 1) ∧ (m18 a1 1) ≤ 47 := zi_rd hIm18 hc1 zb_21_1
  have e22 : (m18 a1 1) = (m3 a1 1) := (Eq.trans (zs_ne hmm18 (Or.inl (zc_ne hc1 hc0 (by decide)))) (Eq.trans (zs_ne hmm16 (Or.inl (zc_ne hc1 hc0 (by decide)))) (Eq.trans (zs_ne hmm14 (Or.inl (zc_ne hc1 hc0 (by decide)))) (Eq.trans (zs_ne hmm12 (Or.inl (zc_ne hc1 hc0 (by decide)))) (Eq.trans (zs_ne hmm10 (Or.inl (zc_ne hc1 hc0 (by decide)))) (Eq.trans (zs_ne hmm8 (Or.inl (zc_ne hc1 hc0 (by decide)))) (zs_ne hmm6 (Or.inl (zc_ne hc1 hc0 (by decide))))))))))
  exact zw_some ⟨hIm18, hFm18, trivial, by omega, (fun d hd => (Eq.trans (zs_ne hmm18 (Or.inr (by decide))) (Eq.trans (zs_ne hmm16 (Or.inr (by decide))) (Eq.trans (zs_ne hmm14 (Or.inr (by decide))) (Eq.trans (zs_ne hmm12 (Or.inr (by decide))) (Eq.trans (zs_ne hmm10 (Or.inr (by decide))) (Eq.trans (zs_ne hmm8 (Or.inr (by decide))) (Eq.trans (zs_ne hmm6 (Or.inl hd)) (zs_ne hmm3 (Or.inr (by decide)))))))))))⟩
set_option maxHeartbeats 4000000 in
theorem zk_196_21_18 (n : Nat) {a0 a1 : Int} {m0 : zu_m} (hIm0 : zi_I m0) (hc0 : zcls a0 = 21) (hc1 : zcls a1 = 18)      : zw (zu_call (zt_T n) 196 [(21, a0), (21, a1)] m0) (fun v m => zi_I m ∧ zfr [(21, 1), (21, 2), (21, 3), (21, 4), (21, 5), (21, 6), (21, 7), (21, 8)] m0 m ∧ True ∧ ((m a0 1) = (m0 a1 1)) ∧ (∀ d, d ≠ a0 → m d 1 = m0 d 1)) := by
  have hFm0 : zfr [(21, 1), (21, 2), (21, 3), (21, 4), (21, 5), (21, 6), (21, 7), (21, 8)] m0 m0 := zfr_rf _ _
  have r1 : 0 ≤ (m0 a1 1) ∧ (m0 a1 1) ≤ 47 := zi_rd hIm0 hc1 zb_18_1
  refine zw_eq (zu_call_at (zt_T n) (zm_196 n) (zdp_196 n) _ _ _ _ _ rfl (zr_196_0 n _ _ a0 a1 m0)) ?_
  have r2 : (-2147483648) ≤ (m0 a1 0) ∧ (m0 a1 0) ≤ 2147483647 := zi_rd hIm0 hc1 zb_18_0
  generalize hmm3 : zu_up m0 a0 0 (m0 a1 0) = m3
  have hIm3 := zi_up hmm3 hIm0 hc0 zb_21_0 (by omega) (by omega)
  have hFm3 := zfr_up hmm3 hFm0 hc0 rfl
  have r4 : 0 ≤ (m3 a1 1) ∧ (m3 a1 1) ≤ 47 := zi_rd hIm3 hc1 zb_18_1
  have e5 : (m3 a1 1) = (m0 a1 1) := (zs_ne hmm3 (Or.inl (zc_ne hc1 hc0 (by decide))))
  generalize hmm6 : zu_up m3 a0 1 (m3 a1 1) = m6
  have hIm6 := zi_up hmm6 hIm3 hc0 zb_21_1 (by omega) (by omega)
  have hFm6 := zfr_up hmm6 hFm3 hc0 rfl
  have r7 : 0 ≤ (m6 a1 2) ∧ (m6 a1 2) ≤ 15 := zi_rd hIm6 hc1 zb_18_2
  generalize hmm8 : zu_up m6 a0 2 (m6 a1 2) = m8
  have hIm8 := zi_up hmm8 hIm6 hc0 zb_21_2 (by omega) (by omega)
  have hFm8 := zfr_up hmm8 hFm6 hc0 rfl
  have r9 : 0 ≤ (m8 a1 3) ∧ (m8 a1 3) ≤ 3 := zi_rd hIm8 hc1 zb_18_3
  generalize hmm10 : zu_up m8 a0 3 (m8 a1 3) = m10
  have hIm10 := zi_up hmm10 hIm8 hc0 zb_21_3 (by omega) (by omega)
  have hFm10 := zfr_up hmm10 hFm8 hc0 rfl
  have r11 : (-2147483648) ≤ (m10 a1 4) ∧ (m10 a1 4) ≤ 2147483647 := zi_rd hIm10 hc1 zb_18_4
  generalize hmm12 : zu_up m10 a0 4 (m10 a1 4) = m12
  have hIm12 := zi_up hmm12 hIm10 hc0 zb_21_4 (by omega) (by omega)
  have hFm12 := zfr_up hmm12 hFm10 hc0 rfl
  have r13 : (-2147483648) ≤ (m12 a1 5) ∧ (m12 a1 5) ≤ 2147483647 := zi_rd hIm12 hc1 zb_18_5
  generalize hmm14 : zu_up m12 a0 5 (m12 a1 5) = m14
  have hIm14 := zi_up hmm14 hIm12 hc0 zb_21_5 (by omega) (by omega)
  have hFm14 := zfr_up hmm14 hFm12 hc0 rfl
  have r15 : (-2147483648) ≤ (m14 a1 6) ∧ (m14 a1 6) ≤ 2147483647 := zi_rd hIm14 hc1 zb_18_6
  generalize hmm16 : zu_up m14 a0 6 (m14 a1 6) = m16
  have hIm16 := zi_up hmm16 hIm14 hc0 zb_21_6 (by omega) (by omega)
  have hFm16 := zfr_up hmm16 hFm14 hc0 rfl
  have r17 : (-2147483648) ≤ (m16 a1 7) ∧ (m16 a1 7) ≤ 2147483647 := zi_rd hIm16 hc1 zb_18_7
  generalize hmm18 : zu_up m16 a0 7 (m16 a1 7) = m18
  have hIm18 := zi_up hmm18 hIm16 hc0 zb_21_7 (by omega) (by omega)
  have hFm18 := zfr_up hmm18 hFm16 hc0 rfl
  have r19 : 0 ≤ (m18 a0 1) ∧ (m18 a0 1) ≤ 47 := zi_rd hIm18 hc0 zb_21_1
  have e20 : (m18 a0 1) = (m3 a1 1) := (Eq.trans (zs_ne hmm18 (Or.inr (by decide))) (Eq.trans (zs_ne hmm16 (Or.inr (by decide))) (Eq.trans (zs_ne hmm14 (Or.inr (by decide))) (Eq.trans (zs_ne hmm12 (Or.inr (by decide))) (Eq.trans (zs_ne hmm10 (Or.inr (by decide))) (Eq.trans (zs_ne hmm8 (Or.inr (by decide))) (zs_eq hmm6)))))))
  have r21 : 0 ≤ (m18 a1 1) ∧ (m18 a1 1) ≤ 47 := zi_rd hIm18 hc1 zb_18_1
  have e22 : (m18 a1 1) = (m3 a1 1) := (Eq.trans (zs_ne hmm18 (Or.inl (zc_ne hc1 hc0 (by decide)))) (Eq.trans (zs_ne hmm16 (Or.inl (zc_ne hc1 hc0 (by decide)))) (Eq.trans (zs_ne hmm14 (Or.inl (zc_ne hc1 hc0 (by decide)))) (Eq.trans (zs_ne hmm12 (Or.inl (zc_ne hc1 hc0 (by decide)))) (Eq.trans (zs_ne hmm10 (Or.inl (zc_ne hc1 hc0 (by decide)))) (Eq.trans (zs_ne hmm8 (Or.inl (zc_ne hc1 hc0 (by decide)))) (zs_ne hmm6 (Or.inl (zc_ne hc1 hc0 (by decide))))))))))
  exact zw_some ⟨hIm18, hFm18, trivial, by omega, (fun d hd => (Eq.trans (zs_ne hmm18 (Or.inr (by decide))) (Eq.trans (zs_ne hmm16 (Or.inr (by decide))) (Eq.trans (zs_ne hmm14 (Or.inr (by decide))) (Eq.trans (zs_ne hmm12 (Or.inr (by decide))) (Eq.trans (zs_ne hmm10 (Or.inr (by decide))) (Eq.trans (zs_ne hmm8 (Or.inr (by decide))) (Eq.trans (zs_ne hmm6 (Or.inl hd)) (zs_ne hmm3 (Or.inr (by decide)))))))))))⟩
set_option maxHeartbeats 4000000 in
theorem zk_196_27_15 (n : Nat) {a0 a1 : Int} {m0 : zu_m} (hIm0 : zi_I m0) (hc0 : zcls a0 = 27) (hc1 : zcls a1 = 15)      : zw (zu_call (zt_T n) 196 [(21, a0), (21, a1)] m0) (fun v m => zi_I m ∧ zfr [(27, 1), (27, 2), (27, 3), (27, 4), (27, 5), (27, 6), (27, 7), (27, 8)] m0 m ∧ True ∧ ((m a0 1) = (m0 a1 1)) ∧ (∀ d, d ≠ a0 → m d 1 = m0 d 1)) := by
  have hFm0 : zfr [(27, 1), (27, 2), (27, 3), (27, 4), (27, 5), (27, 6), (27, 7), (27, 8)] m0 m0 := zfr_rf _ _
  have r1 : 0 ≤ (m0 a1 1) ∧ (m0 a1 1) ≤ 47 := zi_rd hIm0 hc1 zb_15_1
  refine zw_eq (zu_call_at (zt_T n) (zm_196 n) (zdp_196 n) _ _ _ _ _ rfl (zr_196_0 n _ _ a0 a1 m0)) ?_
  have r2 : (-2147483648) ≤ (m0 a1 0) ∧ (m0 a1 0) ≤ 2147483647 := zi_rd hIm0 hc1 zb_15_0
  generalize hmm3 : zu_up m0 a0 0 (m0 a1 0) = m3
  have hIm3 := zi_up hmm3 hIm0 hc0 zb_27_0 (by omega) (by omega)
  have hFm3 := zfr_up hmm3 hFm0 hc0 rfl
  have r4 : 0 ≤ (m3 a1 1) ∧ (m3 a1 1) ≤ 47 := zi_rd hIm3 hc1 zb_15_1
  have e5 : (m3 a1 1) = (m0 a1 1) := (zs_ne hmm3 (Or.inl (zc_ne hc1 hc0 (by decide))))
  generalize hmm6 : zu_up m3 a0 1 (m3 a1 1) = m6
  have hIm6 := zi_up hmm6 hIm3 hc0 zb_27_1 (by omega) (by omega)
  have hFm6 := zfr_up hmm6 hFm3 hc0 rfl
  have r7 : 0 ≤ (m6 a1 2) ∧ (m6 a1 2) ≤ 15 := zi_rd hIm6 hc1 zb_15_2
  generalize hmm8 : zu_up m6 a0 2 (m6 a1 2) = m8
  have hIm8 := zi_up hmm8 hIm6 hc0 zb_27_2 (by omega) (by omega)
  have hFm8 := zfr_up hmm8 hFm6 hc0 rfl
  have r9 : 0 ≤ (m8 a1 3) ∧ (m8 a1 3) ≤ 3 := zi_rd hIm8 hc1 zb_15_3
  generalize hmm10 : zu_up m8 a0 3 (m8 a1 3) = m10
  have hIm10 := zi_up hmm10 hIm8 hc0 zb_27_3 (by omega) (by omega)
  have hFm10 := zfr_up hmm10 hFm8 hc0 rfl
  have r11 : (-2147483648) ≤ (m10 a1 4) ∧ (m10 a1 4) ≤ 2147483647 := zi_rd hIm10 hc1 zb_15_4
  generalize hmm12 : zu_up m10 a0 4 (m10 a1 4) = m12
  have hIm12 := zi_up hmm12 hIm10 hc0 zb_27_4 (by omega) (by omega)
  have hFm12 := zfr_up hmm12 hFm10 hc0 rfl
  have r13 : (-2147483648) ≤ (m12 a1 5) ∧ (m12 a1 5) ≤ 2147483647 := zi_rd hIm12 hc1 zb_15_5
  generalize hmm14 : zu_up m12 a0 5 (m12 a1 5) = m14
  have hIm14 := zi_up hmm14 hIm12 hc0 zb_27_5 (by omega) (by omega)
  have hFm14 := zfr_up hmm14 hFm12 hc0 rfl
  have r15 : (-2147483648) ≤ (m14 a1 6) ∧ (m14 a1 6) ≤ 2147483647 := zi_rd hIm14 hc1 zb_15_6
  generalize hmm16 : zu_up m14 a0 6 (m14 a1 6) = m16
  have hIm16 := zi_up hmm16 hIm14 hc0 zb_27_6 (by omega) (by omega)
  have hFm16 := zfr_up hmm16 hFm14 hc0 rfl
  have r17 : (-2147483648) ≤ (m16 a1 7) ∧ (m16 a1 7) ≤ 2147483647 := zi_rd hIm16 hc1 zb_15_7
  generalize hmm18 : zu_up m16 a0 7 (m16 a1 7) = m18
  have hIm18 := zi_up hmm18 hIm16 hc0 zb_27_7 (by omega) (by omega)
  have hFm18 := zfr_up hmm18 hFm16 hc0 rfl
  have r19 : 0 ≤ (m18 a0 1) ∧ (m18 a0 1) ≤ 47 := zi_rd hIm18 hc0 zb_27_1
  have e20 : (m18 a0 1) = (m3 a1 1) := (Eq.trans (zs_ne hmm18 (Or.inr (by decide))) (Eq.trans (zs_ne hmm16 (Or.inr (by decide))) (Eq.trans (zs_ne hmm14 (Or.inr (by decide))) (Eq.trans (zs_ne hmm12 (Or.inr (by decide))) (Eq.trans (zs_ne hmm10 (Or.inr (by decide))) (Eq.trans (zs_ne hmm8 (Or.inr (by decide))) (zs_eq hmm6)))))))
  have r21 : 0 ≤ (m18 a1 1) ∧ (m18 a1 1) ≤ 47 := zi_rd hIm18 hc1 zb_15_1
  have e22 : (m18 a1 1) = (m3 a1 1) := (Eq.trans (zs_ne hmm18 (Or.inl (zc_ne hc1 hc0 (by decide)))) (Eq.trans (zs_ne hmm16 (Or.inl (zc_ne hc1 hc0 (by decide)))) (Eq.trans (zs_ne hmm14 (Or.inl (zc_ne hc1 hc0 (by decide)))) (Eq.trans (zs_ne hmm12 (Or.inl (zc_ne hc1 hc0 (by decide)))) (Eq.trans (zs_ne hmm10 (Or.inl (zc_ne hc1 hc0 (by decide)))) (Eq.trans (zs_ne hmm8 (Or.inl (zc_ne hc1 hc0 (by decide)))) (zs_ne hmm6 (Or.inl (zc_ne hc1 hc0 (by decide))))))))))
  exact zw_some ⟨hIm18, hFm18, trivial, by omega, (fun d hd => (Eq.trans (zs_ne hmm18 (Or.inr (by decide))) (Eq.trans (zs_ne hmm16 (Or.inr (by decide))) (Eq.trans (zs_ne hmm14 (Or.inr (by decide))) (Eq.trans (zs_ne hmm12 (Or.inr (by decide))) (Eq.trans (zs_ne hmm10 (Or.inr (by decide))) (Eq.trans (zs_ne hmm8 (Or.inr (by decide))) (Eq.trans (zs_ne hmm6 (Or.inl hd)) (zs_ne hmm3 (Or.inr (by decide)))))))))))⟩
set_option maxHeartbeats 4000000 in
theorem zk_196_27_18 (n : Nat) {a0 a1 : Int} {m0 : zu_m} (hIm0 : zi_I m0) (hc0 : zcls a0 = 27) (hc1 : zcls a1 = 18)      : zw (zu_call (zt_T n) 196 [(21, a0), (21, a1)] m0) (fun v m => zi_I m ∧ zfr [(27, 1), (27, 2), (27, 3), (27, 4), (27, 5), (27, 6), (27, 7), (27, 8)] m0 m ∧ True ∧ ((m a0 1) = (m0 a1 1)) ∧ (∀ d, d ≠ a0 → m d 1 = m0 d 1)) := by
  have hFm0 : zfr [(27, 1), (27, 2), (27, 3), (27, 4), (27, 5), (27, 6), (27, 7), (27, 8)] m0 m0 := zfr_rf _ _
  have r1 : 0 ≤ (m0 a1 1) ∧ (m0 a1 1) ≤ 47 := zi_rd hIm0 hc1 zb_18_1
  refine zw_eq (zu_call_at (zt_T n) (zm_196 n) (zdp_196 n) _ _ _ _ _ rfl (zr_196_0 n _ _ a0 a1 m0)) ?_
  have r2 : (-2147483648) ≤ (m0 a1 0) ∧ (m0 a1 0) ≤ 2147483647 := zi_rd hIm0 hc1 zb_18_0
  generalize hmm3 : zu_up m0 a0 0 (m0 a1 0) = m3
  have hIm3 := zi_up hmm3 hIm0 hc0 zb_27_0 (by omega) (by omega)
  have hFm3 := zfr_up hmm3 hFm0 hc0 rfl
  have r4 : 0 ≤ (m3 a1 1) ∧ (m3 a1 1) ≤ 47 := zi_rd hIm3 hc1 zb_18_1
  have e5 : (m3 a1 1) = (m0 a1 1) := (zs_ne hmm3 (Or.inl (zc_ne hc1 hc0 (by decide))))
  generalize hmm6 : zu_up m3 a0 1 (m3 a1 1) = m6
  have hIm6 := zi_up hmm6 hIm3 hc0 zb_27_1 (by omega) (by omega)
  have hFm6 := zfr_up hmm6 hFm3 hc0 rfl
  have r7 : 0 ≤ (m6 a1 2) ∧ (m6 a1 2) ≤ 15 := zi_rd hIm6 hc1 zb_18_2
  generalize hmm8 : zu_up m6 a0 2 (m6 a1 2) = m8
  have hIm8 := zi_up hmm8 hIm6 hc0 zb_27_2 (by omega) (by omega)
  have hFm8 := zfr_up hmm8 hFm6 hc0 rfl
  have r9 : 0 ≤ (m8 a1 3) ∧ (m8 a1 3) ≤ 3 := zi_rd hIm8 hc1 zb_18_3
  generalize hmm10 : zu_up m8 a0 3 (m8 a1 3) = m10
  have hIm10 := zi_up hmm10 hIm8 hc0 zb_27_3 (by omega) (by omega)
  have hFm10 := zfr_up hmm10 hFm8 hc0 rfl
  have r11 : (-2147483648) ≤ (m10 a1 4) ∧ (m10 a1 4) ≤ 2147483647 := zi_rd hIm10 hc1 zb_18_4
  generalize hmm12 : zu_up m10 a0 4 (m10 a1 4) = m12
  have hIm12 := zi_up hmm12 hIm10 hc0 zb_27_4 (by omega) (by omega)
  have hFm12 := zfr_up hmm12 hFm10 hc0 rfl
  have r13 : (-2147483648) ≤ (m12 a1 5) ∧ (m12 a1 5) ≤ 2147483647 := zi_rd hIm12 hc1 zb_18_5
  generalize hmm14 : zu_up m12 a0 5 (m12 a1 5) = m14
  have hIm14 := zi_up hmm14 hIm12 hc0 zb_27_5 (by omega) (by omega)
  have hFm14 := zfr_up hmm14 hFm12 hc0 rfl
  have r15 : (-2147483648) ≤ (m14 a1 6) ∧ (m14 a1 6) ≤ 2147483647 := zi_rd hIm14 hc1 zb_18_6
  generalize hmm16 : zu_up m14 a0 6 (m14 a1 6) = m16
  have hIm16 := zi_up hmm16 hIm14 hc0 zb_27_6 (by omega) (by omega)
  have hFm16 := zfr_up hmm16 hFm14 hc0 rfl
  have r17 : (-2147483648) ≤ (m16 a1 7) ∧ (m16 a1 7) ≤ 2147483647 := zi_rd hIm16 hc1 zb_18_7
  generalize hmm18 : zu_up m16 a0 7 (m16 a1 7) = m18
  have hIm18 := zi_up hmm18 hIm16 hc0 zb_27_7 (by omega) (by omega)
  have hFm18 := zfr_up hmm18 hFm16 hc0 rfl
  have r19 : 0 ≤ (m18 a0 1) ∧ (m18 a0 1) ≤ 47 := zi_rd hIm18 hc0 zb_27_1
  have e20 : (m18 a0 1) = (m3 a1 1) := (Eq.trans (zs_ne hmm18 (Or.inr (by decide))) (Eq.trans (zs_ne hmm16 (Or.inr (by decide))) (Eq.trans (zs_ne hmm14 (Or.inr (by decide))) (Eq.trans (zs_ne hmm12 (Or.inr (by decide))) (Eq.trans (zs_ne hmm10 (Or.inr (by decide))) (Eq.trans (zs_ne hmm8 (Or.inr (by decide))) (zs_eq hmm6)))))))
  have r21 : 0 ≤ (m18 a1 1) ∧ (m18 a1 1) ≤ 47 := zi_rd hIm18 hc1 zb_18_1
  have e22 : (m18 a1 1) = (m3 a1 1) := (Eq.trans (zs_ne hmm18 (Or.inl (zc_ne hc1 hc0 (by decide)))) (Eq.trans (zs_ne hmm16 (Or.inl (zc_ne hc1 hc0 (by decide)))) (Eq.trans (zs_ne hmm14 (Or.inl (zc_ne hc1 hc0 (by decide)))) (Eq.trans (zs_ne hmm12 (Or.inl (zc_ne hc1 hc0 (by decide)))) (Eq.trans (zs_ne hmm10 (Or.inl (zc_ne hc1 hc0 (by decide)))) (Eq.trans (zs_ne hmm8 (Or.inl (zc_ne hc1 hc0 (by decide)))) (zs_ne hmm6 (Or.inl (zc_ne hc1 hc0 (by decide))))))))))
  exact zw_some ⟨hIm18, hFm18, trivial, by omega, (fun d hd => (Eq.trans (zs_ne hmm18 (Or.inr (by decide))) (Eq.trans (zs_ne hmm16 (Or.inr (by decide))) (Eq.trans (zs_ne hmm14 (Or.inr (by decide))) (Eq.trans (zs_ne hmm12 (Or.inr (by decide))) (Eq.trans (zs_ne hmm10 (Or.inr (by decide))) (Eq.trans (zs_ne hmm8 (Or.inr (by decide))) (Eq.trans (zs_ne hmm6 (Or.inl hd)) (zs_ne hmm3 (Or.inr (by decide)))))))))))⟩
set_option maxHeartbeats 4000000 in
theorem zk_197_14_7 (n : Nat) {a0 a1 : Int} {m0 : zu_m} (hIm0 : zi_I m0) (hc0 : zcls a0 = 14) (hc1 : zcls a1 = 7)      : zw (zu_call (zt_T n) 197 [(20, a0), (20, a1)] m0) (fun v m => zi_I m ∧ zfr [(14, 1), (14, 2), (14, 3), (14, 4)] m0 m ∧ True) := by
  have hFm0 : zfr [(14, 1), (14, 2), (14, 3), (14, 4)] m0 m0 := zfr_rf _ _
  refine zw_eq (zu_call_at (zt_T n) (zm_197 n) (zdp_197 n) _ _ _ _ _ rfl (zr_197_0 n _ _ a0 a1 m0)) ?_
  have r1 : 0 ≤ (m0 a1 0) ∧ (m0 a1 0) ≤ 47 := zi_rd hIm0 hc1 zb_7_0
  generalize hmm2 : zu_up m0 a0 0 (m0 a1 0) = m2
  have hIm2 := zi_up hmm2 hIm0 hc0 zb_14_0 (by omega) (by omega)
  have hFm2 := zfr_up hmm2 hFm0 hc0 rfl
  have r3 : 0 ≤ (m2 a1 1) ∧ (m2 a1 1) ≤ 3 := zi_rd hIm2 hc1 zb_7_1
  generalize hmm4 : zu_up m2 a0 1 (m2 a1 1) = m4
  have hIm4 := zi_up hmm4 hIm2 hc0 zb_14_1 (by omega) (by omega)
  have hFm4 := zfr_up hmm4 hFm2 hc0 rfl
  have r5 : 0 ≤ (m4 a1 2) ∧ (m4 a1 2) ≤ 9 := zi_rd hIm4 hc1 zb_7_2
  generalize hmm6 : zu_up m4 a0 2 (m4 a1 2) = m6
  have hIm6 := zi_up hmm6 hIm4 hc0 zb_14_2 (by omega) (by omega)
  have hFm6 := zfr_up hmm6 hFm4 hc0 rfl
  have r7 : (-3) ≤ (m6 a1 3) ∧ (m6 a1 3) ≤ 3 := zi_rd hIm6 hc1 zb_7_3
  generalize hmm8 : zu_up m6 a0 3 (m6 a1 3) = m8
  have hIm8 := zi_up hmm8 hIm6 hc0 zb_14_3 (by omega) (by omega)
  have hFm8 := zfr_up hmm8 hFm6 hc0 rfl
  exact zw_some ⟨hIm8, hFm8, trivial⟩
set_option maxHeartbeats 4000000 in
theorem zk_197_17_14 (n : Nat) {a0 a1 : Int} {m0 : zu_m} (hIm0 : zi_I m0) (hc0 : zcls a0 = 17) (hc1 : zcls a1 = 14)      : zw (zu_call (zt_T n) 197 [(20, a0), (20, a1)] m0) (fun v m => zi_I m ∧ zfr [(17, 1), (17, 2), (17, 3), (17, 4)] m0 m ∧ True) := by
  have hFm0 : zfr [(17, 1), (17, 2), (17, 3), (17, 4)] m0 m0 := zfr_rf _ _
  refine zw_eq (zu_call_at (zt_T n) (zm_197 n) (zdp_197 n) _ _ _ _ _ rfl (zr_197_0 n _ _ a0 a1 m0)) ?_
  have r1 : 0 ≤ (m0 a1 0) ∧ (m0 a1 0) ≤ 47 := zi_rd hIm0 hc1 zb_14_0
  generalize hmm2 : zu_up m0 a0 0 (m0 a1 0) = m2
  have hIm2 := zi_up hmm2 hIm0 hc0 zb_17_0 (by omega) (by omega)
  have hFm2 := zfr_up hmm2 hFm0 hc0 rfl
  have r3 : 0 ≤ (m2 a1 1) ∧ (m2 a1 1) ≤ 3 := zi_rd hIm2 hc1 zb_14_1
  generalize hmm4 : zu_up m2 a0 1 (m2 a1 1) = m4
  have hIm4 := zi_up hmm4 hIm2 hc0 zb_17_1 (by omega) (by omega)
  have hFm4 := zfr_up hmm4 hFm2 hc0 rfl
  have r5 : 0 ≤ (m4 a1 2) ∧ (m4 a1 2) ≤ 9 := zi_rd hIm4 hc1 zb_14_2
  generalize hmm6 : zu_up m4 a0 2 (m4 a1 2) = m6
  have hIm6 := zi_up hmm6 hIm4 hc0 zb_17_2 (by omega) (by omega)
  have hFm6 := zfr_up hmm6 hFm4 hc0 rfl
  have r7 : (-3) ≤ (m6 a1 3) ∧ (m6 a1 3) ≤ 3 := zi_rd hIm6 hc1 zb_14_3
  generalize hmm8 : zu_up m6 a0 3 (m6 a1 3) = m8
  have hIm8 := zi_up hmm8 hIm6 hc0 zb_17_3 (by omega) (by omega)
  have hFm8 := zfr_up hmm8 hFm6 hc0 rfl
  exact zw_some ⟨hIm8, hFm8, trivial⟩
set_option maxHeartbeats 4000000 in
theorem zk_197_17_20 (n : Nat) {a0 a1 : Int} {m0 : zu_m} (hIm0 : zi_I m0) (hc0 : zcls a0 = 17) (hc1 : zcls a1 = 20)      : zw (zu_call (zt_T n) 197 [(20, a0), (20, a1)] m0) (fun v m => zi_I m ∧ zfr [(17, 1), (17, 2), (17, 3), (17, 4)] m0 m ∧ True) := by
  have hFm0 : zfr [(17, 1), (17, 2), (17, 3), (17, 4)] m0 m0 := zfr_rf _ _
  refine zw_eq (zu_call_at (zt_T n) (zm_197 n) (zdp_197 n) _ _ _ _ _ rfl (zr_197_0 n _ _ a0 a1 m0)) ?_
  have r1 : 0 ≤ (m0 a1 0) ∧ (m0 a1 0) ≤ 47 := zi_rd hIm0 hc1 zb_20_0
  generalize hmm2 : zu_up m0 a0 0 (m0 a1 0) = m2
  have hIm2 := zi_up hmm2 hIm0 hc0 zb_17_0 (by omega) (by omega)
  have hFm2 := zfr_up hmm2 hFm0 hc0 rfl
  have r3 : 0 ≤ (m2 a1 1) ∧ (m2 a1 1) ≤ 3 := zi_rd hIm2 hc1 zb_20_1
  generalize hmm4 : zu_up m2 a0 1 (m2 a1 1) = m4
  have hIm4 := zi_up hmm4 hIm2 hc0 zb_17_1 (by omega) (by omega)
  have hFm4 := zfr_up hmm4 hFm2 hc0 rfl
  have r5 : 0 ≤ (m4 a1 2) ∧ (m4 a1 2) ≤ 9 := zi_rd hIm4 hc1 zb_20_2
  generalize hmm6 : zu_up m4 a0 2 (m4 a1 2) = m6
  have hIm6 := zi_up hmm6 hIm4 hc0 zb_17_2 (by omega) (by omega)
  have hFm6 := zfr_up hmm6 hFm4 hc0 rfl
  have r7 : (-3) ≤ (m6 a1 3) ∧ (m6 a1 3) ≤ 3 := zi_rd hIm6 hc1 zb_20_3
  generalize hmm8 : zu_up m6 a0 3 (m6 a1 3) = m8
  have hIm8 := zi_up hmm8 hIm6 hc0 zb_17_3 (by omega) (by omega)
  have hFm8 := zfr_up hmm8 hFm6 hc0 rfl
  exact zw_some ⟨hIm8, hFm8, trivial⟩
set_option maxHeartbeats 4000000 in
theorem zk_197_20_17 (n : Nat) {a0 a1 : Int} {m0 : zu_m} (hIm0 : zi_I m0) (hc0 : zcls a0 = 20) (hc1 : zcls a1 = 17)      : zw (zu_call (zt_T n) 197 [(20, a0), (20, a1)] m0) (fun v m => zi_I m ∧ zfr [(20, 1), (20, 2), (20, 3), (20, 4)] m0 m ∧ True) := by
  have hFm0 : zfr [(20, 1), (20, 2), (20, 3), (20, 4)] m0 m0 := zfr_rf _ _
  refine zw_eq (zu_call_at (zt_T n) (zm_197 n) (zdp_197 n) _ _ _ _ _ rfl (zr_197_0 n _ _ a0 a1 m0)) ?_
  have r1 : 0 ≤ (m0 a1 0) ∧ (m0 a1 0) ≤ 47 := zi_rd hIm0 hc1 zb_17_0
  generalize hmm2 : zu_up m0 a0 0 (m0 a1 0) = m2
  have hIm2 := zi_up hmm2 hIm0 hc0 zb_20_0 (by omega) (by omega)
  have hFm2 := zfr_up hmm2 hFm0 hc0 rfl
  have r3 : 0 ≤ (m2 a1 1) ∧ (m2 a1 1) ≤ 3 := zi_rd hIm2 hc1 zb_17_1
  generalize hmm4 : zu_up m2 a0 1 (m2 a1 1) = m4
  have hIm4 := zi_up hmm4 hIm2 hc0 zb_20_1 (by omega) (by omega)
  have hFm4 := zfr_up hmm4 hFm2 hc0 rfl
  have r5 : 0 ≤ (m4 a1 2) ∧ (m4 a1 2) ≤ 9 := zi_rd hIm4 hc1 zb_17_2
  generalize hmm6 : zu_up m4 a0 2 (m4 a1 2) = m6
  have hIm6 := zi_up hmm6 hIm4 hc0 zb_20_2 (by omega) (by omega)
  have hFm6 := zfr_up hmm6 hFm4 hc0 rfl
  have r7 : (-3) ≤ (m6 a1 3) ∧ (m6 a1 3) ≤ 3 := zi_rd hIm6 hc1 zb_17_3
  generalize hmm8 : zu_up m6 a0 3 (m6 a1 3) = m8
  have hIm8 := zi_up hmm8 hIm6 hc0 zb_20_3 (by omega) (by omega)
  have hFm8 := zfr_up hmm8 hFm6 hc0 rfl
  exact zw_some ⟨hIm8, hFm8, trivial⟩
set_option maxHeartbeats 4000000 in
theorem zk_197_26_14 (n : Nat) {a0 a1 : Int} {m0 : zu_m} (hIm0 : zi_I m0) (hc0 : zcls a0 = 26) (hc1 : zcls a1 = 14)      : zw (zu_call (zt_T n) 197 [(20, a0), (20, a1)] m0) (fun v m => zi_I m ∧ zfr [(26, 1), (26, 2), (26, 3), (26, 4)] m0 m ∧ True) := by
  have hFm0 : zfr [(26, 1), (26, 2), (26, 3), (26, 4)] m0 m0 := zfr_rf _ _
  refine zw_eq (zu_call_at (zt_T n) (zm_197 n) (zdp_197 n) _ _ _ _ _ rfl (zr_197_0 n _ _ a0 a1 m0)) ?_
  have r1 : 0 ≤ (m0 a1 0) ∧ (m0 a1 0) ≤ 47 := zi_rd hIm0 hc1 zb_14_0
  generalize hmm2 : zu_up m0 a0 0 (m0 a1 0) = m2
  have hIm2 := zi_up hmm2 hIm0 hc0 zb_26_0 (by omega) (by omega)
  have hFm2 := zfr_up hmm2 hFm0 hc0 rfl
  have r3 : 0 ≤ (m2 a1 1) ∧ (m2 a1 1) ≤ 3 := zi_rd hIm2 hc1 zb_14_1
  generalize hmm4 : zu_up m2 a0 1 (m2 a1 1) = m4
  have hIm4 := zi_up hmm4 hIm2 hc0 zb_26_1 (by omega) (by omega)
  have hFm4 := zfr_up hmm4 hFm2 hc0 rfl
  have r5 : 0 ≤ (m4 a1 2) ∧ (m4 a1 2) ≤ 9 := zi_rd hIm4 hc1 zb_14_2
  generalize hmm6 : zu_up m4 a0 2 (m4 a1 2) = m6
  have hIm6 := zi_up hmm6 hIm4 hc0 zb_26_2 (by omega) (by omega)
  have hFm6 := zfr_up hmm6 hFm4 hc0 rfl
  have r7 : (-3) ≤ (m6 a1 3) ∧ (m6 a1 3) ≤ 3 := zi_rd hIm6 hc1 zb_14_3
  generalize hmm8 : zu_up m6 a0 3 (m6 a1 3) = m8
  have hIm8 := zi_up hmm8 hIm6 hc0 zb_26_3 (by omega) (by omega)
  have hFm8 := zfr_up hmm8 hFm6 hc0 rfl
  exact zw_some ⟨hIm8, hFm8, trivial⟩
set_option maxHeartbeats 4000000 in
theorem zk_197_26_17 (n : Nat) {a0 a1 : Int} {m0 : zu_m} (hIm0 : zi_I m0) (hc0 : zcls a0 = 26) (hc1 : zcls a1 = 17)      : zw (zu_call (zt_T n) 197 [(20, a0), (20, a1)] m0) (fun v m => zi_I m ∧ zfr [(26, 1), (26, 2), (26, 3), (26, 4)] m0 m ∧ True) := by
  have hFm0 : zfr [(26, 1), (26, 2), (26, 3), (26, 4)] m0 m0 := zfr_rf _ _
  refine zw_eq (zu_call_at (zt_T n) (zm_197 n) (zdp_197 n) _ _ _ _ _ rfl (zr_197_0 n _ _ a0 a1 m0)) ?_
  have r1 : 0 ≤ (m0 a1 0) ∧ (m0 a1 0) ≤ 47 := zi_rd hIm0 hc1 zb_17_0
  generalize hmm2 : zu_up m0 a0 0 (m0 a1 0) = m2
  have hIm2 := zi_up hmm2 hIm0 hc0 zb_26_0 (by omega) (by omega)
  have hFm2 := zfr_up hmm2 hFm0 hc0 rfl
  have r3 : 0 ≤ (m2 a1 1) ∧ (m2 a1 1) ≤ 3 := zi_rd hIm2 hc1 zb_17_1
  generalize hmm4 : zu_up m2 a0 1 (m2 a1 1) = m4
  have hIm4 := zi_up hmm4 hIm2 hc0 zb_26_1 (by omega) (by omega)
  have hFm4 := zfr_up hmm4 hFm2 hc0 rfl
  have r5 : 0 ≤ (m4 a1 2) ∧ (m4 a1 2) ≤ 9 := zi_rd hIm4 hc1 zb_17_2
  generalize hmm6 : zu_up m4 a0 2 (m4 a1 2) = m6
  have hIm6 := zi_up hmm6 hIm4 hc0 zb_26_2 (by omega) (by omega)
  have hFm6 := zfr_up hmm6 hFm4 hc0 rfl
  have r7 : (-3) ≤ (m6 a1 3) ∧ (m6 a1 3) ≤ 3 := zi_rd hIm6 hc1 zb_17_3
  generalize hmm8 : zu_up m6 a0 3 (m6 a1 3) = m8
  have hIm8 := zi_up hmm8 hIm6 hc0 zb_26_3 (by omega) (by omega)
  have hFm8 := zfr_up hmm8 hFm6 hc0 rfl
  exact zw_some ⟨hIm8, hFm8, trivial⟩
set_option maxHeartbeats 4000000 in
theorem zk_207 (n : Nat) {a0 a1 a2 : Int} {m0 : zu_m} (hIm0 : zi_I m0) (hc0 : zcls a0 = 5) (ha1 : 0 ≤ a1 ∧ a1 ≤ 17) (ha2 : (-2147483648) ≤ a2 ∧ a2 ≤ 9999)   (hxp0 : a1 = 17 → (0 ≤ a2 ∧ a2 ≤ 6)) (hRK10m0 : zR_K10 m0) : zw (zu_call (zt_T n) 207 [(10, a0), (0, a1), (0, a2)] m0) (fun v m => zi_I m ∧ zfr [(5, 7), (33, 0), (34, 0)] m0 m ∧ zR_K10 m ∧ True ∧ (1 ≤ m a0 6 ∧ m a0 6 ≤ 64)) := by
  have hFm0 : zfr [(5, 7), (33, 0), (34, 0)] m0 m0 := zfr_rf _ _
  refine zw_eq (zu_call_at (zt_T n) (zm_207 n) (zdp_207 n) _ _ _ _ _ rfl (zr_207_0 n _ _ a0 a1 a2 m0)) ?_
  have r1 : 0 ≤ (m0 a0 6) ∧ (m0 a0 6) ≤ 64 := zi_rd hIm0 hc0 zb_5_6
  refine zw_ite (fun h2 => ?_) (fun h2 => ?_)
  · exact zw_some ⟨hIm0, hFm0, hRK10m0, trivial, ⟨by omega, by omega⟩⟩
  · have b3 : 0 ≤ (m0 a0 6) ∧ (m0 a0 6) < 64 := by omega
    refine zw_if b3 ?_
    generalize hmm4 : zu_up m0 (a0 + 1) (m0 a0 6) a1 = m4
    have hIm4 := zi_up hmm4 hIm0 (zc_5_0 hc0) (zb_33 _) (by omega) (by omega)
    have hFm4 := zfr_up hmm4 hFm0 (zc_5_0 hc0) rfl
    have r5 : 0 ≤ (m4 a0 6) ∧ (m4 a0 6) ≤ 64 := zi_rd hIm4 hc0 zb_5_6
    have e6 : (m4 a0 6) = (m0 a0 6) := (zs_ne hmm4 (Or.inl (zc_ne hc0 (zc_5_0 hc0) (by decide))))
    have b7 : 0 ≤ (m4 a0 6) ∧ (m4 a0 6) < 64 := by omega
    refine zw_if b7 ?_
    generalize hmm8 : zu_up m4 (a0 + 2) (m4 a0 6) a2 = m8
    have hIm8 := zi_up hmm8 hIm4 (zc_5_1 hc0) (zb_34 _) (by omega) (by omega)
    have hFm8 := zfr_up hmm8 hFm4 (zc_5_1 hc0) rfl
    have hRK10m8 := zK_lay hmm4 hmm8 (by omega) (by omega) hRK10m0 hc0
    have r9 : 0 ≤ (m8 a0 6) ∧ (m8 a0 6) ≤ 64 := zi_rd hIm8 hc0 zb_5_6
    have e10 : (m8 a0 6) = (m4 a0 6) := (zs_ne hmm8 (Or.inl (zc_ne hc0 (zc_5_1 hc0) (by decide))))
    have w11 := zu_w32_id (z := (m8 a0 6) + 1) (by omega) (by omega)
    generalize hmm12 : zu_up m8 a0 6 (zu_w32 ((m8 a0 6) + 1)) = m12
    have hIm12 := zi_up hmm12 hIm8 hc0 zb_5_6 (by omega) (by omega)
    have hFm12 := zfr_up hmm12 hFm8 hc0 rfl
    have hRK10m12 := zR_K10_fr (zdis_fr (zfr_up hmm12 (zfr_rf [(5, 7)] _) hc0 rfl) rfl) hRK10m8
    have r13 : 0 ≤ (m12 a0 6) ∧ (m12 a0 6) ≤ 64 := zi_rd hIm12 hc0 zb_5_6
    have e14 : (m12 a0 6) = (zu_w32 ((m8 a0 6) + 1)) := (zs_eq hmm12)
    exact zw_some ⟨hIm12, hFm12, hRK10m12, trivial, ⟨by omega, by omega⟩⟩
set_option maxHeartbeats 4000000 in
theorem zk_208 (n : Nat) {a0 a1 a2 : Int} {m0 : zu_m} (hIm0 : zi_I m0)  (ha0 : 0 ≤ a0 ∧ a0 ≤ 6) (ha1 : (-9223372036854775808) ≤ a1 ∧ a1 ≤ 9223372036854775807) (ha2 : (-9223372036854775808) ≤ a2 ∧ a2 ≤ 9223372036854775807)     : zw (zu_call (zt_T n) 208 [(0, a0), (1, a1), (1, a2)] m0) (fun v m => zi_I m ∧ zfr [] m0 m ∧ ((-9223372036854775808) ≤ v ∧ v ≤ 9223372036854775807)) := by
  have hFm0 : zfr [] m0 m0 := zfr_rf _ _
  refine zw_eq (zu_call_at (zt_T n) (zm_208 n) (zdp_208 n) _ _ _ _ _ rfl (zr_208_0 n _ _ a0 a1 a2 m0)) ?_
  refine zw_ite (fun h1 => ?_) (fun h1 => ?_)
  · have w2 := zu_w64_rg (a1 + a2)
    exact zw_some ⟨hIm0, hFm0, ⟨by omega, by omega⟩⟩
  · refine zw_ite (fun h3 => ?_) (fun h3 => ?_)
    · have w4 := zu_w64_rg (a1 - a2)
      exact zw_some ⟨hIm0, hFm0, ⟨by omega, by omega⟩⟩
    · refine zw_ite (fun h5 => ?_) (fun h5 => ?_)
      · have c6 := zu_lcmp_sp a1 0
        refine zw_ite (fun h7 => ?_) (fun h7 => ?_)
        · exact zw_some ⟨hIm0, hFm0, ⟨by omega, by omega⟩⟩
        · have c8 := zu_lcmp_sp a2 0
          refine zw_ite (fun h9 => ?_) (fun h9 => ?_)
          · have c10 := zu_lcmp_sp a2 0
            refine zw_ite (fun h11 => ?_) (fun h11 => ?_)
            · have c12 := zu_lcmp_sp a1 0
              refine zw_ite (fun h13 => ?_) (fun h13 => ?_)
              · refine zw_nif (by omega) ?_
                have w14 := zu_w64_rg (Int.tdiv 1000000000000 a1)
                have c15 := zu_lcmp_sp a2 (zu_w64 (Int.tdiv 1000000000000 a1))
                refine zw_ite (fun h16 => ?_) (fun h16 => ?_)
                · have w17 := zu_w64_rg (a1 * a2)
                  exact zw_some ⟨hIm0, hFm0, ⟨by omega, by omega⟩⟩
                · exact zw_some ⟨hIm0, hFm0, ⟨by omega, by omega⟩⟩
              · have w18 := zu_w64_rg (-a1)
                have w19 := zu_w64_ng (x := a1) (by omega) (by omega)
                refine zw_nif (by omega) ?_
                have w20 := zu_w64_rg (Int.tdiv 1000000000000 (zu_w64 (-a1)))
                have c21 := zu_lcmp_sp a2 (zu_w64 (Int.tdiv 1000000000000 (zu_w64 (-a1))))
                refine zw_ite (fun h22 => ?_) (fun h22 => ?_)
                · have w23 := zu_w64_rg (a1 * a2)
                  exact zw_some ⟨hIm0, hFm0, ⟨by omega, by omega⟩⟩
                · exact zw_some ⟨hIm0, hFm0, ⟨by omega, by omega⟩⟩
            · have w24 := zu_w64_rg (-a2)
              have w25 := zu_w64_ng (x := a2) (by omega) (by omega)
              have c26 := zu_lcmp_sp a1 0
              refine zw_ite (fun h27 => ?_) (fun h27 => ?_)
              · refine zw_nif (by omega) ?_
                have w28 := zu_w64_rg (Int.tdiv 1000000000000 a1)
                have c29 := zu_lcmp_sp (zu_w64 (-a2)) (zu_w64 (Int.tdiv 1000000000000 a1))
                refine zw_ite (fun h30 => ?_) (fun h30 => ?_)
                · have w31 := zu_w64_rg (a1 * a2)
                  exact zw_some ⟨hIm0, hFm0, ⟨by omega, by omega⟩⟩
                · exact zw_some ⟨hIm0, hFm0, ⟨by omega, by omega⟩⟩
              · have w32 := zu_w64_rg (-a1)
                have w33 := zu_w64_ng (x := a1) (by omega) (by omega)
                refine zw_nif (by omega) ?_
                have w34 := zu_w64_rg (Int.tdiv 1000000000000 (zu_w64 (-a1)))
                have c35 := zu_lcmp_sp (zu_w64 (-a2)) (zu_w64 (Int.tdiv 1000000000000 (zu_w64 (-a1))))
                refine zw_ite (fun h36 => ?_) (fun h36 => ?_)
                · have w37 := zu_w64_rg (a1 * a2)
                  exact zw_some ⟨hIm0, hFm0, ⟨by omega, by omega⟩⟩
                · exact zw_some ⟨hIm0, hFm0, ⟨by omega, by omega⟩⟩
          · exact zw_some ⟨hIm0, hFm0, ⟨by omega, by omega⟩⟩
      · have c38 := zu_lcmp_sp a2 0
        refine zw_ite (fun h39 => ?_) (fun h39 => ?_)
        · refine zw_nif (by omega) ?_
          have w40 := zu_w64_rg (Int.tdiv a1 a2)
          exact zw_some ⟨hIm0, hFm0, ⟨by omega, by omega⟩⟩
        · exact zw_some ⟨hIm0, hFm0, ⟨by omega, by omega⟩⟩
set_option maxHeartbeats 4000000 in
theorem zk_209 (n : Nat) {a0 a1 a2 : Int} {m0 : zu_m} (hIm0 : zi_I m0)  (ha0 : 7 ≤ a0 ∧ a0 ≤ 16) (ha1 : (-9223372036854775808) ≤ a1 ∧ a1 ≤ 9223372036854775807) (ha2 : (-9223372036854775808) ≤ a2 ∧ a2 ≤ 9223372036854775807)     : zw (zu_call (zt_T n) 209 [(0, a0), (1, a1), (1, a2)] m0) (fun v m => zi_I m ∧ zfr [] m0 m ∧ (0 ≤ v ∧ v ≤ 1)) := by
  have hFm0 : zfr [] m0 m0 := zfr_rf _ _
  refine zw_eq (zu_call_at (zt_T n) (zm_209 n) (zdp_209 n) _ _ _ _ _ rfl (zr_209_0 n _ _ a0 a1 a2 m0)) ?_
  refine zw_ite (fun h1 => ?_) (fun h1 => ?_)
  · have c2 := zu_lcmp_sp a1 a2
    refine zw_ite (fun h3 => ?_) (fun h3 => ?_)
    · refine zw_b (by omega) ?_
      exact zw_some ⟨hIm0, hFm0, ⟨by omega, by omega⟩⟩
    · refine zw_b (by omega) ?_
      exact zw_some ⟨hIm0, hFm0, ⟨by omega, by omega⟩⟩
  · refine zw_ite (fun h4 => ?_) (fun h4 => ?_)
    · have c5 := zu_lcmp_sp a1 a2
      refine zw_ite (fun h6 => ?_) (fun h6 => ?_)
      · refine zw_b (by omega) ?_
        exact zw_some ⟨hIm0, hFm0, ⟨by omega, by omega⟩⟩
      · refine zw_b (by omega) ?_
        exact zw_some ⟨hIm0, hFm0, ⟨by omega, by omega⟩⟩
    · refine zw_ite (fun h7 => ?_) (fun h7 => ?_)
      · have c8 := zu_lcmp_sp a1 a2
        refine zw_ite (fun h9 => ?_) (fun h9 => ?_)
        · refine zw_b (by omega) ?_
          exact zw_some ⟨hIm0, hFm0, ⟨by omega, by omega⟩⟩
        · refine zw_b (by omega) ?_
          exact zw_some ⟨hIm0, hFm0, ⟨by omega, by omega⟩⟩
      · refine zw_ite (fun h10 => ?_) (fun h10 => ?_)
        · have c11 := zu_lcmp_sp a1 a2
          refine zw_ite (fun h12 => ?_) (fun h12 => ?_)
          · refine zw_b (by omega) ?_
            exact zw_some ⟨hIm0, hFm0, ⟨by omega, by omega⟩⟩
          · refine zw_b (by omega) ?_
            exact zw_some ⟨hIm0, hFm0, ⟨by omega, by omega⟩⟩
        · refine zw_ite (fun h13 => ?_) (fun h13 => ?_)
          · have c14 := zu_lcmp_sp a1 a2
            refine zw_ite (fun h15 => ?_) (fun h15 => ?_)
            · refine zw_b (by omega) ?_
              exact zw_some ⟨hIm0, hFm0, ⟨by omega, by omega⟩⟩
            · refine zw_b (by omega) ?_
              exact zw_some ⟨hIm0, hFm0, ⟨by omega, by omega⟩⟩
          · refine zw_ite (fun h16 => ?_) (fun h16 => ?_)
            · have c17 := zu_lcmp_sp a1 a2
              refine zw_ite (fun h18 => ?_) (fun h18 => ?_)
              · refine zw_b (by omega) ?_
                exact zw_some ⟨hIm0, hFm0, ⟨by omega, by omega⟩⟩
              · refine zw_b (by omega) ?_
                exact zw_some ⟨hIm0, hFm0, ⟨by omega, by omega⟩⟩
            · refine zw_ite (fun h19 => ?_) (fun h19 => ?_)
              · have c20 := zu_lcmp_sp a1 0
                refine zw_ite (fun h21 => ?_) (fun h21 => ?_)
                · refine zw_b (by omega) ?_
                  exact zw_some ⟨hIm0, hFm0, ⟨by omega, by omega⟩⟩
                · have c22 := zu_lcmp_sp a2 0
                  refine zw_ite (fun h23 => ?_) (fun h23 => ?_)
                  · refine zw_b (by omega) ?_
                    exact zw_some ⟨hIm0, hFm0, ⟨by omega, by omega⟩⟩
                  · refine zw_b (by omega) ?_
                    exact zw_some ⟨hIm0, hFm0, ⟨by omega, by omega⟩⟩
              · have c24 := zu_lcmp_sp a1 0
                refine zw_ite (fun h25 => ?_) (fun h25 => ?_)
                · refine zw_b (by omega) ?_
                  exact zw_some ⟨hIm0, hFm0, ⟨by omega, by omega⟩⟩
                · have c26 := zu_lcmp_sp a2 0
                  refine zw_ite (fun h27 => ?_) (fun h27 => ?_)
                  · refine zw_b (by omega) ?_
                    exact zw_some ⟨hIm0, hFm0, ⟨by omega, by omega⟩⟩
                  · refine zw_b (by omega) ?_
                    exact zw_some ⟨hIm0, hFm0, ⟨by omega, by omega⟩⟩
set_option maxHeartbeats 4000000 in
theorem zl_212_16 (n : Nat) {a0 a1 : Int} {m0 : zu_m} (hc0 : zcls a0 = 16)   : ∀ k : Nat, (∀ (x2 : Int) (mh : zu_m), zi_I mh → zfr [] m0 mh → ((-2147483648) ≤ a1 ∧ a1 ≤ 2147483647) → (0 ≤ x2 ∧ x2 ≤ 4) → (4 - x2) * 1 + 0 < (k : Int) → zw (zu_ex (zt_T n) 212 2 [(27, a0), (0, a1), (0, x2)] [] mh) (fun v m => zi_I m ∧ zfr [] m0 m ∧ ((-1) ≤ v ∧ v ≤ 3))) := by
  intro k
  induction k with
  | zero => exact fun x2 mh hImh hFmh hba1 hbx2 hM => by exfalso; omega
  | succ k ih =>
    intro x2 mh hImh hFmh hba1 hbx2 hM
    refine zw_eq (zu_rega_at (zt_T n) (zm_212 n) (zdp_212 n) _ _ _ _ _ _ (zr_212_2 n _ _ a0 a1 x2 mh)) ?_
    have r1 : 0 ≤ (mh a0 4) ∧ (mh a0 4) ≤ 4 := zi_rd hImh hc0 zb_16_4
    refine zw_ite (fun h2 => ?_) (fun h2 => ?_)
    · exact zw_some ⟨hImh, hFmh, ⟨by omega, by omega⟩⟩
    · have b3 : 0 ≤ x2 ∧ x2 < 4 := by omega
      refine zw_if b3 ?_
      have r4 : (-2147483648) ≤ (mh ((a0 + 2) + 20 + x2) 0) ∧ (mh ((a0 + 2) + 20 + x2) 0) ≤ 2147483647 := zi_rd hImh (zc_66_e (zc_16_3 hc0) b3) zb_18_0
      refine zw_ite (fun h5 => ?_) (fun h5 => ?_)
      · have w6 := zu_w32_id (z := x2 + 1) (by omega) (by omega)
        have hM : (4 - (zu_w32 (x2 + 1))) * 1 + 0 < (k : Int) := by omega
        exact ih (zu_w32 (x2 + 1)) mh hImh hFmh ⟨by omega, by omega⟩ ⟨by omega, by omega⟩ hM
      · exact zw_some ⟨hImh, hFmh, ⟨by omega, by omega⟩⟩
set_option maxHeartbeats 4000000 in
theorem zk_212_16 (n : Nat) {a0 a1 : Int} {m0 : zu_m} (hIm0 : zi_I m0) (hc0 : zcls a0 = 16) (ha1 : (-2147483648) ≤ a1 ∧ a1 ≤ 2147483647)     : zw (zu_call (zt_T n) 212 [(27, a0), (0, a1)] m0) (fun v m => zi_I m ∧ zfr [] m0 m ∧ ((-1) ≤ v ∧ v ≤ 3)) := by
  have hFm0 : zfr [] m0 m0 := zfr_rf _ _
  refine zw_eq (zu_call_at (zt_T n) (zm_212 n) (zdp_212 n) _ _ _ _ _ rfl (zr_212_0 n _ _ a0 a1 m0)) ?_
  have hM : (4 - 0) * 1 + 0 < ((5 : Nat) : Int) := by omega
  exact (zl_212_16 n (m0 := m0) hc0 5) 0 m0 hIm0 hFm0 ⟨by omega, by omega⟩ ⟨by omega, by omega⟩ hM
set_option maxHeartbeats 4000000 in
theorem zl_212_6 (n : Nat) {a0 a1 : Int} {m0 : zu_m} (hc0 : zcls a0 = 6)   : ∀ k : Nat, (∀ (x2 : Int) (mh : zu_m), zi_I mh → zfr [] m0 mh → ((-2147483648) ≤ a1 ∧ a1 ≤ 2147483647) → (0 ≤ x2 ∧ x2 ≤ 3) → (0 ≤ mh a0 4 ∧ mh a0 4 ≤ 3) → (3 - x2) * 1 + 0 < (k : Int) → zw (zu_ex (zt_T n) 212 2 [(16, a0), (0, a1), (0, x2)] [] mh) (fun v m => zi_I m ∧ zfr [] m0 m ∧ ((-1) ≤ v ∧ v ≤ 2))) := by
  intro k
  induction k with
  | zero => exact fun x2 mh hImh hFmh hba1 hbx2 hg2 hM => by exfalso; omega
  | succ k ih =>
    intro x2 mh hImh hFmh hba1 hbx2 hg2 hM
    refine zw_eq (zu_rega_at (zt_T n) (zm_212 n) (zdp_212 n) _ _ _ _ _ _ (zr_212b_2 n _ _ a0 a1 x2 mh)) ?_
    refine zw_ite (fun h1 => ?_) (fun h1 => ?_)
    · exact zw_some ⟨hImh, hFmh, ⟨by omega, by omega⟩⟩
    · have b2 : 0 ≤ x2 ∧ x2 < 4 := by omega
      refine zw_if b2 ?_
      have r3 : (-2147483648) ≤ (mh (21 + 20 + x2) 0) ∧ (mh (21 + 20 + x2) 0) ≤ 2147483647 := zi_rd hImh (zc_42_e zq_21 b2) zb_8_0
      refine zw_ite (fun h4 => ?_) (fun h4 => ?_)
      · have w5 := zu_w32_id (z := x2 + 1) (by omega) (by omega)
        have hM : (3 - (zu_w32 (x2 + 1))) * 1 + 0 < (k : Int) := by omega
        exact ih (zu_w32 (x2 + 1)) mh hImh hFmh ⟨by omega, by omega⟩ ⟨by omega, by omega⟩ ⟨by omega, by omega⟩ hM
      · exact zw_some ⟨hImh, hFmh, ⟨by omega, by omega⟩⟩
set_option maxHeartbeats 4000000 in
theorem zk_212_6 (n : Nat) {a0 a1 : Int} {m0 : zu_m} (hIm0 : zi_I m0) (hc0 : zcls a0 = 6) (ha1 : (-2147483648) ≤ a1 ∧ a1 ≤ 2147483647)  (he0 : 0 ≤ m0 a0 4 ∧ m0 a0 4 ≤ 3)   : zw (zu_call (zt_T n) 212 [(16, a0), (0, a1)] m0) (fun v m => zi_I m ∧ zfr [] m0 m ∧ ((-1) ≤ v ∧ v ≤ 2)) := by
  have hFm0 : zfr [] m0 m0 := zfr_rf _ _
  refine zw_eq (zu_call_at (zt_T n) (zm_212 n) (zdp_212 n) _ _ _ _ _ rfl (zr_212b_0 n _ _ a0 a1 m0)) ?_
  have hM : (3 - 0) * 1 + 0 < ((4 : Nat) : Int) := by omega
  exact (zl_212_6 n (m0 := m0) hc0 4) 0 m0 hIm0 hFm0 ⟨by omega, by omega⟩ ⟨by omega, by omega⟩ ⟨by omega, by omega⟩ hM
set_option maxHeartbeats 4000000 in
theorem zk_215_16 (n : Nat) {a0 : Int} {m0 : zu_m} (hIm0 : zi_I m0) (hc0 : zcls a0 = 16)      : zw (zu_call (zt_T n) 215 [(27, a0)] m0) (fun v m => zi_I m ∧ zfr [(16, 10)] m0 m ∧ ((-2147483648) ≤ v ∧ v ≤ 2147483647)) := by
  have hFm0 : zfr [(16, 10)] m0 m0 := zfr_rf _ _
  refine zw_eq (zu_call_at (zt_T n) (zm_215 n) (zdp_215 n) _ _ _ _ _ rfl (zr_215_0 n _ _ a0 m0)) ?_
  have r1 : (-2147483648) ≤ (m0 a0 9) ∧ (m0 a0 9) ≤ 2147483647 := zi_rd hIm0 hc0 zb_16_9
  have w2 := zu_w32_rg ((m0 a0 9) * 1103515245)
  have w3 := zu_w32_rg ((zu_w32 ((m0 a0 9) * 1103515245)) + 12345)
  have b4 := zu_i32_rg 3 (zu_w32 ((zu_w32 ((m0 a0 9) * 1103515245)) + 12345)) 2147483647
  generalize hmm5 : zu_up m0 a0 9 (zu_i32 3 (zu_w32 ((zu_w32 ((m0 a0 9) * 1103515245)) + 12345)) 2147483647) = m5
  have hIm5 := zi_up hmm5 hIm0 hc0 zb_16_9 (by omega) (by omega)
  have hFm5 := zfr_up hmm5 hFm0 hc0 rfl
  have r6 : (-2147483648) ≤ (m5 a0 9) ∧ (m5 a0 9) ≤ 2147483647 := zi_rd hIm5 hc0 zb_16_9
  have e7 : (m5 a0 9) = (zu_i32 3 (zu_w32 ((zu_w32 ((m0 a0 9) * 1103515245)) + 12345)) 2147483647) := (zs_eq hmm5)
  have b8 := zu_i32_rg 6 (m5 a0 9) 16
  exact zw_some ⟨hIm5, hFm5, ⟨by omega, by omega⟩⟩
set_option maxHeartbeats 4000000 in
theorem zk_215_25 (n : Nat) {a0 : Int} {m0 : zu_m} (hIm0 : zi_I m0) (hc0 : zcls a0 = 25)      : zw (zu_call (zt_T n) 215 [(27, a0)] m0) (fun v m => zi_I m ∧ zfr [(25, 10)] m0 m ∧ ((-2147483648) ≤ v ∧ v ≤ 2147483647)) := by
  have hFm0 : zfr [(25, 10)] m0 m0 := zfr_rf _ _
  refine zw_eq (zu_call_at (zt_T n) (zm_215 n) (zdp_215 n) _ _ _ _ _ rfl (zr_215_0 n _ _ a0 m0)) ?_
  have r1 : (-2147483648) ≤ (m0 a0 9) ∧ (m0 a0 9) ≤ 2147483647 := zi_rd hIm0 hc0 zb_25_9
  have w2 := zu_w32_rg ((m0 a0 9) * 1103515245)
  have w3 := zu_w32_rg ((zu_w32 ((m0 a0 9) * 1103515245)) + 12345)
  have b4 := zu_i32_rg 3 (zu_w32 ((zu_w32 ((m0 a0 9) * 1103515245)) + 12345)) 2147483647
  generalize hmm5 : zu_up m0 a0 9 (zu_i32 3 (zu_w32 ((zu_w32 ((m0 a0 9) * 1103515245)) + 12345)) 2147483647) = m5
  have hIm5 := zi_up hmm5 hIm0 hc0 zb_25_9 (by omega) (by omega)
  have hFm5 := zfr_up hmm5 hFm0 hc0 rfl
  have r6 : (-2147483648) ≤ (m5 a0 9) ∧ (m5 a0 9) ≤ 2147483647 := zi_rd hIm5 hc0 zb_25_9
  have e7 : (m5 a0 9) = (zu_i32 3 (zu_w32 ((zu_w32 ((m0 a0 9) * 1103515245)) + 12345)) 2147483647) := (zs_eq hmm5)
  have b8 := zu_i32_rg 6 (m5 a0 9) 16
  exact zw_some ⟨hIm5, hFm5, ⟨by omega, by omega⟩⟩
set_option maxHeartbeats 4000000 in
theorem zk_218_16 (n : Nat) {a0 a1 a2 : Int} {m0 : zu_m} (hIm0 : zi_I m0) (hc0 : zcls a0 = 16) (ha1 : 0 ≤ a1 ∧ a1 ≤ 3) (ha2 : 0 ≤ a2 ∧ a2 ≤ 47)     : zw (zu_call (zt_T n) 218 [(27, a0), (0, a1), (0, a2)] m0) (fun v m => zi_I m ∧ zfr [] m0 m ∧ (0 ≤ v ∧ v ≤ 1)) := by
  have hFm0 : zfr [] m0 m0 := zfr_rf _ _
  refine zw_eq (zu_call_at (zt_T n) (zm_218 n) (zdp_218 n) _ _ _ _ _ rfl (zr_218_0 n _ _ a0 a1 a2 m0)) ?_
  have r1 : 0 ≤ (m0 a0 10) ∧ (m0 a0 10) ≤ 3 := zi_rd hIm0 hc0 zb_16_10
  refine zw_ite (fun h2 => ?_) (fun h2 => ?_)
  · refine zw_b (by omega) ?_
    exact zw_some ⟨hIm0, hFm0, ⟨by omega, by omega⟩⟩
  · have b3 : 0 ≤ a1 ∧ a1 < 4 := by omega
    refine zw_if b3 ?_
    have r4 : 0 ≤ (m0 ((a0 + 2) + 20 + a1) 2) ∧ (m0 ((a0 + 2) + 20 + a1) 2) ≤ 15 := zi_rd hIm0 (zc_66_e (zc_16_3 hc0) b3) zb_18_2
    refine zw_ite (fun h5 => ?_) (fun h5 => ?_)
    · refine zw_b (by omega) ?_
      exact zw_some ⟨hIm0, hFm0, ⟨by omega, by omega⟩⟩
    · have b6 : 0 ≤ a2 ∧ a2 < 48 := by omega
      refine zw_if b6 ?_
      have r7 : 0 ≤ (m0 (50 + 2) a2) ∧ (m0 (50 + 2) a2) ≤ 5 := zi_rd hIm0 (zc_11_7 zq_50) (zb_50 _)
      have r8 : 0 ≤ (m0 50 3) ∧ (m0 50 3) ≤ 6 := zi_rd hIm0 zq_50 zb_11_3
      refine zw_ite (fun h9 => ?_) (fun h9 => ?_)
      · refine zw_b (by omega) ?_
        exact zw_some ⟨hIm0, hFm0, ⟨by omega, by omega⟩⟩
      · refine zw_b (by omega) ?_
        exact zw_some ⟨hIm0, hFm0, ⟨by omega, by omega⟩⟩
set_option maxHeartbeats 4000000 in
theorem zk_218_25 (n : Nat) {a0 a1 a2 : Int} {m0 : zu_m} (hIm0 : zi_I m0) (hc0 : zcls a0 = 25) (ha1 : 0 ≤ a1 ∧ a1 ≤ 3) (ha2 : 0 ≤ a2 ∧ a2 ≤ 47)     : zw (zu_call (zt_T n) 218 [(27, a0), (0, a1), (0, a2)] m0) (fun v m => zi_I m ∧ zfr [] m0 m ∧ (0 ≤ v ∧ v ≤ 1)) := by
  have hFm0 : zfr [] m0 m0 := zfr_rf _ _
  refine zw_eq (zu_call_at (zt_T n) (zm_218 n) (zdp_218 n) _ _ _ _ _ rfl (zr_218_0 n _ _ a0 a1 a2 m0)) ?_
  have r1 : 0 ≤ (m0 a0 10) ∧ (m0 a0 10) ≤ 3 := zi_rd hIm0 hc0 zb_25_10
  refine zw_ite (fun h2 => ?_) (fun h2 => ?_)
  · refine zw_b (by omega) ?_
    exact zw_some ⟨hIm0, hFm0, ⟨by omega, by omega⟩⟩
  · have b3 : 0 ≤ a1 ∧ a1 < 4 := by omega
    refine zw_if b3 ?_
    have r4 : 0 ≤ (m0 ((a0 + 2) + 20 + a1) 2) ∧ (m0 ((a0 + 2) + 20 + a1) 2) ≤ 15 := zi_rd hIm0 (zc_96_e (zc_25_3 hc0) b3) zb_27_2
    refine zw_ite (fun h5 => ?_) (fun h5 => ?_)
    · refine zw_b (by omega) ?_
      exact zw_some ⟨hIm0, hFm0, ⟨by omega, by omega⟩⟩
    · have b6 : 0 ≤ a2 ∧ a2 < 48 := by omega
      refine zw_if b6 ?_
      have r7 : 0 ≤ (m0 (50 + 2) a2) ∧ (m0 (50 + 2) a2) ≤ 5 := zi_rd hIm0 (zc_11_7 zq_50) (zb_50 _)
      have r8 : 0 ≤ (m0 50 3) ∧ (m0 50 3) ≤ 6 := zi_rd hIm0 zq_50 zb_11_3
      refine zw_ite (fun h9 => ?_) (fun h9 => ?_)
      · refine zw_b (by omega) ?_
        exact zw_some ⟨hIm0, hFm0, ⟨by omega, by omega⟩⟩
      · refine zw_b (by omega) ?_
        exact zw_some ⟨hIm0, hFm0, ⟨by omega, by omega⟩⟩
set_option maxHeartbeats 4000000 in
theorem zl_222_16 (n : Nat) {a0 : Int} {m0 : zu_m} (hc0 : zcls a0 = 16)   : ∀ k : Nat, (∀ (x1 : Int) (mh : zu_m), zi_I mh → zfr [(17, 4)] m0 mh → (0 ≤ x1 ∧ x1 ≤ 16) → (16 - x1) * 1 + 0 < (k : Int) → zw (zu_ex (zt_T n) 222 2 [(27, a0), (0, x1)] [] mh) (fun v m => zi_I m ∧ zfr [(17, 4)] m0 m ∧ True)) := by
  intro k
  induction k with
  | zero => exact fun x1 mh hImh hFmh hbx1 hM => by exfalso; omega
  | succ k ih =>
    intro x1 mh hImh hFmh hbx1 hM
    refine zw_eq (zu_rega_at (zt_T n) (zm_222 n) (zdp_222 n) _ _ _ _ _ _ (zr_222_2 n _ _ a0 x1 mh)) ?_
    have r1 : 0 ≤ (mh a0 2) ∧ (mh a0 2) ≤ 16 := zi_rd hImh hc0 zb_16_2
    refine zw_ite (fun h2 => ?_) (fun h2 => ?_)
    · exact zw_some ⟨hImh, hFmh, trivial⟩
    · have b3 : 0 ≤ x1 ∧ x1 < 16 := by omega
      refine zw_if b3 ?_
      have r4 : (-3) ≤ (mh ((a0 + 1) + 5 + x1) 3) ∧ (mh ((a0 + 1) + 5 + x1) 3) ≤ 3 := zi_rd hImh (zc_65_e (zc_16_1 hc0) b3) zb_17_3
      refine zw_ite (fun h5 => ?_) (fun h5 => ?_)
      · have w6 := zu_w32_id (z := x1 + 1) (by omega) (by omega)
        have hM : (16 - (zu_w32 (x1 + 1))) * 1 + 0 < (k : Int) := by omega
        exact ih (zu_w32 (x1 + 1)) mh hImh hFmh ⟨by omega, by omega⟩ hM
      · have b7 : 0 ≤ x1 ∧ x1 < 16 := by omega
        refine zw_if b7 ?_
        have r8 : 0 ≤ (mh ((a0 + 1) + 5 + x1) 0) ∧ (mh ((a0 + 1) + 5 + x1) 0) ≤ 47 := zi_rd hImh (zc_65_e (zc_16_1 hc0) b7) zb_17_0
        have b9 : 0 ≤ (mh ((a0 + 1) + 5 + x1) 0) ∧ (mh ((a0 + 1) + 5 + x1) 0) < 48 := by omega
        refine zw_if b9 ?_
        have r10 : 0 ≤ (mh (50 + 3) (mh ((a0 + 1) + 5 + x1) 0)) ∧ (mh (50 + 3) (mh ((a0 + 1) + 5 + x1) 0)) ≤ 3 := zi_rd hImh (zc_11_8 zq_50) (zb_51 _)
        refine zw_ite (fun h11 => ?_) (fun h11 => ?_)
        · have w12 := zu_w32_id (z := x1 + 1) (by omega) (by omega)
          have hM : (16 - (zu_w32 (x1 + 1))) * 1 + 0 < (k : Int) := by omega
          exact ih (zu_w32 (x1 + 1)) mh hImh hFmh ⟨by omega, by omega⟩ hM
        · have b13 : 0 ≤ x1 ∧ x1 < 16 := by omega
          refine zw_if b13 ?_
          generalize hmm14 : zu_up mh ((a0 + 1) + 5 + x1) 3 (-3) = m14
          have hIm14 := zi_up hmm14 hImh (zc_65_e (zc_16_1 hc0) b13) zb_17_3 (by omega) (by omega)
          have hFm14 := zfr_up hmm14 hFmh (zc_65_e (zc_16_1 hc0) b13) rfl
          have w15 := zu_w32_id (z := x1 + 1) (by omega) (by omega)
          have hM : (16 - (zu_w32 (x1 + 1))) * 1 + 0 < (k : Int) := by omega
          exact ih (zu_w32 (x1 + 1)) m14 hIm14 hFm14 ⟨by omega, by omega⟩ hM
set_option maxHeartbeats 4000000 in
theorem zk_222_16 (n : Nat) {a0 : Int} {m0 : zu_m} (hIm0 : zi_I m0) (hc0 : zcls a0 = 16)      : zw (zu_call (zt_T n) 222 [(27, a0)] m0) (fun v m => zi_I m ∧ zfr [(17, 4)] m0 m ∧ True) := by
  have hFm0 : zfr [(17, 4)] m0 m0 := zfr_rf _ _
  refine zw_eq (zu_call_at (zt_T n) (zm_222 n) (zdp_222 n) _ _ _ _ _ rfl (zr_222_0 n _ _ a0 m0)) ?_
  have hM : (16 - 0) * 1 + 0 < ((17 : Nat) : Int) := by omega
  exact (zl_222_16 n (m0 := m0) hc0 17) 0 m0 hIm0 hFm0 ⟨by omega, by omega⟩ hM
set_option maxHeartbeats 4000000 in
theorem zl_222_25 (n : Nat) {a0 : Int} {m0 : zu_m} (hc0 : zcls a0 = 25)   : ∀ k : Nat, (∀ (x1 : Int) (mh : zu_m), zi_I mh → zfr [(26, 4)] m0 mh → (0 ≤ x1 ∧ x1 ≤ 16) → (16 - x1) * 1 + 0 < (k : Int) → zw (zu_ex (zt_T n) 222 2 [(27, a0), (0, x1)] [] mh) (fun v m => zi_I m ∧ zfr [(26, 4)] m0 m ∧ True)) := by
  intro k
  induction k with
  | zero => exact fun x1 mh hImh hFmh hbx1 hM => by exfalso; omega
  | succ k ih =>
    intro x1 mh hImh hFmh hbx1 hM
    refine zw_eq (zu_rega_at (zt_T n) (zm_222 n) (zdp_222 n) _ _ _ _ _ _ (zr_222_2 n _ _ a0 x1 mh)) ?_
    have r1 : 0 ≤ (mh a0 2) ∧ (mh a0 2) ≤ 16 := zi_rd hImh hc0 zb_25_2
    refine zw_ite (fun h2 => ?_) (fun h2 => ?_)
    · exact zw_some ⟨hImh, hFmh, trivial⟩
    · have b3 : 0 ≤ x1 ∧ x1 < 16 := by omega
      refine zw_if b3 ?_
      have r4 : (-3) ≤ (mh ((a0 + 1) + 5 + x1) 3) ∧ (mh ((a0 + 1) + 5 + x1) 3) ≤ 3 := zi_rd hImh (zc_95_e (zc_25_1 hc0) b3) zb_26_3
      refine zw_ite (fun h5 => ?_) (fun h5 => ?_)
      · have w6 := zu_w32_id (z := x1 + 1) (by omega) (by omega)
        have hM : (16 - (zu_w32 (x1 + 1))) * 1 + 0 < (k : Int) := by omega
        exact ih (zu_w32 (x1 + 1)) mh hImh hFmh ⟨by omega, by omega⟩ hM
      · have b7 : 0 ≤ x1 ∧ x1 < 16 := by omega
        refine zw_if b7 ?_
        have r8 : 0 ≤ (mh ((a0 + 1) + 5 + x1) 0) ∧ (mh ((a0 + 1) + 5 + x1) 0) ≤ 47 := zi_rd hImh (zc_95_e (zc_25_1 hc0) b7) zb_26_0
        have b9 : 0 ≤ (mh ((a0 + 1) + 5 + x1) 0) ∧ (mh ((a0 + 1) + 5 + x1) 0) < 48 := by omega
        refine zw_if b9 ?_
        have r10 : 0 ≤ (mh (50 + 3) (mh ((a0 + 1) + 5 + x1) 0)) ∧ (mh (50 + 3) (mh ((a0 + 1) + 5 + x1) 0)) ≤ 3 := zi_rd hImh (zc_11_8 zq_50) (zb_51 _)
        refine zw_ite (fun h11 => ?_) (fun h11 => ?_)
        · have w12 := zu_w32_id (z := x1 + 1) (by omega) (by omega)
          have hM : (16 - (zu_w32 (x1 + 1))) * 1 + 0 < (k : Int) := by omega
          exact ih (zu_w32 (x1 + 1)) mh hImh hFmh ⟨by omega, by omega⟩ hM
        · have b13 : 0 ≤ x1 ∧ x1 < 16 := by omega
          refine zw_if b13 ?_
          generalize hmm14 : zu_up mh ((a0 + 1) + 5 + x1) 3 (-3) = m14
          have hIm14 := zi_up hmm14 hImh (zc_95_e (zc_25_1 hc0) b13) zb_26_3 (by omega) (by omega)
          have hFm14 := zfr_up hmm14 hFmh (zc_95_e (zc_25_1 hc0) b13) rfl
          have w15 := zu_w32_id (z := x1 + 1) (by omega) (by omega)
          have hM : (16 - (zu_w32 (x1 + 1))) * 1 + 0 < (k : Int) := by omega
          exact ih (zu_w32 (x1 + 1)) m14 hIm14 hFm14 ⟨by omega, by omega⟩ hM
set_option maxHeartbeats 4000000 in
theorem zk_222_25 (n : Nat) {a0 : Int} {m0 : zu_m} (hIm0 : zi_I m0) (hc0 : zcls a0 = 25)      : zw (zu_call (zt_T n) 222 [(27, a0)] m0) (fun v m => zi_I m ∧ zfr [(26, 4)] m0 m ∧ True) := by
  have hFm0 : zfr [(26, 4)] m0 m0 := zfr_rf _ _
  refine zw_eq (zu_call_at (zt_T n) (zm_222 n) (zdp_222 n) _ _ _ _ _ rfl (zr_222_0 n _ _ a0 m0)) ?_
  have hM : (16 - 0) * 1 + 0 < ((17 : Nat) : Int) := by omega
  exact (zl_222_25 n (m0 := m0) hc0 17) 0 m0 hIm0 hFm0 ⟨by omega, by omega⟩ hM
set_option maxHeartbeats 4000000 in
theorem zl_231 (n : Nat) {a0 a1 : Int} {m0 : zu_m} (hc0 : zcls a0 = 16)   : ∀ k : Nat, (∀ (x2 x3 : Int) (mh : zu_m), zi_I mh → zfr [] m0 mh → (0 ≤ a1 ∧ a1 ≤ 47) → ((-2147483648) ≤ x2 ∧ x2 ≤ 2147483647) → (0 ≤ x3 ∧ x3 ≤ 16) → (16 - x3) * 1 + 0 < (k : Int) → zw (zu_ex (zt_T n) 231 4 [(27, a0), (0, a1), (0, x2), (0, x3)] [] mh) (fun v m => zi_I m ∧ zfr [] m0 m ∧ ((-2147483648) ≤ v ∧ v ≤ 2147483647))) := by
  intro k
  induction k with
  | zero => exact fun x2 x3 mh hImh hFmh hba1 hbx2 hbx3 hM => by exfalso; omega
  | succ k ih =>
    intro x2 x3 mh hImh hFmh hba1 hbx2 hbx3 hM
    refine zw_eq (zu_rega_at (zt_T n) (zm_231 n) (zdp_231 n) _ _ _ _ _ _ (zr_231_4 n _ _ a0 a1 x2 x3 mh)) ?_
    have r1 : 0 ≤ (mh a0 2) ∧ (mh a0 2) ≤ 16 := zi_rd hImh hc0 zb_16_2
    refine zw_ite (fun h2 => ?_) (fun h2 => ?_)
    · exact zw_some ⟨hImh, hFmh, ⟨by omega, by omega⟩⟩
    · have b3 : 0 ≤ x3 ∧ x3 < 16 := by omega
      refine zw_if b3 ?_
      have r4 : (-3) ≤ (mh ((a0 + 1) + 5 + x3) 3) ∧ (mh ((a0 + 1) + 5 + x3) 3) ≤ 3 := zi_rd hImh (zc_65_e (zc_16_1 hc0) b3) zb_17_3
      refine zw_ite (fun h5 => ?_) (fun h5 => ?_)
      · have w6 := zu_w32_id (z := x3 + 1) (by omega) (by omega)
        have hM : (16 - (zu_w32 (x3 + 1))) * 1 + 0 < (k : Int) := by omega
        exact ih x2 (zu_w32 (x3 + 1)) mh hImh hFmh ⟨by omega, by omega⟩ ⟨by omega, by omega⟩ ⟨by omega, by omega⟩ hM
      · have b7 : 0 ≤ x3 ∧ x3 < 16 := by omega
        refine zw_if b7 ?_
        have r8 : 0 ≤ (mh ((a0 + 1) + 5 + x3) 0) ∧ (mh ((a0 + 1) + 5 + x3) 0) ≤ 47 := zi_rd hImh (zc_65_e (zc_16_1 hc0) b7) zb_17_0
        refine zw_ite (fun h9 => ?_) (fun h9 => ?_)
        · have w10 := zu_w32_id (z := x3 + 1) (by omega) (by omega)
          have hM : (16 - (zu_w32 (x3 + 1))) * 1 + 0 < (k : Int) := by omega
          exact ih x2 (zu_w32 (x3 + 1)) mh hImh hFmh ⟨by omega, by omega⟩ ⟨by omega, by omega⟩ ⟨by omega, by omega⟩ hM
        · have w11 := zu_w32_rg (x2 + 1)
          have w12 := zu_w32_id (z := x3 + 1) (by omega) (by omega)
          have hM : (16 - (zu_w32 (x3 + 1))) * 1 + 0 < (k : Int) := by omega
          exact ih (zu_w32 (x2 + 1)) (zu_w32 (x3 + 1)) mh hImh hFmh ⟨by omega, by omega⟩ ⟨by omega, by omega⟩ ⟨by omega, by omega⟩ hM
set_option maxHeartbeats 4000000 in
theorem zk_231 (n : Nat) {a0 a1 : Int} {m0 : zu_m} (hIm0 : zi_I m0) (hc0 : zcls a0 = 16) (ha1 : 0 ≤ a1 ∧ a1 ≤ 47)     : zw (zu_call (zt_T n) 231 [(27, a0), (0, a1)] m0) (fun v m => zi_I m ∧ zfr [] m0 m ∧ ((-2147483648) ≤ v ∧ v ≤ 2147483647)) := by
  have hFm0 : zfr [] m0 m0 := zfr_rf _ _
  refine zw_eq (zu_call_at (zt_T n) (zm_231 n) (zdp_231 n) _ _ _ _ _ rfl (zr_231_0 n _ _ a0 a1 m0)) ?_
  have hM : (16 - 0) * 1 + 0 < ((17 : Nat) : Int) := by omega
  exact (zl_231 n (m0 := m0) hc0 17) 0 0 m0 hIm0 hFm0 ⟨by omega, by omega⟩ ⟨by omega, by omega⟩ ⟨by omega, by omega⟩ hM
set_option maxHeartbeats 4000000 in
theorem zl_232 (n : Nat) {a0 a1 : Int} {m0 : zu_m} (hc0 : zcls a0 = 16)   : ∀ k : Nat, (∀ (x2 x3 : Int) (mh : zu_m), zi_I mh → zfr [] m0 mh → (0 ≤ a1 ∧ a1 ≤ 47) → ((-2147483648) ≤ x2 ∧ x2 ≤ 2147483647) → (0 ≤ x3 ∧ x3 ≤ 4) → (4 - x3) * 1 + 0 < (k : Int) → zw (zu_ex (zt_T n) 232 4 [(27, a0), (0, a1), (0, x2), (0, x3)] [] mh) (fun v m => zi_I m ∧ zfr [] m0 m ∧ ((-2147483648) ≤ v ∧ v ≤ 2147483647))) := by
  intro k
  induction k with
  | zero => exact fun x2 x3 mh hImh hFmh hba1 hbx2 hbx3 hM => by exfalso; omega
  | succ k ih =>
    intro x2 x3 mh hImh hFmh hba1 hbx2 hbx3 hM
    refine zw_eq (zu_rega_at (zt_T n) (zm_232 n) (zdp_232 n) _ _ _ _ _ _ (zr_232_4 n _ _ a0 a1 x2 x3 mh)) ?_
    have r1 : 0 ≤ (mh a0 4) ∧ (mh a0 4) ≤ 4 := zi_rd hImh hc0 zb_16_4
    refine zw_ite (fun h2 => ?_) (fun h2 => ?_)
    · exact zw_some ⟨hImh, hFmh, ⟨by omega, by omega⟩⟩
    · have b3 : 0 ≤ x3 ∧ x3 < 4 := by omega
      refine zw_if b3 ?_
      have r4 : 0 ≤ (mh ((a0 + 2) + 20 + x3) 1) ∧ (mh ((a0 + 2) + 20 + x3) 1) ≤ 47 := zi_rd hImh (zc_66_e (zc_16_3 hc0) b3) zb_18_1
      refine zw_ite (fun h5 => ?_) (fun h5 => ?_)
      · have w6 := zu_w32_id (z := x3 + 1) (by omega) (by omega)
        have hM : (4 - (zu_w32 (x3 + 1))) * 1 + 0 < (k : Int) := by omega
        exact ih x2 (zu_w32 (x3 + 1)) mh hImh hFmh ⟨by omega, by omega⟩ ⟨by omega, by omega⟩ ⟨by omega, by omega⟩ hM
      · have w7 := zu_w32_rg (x2 + 1)
        have w8 := zu_w32_id (z := x3 + 1) (by omega) (by omega)
        have hM : (4 - (zu_w32 (x3 + 1))) * 1 + 0 < (k : Int) := by omega
        exact ih (zu_w32 (x2 + 1)) (zu_w32 (x3 + 1)) mh hImh hFmh ⟨by omega, by omega⟩ ⟨by omega, by omega⟩ ⟨by omega, by omega⟩ hM
set_option maxHeartbeats 4000000 in
theorem zk_232 (n : Nat) {a0 a1 : Int} {m0 : zu_m} (hIm0 : zi_I m0) (hc0 : zcls a0 = 16) (ha1 : 0 ≤ a1 ∧ a1 ≤ 47)     : zw (zu_call (zt_T n) 232 [(27, a0), (0, a1)] m0) (fun v m => zi_I m ∧ zfr [] m0 m ∧ ((-2147483648) ≤ v ∧ v ≤ 2147483647)) := by
  have hFm0 : zfr [] m0 m0 := zfr_rf _ _
  refine zw_eq (zu_call_at (zt_T n) (zm_232 n) (zdp_232 n) _ _ _ _ _ rfl (zr_232_0 n _ _ a0 a1 m0)) ?_
  have hM : (4 - 0) * 1 + 0 < ((5 : Nat) : Int) := by omega
  exact (zl_232 n (m0 := m0) hc0 5) 0 0 m0 hIm0 hFm0 ⟨by omega, by omega⟩ ⟨by omega, by omega⟩ ⟨by omega, by omega⟩ hM
set_option maxHeartbeats 4000000 in
theorem zl_233 (n : Nat) {a0 a1 : Int} {m0 : zu_m} (hc0 : zcls a0 = 16)   : ∀ k : Nat, (∀ (x2 x3 : Int) (mh : zu_m), zi_I mh → zfr [] m0 mh → ((-8) ≤ a1 ∧ a1 ≤ (-1)) → ((-2147483648) ≤ x2 ∧ x2 ≤ 2147483647) → (0 ≤ x3 ∧ x3 ≤ 16) → (16 - x3) * 1 + 0 < (k : Int) → zw (zu_ex (zt_T n) 233 4 [(27, a0), (0, a1), (0, x2), (0, x3)] [] mh) (fun v m => zi_I m ∧ zfr [] m0 m ∧ ((-2147483648) ≤ v ∧ v ≤ 2147483647))) := by
  intro k
  induction k with
  | zero => exact fun x2 x3 mh hImh hFmh hba1 hbx2 hbx3 hM => by exfalso; omega
  | succ k ih =>
    intro x2 x3 mh hImh hFmh hba1 hbx2 hbx3 hM
    refine zw_eq (zu_rega_at (zt_T n) (zm_233 n) (zdp_233 n) _ _ _ _ _ _ (zr_233_4 n _ _ a0 a1 x2 x3 mh)) ?_
    have r1 : 0 ≤ (mh a0 2) ∧ (mh a0 2) ≤ 16 := zi_rd hImh hc0 zb_16_2
    refine zw_ite (fun h2 => ?_) (fun h2 => ?_)
    · exact zw_some ⟨hImh, hFmh, ⟨by omega, by omega⟩⟩
    · have b3 : 0 ≤ x3 ∧ x3 < 16 := by omega
      refine zw_if b3 ?_
      have r4 : (-3) ≤ (mh ((a0 + 1) + 5 + x3) 3) ∧ (mh ((a0 + 1) + 5 + x3) 3) ≤ 3 := zi_rd hImh (zc_65_e (zc_16_1 hc0) b3) zb_17_3
      refine zw_ite (fun h5 => ?_) (fun h5 => ?_)
      · have w6 := zu_w32_id (z := x3 + 1) (by omega) (by omega)
        have hM : (16 - (zu_w32 (x3 + 1))) * 1 + 0 < (k : Int) := by omega
        exact ih x2 (zu_w32 (x3 + 1)) mh hImh hFmh ⟨by omega, by omega⟩ ⟨by omega, by omega⟩ ⟨by omega, by omega⟩ hM
      · have w7 := zu_w32_rg (x2 + 1)
        have w8 := zu_w32_id (z := x3 + 1) (by omega) (by omega)
        have hM : (16 - (zu_w32 (x3 + 1))) * 1 + 0 < (k : Int) := by omega
        exact ih (zu_w32 (x2 + 1)) (zu_w32 (x3 + 1)) mh hImh hFmh ⟨by omega, by omega⟩ ⟨by omega, by omega⟩ ⟨by omega, by omega⟩ hM
set_option maxHeartbeats 4000000 in
theorem zk_233 (n : Nat) {a0 a1 : Int} {m0 : zu_m} (hIm0 : zi_I m0) (hc0 : zcls a0 = 16) (ha1 : (-8) ≤ a1 ∧ a1 ≤ (-1))     : zw (zu_call (zt_T n) 233 [(27, a0), (0, a1)] m0) (fun v m => zi_I m ∧ zfr [] m0 m ∧ ((-2147483648) ≤ v ∧ v ≤ 2147483647)) := by
  have hFm0 : zfr [] m0 m0 := zfr_rf _ _
  refine zw_eq (zu_call_at (zt_T n) (zm_233 n) (zdp_233 n) _ _ _ _ _ rfl (zr_233_0 n _ _ a0 a1 m0)) ?_
  have hM : (16 - 0) * 1 + 0 < ((17 : Nat) : Int) := by omega
  exact (zl_233 n (m0 := m0) hc0 17) 0 0 m0 hIm0 hFm0 ⟨by omega, by omega⟩ ⟨by omega, by omega⟩ ⟨by omega, by omega⟩ hM
set_option maxHeartbeats 4000000 in
theorem zl_234_16 (n : Nat) {a0 : Int} {m0 : zu_m} (hc0 : zcls a0 = 16)   : ∀ k : Nat, (∀ (x1 x2 : Int) (mh : zu_m), zi_I mh → zfr [] m0 mh → ((-2147483648) ≤ x1 ∧ x1 ≤ 2147483647) → (0 ≤ x2 ∧ x2 ≤ 16) → (16 - x2) * 1 + 0 < (k : Int) → zw (zu_ex (zt_T n) 234 4 [(27, a0), (0, x1), (0, x2)] [] mh) (fun v m => zi_I m ∧ zfr [] m0 m ∧ ((-2147483648) ≤ v ∧ v ≤ 2147483647))) := by
  intro k
  induction k with
  | zero => exact fun x1 x2 mh hImh hFmh hbx1 hbx2 hM => by exfalso; omega
  | succ k ih =>
    intro x1 x2 mh hImh hFmh hbx1 hbx2 hM
    refine zw_eq (zu_rega_at (zt_T n) (zm_234 n) (zdp_234 n) _ _ _ _ _ _ (zr_234_4 n _ _ a0 x1 x2 mh)) ?_
    have r1 : 0 ≤ (mh a0 2) ∧ (mh a0 2) ≤ 16 := zi_rd hImh hc0 zb_16_2
    refine zw_ite (fun h2 => ?_) (fun h2 => ?_)
    · exact zw_some ⟨hImh, hFmh, ⟨by omega, by omega⟩⟩
    · have b3 : 0 ≤ x2 ∧ x2 < 16 := by omega
      refine zw_if b3 ?_
      have r4 : (-3) ≤ (mh ((a0 + 1) + 5 + x2) 3) ∧ (mh ((a0 + 1) + 5 + x2) 3) ≤ 3 := zi_rd hImh (zc_65_e (zc_16_1 hc0) b3) zb_17_3
      refine zw_ite (fun h5 => ?_) (fun h5 => ?_)
      · have w6 := zu_w32_id (z := x2 + 1) (by omega) (by omega)
        have hM : (16 - (zu_w32 (x2 + 1))) * 1 + 0 < (k : Int) := by omega
        exact ih x1 (zu_w32 (x2 + 1)) mh hImh hFmh ⟨by omega, by omega⟩ ⟨by omega, by omega⟩ hM
      · have w7 := zu_w32_rg (x1 + 1)
        have w8 := zu_w32_id (z := x2 + 1) (by omega) (by omega)
        have hM : (16 - (zu_w32 (x2 + 1))) * 1 + 0 < (k : Int) := by omega
        exact ih (zu_w32 (x1 + 1)) (zu_w32 (x2 + 1)) mh hImh hFmh ⟨by omega, by omega⟩ ⟨by omega, by omega⟩ hM
set_option maxHeartbeats 4000000 in
theorem zk_234_16 (n : Nat) {a0 : Int} {m0 : zu_m} (hIm0 : zi_I m0) (hc0 : zcls a0 = 16)      : zw (zu_call (zt_T n) 234 [(27, a0)] m0) (fun v m => zi_I m ∧ zfr [] m0 m ∧ ((-2147483648) ≤ v ∧ v ≤ 2147483647)) := by
  have hFm0 : zfr [] m0 m0 := zfr_rf _ _
  refine zw_eq (zu_call_at (zt_T n) (zm_234 n) (zdp_234 n) _ _ _ _ _ rfl (zr_234_0 n _ _ a0 m0)) ?_
  have hM : (16 - 0) * 1 + 0 < ((17 : Nat) : Int) := by omega
  exact (zl_234_16 n (m0 := m0) hc0 17) 0 0 m0 hIm0 hFm0 ⟨by omega, by omega⟩ ⟨by omega, by omega⟩ hM
set_option maxHeartbeats 4000000 in
theorem zl_234_25 (n : Nat) {a0 : Int} {m0 : zu_m} (hc0 : zcls a0 = 25)   : ∀ k : Nat, (∀ (x1 x2 : Int) (mh : zu_m), zi_I mh → zfr [] m0 mh → ((-2147483648) ≤ x1 ∧ x1 ≤ 2147483647) → (0 ≤ x2 ∧ x2 ≤ 16) → (16 - x2) * 1 + 0 < (k : Int) → zw (zu_ex (zt_T n) 234 4 [(27, a0), (0, x1), (0, x2)] [] mh) (fun v m => zi_I m ∧ zfr [] m0 m ∧ ((-2147483648) ≤ v ∧ v ≤ 2147483647))) := by
  intro k
  induction k with
  | zero => exact fun x1 x2 mh hImh hFmh hbx1 hbx2 hM => by exfalso; omega
  | succ k ih =>
    intro x1 x2 mh hImh hFmh hbx1 hbx2 hM
    refine zw_eq (zu_rega_at (zt_T n) (zm_234 n) (zdp_234 n) _ _ _ _ _ _ (zr_234_4 n _ _ a0 x1 x2 mh)) ?_
    have r1 : 0 ≤ (mh a0 2) ∧ (mh a0 2) ≤ 16 := zi_rd hImh hc0 zb_25_2
    refine zw_ite (fun h2 => ?_) (fun h2 => ?_)
    · exact zw_some ⟨hImh, hFmh, ⟨by omega, by omega⟩⟩
    · have b3 : 0 ≤ x2 ∧ x2 < 16 := by omega
      refine zw_if b3 ?_
      have r4 : (-3) ≤ (mh ((a0 + 1) + 5 + x2) 3) ∧ (mh ((a0 + 1) + 5 + x2) 3) ≤ 3 := zi_rd hImh (zc_95_e (zc_25_1 hc0) b3) zb_26_3
      refine zw_ite (fun h5 => ?_) (fun h5 => ?_)
      · have w6 := zu_w32_id (z := x2 + 1) (by omega) (by omega)
        have hM : (16 - (zu_w32 (x2 + 1))) * 1 + 0 < (k : Int) := by omega
        exact ih x1 (zu_w32 (x2 + 1)) mh hImh hFmh ⟨by omega, by omega⟩ ⟨by omega, by omega⟩ hM
      · have w7 := zu_w32_rg (x1 + 1)
        have w8 := zu_w32_id (z := x2 + 1) (by omega) (by omega)
        have hM : (16 - (zu_w32 (x2 + 1))) * 1 + 0 < (k : Int) := by omega
        exact ih (zu_w32 (x1 + 1)) (zu_w32 (x2 + 1)) mh hImh hFmh ⟨by omega, by omega⟩ ⟨by omega, by omega⟩ hM
set_option maxHeartbeats 4000000 in
theorem zk_234_25 (n : Nat) {a0 : Int} {m0 : zu_m} (hIm0 : zi_I m0) (hc0 : zcls a0 = 25)      : zw (zu_call (zt_T n) 234 [(27, a0)] m0) (fun v m => zi_I m ∧ zfr [] m0 m ∧ ((-2147483648) ≤ v ∧ v ≤ 2147483647)) := by
  have hFm0 : zfr [] m0 m0 := zfr_rf _ _
  refine zw_eq (zu_call_at (zt_T n) (zm_234 n) (zdp_234 n) _ _ _ _ _ rfl (zr_234_0 n _ _ a0 m0)) ?_
  have hM : (16 - 0) * 1 + 0 < ((17 : Nat) : Int) := by omega
  exact (zl_234_25 n (m0 := m0) hc0 17) 0 0 m0 hIm0 hFm0 ⟨by omega, by omega⟩ ⟨by omega, by omega⟩ hM
set_option maxHeartbeats 4000000 in
theorem zl_235 (n : Nat) {a0 : Int} {m0 : zu_m} (hc0 : zcls a0 = 16)   : ∀ k : Nat, (∀ (x1 x2 : Int) (mh : zu_m), zi_I mh → zfr [] m0 mh → ((-2147483648) ≤ x1 ∧ x1 ≤ 2147483647) → (0 ≤ x2 ∧ x2 ≤ 48) → (48 - x2) * 1 + 0 < (k : Int) → zw (zu_ex (zt_T n) 235 4 [(27, a0), (0, x1), (0, x2)] [] mh) (fun v m => zi_I m ∧ zfr [] m0 m ∧ ((-2147483648) ≤ v ∧ v ≤ 2147483647))) := by
  intro k
  induction k with
  | zero => exact fun x1 x2 mh hImh hFmh hbx1 hbx2 hM => by exfalso; omega
  | succ k ih =>
    intro x1 x2 mh hImh hFmh hbx1 hbx2 hM
    refine zw_eq (zu_rega_at (zt_T n) (zm_235 n) (zdp_235 n) _ _ _ _ _ _ (zr_235_4 n _ _ a0 x1 x2 mh)) ?_
    have r1 : 1 ≤ (mh 50 2) ∧ (mh 50 2) ≤ 48 := zi_rd hImh zq_50 zb_11_2
    refine zw_ite (fun h2 => ?_) (fun h2 => ?_)
    · exact zw_some ⟨hImh, hFmh, ⟨by omega, by omega⟩⟩
    · have b3 : 0 ≤ x2 ∧ x2 < 48 := by omega
      refine zw_if b3 ?_
      have r4 : 0 ≤ (mh (a0 + 3) x2) ∧ (mh (a0 + 3) x2) ≤ 1 := zi_rd hImh (zc_16_5 hc0) (zb_67 _)
      refine zw_ite (fun h5 => ?_) (fun h5 => ?_)
      · have w6 := zu_w32_id (z := x2 + 1) (by omega) (by omega)
        have hM : (48 - (zu_w32 (x2 + 1))) * 1 + 0 < (k : Int) := by omega
        exact ih x1 (zu_w32 (x2 + 1)) mh hImh hFmh ⟨by omega, by omega⟩ ⟨by omega, by omega⟩ hM
      · have w7 := zu_w32_rg (x1 + 1)
        have w8 := zu_w32_id (z := x2 + 1) (by omega) (by omega)
        have hM : (48 - (zu_w32 (x2 + 1))) * 1 + 0 < (k : Int) := by omega
        exact ih (zu_w32 (x1 + 1)) (zu_w32 (x2 + 1)) mh hImh hFmh ⟨by omega, by omega⟩ ⟨by omega, by omega⟩ hM
set_option maxHeartbeats 4000000 in
theorem zk_235 (n : Nat) {a0 : Int} {m0 : zu_m} (hIm0 : zi_I m0) (hc0 : zcls a0 = 16)      : zw (zu_call (zt_T n) 235 [(27, a0)] m0) (fun v m => zi_I m ∧ zfr [] m0 m ∧ ((-2147483648) ≤ v ∧ v ≤ 2147483647)) := by
  have hFm0 : zfr [] m0 m0 := zfr_rf _ _
  refine zw_eq (zu_call_at (zt_T n) (zm_235 n) (zdp_235 n) _ _ _ _ _ rfl (zr_235_0 n _ _ a0 m0)) ?_
  have hM : (48 - 0) * 1 + 0 < ((49 : Nat) : Int) := by omega
  exact (zl_235 n (m0 := m0) hc0 49) 0 0 m0 hIm0 hFm0 ⟨by omega, by omega⟩ ⟨by omega, by omega⟩ hM
set_option maxHeartbeats 4000000 in
theorem zl_236 (n : Nat) {a0 a1 : Int} {m0 : zu_m} (hc0 : zcls a0 = 16)   : ∀ k : Nat, (∀ (x2 x3 : Int) (mh : zu_m), zi_I mh → zfr [] m0 mh → (0 ≤ a1 ∧ a1 ≤ 3) → ((-2147483648) ≤ x2 ∧ x2 ≤ 2147483647) → (0 ≤ x3 ∧ x3 ≤ 16) → (16 - x3) * 1 + 0 < (k : Int) → zw (zu_ex (zt_T n) 236 4 [(27, a0), (0, a1), (0, x2), (0, x3)] [] mh) (fun v m => zi_I m ∧ zfr [] m0 m ∧ ((-2147483648) ≤ v ∧ v ≤ 2147483647))) := by
  intro k
  induction k with
  | zero => exact fun x2 x3 mh hImh hFmh hba1 hbx2 hbx3 hM => by exfalso; omega
  | succ k ih =>
    intro x2 x3 mh hImh hFmh hba1 hbx2 hbx3 hM
    refine zw_eq (zu_rega_at (zt_T n) (zm_236 n) (zdp_236 n) _ _ _ _ _ _ (zr_236_4 n _ _ a0 a1 x2 x3 mh)) ?_
    have r1 : 0 ≤ (mh a0 2) ∧ (mh a0 2) ≤ 16 := zi_rd hImh hc0 zb_16_2
    refine zw_ite (fun h2 => ?_) (fun h2 => ?_)
    · exact zw_some ⟨hImh, hFmh, ⟨by omega, by omega⟩⟩
    · have b3 : 0 ≤ x3 ∧ x3 < 16 := by omega
      refine zw_if b3 ?_
      have r4 : (-3) ≤ (mh ((a0 + 1) + 5 + x3) 3) ∧ (mh ((a0 + 1) + 5 + x3) 3) ≤ 3 := zi_rd hImh (zc_65_e (zc_16_1 hc0) b3) zb_17_3
      refine zw_ite (fun h5 => ?_) (fun h5 => ?_)
      · have w6 := zu_w32_id (z := x3 + 1) (by omega) (by omega)
        have hM : (16 - (zu_w32 (x3 + 1))) * 1 + 0 < (k : Int) := by omega
        exact ih x2 (zu_w32 (x3 + 1)) mh hImh hFmh ⟨by omega, by omega⟩ ⟨by omega, by omega⟩ ⟨by omega, by omega⟩ hM
      · have b7 := zu_i32_rg 5 1 x3
        have b8 := zu_i32_rg 4 x2 (zu_i32 5 1 x3)
        have w9 := zu_w32_id (z := x3 + 1) (by omega) (by omega)
        have hM : (16 - (zu_w32 (x3 + 1))) * 1 + 0 < (k : Int) := by omega
        exact ih (zu_i32 4 x2 (zu_i32 5 1 x3)) (zu_w32 (x3 + 1)) mh hImh hFmh ⟨by omega, by omega⟩ ⟨by omega, by omega⟩ ⟨by omega, by omega⟩ hM
set_option maxHeartbeats 4000000 in
theorem zk_236 (n : Nat) {a0 a1 : Int} {m0 : zu_m} (hIm0 : zi_I m0) (hc0 : zcls a0 = 16) (ha1 : 0 ≤ a1 ∧ a1 ≤ 3)     : zw (zu_call (zt_T n) 236 [(27, a0), (0, a1)] m0) (fun v m => zi_I m ∧ zfr [] m0 m ∧ ((-2147483648) ≤ v ∧ v ≤ 2147483647)) := by
  have hFm0 : zfr [] m0 m0 := zfr_rf _ _
  refine zw_eq (zu_call_at (zt_T n) (zm_236 n) (zdp_236 n) _ _ _ _ _ rfl (zr_236_0 n _ _ a0 a1 m0)) ?_
  have hM : (16 - 0) * 1 + 0 < ((17 : Nat) : Int) := by omega
  exact (zl_236 n (m0 := m0) hc0 17) 0 0 m0 hIm0 hFm0 ⟨by omega, by omega⟩ ⟨by omega, by omega⟩ ⟨by omega, by omega⟩ hM
set_option maxHeartbeats 4000000 in
theorem zl_238_16 (n : Nat) {a0 : Int} {m0 : zu_m} (hc0 : zcls a0 = 16)   : ∀ k : Nat, (∀ (x1 x2 : Int) (mh : zu_m), zi_I mh → zfr [] m0 mh → (0 ≤ x1 ∧ x1 ≤ 2147483647) → (0 ≤ x2 ∧ x2 ≤ 4) → (4 - x2) * 1 + 0 < (k : Int) → zw (zu_ex (zt_T n) 238 4 [(27, a0), (0, x1), (0, x2)] [] mh) (fun v m => zi_I m ∧ zfr [] m0 m ∧ (0 ≤ v ∧ v ≤ 2147483647))) := by
  intro k
  induction k with
  | zero => exact fun x1 x2 mh hImh hFmh hbx1 hbx2 hM => by exfalso; omega
  | succ k ih =>
    intro x1 x2 mh hImh hFmh hbx1 hbx2 hM
    refine zw_eq (zu_rega_at (zt_T n) (zm_238 n) (zdp_238 n) _ _ _ _ _ _ (zr_238_4 n _ _ a0 x1 x2 mh)) ?_
    have r1 : 0 ≤ (mh a0 4) ∧ (mh a0 4) ≤ 4 := zi_rd hImh hc0 zb_16_4
    refine zw_ite (fun h2 => ?_) (fun h2 => ?_)
    · exact zw_some ⟨hImh, hFmh, ⟨by omega, by omega⟩⟩
    · have b3 : 0 ≤ x2 ∧ x2 < 4 := by omega
      refine zw_if b3 ?_
      have r4 : (-2147483648) ≤ (mh ((a0 + 2) + 20 + x2) 6) ∧ (mh ((a0 + 2) + 20 + x2) 6) ≤ 2147483647 := zi_rd hImh (zc_66_e (zc_16_3 hc0) b3) zb_18_6
      have k5 := zmax_bd x1 (mh ((a0 + 2) + 20 + x2) 6)
      have w6 := zu_w32_id (z := x2 + 1) (by omega) (by omega)
      have hM : (4 - (zu_w32 (x2 + 1))) * 1 + 0 < (k : Int) := by omega
      exact ih (zu_max x1 (mh ((a0 + 2) + 20 + x2) 6)) (zu_w32 (x2 + 1)) mh hImh hFmh ⟨by omega, by omega⟩ ⟨by omega, by omega⟩ hM
set_option maxHeartbeats 4000000 in
theorem zk_238_16 (n : Nat) {a0 : Int} {m0 : zu_m} (hIm0 : zi_I m0) (hc0 : zcls a0 = 16)      : zw (zu_call (zt_T n) 238 [(27, a0)] m0) (fun v m => zi_I m ∧ zfr [] m0 m ∧ (0 ≤ v ∧ v ≤ 2147483647)) := by
  have hFm0 : zfr [] m0 m0 := zfr_rf _ _
  refine zw_eq (zu_call_at (zt_T n) (zm_238 n) (zdp_238 n) _ _ _ _ _ rfl (zr_238_0 n _ _ a0 m0)) ?_
  have hM : (4 - 0) * 1 + 0 < ((5 : Nat) : Int) := by omega
  exact (zl_238_16 n (m0 := m0) hc0 5) 0 0 m0 hIm0 hFm0 ⟨by omega, by omega⟩ ⟨by omega, by omega⟩ hM
set_option maxHeartbeats 4000000 in
theorem zl_238_25 (n : Nat) {a0 : Int} {m0 : zu_m} (hc0 : zcls a0 = 25)   : ∀ k : Nat, (∀ (x1 x2 : Int) (mh : zu_m), zi_I mh → zfr [] m0 mh → (0 ≤ x1 ∧ x1 ≤ 2147483647) → (0 ≤ x2 ∧ x2 ≤ 4) → (4 - x2) * 1 + 0 < (k : Int) → zw (zu_ex (zt_T n) 238 4 [(27, a0), (0, x1), (0, x2)] [] mh) (fun v m => zi_I m ∧ zfr [] m0 m ∧ (0 ≤ v ∧ v ≤ 2147483647))) := by
  intro k
  induction k with
  | zero => exact fun x1 x2 mh hImh hFmh hbx1 hbx2 hM => by exfalso; omega
  | succ k ih =>
    intro x1 x2 mh hImh hFmh hbx1 hbx2 hM
    refine zw_eq (zu_rega_at (zt_T n) (zm_238 n) (zdp_238 n) _ _ _ _ _ _ (zr_238_4 n _ _ a0 x1 x2 mh)) ?_
    have r1 : 0 ≤ (mh a0 4) ∧ (mh a0 4) ≤ 4 := zi_rd hImh hc0 zb_25_4
    refine zw_ite (fun h2 => ?_) (fun h2 => ?_)
    · exact zw_some ⟨hImh, hFmh, ⟨by omega, by omega⟩⟩
    · have b3 : 0 ≤ x2 ∧ x2 < 4 := by omega
      refine zw_if b3 ?_
      have r4 : (-2147483648) ≤ (mh ((a0 + 2) + 20 + x2) 6) ∧ (mh ((a0 + 2) + 20 + x2) 6) ≤ 2147483647 := zi_rd hImh (zc_96_e (zc_25_3 hc0) b3) zb_27_6
      have k5 := zmax_bd x1 (mh ((a0 + 2) + 20 + x2) 6)
      have w6 := zu_w32_id (z := x2 + 1) (by omega) (by omega)
      have hM : (4 - (zu_w32 (x2 + 1))) * 1 + 0 < (k : Int) := by omega
      exact ih (zu_max x1 (mh ((a0 + 2) + 20 + x2) 6)) (zu_w32 (x2 + 1)) mh hImh hFmh ⟨by omega, by omega⟩ ⟨by omega, by omega⟩ hM
set_option maxHeartbeats 4000000 in
theorem zk_238_25 (n : Nat) {a0 : Int} {m0 : zu_m} (hIm0 : zi_I m0) (hc0 : zcls a0 = 25)      : zw (zu_call (zt_T n) 238 [(27, a0)] m0) (fun v m => zi_I m ∧ zfr [] m0 m ∧ (0 ≤ v ∧ v ≤ 2147483647)) := by
  have hFm0 : zfr [] m0 m0 := zfr_rf _ _
  refine zw_eq (zu_call_at (zt_T n) (zm_238 n) (zdp_238 n) _ _ _ _ _ rfl (zr_238_0 n _ _ a0 m0)) ?_
  have hM : (4 - 0) * 1 + 0 < ((5 : Nat) : Int) := by omega
  exact (zl_238_25 n (m0 := m0) hc0 5) 0 0 m0 hIm0 hFm0 ⟨by omega, by omega⟩ ⟨by omega, by omega⟩ hM

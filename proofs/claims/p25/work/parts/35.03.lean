set_option maxHeartbeats 4000000 in
theorem zk_245 (n : Nat) {a0 a1 a2 : Int} {m0 : zu_m} (hIm0 : zi_I m0) (hc0 : zcls a0 = 11) (ha1 : 0 ≤ a1 ∧ a1 ≤ 47) (ha2 : 0 ≤ a2 ∧ a2 ≤ 47)     : zw (zu_call (zt_T n) 245 [(8, a0), (0, a1), (0, a2)] m0) (fun v m => zi_I m ∧ zfr [] m0 m ∧ (0 ≤ v ∧ v ≤ 12)) := by
  have hFm0 : zfr [] m0 m0 := zfr_rf _ _
  refine zw_eq (zu_call_at (zt_T n) (zm_245 n) (zdp_245 n) _ _ _ _ _ rfl (zr_245_0 n _ _ a0 a1 a2 m0)) ?_
  have b1 : 0 ≤ a1 ∧ a1 < 48 := by omega
  refine zw_if b1 ?_
  have r2 : 0 ≤ (m0 (a0 + 1) a1) ∧ (m0 (a0 + 1) a1) ≤ 7 := zi_rd hIm0 (zc_11_6 hc0) (zb_49 _)
  have b3 : 0 ≤ a2 ∧ a2 < 48 := by omega
  refine zw_if b3 ?_
  have r4 : 0 ≤ (m0 (a0 + 1) a2) ∧ (m0 (a0 + 1) a2) ≤ 7 := zi_rd hIm0 (zc_11_6 hc0) (zb_49 _)
  have w5 := zu_w32_id (z := (m0 (a0 + 1) a1) - (m0 (a0 + 1) a2)) (by omega) (by omega)
  have k6 := zabs_bd (x := (zu_w32 ((m0 (a0 + 1) a1) - (m0 (a0 + 1) a2)))) (by omega) (by omega)
  have b7 : 0 ≤ a1 ∧ a1 < 48 := by omega
  refine zw_if b7 ?_
  have r8 : 0 ≤ (m0 (a0 + 2) a1) ∧ (m0 (a0 + 2) a1) ≤ 5 := zi_rd hIm0 (zc_11_7 hc0) (zb_50 _)
  have b9 : 0 ≤ a2 ∧ a2 < 48 := by omega
  refine zw_if b9 ?_
  have r10 : 0 ≤ (m0 (a0 + 2) a2) ∧ (m0 (a0 + 2) a2) ≤ 5 := zi_rd hIm0 (zc_11_7 hc0) (zb_50 _)
  have w11 := zu_w32_id (z := (m0 (a0 + 2) a1) - (m0 (a0 + 2) a2)) (by omega) (by omega)
  have k12 := zabs_bd (x := (zu_w32 ((m0 (a0 + 2) a1) - (m0 (a0 + 2) a2)))) (by omega) (by omega)
  have w13 := zu_w32_id (z := (zu_abs (zu_w32 ((m0 (a0 + 1) a1) - (m0 (a0 + 1) a2)))) + (zu_abs (zu_w32 ((m0 (a0 + 2) a1) - (m0 (a0 + 2) a2))))) (by omega) (by omega)
  exact zw_some ⟨hIm0, hFm0, ⟨by omega, by omega⟩⟩
set_option maxHeartbeats 4000000 in
theorem zk_246 (n : Nat) {a0 a1 a2 : Int} {m0 : zu_m} (hIm0 : zi_I m0) (hc0 : zcls a0 = 11) (ha1 : 0 ≤ a1 ∧ a1 ≤ 47) (ha2 : 0 ≤ a2 ∧ a2 ≤ 47)   (hxp0 : a1 < (m0 a0 2)) (hxp1 : a2 < (m0 a0 2)) (hRG5m0 : zgeo m0 50) : zw (zu_call (zt_T n) 246 [(8, a0), (0, a1), (0, a2)] m0) (fun v m => zi_I m ∧ zfr [] m0 m ∧ zgeo m 50 ∧ (0 ≤ v ∧ v ≤ 47) ∧ (v < (m a0 2))) := by
  have hFm0 : zfr [] m0 m0 := zfr_rf _ _
  have r1 : 1 ≤ (m0 a0 2) ∧ (m0 a0 2) ≤ 48 := zi_rd hIm0 hc0 zb_11_2
  refine zw_eq (zu_call_at (zt_T n) (zm_246 n) (zdp_246 n) _ _ _ _ _ rfl (zr_246_0 n _ _ a0 a1 a2 m0)) ?_
  have r2 : 1 ≤ (m0 a0 0) ∧ (m0 a0 0) ≤ 8 := zi_rd hIm0 hc0 zb_11_0
  have s3 := zgeo_step (x := a1) (y := a2) hRG5m0 (zone_50 hc0) (by omega) (by omega) (by omega) (by omega) (by omega)
  have b4 : 0 ≤ a1 ∧ a1 < 48 := by omega
  refine zw_if b4 ?_
  have r5 : 0 ≤ (m0 (a0 + 1) a1) ∧ (m0 (a0 + 1) a1) ≤ 7 := zi_rd hIm0 (zc_11_6 hc0) (zb_49 _)
  have b6 : 0 ≤ a2 ∧ a2 < 48 := by omega
  refine zw_if b6 ?_
  have r7 : 0 ≤ (m0 (a0 + 1) a2) ∧ (m0 (a0 + 1) a2) ≤ 7 := zi_rd hIm0 (zc_11_6 hc0) (zb_49 _)
  refine zw_ite (fun h8 => ?_) (fun h8 => ?_)
  · have b9 : 0 ≤ a1 ∧ a1 < 48 := by omega
    refine zw_if b9 ?_
    have b10 : 0 ≤ a2 ∧ a2 < 48 := by omega
    refine zw_if b10 ?_
    refine zw_ite (fun h11 => ?_) (fun h11 => ?_)
    · have b12 : 0 ≤ a1 ∧ a1 < 48 := by omega
      refine zw_if b12 ?_
      have r13 : 0 ≤ (m0 (a0 + 2) a1) ∧ (m0 (a0 + 2) a1) ≤ 5 := zi_rd hIm0 (zc_11_7 hc0) (zb_50 _)
      have b14 : 0 ≤ a2 ∧ a2 < 48 := by omega
      refine zw_if b14 ?_
      have r15 : 0 ≤ (m0 (a0 + 2) a2) ∧ (m0 (a0 + 2) a2) ≤ 5 := zi_rd hIm0 (zc_11_7 hc0) (zb_50 _)
      refine zw_ite (fun h16 => ?_) (fun h16 => ?_)
      · have b17 : 0 ≤ a1 ∧ a1 < 48 := by omega
        refine zw_if b17 ?_
        have b18 : 0 ≤ a2 ∧ a2 < 48 := by omega
        refine zw_if b18 ?_
        refine zw_ite (fun h19 => ?_) (fun h19 => ?_)
        · exact zw_some ⟨hIm0, hFm0, hRG5m0, ⟨by omega, by omega⟩, by omega⟩
        · have w20 := zu_w32_id (z := a1 - (m0 a0 0)) (by omega) (by omega)
          exact zw_some ⟨hIm0, hFm0, hRG5m0, ⟨by omega, by omega⟩, by omega⟩
      · have w21 := zu_w32_id (z := a1 + (m0 a0 0)) (by omega) (by omega)
        exact zw_some ⟨hIm0, hFm0, hRG5m0, ⟨by omega, by omega⟩, by omega⟩
    · have w22 := zu_w32_id (z := a1 - 1) (by omega) (by omega)
      exact zw_some ⟨hIm0, hFm0, hRG5m0, ⟨by omega, by omega⟩, by omega⟩
  · have w23 := zu_w32_id (z := a1 + 1) (by omega) (by omega)
    exact zw_some ⟨hIm0, hFm0, hRG5m0, ⟨by omega, by omega⟩, by omega⟩
set_option maxHeartbeats 4000000 in
theorem zk_247 (n : Nat) {a0 a1 a2 a3 : Int} {m0 : zu_m} (hIm0 : zi_I m0) (hc0 : zcls a0 = 11) (ha1 : 0 ≤ a1 ∧ a1 ≤ 3) (ha2 : 0 ≤ a2 ∧ a2 ≤ 15) (ha3 : (-2147483648) ≤ a3 ∧ a3 ≤ 2147483647)     : zw (zu_call (zt_T n) 247 [(8, a0), (0, a1), (0, a2), (0, a3)] m0) (fun v m => zi_I m ∧ zfr [(59, 1), (59, 5), (59, 7)] m0 m ∧ True) := by
  have hFm0 : zfr [(59, 1), (59, 5), (59, 7)] m0 m0 := zfr_rf _ _
  refine zw_eq (zu_call_at (zt_T n) (zm_247 n) (zdp_247 n) _ _ _ _ _ rfl (zr_247_0 n _ _ a0 a1 a2 a3 m0)) ?_
  have b1 : 0 ≤ (0 : Int) ∧ (0 : Int) < 7 := by omega
  refine zw_if b1 ?_
  generalize hmm2 : zu_up m0 (a0 + 12) 0 a2 = m2
  have hIm2 := zi_upr (m := 7) (r0 := 0) (r1 := 0) (lo := 0) (hi := 15) hmm2 hIm0 (zc_11_12 hc0) (by omega) (by decide +kernel) (by omega) (by omega)
  have hFm2 := zfr_up hmm2 hFm0 (zc_11_12 hc0) rfl
  have b3 : 0 ≤ (3 : Int) ∧ (3 : Int) < 7 := by omega
  refine zw_if b3 ?_
  have r4 : 0 ≤ (m2 (a0 + 12) 3) ∧ (m2 (a0 + 12) 3) ≤ 3 := zi_rdr (m := 7) (r0 := 3) (r1 := 3) hIm2 (zc_11_12 hc0) (by omega) (by decide +kernel)
  refine zw_nif (by omega) ?_
  have d5 : Int.tmod a1 4 = a1 % 4 := Int.tmod_eq_emod_of_nonneg (by omega)
  refine zw_ite (fun h6 => ?_) (fun h6 => ?_)
  · have b7 : 0 ≤ (4 : Int) ∧ (4 : Int) < 7 := by omega
    refine zw_if b7 ?_
    generalize hmm8 : zu_up m2 (a0 + 12) 4 0 = m8
    have hIm8 := zi_upr (m := 7) (r0 := 4) (r1 := 4) (lo := 0) (hi := 1) hmm8 hIm2 (zc_11_12 hc0) (by omega) (by decide +kernel) (by omega) (by omega)
    have hFm8 := zfr_up hmm8 hFm2 (zc_11_12 hc0) rfl
    have b9 : 0 ≤ (6 : Int) ∧ (6 : Int) < 7 := by omega
    refine zw_if b9 ?_
    generalize hmm10 : zu_up m8 (a0 + 12) 6 a3 = m10
    have hIm10 := zi_upr (m := 7) (r0 := 6) (r1 := 6) (lo := (-2147483648)) (hi := 2147483647) hmm10 hIm8 (zc_11_12 hc0) (by omega) (by decide +kernel) (by omega) (by omega)
    have hFm10 := zfr_up hmm10 hFm8 (zc_11_12 hc0) rfl
    exact zw_some ⟨hIm10, hFm10, trivial⟩
  · have b11 : 0 ≤ (4 : Int) ∧ (4 : Int) < 7 := by omega
    refine zw_if b11 ?_
    generalize hmm12 : zu_up m2 (a0 + 12) 4 1 = m12
    have hIm12 := zi_upr (m := 7) (r0 := 4) (r1 := 4) (lo := 0) (hi := 1) hmm12 hIm2 (zc_11_12 hc0) (by omega) (by decide +kernel) (by omega) (by omega)
    have hFm12 := zfr_up hmm12 hFm2 (zc_11_12 hc0) rfl
    have b13 : 0 ≤ (6 : Int) ∧ (6 : Int) < 7 := by omega
    refine zw_if b13 ?_
    generalize hmm14 : zu_up m12 (a0 + 12) 6 a3 = m14
    have hIm14 := zi_upr (m := 7) (r0 := 6) (r1 := 6) (lo := (-2147483648)) (hi := 2147483647) hmm14 hIm12 (zc_11_12 hc0) (by omega) (by decide +kernel) (by omega) (by omega)
    have hFm14 := zfr_up hmm14 hFm12 (zc_11_12 hc0) rfl
    exact zw_some ⟨hIm14, hFm14, trivial⟩
set_option maxHeartbeats 4000000 in
theorem zk_254 (n : Nat) {a0 a1 a2 a3 : Int} {m0 : zu_m} (hIm0 : zi_I m0) (hc0 : zcls a0 = 11) (ha1 : 0 ≤ a1 ∧ a1 ≤ 999000) (ha2 : 0 ≤ a2 ∧ a2 ≤ 3) (ha3 : 0 ≤ a3 ∧ a3 ≤ 47)     : zw (zu_call (zt_T n) 254 [(8, a0), (0, a1), (0, a2), (0, a3)] m0) (fun v m => zi_I m ∧ zfr [] m0 m ∧ (0 ≤ v ∧ v ≤ 999000)) := by
  have hFm0 : zfr [] m0 m0 := zfr_rf _ _
  refine zw_eq (zu_call_at (zt_T n) (zm_254 n) (zdp_254 n) _ _ _ _ _ rfl (zr_254_0 n _ _ a0 a1 a2 a3 m0)) ?_
  have w1 := zu_w32_id (z := a2 * 48) (by omega) (by omega)
  have w2 := zu_w32_id (z := (zu_w32 (a2 * 48)) + a3) (by omega) (by omega)
  have b3 : 0 ≤ (zu_w32 ((zu_w32 (a2 * 48)) + a3)) ∧ (zu_w32 ((zu_w32 (a2 * 48)) + a3)) < 192 := by omega
  refine zw_if b3 ?_
  have r4 : 0 ≤ (m0 (a0 + 11) (zu_w32 ((zu_w32 (a2 * 48)) + a3))) ∧ (m0 (a0 + 11) (zu_w32 ((zu_w32 (a2 * 48)) + a3))) ≤ 100 := zi_rd hIm0 (zc_11_11 hc0) (zb_58 _)
  have p5 := zmul_bd (x := a1) (y := (m0 (a0 + 11) (zu_w32 ((zu_w32 (a2 * 48)) + a3)))) (a := 0) (b := 0) (A := 999000) (B := 100) (by omega) (by omega) (by omega) (by omega) (by omega) (by omega)
  have w6 := zu_w32_id (z := a1 * (m0 (a0 + 11) (zu_w32 ((zu_w32 (a2 * 48)) + a3)))) (by omega) (by omega)
  refine zw_nif (by omega) ?_
  have d7 : Int.tdiv (zu_w32 (a1 * (m0 (a0 + 11) (zu_w32 ((zu_w32 (a2 * 48)) + a3))))) 100 = (zu_w32 (a1 * (m0 (a0 + 11) (zu_w32 ((zu_w32 (a2 * 48)) + a3))))) / 100 := Int.tdiv_eq_ediv_of_nonneg (by omega)
  have w8 := zu_w32_id (z := Int.tdiv (zu_w32 (a1 * (m0 (a0 + 11) (zu_w32 ((zu_w32 (a2 * 48)) + a3))))) 100) (by omega) (by omega)
  exact zw_some ⟨hIm0, hFm0, ⟨by omega, by omega⟩⟩
set_option maxHeartbeats 4000000 in
theorem zl_256 (n : Nat) {a0 a1 : Int} {m0 : zu_m}    : ∀ k : Nat, (∀ (x4 x6 x8 : Int) (mh : zu_m), zi_I mh → zfr [] m0 mh → ((-9223372036854775808) ≤ a0 ∧ a0 ≤ 9223372036854775807) → ((-9223372036854775808) ≤ a1 ∧ a1 ≤ 9223372036854775807) → ((-9223372036854775808) ≤ x4 ∧ x4 ≤ 9223372036854775807) → ((-9223372036854775808) ≤ x6 ∧ x6 ≤ 9223372036854775807) → (0 ≤ x8 ∧ x8 ≤ 1000) → (1000 - x8) * 1 + 0 < (k : Int) → zw (zu_ex (zt_T n) 256 9 [(1, a0), (2, 0), (1, a1), (2, 0), (1, x4), (2, 0), (1, x6), (2, 0), (0, x8), (2, 0), (2, 0)] [] mh) (fun v m => zi_I m ∧ zfr [] m0 m ∧ ((-9223372036854775808) ≤ v ∧ v ≤ 9223372036854775807))) := by
  intro k
  induction k with
  | zero => exact fun x4 x6 x8 mh hImh hFmh hba0 hba1 hbx4 hbx6 hbx8 hM => by exfalso; omega
  | succ k ih =>
    intro x4 x6 x8 mh hImh hFmh hba0 hba1 hbx4 hbx6 hbx8 hM
    refine zw_eq (zu_rega_at (zt_T n) (zm_256 n) (zdp_256 n) _ _ _ _ _ _ (zr_256_9 n _ _ a0 a1 x4 x6 x8 mh)) ?_
    refine zw_ite (fun h1 => ?_) (fun h1 => ?_)
    · exact zw_some ⟨hImh, hFmh, ⟨by omega, by omega⟩⟩
    · have c2 := zu_lcmp_sp x6 0
      refine zw_ite (fun h3 => ?_) (fun h3 => ?_)
      · exact zw_some ⟨hImh, hFmh, ⟨by omega, by omega⟩⟩
      · refine zw_nif (by omega) ?_
        have d4 := ztmod_rg1 (x := x4) (y := x6) (by omega) (by omega)
        have w5 := zu_w32_id (z := x8 + 1) (by omega) (by omega)
        have hM : (1000 - (zu_w32 (x8 + 1))) * 1 + 0 < (k : Int) := by omega
        exact zw_le (zu_forget (zu_lr_same (zu_lr_same (zu_lr_same (zu_lr_same (zu_lr_same (zu_lr_same (zu_lr_same (zu_lr_same (zu_lr_same (zu_lr_drop (zu_lr_same zu_lr_nil)))))))))))) (ih x6 (Int.tmod x4 x6) (zu_w32 (x8 + 1)) mh hImh hFmh ⟨by omega, by omega⟩ ⟨by omega, by omega⟩ ⟨by omega, by omega⟩ ⟨by omega, by omega⟩ ⟨by omega, by omega⟩ hM)
set_option maxHeartbeats 4000000 in
theorem zk_256 (n : Nat) {a0 a1 : Int} {m0 : zu_m} (hIm0 : zi_I m0)  (ha0 : (-9223372036854775808) ≤ a0 ∧ a0 ≤ 9223372036854775807) (ha1 : (-9223372036854775808) ≤ a1 ∧ a1 ≤ 9223372036854775807)     : zw (zu_call (zt_T n) 256 [(1, a0), (1, a1)] m0) (fun v m => zi_I m ∧ zfr [] m0 m ∧ ((-9223372036854775808) ≤ v ∧ v ≤ 9223372036854775807)) := by
  have hFm0 : zfr [] m0 m0 := zfr_rf _ _
  refine zw_eq (zu_call_at (zt_T n) (zm_256 n) (zdp_256 n) _ _ _ _ _ rfl (zr_256_0 n _ _ a0 a1 m0)) ?_
  have hM : (1000 - 0) * 1 + 0 < ((1001 : Nat) : Int) := by omega
  exact (zl_256 n (m0 := m0)  1001) a0 a1 0 m0 hIm0 hFm0 ⟨by omega, by omega⟩ ⟨by omega, by omega⟩ ⟨by omega, by omega⟩ ⟨by omega, by omega⟩ ⟨by omega, by omega⟩ hM
set_option maxHeartbeats 4000000 in
theorem zk_272 (n : Nat) {a0 a1 a2 a3 a4 : Int} {m0 : zu_m} (hIm0 : zi_I m0) (hc0 : zcls a0 = 22) (ha1 : 1 ≤ a1 ∧ a1 ≤ 200) (ha2 : 0 ≤ a2 ∧ a2 ≤ 3) (ha3 : 0 ≤ a3 ∧ a3 ≤ 16) (ha4 : 0 ≤ a4 ∧ a4 ≤ 1)     : zw (zu_call (zt_T n) 272 [(28, a0), (0, a1), (0, a2), (0, a3), (0, a4)] m0) (fun v m => zi_I m ∧ zfr [(22, 7), (75, 0), (76, 0), (77, 0), (78, 0), (79, 0)] m0 m ∧ ((-1) ≤ v ∧ v ≤ 23) ∧ (1 ≤ m a0 6 ∧ m a0 6 ≤ 24)) := by
  have hFm0 : zfr [(22, 7), (75, 0), (76, 0), (77, 0), (78, 0), (79, 0)] m0 m0 := zfr_rf _ _
  refine zw_eq (zu_call_at (zt_T n) (zm_272 n) (zdp_272 n) _ _ _ _ _ rfl (zr_272_0 n _ _ a0 a1 a2 a3 a4 m0)) ?_
  have r1 : 0 ≤ (m0 a0 6) ∧ (m0 a0 6) ≤ 24 := zi_rd hIm0 hc0 zb_22_6
  refine zw_ite (fun h2 => ?_) (fun h2 => ?_)
  · have b3 : 0 ≤ (m0 a0 6) ∧ (m0 a0 6) < 24 := by omega
    refine zw_if b3 ?_
    generalize hmm4 : zu_up m0 142 (m0 a0 6) a1 = m4
    have hIm4 := zi_up hmm4 hIm0 zq_142 (zb_75 _) (by omega) (by omega)
    have hFm4 := zfr_up hmm4 hFm0 zq_142 rfl
    have r5 : 0 ≤ (m4 a0 6) ∧ (m4 a0 6) ≤ 24 := zi_rd hIm4 hc0 zb_22_6
    have e6 : (m4 a0 6) = (m0 a0 6) := (zs_ne hmm4 (Or.inl (zc_ne hc0 zq_142 (by decide))))
    have b7 : 0 ≤ (m4 a0 6) ∧ (m4 a0 6) < 24 := by omega
    refine zw_if b7 ?_
    generalize hmm8 : zu_up m4 143 (m4 a0 6) a2 = m8
    have hIm8 := zi_up hmm8 hIm4 zq_143 (zb_76 _) (by omega) (by omega)
    have hFm8 := zfr_up hmm8 hFm4 zq_143 rfl
    have r9 : 0 ≤ (m8 a0 6) ∧ (m8 a0 6) ≤ 24 := zi_rd hIm8 hc0 zb_22_6
    have e10 : (m8 a0 6) = (m4 a0 6) := (zs_ne hmm8 (Or.inl (zc_ne hc0 zq_143 (by decide))))
    have b11 : 0 ≤ (m8 a0 6) ∧ (m8 a0 6) < 24 := by omega
    refine zw_if b11 ?_
    generalize hmm12 : zu_up m8 144 (m8 a0 6) a3 = m12
    have hIm12 := zi_up hmm12 hIm8 zq_144 (zb_77 _) (by omega) (by omega)
    have hFm12 := zfr_up hmm12 hFm8 zq_144 rfl
    have r13 : 0 ≤ (m12 a0 6) ∧ (m12 a0 6) ≤ 24 := zi_rd hIm12 hc0 zb_22_6
    have e14 : (m12 a0 6) = (m8 a0 6) := (zs_ne hmm12 (Or.inl (zc_ne hc0 zq_144 (by decide))))
    refine zw_b (by omega) ?_
    have b15 : 0 ≤ (m12 a0 6) ∧ (m12 a0 6) < 24 := by omega
    refine zw_if b15 ?_
    generalize hmm16 : zu_up m12 145 (m12 a0 6) a4 = m16
    have hIm16 := zi_up hmm16 hIm12 zq_145 (zb_78 _) (by omega) (by omega)
    have hFm16 := zfr_up hmm16 hFm12 zq_145 rfl
    have r17 : 0 ≤ (m16 a0 6) ∧ (m16 a0 6) ≤ 24 := zi_rd hIm16 hc0 zb_22_6
    have e18 : (m16 a0 6) = (m12 a0 6) := (zs_ne hmm16 (Or.inl (zc_ne hc0 zq_145 (by decide))))
    have b19 : 0 ≤ (m16 a0 6) ∧ (m16 a0 6) < 24 := by omega
    refine zw_if b19 ?_
    generalize hmm20 : zu_up m16 146 (m16 a0 6) (-1) = m20
    have hIm20 := zi_up hmm20 hIm16 zq_146 (zb_79 _) (by omega) (by omega)
    have hFm20 := zfr_up hmm20 hFm16 zq_146 rfl
    have r21 : 0 ≤ (m20 a0 6) ∧ (m20 a0 6) ≤ 24 := zi_rd hIm20 hc0 zb_22_6
    have e22 : (m20 a0 6) = (m16 a0 6) := (zs_ne hmm20 (Or.inl (zc_ne hc0 zq_146 (by decide))))
    have w23 := zu_w32_id (z := (m20 a0 6) + 1) (by omega) (by omega)
    generalize hmm24 : zu_up m20 a0 6 (zu_w32 ((m20 a0 6) + 1)) = m24
    have hIm24 := zi_up hmm24 hIm20 hc0 zb_22_6 (by omega) (by omega)
    have hFm24 := zfr_up hmm24 hFm20 hc0 rfl
    have r25 : 0 ≤ (m24 a0 6) ∧ (m24 a0 6) ≤ 24 := zi_rd hIm24 hc0 zb_22_6
    have e26 : (m24 a0 6) = (zu_w32 ((m20 a0 6) + 1)) := (zs_eq hmm24)
    have w27 := zu_w32_id (z := (m24 a0 6) - 1) (by omega) (by omega)
    exact zw_some ⟨hIm24, hFm24, ⟨by omega, by omega⟩, ⟨by omega, by omega⟩⟩
  · exact zw_some ⟨hIm0, hFm0, ⟨by omega, by omega⟩, ⟨by omega, by omega⟩⟩
set_option maxHeartbeats 4000000 in
theorem zk_273 (n : Nat) {a0 a1 : Int} {m0 : zu_m} (hIm0 : zi_I m0) (hc0 : zcls a0 = 22) (ha1 : (-2147483648) ≤ a1 ∧ a1 ≤ 2147483647)     : zw (zu_call (zt_T n) 273 [(28, a0), (0, a1)] m0) (fun v m => zi_I m ∧ zfr [(22, 7), (79, 0)] m0 m ∧ ((-1) ≤ v ∧ v ≤ 23)) := by
  have hFm0 : zfr [(22, 7), (79, 0)] m0 m0 := zfr_rf _ _
  refine zw_eq (zu_call_at (zt_T n) (zm_273 n) (zdp_273 n) _ _ _ _ _ rfl (zr_273_0 n _ _ a0 a1 m0)) ?_
  refine zw_ite (fun h1 => ?_) (fun h1 => ?_)
  · exact zw_some ⟨hIm0, hFm0, ⟨by omega, by omega⟩⟩
  · have r2 : 0 ≤ (m0 a0 6) ∧ (m0 a0 6) ≤ 24 := zi_rd hIm0 hc0 zb_22_6
    refine zw_ite (fun h3 => ?_) (fun h3 => ?_)
    · exact zw_some ⟨hIm0, hFm0, ⟨by omega, by omega⟩⟩
    · refine zw_ite (fun h4 => ?_) (fun h4 => ?_)
      · have b5 : 0 ≤ (m0 a0 6) ∧ (m0 a0 6) < 24 := by omega
        refine zw_if b5 ?_
        generalize hmm6 : zu_up m0 146 (m0 a0 6) a1 = m6
        have hIm6 := zi_up hmm6 hIm0 zq_146 (zb_79 _) (by omega) (by omega)
        have hFm6 := zfr_up hmm6 hFm0 zq_146 rfl
        have r7 : 0 ≤ (m6 a0 6) ∧ (m6 a0 6) ≤ 24 := zi_rd hIm6 hc0 zb_22_6
        have e8 : (m6 a0 6) = (m0 a0 6) := (zs_ne hmm6 (Or.inl (zc_ne hc0 zq_146 (by decide))))
        have w9 := zu_w32_id (z := (m6 a0 6) + 1) (by omega) (by omega)
        generalize hmm10 : zu_up m6 a0 6 (zu_w32 ((m6 a0 6) + 1)) = m10
        have hIm10 := zi_up hmm10 hIm6 hc0 zb_22_6 (by omega) (by omega)
        have hFm10 := zfr_up hmm10 hFm6 hc0 rfl
        have r11 : 0 ≤ (m10 a0 6) ∧ (m10 a0 6) ≤ 24 := zi_rd hIm10 hc0 zb_22_6
        have e12 : (m10 a0 6) = (zu_w32 ((m6 a0 6) + 1)) := (zs_eq hmm10)
        have w13 := zu_w32_id (z := (m10 a0 6) - 1) (by omega) (by omega)
        exact zw_some ⟨hIm10, hFm10, ⟨by omega, by omega⟩⟩
      · exact zw_some ⟨hIm0, hFm0, ⟨by omega, by omega⟩⟩
set_option maxHeartbeats 4000000 in
theorem zl_280 (n : Nat) {a0 : Int} {m0 : zu_m} (hc0 : zcls a0 = 9)   : ∀ k : Nat, (∀ (x1 : Int) (mh : zu_m), zi_I mh → zfr [(9, 4), (9, 5), (9, 6)] m0 mh → ((-2147483648) ≤ x1 ∧ x1 ≤ 2147483647) → (1 ≤ mh a0 2 ∧ mh a0 2 ≤ 700) → (0 ≤ mh a0 6 ∧ mh a0 6 ≤ 699) → (700 - (mh a0 3)) * 1 + 37 < (k : Int) → zw (zu_ex (zt_T n) 280 2 [(22, a0), (0, x1), (2, 0)] [] mh) (fun v m => zi_I m ∧ zfr [(9, 4), (9, 5), (9, 6)] m0 m ∧ True ∧ (1 ≤ m a0 4 ∧ m a0 4 ≤ 5) ∧ ((m a0 4) ≠ 4))) ∧ (∀ (x1 x2 : Int) (mh : zu_m), zi_I mh → zfr [(9, 4), (9, 5), (9, 6)] m0 mh → ((-2147483648) ≤ x1 ∧ x1 ≤ 2147483647) → (0 ≤ x2 ∧ x2 ≤ 36) → (1 ≤ mh a0 2 ∧ mh a0 2 ≤ 700) → (1 ≤ mh a0 4 ∧ mh a0 4 ≤ 5) → (0 ≤ mh a0 6 ∧ mh a0 6 ≤ 699) → ((mh a0 4) ≠ 4) → (36 - x2) * 1 + 0 < (k : Int) → zw (zu_ex (zt_T n) 280 129 [(22, a0), (0, x1), (0, x2)] [] mh) (fun v m => zi_I m ∧ zfr [(9, 4), (9, 5), (9, 6)] m0 m ∧ True ∧ (1 ≤ m a0 4 ∧ m a0 4 ≤ 5) ∧ ((m a0 4) ≠ 4))) := by
  intro k
  induction k with
  | zero => exact ⟨fun x1 mh hImh hFmh hbx1 hg1 hg2 hM => by have zq0 := zi_rd hImh hc0 zb_9_3; exfalso; omega, fun x1 x2 mh hImh hFmh hbx1 hbx2 hg2 hg3 hg4 hH0 hM => by have zq0 := zi_rd hImh hc0 zb_9_3; exfalso; omega⟩
  | succ k ih =>
    refine ⟨?_, ?_⟩
    · intro x1 mh hImh hFmh hbx1 hg1 hg2 hM
      refine zw_eq (zu_rega_at (zt_T n) (zm_280 n) (zdp_280 n) _ _ _ _ _ _ (zr_280_2 n _ _ a0 x1 mh)) ?_
      have r1 : 0 ≤ (mh a0 3) ∧ (mh a0 3) ≤ 700 := zi_rd hImh hc0 zb_9_3
      refine zw_ite (fun h2 => ?_) (fun h2 => ?_)
      · generalize hmm3 : zu_up mh a0 5 x1 = m3
        have hIm3 := zi_up hmm3 hImh hc0 zb_9_5 (by omega) (by omega)
        have hFm3 := zfr_up hmm3 hFmh hc0 rfl
        have r4 : 0 ≤ (m3 a0 3) ∧ (m3 a0 3) ≤ 700 := zi_rd hIm3 hc0 zb_9_3
        have e5 : (m3 a0 3) = (mh a0 3) := (zs_ne hmm3 (Or.inr (by decide)))
        have r6 : 0 ≤ (m3 a0 6) ∧ (m3 a0 6) ≤ 700 := zi_rd hIm3 hc0 zb_9_6
        have e7 : (m3 a0 6) = (mh a0 6) := (zs_ne hmm3 (Or.inr (by decide)))
        have w8 := zu_w32_id (z := (m3 a0 3) - (m3 a0 6)) (by omega) (by omega)
        refine zw_ite (fun h9 => ?_) (fun h9 => ?_)
        · generalize hmm10 : zu_up m3 a0 4 2 = m10
          have hIm10 := zi_up hmm10 hIm3 hc0 zb_9_4 (by omega) (by omega)
          have hFm10 := zfr_up hmm10 hFm3 hc0 rfl
          have r11 : 0 ≤ (m10 a0 2) ∧ (m10 a0 2) ≤ 700 := zi_rd hIm10 hc0 zb_9_2
          have e12 : (m10 a0 2) = (mh a0 2) := (Eq.trans (zs_ne hmm10 (Or.inr (by decide))) (zs_ne hmm3 (Or.inr (by decide))))
          have r13 : 0 ≤ (m10 a0 6) ∧ (m10 a0 6) ≤ 700 := zi_rd hIm10 hc0 zb_9_6
          have e14 : (m10 a0 6) = (m3 a0 6) := (zs_ne hmm10 (Or.inr (by decide)))
          have r15 : 0 ≤ (m10 a0 4) ∧ (m10 a0 4) ≤ 5 := zi_rd hIm10 hc0 zb_9_4
          have e16 : (m10 a0 4) = 2 := (zs_eq hmm10)
          have r17 : 0 ≤ (m10 a0 3) ∧ (m10 a0 3) ≤ 700 := zi_rd hIm10 hc0 zb_9_3
          have e18 : (m10 a0 3) = (m3 a0 3) := (zs_ne hmm10 (Or.inr (by decide)))
          have hM : (36 - 0) * 1 + 0 < (k : Int) := by omega
          exact ih.2 x1 0 m10 hIm10 hFm10 ⟨by omega, by omega⟩ ⟨by omega, by omega⟩ ⟨by omega, by omega⟩ ⟨by omega, by omega⟩ ⟨by omega, by omega⟩ (by omega) hM
        · generalize hmm19 : zu_up m3 a0 4 5 = m19
          have hIm19 := zi_up hmm19 hIm3 hc0 zb_9_4 (by omega) (by omega)
          have hFm19 := zfr_up hmm19 hFm3 hc0 rfl
          have r20 : 0 ≤ (m19 a0 2) ∧ (m19 a0 2) ≤ 700 := zi_rd hIm19 hc0 zb_9_2
          have e21 : (m19 a0 2) = (mh a0 2) := (Eq.trans (zs_ne hmm19 (Or.inr (by decide))) (zs_ne hmm3 (Or.inr (by decide))))
          have r22 : 0 ≤ (m19 a0 6) ∧ (m19 a0 6) ≤ 700 := zi_rd hIm19 hc0 zb_9_6
          have e23 : (m19 a0 6) = (m3 a0 6) := (zs_ne hmm19 (Or.inr (by decide)))
          have r24 : 0 ≤ (m19 a0 4) ∧ (m19 a0 4) ≤ 5 := zi_rd hIm19 hc0 zb_9_4
          have e25 : (m19 a0 4) = 5 := (zs_eq hmm19)
          have r26 : 0 ≤ (m19 a0 3) ∧ (m19 a0 3) ≤ 700 := zi_rd hIm19 hc0 zb_9_3
          have e27 : (m19 a0 3) = (m3 a0 3) := (zs_ne hmm19 (Or.inr (by decide)))
          have hM : (36 - 0) * 1 + 0 < (k : Int) := by omega
          exact ih.2 x1 0 m19 hIm19 hFm19 ⟨by omega, by omega⟩ ⟨by omega, by omega⟩ ⟨by omega, by omega⟩ ⟨by omega, by omega⟩ ⟨by omega, by omega⟩ (by omega) hM
      · have b28 : 0 ≤ (mh a0 3) ∧ (mh a0 3) < 700 := by omega
        refine zw_if b28 ?_
        have r29 : (-2147483648) ≤ (mh 4 (mh a0 3)) ∧ (mh 4 (mh a0 3)) ≤ 2147483647 := zi_rd hImh zq_4 (zb_29 _)
        refine zw_ite (fun h30 => ?_) (fun h30 => ?_)
        · generalize hmm31 : zu_up mh a0 5 x1 = m31
          have hIm31 := zi_up hmm31 hImh hc0 zb_9_5 (by omega) (by omega)
          have hFm31 := zfr_up hmm31 hFmh hc0 rfl
          have r32 : 0 ≤ (m31 a0 3) ∧ (m31 a0 3) ≤ 700 := zi_rd hIm31 hc0 zb_9_3
          have e33 : (m31 a0 3) = (mh a0 3) := (zs_ne hmm31 (Or.inr (by decide)))
          have r34 : 0 ≤ (m31 a0 6) ∧ (m31 a0 6) ≤ 700 := zi_rd hIm31 hc0 zb_9_6
          have e35 : (m31 a0 6) = (mh a0 6) := (zs_ne hmm31 (Or.inr (by decide)))
          have w36 := zu_w32_id (z := (m31 a0 3) - (m31 a0 6)) (by omega) (by omega)
          refine zw_ite (fun h37 => ?_) (fun h37 => ?_)
          · generalize hmm38 : zu_up m31 a0 4 2 = m38
            have hIm38 := zi_up hmm38 hIm31 hc0 zb_9_4 (by omega) (by omega)
            have hFm38 := zfr_up hmm38 hFm31 hc0 rfl
            have r39 : 0 ≤ (m38 a0 2) ∧ (m38 a0 2) ≤ 700 := zi_rd hIm38 hc0 zb_9_2
            have e40 : (m38 a0 2) = (mh a0 2) := (Eq.trans (zs_ne hmm38 (Or.inr (by decide))) (zs_ne hmm31 (Or.inr (by decide))))
            have r41 : 0 ≤ (m38 a0 6) ∧ (m38 a0 6) ≤ 700 := zi_rd hIm38 hc0 zb_9_6
            have e42 : (m38 a0 6) = (m31 a0 6) := (zs_ne hmm38 (Or.inr (by decide)))
            have r43 : 0 ≤ (m38 a0 4) ∧ (m38 a0 4) ≤ 5 := zi_rd hIm38 hc0 zb_9_4
            have e44 : (m38 a0 4) = 2 := (zs_eq hmm38)
            have r45 : 0 ≤ (m38 a0 3) ∧ (m38 a0 3) ≤ 700 := zi_rd hIm38 hc0 zb_9_3
            have e46 : (m38 a0 3) = (m31 a0 3) := (zs_ne hmm38 (Or.inr (by decide)))
            have hM : (36 - 0) * 1 + 0 < (k : Int) := by omega
            exact ih.2 x1 0 m38 hIm38 hFm38 ⟨by omega, by omega⟩ ⟨by omega, by omega⟩ ⟨by omega, by omega⟩ ⟨by omega, by omega⟩ ⟨by omega, by omega⟩ (by omega) hM
          · generalize hmm47 : zu_up m31 a0 4 5 = m47
            have hIm47 := zi_up hmm47 hIm31 hc0 zb_9_4 (by omega) (by omega)
            have hFm47 := zfr_up hmm47 hFm31 hc0 rfl
            have r48 : 0 ≤ (m47 a0 2) ∧ (m47 a0 2) ≤ 700 := zi_rd hIm47 hc0 zb_9_2
            have e49 : (m47 a0 2) = (mh a0 2) := (Eq.trans (zs_ne hmm47 (Or.inr (by decide))) (zs_ne hmm31 (Or.inr (by decide))))
            have r50 : 0 ≤ (m47 a0 6) ∧ (m47 a0 6) ≤ 700 := zi_rd hIm47 hc0 zb_9_6
            have e51 : (m47 a0 6) = (m31 a0 6) := (zs_ne hmm47 (Or.inr (by decide)))
            have r52 : 0 ≤ (m47 a0 4) ∧ (m47 a0 4) ≤ 5 := zi_rd hIm47 hc0 zb_9_4
            have e53 : (m47 a0 4) = 5 := (zs_eq hmm47)
            have r54 : 0 ≤ (m47 a0 3) ∧ (m47 a0 3) ≤ 700 := zi_rd hIm47 hc0 zb_9_3
            have e55 : (m47 a0 3) = (m31 a0 3) := (zs_ne hmm47 (Or.inr (by decide)))
            have hM : (36 - 0) * 1 + 0 < (k : Int) := by omega
            exact ih.2 x1 0 m47 hIm47 hFm47 ⟨by omega, by omega⟩ ⟨by omega, by omega⟩ ⟨by omega, by omega⟩ ⟨by omega, by omega⟩ ⟨by omega, by omega⟩ (by omega) hM
        · have b56 : 0 ≤ (mh a0 3) ∧ (mh a0 3) < 700 := by omega
          refine zw_if b56 ?_
          refine zw_ite (fun h57 => ?_) (fun h57 => ?_)
          · generalize hmm58 : zu_up mh a0 5 x1 = m58
            have hIm58 := zi_up hmm58 hImh hc0 zb_9_5 (by omega) (by omega)
            have hFm58 := zfr_up hmm58 hFmh hc0 rfl
            have r59 : 0 ≤ (m58 a0 3) ∧ (m58 a0 3) ≤ 700 := zi_rd hIm58 hc0 zb_9_3
            have e60 : (m58 a0 3) = (mh a0 3) := (zs_ne hmm58 (Or.inr (by decide)))
            have r61 : 0 ≤ (m58 a0 6) ∧ (m58 a0 6) ≤ 700 := zi_rd hIm58 hc0 zb_9_6
            have e62 : (m58 a0 6) = (mh a0 6) := (zs_ne hmm58 (Or.inr (by decide)))
            have w63 := zu_w32_id (z := (m58 a0 3) - (m58 a0 6)) (by omega) (by omega)
            refine zw_ite (fun h64 => ?_) (fun h64 => ?_)
            · generalize hmm65 : zu_up m58 a0 4 2 = m65
              have hIm65 := zi_up hmm65 hIm58 hc0 zb_9_4 (by omega) (by omega)
              have hFm65 := zfr_up hmm65 hFm58 hc0 rfl
              have r66 : 0 ≤ (m65 a0 2) ∧ (m65 a0 2) ≤ 700 := zi_rd hIm65 hc0 zb_9_2
              have e67 : (m65 a0 2) = (mh a0 2) := (Eq.trans (zs_ne hmm65 (Or.inr (by decide))) (zs_ne hmm58 (Or.inr (by decide))))
              have r68 : 0 ≤ (m65 a0 6) ∧ (m65 a0 6) ≤ 700 := zi_rd hIm65 hc0 zb_9_6
              have e69 : (m65 a0 6) = (m58 a0 6) := (zs_ne hmm65 (Or.inr (by decide)))
              have r70 : 0 ≤ (m65 a0 4) ∧ (m65 a0 4) ≤ 5 := zi_rd hIm65 hc0 zb_9_4
              have e71 : (m65 a0 4) = 2 := (zs_eq hmm65)
              have r72 : 0 ≤ (m65 a0 3) ∧ (m65 a0 3) ≤ 700 := zi_rd hIm65 hc0 zb_9_3
              have e73 : (m65 a0 3) = (m58 a0 3) := (zs_ne hmm65 (Or.inr (by decide)))
              have hM : (36 - 0) * 1 + 0 < (k : Int) := by omega
              exact ih.2 x1 0 m65 hIm65 hFm65 ⟨by omega, by omega⟩ ⟨by omega, by omega⟩ ⟨by omega, by omega⟩ ⟨by omega, by omega⟩ ⟨by omega, by omega⟩ (by omega) hM
            · generalize hmm74 : zu_up m58 a0 4 5 = m74
              have hIm74 := zi_up hmm74 hIm58 hc0 zb_9_4 (by omega) (by omega)
              have hFm74 := zfr_up hmm74 hFm58 hc0 rfl
              have r75 : 0 ≤ (m74 a0 2) ∧ (m74 a0 2) ≤ 700 := zi_rd hIm74 hc0 zb_9_2
              have e76 : (m74 a0 2) = (mh a0 2) := (Eq.trans (zs_ne hmm74 (Or.inr (by decide))) (zs_ne hmm58 (Or.inr (by decide))))
              have r77 : 0 ≤ (m74 a0 6) ∧ (m74 a0 6) ≤ 700 := zi_rd hIm74 hc0 zb_9_6
              have e78 : (m74 a0 6) = (m58 a0 6) := (zs_ne hmm74 (Or.inr (by decide)))
              have r79 : 0 ≤ (m74 a0 4) ∧ (m74 a0 4) ≤ 5 := zi_rd hIm74 hc0 zb_9_4
              have e80 : (m74 a0 4) = 5 := (zs_eq hmm74)
              have r81 : 0 ≤ (m74 a0 3) ∧ (m74 a0 3) ≤ 700 := zi_rd hIm74 hc0 zb_9_3
              have e82 : (m74 a0 3) = (m58 a0 3) := (zs_ne hmm74 (Or.inr (by decide)))
              have hM : (36 - 0) * 1 + 0 < (k : Int) := by omega
              exact ih.2 x1 0 m74 hIm74 hFm74 ⟨by omega, by omega⟩ ⟨by omega, by omega⟩ ⟨by omega, by omega⟩ ⟨by omega, by omega⟩ ⟨by omega, by omega⟩ (by omega) hM
          · have w83 := zu_w32_id (z := (mh a0 3) - (mh a0 6)) (by omega) (by omega)
            refine zw_ite (fun h84 => ?_) (fun h84 => ?_)
            · have w85 := zu_w32_id (z := (mh a0 3) + 1) (by omega) (by omega)
              generalize hmm86 : zu_up mh a0 3 (zu_w32 ((mh a0 3) + 1)) = m86
              have hIm86 := zi_up hmm86 hImh hc0 zb_9_3 (by omega) (by omega)
              have hFm86 := zfr_up hmm86 hFmh hc0 rfl
              have r87 : 0 ≤ (m86 a0 2) ∧ (m86 a0 2) ≤ 700 := zi_rd hIm86 hc0 zb_9_2
              have e88 : (m86 a0 2) = (mh a0 2) := (zs_ne hmm86 (Or.inr (by decide)))
              have r89 : 0 ≤ (m86 a0 6) ∧ (m86 a0 6) ≤ 700 := zi_rd hIm86 hc0 zb_9_6
              have e90 : (m86 a0 6) = (mh a0 6) := (zs_ne hmm86 (Or.inr (by decide)))
              have r91 : 0 ≤ (m86 a0 3) ∧ (m86 a0 3) ≤ 700 := zi_rd hIm86 hc0 zb_9_3
              have e92 : (m86 a0 3) = (zu_w32 ((mh a0 3) + 1)) := (zs_eq hmm86)
              have hM : (700 - (m86 a0 3)) * 1 + 37 < (k : Int) := by omega
              exact ih.1 x1 m86 hIm86 hFm86 ⟨by omega, by omega⟩ ⟨by omega, by omega⟩ ⟨by omega, by omega⟩ hM
            · have b93 : 0 ≤ (mh a0 3) ∧ (mh a0 3) < 700 := by omega
              refine zw_if b93 ?_
              have w94 := zu_w32_id (z := (mh 4 (mh a0 3)) - 97) (by omega) (by omega)
              have w95 := zu_w32_id (z := (zu_w32 ((mh 4 (mh a0 3)) - 97)) + 1) (by omega) (by omega)
              have w96 := zu_w32_id (z := 5 - (zu_w32 ((mh a0 3) - (mh a0 6)))) (by omega) (by omega)
              have w97 := zu_w32_id (z := 5 * (zu_w32 (5 - (zu_w32 ((mh a0 3) - (mh a0 6)))))) (by omega) (by omega)
              have b98 := zu_i32_rg 5 (zu_w32 ((zu_w32 ((mh 4 (mh a0 3)) - 97)) + 1)) (zu_w32 (5 * (zu_w32 (5 - (zu_w32 ((mh a0 3) - (mh a0 6)))))))
              have b99 := zu_i32_rg 4 x1 (zu_i32 5 (zu_w32 ((zu_w32 ((mh 4 (mh a0 3)) - 97)) + 1)) (zu_w32 (5 * (zu_w32 (5 - (zu_w32 ((mh a0 3) - (mh a0 6))))))))
              have w100 := zu_w32_id (z := (mh a0 3) + 1) (by omega) (by omega)
              generalize hmm101 : zu_up mh a0 3 (zu_w32 ((mh a0 3) + 1)) = m101
              have hIm101 := zi_up hmm101 hImh hc0 zb_9_3 (by omega) (by omega)
              have hFm101 := zfr_up hmm101 hFmh hc0 rfl
              have r102 : 0 ≤ (m101 a0 2) ∧ (m101 a0 2) ≤ 700 := zi_rd hIm101 hc0 zb_9_2
              have e103 : (m101 a0 2) = (mh a0 2) := (zs_ne hmm101 (Or.inr (by decide)))
              have r104 : 0 ≤ (m101 a0 6) ∧ (m101 a0 6) ≤ 700 := zi_rd hIm101 hc0 zb_9_6
              have e105 : (m101 a0 6) = (mh a0 6) := (zs_ne hmm101 (Or.inr (by decide)))
              have r106 : 0 ≤ (m101 a0 3) ∧ (m101 a0 3) ≤ 700 := zi_rd hIm101 hc0 zb_9_3
              have e107 : (m101 a0 3) = (zu_w32 ((mh a0 3) + 1)) := (zs_eq hmm101)
              have hM : (700 - (m101 a0 3)) * 1 + 37 < (k : Int) := by omega
              exact ih.1 (zu_i32 4 x1 (zu_i32 5 (zu_w32 ((zu_w32 ((mh 4 (mh a0 3)) - 97)) + 1)) (zu_w32 (5 * (zu_w32 (5 - (zu_w32 ((mh a0 3) - (mh a0 6))))))))) m101 hIm101 hFm101 ⟨by omega, by omega⟩ ⟨by omega, by omega⟩ ⟨by omega, by omega⟩ hM
    · intro x1 x2 mh hImh hFmh hbx1 hbx2 hg2 hg3 hg4 hH0 hM
      refine zw_eq (zu_rega_at (zt_T n) (zm_280 n) (zdp_280 n) _ _ _ _ _ _ (zr_280_129 n _ _ a0 x1 x2 mh)) ?_
      have r108 : 0 ≤ (mh a0 3) ∧ (mh a0 3) ≤ 700 := zi_rd hImh hc0 zb_9_3
      refine zw_ite (fun h109 => ?_) (fun h109 => ?_)
      · exact zw_some ⟨hImh, hFmh, trivial, ⟨by omega, by omega⟩, by omega⟩
      · refine zw_ite (fun h110 => ?_) (fun h110 => ?_)
        · exact zw_some ⟨hImh, hFmh, trivial, ⟨by omega, by omega⟩, by omega⟩
        · have b111 : 0 ≤ x2 ∧ x2 < 33 := by omega
          refine zw_if b111 ?_
          have r112 : (-2147483648) ≤ (mh 46 x2) ∧ (mh 46 x2) ≤ 2147483647 := zi_rd hImh zq_46 (zb_46 _)
          refine zw_ite (fun h113 => ?_) (fun h113 => ?_)
          · have w114 := zu_w32_id (z := x2 + 1) (by omega) (by omega)
            have hM : (36 - (zu_w32 (x2 + 1))) * 1 + 0 < (k : Int) := by omega
            exact ih.2 x1 (zu_w32 (x2 + 1)) mh hImh hFmh ⟨by omega, by omega⟩ ⟨by omega, by omega⟩ ⟨by omega, by omega⟩ ⟨by omega, by omega⟩ ⟨by omega, by omega⟩ (by omega) hM
          · generalize hmm115 : zu_up mh a0 4 1 = m115
            have hIm115 := zi_up hmm115 hImh hc0 zb_9_4 (by omega) (by omega)
            have hFm115 := zfr_up hmm115 hFmh hc0 rfl
            generalize hmm116 : zu_up m115 a0 5 x2 = m116
            have hIm116 := zi_up hmm116 hIm115 hc0 zb_9_5 (by omega) (by omega)
            have hFm116 := zfr_up hmm116 hFm115 hc0 rfl
            have w117 := zu_w32_id (z := x2 + 1) (by omega) (by omega)
            have r118 : 0 ≤ (m116 a0 2) ∧ (m116 a0 2) ≤ 700 := zi_rd hIm116 hc0 zb_9_2
            have e119 : (m116 a0 2) = (mh a0 2) := (Eq.trans (zs_ne hmm116 (Or.inr (by decide))) (zs_ne hmm115 (Or.inr (by decide))))
            have r120 : 0 ≤ (m116 a0 6) ∧ (m116 a0 6) ≤ 700 := zi_rd hIm116 hc0 zb_9_6
            have e121 : (m116 a0 6) = (mh a0 6) := (Eq.trans (zs_ne hmm116 (Or.inr (by decide))) (zs_ne hmm115 (Or.inr (by decide))))
            have r122 : 0 ≤ (m116 a0 4) ∧ (m116 a0 4) ≤ 5 := zi_rd hIm116 hc0 zb_9_4
            have e123 : (m116 a0 4) = 1 := (Eq.trans (zs_ne hmm116 (Or.inr (by decide))) (zs_eq hmm115))
            have r124 : 0 ≤ (m116 a0 3) ∧ (m116 a0 3) ≤ 700 := zi_rd hIm116 hc0 zb_9_3
            have e125 : (m116 a0 3) = (mh a0 3) := (Eq.trans (zs_ne hmm116 (Or.inr (by decide))) (zs_ne hmm115 (Or.inr (by decide))))
            have hM : (36 - (zu_w32 (x2 + 1))) * 1 + 0 < (k : Int) := by omega
            exact ih.2 x1 (zu_w32 (x2 + 1)) m116 hIm116 hFm116 ⟨by omega, by omega⟩ ⟨by omega, by omega⟩ ⟨by omega, by omega⟩ ⟨by omega, by omega⟩ ⟨by omega, by omega⟩ (by omega) hM
set_option maxHeartbeats 4000000 in
theorem zk_280 (n : Nat) {a0 : Int} {m0 : zu_m} (hIm0 : zi_I m0) (hc0 : zcls a0 = 9)   (he0 : 1 ≤ m0 a0 2 ∧ m0 a0 2 ≤ 700) (he1 : 0 ≤ m0 a0 3 ∧ m0 a0 3 ≤ 699) (he2 : 0 ≤ m0 a0 6 ∧ m0 a0 6 ≤ 699)   : zw (zu_call (zt_T n) 280 [(22, a0)] m0) (fun v m => zi_I m ∧ zfr [(9, 4), (9, 5), (9, 6)] m0 m ∧ True ∧ (1 ≤ m a0 4 ∧ m a0 4 ≤ 5) ∧ ((m a0 4) ≠ 4)) := by
  have hFm0 : zfr [(9, 4), (9, 5), (9, 6)] m0 m0 := zfr_rf _ _
  refine zw_eq (zu_call_at (zt_T n) (zm_280 n) (zdp_280 n) _ _ _ _ _ rfl (zr_280_0 n _ _ a0 m0)) ?_
  have hM : (700 - (m0 a0 3)) * 1 + 37 < ((738 : Nat) : Int) := by omega
  exact (zl_280 n (m0 := m0) hc0 738).1 0 m0 hIm0 hFm0 ⟨by omega, by omega⟩ ⟨by omega, by omega⟩ ⟨by omega, by omega⟩ hM
set_option maxHeartbeats 4000000 in
theorem zl_281 (n : Nat) {a0 : Int} {m0 : zu_m} (hc0 : zcls a0 = 9)   : ∀ k : Nat, (∀ (mh : zu_m), zi_I mh → zfr [(9, 4), (9, 5), (9, 6)] m0 mh → (3 ≤ mh a0 4 ∧ mh a0 4 ≤ 3) → (0 ≤ mh a0 5 ∧ mh a0 5 ≤ 10000000) → (700 - (mh a0 3)) * 1 + 0 < (k : Int) → zw (zu_ex (zt_T n) 281 10 [(22, a0)] [] mh) (fun v m => zi_I m ∧ zfr [(9, 4), (9, 5), (9, 6)] m0 m ∧ True ∧ (3 ≤ m a0 4 ∧ m a0 4 ≤ 3) ∧ (0 ≤ m a0 5 ∧ m a0 5 ≤ 10000000))) := by
  intro k
  induction k with
  | zero => exact fun mh hImh hFmh hg0 hg1 hM => by have zq0 := zi_rd hImh hc0 zb_9_3; exfalso; omega
  | succ k ih =>
    intro mh hImh hFmh hg0 hg1 hM
    refine zw_eq (zu_rega_at (zt_T n) (zm_281 n) (zdp_281 n) _ _ _ _ _ _ (zr_281_10 n _ _ a0 mh)) ?_
    have r1 : 0 ≤ (mh a0 3) ∧ (mh a0 3) ≤ 700 := zi_rd hImh hc0 zb_9_3
    have r2 : 0 ≤ (mh a0 2) ∧ (mh a0 2) ≤ 700 := zi_rd hImh hc0 zb_9_2
    refine zw_ite (fun h3 => ?_) (fun h3 => ?_)
    · exact zw_some ⟨hImh, hFmh, trivial, ⟨by omega, by omega⟩, ⟨by omega, by omega⟩⟩
    · have b4 : 0 ≤ (mh a0 3) ∧ (mh a0 3) < 700 := by omega
      refine zw_if b4 ?_
      have r5 : (-2147483648) ≤ (mh 4 (mh a0 3)) ∧ (mh 4 (mh a0 3)) ≤ 2147483647 := zi_rd hImh zq_4 (zb_29 _)
      refine zw_ite (fun h6 => ?_) (fun h6 => ?_)
      · exact zw_some ⟨hImh, hFmh, trivial, ⟨by omega, by omega⟩, ⟨by omega, by omega⟩⟩
      · have b7 : 0 ≤ (mh a0 3) ∧ (mh a0 3) < 700 := by omega
        refine zw_if b7 ?_
        refine zw_ite (fun h8 => ?_) (fun h8 => ?_)
        · exact zw_some ⟨hImh, hFmh, trivial, ⟨by omega, by omega⟩, ⟨by omega, by omega⟩⟩
        · refine zw_ite (fun h9 => ?_) (fun h9 => ?_)
          · have w10 := zu_w32_id (z := (mh a0 5) * 10) (by omega) (by omega)
            have b11 : 0 ≤ (mh a0 3) ∧ (mh a0 3) < 700 := by omega
            refine zw_if b11 ?_
            have w12 := zu_w32_id (z := (zu_w32 ((mh a0 5) * 10)) + (mh 4 (mh a0 3))) (by omega) (by omega)
            have w13 := zu_w32_id (z := (zu_w32 ((zu_w32 ((mh a0 5) * 10)) + (mh 4 (mh a0 3)))) - 48) (by omega) (by omega)
            generalize hmm14 : zu_up mh a0 5 (zu_w32 ((zu_w32 ((zu_w32 ((mh a0 5) * 10)) + (mh 4 (mh a0 3)))) - 48)) = m14
            have hIm14 := zi_up hmm14 hImh hc0 zb_9_5 (by omega) (by omega)
            have hFm14 := zfr_up hmm14 hFmh hc0 rfl
            have r15 : 0 ≤ (m14 a0 3) ∧ (m14 a0 3) ≤ 700 := zi_rd hIm14 hc0 zb_9_3
            have e16 : (m14 a0 3) = (mh a0 3) := (zs_ne hmm14 (Or.inr (by decide)))
            have w17 := zu_w32_id (z := (m14 a0 3) + 1) (by omega) (by omega)
            generalize hmm18 : zu_up m14 a0 3 (zu_w32 ((m14 a0 3) + 1)) = m18
            have hIm18 := zi_up hmm18 hIm14 hc0 zb_9_3 (by omega) (by omega)
            have hFm18 := zfr_up hmm18 hFm14 hc0 rfl
            have r19 : 0 ≤ (m18 a0 4) ∧ (m18 a0 4) ≤ 5 := zi_rd hIm18 hc0 zb_9_4
            have e20 : (m18 a0 4) = (mh a0 4) := (Eq.trans (zs_ne hmm18 (Or.inr (by decide))) (zs_ne hmm14 (Or.inr (by decide))))
            have r21 : (-2147483648) ≤ (m18 a0 5) ∧ (m18 a0 5) ≤ 2147483647 := zi_rd hIm18 hc0 zb_9_5
            have e22 : (m18 a0 5) = (zu_w32 ((zu_w32 ((zu_w32 ((mh a0 5) * 10)) + (mh 4 (mh a0 3)))) - 48)) := (Eq.trans (zs_ne hmm18 (Or.inr (by decide))) (zs_eq hmm14))
            have r23 : 0 ≤ (m18 a0 3) ∧ (m18 a0 3) ≤ 700 := zi_rd hIm18 hc0 zb_9_3
            have e24 : (m18 a0 3) = (zu_w32 ((m14 a0 3) + 1)) := (zs_eq hmm18)
            have hM : (700 - (m18 a0 3)) * 1 + 0 < (k : Int) := by omega
            exact ih  m18 hIm18 hFm18 ⟨by omega, by omega⟩ ⟨by omega, by omega⟩ hM
          · generalize hmm25 : zu_up mh a0 5 1000000 = m25
            have hIm25 := zi_up hmm25 hImh hc0 zb_9_5 (by omega) (by omega)
            have hFm25 := zfr_up hmm25 hFmh hc0 rfl
            have r26 : 0 ≤ (m25 a0 3) ∧ (m25 a0 3) ≤ 700 := zi_rd hIm25 hc0 zb_9_3
            have e27 : (m25 a0 3) = (mh a0 3) := (zs_ne hmm25 (Or.inr (by decide)))
            have w28 := zu_w32_id (z := (m25 a0 3) + 1) (by omega) (by omega)
            generalize hmm29 : zu_up m25 a0 3 (zu_w32 ((m25 a0 3) + 1)) = m29
            have hIm29 := zi_up hmm29 hIm25 hc0 zb_9_3 (by omega) (by omega)
            have hFm29 := zfr_up hmm29 hFm25 hc0 rfl
            have r30 : 0 ≤ (m29 a0 4) ∧ (m29 a0 4) ≤ 5 := zi_rd hIm29 hc0 zb_9_4
            have e31 : (m29 a0 4) = (mh a0 4) := (Eq.trans (zs_ne hmm29 (Or.inr (by decide))) (zs_ne hmm25 (Or.inr (by decide))))
            have r32 : (-2147483648) ≤ (m29 a0 5) ∧ (m29 a0 5) ≤ 2147483647 := zi_rd hIm29 hc0 zb_9_5
            have e33 : (m29 a0 5) = 1000000 := (Eq.trans (zs_ne hmm29 (Or.inr (by decide))) (zs_eq hmm25))
            have r34 : 0 ≤ (m29 a0 3) ∧ (m29 a0 3) ≤ 700 := zi_rd hIm29 hc0 zb_9_3
            have e35 : (m29 a0 3) = (zu_w32 ((m25 a0 3) + 1)) := (zs_eq hmm29)
            have hM : (700 - (m29 a0 3)) * 1 + 0 < (k : Int) := by omega
            exact ih  m29 hIm29 hFm29 ⟨by omega, by omega⟩ ⟨by omega, by omega⟩ hM
set_option maxHeartbeats 4000000 in
theorem zk_281 (n : Nat) {a0 : Int} {m0 : zu_m} (hIm0 : zi_I m0) (hc0 : zcls a0 = 9)      : zw (zu_call (zt_T n) 281 [(22, a0)] m0) (fun v m => zi_I m ∧ zfr [(9, 4), (9, 5), (9, 6)] m0 m ∧ True ∧ (3 ≤ m a0 4 ∧ m a0 4 ≤ 3) ∧ (0 ≤ m a0 5 ∧ m a0 5 ≤ 10000000)) := by
  have hFm0 : zfr [(9, 4), (9, 5), (9, 6)] m0 m0 := zfr_rf _ _
  refine zw_eq (zu_call_at (zt_T n) (zm_281 n) (zdp_281 n) _ _ _ _ _ rfl (zr_281_0 n _ _ a0 m0)) ?_
  generalize hmm36 : zu_up m0 a0 4 3 = m36
  have hIm36 := zi_up hmm36 hIm0 hc0 zb_9_4 (by omega) (by omega)
  have hFm36 := zfr_up hmm36 hFm0 hc0 rfl
  generalize hmm37 : zu_up m36 a0 5 0 = m37
  have hIm37 := zi_up hmm37 hIm36 hc0 zb_9_5 (by omega) (by omega)
  have hFm37 := zfr_up hmm37 hFm36 hc0 rfl
  have r38 : 0 ≤ (m37 a0 4) ∧ (m37 a0 4) ≤ 5 := zi_rd hIm37 hc0 zb_9_4
  have e39 : (m37 a0 4) = 3 := (Eq.trans (zs_ne hmm37 (Or.inr (by decide))) (zs_eq hmm36))
  have r40 : (-2147483648) ≤ (m37 a0 5) ∧ (m37 a0 5) ≤ 2147483647 := zi_rd hIm37 hc0 zb_9_5
  have e41 : (m37 a0 5) = 0 := (zs_eq hmm37)
  have r42 : 0 ≤ (m37 a0 3) ∧ (m37 a0 3) ≤ 700 := zi_rd hIm37 hc0 zb_9_3
  have hM : (700 - (m37 a0 3)) * 1 + 0 < ((701 : Nat) : Int) := by omega
  exact (zl_281 n (m0 := m0) hc0 701)  m37 hIm37 hFm37 ⟨by omega, by omega⟩ ⟨by omega, by omega⟩ hM
set_option maxHeartbeats 4000000 in
theorem zk_282 (n : Nat) {a0 : Int} {m0 : zu_m} (hIm0 : zi_I m0) (hc0 : zcls a0 = 9)   (he0 : 1 ≤ m0 a0 2 ∧ m0 a0 2 ≤ 700) (he1 : 1 ≤ m0 a0 3 ∧ m0 a0 3 ≤ 700) (he2 : (-1) ≤ m0 a0 5 ∧ m0 a0 5 ≤ 12)   : zw (zu_call (zt_T n) 282 [(22, a0)] m0) (fun v m => zi_I m ∧ zfr [(9, 4), (9, 6)] m0 m ∧ True ∧ (1 ≤ m a0 3 ∧ m a0 3 ≤ 700) ∧ ((-1) ≤ m a0 5 ∧ m a0 5 ≤ 12) ∧ ((m a0 5) = (m0 a0 5) ∨ (8 ≤ (m a0 5) ∧ (m a0 5) ≤ 11))) := by
  have hFm0 : zfr [(9, 4), (9, 6)] m0 m0 := zfr_rf _ _
  refine zw_eq (zu_call_at (zt_T n) (zm_282 n) (zdp_282 n) _ _ _ _ _ rfl (zr_282_0 n _ _ a0 m0)) ?_
  refine zw_ite (fun h1 => ?_) (fun h1 => ?_)
  · refine zw_ite (fun h2 => ?_) (fun h2 => ?_)
    · refine zw_ite (fun h3 => ?_) (fun h3 => ?_)
      · refine zw_ite (fun h4 => ?_) (fun h4 => ?_)
        · exact zw_some ⟨hIm0, hFm0, trivial, ⟨by omega, by omega⟩, ⟨by omega, by omega⟩, by omega⟩
        · refine zw_ite (fun h5 => ?_) (fun h5 => ?_)
          · exact zw_some ⟨hIm0, hFm0, trivial, ⟨by omega, by omega⟩, ⟨by omega, by omega⟩, by omega⟩
          · exfalso; omega
      · exfalso; omega
    · refine zw_ite (fun h6 => ?_) (fun h6 => ?_)
      · refine zw_ite (fun h7 => ?_) (fun h7 => ?_)
        · exfalso; omega
        · refine zw_ite (fun h8 => ?_) (fun h8 => ?_)
          · refine zw_ite (fun h9 => ?_) (fun h9 => ?_)
            · exact zw_some ⟨hIm0, hFm0, trivial, ⟨by omega, by omega⟩, ⟨by omega, by omega⟩, by omega⟩
            · exfalso; omega
          · exfalso; omega
      · exfalso; omega
  · have b10 : 0 ≤ (m0 a0 3) ∧ (m0 a0 3) < 700 := by omega
    refine zw_if b10 ?_
    have r11 : (-2147483648) ≤ (m0 4 (m0 a0 3)) ∧ (m0 4 (m0 a0 3)) ≤ 2147483647 := zi_rd hIm0 zq_4 (zb_29 _)
    refine zw_ite (fun h12 => ?_) (fun h12 => ?_)
    · refine zw_ite (fun h13 => ?_) (fun h13 => ?_)
      · refine zw_ite (fun h14 => ?_) (fun h14 => ?_)
        · exact zw_some ⟨hIm0, hFm0, trivial, ⟨by omega, by omega⟩, ⟨by omega, by omega⟩, by omega⟩
        · refine zw_ite (fun h15 => ?_) (fun h15 => ?_)
          · exact zw_some ⟨hIm0, hFm0, trivial, ⟨by omega, by omega⟩, ⟨by omega, by omega⟩, by omega⟩
          · generalize hmm16 : zu_up m0 a0 5 11 = m16
            have hIm16 := zi_up hmm16 hIm0 hc0 zb_9_5 (by omega) (by omega)
            have hFm16 := zfr_up hmm16 hFm0 hc0 rfl
            have r17 : 0 ≤ (m16 a0 3) ∧ (m16 a0 3) ≤ 700 := zi_rd hIm16 hc0 zb_9_3
            have e18 : (m16 a0 3) = (m0 a0 3) := (zs_ne hmm16 (Or.inr (by decide)))
            have w19 := zu_w32_id (z := (m16 a0 3) + 1) (by omega) (by omega)
            generalize hmm20 : zu_up m16 a0 3 (zu_w32 ((m16 a0 3) + 1)) = m20
            have hIm20 := zi_up hmm20 hIm16 hc0 zb_9_3 (by omega) (by omega)
            have hFm20 := zfr_up hmm20 hFm16 hc0 rfl
            have r21 : (-2147483648) ≤ (m20 a0 5) ∧ (m20 a0 5) ≤ 2147483647 := zi_rd hIm20 hc0 zb_9_5
            have e22 : (m20 a0 5) = 11 := (Eq.trans (zs_ne hmm20 (Or.inr (by decide))) (zs_eq hmm16))
            have r23 : 0 ≤ (m20 a0 3) ∧ (m20 a0 3) ≤ 700 := zi_rd hIm20 hc0 zb_9_3
            have e24 : (m20 a0 3) = (zu_w32 ((m16 a0 3) + 1)) := (zs_eq hmm20)
            exact zw_some ⟨hIm20, hFm20, trivial, ⟨by omega, by omega⟩, ⟨by omega, by omega⟩, by omega⟩
      · exfalso; omega
    · refine zw_ite (fun h25 => ?_) (fun h25 => ?_)
      · refine zw_ite (fun h26 => ?_) (fun h26 => ?_)
        · exfalso; omega
        · refine zw_ite (fun h27 => ?_) (fun h27 => ?_)
          · refine zw_ite (fun h28 => ?_) (fun h28 => ?_)
            · exact zw_some ⟨hIm0, hFm0, trivial, ⟨by omega, by omega⟩, ⟨by omega, by omega⟩, by omega⟩
            · exfalso; omega
          · generalize hmm29 : zu_up m0 a0 5 10 = m29
            have hIm29 := zi_up hmm29 hIm0 hc0 zb_9_5 (by omega) (by omega)
            have hFm29 := zfr_up hmm29 hFm0 hc0 rfl
            have r30 : 0 ≤ (m29 a0 3) ∧ (m29 a0 3) ≤ 700 := zi_rd hIm29 hc0 zb_9_3
            have e31 : (m29 a0 3) = (m0 a0 3) := (zs_ne hmm29 (Or.inr (by decide)))
            have w32 := zu_w32_id (z := (m29 a0 3) + 1) (by omega) (by omega)
            generalize hmm33 : zu_up m29 a0 3 (zu_w32 ((m29 a0 3) + 1)) = m33
            have hIm33 := zi_up hmm33 hIm29 hc0 zb_9_3 (by omega) (by omega)
            have hFm33 := zfr_up hmm33 hFm29 hc0 rfl
            have r34 : (-2147483648) ≤ (m33 a0 5) ∧ (m33 a0 5) ≤ 2147483647 := zi_rd hIm33 hc0 zb_9_5
            have e35 : (m33 a0 5) = 10 := (Eq.trans (zs_ne hmm33 (Or.inr (by decide))) (zs_eq hmm29))
            have r36 : 0 ≤ (m33 a0 3) ∧ (m33 a0 3) ≤ 700 := zi_rd hIm33 hc0 zb_9_3
            have e37 : (m33 a0 3) = (zu_w32 ((m29 a0 3) + 1)) := (zs_eq hmm33)
            exact zw_some ⟨hIm33, hFm33, trivial, ⟨by omega, by omega⟩, ⟨by omega, by omega⟩, by omega⟩
      · generalize hmm38 : zu_up m0 a0 5 8 = m38
        have hIm38 := zi_up hmm38 hIm0 hc0 zb_9_5 (by omega) (by omega)
        have hFm38 := zfr_up hmm38 hFm0 hc0 rfl
        have r39 : 0 ≤ (m38 a0 3) ∧ (m38 a0 3) ≤ 700 := zi_rd hIm38 hc0 zb_9_3
        have e40 : (m38 a0 3) = (m0 a0 3) := (zs_ne hmm38 (Or.inr (by decide)))
        have w41 := zu_w32_id (z := (m38 a0 3) + 1) (by omega) (by omega)
        generalize hmm42 : zu_up m38 a0 3 (zu_w32 ((m38 a0 3) + 1)) = m42
        have hIm42 := zi_up hmm42 hIm38 hc0 zb_9_3 (by omega) (by omega)
        have hFm42 := zfr_up hmm42 hFm38 hc0 rfl
        have r43 : (-2147483648) ≤ (m42 a0 5) ∧ (m42 a0 5) ≤ 2147483647 := zi_rd hIm42 hc0 zb_9_5
        have e44 : (m42 a0 5) = 8 := (Eq.trans (zs_ne hmm42 (Or.inr (by decide))) (zs_eq hmm38))
        have r45 : 0 ≤ (m42 a0 3) ∧ (m42 a0 3) ≤ 700 := zi_rd hIm42 hc0 zb_9_3
        have e46 : (m42 a0 3) = (zu_w32 ((m38 a0 3) + 1)) := (zs_eq hmm42)
        exact zw_some ⟨hIm42, hFm42, trivial, ⟨by omega, by omega⟩, ⟨by omega, by omega⟩, by omega⟩
set_option maxHeartbeats 4000000 in
theorem zk_283 (n : Nat) {a0 : Int} {m0 : zu_m} (hIm0 : zi_I m0)  (ha0 : (-2147483648) ≤ a0 ∧ a0 ≤ 2147483647)     : zw (zu_call (zt_T n) 283 [(0, a0)] m0) (fun v m => zi_I m ∧ zfr [] m0 m ∧ ((-1) ≤ v ∧ v ≤ 12)) := by
  have hFm0 : zfr [] m0 m0 := zfr_rf _ _
  refine zw_eq (zu_call_at (zt_T n) (zm_283 n) (zdp_283 n) _ _ _ _ _ rfl (zr_283_0 n _ _ a0 m0)) ?_
  refine zw_ite (fun h1 => ?_) (fun h1 => ?_)
  · exact zw_some ⟨hIm0, hFm0, ⟨by omega, by omega⟩⟩
  · refine zw_ite (fun h2 => ?_) (fun h2 => ?_)
    · exact zw_some ⟨hIm0, hFm0, ⟨by omega, by omega⟩⟩
    · refine zw_ite (fun h3 => ?_) (fun h3 => ?_)
      · exact zw_some ⟨hIm0, hFm0, ⟨by omega, by omega⟩⟩
      · refine zw_ite (fun h4 => ?_) (fun h4 => ?_)
        · exact zw_some ⟨hIm0, hFm0, ⟨by omega, by omega⟩⟩
        · refine zw_ite (fun h5 => ?_) (fun h5 => ?_)
          · exact zw_some ⟨hIm0, hFm0, ⟨by omega, by omega⟩⟩
          · refine zw_ite (fun h6 => ?_) (fun h6 => ?_)
            · exact zw_some ⟨hIm0, hFm0, ⟨by omega, by omega⟩⟩
            · refine zw_ite (fun h7 => ?_) (fun h7 => ?_)
              · exact zw_some ⟨hIm0, hFm0, ⟨by omega, by omega⟩⟩
              · refine zw_ite (fun h8 => ?_) (fun h8 => ?_)
                · exact zw_some ⟨hIm0, hFm0, ⟨by omega, by omega⟩⟩
                · refine zw_ite (fun h9 => ?_) (fun h9 => ?_)
                  · exact zw_some ⟨hIm0, hFm0, ⟨by omega, by omega⟩⟩
                  · refine zw_ite (fun h10 => ?_) (fun h10 => ?_)
                    · exact zw_some ⟨hIm0, hFm0, ⟨by omega, by omega⟩⟩
                    · refine zw_ite (fun h11 => ?_) (fun h11 => ?_)
                      · exact zw_some ⟨hIm0, hFm0, ⟨by omega, by omega⟩⟩
                      · refine zw_ite (fun h12 => ?_) (fun h12 => ?_)
                        · exact zw_some ⟨hIm0, hFm0, ⟨by omega, by omega⟩⟩
                        · refine zw_ite (fun h13 => ?_) (fun h13 => ?_)
                          · exact zw_some ⟨hIm0, hFm0, ⟨by omega, by omega⟩⟩
                          · refine zw_ite (fun h14 => ?_) (fun h14 => ?_)
                            · exact zw_some ⟨hIm0, hFm0, ⟨by omega, by omega⟩⟩
                            · refine zw_ite (fun h15 => ?_) (fun h15 => ?_)
                              · exact zw_some ⟨hIm0, hFm0, ⟨by omega, by omega⟩⟩
                              · refine zw_ite (fun h16 => ?_) (fun h16 => ?_)
                                · exact zw_some ⟨hIm0, hFm0, ⟨by omega, by omega⟩⟩
                                · refine zw_ite (fun h17 => ?_) (fun h17 => ?_)
                                  · exact zw_some ⟨hIm0, hFm0, ⟨by omega, by omega⟩⟩
                                  · refine zw_ite (fun h18 => ?_) (fun h18 => ?_)
                                    · exact zw_some ⟨hIm0, hFm0, ⟨by omega, by omega⟩⟩
                                    · refine zw_ite (fun h19 => ?_) (fun h19 => ?_)
                                      · exact zw_some ⟨hIm0, hFm0, ⟨by omega, by omega⟩⟩
                                      · refine zw_ite (fun h20 => ?_) (fun h20 => ?_)
                                        · exact zw_some ⟨hIm0, hFm0, ⟨by omega, by omega⟩⟩
                                        · refine zw_ite (fun h21 => ?_) (fun h21 => ?_)
                                          · exact zw_some ⟨hIm0, hFm0, ⟨by omega, by omega⟩⟩
                                          · refine zw_ite (fun h22 => ?_) (fun h22 => ?_)
                                            · exact zw_some ⟨hIm0, hFm0, ⟨by omega, by omega⟩⟩
                                            · refine zw_ite (fun h23 => ?_) (fun h23 => ?_)
                                              · exact zw_some ⟨hIm0, hFm0, ⟨by omega, by omega⟩⟩
                                              · exact zw_some ⟨hIm0, hFm0, ⟨by omega, by omega⟩⟩
set_option maxHeartbeats 4000000 in
theorem zl_288 (n : Nat) {a0 a1 a2 a3 : Int} {m0 : zu_m} (hc0 : zcls a0 = 24)   : ∀ k : Nat, (∀ (x4 : Int) (mh : zu_m), zi_I mh → zfr [(86, 0), (87, 0), (88, 0), (89, 0)] m0 mh → (1 ≤ a1 ∧ a1 ≤ 2) → (0 ≤ a2 ∧ a2 ≤ 47) → (0 ≤ a3 ∧ a3 ≤ 47) → (0 ≤ x4 ∧ x4 ≤ 48) → (48 - x4) * 1 + 24 < (k : Int) → zw (zu_ex (zt_T n) 288 3 [(33, a0), (0, a1), (0, a2), (0, a3), (0, x4), (2, 0), (2, 0)] [] mh) (fun v m => zi_I m ∧ zfr [(86, 0), (87, 0), (88, 0), (89, 0)] m0 m ∧ True)) ∧ (∀ (x4 : Int) (mh : zu_m), zi_I mh → zfr [(86, 0), (87, 0), (88, 0), (89, 0)] m0 mh → (1 ≤ a1 ∧ a1 ≤ 2) → (0 ≤ a2 ∧ a2 ≤ 47) → (0 ≤ a3 ∧ a3 ≤ 47) → (0 ≤ x4 ∧ x4 ≤ 4) → (4 - x4) * 1 + 19 < (k : Int) → zw (zu_ex (zt_T n) 288 32 [(33, a0), (0, a1), (0, a2), (0, a3), (0, x4), (2, 0), (2, 0)] [] mh) (fun v m => zi_I m ∧ zfr [(86, 0), (87, 0), (88, 0), (89, 0)] m0 m ∧ True)) ∧ (∀ (x4 x5 : Int) (mh : zu_m), zi_I mh → zfr [(86, 0), (87, 0), (88, 0), (89, 0)] m0 mh → (1 ≤ a1 ∧ a1 ≤ 2) → (0 ≤ a2 ∧ a2 ≤ 47) → (0 ≤ a3 ∧ a3 ≤ 47) → (1 ≤ x4 ∧ x4 ≤ 18) → (0 ≤ x5 ∧ x5 ≤ 18) → (18 - x5) * 1 + 0 < (k : Int) → zw (zu_ex (zt_T n) 288 84 [(33, a0), (0, a1), (0, a2), (0, a3), (0, x4), (0, x5), (2, 0)] [] mh) (fun v m => zi_I m ∧ zfr [(86, 0), (87, 0), (88, 0), (89, 0)] m0 m ∧ True)) := by
  intro k
  induction k with
  | zero => exact ⟨fun x4 mh hImh hFmh hba1 hba2 hba3 hbx4 hM => by exfalso; omega, fun x4 mh hImh hFmh hba1 hba2 hba3 hbx4 hM => by exfalso; omega, fun x4 x5 mh hImh hFmh hba1 hba2 hba3 hbx4 hbx5 hM => by exfalso; omega⟩
  | succ k ih =>
    refine ⟨?_, ?_, ?_⟩
    · intro x4 mh hImh hFmh hba1 hba2 hba3 hbx4 hM
      refine zw_eq (zu_rega_at (zt_T n) (zm_288 n) (zdp_288 n) _ _ _ _ _ _ (zr_288_3 n _ _ a0 a1 a2 a3 x4 mh)) ?_
      have r1 : 1 ≤ (mh 50 2) ∧ (mh 50 2) ≤ 48 := zi_rd hImh zq_50 zb_11_2
      refine zw_ite (fun h2 => ?_) (fun h2 => ?_)
      · have hM : (4 - 0) * 1 + 19 < (k : Int) := by omega
        exact ih.2.1 0 mh hImh hFmh ⟨by omega, by omega⟩ ⟨by omega, by omega⟩ ⟨by omega, by omega⟩ ⟨by omega, by omega⟩ hM
      · have b3 : 0 ≤ x4 ∧ x4 < 48 := by omega
        refine zw_if b3 ?_
        generalize hmm4 : zu_up mh 157 x4 0 = m4
        have hIm4 := zi_up hmm4 hImh zq_157 (zb_88 _) (by omega) (by omega)
        have hFm4 := zfr_up hmm4 hFmh zq_157 rfl
        have w5 := zu_w32_id (z := x4 + 1) (by omega) (by omega)
        have hM : (48 - (zu_w32 (x4 + 1))) * 1 + 24 < (k : Int) := by omega
        exact ih.1 (zu_w32 (x4 + 1)) m4 hIm4 hFm4 ⟨by omega, by omega⟩ ⟨by omega, by omega⟩ ⟨by omega, by omega⟩ ⟨by omega, by omega⟩ hM
    · intro x4 mh hImh hFmh hba1 hba2 hba3 hbx4 hM
      refine zw_eq (zu_rega_at (zt_T n) (zm_288 n) (zdp_288 n) _ _ _ _ _ _ (zr_288_32 n _ _ a0 a1 a2 a3 x4 mh)) ?_
      have r6 : 0 ≤ (mh 89 4) ∧ (mh 89 4) ≤ 4 := zi_rd hImh zq_89 zb_16_4
      refine zw_ite (fun h7 => ?_) (fun h7 => ?_)
      · have r8 : 0 ≤ (mh 89 2) ∧ (mh 89 2) ≤ 16 := zi_rd hImh zq_89 zb_16_2
        have w9 := zu_w32_id (z := (mh 89 2) + a1) (by omega) (by omega)
        have hM : (18 - 0) * 1 + 0 < (k : Int) := by omega
        exact ih.2.2 (zu_w32 ((mh 89 2) + a1)) 0 mh hImh hFmh ⟨by omega, by omega⟩ ⟨by omega, by omega⟩ ⟨by omega, by omega⟩ ⟨by omega, by omega⟩ ⟨by omega, by omega⟩ hM
      · have b10 : 0 ≤ x4 ∧ x4 < 4 := by omega
        refine zw_if b10 ?_
        have r11 : (-2147483648) ≤ (mh ((89 + 2) + 20 + x4) 6) ∧ (mh ((89 + 2) + 20 + x4) 6) ≤ 2147483647 := zi_rd hImh (zc_66_e (zc_16_3 zq_89) b10) zb_18_6
        have b12 : 0 ≤ x4 ∧ x4 < 4 := by omega
        refine zw_if b12 ?_
        generalize hmm13 : zu_up mh 158 x4 (mh ((89 + 2) + 20 + x4) 6) = m13
        have hIm13 := zi_up hmm13 hImh zq_158 (zb_89 _) (by omega) (by omega)
        have hFm13 := zfr_up hmm13 hFmh zq_158 rfl
        have w14 := zu_w32_id (z := x4 + 1) (by omega) (by omega)
        have hM : (4 - (zu_w32 (x4 + 1))) * 1 + 19 < (k : Int) := by omega
        exact ih.2.1 (zu_w32 (x4 + 1)) m13 hIm13 hFm13 ⟨by omega, by omega⟩ ⟨by omega, by omega⟩ ⟨by omega, by omega⟩ ⟨by omega, by omega⟩ hM
    · intro x4 x5 mh hImh hFmh hba1 hba2 hba3 hbx4 hbx5 hM
      refine zw_eq (zu_rega_at (zt_T n) (zm_288 n) (zdp_288 n) _ _ _ _ _ _ (zr_288_84 n _ _ a0 a1 a2 a3 x4 x5 mh)) ?_
      refine zw_ite (fun h15 => ?_) (fun h15 => ?_)
      · exact zw_some ⟨hImh, hFmh, trivial⟩
      · refine zw_ite (fun h16 => ?_) (fun h16 => ?_)
        · exfalso; omega
        · have r17 : 0 ≤ (mh 89 2) ∧ (mh 89 2) ≤ 16 := zi_rd hImh zq_89 zb_16_2
          refine zw_ite (fun h18 => ?_) (fun h18 => ?_)
          · refine zw_ite (fun h19 => ?_) (fun h19 => ?_)
            · refine zw_ite (fun h20 => ?_) (fun h20 => ?_)
              · have b21 : 0 ≤ x5 ∧ x5 < 18 := by omega
                refine zw_if b21 ?_
                generalize hmm22 : zu_up mh 155 x5 a3 = m22
                have hIm22 := zi_up hmm22 hImh zq_155 (zb_86 _) (by omega) (by omega)
                have hFm22 := zfr_up hmm22 hFmh zq_155 rfl
                refine zw_ite (fun h23 => ?_) (fun h23 => ?_)
                · refine zw_b (by omega) ?_
                  have b24 : 0 ≤ x5 ∧ x5 < 18 := by omega
                  refine zw_if b24 ?_
                  generalize hmm25 : zu_up m22 156 x5 0 = m25
                  have hIm25 := zi_up hmm25 hIm22 zq_156 (zb_87 _) (by omega) (by omega)
                  have hFm25 := zfr_up hmm25 hFm22 zq_156 rfl
                  have b26 : 0 ≤ x5 ∧ x5 < 18 := by omega
                  refine zw_if b26 ?_
                  have r27 : 0 ≤ (m25 156 x5) ∧ (m25 156 x5) ≤ 1 := zi_rd hIm25 zq_156 (zb_87 _)
                  have e28 : (m25 156 x5) = 0 := (zs_eq hmm25)
                  refine zw_ite (fun h29 => ?_) (fun h29 => ?_)
                  · exfalso; omega
                  · have b30 : 0 ≤ x5 ∧ x5 < 18 := by omega
                    refine zw_if b30 ?_
                    have r31 : 0 ≤ (m25 155 x5) ∧ (m25 155 x5) ≤ 47 := zi_rd hIm25 zq_155 (zb_86 _)
                    have e32 : (m25 155 x5) = a3 := (Eq.trans (zs_ne hmm25 (Or.inl (zc_ne zq_155 zq_156 (by decide)))) (zs_eq hmm22))
                    have b33 : 0 ≤ (m25 155 x5) ∧ (m25 155 x5) < 48 := by omega
                    refine zw_if b33 ?_
                    have r34 : (-2147483648) ≤ (m25 157 (m25 155 x5)) ∧ (m25 157 (m25 155 x5)) ≤ 2147483647 := zi_rd hIm25 zq_157 (zb_88 _)
                    have w35 := zu_w32_rg ((m25 157 (m25 155 x5)) + 1)
                    have b36 : 0 ≤ (m25 155 x5) ∧ (m25 155 x5) < 48 := by omega
                    refine zw_if b36 ?_
                    generalize hmm37 : zu_up m25 157 (m25 155 x5) (zu_w32 ((m25 157 (m25 155 x5)) + 1)) = m37
                    have hIm37 := zi_up hmm37 hIm25 zq_157 (zb_88 _) (by omega) (by omega)
                    have hFm37 := zfr_up hmm37 hFm25 zq_157 rfl
                    have w38 := zu_w32_id (z := x5 + 1) (by omega) (by omega)
                    have hM : (18 - (zu_w32 (x5 + 1))) * 1 + 0 < (k : Int) := by omega
                    exact zw_le (zu_forget (zu_lr_same (zu_lr_same (zu_lr_same (zu_lr_same (zu_lr_same (zu_lr_same (zu_lr_drop zu_lr_nil)))))))) (ih.2.2 x4 (zu_w32 (x5 + 1)) m37 hIm37 hFm37 ⟨by omega, by omega⟩ ⟨by omega, by omega⟩ ⟨by omega, by omega⟩ ⟨by omega, by omega⟩ ⟨by omega, by omega⟩ hM)
                · exfalso; omega
              · have b39 : 0 ≤ x5 ∧ x5 < 18 := by omega
                refine zw_if b39 ?_
                generalize hmm40 : zu_up mh 155 x5 a2 = m40
                have hIm40 := zi_up hmm40 hImh zq_155 (zb_86 _) (by omega) (by omega)
                have hFm40 := zfr_up hmm40 hFmh zq_155 rfl
                refine zw_ite (fun h41 => ?_) (fun h41 => ?_)
                · refine zw_b (by omega) ?_
                  have b42 : 0 ≤ x5 ∧ x5 < 18 := by omega
                  refine zw_if b42 ?_
                  generalize hmm43 : zu_up m40 156 x5 0 = m43
                  have hIm43 := zi_up hmm43 hIm40 zq_156 (zb_87 _) (by omega) (by omega)
                  have hFm43 := zfr_up hmm43 hFm40 zq_156 rfl
                  have b44 : 0 ≤ x5 ∧ x5 < 18 := by omega
                  refine zw_if b44 ?_
                  have r45 : 0 ≤ (m43 156 x5) ∧ (m43 156 x5) ≤ 1 := zi_rd hIm43 zq_156 (zb_87 _)
                  have e46 : (m43 156 x5) = 0 := (zs_eq hmm43)
                  refine zw_ite (fun h47 => ?_) (fun h47 => ?_)
                  · exfalso; omega
                  · have b48 : 0 ≤ x5 ∧ x5 < 18 := by omega
                    refine zw_if b48 ?_
                    have r49 : 0 ≤ (m43 155 x5) ∧ (m43 155 x5) ≤ 47 := zi_rd hIm43 zq_155 (zb_86 _)
                    have e50 : (m43 155 x5) = a2 := (Eq.trans (zs_ne hmm43 (Or.inl (zc_ne zq_155 zq_156 (by decide)))) (zs_eq hmm40))
                    have b51 : 0 ≤ (m43 155 x5) ∧ (m43 155 x5) < 48 := by omega
                    refine zw_if b51 ?_
                    have r52 : (-2147483648) ≤ (m43 157 (m43 155 x5)) ∧ (m43 157 (m43 155 x5)) ≤ 2147483647 := zi_rd hIm43 zq_157 (zb_88 _)
                    have w53 := zu_w32_rg ((m43 157 (m43 155 x5)) + 1)
                    have b54 : 0 ≤ (m43 155 x5) ∧ (m43 155 x5) < 48 := by omega
                    refine zw_if b54 ?_
                    generalize hmm55 : zu_up m43 157 (m43 155 x5) (zu_w32 ((m43 157 (m43 155 x5)) + 1)) = m55
                    have hIm55 := zi_up hmm55 hIm43 zq_157 (zb_88 _) (by omega) (by omega)
                    have hFm55 := zfr_up hmm55 hFm43 zq_157 rfl
                    have w56 := zu_w32_id (z := x5 + 1) (by omega) (by omega)
                    have hM : (18 - (zu_w32 (x5 + 1))) * 1 + 0 < (k : Int) := by omega
                    exact zw_le (zu_forget (zu_lr_same (zu_lr_same (zu_lr_same (zu_lr_same (zu_lr_same (zu_lr_same (zu_lr_drop zu_lr_nil)))))))) (ih.2.2 x4 (zu_w32 (x5 + 1)) m55 hIm55 hFm55 ⟨by omega, by omega⟩ ⟨by omega, by omega⟩ ⟨by omega, by omega⟩ ⟨by omega, by omega⟩ ⟨by omega, by omega⟩ hM)
                · exfalso; omega
            · exfalso; omega
          · refine zw_ite (fun h57 => ?_) (fun h57 => ?_)
            · exfalso; omega
            · have b58 : 0 ≤ x5 ∧ x5 < 16 := by omega
              refine zw_if b58 ?_
              have r59 : 0 ≤ (mh ((89 + 1) + 5 + x5) 0) ∧ (mh ((89 + 1) + 5 + x5) 0) ≤ 47 := zi_rd hImh (zc_65_e (zc_16_1 zq_89) b58) zb_17_0
              have b60 : 0 ≤ x5 ∧ x5 < 18 := by omega
              refine zw_if b60 ?_
              generalize hmm61 : zu_up mh 155 x5 (mh ((89 + 1) + 5 + x5) 0) = m61
              have hIm61 := zi_up hmm61 hImh zq_155 (zb_86 _) (by omega) (by omega)
              have hFm61 := zfr_up hmm61 hFmh zq_155 rfl
              refine zw_ite (fun h62 => ?_) (fun h62 => ?_)
              · exfalso; omega
              · have b63 : 0 ≤ x5 ∧ x5 < 16 := by omega
                refine zw_if b63 ?_
                have r64 : (-3) ≤ (m61 ((89 + 1) + 5 + x5) 3) ∧ (m61 ((89 + 1) + 5 + x5) 3) ≤ 3 := zi_rd hIm61 (zc_65_e (zc_16_1 zq_89) b63) zb_17_3
                refine zw_ite (fun h65 => ?_) (fun h65 => ?_)
                · refine zw_b (by omega) ?_
                  have b66 : 0 ≤ x5 ∧ x5 < 18 := by omega
                  refine zw_if b66 ?_
                  generalize hmm67 : zu_up m61 156 x5 0 = m67
                  have hIm67 := zi_up hmm67 hIm61 zq_156 (zb_87 _) (by omega) (by omega)
                  have hFm67 := zfr_up hmm67 hFm61 zq_156 rfl
                  have b68 : 0 ≤ x5 ∧ x5 < 18 := by omega
                  refine zw_if b68 ?_
                  have r69 : 0 ≤ (m67 156 x5) ∧ (m67 156 x5) ≤ 1 := zi_rd hIm67 zq_156 (zb_87 _)
                  have e70 : (m67 156 x5) = 0 := (zs_eq hmm67)
                  refine zw_ite (fun h71 => ?_) (fun h71 => ?_)
                  · exfalso; omega
                  · have b72 : 0 ≤ x5 ∧ x5 < 18 := by omega
                    refine zw_if b72 ?_
                    have r73 : 0 ≤ (m67 155 x5) ∧ (m67 155 x5) ≤ 47 := zi_rd hIm67 zq_155 (zb_86 _)
                    have e74 : (m67 155 x5) = (mh ((89 + 1) + 5 + x5) 0) := (Eq.trans (zs_ne hmm67 (Or.inl (zc_ne zq_155 zq_156 (by decide)))) (zs_eq hmm61))
                    have b75 : 0 ≤ (m67 155 x5) ∧ (m67 155 x5) < 48 := by omega
                    refine zw_if b75 ?_
                    have r76 : (-2147483648) ≤ (m67 157 (m67 155 x5)) ∧ (m67 157 (m67 155 x5)) ≤ 2147483647 := zi_rd hIm67 zq_157 (zb_88 _)
                    have w77 := zu_w32_rg ((m67 157 (m67 155 x5)) + 1)
                    have b78 : 0 ≤ (m67 155 x5) ∧ (m67 155 x5) < 48 := by omega
                    refine zw_if b78 ?_
                    generalize hmm79 : zu_up m67 157 (m67 155 x5) (zu_w32 ((m67 157 (m67 155 x5)) + 1)) = m79
                    have hIm79 := zi_up hmm79 hIm67 zq_157 (zb_88 _) (by omega) (by omega)
                    have hFm79 := zfr_up hmm79 hFm67 zq_157 rfl
                    have w80 := zu_w32_id (z := x5 + 1) (by omega) (by omega)
                    have hM : (18 - (zu_w32 (x5 + 1))) * 1 + 0 < (k : Int) := by omega
                    exact zw_le (zu_forget (zu_lr_same (zu_lr_same (zu_lr_same (zu_lr_same (zu_lr_same (zu_lr_same (zu_lr_drop zu_lr_nil)))))))) (ih.2.2 x4 (zu_w32 (x5 + 1)) m79 hIm79 hFm79 ⟨by omega, by omega⟩ ⟨by omega, by omega⟩ ⟨by omega, by omega⟩ ⟨by omega, by omega⟩ ⟨by omega, by omega⟩ hM)
                · refine zw_b (by omega) ?_
                  have b81 : 0 ≤ x5 ∧ x5 < 18 := by omega
                  refine zw_if b81 ?_
                  generalize hmm82 : zu_up m61 156 x5 1 = m82
                  have hIm82 := zi_up hmm82 hIm61 zq_156 (zb_87 _) (by omega) (by omega)
                  have hFm82 := zfr_up hmm82 hFm61 zq_156 rfl
                  have b83 : 0 ≤ x5 ∧ x5 < 18 := by omega
                  refine zw_if b83 ?_
                  have r84 : 0 ≤ (m82 156 x5) ∧ (m82 156 x5) ≤ 1 := zi_rd hIm82 zq_156 (zb_87 _)
                  have e85 : (m82 156 x5) = 1 := (zs_eq hmm82)
                  refine zw_ite (fun h86 => ?_) (fun h86 => ?_)
                  · have w87 := zu_w32_id (z := x5 + 1) (by omega) (by omega)
                    have hM : (18 - (zu_w32 (x5 + 1))) * 1 + 0 < (k : Int) := by omega
                    exact zw_le (zu_forget (zu_lr_same (zu_lr_same (zu_lr_same (zu_lr_same (zu_lr_same (zu_lr_same (zu_lr_drop zu_lr_nil)))))))) (ih.2.2 x4 (zu_w32 (x5 + 1)) m82 hIm82 hFm82 ⟨by omega, by omega⟩ ⟨by omega, by omega⟩ ⟨by omega, by omega⟩ ⟨by omega, by omega⟩ ⟨by omega, by omega⟩ hM)
                  · exfalso; omega
set_option maxHeartbeats 4000000 in
theorem zk_288 (n : Nat) {a0 a1 a2 a3 : Int} {m0 : zu_m} (hIm0 : zi_I m0) (hc0 : zcls a0 = 24) (ha1 : 1 ≤ a1 ∧ a1 ≤ 2) (ha2 : 0 ≤ a2 ∧ a2 ≤ 47) (ha3 : 0 ≤ a3 ∧ a3 ≤ 47)     : zw (zu_call (zt_T n) 288 [(33, a0), (0, a1), (0, a2), (0, a3)] m0) (fun v m => zi_I m ∧ zfr [(86, 0), (87, 0), (88, 0), (89, 0)] m0 m ∧ True) := by
  have hFm0 : zfr [(86, 0), (87, 0), (88, 0), (89, 0)] m0 m0 := zfr_rf _ _
  refine zw_eq (zu_call_at (zt_T n) (zm_288 n) (zdp_288 n) _ _ _ _ _ rfl (zr_288_0 n _ _ a0 a1 a2 a3 m0)) ?_
  have hM : (48 - 0) * 1 + 24 < ((73 : Nat) : Int) := by omega
  exact (zl_288 n (m0 := m0) hc0 73).1 0 m0 hIm0 hFm0 ⟨by omega, by omega⟩ ⟨by omega, by omega⟩ ⟨by omega, by omega⟩ ⟨by omega, by omega⟩ hM
set_option maxHeartbeats 4000000 in
theorem zl_289 (n : Nat) {a0 a1 : Int} {m0 : zu_m} (hc0 : zcls a0 = 24)   : ∀ k : Nat, (∀ (x2 : Int) (mh : zu_m), zi_I mh → zfr [(87, 0), (88, 0)] m0 mh → (1 ≤ a1 ∧ a1 ≤ 18) → (0 ≤ x2 ∧ x2 ≤ 18) → (18 - x2) * 1 + 0 < (k : Int) → zw (zu_ex (zt_T n) 289 2 [(33, a0), (0, a1), (0, x2)] [] mh) (fun v m => zi_I m ∧ zfr [(87, 0), (88, 0)] m0 m ∧ True)) := by
  intro k
  induction k with
  | zero => exact fun x2 mh hImh hFmh hba1 hbx2 hM => by exfalso; omega
  | succ k ih =>
    intro x2 mh hImh hFmh hba1 hbx2 hM
    refine zw_eq (zu_rega_at (zt_T n) (zm_289 n) (zdp_289 n) _ _ _ _ _ _ (zr_289_2 n _ _ a0 a1 x2 mh)) ?_
    refine zw_ite (fun h1 => ?_) (fun h1 => ?_)
    · exact zw_some ⟨hImh, hFmh, trivial⟩
    · refine zw_ite (fun h2 => ?_) (fun h2 => ?_)
      · exfalso; omega
      · have b3 : 0 ≤ x2 ∧ x2 < 18 := by omega
        refine zw_if b3 ?_
        have r4 : 0 ≤ (mh 156 x2) ∧ (mh 156 x2) ≤ 1 := zi_rd hImh zq_156 (zb_87 _)
        refine zw_ite (fun h5 => ?_) (fun h5 => ?_)
        · have w6 := zu_w32_id (z := x2 + 1) (by omega) (by omega)
          have hM : (18 - (zu_w32 (x2 + 1))) * 1 + 0 < (k : Int) := by omega
          exact ih (zu_w32 (x2 + 1)) mh hImh hFmh ⟨by omega, by omega⟩ ⟨by omega, by omega⟩ hM
        · have b7 : 0 ≤ x2 ∧ x2 < 18 := by omega
          refine zw_if b7 ?_
          have r8 : 0 ≤ (mh 155 x2) ∧ (mh 155 x2) ≤ 47 := zi_rd hImh zq_155 (zb_86 _)
          have b9 : 0 ≤ (mh 155 x2) ∧ (mh 155 x2) < 48 := by omega
          refine zw_if b9 ?_
          have r10 : 0 ≤ (mh (50 + 3) (mh 155 x2)) ∧ (mh (50 + 3) (mh 155 x2)) ≤ 3 := zi_rd hImh (zc_11_8 zq_50) (zb_51 _)
          refine zw_ite (fun h11 => ?_) (fun h11 => ?_)
          · have w12 := zu_w32_id (z := x2 + 1) (by omega) (by omega)
            have hM : (18 - (zu_w32 (x2 + 1))) * 1 + 0 < (k : Int) := by omega
            exact ih (zu_w32 (x2 + 1)) mh hImh hFmh ⟨by omega, by omega⟩ ⟨by omega, by omega⟩ hM
          · refine zw_b (by omega) ?_
            have b13 : 0 ≤ x2 ∧ x2 < 18 := by omega
            refine zw_if b13 ?_
            generalize hmm14 : zu_up mh 156 x2 1 = m14
            have hIm14 := zi_up hmm14 hImh zq_156 (zb_87 _) (by omega) (by omega)
            have hFm14 := zfr_up hmm14 hFmh zq_156 rfl
            have b15 : 0 ≤ x2 ∧ x2 < 18 := by omega
            refine zw_if b15 ?_
            have r16 : 0 ≤ (m14 155 x2) ∧ (m14 155 x2) ≤ 47 := zi_rd hIm14 zq_155 (zb_86 _)
            have e17 : (m14 155 x2) = (mh 155 x2) := (zs_ne hmm14 (Or.inl (zc_ne zq_155 zq_156 (by decide))))
            have b18 : 0 ≤ (m14 155 x2) ∧ (m14 155 x2) < 48 := by omega
            refine zw_if b18 ?_
            have r19 : (-2147483648) ≤ (m14 157 (m14 155 x2)) ∧ (m14 157 (m14 155 x2)) ≤ 2147483647 := zi_rd hIm14 zq_157 (zb_88 _)
            have w20 := zu_w32_rg ((m14 157 (m14 155 x2)) - 1)
            have b21 : 0 ≤ (m14 155 x2) ∧ (m14 155 x2) < 48 := by omega
            refine zw_if b21 ?_
            generalize hmm22 : zu_up m14 157 (m14 155 x2) (zu_w32 ((m14 157 (m14 155 x2)) - 1)) = m22
            have hIm22 := zi_up hmm22 hIm14 zq_157 (zb_88 _) (by omega) (by omega)
            have hFm22 := zfr_up hmm22 hFm14 zq_157 rfl
            have w23 := zu_w32_id (z := x2 + 1) (by omega) (by omega)
            have hM : (18 - (zu_w32 (x2 + 1))) * 1 + 0 < (k : Int) := by omega
            exact ih (zu_w32 (x2 + 1)) m22 hIm22 hFm22 ⟨by omega, by omega⟩ ⟨by omega, by omega⟩ hM
set_option maxHeartbeats 4000000 in
theorem zk_289 (n : Nat) {a0 a1 : Int} {m0 : zu_m} (hIm0 : zi_I m0) (hc0 : zcls a0 = 24) (ha1 : 1 ≤ a1 ∧ a1 ≤ 18)     : zw (zu_call (zt_T n) 289 [(33, a0), (0, a1)] m0) (fun v m => zi_I m ∧ zfr [(87, 0), (88, 0)] m0 m ∧ True) := by
  have hFm0 : zfr [(87, 0), (88, 0)] m0 m0 := zfr_rf _ _
  refine zw_eq (zu_call_at (zt_T n) (zm_289 n) (zdp_289 n) _ _ _ _ _ rfl (zr_289_0 n _ _ a0 a1 m0)) ?_
  have hM : (18 - 0) * 1 + 0 < ((19 : Nat) : Int) := by omega
  exact (zl_289 n (m0 := m0) hc0 19) 0 m0 hIm0 hFm0 ⟨by omega, by omega⟩ ⟨by omega, by omega⟩ hM
set_option maxHeartbeats 4000000 in
theorem zl_293 (n : Nat) {a0 : Int} {m0 : zu_m} (hc0 : zcls a0 = 24)   : ∀ k : Nat, (∀ (x1 x2 x3 : Int) (mh : zu_m), zi_I mh → zfr [] m0 mh → ((-2147483648) ≤ x1 ∧ x1 ≤ 2147483647) → ((-2147483648) ≤ x2 ∧ x2 ≤ 2147483647) → (1 ≤ x3 ∧ x3 ≤ 4) → (4 - x3) * 1 + 0 < (k : Int) → zw (zu_ex (zt_T n) 293 16 [(33, a0), (0, x1), (0, x2), (0, x3)] [] mh) (fun v m => zi_I m ∧ zfr [] m0 m ∧ ((-2147483648) ≤ v ∧ v ≤ 2147483647))) := by
  intro k
  induction k with
  | zero => exact fun x1 x2 x3 mh hImh hFmh hbx1 hbx2 hbx3 hM => by exfalso; omega
  | succ k ih =>
    intro x1 x2 x3 mh hImh hFmh hbx1 hbx2 hbx3 hM
    refine zw_eq (zu_rega_at (zt_T n) (zm_293 n) (zdp_293 n) _ _ _ _ _ _ (zr_293_16 n _ _ a0 x1 x2 x3 mh)) ?_
    have r1 : 0 ≤ (mh 89 4) ∧ (mh 89 4) ≤ 4 := zi_rd hImh zq_89 zb_16_4
    refine zw_ite (fun h2 => ?_) (fun h2 => ?_)
    · have w3 := zu_w32_rg (x1 - x2)
      exact zw_some ⟨hImh, hFmh, ⟨by omega, by omega⟩⟩
    · have b4 : 0 ≤ x3 ∧ x3 < 4 := by omega
      refine zw_if b4 ?_
      have r5 : (-2147483648) ≤ (mh 158 x3) ∧ (mh 158 x3) ≤ 2147483647 := zi_rd hImh zq_158 (zb_89 _)
      have k6 := zmax_bd x1 (mh 158 x3)
      have b7 : 0 ≤ x3 ∧ x3 < 4 := by omega
      refine zw_if b7 ?_
      have k8 := zmin_bd x2 (mh 158 x3)
      have w9 := zu_w32_id (z := x3 + 1) (by omega) (by omega)
      have hM : (4 - (zu_w32 (x3 + 1))) * 1 + 0 < (k : Int) := by omega
      exact ih (zu_max x1 (mh 158 x3)) (zu_min x2 (mh 158 x3)) (zu_w32 (x3 + 1)) mh hImh hFmh ⟨by omega, by omega⟩ ⟨by omega, by omega⟩ ⟨by omega, by omega⟩ hM
set_option maxHeartbeats 4000000 in
theorem zk_293 (n : Nat) {a0 : Int} {m0 : zu_m} (hIm0 : zi_I m0) (hc0 : zcls a0 = 24)      : zw (zu_call (zt_T n) 293 [(33, a0)] m0) (fun v m => zi_I m ∧ zfr [] m0 m ∧ ((-2147483648) ≤ v ∧ v ≤ 2147483647)) := by
  have hFm0 : zfr [] m0 m0 := zfr_rf _ _
  refine zw_eq (zu_call_at (zt_T n) (zm_293 n) (zdp_293 n) _ _ _ _ _ rfl (zr_293_0 n _ _ a0 m0)) ?_
  have b10 : 0 ≤ (0 : Int) ∧ (0 : Int) < 4 := by omega
  refine zw_if b10 ?_
  have r11 : (-2147483648) ≤ (m0 158 0) ∧ (m0 158 0) ≤ 2147483647 := zi_rd hIm0 zq_158 (zb_89 _)
  have b12 : 0 ≤ (0 : Int) ∧ (0 : Int) < 4 := by omega
  refine zw_if b12 ?_
  have hM : (4 - 1) * 1 + 0 < ((4 : Nat) : Int) := by omega
  exact (zl_293 n (m0 := m0) hc0 4) (m0 158 0) (m0 158 0) 1 m0 hIm0 hFm0 ⟨by omega, by omega⟩ ⟨by omega, by omega⟩ ⟨by omega, by omega⟩ hM
set_option maxHeartbeats 4000000 in
theorem zl_295 (n : Nat) {a0 a1 : Int} {m0 : zu_m} (hc0 : zcls a0 = 24)   : ∀ k : Nat, (∀ (x2 : Int) (mh : zu_m), zi_I mh → zfr [(24, 19), (93, 0)] m0 mh → (0 ≤ a1 ∧ a1 ≤ 999000) → (0 ≤ x2 ∧ x2 ≤ 4) → (1 ≤ mh a0 18 ∧ mh a0 18 ≤ 4) → (x2 - 0) * 1 + 0 < (k : Int) → zw (zu_ex (zt_T n) 295 23 [(33, a0), (0, a1), (0, x2)] [] mh) (fun v m => zi_I m ∧ zfr [(24, 19), (93, 0)] m0 m ∧ True ∧ (1 ≤ m a0 18 ∧ m a0 18 ≤ 4))) := by
  intro k
  induction k with
  | zero => exact fun x2 mh hImh hFmh hba1 hbx2 hg2 hM => by exfalso; omega
  | succ k ih =>
    intro x2 mh hImh hFmh hba1 hbx2 hg2 hM
    refine zw_eq (zu_rega_at (zt_T n) (zm_295 n) (zdp_295 n) _ _ _ _ _ _ (zr_295_23 n _ _ a0 a1 x2 mh)) ?_
    refine zw_ite (fun h1 => ?_) (fun h1 => ?_)
    · refine zw_ite (fun h2 => ?_) (fun h2 => ?_)
      · exfalso; omega
      · have b3 : 0 ≤ x2 ∧ x2 < 4 := by omega
        refine zw_if b3 ?_
        generalize hmm4 : zu_up mh 162 x2 a1 = m4
        have hIm4 := zi_up hmm4 hImh zq_162 (zb_93 _) (by omega) (by omega)
        have hFm4 := zfr_up hmm4 hFmh zq_162 rfl
        have r5 : 0 ≤ (m4 a0 18) ∧ (m4 a0 18) ≤ 4 := zi_rd hIm4 hc0 zb_24_18
        have e6 : (m4 a0 18) = (mh a0 18) := (zs_ne hmm4 (Or.inl (zc_ne hc0 zq_162 (by decide))))
        exact zw_some ⟨hIm4, hFm4, trivial, ⟨by omega, by omega⟩⟩
    · have w7 := zu_w32_id (z := x2 - 1) (by omega) (by omega)
      have b8 : 0 ≤ (zu_w32 (x2 - 1)) ∧ (zu_w32 (x2 - 1)) < 4 := by omega
      refine zw_if b8 ?_
      have r9 : 0 ≤ (mh 162 (zu_w32 (x2 - 1))) ∧ (mh 162 (zu_w32 (x2 - 1))) ≤ 999000 := zi_rd hImh zq_162 (zb_93 _)
      refine zw_ite (fun h10 => ?_) (fun h10 => ?_)
      · refine zw_ite (fun h11 => ?_) (fun h11 => ?_)
        · exact zw_some ⟨hImh, hFmh, trivial, ⟨by omega, by omega⟩⟩
        · have b12 : 0 ≤ x2 ∧ x2 < 4 := by omega
          refine zw_if b12 ?_
          generalize hmm13 : zu_up mh 162 x2 a1 = m13
          have hIm13 := zi_up hmm13 hImh zq_162 (zb_93 _) (by omega) (by omega)
          have hFm13 := zfr_up hmm13 hFmh zq_162 rfl
          have r14 : 0 ≤ (m13 a0 18) ∧ (m13 a0 18) ≤ 4 := zi_rd hIm13 hc0 zb_24_18
          have e15 : (m13 a0 18) = (mh a0 18) := (zs_ne hmm13 (Or.inl (zc_ne hc0 zq_162 (by decide))))
          exact zw_some ⟨hIm13, hFm13, trivial, ⟨by omega, by omega⟩⟩
      · refine zw_ite (fun h16 => ?_) (fun h16 => ?_)
        · have w17 := zu_w32_id (z := x2 + (-1)) (by omega) (by omega)
          have hM : ((zu_w32 (x2 + (-1))) - 0) * 1 + 0 < (k : Int) := by omega
          exact ih (zu_w32 (x2 + (-1))) mh hImh hFmh ⟨by omega, by omega⟩ ⟨by omega, by omega⟩ ⟨by omega, by omega⟩ hM
        · have b18 : 0 ≤ (zu_w32 (x2 - 1)) ∧ (zu_w32 (x2 - 1)) < 4 := by omega
          refine zw_if b18 ?_
          have b19 : 0 ≤ x2 ∧ x2 < 4 := by omega
          refine zw_if b19 ?_
          generalize hmm20 : zu_up mh 162 x2 (mh 162 (zu_w32 (x2 - 1))) = m20
          have hIm20 := zi_up hmm20 hImh zq_162 (zb_93 _) (by omega) (by omega)
          have hFm20 := zfr_up hmm20 hFmh zq_162 rfl
          have w21 := zu_w32_id (z := x2 + (-1)) (by omega) (by omega)
          have r22 : 0 ≤ (m20 a0 18) ∧ (m20 a0 18) ≤ 4 := zi_rd hIm20 hc0 zb_24_18
          have e23 : (m20 a0 18) = (mh a0 18) := (zs_ne hmm20 (Or.inl (zc_ne hc0 zq_162 (by decide))))
          have hM : ((zu_w32 (x2 + (-1))) - 0) * 1 + 0 < (k : Int) := by omega
          exact ih (zu_w32 (x2 + (-1))) m20 hIm20 hFm20 ⟨by omega, by omega⟩ ⟨by omega, by omega⟩ ⟨by omega, by omega⟩ hM
set_option maxHeartbeats 4000000 in
theorem zk_295 (n : Nat) {a0 a1 : Int} {m0 : zu_m} (hIm0 : zi_I m0) (hc0 : zcls a0 = 24) (ha1 : 0 ≤ a1 ∧ a1 ≤ 999000)     : zw (zu_call (zt_T n) 295 [(33, a0), (0, a1)] m0) (fun v m => zi_I m ∧ zfr [(24, 19), (93, 0)] m0 m ∧ True ∧ (1 ≤ m a0 18 ∧ m a0 18 ≤ 4)) := by
  have hFm0 : zfr [(24, 19), (93, 0)] m0 m0 := zfr_rf _ _
  refine zw_eq (zu_call_at (zt_T n) (zm_295 n) (zdp_295 n) _ _ _ _ _ rfl (zr_295_0 n _ _ a0 a1 m0)) ?_
  have r24 : 0 ≤ (m0 a0 18) ∧ (m0 a0 18) ≤ 4 := zi_rd hIm0 hc0 zb_24_18
  refine zw_ite (fun h25 => ?_) (fun h25 => ?_)
  · have hM : ((m0 a0 18) - 0) * 1 + 0 < ((5 : Nat) : Int) := by omega
    exact (zl_295 n (m0 := m0) hc0 5) (m0 a0 18) m0 hIm0 hFm0 ⟨by omega, by omega⟩ ⟨by omega, by omega⟩ ⟨by omega, by omega⟩ hM
  · have w26 := zu_w32_id (z := (m0 a0 18) + 1) (by omega) (by omega)
    generalize hmm27 : zu_up m0 a0 18 (zu_w32 ((m0 a0 18) + 1)) = m27
    have hIm27 := zi_up hmm27 hIm0 hc0 zb_24_18 (by omega) (by omega)
    have hFm27 := zfr_up hmm27 hFm0 hc0 rfl
    have r28 : 0 ≤ (m27 a0 18) ∧ (m27 a0 18) ≤ 4 := zi_rd hIm27 hc0 zb_24_18
    have e29 : (m27 a0 18) = (zu_w32 ((m0 a0 18) + 1)) := (zs_eq hmm27)
    have hM : ((m0 a0 18) - 0) * 1 + 0 < ((5 : Nat) : Int) := by omega
    exact (zl_295 n (m0 := m0) hc0 5) (m0 a0 18) m27 hIm27 hFm27 ⟨by omega, by omega⟩ ⟨by omega, by omega⟩ ⟨by omega, by omega⟩ hM
set_option maxHeartbeats 4000000 in
theorem zk_296 (n : Nat) {a0 a1 a2 : Int} {m0 : zu_m} (hIm0 : zi_I m0) (hc0 : zcls a0 = 24) (ha1 : 0 ≤ a1 ∧ a1 ≤ 3) (ha2 : 0 ≤ a2 ∧ a2 ≤ 3)     : zw (zu_call (zt_T n) 296 [(33, a0), (0, a1), (0, a2)] m0) (fun v m => zi_I m ∧ zfr [] m0 m ∧ (0 ≤ v ∧ v ≤ 999000)) := by
  have hFm0 : zfr [] m0 m0 := zfr_rf _ _
  refine zw_eq (zu_call_at (zt_T n) (zm_296 n) (zdp_296 n) _ _ _ _ _ rfl (zr_296_0 n _ _ a0 a1 a2 m0)) ?_
  refine zw_ite (fun h1 => ?_) (fun h1 => ?_)
  · have b2 : 0 ≤ a1 ∧ a1 < 4 := by omega
    refine zw_if b2 ?_
    have r3 : 0 ≤ (m0 162 a1) ∧ (m0 162 a1) ≤ 999000 := zi_rd hIm0 zq_162 (zb_93 _)
    exact zw_some ⟨hIm0, hFm0, ⟨by omega, by omega⟩⟩
  · have b4 : 0 ≤ a1 ∧ a1 < 4 := by omega
    refine zw_if b4 ?_
    have r5 : 0 ≤ (m0 162 a1) ∧ (m0 162 a1) ≤ 999000 := zi_rd hIm0 zq_162 (zb_93 _)
    refine zw_nif (by omega) ?_
    have d6 : Int.tdiv (m0 162 a1) 2 = (m0 162 a1) / 2 := Int.tdiv_eq_ediv_of_nonneg (by omega)
    have w7 := zu_w32_id (z := Int.tdiv (m0 162 a1) 2) (by omega) (by omega)
    exact zw_some ⟨hIm0, hFm0, ⟨by omega, by omega⟩⟩
set_option maxHeartbeats 4000000 in
theorem zl_306 (n : Nat) {a0 : Int} {m0 : zu_m} (hc0 : zcls a0 = 23)   : ∀ k : Nat, (∀ (x1 : Int) (mh : zu_m), zi_I mh → zfr [(23, 5), (81, 0), (82, 0), (83, 0), (84, 0)] m0 mh → (1 ≤ x1 ∧ x1 ≤ 20) → (20 ≤ mh a0 4 ∧ mh a0 4 ≤ 20) → (zdr m0 mh 149 x1) → (zdr m0 mh 151 x1) → ((mh a0 4) = (m0 a0 4)) → (20 - x1) * 1 + 0 < (k : Int) → zw (zu_ex (zt_T n) 306 2 [(31, a0), (0, x1)] [] mh) (fun v m => zi_I m ∧ zfr [(23, 5), (81, 0), (82, 0), (83, 0), (84, 0)] m0 m ∧ True ∧ (19 ≤ m a0 4 ∧ m a0 4 ≤ 19) ∧ (∀ s, zUN m0 s → zUN m s) ∧ (zR_UW m0 → zR_UW m))) := by
  intro k
  induction k with
  | zero => exact fun x1 mh hImh hFmh hbx1 hg1 hH0 hH1 hH2 hM => by exfalso; omega
  | succ k ih =>
    intro x1 mh hImh hFmh hbx1 hg1 hH0 hH1 hH2 hM
    refine zw_eq (zu_rega_at (zt_T n) (zm_306 n) (zdp_306 n) _ _ _ _ _ _ (zr_306_2 n _ _ a0 x1 mh)) ?_
    refine zw_ite (fun h1 => ?_) (fun h1 => ?_)
    · have w2 := zu_w32_id (z := (mh a0 4) - 1) (by omega) (by omega)
      generalize hmm3 : zu_up mh a0 4 (zu_w32 ((mh a0 4) - 1)) = m3
      have hIm3 := zi_up hmm3 hImh hc0 zb_23_4 (by omega) (by omega)
      have hFm3 := zfr_up hmm3 hFmh hc0 rfl
      have hun : ∀ s, zUN m0 s → zUN m3 s := fun s h => zUN_drop (zone_148 hc0) hH0 (by omega) (zfr_ap hFmh zq_89 rfl) (by omega) hmm3 (by omega) h
      have huw : zR_UW m0 → zR_UW m3 := fun h => zUW_drop (zone_148 hc0) hH0 hH1 (by omega) (zfr_ap hFmh zq_50 rfl) (by omega) hmm3 (by omega) h
      have r4 : 0 ≤ (m3 a0 4) ∧ (m3 a0 4) ≤ 20 := zi_rd hIm3 hc0 zb_23_4
      have e5 : (m3 a0 4) = (zu_w32 ((mh a0 4) - 1)) := (zs_eq hmm3)
      exact zw_some ⟨hIm3, hFm3, trivial, ⟨by omega, by omega⟩, hun, huw⟩
    · have w6 := zu_w32_id (z := x1 - 1) (by omega) (by omega)
      have b7 : 0 ≤ x1 ∧ x1 < 20 := by omega
      refine zw_if b7 ?_
      have r8 : 0 ≤ (mh 149 x1) ∧ (mh 149 x1) ≤ 3 := zi_rd hImh zq_149 (zb_81 _)
      have b9 : 0 ≤ (zu_w32 (x1 - 1)) ∧ (zu_w32 (x1 - 1)) < 20 := by omega
      refine zw_if b9 ?_
      generalize hmm10 : zu_up mh 149 (zu_w32 (x1 - 1)) (mh 149 x1) = m10
      have hIm10 := zi_up hmm10 hImh zq_149 (zb_81 _) (by omega) (by omega)
      have hFm10 := zfr_up hmm10 hFmh zq_149 rfl
      have b11 : 0 ≤ x1 ∧ x1 < 20 := by omega
      refine zw_if b11 ?_
      have r12 : 0 ≤ (m10 150 x1) ∧ (m10 150 x1) ≤ 3 := zi_rd hIm10 zq_150 (zb_82 _)
      have b13 : 0 ≤ (zu_w32 (x1 - 1)) ∧ (zu_w32 (x1 - 1)) < 20 := by omega
      refine zw_if b13 ?_
      generalize hmm14 : zu_up m10 150 (zu_w32 (x1 - 1)) (m10 150 x1) = m14
      have hIm14 := zi_up hmm14 hIm10 zq_150 (zb_82 _) (by omega) (by omega)
      have hFm14 := zfr_up hmm14 hFm10 zq_150 rfl
      have b15 : 0 ≤ x1 ∧ x1 < 20 := by omega
      refine zw_if b15 ?_
      have r16 : 0 ≤ (m14 151 x1) ∧ (m14 151 x1) ≤ 47 := zi_rd hIm14 zq_151 (zb_83 _)
      have b17 : 0 ≤ (zu_w32 (x1 - 1)) ∧ (zu_w32 (x1 - 1)) < 20 := by omega
      refine zw_if b17 ?_
      generalize hmm18 : zu_up m14 151 (zu_w32 (x1 - 1)) (m14 151 x1) = m18
      have hIm18 := zi_up hmm18 hIm14 zq_151 (zb_83 _) (by omega) (by omega)
      have hFm18 := zfr_up hmm18 hFm14 zq_151 rfl
      have b19 : 0 ≤ x1 ∧ x1 < 20 := by omega
      refine zw_if b19 ?_
      have r20 : 0 ≤ (m18 152 x1) ∧ (m18 152 x1) ≤ 9 := zi_rd hIm18 zq_152 (zb_84 _)
      have b21 : 0 ≤ (zu_w32 (x1 - 1)) ∧ (zu_w32 (x1 - 1)) < 20 := by omega
      refine zw_if b21 ?_
      generalize hmm22 : zu_up m18 152 (zu_w32 (x1 - 1)) (m18 152 x1) = m22
      have hIm22 := zi_up hmm22 hIm18 zq_152 (zb_84 _) (by omega) (by omega)
      have hFm22 := zfr_up hmm22 hFm18 zq_152 rfl
      have w23 := zu_w32_id (z := x1 + 1) (by omega) (by omega)
      have r24 : 0 ≤ (m22 a0 4) ∧ (m22 a0 4) ≤ 20 := zi_rd hIm22 hc0 zb_23_4
      have e25 : (m22 a0 4) = (mh a0 4) := (Eq.trans (zs_ne hmm22 (Or.inl (zc_ne hc0 zq_152 (by decide)))) (Eq.trans (zs_ne hmm18 (Or.inl (zc_ne hc0 zq_151 (by decide)))) (Eq.trans (zs_ne hmm14 (Or.inl (zc_ne hc0 zq_150 (by decide)))) (zs_ne hmm10 (Or.inl (zc_ne hc0 zq_149 (by decide)))))))
      have hM : (20 - (zu_w32 (x1 + 1))) * 1 + 0 < (k : Int) := by omega
      exact ih (zu_w32 (x1 + 1)) m22 hIm22 hFm22 ⟨by omega, by omega⟩ ⟨by omega, by omega⟩ (zdr_mv (zdr_s hmm10 (by omega) rfl (by omega) hH0) (fun _ => (Eq.trans (zs_ne hmm22 (Or.inl (zc_ne zq_149 zq_152 (by decide)))) (Eq.trans (zs_ne hmm18 (Or.inl (zc_ne zq_149 zq_151 (by decide)))) (zs_ne hmm14 (Or.inl (zc_ne zq_149 zq_150 (by decide)))))))) (zdr_mv (zdr_s hmm18 (by omega) rfl (by omega) (zdr_mv hH1 (fun _ => (Eq.trans (zs_ne hmm14 (Or.inl (zc_ne zq_151 zq_150 (by decide)))) (zs_ne hmm10 (Or.inl (zc_ne zq_151 zq_149 (by decide)))))))) (fun _ => (zs_ne hmm22 (Or.inl (zc_ne zq_151 zq_152 (by decide)))))) (by omega) hM
set_option maxHeartbeats 4000000 in
theorem zk_306 (n : Nat) {a0 : Int} {m0 : zu_m} (hIm0 : zi_I m0) (hc0 : zcls a0 = 23)   (he0 : 20 ≤ m0 a0 4 ∧ m0 a0 4 ≤ 20)   : zw (zu_call (zt_T n) 306 [(31, a0)] m0) (fun v m => zi_I m ∧ zfr [(23, 5), (81, 0), (82, 0), (83, 0), (84, 0)] m0 m ∧ True ∧ (19 ≤ m a0 4 ∧ m a0 4 ≤ 19) ∧ (∀ s, zUN m0 s → zUN m s) ∧ (zR_UW m0 → zR_UW m)) := by
  have hFm0 : zfr [(23, 5), (81, 0), (82, 0), (83, 0), (84, 0)] m0 m0 := zfr_rf _ _
  refine zw_eq (zu_call_at (zt_T n) (zm_306 n) (zdp_306 n) _ _ _ _ _ rfl (zr_306_0 n _ _ a0 m0)) ?_
  have hM : (20 - 1) * 1 + 0 < ((20 : Nat) : Int) := by omega
  exact (zl_306 n (m0 := m0) hc0 20) 1 m0 hIm0 hFm0 ⟨by omega, by omega⟩ ⟨by omega, by omega⟩ (zdr_0 rfl) (zdr_0 rfl) (by omega) hM
set_option maxHeartbeats 4000000 in
theorem zl_13 (n : Nat) {a0 : Int} {m0 : zu_m} (hc0 : zcls a0 = 4)   : ∀ k : Nat, (∀ (x1 : Int) (mh : zu_m), zi_I mh → zfr [(4, 1), (4, 2), (4, 3), (4, 4), (4, 5), (4, 6), (5, 6), (5, 7), (30, 0), (31, 0), (32, 0), (35, 0), (36, 0)] m0 mh → (0 ≤ x1 ∧ x1 ≤ 48) → (0 ≤ mh a0 3 ∧ mh a0 3 ≤ 0) → (0 ≤ mh a0 4 ∧ mh a0 4 ≤ 0) → (0 ≤ mh a0 5 ∧ mh a0 5 ≤ 0) → (48 - x1) * 1 + 0 < (k : Int) → zw (zu_ex (zt_T n) 13 24 [(8, a0), (0, x1)] [] mh) (fun v m => zi_I m ∧ zfr [(4, 1), (4, 2), (4, 3), (4, 4), (4, 5), (4, 6), (5, 6), (5, 7), (30, 0), (31, 0), (32, 0), (35, 0), (36, 0)] m0 m ∧ (m 6 2 = m 6 0 * m 6 1) ∧ True ∧ (0 ≤ m a0 3 ∧ m a0 3 ≤ 0) ∧ (0 ≤ m a0 4 ∧ m a0 4 ≤ 0) ∧ (0 ≤ m a0 5 ∧ m a0 5 ≤ 0))) := by
  intro k
  induction k with
  | zero => exact fun x1 mh hImh hFmh hbx1 hg1 hg2 hg3 hM => by exfalso; omega
  | succ k ih =>
    intro x1 mh hImh hFmh hbx1 hg1 hg2 hg3 hM
    refine zw_eq (zu_rega_at (zt_T n) (zm_13 n) (zdp_13 n) _ _ _ _ _ _ (zr_13_24 n _ _ a0 x1 mh)) ?_
    refine zw_ite (fun h1 => ?_) (fun h1 => ?_)
    · refine zw_bd (zw_mono (zk_15_4 n hImh hc0 ⟨by omega, by omega⟩ ⟨by omega, by omega⟩) (fun v3 m2 hqm2 => ?_))
      obtain ⟨hIm2, hfm2, hvm2⟩ := hqm2
      have hFm2 := zfr_tr hFmh hfm2 rfl
      obtain ⟨hRG6m2, hvm2⟩ := hvm2
      have r4 : 1 ≤ (m2 a0 0) ∧ (m2 a0 0) ≤ 8 := zi_rd hIm2 hc0 zb_4_0
      have r5 : 1 ≤ (m2 a0 1) ∧ (m2 a0 1) ≤ 6 := zi_rd hIm2 hc0 zb_4_1
      have r6 : 1 ≤ (m2 a0 2) ∧ (m2 a0 2) ≤ 48 := zi_rd hIm2 hc0 zb_4_2
      have r7 : 0 ≤ (m2 a0 3) ∧ (m2 a0 3) ≤ 6 := zi_rd hIm2 hc0 zb_4_3
      have e8 : (m2 a0 3) = (mh a0 3) := (zfr_ap hfm2 hc0 rfl)
      have r9 : 0 ≤ (m2 a0 4) ∧ (m2 a0 4) ≤ 99 := zi_rd hIm2 hc0 zb_4_4
      have e10 : (m2 a0 4) = (mh a0 4) := (zfr_ap hfm2 hc0 rfl)
      have r11 : 0 ≤ (m2 a0 5) ∧ (m2 a0 5) ≤ 99999 := zi_rd hIm2 hc0 zb_4_5
      have e12 : (m2 a0 5) = (mh a0 5) := (zfr_ap hfm2 hc0 rfl)
      exact zw_some ⟨hIm2, hFm2, hRG6m2, trivial, ⟨by omega, by omega⟩, ⟨by omega, by omega⟩, ⟨by omega, by omega⟩⟩
    · have b13 : 0 ≤ x1 ∧ x1 < 48 := by omega
      refine zw_if b13 ?_
      generalize hmm14 : zu_up mh (a0 + 3) x1 0 = m14
      have hIm14 := zi_up hmm14 hImh (zc_4_8 hc0) (zb_32 _) (by omega) (by omega)
      have hFm14 := zfr_up hmm14 hFmh (zc_4_8 hc0) rfl
      have w15 := zu_w32_id (z := x1 + 1) (by omega) (by omega)
      have r16 : 0 ≤ (m14 a0 3) ∧ (m14 a0 3) ≤ 6 := zi_rd hIm14 hc0 zb_4_3
      have e17 : (m14 a0 3) = (mh a0 3) := (zs_ne hmm14 (Or.inl (zc_ne hc0 (zc_4_8 hc0) (by decide))))
      have r18 : 0 ≤ (m14 a0 4) ∧ (m14 a0 4) ≤ 99 := zi_rd hIm14 hc0 zb_4_4
      have e19 : (m14 a0 4) = (mh a0 4) := (zs_ne hmm14 (Or.inl (zc_ne hc0 (zc_4_8 hc0) (by decide))))
      have r20 : 0 ≤ (m14 a0 5) ∧ (m14 a0 5) ≤ 99999 := zi_rd hIm14 hc0 zb_4_5
      have e21 : (m14 a0 5) = (mh a0 5) := (zs_ne hmm14 (Or.inl (zc_ne hc0 (zc_4_8 hc0) (by decide))))
      have hM : (48 - (zu_w32 (x1 + 1))) * 1 + 0 < (k : Int) := by omega
      exact ih (zu_w32 (x1 + 1)) m14 hIm14 hFm14 ⟨by omega, by omega⟩ ⟨by omega, by omega⟩ ⟨by omega, by omega⟩ ⟨by omega, by omega⟩ hM
set_option maxHeartbeats 4000000 in
theorem zk_13 (n : Nat) {a0 : Int} {m0 : zu_m} (hIm0 : zi_I m0) (hc0 : zcls a0 = 4)      : zw (zu_call (zt_T n) 13 [(8, a0)] m0) (fun v m => zi_I m ∧ zfr [(4, 1), (4, 2), (4, 3), (4, 4), (4, 5), (4, 6), (5, 6), (5, 7), (30, 0), (31, 0), (32, 0), (35, 0), (36, 0)] m0 m ∧ (m 6 2 = m 6 0 * m 6 1) ∧ True ∧ (0 ≤ m a0 3 ∧ m a0 3 ≤ 0) ∧ (0 ≤ m a0 4 ∧ m a0 4 ≤ 0) ∧ (0 ≤ m a0 5 ∧ m a0 5 ≤ 0)) := by
  have hFm0 : zfr [(4, 1), (4, 2), (4, 3), (4, 4), (4, 5), (4, 6), (5, 6), (5, 7), (30, 0), (31, 0), (32, 0), (35, 0), (36, 0)] m0 m0 := zfr_rf _ _
  refine zw_eq (zu_call_at (zt_T n) (zm_13 n) (zdp_13 n) _ _ _ _ _ rfl (zr_13_0 n _ _ a0 m0)) ?_
  generalize hmm22 : zu_up m0 a0 3 0 = m22
  have hIm22 := zi_up hmm22 hIm0 hc0 zb_4_3 (by omega) (by omega)
  have hFm22 := zfr_up hmm22 hFm0 hc0 rfl
  generalize hmm23 : zu_up m22 a0 4 0 = m23
  have hIm23 := zi_up hmm23 hIm22 hc0 zb_4_4 (by omega) (by omega)
  have hFm23 := zfr_up hmm23 hFm22 hc0 rfl
  generalize hmm24 : zu_up m23 a0 5 0 = m24
  have hIm24 := zi_up hmm24 hIm23 hc0 zb_4_5 (by omega) (by omega)
  have hFm24 := zfr_up hmm24 hFm23 hc0 rfl
  refine zw_bd (zw_mono (zk_14 n hIm24 (zc_4_9 hc0)) (fun v26 m25 hqm25 => ?_))
  obtain ⟨hIm25, hfm25, hvm25⟩ := hqm25
  have hFm25 := zfr_tr hFm24 hfm25 rfl
  have r27 : 0 ≤ (m25 a0 3) ∧ (m25 a0 3) ≤ 6 := zi_rd hIm25 hc0 zb_4_3
  have e28 : (m25 a0 3) = 0 := (Eq.trans (zfr_ap hfm25 hc0 rfl) (Eq.trans (zs_ne hmm24 (Or.inr (by decide))) (Eq.trans (zs_ne hmm23 (Or.inr (by decide))) (zs_eq hmm22))))
  have r29 : 0 ≤ (m25 a0 4) ∧ (m25 a0 4) ≤ 99 := zi_rd hIm25 hc0 zb_4_4
  have e30 : (m25 a0 4) = 0 := (Eq.trans (zfr_ap hfm25 hc0 rfl) (Eq.trans (zs_ne hmm24 (Or.inr (by decide))) (zs_eq hmm23)))
  have r31 : 0 ≤ (m25 a0 5) ∧ (m25 a0 5) ≤ 99999 := zi_rd hIm25 hc0 zb_4_5
  have e32 : (m25 a0 5) = 0 := (Eq.trans (zfr_ap hfm25 hc0 rfl) (zs_eq hmm24))
  have hM : (48 - 0) * 1 + 0 < ((49 : Nat) : Int) := by omega
  exact (zl_13 n (m0 := m0) hc0 49) 0 m25 hIm25 hFm25 ⟨by omega, by omega⟩ ⟨by omega, by omega⟩ ⟨by omega, by omega⟩ ⟨by omega, by omega⟩ hM

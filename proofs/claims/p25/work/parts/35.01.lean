set_option maxHeartbeats 4000000 in
theorem zk_35 (n : Nat) {a0 : Int} {m0 : zu_m} (hIm0 : zi_I m0) (hc0 : zcls a0 = 28)      : zw (zu_call (zt_T n) 35 [(40, a0)] m0) (fun v m => zi_I m ∧ zfr [(28, 65), (28, 66), (28, 67), (28, 68), (28, 69), (28, 70)] m0 m ∧ True ∧ (0 ≤ m a0 65 ∧ m a0 65 ≤ 0) ∧ (0 ≤ m a0 66 ∧ m a0 66 ≤ 0) ∧ (0 ≤ m a0 67 ∧ m a0 67 ≤ 0) ∧ (0 ≤ m a0 68 ∧ m a0 68 ≤ 0) ∧ ((-1) ≤ m a0 69 ∧ m a0 69 ≤ (-1))) := by
  have hFm0 : zfr [(28, 65), (28, 66), (28, 67), (28, 68), (28, 69), (28, 70)] m0 m0 := zfr_rf _ _
  refine zw_eq (zu_call_at (zt_T n) (zm_35 n) (zdp_35 n) _ _ _ _ _ rfl (zr_35_0 n _ _ a0 m0)) ?_
  have r1 : (-2147483648) ≤ (m0 a0 62) ∧ (m0 a0 62) ≤ 2147483647 := zi_rd hIm0 hc0 zb_28_62
  generalize hmm2 : zu_up m0 a0 64 (m0 a0 62) = m2
  have hIm2 := zi_up hmm2 hIm0 hc0 zb_28_64 (by omega) (by omega)
  have hFm2 := zfr_up hmm2 hFm0 hc0 rfl
  refine zw_b (by omega) ?_
  generalize hmm3 : zu_up m2 a0 65 0 = m3
  have hIm3 := zi_up hmm3 hIm2 hc0 zb_28_65 (by omega) (by omega)
  have hFm3 := zfr_up hmm3 hFm2 hc0 rfl
  refine zw_b (by omega) ?_
  generalize hmm4 : zu_up m3 a0 66 0 = m4
  have hIm4 := zi_up hmm4 hIm3 hc0 zb_28_66 (by omega) (by omega)
  have hFm4 := zfr_up hmm4 hFm3 hc0 rfl
  refine zw_b (by omega) ?_
  generalize hmm5 : zu_up m4 a0 67 0 = m5
  have hIm5 := zi_up hmm5 hIm4 hc0 zb_28_67 (by omega) (by omega)
  have hFm5 := zfr_up hmm5 hFm4 hc0 rfl
  refine zw_b (by omega) ?_
  generalize hmm6 : zu_up m5 a0 68 0 = m6
  have hIm6 := zi_up hmm6 hIm5 hc0 zb_28_68 (by omega) (by omega)
  have hFm6 := zfr_up hmm6 hFm5 hc0 rfl
  generalize hmm7 : zu_up m6 a0 69 (-1) = m7
  have hIm7 := zi_up hmm7 hIm6 hc0 zb_28_69 (by omega) (by omega)
  have hFm7 := zfr_up hmm7 hFm6 hc0 rfl
  have r8 : 0 ≤ (m7 a0 65) ∧ (m7 a0 65) ≤ 1 := zi_rd hIm7 hc0 zb_28_65
  have e9 : (m7 a0 65) = 0 := (Eq.trans (zs_ne hmm7 (Or.inr (by decide))) (Eq.trans (zs_ne hmm6 (Or.inr (by decide))) (Eq.trans (zs_ne hmm5 (Or.inr (by decide))) (Eq.trans (zs_ne hmm4 (Or.inr (by decide))) (zs_eq hmm3)))))
  have r10 : 0 ≤ (m7 a0 66) ∧ (m7 a0 66) ≤ 1 := zi_rd hIm7 hc0 zb_28_66
  have e11 : (m7 a0 66) = 0 := (Eq.trans (zs_ne hmm7 (Or.inr (by decide))) (Eq.trans (zs_ne hmm6 (Or.inr (by decide))) (Eq.trans (zs_ne hmm5 (Or.inr (by decide))) (zs_eq hmm4))))
  have r12 : 0 ≤ (m7 a0 67) ∧ (m7 a0 67) ≤ 1 := zi_rd hIm7 hc0 zb_28_67
  have e13 : (m7 a0 67) = 0 := (Eq.trans (zs_ne hmm7 (Or.inr (by decide))) (Eq.trans (zs_ne hmm6 (Or.inr (by decide))) (zs_eq hmm5)))
  have r14 : 0 ≤ (m7 a0 68) ∧ (m7 a0 68) ≤ 1 := zi_rd hIm7 hc0 zb_28_68
  have e15 : (m7 a0 68) = 0 := (Eq.trans (zs_ne hmm7 (Or.inr (by decide))) (zs_eq hmm6))
  have r16 : (-2147483648) ≤ (m7 a0 69) ∧ (m7 a0 69) ≤ 2147483647 := zi_rd hIm7 hc0 zb_28_69
  have e17 : (m7 a0 69) = (-1) := (zs_eq hmm7)
  exact zw_some ⟨hIm7, hFm7, trivial, ⟨by omega, by omega⟩, ⟨by omega, by omega⟩, ⟨by omega, by omega⟩, ⟨by omega, by omega⟩, ⟨by omega, by omega⟩⟩
set_option maxHeartbeats 4000000 in
theorem zk_38 (n : Nat) {a0 a1 a2 a3 a4 a5 a6 : Int} {m0 : zu_m} (hIm0 : zi_I m0) (hc0 : zcls a0 = 28) (ha1 : 0 ≤ a1 ∧ a1 ≤ 15) (ha2 : 0 ≤ a2 ∧ a2 ≤ 9) (ha3 : 0 ≤ a3 ∧ a3 ≤ 47) (ha4 : 0 ≤ a4 ∧ a4 ≤ 3) (ha5 : 0 ≤ a5 ∧ a5 ≤ 1) (ha6 : (-2147483648) ≤ a6 ∧ a6 ≤ 2147483647)     : zw (zu_call (zt_T n) 38 [(40, a0), (0, a1), (0, a2), (0, a3), (0, a4), (0, a5), (0, a6)] m0) (fun v m => zi_I m ∧ zfr [(122, 0)] m0 m ∧ True) := by
  have hFm0 : zfr [(122, 0)] m0 m0 := zfr_rf _ _
  refine zw_eq (zu_call_at (zt_T n) (zm_38 n) (zdp_38 n) _ _ _ _ _ rfl (zr_38_0 n _ _ a0 a1 a2 a3 a4 a5 a6 m0)) ?_
  have b1 : 0 ≤ (0 : Int) ∧ (0 : Int) < 7 := by omega
  refine zw_if b1 ?_
  generalize hmm2 : zu_up m0 213 0 a1 = m2
  have hIm2 := zi_up hmm2 hIm0 zq_213 (zb_122 _) (by omega) (by omega)
  have hFm2 := zfr_up hmm2 hFm0 zq_213 rfl
  have b3 : 0 ≤ (1 : Int) ∧ (1 : Int) < 7 := by omega
  refine zw_if b3 ?_
  generalize hmm4 : zu_up m2 213 1 a2 = m4
  have hIm4 := zi_up hmm4 hIm2 zq_213 (zb_122 _) (by omega) (by omega)
  have hFm4 := zfr_up hmm4 hFm2 zq_213 rfl
  have b5 : 0 ≤ a3 ∧ a3 < 96 := by omega
  refine zw_if b5 ?_
  have r6 : 0 ≤ (m4 195 a3) ∧ (m4 195 a3) ≤ 3 := zi_rd hIm4 zq_195 (zb_104 _)
  have b7 : 0 ≤ (2 : Int) ∧ (2 : Int) < 7 := by omega
  refine zw_if b7 ?_
  generalize hmm8 : zu_up m4 213 2 (m4 195 a3) = m8
  have hIm8 := zi_up hmm8 hIm4 zq_213 (zb_122 _) (by omega) (by omega)
  have hFm8 := zfr_up hmm8 hFm4 zq_213 rfl
  have b9 : 0 ≤ (3 : Int) ∧ (3 : Int) < 7 := by omega
  refine zw_if b9 ?_
  generalize hmm10 : zu_up m8 213 3 a4 = m10
  have hIm10 := zi_up hmm10 hIm8 zq_213 (zb_122 _) (by omega) (by omega)
  have hFm10 := zfr_up hmm10 hFm8 zq_213 rfl
  have b11 : 0 ≤ (4 : Int) ∧ (4 : Int) < 7 := by omega
  refine zw_if b11 ?_
  generalize hmm12 : zu_up m10 213 4 a5 = m12
  have hIm12 := zi_up hmm12 hIm10 zq_213 (zb_122 _) (by omega) (by omega)
  have hFm12 := zfr_up hmm12 hFm10 zq_213 rfl
  have r13 : 1 ≤ (m12 a0 12) ∧ (m12 a0 12) ≤ 8 := zi_rd hIm12 hc0 zb_28_12
  refine zw_nif (by omega) ?_
  have d14 := ztdiv_bd (x := a3) (y := (m12 a0 12)) (by omega) (by omega)
  have w15 := zu_w32_id (z := Int.tdiv a3 (m12 a0 12)) (by omega) (by omega)
  have b16 : 0 ≤ (5 : Int) ∧ (5 : Int) < 7 := by omega
  refine zw_if b16 ?_
  generalize hmm17 : zu_up m12 213 5 (zu_w32 (Int.tdiv a3 (m12 a0 12))) = m17
  have hIm17 := zi_up hmm17 hIm12 zq_213 (zb_122 _) (by omega) (by omega)
  have hFm17 := zfr_up hmm17 hFm12 zq_213 rfl
  have b18 : 0 ≤ (6 : Int) ∧ (6 : Int) < 7 := by omega
  refine zw_if b18 ?_
  generalize hmm19 : zu_up m17 213 6 a6 = m19
  have hIm19 := zi_up hmm19 hIm17 zq_213 (zb_122 _) (by omega) (by omega)
  have hFm19 := zfr_up hmm19 hFm17 zq_213 rfl
  exact zw_some ⟨hIm19, hFm19, trivial⟩
set_option maxHeartbeats 4000000 in
theorem zl_41 (n : Nat) {a0 a1 : Int} {m0 : zu_m} (hc0 : zcls a0 = 2)   : ∀ k : Nat, (∀ (x2 : Int) (mh : zu_m), zi_I mh → zfr [(2, 2), (29, 0)] m0 mh → ((-2147483648) ≤ a1 ∧ a1 ≤ 2147483647) → ((-8) ≤ x2 ∧ x2 ≤ 24) → (8 * (mh a0 1) = 8 * (m0 a0 1) + 24 - x2) → (-8 ≤ x2) → (x2 - (-8)) * 1 + 0 < (k : Int) → zw (zu_ex (zt_T n) 41 3 [(5, a0), (0, a1), (0, x2)] [] mh) (fun v m => zi_I m ∧ zfr [(2, 2), (29, 0)] m0 m ∧ True ∧ ((m0 a0 1) ≤ 696 → (m a0 1) = (m0 a0 1) + 4))) := by
  intro k
  induction k with
  | zero => exact fun x2 mh hImh hFmh hba1 hbx2 hH0 hH1 hM => by exfalso; omega
  | succ k ih =>
    intro x2 mh hImh hFmh hba1 hbx2 hH0 hH1 hM
    refine zw_eq (zu_rega_at (zt_T n) (zm_41 n) (zdp_41 n) _ _ _ _ _ _ (zr_41_3 n _ _ a0 a1 x2 mh)) ?_
    have r1 : 0 ≤ (mh a0 1) ∧ (mh a0 1) ≤ 700 := zi_rd hImh hc0 zb_2_1
    refine zw_ite (fun h2 => ?_) (fun h2 => ?_)
    · exact zw_some ⟨hImh, hFmh, trivial, by omega⟩
    · refine zw_ite (fun h3 => ?_) (fun h3 => ?_)
      · exact zw_some ⟨hImh, hFmh, trivial, by omega⟩
      · have b4 := zu_i32_rg 7 a1 x2
        have b5 := zu_i32_rg 3 (zu_i32 7 a1 x2) 255
        have b6 : 0 ≤ (mh a0 1) ∧ (mh a0 1) < 700 := by omega
        refine zw_if b6 ?_
        generalize hmm7 : zu_up mh 4 (mh a0 1) (zu_i32 3 (zu_i32 7 a1 x2) 255) = m7
        have hIm7 := zi_up hmm7 hImh zq_4 (zb_29 _) (by omega) (by omega)
        have hFm7 := zfr_up hmm7 hFmh zq_4 rfl
        have r8 : 0 ≤ (m7 a0 1) ∧ (m7 a0 1) ≤ 700 := zi_rd hIm7 hc0 zb_2_1
        have e9 : (m7 a0 1) = (mh a0 1) := (zs_ne hmm7 (Or.inl (zc_ne hc0 zq_4 (by decide))))
        have w10 := zu_w32_id (z := (m7 a0 1) + 1) (by omega) (by omega)
        generalize hmm11 : zu_up m7 a0 1 (zu_w32 ((m7 a0 1) + 1)) = m11
        have hIm11 := zi_up hmm11 hIm7 hc0 zb_2_1 (by omega) (by omega)
        have hFm11 := zfr_up hmm11 hFm7 hc0 rfl
        have w12 := zu_w32_id (z := x2 + (-8)) (by omega) (by omega)
        have r13 : 0 ≤ (m11 a0 1) ∧ (m11 a0 1) ≤ 700 := zi_rd hIm11 hc0 zb_2_1
        have e14 : (m11 a0 1) = (zu_w32 ((m7 a0 1) + 1)) := (zs_eq hmm11)
        have hM : ((zu_w32 (x2 + (-8))) - (-8)) * 1 + 0 < (k : Int) := by omega
        exact ih (zu_w32 (x2 + (-8))) m11 hIm11 hFm11 ⟨by omega, by omega⟩ ⟨by omega, by omega⟩ (by omega) (by omega) hM
set_option maxHeartbeats 4000000 in
theorem zk_41 (n : Nat) {a0 a1 : Int} {m0 : zu_m} (hIm0 : zi_I m0) (hc0 : zcls a0 = 2) (ha1 : (-2147483648) ≤ a1 ∧ a1 ≤ 2147483647)     : zw (zu_call (zt_T n) 41 [(5, a0), (0, a1)] m0) (fun v m => zi_I m ∧ zfr [(2, 2), (29, 0)] m0 m ∧ True ∧ ((m0 a0 1) ≤ 696 → (m a0 1) = (m0 a0 1) + 4)) := by
  have hFm0 : zfr [(2, 2), (29, 0)] m0 m0 := zfr_rf _ _
  have r15 : 0 ≤ (m0 a0 1) ∧ (m0 a0 1) ≤ 700 := zi_rd hIm0 hc0 zb_2_1
  refine zw_eq (zu_call_at (zt_T n) (zm_41 n) (zdp_41 n) _ _ _ _ _ rfl (zr_41_0 n _ _ a0 a1 m0)) ?_
  have hM : (24 - (-8)) * 1 + 0 < ((33 : Nat) : Int) := by omega
  exact (zl_41 n (m0 := m0) hc0 33) 24 m0 hIm0 hFm0 ⟨by omega, by omega⟩ ⟨by omega, by omega⟩ (by omega) (by omega) hM
set_option maxHeartbeats 4000000 in
theorem zk_43 (n : Nat) {a0 a1 : Int} {m0 : zu_m} (hIm0 : zi_I m0) (hc0 : zcls a0 = 2) (ha1 : (-2147483648) ≤ a1 ∧ a1 ≤ 2147483647)     : zw (zu_call (zt_T n) 43 [(5, a0), (0, a1)] m0) (fun v m => zi_I m ∧ zfr [] m0 m ∧ ((-2147483648) ≤ v ∧ v ≤ 2147483647)) := by
  have hFm0 : zfr [] m0 m0 := zfr_rf _ _
  refine zw_eq (zu_call_at (zt_T n) (zm_43 n) (zdp_43 n) _ _ _ _ _ rfl (zr_43_0 n _ _ a0 a1 m0)) ?_
  refine zw_ite (fun h1 => ?_) (fun h1 => ?_)
  · refine zw_ite (fun h2 => ?_) (fun h2 => ?_)
    · exact zw_some ⟨hIm0, hFm0, ⟨by omega, by omega⟩⟩
    · have r3 : (-2147483648) ≤ (m0 a0 3) ∧ (m0 a0 3) ≤ 2147483647 := zi_rd hIm0 hc0 zb_2_3
      exact zw_some ⟨hIm0, hFm0, ⟨by omega, by omega⟩⟩
  · have r4 : (-2147483648) ≤ (m0 a0 2) ∧ (m0 a0 2) ≤ 2147483647 := zi_rd hIm0 hc0 zb_2_2
    exact zw_some ⟨hIm0, hFm0, ⟨by omega, by omega⟩⟩
set_option maxHeartbeats 4000000 in
theorem zk_74 (n : Nat) {a0 a1 : Int} {m0 : zu_m} (hIm0 : zi_I m0) (hc0 : zcls a0 = 2) (ha1 : (-2147483648) ≤ a1 ∧ a1 ≤ 2147483647)     : zw (zu_call (zt_T n) 74 [(5, a0), (0, a1)] m0) (fun v m => zi_I m ∧ zfr [(22, 8)] m0 m ∧ (0 ≤ v ∧ v ≤ 1)) := by
  have hFm0 : zfr [(22, 8)] m0 m0 := zfr_rf _ _
  refine zw_eq (zu_call_at (zt_T n) (zm_74 n) (zdp_74 n) _ _ _ _ _ rfl (zr_74_0 n _ _ a0 a1 m0)) ?_
  refine zw_ite (fun h1 => ?_) (fun h1 => ?_)
  · refine zw_b (by omega) ?_
    exact zw_some ⟨hIm0, hFm0, ⟨by omega, by omega⟩⟩
  · have r2 : 0 ≤ (m0 141 6) ∧ (m0 141 6) ≤ 24 := zi_rd hIm0 zq_141 zb_22_6
    refine zw_ite (fun h3 => ?_) (fun h3 => ?_)
    · generalize hmm4 : zu_up m0 141 7 a1 = m4
      have hIm4 := zi_up hmm4 hIm0 zq_141 zb_22_7 (by omega) (by omega)
      have hFm4 := zfr_up hmm4 hFm0 zq_141 rfl
      refine zw_b (by omega) ?_
      exact zw_some ⟨hIm4, hFm4, ⟨by omega, by omega⟩⟩
    · refine zw_b (by omega) ?_
      exact zw_some ⟨hIm0, hFm0, ⟨by omega, by omega⟩⟩
set_option maxHeartbeats 4000000 in
theorem zl_82 (n : Nat) {a0 a1 a2 a3 a4 a5 : Int} {m0 : zu_m} (hc0 : zcls a0 = 28)   : ∀ k : Nat, (∀ (x6 : Int) (mh : zu_m), zi_I mh → zfr [(28, 2), (28, 3), (100, 0)] m0 mh → ((-2147483648) ≤ a1 ∧ a1 ≤ 2147483647) → ((-2147483648) ≤ a2 ∧ a2 ≤ 2147483647) → ((-2147483648) ≤ a3 ∧ a3 ≤ 2147483647) → ((-2147483648) ≤ a4 ∧ a4 ≤ 2147483647) → ((-2147483648) ≤ a5 ∧ a5 ≤ 2147483647) → (0 ≤ x6 ∧ x6 ≤ 20) → (0 ≤ mh a0 1 ∧ mh a0 1 ≤ 680) → (0 ≤ mh a0 2 ∧ mh a0 2 ≤ 0) → ((mh a0 1) = (m0 a0 1)) → ((m0 a0 1) ≤ 680) → (20 - x6) * 1 + 0 < (k : Int) → zw (zu_ex (zt_T n) 82 23 [(40, a0), (0, a1), (0, a2), (0, a3), (0, a4), (0, a5), (0, x6), (2, 0)] [] mh) (fun v m => zi_I m ∧ zfr [(28, 2), (28, 3), (100, 0)] m0 m ∧ ((-1) ≤ v ∧ v ≤ 700) ∧ (20 ≤ m a0 1 ∧ m a0 1 ≤ 700) ∧ (0 ≤ m a0 2 ∧ m a0 2 ≤ 0) ∧ (((m0 a0 1) ≤ 680 ∧ v = (m0 a0 1) + 20 ∧ (m a0 1) = (m0 a0 1) + 20) ∨ (680 < (m0 a0 1) ∧ v = -1 ∧ (m a0 1) = (m0 a0 1))))) := by
  intro k
  induction k with
  | zero => exact fun x6 mh hImh hFmh hba1 hba2 hba3 hba4 hba5 hbx6 hg6 hg7 hH0 hH1 hM => by exfalso; omega
  | succ k ih =>
    intro x6 mh hImh hFmh hba1 hba2 hba3 hba4 hba5 hbx6 hg6 hg7 hH0 hH1 hM
    refine zw_eq (zu_rega_at (zt_T n) (zm_82 n) (zdp_82 n) _ _ _ _ _ _ (zr_82_23 n _ _ a0 a1 a2 a3 a4 a5 x6 mh)) ?_
    refine zw_ite (fun h1 => ?_) (fun h1 => ?_)
    · have w2 := zu_w32_id (z := (mh a0 1) + 20) (by omega) (by omega)
      generalize hmm3 : zu_up mh a0 1 (zu_w32 ((mh a0 1) + 20)) = m3
      have hIm3 := zi_up hmm3 hImh hc0 zb_28_1 (by omega) (by omega)
      have hFm3 := zfr_up hmm3 hFmh hc0 rfl
      have r4 : 0 ≤ (m3 a0 1) ∧ (m3 a0 1) ≤ 700 := zi_rd hIm3 hc0 zb_28_1
      have e5 : (m3 a0 1) = (zu_w32 ((mh a0 1) + 20)) := (zs_eq hmm3)
      have r6 : (-2147483648) ≤ (m3 a0 2) ∧ (m3 a0 2) ≤ 2147483647 := zi_rd hIm3 hc0 zb_28_2
      have e7 : (m3 a0 2) = (mh a0 2) := (zs_ne hmm3 (Or.inr (by decide)))
      exact zw_some ⟨hIm3, hFm3, ⟨by omega, by omega⟩, ⟨by omega, by omega⟩, ⟨by omega, by omega⟩, by omega⟩
    · refine zw_ite (fun h8 => ?_) (fun h8 => ?_)
      · refine zw_ite (fun h9 => ?_) (fun h9 => ?_)
        · refine zw_ite (fun h10 => ?_) (fun h10 => ?_)
          · refine zw_ite (fun h11 => ?_) (fun h11 => ?_)
            · have w12 := zu_w32_id (z := (mh a0 1) + x6) (by omega) (by omega)
              refine zw_nif (by omega) ?_
              have d13 : Int.tmod x6 4 = x6 % 4 := Int.tmod_eq_emod_of_nonneg (by omega)
              have w14 := zu_w32_id (z := 8 * (Int.tmod x6 4)) (by omega) (by omega)
              have w15 := zu_w32_id (z := 24 - (zu_w32 (8 * (Int.tmod x6 4)))) (by omega) (by omega)
              have b16 := zu_i32_rg 6 a5 (zu_w32 (24 - (zu_w32 (8 * (Int.tmod x6 4)))))
              have b17 := zu_i32_rg 3 (zu_i32 6 a5 (zu_w32 (24 - (zu_w32 (8 * (Int.tmod x6 4)))))) 255
              have b18 : 0 ≤ (zu_w32 ((mh a0 1) + x6)) ∧ (zu_w32 ((mh a0 1) + x6)) < 700 := by omega
              refine zw_if b18 ?_
              generalize hmm19 : zu_up mh 191 (zu_w32 ((mh a0 1) + x6)) (zu_i32 3 (zu_i32 6 a5 (zu_w32 (24 - (zu_w32 (8 * (Int.tmod x6 4)))))) 255) = m19
              have hIm19 := zi_up hmm19 hImh zq_191 (zb_100 _) (by omega) (by omega)
              have hFm19 := zfr_up hmm19 hFmh zq_191 rfl
              have w20 := zu_w32_id (z := x6 + 1) (by omega) (by omega)
              have r21 : 0 ≤ (m19 a0 1) ∧ (m19 a0 1) ≤ 700 := zi_rd hIm19 hc0 zb_28_1
              have e22 : (m19 a0 1) = (mh a0 1) := (zs_ne hmm19 (Or.inl (zc_ne hc0 zq_191 (by decide))))
              have r23 : (-2147483648) ≤ (m19 a0 2) ∧ (m19 a0 2) ≤ 2147483647 := zi_rd hIm19 hc0 zb_28_2
              have e24 : (m19 a0 2) = (mh a0 2) := (zs_ne hmm19 (Or.inl (zc_ne hc0 zq_191 (by decide))))
              have hM : (20 - (zu_w32 (x6 + 1))) * 1 + 0 < (k : Int) := by omega
              exact zw_le (zu_forget (zu_lr_same (zu_lr_same (zu_lr_same (zu_lr_same (zu_lr_same (zu_lr_same (zu_lr_same (zu_lr_drop zu_lr_nil))))))))) (ih (zu_w32 (x6 + 1)) m19 hIm19 hFm19 ⟨by omega, by omega⟩ ⟨by omega, by omega⟩ ⟨by omega, by omega⟩ ⟨by omega, by omega⟩ ⟨by omega, by omega⟩ ⟨by omega, by omega⟩ ⟨by omega, by omega⟩ ⟨by omega, by omega⟩ (by omega) (by omega) hM)
            · have w25 := zu_w32_id (z := (mh a0 1) + x6) (by omega) (by omega)
              refine zw_nif (by omega) ?_
              have d26 : Int.tmod x6 4 = x6 % 4 := Int.tmod_eq_emod_of_nonneg (by omega)
              have w27 := zu_w32_id (z := 8 * (Int.tmod x6 4)) (by omega) (by omega)
              have w28 := zu_w32_id (z := 24 - (zu_w32 (8 * (Int.tmod x6 4)))) (by omega) (by omega)
              have b29 := zu_i32_rg 6 a4 (zu_w32 (24 - (zu_w32 (8 * (Int.tmod x6 4)))))
              have b30 := zu_i32_rg 3 (zu_i32 6 a4 (zu_w32 (24 - (zu_w32 (8 * (Int.tmod x6 4)))))) 255
              have b31 : 0 ≤ (zu_w32 ((mh a0 1) + x6)) ∧ (zu_w32 ((mh a0 1) + x6)) < 700 := by omega
              refine zw_if b31 ?_
              generalize hmm32 : zu_up mh 191 (zu_w32 ((mh a0 1) + x6)) (zu_i32 3 (zu_i32 6 a4 (zu_w32 (24 - (zu_w32 (8 * (Int.tmod x6 4)))))) 255) = m32
              have hIm32 := zi_up hmm32 hImh zq_191 (zb_100 _) (by omega) (by omega)
              have hFm32 := zfr_up hmm32 hFmh zq_191 rfl
              have w33 := zu_w32_id (z := x6 + 1) (by omega) (by omega)
              have r34 : 0 ≤ (m32 a0 1) ∧ (m32 a0 1) ≤ 700 := zi_rd hIm32 hc0 zb_28_1
              have e35 : (m32 a0 1) = (mh a0 1) := (zs_ne hmm32 (Or.inl (zc_ne hc0 zq_191 (by decide))))
              have r36 : (-2147483648) ≤ (m32 a0 2) ∧ (m32 a0 2) ≤ 2147483647 := zi_rd hIm32 hc0 zb_28_2
              have e37 : (m32 a0 2) = (mh a0 2) := (zs_ne hmm32 (Or.inl (zc_ne hc0 zq_191 (by decide))))
              have hM : (20 - (zu_w32 (x6 + 1))) * 1 + 0 < (k : Int) := by omega
              exact zw_le (zu_forget (zu_lr_same (zu_lr_same (zu_lr_same (zu_lr_same (zu_lr_same (zu_lr_same (zu_lr_same (zu_lr_drop zu_lr_nil))))))))) (ih (zu_w32 (x6 + 1)) m32 hIm32 hFm32 ⟨by omega, by omega⟩ ⟨by omega, by omega⟩ ⟨by omega, by omega⟩ ⟨by omega, by omega⟩ ⟨by omega, by omega⟩ ⟨by omega, by omega⟩ ⟨by omega, by omega⟩ ⟨by omega, by omega⟩ (by omega) (by omega) hM)
          · have w38 := zu_w32_id (z := (mh a0 1) + x6) (by omega) (by omega)
            refine zw_nif (by omega) ?_
            have d39 : Int.tmod x6 4 = x6 % 4 := Int.tmod_eq_emod_of_nonneg (by omega)
            have w40 := zu_w32_id (z := 8 * (Int.tmod x6 4)) (by omega) (by omega)
            have w41 := zu_w32_id (z := 24 - (zu_w32 (8 * (Int.tmod x6 4)))) (by omega) (by omega)
            have b42 := zu_i32_rg 6 a3 (zu_w32 (24 - (zu_w32 (8 * (Int.tmod x6 4)))))
            have b43 := zu_i32_rg 3 (zu_i32 6 a3 (zu_w32 (24 - (zu_w32 (8 * (Int.tmod x6 4)))))) 255
            have b44 : 0 ≤ (zu_w32 ((mh a0 1) + x6)) ∧ (zu_w32 ((mh a0 1) + x6)) < 700 := by omega
            refine zw_if b44 ?_
            generalize hmm45 : zu_up mh 191 (zu_w32 ((mh a0 1) + x6)) (zu_i32 3 (zu_i32 6 a3 (zu_w32 (24 - (zu_w32 (8 * (Int.tmod x6 4)))))) 255) = m45
            have hIm45 := zi_up hmm45 hImh zq_191 (zb_100 _) (by omega) (by omega)
            have hFm45 := zfr_up hmm45 hFmh zq_191 rfl
            have w46 := zu_w32_id (z := x6 + 1) (by omega) (by omega)
            have r47 : 0 ≤ (m45 a0 1) ∧ (m45 a0 1) ≤ 700 := zi_rd hIm45 hc0 zb_28_1
            have e48 : (m45 a0 1) = (mh a0 1) := (zs_ne hmm45 (Or.inl (zc_ne hc0 zq_191 (by decide))))
            have r49 : (-2147483648) ≤ (m45 a0 2) ∧ (m45 a0 2) ≤ 2147483647 := zi_rd hIm45 hc0 zb_28_2
            have e50 : (m45 a0 2) = (mh a0 2) := (zs_ne hmm45 (Or.inl (zc_ne hc0 zq_191 (by decide))))
            have hM : (20 - (zu_w32 (x6 + 1))) * 1 + 0 < (k : Int) := by omega
            exact zw_le (zu_forget (zu_lr_same (zu_lr_same (zu_lr_same (zu_lr_same (zu_lr_same (zu_lr_same (zu_lr_same (zu_lr_drop zu_lr_nil))))))))) (ih (zu_w32 (x6 + 1)) m45 hIm45 hFm45 ⟨by omega, by omega⟩ ⟨by omega, by omega⟩ ⟨by omega, by omega⟩ ⟨by omega, by omega⟩ ⟨by omega, by omega⟩ ⟨by omega, by omega⟩ ⟨by omega, by omega⟩ ⟨by omega, by omega⟩ (by omega) (by omega) hM)
        · have w51 := zu_w32_id (z := (mh a0 1) + x6) (by omega) (by omega)
          refine zw_nif (by omega) ?_
          have d52 : Int.tmod x6 4 = x6 % 4 := Int.tmod_eq_emod_of_nonneg (by omega)
          have w53 := zu_w32_id (z := 8 * (Int.tmod x6 4)) (by omega) (by omega)
          have w54 := zu_w32_id (z := 24 - (zu_w32 (8 * (Int.tmod x6 4)))) (by omega) (by omega)
          have b55 := zu_i32_rg 6 a2 (zu_w32 (24 - (zu_w32 (8 * (Int.tmod x6 4)))))
          have b56 := zu_i32_rg 3 (zu_i32 6 a2 (zu_w32 (24 - (zu_w32 (8 * (Int.tmod x6 4)))))) 255
          have b57 : 0 ≤ (zu_w32 ((mh a0 1) + x6)) ∧ (zu_w32 ((mh a0 1) + x6)) < 700 := by omega
          refine zw_if b57 ?_
          generalize hmm58 : zu_up mh 191 (zu_w32 ((mh a0 1) + x6)) (zu_i32 3 (zu_i32 6 a2 (zu_w32 (24 - (zu_w32 (8 * (Int.tmod x6 4)))))) 255) = m58
          have hIm58 := zi_up hmm58 hImh zq_191 (zb_100 _) (by omega) (by omega)
          have hFm58 := zfr_up hmm58 hFmh zq_191 rfl
          have w59 := zu_w32_id (z := x6 + 1) (by omega) (by omega)
          have r60 : 0 ≤ (m58 a0 1) ∧ (m58 a0 1) ≤ 700 := zi_rd hIm58 hc0 zb_28_1
          have e61 : (m58 a0 1) = (mh a0 1) := (zs_ne hmm58 (Or.inl (zc_ne hc0 zq_191 (by decide))))
          have r62 : (-2147483648) ≤ (m58 a0 2) ∧ (m58 a0 2) ≤ 2147483647 := zi_rd hIm58 hc0 zb_28_2
          have e63 : (m58 a0 2) = (mh a0 2) := (zs_ne hmm58 (Or.inl (zc_ne hc0 zq_191 (by decide))))
          have hM : (20 - (zu_w32 (x6 + 1))) * 1 + 0 < (k : Int) := by omega
          exact zw_le (zu_forget (zu_lr_same (zu_lr_same (zu_lr_same (zu_lr_same (zu_lr_same (zu_lr_same (zu_lr_same (zu_lr_drop zu_lr_nil))))))))) (ih (zu_w32 (x6 + 1)) m58 hIm58 hFm58 ⟨by omega, by omega⟩ ⟨by omega, by omega⟩ ⟨by omega, by omega⟩ ⟨by omega, by omega⟩ ⟨by omega, by omega⟩ ⟨by omega, by omega⟩ ⟨by omega, by omega⟩ ⟨by omega, by omega⟩ (by omega) (by omega) hM)
      · have w64 := zu_w32_id (z := (mh a0 1) + x6) (by omega) (by omega)
        refine zw_nif (by omega) ?_
        have d65 : Int.tmod x6 4 = x6 % 4 := Int.tmod_eq_emod_of_nonneg (by omega)
        have w66 := zu_w32_id (z := 8 * (Int.tmod x6 4)) (by omega) (by omega)
        have w67 := zu_w32_id (z := 24 - (zu_w32 (8 * (Int.tmod x6 4)))) (by omega) (by omega)
        have b68 := zu_i32_rg 6 a1 (zu_w32 (24 - (zu_w32 (8 * (Int.tmod x6 4)))))
        have b69 := zu_i32_rg 3 (zu_i32 6 a1 (zu_w32 (24 - (zu_w32 (8 * (Int.tmod x6 4)))))) 255
        have b70 : 0 ≤ (zu_w32 ((mh a0 1) + x6)) ∧ (zu_w32 ((mh a0 1) + x6)) < 700 := by omega
        refine zw_if b70 ?_
        generalize hmm71 : zu_up mh 191 (zu_w32 ((mh a0 1) + x6)) (zu_i32 3 (zu_i32 6 a1 (zu_w32 (24 - (zu_w32 (8 * (Int.tmod x6 4)))))) 255) = m71
        have hIm71 := zi_up hmm71 hImh zq_191 (zb_100 _) (by omega) (by omega)
        have hFm71 := zfr_up hmm71 hFmh zq_191 rfl
        have w72 := zu_w32_id (z := x6 + 1) (by omega) (by omega)
        have r73 : 0 ≤ (m71 a0 1) ∧ (m71 a0 1) ≤ 700 := zi_rd hIm71 hc0 zb_28_1
        have e74 : (m71 a0 1) = (mh a0 1) := (zs_ne hmm71 (Or.inl (zc_ne hc0 zq_191 (by decide))))
        have r75 : (-2147483648) ≤ (m71 a0 2) ∧ (m71 a0 2) ≤ 2147483647 := zi_rd hIm71 hc0 zb_28_2
        have e76 : (m71 a0 2) = (mh a0 2) := (zs_ne hmm71 (Or.inl (zc_ne hc0 zq_191 (by decide))))
        have hM : (20 - (zu_w32 (x6 + 1))) * 1 + 0 < (k : Int) := by omega
        exact zw_le (zu_forget (zu_lr_same (zu_lr_same (zu_lr_same (zu_lr_same (zu_lr_same (zu_lr_same (zu_lr_same (zu_lr_drop zu_lr_nil))))))))) (ih (zu_w32 (x6 + 1)) m71 hIm71 hFm71 ⟨by omega, by omega⟩ ⟨by omega, by omega⟩ ⟨by omega, by omega⟩ ⟨by omega, by omega⟩ ⟨by omega, by omega⟩ ⟨by omega, by omega⟩ ⟨by omega, by omega⟩ ⟨by omega, by omega⟩ (by omega) (by omega) hM)
set_option maxHeartbeats 4000000 in
theorem zk_82 (n : Nat) {a0 a1 a2 a3 a4 a5 : Int} {m0 : zu_m} (hIm0 : zi_I m0) (hc0 : zcls a0 = 28) (ha1 : (-2147483648) ≤ a1 ∧ a1 ≤ 2147483647) (ha2 : (-2147483648) ≤ a2 ∧ a2 ≤ 2147483647) (ha3 : (-2147483648) ≤ a3 ∧ a3 ≤ 2147483647) (ha4 : (-2147483648) ≤ a4 ∧ a4 ≤ 2147483647) (ha5 : (-2147483648) ≤ a5 ∧ a5 ≤ 2147483647)     : zw (zu_call (zt_T n) 82 [(40, a0), (0, a1), (0, a2), (0, a3), (0, a4), (0, a5)] m0) (fun v m => zi_I m ∧ zfr [(28, 2), (28, 3), (100, 0)] m0 m ∧ ((-1) ≤ v ∧ v ≤ 700) ∧ (20 ≤ m a0 1 ∧ m a0 1 ≤ 700) ∧ (0 ≤ m a0 2 ∧ m a0 2 ≤ 0) ∧ (((m0 a0 1) ≤ 680 ∧ v = (m0 a0 1) + 20 ∧ (m a0 1) = (m0 a0 1) + 20) ∨ (680 < (m0 a0 1) ∧ v = -1 ∧ (m a0 1) = (m0 a0 1)))) := by
  have hFm0 : zfr [(28, 2), (28, 3), (100, 0)] m0 m0 := zfr_rf _ _
  have r77 : 0 ≤ (m0 a0 1) ∧ (m0 a0 1) ≤ 700 := zi_rd hIm0 hc0 zb_28_1
  refine zw_eq (zu_call_at (zt_T n) (zm_82 n) (zdp_82 n) _ _ _ _ _ rfl (zr_82_0 n _ _ a0 a1 a2 a3 a4 a5 m0)) ?_
  generalize hmm78 : zu_up m0 a0 2 0 = m78
  have hIm78 := zi_up hmm78 hIm0 hc0 zb_28_2 (by omega) (by omega)
  have hFm78 := zfr_up hmm78 hFm0 hc0 rfl
  have r79 : 0 ≤ (m78 a0 1) ∧ (m78 a0 1) ≤ 700 := zi_rd hIm78 hc0 zb_28_1
  have e80 : (m78 a0 1) = (m0 a0 1) := (zs_ne hmm78 (Or.inr (by decide)))
  have w81 := zu_w32_id (z := (m78 a0 1) + 20) (by omega) (by omega)
  refine zw_ite (fun h82 => ?_) (fun h82 => ?_)
  · have r83 : (-2147483648) ≤ (m78 a0 2) ∧ (m78 a0 2) ≤ 2147483647 := zi_rd hIm78 hc0 zb_28_2
    have e84 : (m78 a0 2) = 0 := (zs_eq hmm78)
    have hM : (20 - 0) * 1 + 0 < ((21 : Nat) : Int) := by omega
    exact (zl_82 n (m0 := m0) hc0 21) 0 m78 hIm78 hFm78 ⟨by omega, by omega⟩ ⟨by omega, by omega⟩ ⟨by omega, by omega⟩ ⟨by omega, by omega⟩ ⟨by omega, by omega⟩ ⟨by omega, by omega⟩ ⟨by omega, by omega⟩ ⟨by omega, by omega⟩ (by omega) (by omega) hM
  · have r85 : (-2147483648) ≤ (m78 a0 2) ∧ (m78 a0 2) ≤ 2147483647 := zi_rd hIm78 hc0 zb_28_2
    have e86 : (m78 a0 2) = 0 := (zs_eq hmm78)
    exact zw_some ⟨hIm78, hFm78, ⟨by omega, by omega⟩, ⟨by omega, by omega⟩, ⟨by omega, by omega⟩, by omega⟩
set_option maxHeartbeats 4000000 in
theorem zl_86 (n : Nat) {a0 a1 a2 : Int} {m0 : zu_m} (hc0 : zcls a0 = 28)   : ∀ k : Nat, (∀ (x3 x4 : Int) (mh : zu_m), zi_I mh → zfr [] m0 mh → (0 ≤ a1 ∧ a1 ≤ 699) → (0 ≤ a2 ∧ a2 ≤ 700) → (0 ≤ x3 ∧ x3 ≤ 157) → (0 ≤ x4 ∧ x4 ≤ 157) → (x3 ≤ x4) → (x3 = znb mh (Int.toNat x4)) → (zR_WD mh) → (157 - x4) * 315 + 314 < (k : Int) → zw (zu_ex (zt_T n) 86 5 [(40, a0), (0, a1), (0, a2), (0, x3), (0, x4), (2, 0), (2, 0), (2, 0)] [] mh) (fun v m => zi_I m ∧ zfr [] m0 m ∧ zR_WD m ∧ ((-1) ≤ v ∧ v ≤ 160) ∧ (v ≤ 32))) ∧ (∀ (x3 x4 x5 : Int) (mh : zu_m), zi_I mh → zfr [] m0 mh → (0 ≤ a1 ∧ a1 ≤ 699) → (0 ≤ a2 ∧ a2 ≤ 700) → (0 ≤ x3 ∧ x3 ≤ 156) → (0 ≤ x4 ∧ x4 ≤ 156) → (0 ≤ x5 ∧ x5 ≤ 156) → (x3 ≤ x4) → (x4 + x5 ≤ 156) → (x3 = znb mh (Int.toNat (x4 + x5))) → (zR_WD mh) → (156 - x5) * 1 + (157 - x4) * 315 + 157 < (k : Int) → zw (zu_ex (zt_T n) 86 18 [(40, a0), (0, a1), (0, a2), (0, x3), (0, x4), (0, x5), (2, 0), (2, 0)] [] mh) (fun v m => zi_I m ∧ zfr [] m0 m ∧ zR_WD m ∧ ((-1) ≤ v ∧ v ≤ 160) ∧ (v ≤ 32))) ∧ (∀ (x3 x4 x5 x6 x7 : Int) (mh : zu_m), zi_I mh → zfr [] m0 mh → (0 ≤ a1 ∧ a1 ≤ 699) → (0 ≤ a2 ∧ a2 ≤ 700) → (0 ≤ x3 ∧ x3 ≤ 156) → (0 ≤ x4 ∧ x4 ≤ 156) → (0 ≤ x5 ∧ x5 ≤ 156) → (0 ≤ x6 ∧ x6 ≤ 1) → (0 ≤ x7 ∧ x7 ≤ 156) → (x3 ≤ x4) → (x4 + x5 ≤ 156) → (x6 = 1 → x5 = a2 - a1) → (x7 ≤ x5) → (x3 = znb mh (Int.toNat (x4 + x5))) → (mh 192 (x4 + x5) = 32) → (zR_WD mh) → (156 - x7) * 1 + (157 - x4) * 315 + 0 < (k : Int) → zw (zu_ex (zt_T n) 86 57 [(40, a0), (0, a1), (0, a2), (0, x3), (0, x4), (0, x5), (0, x6), (0, x7)] [] mh) (fun v m => zi_I m ∧ zfr [] m0 m ∧ zR_WD m ∧ ((-1) ≤ v ∧ v ≤ 160) ∧ (v ≤ 32))) := by
  intro k
  induction k with
  | zero => exact ⟨fun x3 x4 mh hImh hFmh hba1 hba2 hbx3 hbx4 hH0 hH1 hRWDmh hM => by exfalso; omega, fun x3 x4 x5 mh hImh hFmh hba1 hba2 hbx3 hbx4 hbx5 hH0 hH1 hH2 hRWDmh hM => by exfalso; omega, fun x3 x4 x5 x6 x7 mh hImh hFmh hba1 hba2 hbx3 hbx4 hbx5 hbx6 hbx7 hH0 hH1 hH2 hH3 hH4 hH5 hRWDmh hM => by exfalso; omega⟩
  | succ k ih =>
    refine ⟨?_, ?_, ?_⟩
    · intro x3 x4 mh hImh hFmh hba1 hba2 hbx3 hbx4 hH0 hH1 hRWDmh hM
      refine zw_eq (zu_rega_at (zt_T n) (zm_86 n) (zdp_86 n) _ _ _ _ _ _ (zr_86_5 n _ _ a0 a1 a2 x3 x4 mh)) ?_
      refine zw_ite (fun h1 => ?_) (fun h1 => ?_)
      · exact zw_some ⟨hImh, hFmh, hRWDmh, ⟨by omega, by omega⟩, (by omega)⟩
      · have hM : (156 - 0) * 1 + (157 - x4) * 315 + 157 < (k : Int) := by omega
        exact ih.2.1 x3 x4 0 mh hImh hFmh ⟨by omega, by omega⟩ ⟨by omega, by omega⟩ ⟨by omega, by omega⟩ ⟨by omega, by omega⟩ ⟨by omega, by omega⟩ (by omega) (by omega) (znb_c hH1 (by omega)) hRWDmh hM
    · intro x3 x4 x5 mh hImh hFmh hba1 hba2 hbx3 hbx4 hbx5 hH0 hH1 hH2 hRWDmh hM
      refine zw_eq (zu_rega_at (zt_T n) (zm_86 n) (zdp_86 n) _ _ _ _ _ _ (zr_86_18 n _ _ a0 a1 a2 x3 x4 x5 mh)) ?_
      have w2 := zu_w32_id (z := x4 + x5) (by omega) (by omega)
      have s3 : (zu_w32 (x4 + x5)) = 156 → mh 192 (zu_w32 (x4 + x5)) = 32 := fun e => by rw [e]; exact hRWDmh.1
      have b4 : 0 ≤ (zu_w32 (x4 + x5)) ∧ (zu_w32 (x4 + x5)) < 157 := by omega
      refine zw_if b4 ?_
      have r5 : (-2147483648) ≤ (mh 192 (zu_w32 (x4 + x5))) ∧ (mh 192 (zu_w32 (x4 + x5))) ≤ 2147483647 := zi_rd hImh zq_192 (zb_101 _)
      refine zw_ite (fun h6 => ?_) (fun h6 => ?_)
      · have w7 := zu_w32_id (z := a2 - a1) (by omega) (by omega)
        refine zw_ite (fun h8 => ?_) (fun h8 => ?_)
        · have hM : (156 - 0) * 1 + (157 - x4) * 315 + 0 < (k : Int) := by omega
          exact ih.2.2 x3 x4 x5 0 0 mh hImh hFmh ⟨by omega, by omega⟩ ⟨by omega, by omega⟩ ⟨by omega, by omega⟩ ⟨by omega, by omega⟩ ⟨by omega, by omega⟩ ⟨by omega, by omega⟩ ⟨by omega, by omega⟩ (by omega) (by omega) (by omega) (by omega) hH2 (znb_e (q := (zu_w32 (x4 + x5))) (by omega) (by omega)) hRWDmh hM
        · have hM : (156 - 0) * 1 + (157 - x4) * 315 + 0 < (k : Int) := by omega
          exact ih.2.2 x3 x4 x5 1 0 mh hImh hFmh ⟨by omega, by omega⟩ ⟨by omega, by omega⟩ ⟨by omega, by omega⟩ ⟨by omega, by omega⟩ ⟨by omega, by omega⟩ ⟨by omega, by omega⟩ ⟨by omega, by omega⟩ (by omega) (by omega) (by omega) (by omega) hH2 (znb_e (q := (zu_w32 (x4 + x5))) (by omega) (by omega)) hRWDmh hM
      · have w9 := zu_w32_id (z := x5 + 1) (by omega) (by omega)
        have hM : (156 - (zu_w32 (x5 + 1))) * 1 + (157 - x4) * 315 + 157 < (k : Int) := by omega
        exact ih.2.1 x3 x4 (zu_w32 (x5 + 1)) mh hImh hFmh ⟨by omega, by omega⟩ ⟨by omega, by omega⟩ ⟨by omega, by omega⟩ ⟨by omega, by omega⟩ ⟨by omega, by omega⟩ (by omega) (by omega) (znb_n (q := (zu_w32 (x4 + x5))) hH2 (by omega) (by omega) (by omega) (by omega)) hRWDmh hM
    · intro x3 x4 x5 x6 x7 mh hImh hFmh hba1 hba2 hbx3 hbx4 hbx5 hbx6 hbx7 hH0 hH1 hH2 hH3 hH4 hH5 hRWDmh hM
      refine zw_eq (zu_rega_at (zt_T n) (zm_86 n) (zdp_86 n) _ _ _ _ _ _ (zr_86_57 n _ _ a0 a1 a2 x3 x4 x5 x6 x7 mh)) ?_
      refine zw_ite (fun h10 => ?_) (fun h10 => ?_)
      · refine zw_ite (fun h11 => ?_) (fun h11 => ?_)
        · have w12 := zu_w32_id (z := x5 + 1) (by omega) (by omega)
          have w13 := zu_w32_id (z := x4 + (zu_w32 (x5 + 1))) (by omega) (by omega)
          have w14 := zu_w32_id (z := x3 + 1) (by omega) (by omega)
          have hM : (157 - (zu_w32 (x4 + (zu_w32 (x5 + 1))))) * 315 + 314 < (k : Int) := by omega
          exact zw_le (zu_forget (zu_lr_same (zu_lr_same (zu_lr_same (zu_lr_same (zu_lr_same (zu_lr_drop (zu_lr_drop (zu_lr_drop zu_lr_nil))))))))) (ih.1 (zu_w32 (x3 + 1)) (zu_w32 (x4 + (zu_w32 (x5 + 1)))) mh hImh hFmh ⟨by omega, by omega⟩ ⟨by omega, by omega⟩ ⟨by omega, by omega⟩ ⟨by omega, by omega⟩ (by omega) (znb_s hH4 (by omega) hH5 (by omega) (by omega)) hRWDmh hM)
        · exact zw_some ⟨hImh, hFmh, hRWDmh, ⟨by omega, by omega⟩, (znb_le hH4 hH5 (by omega) (by omega) hRWDmh.2)⟩
      · refine zw_ite (fun h15 => ?_) (fun h15 => ?_)
        · refine zw_ite (fun h16 => ?_) (fun h16 => ?_)
          · have w17 := zu_w32_id (z := x5 + 1) (by omega) (by omega)
            have w18 := zu_w32_id (z := x4 + (zu_w32 (x5 + 1))) (by omega) (by omega)
            have w19 := zu_w32_id (z := x3 + 1) (by omega) (by omega)
            have hM : (157 - (zu_w32 (x4 + (zu_w32 (x5 + 1))))) * 315 + 314 < (k : Int) := by omega
            exact zw_le (zu_forget (zu_lr_same (zu_lr_same (zu_lr_same (zu_lr_same (zu_lr_same (zu_lr_drop (zu_lr_drop (zu_lr_drop zu_lr_nil))))))))) (ih.1 (zu_w32 (x3 + 1)) (zu_w32 (x4 + (zu_w32 (x5 + 1)))) mh hImh hFmh ⟨by omega, by omega⟩ ⟨by omega, by omega⟩ ⟨by omega, by omega⟩ ⟨by omega, by omega⟩ (by omega) (znb_s hH4 (by omega) hH5 (by omega) (by omega)) hRWDmh hM)
          · exfalso; omega
        · have w20 := zu_w32_id (z := x4 + x7) (by omega) (by omega)
          have b21 : 0 ≤ (zu_w32 (x4 + x7)) ∧ (zu_w32 (x4 + x7)) < 157 := by omega
          refine zw_if b21 ?_
          have r22 : (-2147483648) ≤ (mh 192 (zu_w32 (x4 + x7))) ∧ (mh 192 (zu_w32 (x4 + x7))) ≤ 2147483647 := zi_rd hImh zq_192 (zb_101 _)
          have w23 := zu_w32_id (z := a1 + x7) (by omega) (by omega)
          have b24 : 0 ≤ (zu_w32 (a1 + x7)) ∧ (zu_w32 (a1 + x7)) < 700 := by omega
          refine zw_if b24 ?_
          have r25 : (-2147483648) ≤ (mh 191 (zu_w32 (a1 + x7))) ∧ (mh 191 (zu_w32 (a1 + x7))) ≤ 2147483647 := zi_rd hImh zq_191 (zb_100 _)
          refine zw_ite (fun h26 => ?_) (fun h26 => ?_)
          · have w27 := zu_w32_id (z := x7 + 1) (by omega) (by omega)
            have hM : (156 - (zu_w32 (x7 + 1))) * 1 + (157 - x4) * 315 + 0 < (k : Int) := by omega
            exact ih.2.2 x3 x4 x5 0 (zu_w32 (x7 + 1)) mh hImh hFmh ⟨by omega, by omega⟩ ⟨by omega, by omega⟩ ⟨by omega, by omega⟩ ⟨by omega, by omega⟩ ⟨by omega, by omega⟩ ⟨by omega, by omega⟩ ⟨by omega, by omega⟩ (by omega) (by omega) (by omega) (by omega) hH4 hH5 hRWDmh hM
          · have w28 := zu_w32_id (z := x7 + 1) (by omega) (by omega)
            have hM : (156 - (zu_w32 (x7 + 1))) * 1 + (157 - x4) * 315 + 0 < (k : Int) := by omega
            exact ih.2.2 x3 x4 x5 1 (zu_w32 (x7 + 1)) mh hImh hFmh ⟨by omega, by omega⟩ ⟨by omega, by omega⟩ ⟨by omega, by omega⟩ ⟨by omega, by omega⟩ ⟨by omega, by omega⟩ ⟨by omega, by omega⟩ ⟨by omega, by omega⟩ (by omega) (by omega) (by omega) (by omega) hH4 hH5 hRWDmh hM
set_option maxHeartbeats 4000000 in
theorem zk_86 (n : Nat) {a0 a1 a2 : Int} {m0 : zu_m} (hIm0 : zi_I m0) (hc0 : zcls a0 = 28) (ha1 : 0 ≤ a1 ∧ a1 ≤ 699) (ha2 : 0 ≤ a2 ∧ a2 ≤ 700)    (hRWDm0 : zR_WD m0) : zw (zu_call (zt_T n) 86 [(40, a0), (0, a1), (0, a2)] m0) (fun v m => zi_I m ∧ zfr [] m0 m ∧ zR_WD m ∧ ((-1) ≤ v ∧ v ≤ 160) ∧ (v ≤ 32)) := by
  have hFm0 : zfr [] m0 m0 := zfr_rf _ _
  refine zw_eq (zu_call_at (zt_T n) (zm_86 n) (zdp_86 n) _ _ _ _ _ rfl (zr_86_0 n _ _ a0 a1 a2 m0)) ?_
  have hM : (157 - 0) * 315 + 314 < ((49770 : Nat) : Int) := by omega
  exact (zl_86 n (m0 := m0) hc0 49770).1 0 0 m0 hIm0 hFm0 ⟨by omega, by omega⟩ ⟨by omega, by omega⟩ ⟨by omega, by omega⟩ ⟨by omega, by omega⟩ (by omega) (znb_0 _) hRWDm0 hM
set_option maxHeartbeats 4000000 in
theorem zl_90 (n : Nat) {a0 : Int} {m0 : zu_m} (hc0 : zcls a0 = 28)  (hxp0 : (m0 a0 7) < (m0 a0 6)) : ∀ k : Nat, (∀ (mh : zu_m), zi_I mh → zfr [(28, 8), (28, 9), (28, 10)] m0 mh → (1 ≤ mh a0 6 ∧ mh a0 6 ≤ 700) → (1 ≤ mh a0 7 ∧ mh a0 7 ≤ 700) → (60 ≤ mh a0 9 ∧ mh a0 9 ≤ 63) → ((m0 a0 7) < (mh a0 7)) → (zR_NS mh) → 6 < (k : Int) → zw (zu_ex (zt_T n) 90 50 [(40, a0), (2, 0), (2, 0), (2, 0)] [] mh) (fun v m => zi_I m ∧ zfr [(28, 8), (28, 9), (28, 10)] m0 m ∧ zR_NS m ∧ True ∧ (1 ≤ m a0 7 ∧ m a0 7 ≤ 700) ∧ (4 ≤ m a0 8 ∧ m a0 8 ≤ 6) ∧ ((m0 a0 7) < (m a0 7)) ∧ ((m a0 8) = 5 → (0 ≤ (m a0 9) ∧ (m a0 9) ≤ 5)) ∧ (4 ≤ (m a0 8)))) ∧ (∀ (x1 x2 x3 : Int) (mh : zu_m), zi_I mh → zfr [(28, 8), (28, 9), (28, 10)] m0 mh → ((-2147483648) ≤ x1 ∧ x1 ≤ 2147483647) → (0 ≤ x2 ∧ x2 ≤ 1) → (0 ≤ x3 ∧ x3 ≤ 1) → (1 ≤ mh a0 6 ∧ mh a0 6 ≤ 700) → (1 ≤ mh a0 7 ∧ mh a0 7 ≤ 700) → (60 ≤ mh a0 9 ∧ mh a0 9 ≤ 63) → ((m0 a0 7) < (mh a0 7)) → (zR_NS mh) → 5 < (k : Int) → zw (zu_ex (zt_T n) 90 135 [(40, a0), (0, x1), (0, x2), (0, x3)] [] mh) (fun v m => zi_I m ∧ zfr [(28, 8), (28, 9), (28, 10)] m0 m ∧ zR_NS m ∧ True ∧ (1 ≤ m a0 7 ∧ m a0 7 ≤ 700) ∧ (4 ≤ m a0 8 ∧ m a0 8 ≤ 6) ∧ ((m0 a0 7) < (m a0 7)) ∧ ((m a0 8) = 5 → (0 ≤ (m a0 9) ∧ (m a0 9) ≤ 5)) ∧ (4 ≤ (m a0 8)))) ∧ (∀ (x1 x2 x3 y0 y1 : Int) (mh : zu_m), zi_I mh → zfr [(28, 8), (28, 9), (28, 10)] m0 mh → ((-2147483648) ≤ x1 ∧ x1 ≤ 2147483647) → (0 ≤ x2 ∧ x2 ≤ 1) → (0 ≤ x3 ∧ x3 ≤ 1) → (0 ≤ y0 ∧ y0 ≤ 5) → (zcls y1 = 28) → (1 ≤ mh a0 6 ∧ mh a0 6 ≤ 700) → (1 ≤ mh a0 7 ∧ mh a0 7 ≤ 700) → (5 ≤ mh a0 8 ∧ mh a0 8 ≤ 5) → (60 ≤ mh a0 9 ∧ mh a0 9 ≤ 63) → ((mh a0 8) = 5) → (0 ≤ y0) → (y0 ≤ 5) → ((m0 a0 7) < (mh a0 7)) → (a0 = y1) → (zR_NS mh) → 4 < (k : Int) → zw (zu_ex (zt_T n) 90 192 [(40, a0), (0, x1), (0, x2), (0, x3)] [(0, y0), (40, y1)] mh) (fun v m => zi_I m ∧ zfr [(28, 8), (28, 9), (28, 10)] m0 m ∧ zR_NS m ∧ True ∧ (1 ≤ m a0 7 ∧ m a0 7 ≤ 700) ∧ (4 ≤ m a0 8 ∧ m a0 8 ≤ 6) ∧ ((m0 a0 7) < (m a0 7)) ∧ ((m a0 8) = 5 → (0 ≤ (m a0 9) ∧ (m a0 9) ≤ 5)) ∧ (4 ≤ (m a0 8)))) ∧ (∀ (mh : zu_m), zi_I mh → zfr [(28, 8), (28, 9), (28, 10)] m0 mh → (1 ≤ mh a0 6 ∧ mh a0 6 ≤ 700) → (1 ≤ mh a0 7 ∧ mh a0 7 ≤ 700) → ((m0 a0 7) < (mh a0 7)) → (zR_NS mh) → 3 < (k : Int) → zw (zu_ex (zt_T n) 90 198 [(40, a0), (2, 0), (2, 0), (2, 0)] [] mh) (fun v m => zi_I m ∧ zfr [(28, 8), (28, 9), (28, 10)] m0 m ∧ zR_NS m ∧ True ∧ (1 ≤ m a0 7 ∧ m a0 7 ≤ 700) ∧ (4 ≤ m a0 8 ∧ m a0 8 ≤ 6) ∧ ((m0 a0 7) < (m a0 7)) ∧ ((m a0 8) = 5 → (0 ≤ (m a0 9) ∧ (m a0 9) ≤ 5)) ∧ (4 ≤ (m a0 8)))) ∧ (∀ (mh : zu_m), zi_I mh → zfr [(28, 8), (28, 9), (28, 10)] m0 mh → (1 ≤ mh a0 6 ∧ mh a0 6 ≤ 700) → (1 ≤ mh a0 7 ∧ mh a0 7 ≤ 700) → (36 ≤ mh a0 9 ∧ mh a0 9 ≤ 59) → ((m0 a0 7) < (mh a0 7)) → (zR_NS mh) → 2 < (k : Int) → zw (zu_ex (zt_T n) 90 270 [(40, a0), (2, 0), (2, 0), (2, 0)] [] mh) (fun v m => zi_I m ∧ zfr [(28, 8), (28, 9), (28, 10)] m0 m ∧ zR_NS m ∧ True ∧ (1 ≤ m a0 7 ∧ m a0 7 ≤ 700) ∧ (4 ≤ m a0 8 ∧ m a0 8 ≤ 6) ∧ ((m0 a0 7) < (m a0 7)) ∧ ((m a0 8) = 5 → (0 ≤ (m a0 9) ∧ (m a0 9) ≤ 5)) ∧ (4 ≤ (m a0 8)))) ∧ (∀ (y0 : Int) (mh : zu_m), zi_I mh → zfr [(28, 8), (28, 9), (28, 10)] m0 mh → (0 ≤ y0 ∧ y0 ≤ 1) → (1 ≤ mh a0 6 ∧ mh a0 6 ≤ 700) → (1 ≤ mh a0 7 ∧ mh a0 7 ≤ 700) → ((m0 a0 7) < (mh a0 7)) → (zR_NS mh) → 1 < (k : Int) → zw (zu_ex (zt_T n) 90 275 [(40, a0), (2, 0), (2, 0), (2, 0)] [(0, y0)] mh) (fun v m => zi_I m ∧ zfr [(28, 8), (28, 9), (28, 10)] m0 m ∧ zR_NS m ∧ True ∧ (1 ≤ m a0 7 ∧ m a0 7 ≤ 700) ∧ (4 ≤ m a0 8 ∧ m a0 8 ≤ 6) ∧ ((m0 a0 7) < (m a0 7)) ∧ ((m a0 8) = 5 → (0 ≤ (m a0 9) ∧ (m a0 9) ≤ 5)) ∧ (4 ≤ (m a0 8)))) ∧ (∀ (x1 y0 y1 : Int) (mh : zu_m), zi_I mh → zfr [(28, 8), (28, 9), (28, 10)] m0 mh → (0 ≤ x1 ∧ x1 ≤ 1) → (4 ≤ y0 ∧ y0 ≤ 6) → (zcls y1 = 28) → (1 ≤ mh a0 6 ∧ mh a0 6 ≤ 700) → (1 ≤ mh a0 7 ∧ mh a0 7 ≤ 700) → ((m0 a0 7) < (mh a0 7)) → (y0 = 4 ∨ y0 = 6) → (a0 = y1) → (zR_NS mh) → 0 < (k : Int) → zw (zu_ex (zt_T n) 90 287 [(40, a0), (0, x1), (2, 0), (2, 0)] [(0, y0), (40, y1)] mh) (fun v m => zi_I m ∧ zfr [(28, 8), (28, 9), (28, 10)] m0 m ∧ zR_NS m ∧ True ∧ (1 ≤ m a0 7 ∧ m a0 7 ≤ 700) ∧ (4 ≤ m a0 8 ∧ m a0 8 ≤ 6) ∧ ((m0 a0 7) < (m a0 7)) ∧ ((m a0 8) = 5 → (0 ≤ (m a0 9) ∧ (m a0 9) ≤ 5)) ∧ (4 ≤ (m a0 8)))) := by
  intro k
  induction k with
  | zero => exact ⟨fun mh hImh hFmh hg0 hg1 hg2 hH0 hRNSmh hM => by exfalso; omega, fun x1 x2 x3 mh hImh hFmh hbx1 hbx2 hbx3 hg3 hg4 hg5 hH0 hRNSmh hM => by exfalso; omega, fun x1 x2 x3 y0 y1 mh hImh hFmh hbx1 hbx2 hbx3 hby0 hy1 hg5 hg6 hg7 hg8 hH0 hH1 hH2 hH3 hH4 hRNSmh hM => by exfalso; omega, fun mh hImh hFmh hg0 hg1 hH0 hRNSmh hM => by exfalso; omega, fun mh hImh hFmh hg0 hg1 hg2 hH0 hRNSmh hM => by exfalso; omega, fun y0 mh hImh hFmh hby0 hg1 hg2 hH0 hRNSmh hM => by exfalso; omega, fun x1 y0 y1 mh hImh hFmh hbx1 hby0 hy1 hg3 hg4 hH0 hH1 hH2 hRNSmh hM => by exfalso; omega⟩
  | succ k ih =>
    refine ⟨?_, ?_, ?_, ?_, ?_, ?_, ?_⟩
    · intro mh hImh hFmh hg0 hg1 hg2 hH0 hRNSmh hM
      refine zw_eq (zu_rega_at (zt_T n) (zm_90 n) (zdp_90 n) _ _ _ _ _ _ (zr_90_50 n _ _ a0 mh)) ?_
      have s1 := hRNSmh a0 hc0
      refine zw_ite (fun h2 => ?_) (fun h2 => ?_)
      · refine zw_ite (fun h3 => ?_) (fun h3 => ?_)
        · refine zw_ite (fun h4 => ?_) (fun h4 => ?_)
          · refine zw_ite (fun h5 => ?_) (fun h5 => ?_)
            · exfalso; omega
            · refine zw_ite (fun h6 => ?_) (fun h6 => ?_)
              · have hM : 5 < (k : Int) := by omega
                exact ih.2.1 0 0 0 mh hImh hFmh ⟨by omega, by omega⟩ ⟨by omega, by omega⟩ ⟨by omega, by omega⟩ ⟨by omega, by omega⟩ ⟨by omega, by omega⟩ ⟨by omega, by omega⟩ (by omega) hRNSmh hM
              · exfalso; omega
          · exfalso; omega
        · refine zw_ite (fun h7 => ?_) (fun h7 => ?_)
          · refine zw_ite (fun h8 => ?_) (fun h8 => ?_)
            · refine zw_ite (fun h9 => ?_) (fun h9 => ?_)
              · exfalso; omega
              · refine zw_ite (fun h10 => ?_) (fun h10 => ?_)
                · have hM : 5 < (k : Int) := by omega
                  exact ih.2.1 0 0 0 mh hImh hFmh ⟨by omega, by omega⟩ ⟨by omega, by omega⟩ ⟨by omega, by omega⟩ ⟨by omega, by omega⟩ ⟨by omega, by omega⟩ ⟨by omega, by omega⟩ (by omega) hRNSmh hM
                · exfalso; omega
            · refine zw_ite (fun h11 => ?_) (fun h11 => ?_)
              · refine zw_ite (fun h12 => ?_) (fun h12 => ?_)
                · exfalso; omega
                · refine zw_ite (fun h13 => ?_) (fun h13 => ?_)
                  · have hM : 5 < (k : Int) := by omega
                    exact ih.2.1 0 0 0 mh hImh hFmh ⟨by omega, by omega⟩ ⟨by omega, by omega⟩ ⟨by omega, by omega⟩ ⟨by omega, by omega⟩ ⟨by omega, by omega⟩ ⟨by omega, by omega⟩ (by omega) hRNSmh hM
                  · exfalso; omega
              · exfalso; omega
          · exfalso; omega
      · have b14 : 0 ≤ (mh a0 7) ∧ (mh a0 7) < 700 := by omega
        refine zw_if b14 ?_
        have r15 : (-2147483648) ≤ (mh 191 (mh a0 7)) ∧ (mh 191 (mh a0 7)) ≤ 2147483647 := zi_rd hImh zq_191 (zb_100 _)
        refine zw_ite (fun h16 => ?_) (fun h16 => ?_)
        · refine zw_ite (fun h17 => ?_) (fun h17 => ?_)
          · refine zw_ite (fun h18 => ?_) (fun h18 => ?_)
            · exfalso; omega
            · refine zw_ite (fun h19 => ?_) (fun h19 => ?_)
              · have hM : 5 < (k : Int) := by omega
                exact ih.2.1 (mh 191 (mh a0 7)) 0 0 mh hImh hFmh ⟨by omega, by omega⟩ ⟨by omega, by omega⟩ ⟨by omega, by omega⟩ ⟨by omega, by omega⟩ ⟨by omega, by omega⟩ ⟨by omega, by omega⟩ (by omega) hRNSmh hM
              · exfalso; omega
          · exfalso; omega
        · refine zw_ite (fun h20 => ?_) (fun h20 => ?_)
          · refine zw_ite (fun h21 => ?_) (fun h21 => ?_)
            · refine zw_ite (fun h22 => ?_) (fun h22 => ?_)
              · exfalso; omega
              · refine zw_ite (fun h23 => ?_) (fun h23 => ?_)
                · have hM : 5 < (k : Int) := by omega
                  exact ih.2.1 (mh 191 (mh a0 7)) 0 0 mh hImh hFmh ⟨by omega, by omega⟩ ⟨by omega, by omega⟩ ⟨by omega, by omega⟩ ⟨by omega, by omega⟩ ⟨by omega, by omega⟩ ⟨by omega, by omega⟩ (by omega) hRNSmh hM
                · exfalso; omega
            · refine zw_ite (fun h24 => ?_) (fun h24 => ?_)
              · refine zw_ite (fun h25 => ?_) (fun h25 => ?_)
                · exfalso; omega
                · refine zw_ite (fun h26 => ?_) (fun h26 => ?_)
                  · have hM : 5 < (k : Int) := by omega
                    exact ih.2.1 (mh 191 (mh a0 7)) 0 0 mh hImh hFmh ⟨by omega, by omega⟩ ⟨by omega, by omega⟩ ⟨by omega, by omega⟩ ⟨by omega, by omega⟩ ⟨by omega, by omega⟩ ⟨by omega, by omega⟩ (by omega) hRNSmh hM
                  · exfalso; omega
              · refine zw_ite (fun h27 => ?_) (fun h27 => ?_)
                · exfalso; omega
                · refine zw_ite (fun h28 => ?_) (fun h28 => ?_)
                  · exfalso; omega
                  · have w29 := zu_w32_id (z := (mh a0 7) + 1) (by omega) (by omega)
                    generalize hmm30 : zu_up mh a0 7 (zu_w32 ((mh a0 7) + 1)) = m30
                    have hIm30 := zi_up hmm30 hImh hc0 zb_28_7 (by omega) (by omega)
                    have hFm30 := zfr_up hmm30 hFmh hc0 rfl
                    have r31 : 0 ≤ (m30 a0 7) ∧ (m30 a0 7) ≤ 700 := zi_rd hIm30 hc0 zb_28_7
                    have e32 : (m30 a0 7) = (zu_w32 ((mh a0 7) + 1)) := (zs_eq hmm30)
                    have r33 : 0 ≤ (m30 a0 6) ∧ (m30 a0 6) ≤ 700 := zi_rd hIm30 hc0 zb_28_6
                    have e34 : (m30 a0 6) = (mh a0 6) := (zs_ne hmm30 (Or.inr (by decide)))
                    have hRNSm30 := zR_NS_of hc0 (show m30 a0 7 ≤ m30 a0 6 by omega)
                    have r35 : (-2147483648) ≤ (m30 a0 9) ∧ (m30 a0 9) ≤ 2147483647 := zi_rd hIm30 hc0 zb_28_9
                    have e36 : (m30 a0 9) = (mh a0 9) := (zs_ne hmm30 (Or.inr (by decide)))
                    have hM : 5 < (k : Int) := by omega
                    exact ih.2.1 (mh 191 (mh a0 7)) 0 1 m30 hIm30 hFm30 ⟨by omega, by omega⟩ ⟨by omega, by omega⟩ ⟨by omega, by omega⟩ ⟨by omega, by omega⟩ ⟨by omega, by omega⟩ ⟨by omega, by omega⟩ (by omega) hRNSm30 hM
          · refine zw_ite (fun h37 => ?_) (fun h37 => ?_)
            · refine zw_ite (fun h38 => ?_) (fun h38 => ?_)
              · have w39 := zu_w32_id (z := (mh a0 7) + 1) (by omega) (by omega)
                generalize hmm40 : zu_up mh a0 7 (zu_w32 ((mh a0 7) + 1)) = m40
                have hIm40 := zi_up hmm40 hImh hc0 zb_28_7 (by omega) (by omega)
                have hFm40 := zfr_up hmm40 hFmh hc0 rfl
                have r41 : 0 ≤ (m40 a0 7) ∧ (m40 a0 7) ≤ 700 := zi_rd hIm40 hc0 zb_28_7
                have e42 : (m40 a0 7) = (zu_w32 ((mh a0 7) + 1)) := (zs_eq hmm40)
                have r43 : 0 ≤ (m40 a0 6) ∧ (m40 a0 6) ≤ 700 := zi_rd hIm40 hc0 zb_28_6
                have e44 : (m40 a0 6) = (mh a0 6) := (zs_ne hmm40 (Or.inr (by decide)))
                have hRNSm40 := zR_NS_of hc0 (show m40 a0 7 ≤ m40 a0 6 by omega)
                have r45 : (-2147483648) ≤ (m40 a0 9) ∧ (m40 a0 9) ≤ 2147483647 := zi_rd hIm40 hc0 zb_28_9
                have e46 : (m40 a0 9) = (mh a0 9) := (zs_ne hmm40 (Or.inr (by decide)))
                have hM : 5 < (k : Int) := by omega
                exact ih.2.1 (mh 191 (mh a0 7)) 1 0 m40 hIm40 hFm40 ⟨by omega, by omega⟩ ⟨by omega, by omega⟩ ⟨by omega, by omega⟩ ⟨by omega, by omega⟩ ⟨by omega, by omega⟩ ⟨by omega, by omega⟩ (by omega) hRNSm40 hM
              · exfalso; omega
            · refine zw_ite (fun h47 => ?_) (fun h47 => ?_)
              · refine zw_ite (fun h48 => ?_) (fun h48 => ?_)
                · have w49 := zu_w32_id (z := (mh a0 7) + 1) (by omega) (by omega)
                  generalize hmm50 : zu_up mh a0 7 (zu_w32 ((mh a0 7) + 1)) = m50
                  have hIm50 := zi_up hmm50 hImh hc0 zb_28_7 (by omega) (by omega)
                  have hFm50 := zfr_up hmm50 hFmh hc0 rfl
                  have r51 : 0 ≤ (m50 a0 7) ∧ (m50 a0 7) ≤ 700 := zi_rd hIm50 hc0 zb_28_7
                  have e52 : (m50 a0 7) = (zu_w32 ((mh a0 7) + 1)) := (zs_eq hmm50)
                  have r53 : 0 ≤ (m50 a0 6) ∧ (m50 a0 6) ≤ 700 := zi_rd hIm50 hc0 zb_28_6
                  have e54 : (m50 a0 6) = (mh a0 6) := (zs_ne hmm50 (Or.inr (by decide)))
                  have hRNSm50 := zR_NS_of hc0 (show m50 a0 7 ≤ m50 a0 6 by omega)
                  have r55 : (-2147483648) ≤ (m50 a0 9) ∧ (m50 a0 9) ≤ 2147483647 := zi_rd hIm50 hc0 zb_28_9
                  have e56 : (m50 a0 9) = (mh a0 9) := (zs_ne hmm50 (Or.inr (by decide)))
                  have hM : 5 < (k : Int) := by omega
                  exact ih.2.1 (mh 191 (mh a0 7)) 1 0 m50 hIm50 hFm50 ⟨by omega, by omega⟩ ⟨by omega, by omega⟩ ⟨by omega, by omega⟩ ⟨by omega, by omega⟩ ⟨by omega, by omega⟩ ⟨by omega, by omega⟩ (by omega) hRNSm50 hM
                · exfalso; omega
              · exfalso; omega
    · intro x1 x2 x3 mh hImh hFmh hbx1 hbx2 hbx3 hg3 hg4 hg5 hH0 hRNSmh hM
      refine zw_eq (zu_rega_at (zt_T n) (zm_90 n) (zdp_90 n) _ _ _ _ _ _ (zr_90_135 n _ _ a0 x1 x2 x3 mh)) ?_
      have s57 := hRNSmh a0 hc0
      generalize hmm58 : zu_up mh a0 8 5 = m58
      have hIm58 := zi_up hmm58 hImh hc0 zb_28_8 (by omega) (by omega)
      have hFm58 := zfr_up hmm58 hFmh hc0 rfl
      have hRNSm58 := zR_NS_fr (zdis_fr (zfr_up hmm58 (zfr_rf [(28, 9)] _) hc0 rfl) rfl) hRNSmh
      have r59 : (-2147483648) ≤ (m58 a0 9) ∧ (m58 a0 9) ≤ 2147483647 := zi_rd hIm58 hc0 zb_28_9
      have e60 : (m58 a0 9) = (mh a0 9) := (zs_ne hmm58 (Or.inr (by decide)))
      refine zw_ite (fun h61 => ?_) (fun h61 => ?_)
      · refine zw_ite (fun h62 => ?_) (fun h62 => ?_)
        · refine zw_ite (fun h63 => ?_) (fun h63 => ?_)
          · have r64 : 0 ≤ (m58 a0 7) ∧ (m58 a0 7) ≤ 700 := zi_rd hIm58 hc0 zb_28_7
            have e65 : (m58 a0 7) = (mh a0 7) := (zs_ne hmm58 (Or.inr (by decide)))
            have r66 : 0 ≤ (m58 a0 6) ∧ (m58 a0 6) ≤ 700 := zi_rd hIm58 hc0 zb_28_6
            have e67 : (m58 a0 6) = (mh a0 6) := (zs_ne hmm58 (Or.inr (by decide)))
            have r68 : 0 ≤ (m58 a0 8) ∧ (m58 a0 8) ≤ 6 := zi_rd hIm58 hc0 zb_28_8
            have e69 : (m58 a0 8) = 5 := (zs_eq hmm58)
            have hM : 4 < (k : Int) := by omega
            exact ih.2.2.1 x1 x2 x3 5 a0 m58 hIm58 hFm58 ⟨by omega, by omega⟩ ⟨by omega, by omega⟩ ⟨by omega, by omega⟩ ⟨by omega, by omega⟩ hc0 ⟨by omega, by omega⟩ ⟨by omega, by omega⟩ ⟨by omega, by omega⟩ ⟨by omega, by omega⟩ (by omega) (by omega) (by omega) (by omega) (by omega) hRNSm58 hM
          · have r70 : 0 ≤ (m58 a0 7) ∧ (m58 a0 7) ≤ 700 := zi_rd hIm58 hc0 zb_28_7
            have e71 : (m58 a0 7) = (mh a0 7) := (zs_ne hmm58 (Or.inr (by decide)))
            have r72 : 0 ≤ (m58 a0 6) ∧ (m58 a0 6) ≤ 700 := zi_rd hIm58 hc0 zb_28_6
            have e73 : (m58 a0 6) = (mh a0 6) := (zs_ne hmm58 (Or.inr (by decide)))
            have r74 : 0 ≤ (m58 a0 8) ∧ (m58 a0 8) ≤ 6 := zi_rd hIm58 hc0 zb_28_8
            have e75 : (m58 a0 8) = 5 := (zs_eq hmm58)
            have hM : 4 < (k : Int) := by omega
            exact ih.2.2.1 x1 x2 x3 4 a0 m58 hIm58 hFm58 ⟨by omega, by omega⟩ ⟨by omega, by omega⟩ ⟨by omega, by omega⟩ ⟨by omega, by omega⟩ hc0 ⟨by omega, by omega⟩ ⟨by omega, by omega⟩ ⟨by omega, by omega⟩ ⟨by omega, by omega⟩ (by omega) (by omega) (by omega) (by omega) (by omega) hRNSm58 hM
        · refine zw_ite (fun h76 => ?_) (fun h76 => ?_)
          · refine zw_ite (fun h77 => ?_) (fun h77 => ?_)
            · have r78 : 0 ≤ (m58 a0 7) ∧ (m58 a0 7) ≤ 700 := zi_rd hIm58 hc0 zb_28_7
              have e79 : (m58 a0 7) = (mh a0 7) := (zs_ne hmm58 (Or.inr (by decide)))
              have r80 : 0 ≤ (m58 a0 6) ∧ (m58 a0 6) ≤ 700 := zi_rd hIm58 hc0 zb_28_6
              have e81 : (m58 a0 6) = (mh a0 6) := (zs_ne hmm58 (Or.inr (by decide)))
              have r82 : 0 ≤ (m58 a0 8) ∧ (m58 a0 8) ≤ 6 := zi_rd hIm58 hc0 zb_28_8
              have e83 : (m58 a0 8) = 5 := (zs_eq hmm58)
              have hM : 4 < (k : Int) := by omega
              exact ih.2.2.1 x1 x2 x3 0 a0 m58 hIm58 hFm58 ⟨by omega, by omega⟩ ⟨by omega, by omega⟩ ⟨by omega, by omega⟩ ⟨by omega, by omega⟩ hc0 ⟨by omega, by omega⟩ ⟨by omega, by omega⟩ ⟨by omega, by omega⟩ ⟨by omega, by omega⟩ (by omega) (by omega) (by omega) (by omega) (by omega) hRNSm58 hM
            · have r84 : 0 ≤ (m58 a0 7) ∧ (m58 a0 7) ≤ 700 := zi_rd hIm58 hc0 zb_28_7
              have e85 : (m58 a0 7) = (mh a0 7) := (zs_ne hmm58 (Or.inr (by decide)))
              have r86 : 0 ≤ (m58 a0 6) ∧ (m58 a0 6) ≤ 700 := zi_rd hIm58 hc0 zb_28_6
              have e87 : (m58 a0 6) = (mh a0 6) := (zs_ne hmm58 (Or.inr (by decide)))
              have r88 : 0 ≤ (m58 a0 8) ∧ (m58 a0 8) ≤ 6 := zi_rd hIm58 hc0 zb_28_8
              have e89 : (m58 a0 8) = 5 := (zs_eq hmm58)
              have hM : 4 < (k : Int) := by omega
              exact ih.2.2.1 x1 x2 x3 3 a0 m58 hIm58 hFm58 ⟨by omega, by omega⟩ ⟨by omega, by omega⟩ ⟨by omega, by omega⟩ ⟨by omega, by omega⟩ hc0 ⟨by omega, by omega⟩ ⟨by omega, by omega⟩ ⟨by omega, by omega⟩ ⟨by omega, by omega⟩ (by omega) (by omega) (by omega) (by omega) (by omega) hRNSm58 hM
          · have r90 : 0 ≤ (m58 a0 7) ∧ (m58 a0 7) ≤ 700 := zi_rd hIm58 hc0 zb_28_7
            have e91 : (m58 a0 7) = (mh a0 7) := (zs_ne hmm58 (Or.inr (by decide)))
            have r92 : 0 ≤ (m58 a0 6) ∧ (m58 a0 6) ≤ 700 := zi_rd hIm58 hc0 zb_28_6
            have e93 : (m58 a0 6) = (mh a0 6) := (zs_ne hmm58 (Or.inr (by decide)))
            have r94 : 0 ≤ (m58 a0 8) ∧ (m58 a0 8) ≤ 6 := zi_rd hIm58 hc0 zb_28_8
            have e95 : (m58 a0 8) = 5 := (zs_eq hmm58)
            have hM : 4 < (k : Int) := by omega
            exact ih.2.2.1 x1 x2 x3 1 a0 m58 hIm58 hFm58 ⟨by omega, by omega⟩ ⟨by omega, by omega⟩ ⟨by omega, by omega⟩ ⟨by omega, by omega⟩ hc0 ⟨by omega, by omega⟩ ⟨by omega, by omega⟩ ⟨by omega, by omega⟩ ⟨by omega, by omega⟩ (by omega) (by omega) (by omega) (by omega) (by omega) hRNSm58 hM
      · have r96 : 0 ≤ (m58 a0 7) ∧ (m58 a0 7) ≤ 700 := zi_rd hIm58 hc0 zb_28_7
        have e97 : (m58 a0 7) = (mh a0 7) := (zs_ne hmm58 (Or.inr (by decide)))
        have r98 : 0 ≤ (m58 a0 6) ∧ (m58 a0 6) ≤ 700 := zi_rd hIm58 hc0 zb_28_6
        have e99 : (m58 a0 6) = (mh a0 6) := (zs_ne hmm58 (Or.inr (by decide)))
        have r100 : 0 ≤ (m58 a0 8) ∧ (m58 a0 8) ≤ 6 := zi_rd hIm58 hc0 zb_28_8
        have e101 : (m58 a0 8) = 5 := (zs_eq hmm58)
        have hM : 4 < (k : Int) := by omega
        exact ih.2.2.1 x1 x2 x3 2 a0 m58 hIm58 hFm58 ⟨by omega, by omega⟩ ⟨by omega, by omega⟩ ⟨by omega, by omega⟩ ⟨by omega, by omega⟩ hc0 ⟨by omega, by omega⟩ ⟨by omega, by omega⟩ ⟨by omega, by omega⟩ ⟨by omega, by omega⟩ (by omega) (by omega) (by omega) (by omega) (by omega) hRNSm58 hM
    · intro x1 x2 x3 y0 y1 mh hImh hFmh hbx1 hbx2 hbx3 hby0 hy1 hg5 hg6 hg7 hg8 hH0 hH1 hH2 hH3 hH4 hRNSmh hM
      refine zw_eq (zu_rega_at (zt_T n) (zm_90 n) (zdp_90 n) _ _ _ _ _ _ (zr_90_192 n _ _ a0 x1 x2 x3 y0 y1 mh)) ?_
      have s102 := hRNSmh a0 hc0
      subst hH4
      generalize hmm103 : zu_up mh a0 9 y0 = m103
      have hIm103 := zi_up hmm103 hImh hc0 zb_28_9 (by omega) (by omega)
      have hFm103 := zfr_up hmm103 hFmh hc0 rfl
      have hRNSm103 := zR_NS_fr (zdis_fr (zfr_up hmm103 (zfr_rf [(28, 10)] _) hc0 rfl) rfl) hRNSmh
      have r104 : 0 ≤ (m103 a0 7) ∧ (m103 a0 7) ≤ 700 := zi_rd hIm103 hc0 zb_28_7
      have e105 : (m103 a0 7) = (mh a0 7) := (zs_ne hmm103 (Or.inr (by decide)))
      have r106 : 0 ≤ (m103 a0 8) ∧ (m103 a0 8) ≤ 6 := zi_rd hIm103 hc0 zb_28_8
      have e107 : (m103 a0 8) = (mh a0 8) := (zs_ne hmm103 (Or.inr (by decide)))
      have r108 : (-2147483648) ≤ (m103 a0 9) ∧ (m103 a0 9) ≤ 2147483647 := zi_rd hIm103 hc0 zb_28_9
      have e109 : (m103 a0 9) = y0 := (zs_eq hmm103)
      exact zw_some ⟨hIm103, hFm103, hRNSm103, trivial, ⟨by omega, by omega⟩, ⟨by omega, by omega⟩, by omega, by omega, by omega⟩
    · intro mh hImh hFmh hg0 hg1 hH0 hRNSmh hM
      refine zw_eq (zu_rega_at (zt_T n) (zm_90 n) (zdp_90 n) _ _ _ _ _ _ (zr_90_198 n _ _ a0 mh)) ?_
      have s110 := hRNSmh a0 hc0
      have r111 : (-2147483648) ≤ (mh a0 9) ∧ (mh a0 9) ≤ 2147483647 := zi_rd hImh hc0 zb_28_9
      refine zw_ite (fun h112 => ?_) (fun h112 => ?_)
      · have hM : 2 < (k : Int) := by omega
        exact ih.2.2.2.2.1  mh hImh hFmh ⟨by omega, by omega⟩ ⟨by omega, by omega⟩ ⟨by omega, by omega⟩ (by omega) hRNSmh hM
      · refine zw_ite (fun h113 => ?_) (fun h113 => ?_)
        · have hM : 2 < (k : Int) := by omega
          exact ih.2.2.2.2.1  mh hImh hFmh ⟨by omega, by omega⟩ ⟨by omega, by omega⟩ ⟨by omega, by omega⟩ (by omega) hRNSmh hM
        · refine zw_ite (fun h114 => ?_) (fun h114 => ?_)
          · have hM : 2 < (k : Int) := by omega
            exact ih.2.2.2.2.1  mh hImh hFmh ⟨by omega, by omega⟩ ⟨by omega, by omega⟩ ⟨by omega, by omega⟩ (by omega) hRNSmh hM
          · refine zw_ite (fun h115 => ?_) (fun h115 => ?_)
            · have hM : 2 < (k : Int) := by omega
              exact ih.2.2.2.2.1  mh hImh hFmh ⟨by omega, by omega⟩ ⟨by omega, by omega⟩ ⟨by omega, by omega⟩ (by omega) hRNSmh hM
            · refine zw_ite (fun h116 => ?_) (fun h116 => ?_)
              · have hM : 2 < (k : Int) := by omega
                exact ih.2.2.2.2.1  mh hImh hFmh ⟨by omega, by omega⟩ ⟨by omega, by omega⟩ ⟨by omega, by omega⟩ (by omega) hRNSmh hM
              · refine zw_ite (fun h117 => ?_) (fun h117 => ?_)
                · have hM : 2 < (k : Int) := by omega
                  exact ih.2.2.2.2.1  mh hImh hFmh ⟨by omega, by omega⟩ ⟨by omega, by omega⟩ ⟨by omega, by omega⟩ (by omega) hRNSmh hM
                · refine zw_ite (fun h118 => ?_) (fun h118 => ?_)
                  · have hM : 2 < (k : Int) := by omega
                    exact ih.2.2.2.2.1  mh hImh hFmh ⟨by omega, by omega⟩ ⟨by omega, by omega⟩ ⟨by omega, by omega⟩ (by omega) hRNSmh hM
                  · refine zw_ite (fun h119 => ?_) (fun h119 => ?_)
                    · have hM : 1 < (k : Int) := by omega
                      exact ih.2.2.2.2.2.1 0 mh hImh hFmh ⟨by omega, by omega⟩ ⟨by omega, by omega⟩ ⟨by omega, by omega⟩ (by omega) hRNSmh hM
                    · have hM : 2 < (k : Int) := by omega
                      exact ih.2.2.2.2.1  mh hImh hFmh ⟨by omega, by omega⟩ ⟨by omega, by omega⟩ ⟨by omega, by omega⟩ (by omega) hRNSmh hM
    · intro mh hImh hFmh hg0 hg1 hg2 hH0 hRNSmh hM
      refine zw_eq (zu_rega_at (zt_T n) (zm_90 n) (zdp_90 n) _ _ _ _ _ _ (zr_90_270 n _ _ a0 mh)) ?_
      have s120 := hRNSmh a0 hc0
      have hM : 1 < (k : Int) := by omega
      exact ih.2.2.2.2.2.1 1 mh hImh hFmh ⟨by omega, by omega⟩ ⟨by omega, by omega⟩ ⟨by omega, by omega⟩ (by omega) hRNSmh hM
    · intro y0 mh hImh hFmh hby0 hg1 hg2 hH0 hRNSmh hM
      refine zw_eq (zu_rega_at (zt_T n) (zm_90 n) (zdp_90 n) _ _ _ _ _ _ (zr_90_275 n _ _ a0 y0 mh)) ?_
      have s121 := hRNSmh a0 hc0
      refine zw_ite (fun h122 => ?_) (fun h122 => ?_)
      · have hM : 0 < (k : Int) := by omega
        exact ih.2.2.2.2.2.2 y0 6 a0 mh hImh hFmh ⟨by omega, by omega⟩ ⟨by omega, by omega⟩ hc0 ⟨by omega, by omega⟩ ⟨by omega, by omega⟩ (by omega) (by omega) (by omega) hRNSmh hM
      · have hM : 0 < (k : Int) := by omega
        exact ih.2.2.2.2.2.2 y0 4 a0 mh hImh hFmh ⟨by omega, by omega⟩ ⟨by omega, by omega⟩ hc0 ⟨by omega, by omega⟩ ⟨by omega, by omega⟩ (by omega) (by omega) (by omega) hRNSmh hM
    · intro x1 y0 y1 mh hImh hFmh hbx1 hby0 hy1 hg3 hg4 hH0 hH1 hH2 hRNSmh hM
      refine zw_eq (zu_rega_at (zt_T n) (zm_90 n) (zdp_90 n) _ _ _ _ _ _ (zr_90_287 n _ _ a0 x1 y0 y1 mh)) ?_
      have s123 := hRNSmh a0 hc0
      subst hH2
      generalize hmm124 : zu_up mh a0 8 y0 = m124
      have hIm124 := zi_up hmm124 hImh hc0 zb_28_8 (by omega) (by omega)
      have hFm124 := zfr_up hmm124 hFmh hc0 rfl
      have hRNSm124 := zR_NS_fr (zdis_fr (zfr_up hmm124 (zfr_rf [(28, 9)] _) hc0 rfl) rfl) hRNSmh
      have r125 : 0 ≤ (m124 a0 7) ∧ (m124 a0 7) ≤ 700 := zi_rd hIm124 hc0 zb_28_7
      have e126 : (m124 a0 7) = (mh a0 7) := (zs_ne hmm124 (Or.inr (by decide)))
      have r127 : 0 ≤ (m124 a0 8) ∧ (m124 a0 8) ≤ 6 := zi_rd hIm124 hc0 zb_28_8
      have e128 : (m124 a0 8) = y0 := (zs_eq hmm124)
      have r129 : (-2147483648) ≤ (m124 a0 9) ∧ (m124 a0 9) ≤ 2147483647 := zi_rd hIm124 hc0 zb_28_9
      exact zw_some ⟨hIm124, hFm124, hRNSm124, trivial, ⟨by omega, by omega⟩, ⟨by omega, by omega⟩, by omega, by omega, by omega⟩
set_option maxHeartbeats 4000000 in
theorem zk_90 (n : Nat) {a0 : Int} {m0 : zu_m} (hIm0 : zi_I m0) (hc0 : zcls a0 = 28)   (he0 : 1 ≤ m0 a0 6 ∧ m0 a0 6 ≤ 700) (he1 : 0 ≤ m0 a0 7 ∧ m0 a0 7 ≤ 699) (hxp0 : (m0 a0 7) < (m0 a0 6)) (hRNSm0 : zR_NS m0) : zw (zu_call (zt_T n) 90 [(40, a0)] m0) (fun v m => zi_I m ∧ zfr [(28, 8), (28, 9), (28, 10)] m0 m ∧ zR_NS m ∧ True ∧ (1 ≤ m a0 7 ∧ m a0 7 ≤ 700) ∧ (4 ≤ m a0 8 ∧ m a0 8 ≤ 6) ∧ ((m0 a0 7) < (m a0 7)) ∧ ((m a0 8) = 5 → (0 ≤ (m a0 9) ∧ (m a0 9) ≤ 5)) ∧ (4 ≤ (m a0 8))) := by
  have hFm0 : zfr [(28, 8), (28, 9), (28, 10)] m0 m0 := zfr_rf _ _
  have s130 := hRNSm0 a0 hc0
  refine zw_eq (zu_call_at (zt_T n) (zm_90 n) (zdp_90 n) _ _ _ _ _ rfl (zr_90_0 n _ _ a0 m0)) ?_
  have b131 : 0 ≤ (m0 a0 7) ∧ (m0 a0 7) < 700 := by omega
  refine zw_if b131 ?_
  have r132 : (-2147483648) ≤ (m0 191 (m0 a0 7)) ∧ (m0 191 (m0 a0 7)) ≤ 2147483647 := zi_rd hIm0 zq_191 (zb_100 _)
  generalize hmm133 : zu_up m0 a0 9 (m0 191 (m0 a0 7)) = m133
  have hIm133 := zi_up hmm133 hIm0 hc0 zb_28_9 (by omega) (by omega)
  have hFm133 := zfr_up hmm133 hFm0 hc0 rfl
  have hRNSm133 := zR_NS_fr (zdis_fr (zfr_up hmm133 (zfr_rf [(28, 10)] _) hc0 rfl) rfl) hRNSm0
  have r134 : 0 ≤ (m133 a0 7) ∧ (m133 a0 7) ≤ 700 := zi_rd hIm133 hc0 zb_28_7
  have e135 : (m133 a0 7) = (m0 a0 7) := (zs_ne hmm133 (Or.inr (by decide)))
  have w136 := zu_w32_id (z := (m133 a0 7) + 1) (by omega) (by omega)
  generalize hmm137 : zu_up m133 a0 7 (zu_w32 ((m133 a0 7) + 1)) = m137
  have hIm137 := zi_up hmm137 hIm133 hc0 zb_28_7 (by omega) (by omega)
  have hFm137 := zfr_up hmm137 hFm133 hc0 rfl
  have r138 : 0 ≤ (m137 a0 7) ∧ (m137 a0 7) ≤ 700 := zi_rd hIm137 hc0 zb_28_7
  have e139 : (m137 a0 7) = (zu_w32 ((m133 a0 7) + 1)) := (zs_eq hmm137)
  have r140 : 0 ≤ (m137 a0 6) ∧ (m137 a0 6) ≤ 700 := zi_rd hIm137 hc0 zb_28_6
  have e141 : (m137 a0 6) = (m0 a0 6) := (Eq.trans (zs_ne hmm137 (Or.inr (by decide))) (zs_ne hmm133 (Or.inr (by decide))))
  have hRNSm137 := zR_NS_of hc0 (show m137 a0 7 ≤ m137 a0 6 by omega)
  have r142 : (-2147483648) ≤ (m137 a0 9) ∧ (m137 a0 9) ≤ 2147483647 := zi_rd hIm137 hc0 zb_28_9
  have e143 : (m137 a0 9) = (m0 191 (m0 a0 7)) := (Eq.trans (zs_ne hmm137 (Or.inr (by decide))) (zs_eq hmm133))
  refine zw_ite (fun h144 => ?_) (fun h144 => ?_)
  · have hM : 6 < ((7 : Nat) : Int) := by omega
    exact (zl_90 n (m0 := m0) hc0 hxp0 7).1  m137 hIm137 hFm137 ⟨by omega, by omega⟩ ⟨by omega, by omega⟩ ⟨by omega, by omega⟩ (by omega) hRNSm137 hM
  · refine zw_ite (fun h145 => ?_) (fun h145 => ?_)
    · have hM : 6 < ((7 : Nat) : Int) := by omega
      exact (zl_90 n (m0 := m0) hc0 hxp0 7).1  m137 hIm137 hFm137 ⟨by omega, by omega⟩ ⟨by omega, by omega⟩ ⟨by omega, by omega⟩ (by omega) hRNSm137 hM
    · refine zw_ite (fun h146 => ?_) (fun h146 => ?_)
      · have hM : 3 < ((7 : Nat) : Int) := by omega
        exact (zl_90 n (m0 := m0) hc0 hxp0 7).2.2.2.1  m137 hIm137 hFm137 ⟨by omega, by omega⟩ ⟨by omega, by omega⟩ (by omega) hRNSm137 hM
      · have hM : 6 < ((7 : Nat) : Int) := by omega
        exact (zl_90 n (m0 := m0) hc0 hxp0 7).1  m137 hIm137 hFm137 ⟨by omega, by omega⟩ ⟨by omega, by omega⟩ ⟨by omega, by omega⟩ (by omega) hRNSm137 hM
set_option maxHeartbeats 4000000 in
theorem zl_91 (n : Nat) {a0 a1 a2 : Int} {m0 : zu_m} (hc0 : zcls a0 = 28)   : ∀ k : Nat, (∀ (x3 x4 : Int) (mh : zu_m), zi_I mh → zfr [] m0 mh → (0 ≤ a1 ∧ a1 ≤ 699) → (0 ≤ a2 ∧ a2 ≤ 700) → ((-2147483648) ≤ x3 ∧ x3 ≤ 2147483647) → (0 ≤ x4 ∧ x4 ≤ 720) → (720 - x4) * 1 + 0 < (k : Int) → zw (zu_ex (zt_T n) 91 5 [(40, a0), (0, a1), (0, a2), (0, x3), (0, x4)] [] mh) (fun v m => zi_I m ∧ zfr [] m0 m ∧ ((-2147483648) ≤ v ∧ v ≤ 2147483647))) := by
  intro k
  induction k with
  | zero => exact fun x3 x4 mh hImh hFmh hba1 hba2 hbx3 hbx4 hM => by exfalso; omega
  | succ k ih =>
    intro x3 x4 mh hImh hFmh hba1 hba2 hbx3 hbx4 hM
    refine zw_eq (zu_rega_at (zt_T n) (zm_91 n) (zdp_91 n) _ _ _ _ _ _ (zr_91_5 n _ _ a0 a1 a2 x3 x4 mh)) ?_
    have w1 := zu_w32_id (z := a1 + 6) (by omega) (by omega)
    refine zw_ite (fun h2 => ?_) (fun h2 => ?_)
    · exact zw_some ⟨hImh, hFmh, ⟨by omega, by omega⟩⟩
    · have b3 := zu_i32_rg 5 x3 5
      refine zw_ite (fun h4 => ?_) (fun h4 => ?_)
      · have b5 := zu_i32_rg 4 (zu_i32 5 x3 5) 0
        have w6 := zu_w32_id (z := x4 + 1) (by omega) (by omega)
        have hM : (720 - (zu_w32 (x4 + 1))) * 1 + 0 < (k : Int) := by omega
        exact ih (zu_i32 4 (zu_i32 5 x3 5) 0) (zu_w32 (x4 + 1)) mh hImh hFmh ⟨by omega, by omega⟩ ⟨by omega, by omega⟩ ⟨by omega, by omega⟩ ⟨by omega, by omega⟩ hM
      · have b7 : 0 ≤ x4 ∧ x4 < 700 := by omega
        refine zw_if b7 ?_
        have r8 : (-2147483648) ≤ (mh 191 x4) ∧ (mh 191 x4) ≤ 2147483647 := zi_rd hImh zq_191 (zb_100 _)
        have w9 := zu_w32_rg ((mh 191 x4) - 96)
        have b10 := zu_i32_rg 4 (zu_i32 5 x3 5) (zu_w32 ((mh 191 x4) - 96))
        have w11 := zu_w32_id (z := x4 + 1) (by omega) (by omega)
        have hM : (720 - (zu_w32 (x4 + 1))) * 1 + 0 < (k : Int) := by omega
        exact ih (zu_i32 4 (zu_i32 5 x3 5) (zu_w32 ((mh 191 x4) - 96))) (zu_w32 (x4 + 1)) mh hImh hFmh ⟨by omega, by omega⟩ ⟨by omega, by omega⟩ ⟨by omega, by omega⟩ ⟨by omega, by omega⟩ hM
set_option maxHeartbeats 4000000 in
theorem zk_91 (n : Nat) {a0 a1 a2 : Int} {m0 : zu_m} (hIm0 : zi_I m0) (hc0 : zcls a0 = 28) (ha1 : 0 ≤ a1 ∧ a1 ≤ 699) (ha2 : 0 ≤ a2 ∧ a2 ≤ 700)     : zw (zu_call (zt_T n) 91 [(40, a0), (0, a1), (0, a2)] m0) (fun v m => zi_I m ∧ zfr [] m0 m ∧ ((-2147483648) ≤ v ∧ v ≤ 2147483647)) := by
  have hFm0 : zfr [] m0 m0 := zfr_rf _ _
  refine zw_eq (zu_call_at (zt_T n) (zm_91 n) (zdp_91 n) _ _ _ _ _ rfl (zr_91_0 n _ _ a0 a1 a2 m0)) ?_
  have hM : (720 - a1) * 1 + 0 < ((721 : Nat) : Int) := by omega
  exact (zl_91 n (m0 := m0) hc0 721) 0 a1 m0 hIm0 hFm0 ⟨by omega, by omega⟩ ⟨by omega, by omega⟩ ⟨by omega, by omega⟩ ⟨by omega, by omega⟩ hM
set_option maxHeartbeats 4000000 in
theorem zl_95 (n : Nat) {a0 a1 a2 a3 : Int} {m0 : zu_m} (hc0 : zcls a0 = 109)   : ∀ k : Nat, (∀ (x4 : Int) (mh : zu_m), zi_I mh → zfr [] m0 mh → (0 ≤ a1 ∧ a1 ≤ 4) → (0 ≤ a2 ∧ a2 ≤ 4) → ((-2147483648) ≤ a3 ∧ a3 ≤ 2147483647) → (0 ≤ x4 ∧ x4 ≤ 4) → (4 - x4) * 1 + 0 < (k : Int) → zw (zu_ex (zt_T n) 95 3 [(46, a0), (0, a1), (0, a2), (0, a3), (0, x4)] [] mh) (fun v m => zi_I m ∧ zfr [] m0 m ∧ ((-1) ≤ v ∧ v ≤ 3))) := by
  intro k
  induction k with
  | zero => exact fun x4 mh hImh hFmh hba1 hba2 hba3 hbx4 hM => by exfalso; omega
  | succ k ih =>
    intro x4 mh hImh hFmh hba1 hba2 hba3 hbx4 hM
    refine zw_eq (zu_rega_at (zt_T n) (zm_95 n) (zdp_95 n) _ _ _ _ _ _ (zr_95_3 n _ _ a0 a1 a2 a3 x4 mh)) ?_
    refine zw_ite (fun h1 => ?_) (fun h1 => ?_)
    · exact zw_some ⟨hImh, hFmh, ⟨by omega, by omega⟩⟩
    · have w2 := zu_w32_id (z := a1 + x4) (by omega) (by omega)
      have b3 : 0 ≤ (zu_w32 (a1 + x4)) ∧ (zu_w32 (a1 + x4)) < 8 := by omega
      refine zw_if b3 ?_
      have r4 : (-2147483648) ≤ (mh a0 (zu_w32 (a1 + x4))) ∧ (mh a0 (zu_w32 (a1 + x4))) ≤ 2147483647 := zi_rd hImh hc0 (zb_109 _)
      refine zw_ite (fun h5 => ?_) (fun h5 => ?_)
      · have w6 := zu_w32_id (z := x4 + 1) (by omega) (by omega)
        have hM : (4 - (zu_w32 (x4 + 1))) * 1 + 0 < (k : Int) := by omega
        exact ih (zu_w32 (x4 + 1)) mh hImh hFmh ⟨by omega, by omega⟩ ⟨by omega, by omega⟩ ⟨by omega, by omega⟩ ⟨by omega, by omega⟩ hM
      · exact zw_some ⟨hImh, hFmh, ⟨by omega, by omega⟩⟩
set_option maxHeartbeats 4000000 in
theorem zk_95 (n : Nat) {a0 a1 a2 a3 : Int} {m0 : zu_m} (hIm0 : zi_I m0) (hc0 : zcls a0 = 109) (ha1 : 0 ≤ a1 ∧ a1 ≤ 4) (ha2 : 0 ≤ a2 ∧ a2 ≤ 4) (ha3 : (-2147483648) ≤ a3 ∧ a3 ≤ 2147483647)     : zw (zu_call (zt_T n) 95 [(46, a0), (0, a1), (0, a2), (0, a3)] m0) (fun v m => zi_I m ∧ zfr [] m0 m ∧ ((-1) ≤ v ∧ v ≤ 3)) := by
  have hFm0 : zfr [] m0 m0 := zfr_rf _ _
  refine zw_eq (zu_call_at (zt_T n) (zm_95 n) (zdp_95 n) _ _ _ _ _ rfl (zr_95_0 n _ _ a0 a1 a2 a3 m0)) ?_
  have hM : (4 - 0) * 1 + 0 < ((5 : Nat) : Int) := by omega
  exact (zl_95 n (m0 := m0) hc0 5) 0 m0 hIm0 hFm0 ⟨by omega, by omega⟩ ⟨by omega, by omega⟩ ⟨by omega, by omega⟩ ⟨by omega, by omega⟩ hM
set_option maxHeartbeats 4000000 in
theorem zk_107 (n : Nat) {a0 a1 : Int} {m0 : zu_m} (hIm0 : zi_I m0) (hc0 : zcls a0 = 28) (ha1 : (-2147483648) ≤ a1 ∧ a1 ≤ 2147483647)     : zw (zu_call (zt_T n) 107 [(40, a0), (0, a1)] m0) (fun v m => zi_I m ∧ zfr [(28, 3)] m0 m ∧ ((-2147483648) ≤ v ∧ v ≤ 2147483647) ∧ (0 ≤ m a0 2 ∧ m a0 2 ≤ 0)) := by
  have hFm0 : zfr [(28, 3)] m0 m0 := zfr_rf _ _
  refine zw_eq (zu_call_at (zt_T n) (zm_107 n) (zdp_107 n) _ _ _ _ _ rfl (zr_107_0 n _ _ a0 a1 m0)) ?_
  generalize hmm1 : zu_up m0 a0 2 0 = m1
  have hIm1 := zi_up hmm1 hIm0 hc0 zb_28_2 (by omega) (by omega)
  have hFm1 := zfr_up hmm1 hFm0 hc0 rfl
  refine zw_ite (fun h2 => ?_) (fun h2 => ?_)
  · refine zw_ite (fun h3 => ?_) (fun h3 => ?_)
    · have r4 : (-2147483648) ≤ (m1 a0 2) ∧ (m1 a0 2) ≤ 2147483647 := zi_rd hIm1 hc0 zb_28_2
      have e5 : (m1 a0 2) = 0 := (zs_eq hmm1)
      exact zw_some ⟨hIm1, hFm1, ⟨by omega, by omega⟩, ⟨by omega, by omega⟩⟩
    · have r6 : (-2147483648) ≤ (m1 a0 5) ∧ (m1 a0 5) ≤ 2147483647 := zi_rd hIm1 hc0 zb_28_5
      have r7 : (-2147483648) ≤ (m1 a0 2) ∧ (m1 a0 2) ≤ 2147483647 := zi_rd hIm1 hc0 zb_28_2
      have e8 : (m1 a0 2) = 0 := (zs_eq hmm1)
      exact zw_some ⟨hIm1, hFm1, ⟨by omega, by omega⟩, ⟨by omega, by omega⟩⟩
  · have r9 : (-2147483648) ≤ (m1 a0 4) ∧ (m1 a0 4) ≤ 2147483647 := zi_rd hIm1 hc0 zb_28_4
    have r10 : (-2147483648) ≤ (m1 a0 2) ∧ (m1 a0 2) ≤ 2147483647 := zi_rd hIm1 hc0 zb_28_2
    have e11 : (m1 a0 2) = 0 := (zs_eq hmm1)
    exact zw_some ⟨hIm1, hFm1, ⟨by omega, by omega⟩, ⟨by omega, by omega⟩⟩
set_option maxHeartbeats 4000000 in
theorem zk_110 (n : Nat) {a0 a1 a2 a3 : Int} {m0 : zu_m} (hIm0 : zi_I m0) (hc0 : zcls a0 = 28) (ha1 : 0 ≤ a1 ∧ a1 ≤ 14) (ha2 : 0 ≤ a2 ∧ a2 ≤ 9999) (ha3 : (-1) ≤ a3 ∧ a3 ≤ 63)   (hxp0 : (m0 a0 21) ≤ 63) (hxp1 : (m0 a0 46) ≤ 95) (hxp2 : a1 = 1 → a2 ≤ 6) (hxp3 : 2 ≤ a1 → a2 ≤ 63) (hxp4 : 3 ≤ a1 → 0 ≤ a3) (hRKNm0 : zR_KN m0) : zw (zu_call (zt_T n) 110 [(40, a0), (0, a1), (0, a2), (0, a3)] m0) (fun v m => zi_I m ∧ zfr [(28, 22), (28, 47), (117, 0), (118, 0), (119, 0), (121, 0)] m0 m ∧ zR_KN m ∧ True ∧ (1 ≤ m a0 21 ∧ m a0 21 ≤ 64) ∧ (1 ≤ m a0 46 ∧ m a0 46 ≤ 96) ∧ ((m a0 21) = (m0 a0 21) + 1) ∧ ((m a0 46) = (m0 a0 46) + 1)) := by
  have hFm0 : zfr [(28, 22), (28, 47), (117, 0), (118, 0), (119, 0), (121, 0)] m0 m0 := zfr_rf _ _
  have r1 : 0 ≤ (m0 a0 21) ∧ (m0 a0 21) ≤ 64 := zi_rd hIm0 hc0 zb_28_21
  have r2 : 0 ≤ (m0 a0 46) ∧ (m0 a0 46) ≤ 96 := zi_rd hIm0 hc0 zb_28_46
  refine zw_eq (zu_call_at (zt_T n) (zm_110 n) (zdp_110 n) _ _ _ _ _ rfl (zr_110_0 n _ _ a0 a1 a2 a3 m0)) ?_
  have w3 := zu_w32_id (z := 64 + (m0 a0 21)) (by omega) (by omega)
  have b4 : 0 ≤ (zu_w32 (64 + (m0 a0 21))) ∧ (zu_w32 (64 + (m0 a0 21))) < 128 := by omega
  refine zw_if b4 ?_
  generalize hmm5 : zu_up m0 208 (zu_w32 (64 + (m0 a0 21))) a1 = m5
  have hIm5 := zi_up hmm5 hIm0 zq_208 (zb_117 _) (by omega) (by omega)
  have hFm5 := zfr_up hmm5 hFm0 zq_208 rfl
  have r6 : 0 ≤ (m5 a0 21) ∧ (m5 a0 21) ≤ 64 := zi_rd hIm5 hc0 zb_28_21
  have e7 : (m5 a0 21) = (m0 a0 21) := (zs_ne hmm5 (Or.inl (zc_ne hc0 zq_208 (by decide))))
  have w8 := zu_w32_id (z := 64 + (m5 a0 21)) (by omega) (by omega)
  have b9 : 0 ≤ (zu_w32 (64 + (m5 a0 21))) ∧ (zu_w32 (64 + (m5 a0 21))) < 128 := by omega
  refine zw_if b9 ?_
  generalize hmm10 : zu_up m5 209 (zu_w32 (64 + (m5 a0 21))) a2 = m10
  have hIm10 := zi_up hmm10 hIm5 zq_209 (zb_118 _) (by omega) (by omega)
  have hFm10 := zfr_up hmm10 hFm5 zq_209 rfl
  have r11 : 0 ≤ (m10 a0 21) ∧ (m10 a0 21) ≤ 64 := zi_rd hIm10 hc0 zb_28_21
  have e12 : (m10 a0 21) = (m5 a0 21) := (zs_ne hmm10 (Or.inl (zc_ne hc0 zq_209 (by decide))))
  have w13 := zu_w32_id (z := 64 + (m10 a0 21)) (by omega) (by omega)
  have b14 : 0 ≤ (zu_w32 (64 + (m10 a0 21))) ∧ (zu_w32 (64 + (m10 a0 21))) < 128 := by omega
  refine zw_if b14 ?_
  generalize hmm15 : zu_up m10 210 (zu_w32 (64 + (m10 a0 21))) a3 = m15
  have hIm15 := zi_up hmm15 hIm10 zq_210 (zb_119 _) (by omega) (by omega)
  have hFm15 := zfr_up hmm15 hFm10 zq_210 rfl
  have hRKNm15 := zKN_grown hmm5 hmm10 hmm15 (by omega) (by omega) ⟨by omega, by omega, by omega⟩ hRKNm0
  have r16 : 0 ≤ (m15 a0 46) ∧ (m15 a0 46) ≤ 96 := zi_rd hIm15 hc0 zb_28_46
  have e17 : (m15 a0 46) = (m0 a0 46) := (Eq.trans (zs_ne hmm15 (Or.inl (zc_ne hc0 zq_210 (by decide)))) (Eq.trans (zs_ne hmm10 (Or.inl (zc_ne hc0 zq_209 (by decide)))) (zs_ne hmm5 (Or.inl (zc_ne hc0 zq_208 (by decide))))))
  have r18 : 0 ≤ (m15 a0 21) ∧ (m15 a0 21) ≤ 64 := zi_rd hIm15 hc0 zb_28_21
  have e19 : (m15 a0 21) = (m10 a0 21) := (zs_ne hmm15 (Or.inl (zc_ne hc0 zq_210 (by decide))))
  have b20 : 0 ≤ (m15 a0 46) ∧ (m15 a0 46) < 96 := by omega
  refine zw_if b20 ?_
  generalize hmm21 : zu_up m15 212 (m15 a0 46) (m15 a0 21) = m21
  have hIm21 := zi_up hmm21 hIm15 zq_212 (zb_121 _) (by omega) (by omega)
  have hFm21 := zfr_up hmm21 hFm15 zq_212 rfl
  have hRKNm21 := zR_KN_fr (zdis_fr (zfr_up hmm21 (zfr_rf [(121, 0)] _) zq_212 rfl) rfl) hRKNm15
  have r22 : 0 ≤ (m21 a0 46) ∧ (m21 a0 46) ≤ 96 := zi_rd hIm21 hc0 zb_28_46
  have e23 : (m21 a0 46) = (m15 a0 46) := (zs_ne hmm21 (Or.inl (zc_ne hc0 zq_212 (by decide))))
  have w24 := zu_w32_id (z := (m21 a0 46) + 1) (by omega) (by omega)
  generalize hmm25 : zu_up m21 a0 46 (zu_w32 ((m21 a0 46) + 1)) = m25
  have hIm25 := zi_up hmm25 hIm21 hc0 zb_28_46 (by omega) (by omega)
  have hFm25 := zfr_up hmm25 hFm21 hc0 rfl
  have hRKNm25 := zR_KN_fr (zdis_fr (zfr_up hmm25 (zfr_rf [(28, 47)] _) hc0 rfl) rfl) hRKNm21
  have r26 : 0 ≤ (m25 a0 21) ∧ (m25 a0 21) ≤ 64 := zi_rd hIm25 hc0 zb_28_21
  have e27 : (m25 a0 21) = (m15 a0 21) := (Eq.trans (zs_ne hmm25 (Or.inr (by decide))) (zs_ne hmm21 (Or.inl (zc_ne hc0 zq_212 (by decide)))))
  have w28 := zu_w32_id (z := (m25 a0 21) + 1) (by omega) (by omega)
  generalize hmm29 : zu_up m25 a0 21 (zu_w32 ((m25 a0 21) + 1)) = m29
  have hIm29 := zi_up hmm29 hIm25 hc0 zb_28_21 (by omega) (by omega)
  have hFm29 := zfr_up hmm29 hFm25 hc0 rfl
  have hRKNm29 := zR_KN_fr (zdis_fr (zfr_up hmm29 (zfr_rf [(28, 22)] _) hc0 rfl) rfl) hRKNm25
  have r30 : 0 ≤ (m29 a0 46) ∧ (m29 a0 46) ≤ 96 := zi_rd hIm29 hc0 zb_28_46
  have e31 : (m29 a0 46) = (zu_w32 ((m21 a0 46) + 1)) := (Eq.trans (zs_ne hmm29 (Or.inr (by decide))) (zs_eq hmm25))
  have r32 : 0 ≤ (m29 a0 21) ∧ (m29 a0 21) ≤ 64 := zi_rd hIm29 hc0 zb_28_21
  have e33 : (m29 a0 21) = (zu_w32 ((m25 a0 21) + 1)) := (zs_eq hmm29)
  exact zw_some ⟨hIm29, hFm29, hRKNm29, trivial, ⟨by omega, by omega⟩, ⟨by omega, by omega⟩, by omega, by omega⟩
set_option maxHeartbeats 4000000 in
theorem zk_119 (n : Nat) {a0 a1 : Int} {m0 : zu_m} (hIm0 : zi_I m0) (hc0 : zcls a0 = 28) (ha1 : (-9223372036854775808) ≤ a1 ∧ a1 ≤ 9223372036854775807)     : zw (zu_call (zt_T n) 119 [(40, a0), (1, a1)] m0) (fun v m => zi_I m ∧ zfr [(28, 54)] m0 m ∧ ((-9223372036854775808) ≤ v ∧ v ≤ 9223372036854775807)) := by
  have hFm0 : zfr [(28, 54)] m0 m0 := zfr_rf _ _
  refine zw_eq (zu_call_at (zt_T n) (zm_119 n) (zdp_119 n) _ _ _ _ _ rfl (zr_119_0 n _ _ a0 a1 m0)) ?_
  have r1 : 0 ≤ (m0 a0 53) ∧ (m0 a0 53) ≤ 1 := zi_rd hIm0 hc0 zb_28_53
  refine zw_ite (fun h2 => ?_) (fun h2 => ?_)
  · refine zw_b (by omega) ?_
    generalize hmm3 : zu_up m0 a0 53 1 = m3
    have hIm3 := zi_up hmm3 hIm0 hc0 zb_28_53 (by omega) (by omega)
    have hFm3 := zfr_up hmm3 hFm0 hc0 rfl
    have r4 : 0 ≤ (m3 a0 53) ∧ (m3 a0 53) ≤ 1 := zi_rd hIm3 hc0 zb_28_53
    have e5 : (m3 a0 53) = 1 := (zs_eq hmm3)
    refine zw_ite (fun h6 => ?_) (fun h6 => ?_)
    · exfalso; omega
    · exact zw_some ⟨hIm3, hFm3, ⟨by omega, by omega⟩⟩
  · have c7 := zu_lcmp_sp a1 1000000000000
    refine zw_ite (fun h8 => ?_) (fun h8 => ?_)
    · refine zw_b (by omega) ?_
      generalize hmm9 : zu_up m0 a0 53 1 = m9
      have hIm9 := zi_up hmm9 hIm0 hc0 zb_28_53 (by omega) (by omega)
      have hFm9 := zfr_up hmm9 hFm0 hc0 rfl
      have r10 : 0 ≤ (m9 a0 53) ∧ (m9 a0 53) ≤ 1 := zi_rd hIm9 hc0 zb_28_53
      have e11 : (m9 a0 53) = 1 := (zs_eq hmm9)
      refine zw_ite (fun h12 => ?_) (fun h12 => ?_)
      · exfalso; omega
      · exact zw_some ⟨hIm9, hFm9, ⟨by omega, by omega⟩⟩
    · have c13 := zu_lcmp_sp a1 (-1000000000000)
      refine zw_ite (fun h14 => ?_) (fun h14 => ?_)
      · refine zw_b (by omega) ?_
        generalize hmm15 : zu_up m0 a0 53 0 = m15
        have hIm15 := zi_up hmm15 hIm0 hc0 zb_28_53 (by omega) (by omega)
        have hFm15 := zfr_up hmm15 hFm0 hc0 rfl
        have r16 : 0 ≤ (m15 a0 53) ∧ (m15 a0 53) ≤ 1 := zi_rd hIm15 hc0 zb_28_53
        have e17 : (m15 a0 53) = 0 := (zs_eq hmm15)
        refine zw_ite (fun h18 => ?_) (fun h18 => ?_)
        · exact zw_some ⟨hIm15, hFm15, ⟨by omega, by omega⟩⟩
        · exfalso; omega
      · refine zw_b (by omega) ?_
        generalize hmm19 : zu_up m0 a0 53 1 = m19
        have hIm19 := zi_up hmm19 hIm0 hc0 zb_28_53 (by omega) (by omega)
        have hFm19 := zfr_up hmm19 hFm0 hc0 rfl
        have r20 : 0 ≤ (m19 a0 53) ∧ (m19 a0 53) ≤ 1 := zi_rd hIm19 hc0 zb_28_53
        have e21 : (m19 a0 53) = 1 := (zs_eq hmm19)
        refine zw_ite (fun h22 => ?_) (fun h22 => ?_)
        · exfalso; omega
        · exact zw_some ⟨hIm19, hFm19, ⟨by omega, by omega⟩⟩
set_option maxHeartbeats 4000000 in
theorem zk_120 (n : Nat) {a0 a1 a2 : Int} {m0 : zu_m} (hIm0 : zi_I m0)  (ha0 : 5 ≤ a0 ∧ a0 ≤ 10) (ha1 : (-9223372036854775808) ≤ a1 ∧ a1 ≤ 9223372036854775807) (ha2 : (-9223372036854775808) ≤ a2 ∧ a2 ≤ 9223372036854775807)     : zw (zu_call (zt_T n) 120 [(0, a0), (1, a1), (1, a2)] m0) (fun v m => zi_I m ∧ zfr [] m0 m ∧ (0 ≤ v ∧ v ≤ 1)) := by
  have hFm0 : zfr [] m0 m0 := zfr_rf _ _
  refine zw_eq (zu_call_at (zt_T n) (zm_120 n) (zdp_120 n) _ _ _ _ _ rfl (zr_120_0 n _ _ a0 a1 a2 m0)) ?_
  refine zw_ite (fun h1 => ?_) (fun h1 => ?_)
  · have c2 := zu_lcmp_sp a1 a2
    refine zw_ite (fun h3 => ?_) (fun h3 => ?_)
    · refine zw_b (by omega) ?_
      exact zw_some ⟨hIm0, hFm0, ⟨by omega, by omega⟩⟩
    · refine zw_b (by omega) ?_
      exact zw_some ⟨hIm0, hFm0, ⟨by omega, by omega⟩⟩
  · refine zw_ite (fun h4 => ?_) (fun h4 => ?_)
    · have c5 := zu_lcmp_sp a1 a2
      refine zw_ite (fun h6 => ?_) (fun h6 => ?_)
      · refine zw_b (by omega) ?_
        exact zw_some ⟨hIm0, hFm0, ⟨by omega, by omega⟩⟩
      · refine zw_b (by omega) ?_
        exact zw_some ⟨hIm0, hFm0, ⟨by omega, by omega⟩⟩
    · refine zw_ite (fun h7 => ?_) (fun h7 => ?_)
      · have c8 := zu_lcmp_sp a1 a2
        refine zw_ite (fun h9 => ?_) (fun h9 => ?_)
        · refine zw_b (by omega) ?_
          exact zw_some ⟨hIm0, hFm0, ⟨by omega, by omega⟩⟩
        · refine zw_b (by omega) ?_
          exact zw_some ⟨hIm0, hFm0, ⟨by omega, by omega⟩⟩
      · refine zw_ite (fun h10 => ?_) (fun h10 => ?_)
        · have c11 := zu_lcmp_sp a1 a2
          refine zw_ite (fun h12 => ?_) (fun h12 => ?_)
          · refine zw_b (by omega) ?_
            exact zw_some ⟨hIm0, hFm0, ⟨by omega, by omega⟩⟩
          · refine zw_b (by omega) ?_
            exact zw_some ⟨hIm0, hFm0, ⟨by omega, by omega⟩⟩
        · refine zw_ite (fun h13 => ?_) (fun h13 => ?_)
          · have c14 := zu_lcmp_sp a1 a2
            refine zw_ite (fun h15 => ?_) (fun h15 => ?_)
            · refine zw_b (by omega) ?_
              exact zw_some ⟨hIm0, hFm0, ⟨by omega, by omega⟩⟩
            · refine zw_b (by omega) ?_
              exact zw_some ⟨hIm0, hFm0, ⟨by omega, by omega⟩⟩
          · have c16 := zu_lcmp_sp a1 a2
            refine zw_ite (fun h17 => ?_) (fun h17 => ?_)
            · refine zw_b (by omega) ?_
              exact zw_some ⟨hIm0, hFm0, ⟨by omega, by omega⟩⟩
            · refine zw_b (by omega) ?_
              exact zw_some ⟨hIm0, hFm0, ⟨by omega, by omega⟩⟩
set_option maxHeartbeats 4000000 in
theorem zk_121 (n : Nat) {a0 a1 a2 : Int} {m0 : zu_m} (hIm0 : zi_I m0) (hc0 : zcls a0 = 28) (ha1 : (-9223372036854775808) ≤ a1 ∧ a1 ≤ 9223372036854775807) (ha2 : (-9223372036854775808) ≤ a2 ∧ a2 ≤ 9223372036854775807)     : zw (zu_call (zt_T n) 121 [(40, a0), (1, a1), (1, a2)] m0) (fun v m => zi_I m ∧ zfr [(28, 54)] m0 m ∧ ((-9223372036854775808) ≤ v ∧ v ≤ 9223372036854775807)) := by
  have hFm0 : zfr [(28, 54)] m0 m0 := zfr_rf _ _
  refine zw_eq (zu_call_at (zt_T n) (zm_121 n) (zdp_121 n) _ _ _ _ _ rfl (zr_121_0 n _ _ a0 a1 a2 m0)) ?_
  have c1 := zu_lcmp_sp a1 0
  refine zw_ite (fun h2 => ?_) (fun h2 => ?_)
  · have r3 : 0 ≤ (m0 a0 53) ∧ (m0 a0 53) ≤ 1 := zi_rd hIm0 hc0 zb_28_53
    refine zw_ite (fun h4 => ?_) (fun h4 => ?_)
    · refine zw_b (by omega) ?_
      generalize hmm5 : zu_up m0 a0 53 1 = m5
      have hIm5 := zi_up hmm5 hIm0 hc0 zb_28_53 (by omega) (by omega)
      have hFm5 := zfr_up hmm5 hFm0 hc0 rfl
      have r6 : 0 ≤ (m5 a0 53) ∧ (m5 a0 53) ≤ 1 := zi_rd hIm5 hc0 zb_28_53
      have e7 : (m5 a0 53) = 1 := (zs_eq hmm5)
      refine zw_ite (fun h8 => ?_) (fun h8 => ?_)
      · exfalso; omega
      · exact zw_some ⟨hIm5, hFm5, ⟨by omega, by omega⟩⟩
    · refine zw_ite (fun h9 => ?_) (fun h9 => ?_)
      · refine zw_b (by omega) ?_
        generalize hmm10 : zu_up m0 a0 53 0 = m10
        have hIm10 := zi_up hmm10 hIm0 hc0 zb_28_53 (by omega) (by omega)
        have hFm10 := zfr_up hmm10 hFm0 hc0 rfl
        have r11 : 0 ≤ (m10 a0 53) ∧ (m10 a0 53) ≤ 1 := zi_rd hIm10 hc0 zb_28_53
        have e12 : (m10 a0 53) = 0 := (zs_eq hmm10)
        refine zw_ite (fun h13 => ?_) (fun h13 => ?_)
        · have w14 := zu_w64_rg (a1 * a2)
          exact zw_some ⟨hIm10, hFm10, ⟨by omega, by omega⟩⟩
        · exfalso; omega
      · exfalso; omega
  · have c15 := zu_lcmp_sp a2 0
    refine zw_ite (fun h16 => ?_) (fun h16 => ?_)
    · have r17 : 0 ≤ (m0 a0 53) ∧ (m0 a0 53) ≤ 1 := zi_rd hIm0 hc0 zb_28_53
      refine zw_ite (fun h18 => ?_) (fun h18 => ?_)
      · refine zw_b (by omega) ?_
        generalize hmm19 : zu_up m0 a0 53 1 = m19
        have hIm19 := zi_up hmm19 hIm0 hc0 zb_28_53 (by omega) (by omega)
        have hFm19 := zfr_up hmm19 hFm0 hc0 rfl
        have r20 : 0 ≤ (m19 a0 53) ∧ (m19 a0 53) ≤ 1 := zi_rd hIm19 hc0 zb_28_53
        have e21 : (m19 a0 53) = 1 := (zs_eq hmm19)
        refine zw_ite (fun h22 => ?_) (fun h22 => ?_)
        · exfalso; omega
        · exact zw_some ⟨hIm19, hFm19, ⟨by omega, by omega⟩⟩
      · refine zw_ite (fun h23 => ?_) (fun h23 => ?_)
        · refine zw_b (by omega) ?_
          generalize hmm24 : zu_up m0 a0 53 0 = m24
          have hIm24 := zi_up hmm24 hIm0 hc0 zb_28_53 (by omega) (by omega)
          have hFm24 := zfr_up hmm24 hFm0 hc0 rfl
          have r25 : 0 ≤ (m24 a0 53) ∧ (m24 a0 53) ≤ 1 := zi_rd hIm24 hc0 zb_28_53
          have e26 : (m24 a0 53) = 0 := (zs_eq hmm24)
          refine zw_ite (fun h27 => ?_) (fun h27 => ?_)
          · have w28 := zu_w64_rg (a1 * a2)
            exact zw_some ⟨hIm24, hFm24, ⟨by omega, by omega⟩⟩
          · exfalso; omega
        · exfalso; omega
    · have c29 := zu_lcmp_sp a2 0
      refine zw_ite (fun h30 => ?_) (fun h30 => ?_)
      · have c31 := zu_lcmp_sp a1 0
        refine zw_ite (fun h32 => ?_) (fun h32 => ?_)
        · refine zw_nif (by omega) ?_
          have w33 := zu_w64_rg (Int.tdiv 1000000000000 a1)
          have c34 := zu_lcmp_sp a2 (zu_w64 (Int.tdiv 1000000000000 a1))
          refine zw_ite (fun h35 => ?_) (fun h35 => ?_)
          · have r36 : 0 ≤ (m0 a0 53) ∧ (m0 a0 53) ≤ 1 := zi_rd hIm0 hc0 zb_28_53
            refine zw_ite (fun h37 => ?_) (fun h37 => ?_)
            · refine zw_b (by omega) ?_
              generalize hmm38 : zu_up m0 a0 53 1 = m38
              have hIm38 := zi_up hmm38 hIm0 hc0 zb_28_53 (by omega) (by omega)
              have hFm38 := zfr_up hmm38 hFm0 hc0 rfl
              have r39 : 0 ≤ (m38 a0 53) ∧ (m38 a0 53) ≤ 1 := zi_rd hIm38 hc0 zb_28_53
              have e40 : (m38 a0 53) = 1 := (zs_eq hmm38)
              refine zw_ite (fun h41 => ?_) (fun h41 => ?_)
              · exfalso; omega
              · exact zw_some ⟨hIm38, hFm38, ⟨by omega, by omega⟩⟩
            · refine zw_ite (fun h42 => ?_) (fun h42 => ?_)
              · refine zw_b (by omega) ?_
                generalize hmm43 : zu_up m0 a0 53 0 = m43
                have hIm43 := zi_up hmm43 hIm0 hc0 zb_28_53 (by omega) (by omega)
                have hFm43 := zfr_up hmm43 hFm0 hc0 rfl
                have r44 : 0 ≤ (m43 a0 53) ∧ (m43 a0 53) ≤ 1 := zi_rd hIm43 hc0 zb_28_53
                have e45 : (m43 a0 53) = 0 := (zs_eq hmm43)
                refine zw_ite (fun h46 => ?_) (fun h46 => ?_)
                · have w47 := zu_w64_rg (a1 * a2)
                  exact zw_some ⟨hIm43, hFm43, ⟨by omega, by omega⟩⟩
                · exfalso; omega
              · exfalso; omega
          · have r48 : 0 ≤ (m0 a0 53) ∧ (m0 a0 53) ≤ 1 := zi_rd hIm0 hc0 zb_28_53
            refine zw_ite (fun h49 => ?_) (fun h49 => ?_)
            · refine zw_b (by omega) ?_
              generalize hmm50 : zu_up m0 a0 53 1 = m50
              have hIm50 := zi_up hmm50 hIm0 hc0 zb_28_53 (by omega) (by omega)
              have hFm50 := zfr_up hmm50 hFm0 hc0 rfl
              have r51 : 0 ≤ (m50 a0 53) ∧ (m50 a0 53) ≤ 1 := zi_rd hIm50 hc0 zb_28_53
              have e52 : (m50 a0 53) = 1 := (zs_eq hmm50)
              refine zw_ite (fun h53 => ?_) (fun h53 => ?_)
              · exfalso; omega
              · exact zw_some ⟨hIm50, hFm50, ⟨by omega, by omega⟩⟩
            · refine zw_ite (fun h54 => ?_) (fun h54 => ?_)
              · exfalso; omega
              · refine zw_b (by omega) ?_
                generalize hmm55 : zu_up m0 a0 53 1 = m55
                have hIm55 := zi_up hmm55 hIm0 hc0 zb_28_53 (by omega) (by omega)
                have hFm55 := zfr_up hmm55 hFm0 hc0 rfl
                have r56 : 0 ≤ (m55 a0 53) ∧ (m55 a0 53) ≤ 1 := zi_rd hIm55 hc0 zb_28_53
                have e57 : (m55 a0 53) = 1 := (zs_eq hmm55)
                refine zw_ite (fun h58 => ?_) (fun h58 => ?_)
                · exfalso; omega
                · exact zw_some ⟨hIm55, hFm55, ⟨by omega, by omega⟩⟩
        · have w59 := zu_w64_rg (-a1)
          have w60 := zu_w64_ng (x := a1) (by omega) (by omega)
          refine zw_nif (by omega) ?_
          have w61 := zu_w64_rg (Int.tdiv 1000000000000 (zu_w64 (-a1)))
          have c62 := zu_lcmp_sp a2 (zu_w64 (Int.tdiv 1000000000000 (zu_w64 (-a1))))
          refine zw_ite (fun h63 => ?_) (fun h63 => ?_)
          · have r64 : 0 ≤ (m0 a0 53) ∧ (m0 a0 53) ≤ 1 := zi_rd hIm0 hc0 zb_28_53
            refine zw_ite (fun h65 => ?_) (fun h65 => ?_)
            · refine zw_b (by omega) ?_
              generalize hmm66 : zu_up m0 a0 53 1 = m66
              have hIm66 := zi_up hmm66 hIm0 hc0 zb_28_53 (by omega) (by omega)
              have hFm66 := zfr_up hmm66 hFm0 hc0 rfl
              have r67 : 0 ≤ (m66 a0 53) ∧ (m66 a0 53) ≤ 1 := zi_rd hIm66 hc0 zb_28_53
              have e68 : (m66 a0 53) = 1 := (zs_eq hmm66)
              refine zw_ite (fun h69 => ?_) (fun h69 => ?_)
              · exfalso; omega
              · exact zw_some ⟨hIm66, hFm66, ⟨by omega, by omega⟩⟩
            · refine zw_ite (fun h70 => ?_) (fun h70 => ?_)
              · refine zw_b (by omega) ?_
                generalize hmm71 : zu_up m0 a0 53 0 = m71
                have hIm71 := zi_up hmm71 hIm0 hc0 zb_28_53 (by omega) (by omega)
                have hFm71 := zfr_up hmm71 hFm0 hc0 rfl
                have r72 : 0 ≤ (m71 a0 53) ∧ (m71 a0 53) ≤ 1 := zi_rd hIm71 hc0 zb_28_53
                have e73 : (m71 a0 53) = 0 := (zs_eq hmm71)
                refine zw_ite (fun h74 => ?_) (fun h74 => ?_)
                · have w75 := zu_w64_rg (a1 * a2)
                  exact zw_some ⟨hIm71, hFm71, ⟨by omega, by omega⟩⟩
                · exfalso; omega
              · exfalso; omega
          · have r76 : 0 ≤ (m0 a0 53) ∧ (m0 a0 53) ≤ 1 := zi_rd hIm0 hc0 zb_28_53
            refine zw_ite (fun h77 => ?_) (fun h77 => ?_)
            · refine zw_b (by omega) ?_
              generalize hmm78 : zu_up m0 a0 53 1 = m78
              have hIm78 := zi_up hmm78 hIm0 hc0 zb_28_53 (by omega) (by omega)
              have hFm78 := zfr_up hmm78 hFm0 hc0 rfl
              have r79 : 0 ≤ (m78 a0 53) ∧ (m78 a0 53) ≤ 1 := zi_rd hIm78 hc0 zb_28_53
              have e80 : (m78 a0 53) = 1 := (zs_eq hmm78)
              refine zw_ite (fun h81 => ?_) (fun h81 => ?_)
              · exfalso; omega
              · exact zw_some ⟨hIm78, hFm78, ⟨by omega, by omega⟩⟩
            · refine zw_ite (fun h82 => ?_) (fun h82 => ?_)
              · exfalso; omega
              · refine zw_b (by omega) ?_
                generalize hmm83 : zu_up m0 a0 53 1 = m83
                have hIm83 := zi_up hmm83 hIm0 hc0 zb_28_53 (by omega) (by omega)
                have hFm83 := zfr_up hmm83 hFm0 hc0 rfl
                have r84 : 0 ≤ (m83 a0 53) ∧ (m83 a0 53) ≤ 1 := zi_rd hIm83 hc0 zb_28_53
                have e85 : (m83 a0 53) = 1 := (zs_eq hmm83)
                refine zw_ite (fun h86 => ?_) (fun h86 => ?_)
                · exfalso; omega
                · exact zw_some ⟨hIm83, hFm83, ⟨by omega, by omega⟩⟩
      · have w87 := zu_w64_rg (-a2)
        have w88 := zu_w64_ng (x := a2) (by omega) (by omega)
        have c89 := zu_lcmp_sp a1 0
        refine zw_ite (fun h90 => ?_) (fun h90 => ?_)
        · refine zw_nif (by omega) ?_
          have w91 := zu_w64_rg (Int.tdiv 1000000000000 a1)
          have c92 := zu_lcmp_sp (zu_w64 (-a2)) (zu_w64 (Int.tdiv 1000000000000 a1))
          refine zw_ite (fun h93 => ?_) (fun h93 => ?_)
          · have r94 : 0 ≤ (m0 a0 53) ∧ (m0 a0 53) ≤ 1 := zi_rd hIm0 hc0 zb_28_53
            refine zw_ite (fun h95 => ?_) (fun h95 => ?_)
            · refine zw_b (by omega) ?_
              generalize hmm96 : zu_up m0 a0 53 1 = m96
              have hIm96 := zi_up hmm96 hIm0 hc0 zb_28_53 (by omega) (by omega)
              have hFm96 := zfr_up hmm96 hFm0 hc0 rfl
              have r97 : 0 ≤ (m96 a0 53) ∧ (m96 a0 53) ≤ 1 := zi_rd hIm96 hc0 zb_28_53
              have e98 : (m96 a0 53) = 1 := (zs_eq hmm96)
              refine zw_ite (fun h99 => ?_) (fun h99 => ?_)
              · exfalso; omega
              · exact zw_some ⟨hIm96, hFm96, ⟨by omega, by omega⟩⟩
            · refine zw_ite (fun h100 => ?_) (fun h100 => ?_)
              · refine zw_b (by omega) ?_
                generalize hmm101 : zu_up m0 a0 53 0 = m101
                have hIm101 := zi_up hmm101 hIm0 hc0 zb_28_53 (by omega) (by omega)
                have hFm101 := zfr_up hmm101 hFm0 hc0 rfl
                have r102 : 0 ≤ (m101 a0 53) ∧ (m101 a0 53) ≤ 1 := zi_rd hIm101 hc0 zb_28_53
                have e103 : (m101 a0 53) = 0 := (zs_eq hmm101)
                refine zw_ite (fun h104 => ?_) (fun h104 => ?_)
                · have w105 := zu_w64_rg (a1 * a2)
                  exact zw_some ⟨hIm101, hFm101, ⟨by omega, by omega⟩⟩
                · exfalso; omega
              · exfalso; omega
          · have r106 : 0 ≤ (m0 a0 53) ∧ (m0 a0 53) ≤ 1 := zi_rd hIm0 hc0 zb_28_53
            refine zw_ite (fun h107 => ?_) (fun h107 => ?_)
            · refine zw_b (by omega) ?_
              generalize hmm108 : zu_up m0 a0 53 1 = m108
              have hIm108 := zi_up hmm108 hIm0 hc0 zb_28_53 (by omega) (by omega)
              have hFm108 := zfr_up hmm108 hFm0 hc0 rfl
              have r109 : 0 ≤ (m108 a0 53) ∧ (m108 a0 53) ≤ 1 := zi_rd hIm108 hc0 zb_28_53
              have e110 : (m108 a0 53) = 1 := (zs_eq hmm108)
              refine zw_ite (fun h111 => ?_) (fun h111 => ?_)
              · exfalso; omega
              · exact zw_some ⟨hIm108, hFm108, ⟨by omega, by omega⟩⟩
            · refine zw_ite (fun h112 => ?_) (fun h112 => ?_)
              · exfalso; omega
              · refine zw_b (by omega) ?_
                generalize hmm113 : zu_up m0 a0 53 1 = m113
                have hIm113 := zi_up hmm113 hIm0 hc0 zb_28_53 (by omega) (by omega)
                have hFm113 := zfr_up hmm113 hFm0 hc0 rfl
                have r114 : 0 ≤ (m113 a0 53) ∧ (m113 a0 53) ≤ 1 := zi_rd hIm113 hc0 zb_28_53
                have e115 : (m113 a0 53) = 1 := (zs_eq hmm113)
                refine zw_ite (fun h116 => ?_) (fun h116 => ?_)
                · exfalso; omega
                · exact zw_some ⟨hIm113, hFm113, ⟨by omega, by omega⟩⟩
        · have w117 := zu_w64_rg (-a1)
          have w118 := zu_w64_ng (x := a1) (by omega) (by omega)
          refine zw_nif (by omega) ?_
          have w119 := zu_w64_rg (Int.tdiv 1000000000000 (zu_w64 (-a1)))
          have c120 := zu_lcmp_sp (zu_w64 (-a2)) (zu_w64 (Int.tdiv 1000000000000 (zu_w64 (-a1))))
          refine zw_ite (fun h121 => ?_) (fun h121 => ?_)
          · have r122 : 0 ≤ (m0 a0 53) ∧ (m0 a0 53) ≤ 1 := zi_rd hIm0 hc0 zb_28_53
            refine zw_ite (fun h123 => ?_) (fun h123 => ?_)
            · refine zw_b (by omega) ?_
              generalize hmm124 : zu_up m0 a0 53 1 = m124
              have hIm124 := zi_up hmm124 hIm0 hc0 zb_28_53 (by omega) (by omega)
              have hFm124 := zfr_up hmm124 hFm0 hc0 rfl
              have r125 : 0 ≤ (m124 a0 53) ∧ (m124 a0 53) ≤ 1 := zi_rd hIm124 hc0 zb_28_53
              have e126 : (m124 a0 53) = 1 := (zs_eq hmm124)
              refine zw_ite (fun h127 => ?_) (fun h127 => ?_)
              · exfalso; omega
              · exact zw_some ⟨hIm124, hFm124, ⟨by omega, by omega⟩⟩
            · refine zw_ite (fun h128 => ?_) (fun h128 => ?_)
              · refine zw_b (by omega) ?_
                generalize hmm129 : zu_up m0 a0 53 0 = m129
                have hIm129 := zi_up hmm129 hIm0 hc0 zb_28_53 (by omega) (by omega)
                have hFm129 := zfr_up hmm129 hFm0 hc0 rfl
                have r130 : 0 ≤ (m129 a0 53) ∧ (m129 a0 53) ≤ 1 := zi_rd hIm129 hc0 zb_28_53
                have e131 : (m129 a0 53) = 0 := (zs_eq hmm129)
                refine zw_ite (fun h132 => ?_) (fun h132 => ?_)
                · have w133 := zu_w64_rg (a1 * a2)
                  exact zw_some ⟨hIm129, hFm129, ⟨by omega, by omega⟩⟩
                · exfalso; omega
              · exfalso; omega
          · have r134 : 0 ≤ (m0 a0 53) ∧ (m0 a0 53) ≤ 1 := zi_rd hIm0 hc0 zb_28_53
            refine zw_ite (fun h135 => ?_) (fun h135 => ?_)
            · refine zw_b (by omega) ?_
              generalize hmm136 : zu_up m0 a0 53 1 = m136
              have hIm136 := zi_up hmm136 hIm0 hc0 zb_28_53 (by omega) (by omega)
              have hFm136 := zfr_up hmm136 hFm0 hc0 rfl
              have r137 : 0 ≤ (m136 a0 53) ∧ (m136 a0 53) ≤ 1 := zi_rd hIm136 hc0 zb_28_53
              have e138 : (m136 a0 53) = 1 := (zs_eq hmm136)
              refine zw_ite (fun h139 => ?_) (fun h139 => ?_)
              · exfalso; omega
              · exact zw_some ⟨hIm136, hFm136, ⟨by omega, by omega⟩⟩
            · refine zw_ite (fun h140 => ?_) (fun h140 => ?_)
              · exfalso; omega
              · refine zw_b (by omega) ?_
                generalize hmm141 : zu_up m0 a0 53 1 = m141
                have hIm141 := zi_up hmm141 hIm0 hc0 zb_28_53 (by omega) (by omega)
                have hFm141 := zfr_up hmm141 hFm0 hc0 rfl
                have r142 : 0 ≤ (m141 a0 53) ∧ (m141 a0 53) ≤ 1 := zi_rd hIm141 hc0 zb_28_53
                have e143 : (m141 a0 53) = 1 := (zs_eq hmm141)
                refine zw_ite (fun h144 => ?_) (fun h144 => ?_)
                · exfalso; omega
                · exact zw_some ⟨hIm141, hFm141, ⟨by omega, by omega⟩⟩
set_option maxHeartbeats 4000000 in
theorem zl_130 (n : Nat) {a0 a1 a2 : Int} {m0 : zu_m} (hc0 : zcls a0 = 28)   : ∀ k : Nat, (∀ (x3 x4 : Int) (mh : zu_m), zi_I mh → zfr [] m0 mh → (0 ≤ a1 ∧ a1 ≤ 1) → (0 ≤ a2 ∧ a2 ≤ 23) → ((-2147483648) ≤ x3 ∧ x3 ≤ 2147483647) → (0 ≤ x4 ∧ x4 ≤ 18) → (18 - x4) * 1 + 0 < (k : Int) → zw (zu_ex (zt_T n) 130 5 [(40, a0), (0, a1), (0, a2), (0, x3), (0, x4)] [] mh) (fun v m => zi_I m ∧ zfr [] m0 m ∧ ((-2147483648) ≤ v ∧ v ≤ 2147483647))) := by
  intro k
  induction k with
  | zero => exact fun x3 x4 mh hImh hFmh hba1 hba2 hbx3 hbx4 hM => by exfalso; omega
  | succ k ih =>
    intro x3 x4 mh hImh hFmh hba1 hba2 hbx3 hbx4 hM
    refine zw_eq (zu_rega_at (zt_T n) (zm_130 n) (zdp_130 n) _ _ _ _ _ _ (zr_130_5 n _ _ a0 a1 a2 x3 x4 mh)) ?_
    have b1 : 0 ≤ a1 ∧ a1 < 2 := by omega
    refine zw_if b1 ?_
    have r2 : 0 ≤ (mh 216 a1) ∧ (mh 216 a1) ≤ 18 := zi_rdr (m := 2) (r0 := 0) (r1 := 1) hImh zq_216 (by omega) (by decide +kernel)
    refine zw_ite (fun h3 => ?_) (fun h3 => ?_)
    · exact zw_some ⟨hImh, hFmh, ⟨by omega, by omega⟩⟩
    · have w4 := zu_w32_id (z := 18 * a1) (by omega) (by omega)
      have w5 := zu_w32_id (z := (zu_w32 (18 * a1)) + x4) (by omega) (by omega)
      have b6 : 0 ≤ (zu_w32 ((zu_w32 (18 * a1)) + x4)) ∧ (zu_w32 ((zu_w32 (18 * a1)) + x4)) < 36 := by omega
      refine zw_if b6 ?_
      have r7 : (-3) ≤ (mh 215 (zu_w32 ((zu_w32 (18 * a1)) + x4))) ∧ (mh 215 (zu_w32 ((zu_w32 (18 * a1)) + x4))) ≤ 3 := zi_rd hImh zq_215 (zb_124 _)
      refine zw_ite (fun h8 => ?_) (fun h8 => ?_)
      · have w9 := zu_w32_id (z := x3 + 0) (by omega) (by omega)
        have w10 := zu_w32_id (z := x4 + 1) (by omega) (by omega)
        have hM : (18 - (zu_w32 (x4 + 1))) * 1 + 0 < (k : Int) := by omega
        exact ih (zu_w32 (x3 + 0)) (zu_w32 (x4 + 1)) mh hImh hFmh ⟨by omega, by omega⟩ ⟨by omega, by omega⟩ ⟨by omega, by omega⟩ ⟨by omega, by omega⟩ hM
      · have w11 := zu_w32_rg (x3 + 1)
        have w12 := zu_w32_id (z := x4 + 1) (by omega) (by omega)
        have hM : (18 - (zu_w32 (x4 + 1))) * 1 + 0 < (k : Int) := by omega
        exact ih (zu_w32 (x3 + 1)) (zu_w32 (x4 + 1)) mh hImh hFmh ⟨by omega, by omega⟩ ⟨by omega, by omega⟩ ⟨by omega, by omega⟩ ⟨by omega, by omega⟩ hM
set_option maxHeartbeats 4000000 in
theorem zk_130 (n : Nat) {a0 a1 a2 : Int} {m0 : zu_m} (hIm0 : zi_I m0) (hc0 : zcls a0 = 28) (ha1 : 0 ≤ a1 ∧ a1 ≤ 1) (ha2 : 0 ≤ a2 ∧ a2 ≤ 23)     : zw (zu_call (zt_T n) 130 [(40, a0), (0, a1), (0, a2)] m0) (fun v m => zi_I m ∧ zfr [] m0 m ∧ ((-2147483648) ≤ v ∧ v ≤ 2147483647)) := by
  have hFm0 : zfr [] m0 m0 := zfr_rf _ _
  refine zw_eq (zu_call_at (zt_T n) (zm_130 n) (zdp_130 n) _ _ _ _ _ rfl (zr_130_0 n _ _ a0 a1 a2 m0)) ?_
  have hM : (18 - 0) * 1 + 0 < ((19 : Nat) : Int) := by omega
  exact (zl_130 n (m0 := m0) hc0 19) 0 0 m0 hIm0 hFm0 ⟨by omega, by omega⟩ ⟨by omega, by omega⟩ ⟨by omega, by omega⟩ ⟨by omega, by omega⟩ hM
set_option maxHeartbeats 4000000 in
theorem zk_135 (n : Nat) {a0 a1 a2 : Int} {m0 : zu_m} (hIm0 : zi_I m0) (hc0 : zcls a0 = 28) (ha1 : 0 ≤ a1 ∧ a1 ≤ 47) (ha2 : 0 ≤ a2 ∧ a2 ≤ 47)     : zw (zu_call (zt_T n) 135 [(40, a0), (0, a1), (0, a2)] m0) (fun v m => zi_I m ∧ zfr [] m0 m ∧ (0 ≤ v ∧ v ≤ 54)) := by
  have hFm0 : zfr [] m0 m0 := zfr_rf _ _
  refine zw_eq (zu_call_at (zt_T n) (zm_135 n) (zdp_135 n) _ _ _ _ _ rfl (zr_135_0 n _ _ a0 a1 a2 m0)) ?_
  have r1 : 1 ≤ (m0 a0 12) ∧ (m0 a0 12) ≤ 8 := zi_rd hIm0 hc0 zb_28_12
  refine zw_nif (by omega) ?_
  have d2 := ztmod_bd (x := a1) (y := (m0 a0 12)) (by omega) (by omega)
  refine zw_nif (by omega) ?_
  have d3 := ztmod_bd (x := a2) (y := (m0 a0 12)) (by omega) (by omega)
  have w4 := zu_w32_id (z := (Int.tmod a1 (m0 a0 12)) - (Int.tmod a2 (m0 a0 12))) (by omega) (by omega)
  refine zw_nif (by omega) ?_
  have d5 := ztdiv_bd (x := a1) (y := (m0 a0 12)) (by omega) (by omega)
  have w6 := zu_w32_id (z := Int.tdiv a1 (m0 a0 12)) (by omega) (by omega)
  refine zw_nif (by omega) ?_
  have d7 := ztdiv_bd (x := a2) (y := (m0 a0 12)) (by omega) (by omega)
  have w8 := zu_w32_id (z := Int.tdiv a2 (m0 a0 12)) (by omega) (by omega)
  have w9 := zu_w32_id (z := (zu_w32 (Int.tdiv a1 (m0 a0 12))) - (zu_w32 (Int.tdiv a2 (m0 a0 12)))) (by omega) (by omega)
  refine zw_ite (fun h10 => ?_) (fun h10 => ?_)
  · refine zw_ite (fun h11 => ?_) (fun h11 => ?_)
    · have w12 := zu_w32_id (z := (zu_w32 ((Int.tmod a1 (m0 a0 12)) - (Int.tmod a2 (m0 a0 12)))) + (zu_w32 ((zu_w32 (Int.tdiv a1 (m0 a0 12))) - (zu_w32 (Int.tdiv a2 (m0 a0 12)))))) (by omega) (by omega)
      exact zw_some ⟨hIm0, hFm0, ⟨by omega, by omega⟩⟩
    · have w13 := zu_w32_id (z := -(zu_w32 ((zu_w32 (Int.tdiv a1 (m0 a0 12))) - (zu_w32 (Int.tdiv a2 (m0 a0 12)))))) (by omega) (by omega)
      have w14 := zu_w32_id (z := (zu_w32 ((Int.tmod a1 (m0 a0 12)) - (Int.tmod a2 (m0 a0 12)))) + (zu_w32 (-(zu_w32 ((zu_w32 (Int.tdiv a1 (m0 a0 12))) - (zu_w32 (Int.tdiv a2 (m0 a0 12)))))))) (by omega) (by omega)
      exact zw_some ⟨hIm0, hFm0, ⟨by omega, by omega⟩⟩
  · have w15 := zu_w32_id (z := -(zu_w32 ((Int.tmod a1 (m0 a0 12)) - (Int.tmod a2 (m0 a0 12))))) (by omega) (by omega)
    refine zw_ite (fun h16 => ?_) (fun h16 => ?_)
    · have w17 := zu_w32_id (z := (zu_w32 (-(zu_w32 ((Int.tmod a1 (m0 a0 12)) - (Int.tmod a2 (m0 a0 12)))))) + (zu_w32 ((zu_w32 (Int.tdiv a1 (m0 a0 12))) - (zu_w32 (Int.tdiv a2 (m0 a0 12)))))) (by omega) (by omega)
      exact zw_some ⟨hIm0, hFm0, ⟨by omega, by omega⟩⟩
    · have w18 := zu_w32_id (z := -(zu_w32 ((zu_w32 (Int.tdiv a1 (m0 a0 12))) - (zu_w32 (Int.tdiv a2 (m0 a0 12)))))) (by omega) (by omega)
      have w19 := zu_w32_id (z := (zu_w32 (-(zu_w32 ((Int.tmod a1 (m0 a0 12)) - (Int.tmod a2 (m0 a0 12)))))) + (zu_w32 (-(zu_w32 ((zu_w32 (Int.tdiv a1 (m0 a0 12))) - (zu_w32 (Int.tdiv a2 (m0 a0 12)))))))) (by omega) (by omega)
      exact zw_some ⟨hIm0, hFm0, ⟨by omega, by omega⟩⟩
set_option maxHeartbeats 4000000 in
theorem zk_136 (n : Nat) {a0 a1 : Int} {m0 : zu_m} (hIm0 : zi_I m0) (hc0 : zcls a0 = 28) (ha1 : 1 ≤ a1 ∧ a1 ≤ 100)     : zw (zu_call (zt_T n) 136 [(40, a0), (0, a1)] m0) (fun v m => zi_I m ∧ zfr [(28, 64)] m0 m ∧ ((-99) ≤ v ∧ v ≤ 99)) := by
  have hFm0 : zfr [(28, 64)] m0 m0 := zfr_rf _ _
  refine zw_eq (zu_call_at (zt_T n) (zm_136 n) (zdp_136 n) _ _ _ _ _ rfl (zr_136_0 n _ _ a0 a1 m0)) ?_
  have r1 : (-9223372036854775808) ≤ (m0 a0 63) ∧ (m0 a0 63) ≤ 9223372036854775807 := zi_rd hIm0 hc0 zb_28_63
  have w2 := zu_w64_rg ((m0 a0 63) * 1103515245)
  have w3 := zu_w64_rg ((zu_w64 ((m0 a0 63) * 1103515245)) + 12345)
  have b4 := zu_i64_rg 3 (zu_w64 ((zu_w64 ((m0 a0 63) * 1103515245)) + 12345)) 2147483647
  generalize hmm5 : zu_up m0 a0 63 (zu_i64 3 (zu_w64 ((zu_w64 ((m0 a0 63) * 1103515245)) + 12345)) 2147483647) = m5
  have hIm5 := zi_up hmm5 hIm0 hc0 zb_28_63 (by omega) (by omega)
  have hFm5 := zfr_up hmm5 hFm0 hc0 rfl
  have r6 : (-9223372036854775808) ≤ (m5 a0 63) ∧ (m5 a0 63) ≤ 9223372036854775807 := zi_rd hIm5 hc0 zb_28_63
  have e7 : (m5 a0 63) = (zu_i64 3 (zu_w64 ((zu_w64 ((m0 a0 63) * 1103515245)) + 12345)) 2147483647) := (zs_eq hmm5)
  refine zw_nif (by omega) ?_
  have w8 := zu_w64_rg (Int.tdiv (m5 a0 63) 65536)
  refine zw_nif (by omega) ?_
  have d9 := ztmod_b2 (x := (zu_w64 (Int.tdiv (m5 a0 63) 65536))) (y := a1) (by omega)
  have w10 := zu_w32_id (z := (Int.tmod (zu_w64 (Int.tdiv (m5 a0 63) 65536)) a1)) (by omega) (by omega)
  exact zw_some ⟨hIm5, hFm5, ⟨by omega, by omega⟩⟩
set_option maxHeartbeats 4000000 in
theorem zk_167 (n : Nat) {a0 a1 a2 : Int} {m0 : zu_m} (hIm0 : zi_I m0) (hc0 : zcls a0 = 28) (ha1 : 0 ≤ a1 ∧ a1 ≤ 3) (ha2 : 0 ≤ a2 ∧ a2 ≤ 3)     : zw (zu_call (zt_T n) 167 [(40, a0), (0, a1), (0, a2)] m0) (fun v m => zi_I m ∧ zfr [] m0 m ∧ ((-2147483648) ≤ v ∧ v ≤ 2147483647)) := by
  have hFm0 : zfr [] m0 m0 := zfr_rf _ _
  refine zw_eq (zu_call_at (zt_T n) (zm_167 n) (zdp_167 n) _ _ _ _ _ rfl (zr_167_0 n _ _ a0 a1 a2 m0)) ?_
  refine zw_ite (fun h1 => ?_) (fun h1 => ?_)
  · have b2 : 0 ≤ a1 ∧ a1 < 4 := by omega
    refine zw_if b2 ?_
    have r3 : 0 ≤ (m0 224 a1) ∧ (m0 224 a1) ≤ 47 := zi_rd hIm0 zq_224 (zb_133 _)
    have b4 : 0 ≤ (m0 224 a1) ∧ (m0 224 a1) < 48 := by omega
    refine zw_if b4 ?_
    have r5 : (-2147483648) ≤ (m0 222 (m0 224 a1)) ∧ (m0 222 (m0 224 a1)) ≤ 2147483647 := zi_rd hIm0 zq_222 (zb_131 _)
    exact zw_some ⟨hIm0, hFm0, ⟨by omega, by omega⟩⟩
  · have b6 : 0 ≤ a1 ∧ a1 < 4 := by omega
    refine zw_if b6 ?_
    have r7 : 0 ≤ (m0 224 a1) ∧ (m0 224 a1) ≤ 47 := zi_rd hIm0 zq_224 (zb_133 _)
    have b8 : 0 ≤ (m0 224 a1) ∧ (m0 224 a1) < 48 := by omega
    refine zw_if b8 ?_
    have r9 : (-2147483648) ≤ (m0 222 (m0 224 a1)) ∧ (m0 222 (m0 224 a1)) ≤ 2147483647 := zi_rd hIm0 zq_222 (zb_131 _)
    refine zw_nif (by omega) ?_
    have w10 := zu_w32_rg (Int.tdiv (m0 222 (m0 224 a1)) 2)
    exact zw_some ⟨hIm0, hFm0, ⟨by omega, by omega⟩⟩
set_option maxHeartbeats 4000000 in
theorem zl_186 (n : Nat) {a0 a1 : Int} {m0 : zu_m} (hc0 : zcls a0 = 28)   : ∀ k : Nat, (∀ (x2 x3 : Int) (mh : zu_m), zi_I mh → zfr [] m0 mh → (0 ≤ a1 ∧ a1 ≤ 1) → ((-2147483648) ≤ x2 ∧ x2 ≤ 2147483647) → (0 ≤ x3 ∧ x3 ≤ 18) → (18 - x3) * 1 + 0 < (k : Int) → zw (zu_ex (zt_T n) 186 4 [(40, a0), (0, a1), (0, x2), (0, x3)] [] mh) (fun v m => zi_I m ∧ zfr [] m0 m ∧ ((-2147483648) ≤ v ∧ v ≤ 2147483647))) := by
  intro k
  induction k with
  | zero => exact fun x2 x3 mh hImh hFmh hba1 hbx2 hbx3 hM => by exfalso; omega
  | succ k ih =>
    intro x2 x3 mh hImh hFmh hba1 hbx2 hbx3 hM
    refine zw_eq (zu_rega_at (zt_T n) (zm_186 n) (zdp_186 n) _ _ _ _ _ _ (zr_186_4 n _ _ a0 a1 x2 x3 mh)) ?_
    have b1 : 0 ≤ a1 ∧ a1 < 2 := by omega
    refine zw_if b1 ?_
    have r2 : 0 ≤ (mh 216 a1) ∧ (mh 216 a1) ≤ 18 := zi_rdr (m := 2) (r0 := 0) (r1 := 1) hImh zq_216 (by omega) (by decide +kernel)
    refine zw_ite (fun h3 => ?_) (fun h3 => ?_)
    · exact zw_some ⟨hImh, hFmh, ⟨by omega, by omega⟩⟩
    · have w4 := zu_w32_id (z := 18 * a1) (by omega) (by omega)
      have w5 := zu_w32_id (z := (zu_w32 (18 * a1)) + x3) (by omega) (by omega)
      have b6 : 0 ≤ (zu_w32 ((zu_w32 (18 * a1)) + x3)) ∧ (zu_w32 ((zu_w32 (18 * a1)) + x3)) < 36 := by omega
      refine zw_if b6 ?_
      have r7 : (-3) ≤ (mh 215 (zu_w32 ((zu_w32 (18 * a1)) + x3))) ∧ (mh 215 (zu_w32 ((zu_w32 (18 * a1)) + x3))) ≤ 3 := zi_rd hImh zq_215 (zb_124 _)
      refine zw_ite (fun h8 => ?_) (fun h8 => ?_)
      · have w9 := zu_w32_id (z := x2 + 0) (by omega) (by omega)
        have w10 := zu_w32_id (z := x3 + 1) (by omega) (by omega)
        have hM : (18 - (zu_w32 (x3 + 1))) * 1 + 0 < (k : Int) := by omega
        exact ih (zu_w32 (x2 + 0)) (zu_w32 (x3 + 1)) mh hImh hFmh ⟨by omega, by omega⟩ ⟨by omega, by omega⟩ ⟨by omega, by omega⟩ hM
      · have w11 := zu_w32_rg (x2 + 1)
        have w12 := zu_w32_id (z := x3 + 1) (by omega) (by omega)
        have hM : (18 - (zu_w32 (x3 + 1))) * 1 + 0 < (k : Int) := by omega
        exact ih (zu_w32 (x2 + 1)) (zu_w32 (x3 + 1)) mh hImh hFmh ⟨by omega, by omega⟩ ⟨by omega, by omega⟩ ⟨by omega, by omega⟩ hM
set_option maxHeartbeats 4000000 in
theorem zk_186 (n : Nat) {a0 a1 : Int} {m0 : zu_m} (hIm0 : zi_I m0) (hc0 : zcls a0 = 28) (ha1 : 0 ≤ a1 ∧ a1 ≤ 1)     : zw (zu_call (zt_T n) 186 [(40, a0), (0, a1)] m0) (fun v m => zi_I m ∧ zfr [] m0 m ∧ ((-2147483648) ≤ v ∧ v ≤ 2147483647)) := by
  have hFm0 : zfr [] m0 m0 := zfr_rf _ _
  refine zw_eq (zu_call_at (zt_T n) (zm_186 n) (zdp_186 n) _ _ _ _ _ rfl (zr_186_0 n _ _ a0 a1 m0)) ?_
  have hM : (18 - 0) * 1 + 0 < ((19 : Nat) : Int) := by omega
  exact (zl_186 n (m0 := m0) hc0 19) 0 0 m0 hIm0 hFm0 ⟨by omega, by omega⟩ ⟨by omega, by omega⟩ ⟨by omega, by omega⟩ hM
set_option maxHeartbeats 4000000 in
theorem zl_188_28_137 (n : Nat) {a0 a1 a2 : Int} {m0 : zu_m} (hc0 : zcls a0 = 28) (hc1 : zcls a1 = 137) (hmd2 : a2 % 22 = 0)  : ∀ k : Nat, (∀ (x3 : Int) (mh : zu_m), zi_I mh → zfr [(137, 0)] m0 mh → (0 ≤ a2 ∧ a2 ≤ 418) → (0 ≤ x3 ∧ x3 ≤ 4) → (zputp mh a1 a2 x3) → (zout m0 mh a1 a2) → (4 - x3) * 1 + 17 < (k : Int) → zw (zu_ex (zt_T n) 188 20 [(40, a0), (51, a1), (0, a2), (0, x3)] [] mh) (fun v m => zi_I m ∧ zfr [(137, 0)] m0 m ∧ True ∧ (zputp m a1 a2 4) ∧ (zout m0 m a1 a2))) ∧ (∀ (x3 : Int) (mh : zu_m), zi_I mh → zfr [(137, 0)] m0 mh → (0 ≤ a2 ∧ a2 ≤ 418) → (0 ≤ x3 ∧ x3 ≤ 16) → (zputp mh a1 a2 4) → (zout m0 mh a1 a2) → (16 - x3) * 1 + 0 < (k : Int) → zw (zu_ex (zt_T n) 188 46 [(40, a0), (51, a1), (0, a2), (0, x3)] [] mh) (fun v m => zi_I m ∧ zfr [(137, 0)] m0 m ∧ True ∧ (zputp m a1 a2 4) ∧ (zout m0 m a1 a2))) := by
  intro k
  induction k with
  | zero => exact ⟨fun x3 mh hImh hFmh hba2 hbx3 hH0 hH1 hM => by exfalso; omega, fun x3 mh hImh hFmh hba2 hbx3 hH0 hH1 hM => by exfalso; omega⟩
  | succ k ih =>
    refine ⟨?_, ?_⟩
    · intro x3 mh hImh hFmh hba2 hbx3 hH0 hH1 hM
      refine zw_eq (zu_rega_at (zt_T n) (zm_188 n) (zdp_188 n) _ _ _ _ _ _ (zr_188_20 n _ _ a0 a1 a2 x3 mh)) ?_
      refine zw_ite (fun h1 => ?_) (fun h1 => ?_)
      · have hM : (16 - 0) * 1 + 0 < (k : Int) := by omega
        exact ih.2 0 mh hImh hFmh ⟨by omega, by omega⟩ ⟨by omega, by omega⟩ (zputp_x hH0 (by omega)) hH1 hM
      · have w2 := zu_w32_id (z := a2 + 2) (by omega) (by omega)
        have w3 := zu_w32_id (z := (zu_w32 (a2 + 2)) + x3) (by omega) (by omega)
        have b4 : 0 ≤ x3 ∧ x3 < 8 := by omega
        refine zw_if b4 ?_
        have r5 : 0 ≤ (mh 217 x3) ∧ (mh 217 x3) ≤ 47 := zi_rd hImh zq_217 (zb_126 _)
        have b6 : 0 ≤ (zu_w32 ((zu_w32 (a2 + 2)) + x3)) ∧ (zu_w32 ((zu_w32 (a2 + 2)) + x3)) < 440 := by omega
        refine zw_if b6 ?_
        generalize hmm7 : zu_up mh a1 (zu_w32 ((zu_w32 (a2 + 2)) + x3)) (mh 217 x3) = m7
        have hIm7 := zi_upr (m := 22) (r0 := 2) (r1 := 5) (lo := 0) (hi := 47) hmm7 hImh hc1 (by omega) (by decide +kernel) (by omega) (by omega)
        have hFm7 := zfr_up hmm7 hFmh hc1 rfl
        have w8 := zu_w32_id (z := x3 + 1) (by omega) (by omega)
        have hM : (4 - (zu_w32 (x3 + 1))) * 1 + 17 < (k : Int) := by omega
        exact ih.1 (zu_w32 (x3 + 1)) m7 hIm7 hFm7 ⟨by omega, by omega⟩ ⟨by omega, by omega⟩ (zputp_s hmm7 (Or.inl (zone_228 hc1)) (by omega) rfl (by omega) (by omega) hH0) (zout_s hmm7 (by omega) (by omega) hH1) hM
    · intro x3 mh hImh hFmh hba2 hbx3 hH0 hH1 hM
      refine zw_eq (zu_rega_at (zt_T n) (zm_188 n) (zdp_188 n) _ _ _ _ _ _ (zr_188_46 n _ _ a0 a1 a2 x3 mh)) ?_
      refine zw_ite (fun h9 => ?_) (fun h9 => ?_)
      · exact zw_some ⟨hImh, hFmh, trivial, hH0, hH1⟩
      · have w10 := zu_w32_id (z := a2 + 6) (by omega) (by omega)
        have w11 := zu_w32_id (z := (zu_w32 (a2 + 6)) + x3) (by omega) (by omega)
        have b12 : 0 ≤ x3 ∧ x3 < 36 := by omega
        refine zw_if b12 ?_
        have r13 : 0 ≤ (mh 197 x3) ∧ (mh 197 x3) ≤ 47 := zi_rd hImh zq_197 (zb_106 _)
        have b14 : 0 ≤ x3 ∧ x3 < 36 := by omega
        refine zw_if b14 ?_
        have r15 : 0 ≤ (mh 198 x3) ∧ (mh 198 x3) ≤ 3 := zi_rd hImh zq_198 (zb_107 _)
        have b16 : 0 ≤ x3 ∧ x3 < 36 := by omega
        refine zw_if b16 ?_
        have r17 : 0 ≤ (mh 199 x3) ∧ (mh 199 x3) ≤ 9 := zi_rd hImh zq_199 (zb_108 _)
        have w18 := zu_w32_id (z := 4 * (mh 199 x3)) (by omega) (by omega)
        have w19 := zu_w32_id (z := (mh 198 x3) + (zu_w32 (4 * (mh 199 x3)))) (by omega) (by omega)
        have w20 := zu_w32_id (z := 48 * (zu_w32 ((mh 198 x3) + (zu_w32 (4 * (mh 199 x3)))))) (by omega) (by omega)
        have w21 := zu_w32_id (z := (mh 197 x3) + (zu_w32 (48 * (zu_w32 ((mh 198 x3) + (zu_w32 (4 * (mh 199 x3)))))))) (by omega) (by omega)
        have b22 : 0 ≤ (zu_w32 ((zu_w32 (a2 + 6)) + x3)) ∧ (zu_w32 ((zu_w32 (a2 + 6)) + x3)) < 440 := by omega
        refine zw_if b22 ?_
        generalize hmm23 : zu_up mh a1 (zu_w32 ((zu_w32 (a2 + 6)) + x3)) (zu_w32 ((mh 197 x3) + (zu_w32 (48 * (zu_w32 ((mh 198 x3) + (zu_w32 (4 * (mh 199 x3))))))))) = m23
        have hIm23 := zi_upr (m := 22) (r0 := 6) (r1 := 21) (lo := 0) (hi := 1919) hmm23 hImh hc1 (by omega) (by decide +kernel) (by omega) (by omega)
        have hFm23 := zfr_up hmm23 hFmh hc1 rfl
        have w24 := zu_w32_id (z := x3 + 1) (by omega) (by omega)
        have hM : (16 - (zu_w32 (x3 + 1))) * 1 + 0 < (k : Int) := by omega
        exact ih.2 (zu_w32 (x3 + 1)) m23 hIm23 hFm23 ⟨by omega, by omega⟩ ⟨by omega, by omega⟩ (zputp_hi hmm23 (Or.inl (zone_228 hc1)) (by omega) (by omega) hH0) (zout_s hmm23 (by omega) (by omega) hH1) hM
set_option maxHeartbeats 4000000 in
theorem zk_188_28_137 (n : Nat) {a0 a1 a2 : Int} {m0 : zu_m} (hIm0 : zi_I m0) (hc0 : zcls a0 = 28) (hc1 : zcls a1 = 137) (ha2 : 0 ≤ a2 ∧ a2 ≤ 418) (hmd2 : a2 % 22 = 0)    : zw (zu_call (zt_T n) 188 [(40, a0), (51, a1), (0, a2)] m0) (fun v m => zi_I m ∧ zfr [(137, 0)] m0 m ∧ True ∧ (zputp m a1 a2 4) ∧ (zout m0 m a1 a2)) := by
  have hFm0 : zfr [(137, 0)] m0 m0 := zfr_rf _ _
  refine zw_eq (zu_call_at (zt_T n) (zm_188 n) (zdp_188 n) _ _ _ _ _ rfl (zr_188_0 n _ _ a0 a1 a2 m0)) ?_
  have b25 : 0 ≤ (0 : Int) ∧ (0 : Int) < 2 := by omega
  refine zw_if b25 ?_
  have r26 : 0 ≤ (m0 216 0) ∧ (m0 216 0) ≤ 16 := zi_rdr (m := 2) (r0 := 0) (r1 := 0) hIm0 zq_216 (by omega) (by decide +kernel)
  have b27 : 0 ≤ a2 ∧ a2 < 440 := by omega
  refine zw_if b27 ?_
  generalize hmm28 : zu_up m0 a1 a2 (m0 216 0) = m28
  have hIm28 := zi_upr (m := 22) (r0 := 0) (r1 := 0) (lo := 0) (hi := 16) hmm28 hIm0 hc1 (by omega) (by decide +kernel) (by omega) (by omega)
  have hFm28 := zfr_up hmm28 hFm0 hc1 rfl
  have w29 := zu_w32_id (z := a2 + 1) (by omega) (by omega)
  have r30 : (-2147483648) ≤ (m28 a0 62) ∧ (m28 a0 62) ≤ 2147483647 := zi_rd hIm28 hc0 zb_28_62
  have b31 : 0 ≤ (zu_w32 (a2 + 1)) ∧ (zu_w32 (a2 + 1)) < 440 := by omega
  refine zw_if b31 ?_
  generalize hmm32 : zu_up m28 a1 (zu_w32 (a2 + 1)) (m28 a0 62) = m32
  have hIm32 := zi_upr (m := 22) (r0 := 1) (r1 := 1) (lo := (-2147483648)) (hi := 2147483647) hmm32 hIm28 hc1 (by omega) (by decide +kernel) (by omega) (by omega)
  have hFm32 := zfr_up hmm32 hFm28 hc1 rfl
  have hM : (4 - 0) * 1 + 17 < ((22 : Nat) : Int) := by omega
  exact (zl_188_28_137 n (m0 := m0) hc0 hc1 hmd2 22).1 0 m32 hIm32 hFm32 ⟨by omega, by omega⟩ ⟨by omega, by omega⟩ (zputp_0 hmm28 hmm32 (Or.inl (zone_228 hc1)) (by omega) rfl) (zout_s hmm32 (by omega) (by omega) (zout_s hmm28 (by omega) (by omega) (fun _ _ => rfl))) hM

set_option maxHeartbeats 4000000 in
theorem zl_14 (n : Nat) {a0 : Int} {m0 : zu_m} (hc0 : zcls a0 = 5) : ∀ k : Nat, (∀ (x1 : Int) (mh : zu_m), zi_I mh → zfr [(5, 6), (5, 7), (22, 0), (23, 0)] m0 mh → (0 ≤ x1 ∧ x1 ≤ 4) → (4 - x1) * 1 + 0 < (k : Int) → zw (zu_ex (zt_T n) 14 12 [(10, a0), (0, x1)] [] mh) (fun v m => zi_I m ∧ zfr [(5, 6), (5, 7), (22, 0), (23, 0)] m0 m ∧ True)) := by
  intro k
  induction k with
  | zero => exact fun x1 mh hImh hFmh hbx1 hM => by exfalso; omega
  | succ k ih =>
    intro x1 mh hImh hFmh hbx1 hM
    refine zw_eq (zr_14_12 n a0 x1 mh) ?_
    refine zw_ite (fun h1 => ?_) (fun h1 => ?_)
    · exact zw_some ⟨hImh, hFmh, trivial⟩
    · have b2 : 0 ≤ x1 ∧ x1 < 4 := by omega
      refine zw_if b2 ?_
      generalize hmm3 : zu_up mh (a0 + 3) x1 (-1) = m3
      have hIm3 := zi_up hmm3 hImh (zc_5_2 hc0) (zb_22 _) (by omega) (by omega)
      have hFm3 := zfr_up hmm3 hFmh (zc_5_2 hc0) rfl
      have b4 : 0 ≤ x1 ∧ x1 < 4 := by omega
      refine zw_if b4 ?_
      generalize hmm5 : zu_up m3 (a0 + 4) x1 (-1) = m5
      have hIm5 := zi_up hmm5 hIm3 (zc_5_3 hc0) (zb_23 _) (by omega) (by omega)
      have hFm5 := zfr_up hmm5 hFm3 (zc_5_3 hc0) rfl
      have w6 := zu_w32_id (z := x1 + 1) (by omega) (by omega)
      have hM : (4 - (zu_w32 (x1 + 1))) * 1 + 0 < (k : Int) := by omega
      exact ih (zu_w32 (x1 + 1)) m5 hIm5 hFm5 ⟨by omega, by omega⟩ hM
set_option maxHeartbeats 4000000 in
theorem zk_14 (n : Nat) {a0 : Int} {m0 : zu_m} (hIm0 : zi_I m0) (hc0 : zcls a0 = 5)  : zw (zu_call (zt_T n) 14 [(10, a0)] m0) (fun v m => zi_I m ∧ zfr [(5, 6), (5, 7), (22, 0), (23, 0)] m0 m ∧ True) := by
  have hFm0 : zfr [(5, 6), (5, 7), (22, 0), (23, 0)] m0 m0 := zfr_rf _ _
  refine zw_eq (zr_14_0 n a0 m0) ?_
  generalize hmm7 : zu_up m0 a0 5 0 = m7
  have hIm7 := zi_up hmm7 hIm0 hc0 zb_5_5 (by omega) (by omega)
  have hFm7 := zfr_up hmm7 hFm0 hc0 rfl
  generalize hmm8 : zu_up m7 a0 6 0 = m8
  have hIm8 := zi_up hmm8 hIm7 hc0 zb_5_6 (by omega) (by omega)
  have hFm8 := zfr_up hmm8 hFm7 hc0 rfl
  have hM : (4 - 0) * 1 + 0 < ((5 : Nat) : Int) := by omega
  exact (zl_14 n (m0 := m0) hc0 5) 0 m8 hIm8 hFm8 ⟨by omega, by omega⟩ hM
set_option maxHeartbeats 4000000 in
theorem zl_15 (n : Nat) {a0 a1 a2 : Int} {m0 : zu_m} (hc0 : zcls a0 = 4) : ∀ k : Nat, (∀ (x3 x4 : Int) (mh : zu_m), zi_I mh → zfr [(4, 1), (4, 2), (4, 3), (17, 0), (18, 0)] m0 mh → (1 ≤ a1 ∧ a1 ≤ 8) → (1 ≤ a2 ∧ a2 ≤ 6) → (0 ≤ x3 ∧ x3 ≤ 48) → (0 ≤ x4 ∧ x4 ≤ 6) → (6 - x4) * 50 + 49 < (k : Int) → zw (zu_ex (zt_T n) 15 28 [(8, a0), (0, a1), (0, a2), (0, x3), (0, x4), (2, 0)] [] mh) (fun v m => zi_I m ∧ zfr [(4, 1), (4, 2), (4, 3), (17, 0), (18, 0)] m0 m ∧ True)) ∧ (∀ (x3 x4 x5 : Int) (mh : zu_m), zi_I mh → zfr [(4, 1), (4, 2), (4, 3), (17, 0), (18, 0)] m0 mh → (1 ≤ a1 ∧ a1 ≤ 8) → (1 ≤ a2 ∧ a2 ≤ 6) → (0 ≤ x3 ∧ x3 ≤ 48) → (0 ≤ x4 ∧ x4 ≤ 5) → (0 ≤ x5 ∧ x5 ≤ 8) → (48 - x3) * 1 + (6 - x4) * 50 + 0 < (k : Int) → zw (zu_ex (zt_T n) 15 40 [(8, a0), (0, a1), (0, a2), (0, x3), (0, x4), (0, x5)] [] mh) (fun v m => zi_I m ∧ zfr [(4, 1), (4, 2), (4, 3), (17, 0), (18, 0)] m0 m ∧ True)) := by
  intro k
  induction k with
  | zero => exact ⟨fun x3 x4 mh hImh hFmh hba1 hba2 hbx3 hbx4 hM => by exfalso; omega, fun x3 x4 x5 mh hImh hFmh hba1 hba2 hbx3 hbx4 hbx5 hM => by exfalso; omega⟩
  | succ k ih =>
    refine ⟨?_, ?_⟩
    · intro x3 x4 mh hImh hFmh hba1 hba2 hbx3 hbx4 hM
      refine zw_eq (zr_15_28 n a0 a1 a2 x3 x4 mh) ?_
      have r1 : 1 ≤ (mh a0 1) ∧ (mh a0 1) ≤ 6 := zi_rd hImh hc0 zb_4_1
      refine zw_ite (fun h2 => ?_) (fun h2 => ?_)
      · exact zw_some ⟨hImh, hFmh, trivial⟩
      · have hM : (48 - x3) * 1 + (6 - x4) * 50 + 0 < (k : Int) := by omega
        exact ih.2 x3 x4 0 mh hImh hFmh ⟨by omega, by omega⟩ ⟨by omega, by omega⟩ ⟨by omega, by omega⟩ ⟨by omega, by omega⟩ ⟨by omega, by omega⟩ hM
    · intro x3 x4 x5 mh hImh hFmh hba1 hba2 hbx3 hbx4 hbx5 hM
      refine zw_eq (zr_15_40 n a0 a1 a2 x3 x4 x5 mh) ?_
      have r3 : 1 ≤ (mh a0 0) ∧ (mh a0 0) ≤ 8 := zi_rd hImh hc0 zb_4_0
      refine zw_ite (fun h4 => ?_) (fun h4 => ?_)
      · have w5 := zu_w32_id (z := x4 + 1) (by omega) (by omega)
        have hM : (6 - (zu_w32 (x4 + 1))) * 50 + 49 < (k : Int) := by omega
        exact zw_le (zu_forget (zu_lr_same (zu_lr_same (zu_lr_same (zu_lr_same (zu_lr_same (zu_lr_drop zu_lr_nil))))))) (ih.1 x3 (zu_w32 (x4 + 1)) mh hImh hFmh ⟨by omega, by omega⟩ ⟨by omega, by omega⟩ ⟨by omega, by omega⟩ ⟨by omega, by omega⟩ hM)
      · refine zw_ite (fun h6 => ?_) (fun h6 => ?_)
        · have w7 := zu_w32_id (z := x4 + 1) (by omega) (by omega)
          have hM : (6 - (zu_w32 (x4 + 1))) * 50 + 49 < (k : Int) := by omega
          exact zw_le (zu_forget (zu_lr_same (zu_lr_same (zu_lr_same (zu_lr_same (zu_lr_same (zu_lr_drop zu_lr_nil))))))) (ih.1 x3 (zu_w32 (x4 + 1)) mh hImh hFmh ⟨by omega, by omega⟩ ⟨by omega, by omega⟩ ⟨by omega, by omega⟩ ⟨by omega, by omega⟩ hM)
        · have b8 : 0 ≤ x3 ∧ x3 < 48 := by omega
          refine zw_if b8 ?_
          generalize hmm9 : zu_up mh (a0 + 1) x3 x5 = m9
          have hIm9 := zi_up hmm9 hImh (zc_4_6 hc0) (zb_17 _) (by omega) (by omega)
          have hFm9 := zfr_up hmm9 hFmh (zc_4_6 hc0) rfl
          have b10 : 0 ≤ x3 ∧ x3 < 48 := by omega
          refine zw_if b10 ?_
          generalize hmm11 : zu_up m9 (a0 + 2) x3 x4 = m11
          have hIm11 := zi_up hmm11 hIm9 (zc_4_7 hc0) (zb_18 _) (by omega) (by omega)
          have hFm11 := zfr_up hmm11 hFm9 (zc_4_7 hc0) rfl
          have w12 := zu_w32_id (z := x3 + 1) (by omega) (by omega)
          have w13 := zu_w32_id (z := x5 + 1) (by omega) (by omega)
          have hM : (48 - (zu_w32 (x3 + 1))) * 1 + (6 - x4) * 50 + 0 < (k : Int) := by omega
          exact ih.2 (zu_w32 (x3 + 1)) x4 (zu_w32 (x5 + 1)) m11 hIm11 hFm11 ⟨by omega, by omega⟩ ⟨by omega, by omega⟩ ⟨by omega, by omega⟩ ⟨by omega, by omega⟩ ⟨by omega, by omega⟩ hM
set_option maxHeartbeats 4000000 in
theorem zk_15 (n : Nat) {a0 a1 a2 : Int} {m0 : zu_m} (hIm0 : zi_I m0) (hc0 : zcls a0 = 4) (ha1 : 1 ≤ a1 ∧ a1 ≤ 8) (ha2 : 1 ≤ a2 ∧ a2 ≤ 6) : zw (zu_call (zt_T n) 15 [(8, a0), (0, a1), (0, a2)] m0) (fun v m => zi_I m ∧ zfr [(4, 1), (4, 2), (4, 3), (17, 0), (18, 0)] m0 m ∧ True) := by
  have hFm0 : zfr [(4, 1), (4, 2), (4, 3), (17, 0), (18, 0)] m0 m0 := zfr_rf _ _
  refine zw_eq (zr_15_0 n a0 a1 a2 m0) ?_
  generalize hmm14 : zu_up m0 a0 0 a1 = m14
  have hIm14 := zi_up hmm14 hIm0 hc0 zb_4_0 (by omega) (by omega)
  have hFm14 := zfr_up hmm14 hFm0 hc0 rfl
  generalize hmm15 : zu_up m14 a0 1 a2 = m15
  have hIm15 := zi_up hmm15 hIm14 hc0 zb_4_1 (by omega) (by omega)
  have hFm15 := zfr_up hmm15 hFm14 hc0 rfl
  have r16 : 1 ≤ (m15 a0 0) ∧ (m15 a0 0) ≤ 8 := zi_rd hIm15 hc0 zb_4_0
  have e17 : (m15 a0 0) = a1 := (Eq.trans (zs_ne hmm15 (Or.inr (by decide))) (zs_eq hmm14))
  have r18 : 1 ≤ (m15 a0 1) ∧ (m15 a0 1) ≤ 6 := zi_rd hIm15 hc0 zb_4_1
  have e19 : (m15 a0 1) = a2 := (zs_eq hmm15)
  have p20 := zmul_bd (x := (m15 a0 0)) (y := (m15 a0 1)) (a := 1) (b := 1) (A := 8) (B := 6) (by omega) (by omega) (by omega) (by omega) (by omega) (by omega)
  have w21 := zu_w32_id (z := (m15 a0 0) * (m15 a0 1)) (by omega) (by omega)
  generalize hmm22 : zu_up m15 a0 2 (zu_w32 ((m15 a0 0) * (m15 a0 1))) = m22
  have hIm22 := zi_up hmm22 hIm15 hc0 zb_4_2 (by omega) (by omega)
  have hFm22 := zfr_up hmm22 hFm15 hc0 rfl
  have hM : (6 - 0) * 50 + 49 < ((350 : Nat) : Int) := by omega
  exact (zl_15 n (m0 := m0) hc0 350).1 0 0 m22 hIm22 hFm22 ⟨by omega, by omega⟩ ⟨by omega, by omega⟩ ⟨by omega, by omega⟩ ⟨by omega, by omega⟩ hM
set_option maxHeartbeats 4000000 in
theorem zl_16 (n : Nat) {a0 : Int} {m0 : zu_m} (hc0 : zcls a0 = 6) : ∀ k : Nat, (∀ (x1 : Int) (mh : zu_m), zi_I mh → zfr [(6, 3), (6, 5), (6, 9), (6, 10), (6, 11), (6, 12), (30, 0), (31, 0)] m0 mh → (0 ≤ x1 ∧ x1 ≤ 48) → (48 - x1) * 1 + 0 < (k : Int) → zw (zu_ex (zt_T n) 16 33 [(16, a0), (0, x1)] [] mh) (fun v m => zi_I m ∧ zfr [(6, 3), (6, 5), (6, 9), (6, 10), (6, 11), (6, 12), (30, 0), (31, 0)] m0 m ∧ True)) := by
  intro k
  induction k with
  | zero => exact fun x1 mh hImh hFmh hbx1 hM => by exfalso; omega
  | succ k ih =>
    intro x1 mh hImh hFmh hbx1 hM
    refine zw_eq (zr_16_33 n a0 x1 mh) ?_
    refine zw_ite (fun h1 => ?_) (fun h1 => ?_)
    · exact zw_some ⟨hImh, hFmh, trivial⟩
    · refine zw_b (by omega) ?_
      have b2 : 0 ≤ x1 ∧ x1 < 48 := by omega
      refine zw_if b2 ?_
      generalize hmm3 : zu_up mh 22 x1 0 = m3
      have hIm3 := zi_up hmm3 hImh zq_22 (zb_30 _) (by omega) (by omega)
      have hFm3 := zfr_up hmm3 hFmh zq_22 rfl
      have b4 : 0 ≤ x1 ∧ x1 < 48 := by omega
      refine zw_if b4 ?_
      generalize hmm5 : zu_up m3 23 x1 0 = m5
      have hIm5 := zi_up hmm5 hIm3 zq_23 (zb_31 _) (by omega) (by omega)
      have hFm5 := zfr_up hmm5 hFm3 zq_23 rfl
      have w6 := zu_w32_id (z := x1 + 1) (by omega) (by omega)
      have hM : (48 - (zu_w32 (x1 + 1))) * 1 + 0 < (k : Int) := by omega
      exact ih (zu_w32 (x1 + 1)) m5 hIm5 hFm5 ⟨by omega, by omega⟩ hM
set_option maxHeartbeats 4000000 in
theorem zk_16 (n : Nat) {a0 : Int} {m0 : zu_m} (hIm0 : zi_I m0) (hc0 : zcls a0 = 6)  : zw (zu_call (zt_T n) 16 [(16, a0)] m0) (fun v m => zi_I m ∧ zfr [(6, 3), (6, 5), (6, 9), (6, 10), (6, 11), (6, 12), (30, 0), (31, 0)] m0 m ∧ True) := by
  have hFm0 : zfr [(6, 3), (6, 5), (6, 9), (6, 10), (6, 11), (6, 12), (30, 0), (31, 0)] m0 m0 := zfr_rf _ _
  refine zw_eq (zr_16_0 n a0 m0) ?_
  generalize hmm7 : zu_up m0 a0 2 0 = m7
  have hIm7 := zi_up hmm7 hIm0 hc0 zb_6_2 (by omega) (by omega)
  have hFm7 := zfr_up hmm7 hFm0 hc0 rfl
  generalize hmm8 : zu_up m7 a0 4 0 = m8
  have hIm8 := zi_up hmm8 hIm7 hc0 zb_6_4 (by omega) (by omega)
  have hFm8 := zfr_up hmm8 hFm7 hc0 rfl
  generalize hmm9 : zu_up m8 a0 8 0 = m9
  have hIm9 := zi_up hmm9 hIm8 hc0 zb_6_8 (by omega) (by omega)
  have hFm9 := zfr_up hmm9 hFm8 hc0 rfl
  generalize hmm10 : zu_up m9 a0 9 0 = m10
  have hIm10 := zi_up hmm10 hIm9 hc0 zb_6_9 (by omega) (by omega)
  have hFm10 := zfr_up hmm10 hFm9 hc0 rfl
  generalize hmm11 : zu_up m10 a0 10 0 = m11
  have hIm11 := zi_up hmm11 hIm10 hc0 zb_6_10 (by omega) (by omega)
  have hFm11 := zfr_up hmm11 hFm10 hc0 rfl
  generalize hmm12 : zu_up m11 a0 11 1000000 = m12
  have hIm12 := zi_up hmm12 hIm11 hc0 zb_6_11 (by omega) (by omega)
  have hFm12 := zfr_up hmm12 hFm11 hc0 rfl
  have hM : (48 - 0) * 1 + 0 < ((49 : Nat) : Int) := by omega
  exact (zl_16 n (m0 := m0) hc0 49) 0 m12 hIm12 hFm12 ⟨by omega, by omega⟩ hM
set_option maxHeartbeats 4000000 in
theorem zk_17 (n : Nat) {a0 a1 : Int} {m0 : zu_m} (hIm0 : zi_I m0) (hc0 : zcls a0 = 9) (ha1 : 0 ≤ a1 ∧ a1 ≤ 700) : zw (zu_call (zt_T n) 17 [(22, a0), (0, a1)] m0) (fun v m => zi_I m ∧ zfr [(9, 3), (9, 4)] m0 m ∧ True) := by
  have hFm0 : zfr [(9, 3), (9, 4)] m0 m0 := zfr_rf _ _
  refine zw_eq (zr_17_0 n a0 a1 m0) ?_
  generalize hmm1 : zu_up m0 a0 2 a1 = m1
  have hIm1 := zi_up hmm1 hIm0 hc0 zb_9_2 (by omega) (by omega)
  have hFm1 := zfr_up hmm1 hFm0 hc0 rfl
  generalize hmm2 : zu_up m1 a0 3 0 = m2
  have hIm2 := zi_up hmm2 hIm1 hc0 zb_9_3 (by omega) (by omega)
  have hFm2 := zfr_up hmm2 hFm1 hc0 rfl
  exact zw_some ⟨hIm2, hFm2, trivial⟩
set_option maxHeartbeats 4000000 in
theorem zk_21 (n : Nat) {a0 a1 : Int} {m0 : zu_m} (hIm0 : zi_I m0) (hc0 : zcls a0 = 5) (hc1 : zcls a1 = 5)  : zw (zu_call (zt_T n) 21 [(10, a0), (10, a1)] m0) (fun v m => zi_I m ∧ zfr [(5, 6), (5, 7), (20, 0), (21, 0), (22, 0), (23, 0)] m0 m ∧ True) := by
  have hFm0 : zfr [(5, 6), (5, 7), (20, 0), (21, 0), (22, 0), (23, 0)] m0 m0 := zfr_rf _ _
  refine zw_eq (zr_21_0 n a0 a1 m0) ?_
  refine zw_if (by omega) ?_
  generalize hmm1 : zu_cp m0 (a1 + 1) 0 (a0 + 1) 0 64 = m1
  have hIm1 := zi_cp hmm1 hIm0 (zc_5_0 hc1) (zc_5_0 hc0) zb_20 zb_20 (by decide) (by decide)
  have hFm1 := zfr_cp hmm1 hFm0 (zc_5_0 hc0) (fun _ => rfl)
  have hfm1 : zfr [(20, 0)] m0 m1 := zfr_cp hmm1 (zfr_rf _ _) (zc_5_0 hc0) (fun _ => rfl)
  refine zw_if (by omega) ?_
  generalize hmm2 : zu_cp m1 (a1 + 2) 0 (a0 + 2) 0 64 = m2
  have hIm2 := zi_cp hmm2 hIm1 (zc_5_1 hc1) (zc_5_1 hc0) zb_21 zb_21 (by decide) (by decide)
  have hFm2 := zfr_cp hmm2 hFm1 (zc_5_1 hc0) (fun _ => rfl)
  have hfm2 : zfr [(21, 0)] m1 m2 := zfr_cp hmm2 (zfr_rf _ _) (zc_5_1 hc0) (fun _ => rfl)
  refine zw_if (by omega) ?_
  generalize hmm3 : zu_cp m2 (a1 + 3) 0 (a0 + 3) 0 4 = m3
  have hIm3 := zi_cp hmm3 hIm2 (zc_5_2 hc1) (zc_5_2 hc0) zb_22 zb_22 (by decide) (by decide)
  have hFm3 := zfr_cp hmm3 hFm2 (zc_5_2 hc0) (fun _ => rfl)
  have hfm3 : zfr [(22, 0)] m2 m3 := zfr_cp hmm3 (zfr_rf _ _) (zc_5_2 hc0) (fun _ => rfl)
  refine zw_if (by omega) ?_
  generalize hmm4 : zu_cp m3 (a1 + 4) 0 (a0 + 4) 0 4 = m4
  have hIm4 := zi_cp hmm4 hIm3 (zc_5_3 hc1) (zc_5_3 hc0) zb_23 zb_23 (by decide) (by decide)
  have hFm4 := zfr_cp hmm4 hFm3 (zc_5_3 hc0) (fun _ => rfl)
  have hfm4 : zfr [(23, 0)] m3 m4 := zfr_cp hmm4 (zfr_rf _ _) (zc_5_3 hc0) (fun _ => rfl)
  have r5 : 0 ≤ (m4 a1 5) ∧ (m4 a1 5) ≤ 64 := zi_rd hIm4 hc1 zb_5_5
  generalize hmm6 : zu_up m4 a0 5 (m4 a1 5) = m6
  have hIm6 := zi_up hmm6 hIm4 hc0 zb_5_5 (by omega) (by omega)
  have hFm6 := zfr_up hmm6 hFm4 hc0 rfl
  have r7 : 0 ≤ (m6 a1 6) ∧ (m6 a1 6) ≤ 64 := zi_rd hIm6 hc1 zb_5_6
  generalize hmm8 : zu_up m6 a0 6 (m6 a1 6) = m8
  have hIm8 := zi_up hmm8 hIm6 hc0 zb_5_6 (by omega) (by omega)
  have hFm8 := zfr_up hmm8 hFm6 hc0 rfl
  exact zw_some ⟨hIm8, hFm8, trivial⟩
set_option maxHeartbeats 4000000 in
theorem zk_25 (n : Nat) {a0 a1 a2 a3 : Int} {m0 : zu_m} (hIm0 : zi_I m0) (hc0 : zcls a0 = 4) (ha1 : 0 ≤ a1 ∧ a1 ≤ 47) (ha2 : 0 ≤ a2 ∧ a2 ≤ 3) (ha3 : 0 ≤ a3 ∧ a3 ≤ 9) : zw (zu_call (zt_T n) 25 [(8, a0), (0, a1), (0, a2), (0, a3)] m0) (fun v m => zi_I m ∧ zfr [(27, 0)] m0 m ∧ True) := by
  have hFm0 : zfr [(27, 0)] m0 m0 := zfr_rf _ _
  refine zw_eq (zr_25_0 n a0 a1 a2 a3 m0) ?_
  have b1 : 0 ≤ 0 ∧ 0 < 7 := by omega
  refine zw_if b1 ?_
  generalize hmm2 : zu_up m0 (a0 + 12) 0 0 = m2
  have hIm2 := zi_up hmm2 hIm0 (zc_4_12 hc0) zb_27_0 (by omega) (by omega)
  have hFm2 := zfr_up hmm2 hFm0 (zc_4_12 hc0) rfl
  have b3 : 0 ≤ 1 ∧ 1 < 7 := by omega
  refine zw_if b3 ?_
  generalize hmm4 : zu_up m2 (a0 + 12) 1 a3 = m4
  have hIm4 := zi_up hmm4 hIm2 (zc_4_12 hc0) zb_27_1 (by omega) (by omega)
  have hFm4 := zfr_up hmm4 hFm2 (zc_4_12 hc0) rfl
  have b5 : 0 ≤ a1 ∧ a1 < 48 := by omega
  refine zw_if b5 ?_
  have r6 : 0 ≤ (m4 (a0 + 3) a1) ∧ (m4 (a0 + 3) a1) ≤ 3 := zi_rd hIm4 (zc_4_8 hc0) (zb_19 _)
  have b7 : 0 ≤ 2 ∧ 2 < 7 := by omega
  refine zw_if b7 ?_
  generalize hmm8 : zu_up m4 (a0 + 12) 2 (m4 (a0 + 3) a1) = m8
  have hIm8 := zi_up hmm8 hIm4 (zc_4_12 hc0) zb_27_2 (by omega) (by omega)
  have hFm8 := zfr_up hmm8 hFm4 (zc_4_12 hc0) rfl
  have b9 : 0 ≤ 3 ∧ 3 < 7 := by omega
  refine zw_if b9 ?_
  generalize hmm10 : zu_up m8 (a0 + 12) 3 a2 = m10
  have hIm10 := zi_up hmm10 hIm8 (zc_4_12 hc0) zb_27_3 (by omega) (by omega)
  have hFm10 := zfr_up hmm10 hFm8 (zc_4_12 hc0) rfl
  have b11 : 0 ≤ 4 ∧ 4 < 7 := by omega
  refine zw_if b11 ?_
  generalize hmm12 : zu_up m10 (a0 + 12) 4 0 = m12
  have hIm12 := zi_up hmm12 hIm10 (zc_4_12 hc0) zb_27_4 (by omega) (by omega)
  have hFm12 := zfr_up hmm12 hFm10 (zc_4_12 hc0) rfl
  have b13 : 0 ≤ a1 ∧ a1 < 48 := by omega
  refine zw_if b13 ?_
  have r14 : 0 ≤ (m12 (a0 + 2) a1) ∧ (m12 (a0 + 2) a1) ≤ 5 := zi_rd hIm12 (zc_4_7 hc0) (zb_18 _)
  have b15 : 0 ≤ 5 ∧ 5 < 7 := by omega
  refine zw_if b15 ?_
  generalize hmm16 : zu_up m12 (a0 + 12) 5 (m12 (a0 + 2) a1) = m16
  have hIm16 := zi_up hmm16 hIm12 (zc_4_12 hc0) zb_27_5 (by omega) (by omega)
  have hFm16 := zfr_up hmm16 hFm12 (zc_4_12 hc0) rfl
  have b17 : 0 ≤ 6 ∧ 6 < 7 := by omega
  refine zw_if b17 ?_
  generalize hmm18 : zu_up m16 (a0 + 12) 6 0 = m18
  have hIm18 := zi_up hmm18 hIm16 (zc_4_12 hc0) zb_27_6 (by omega) (by omega)
  have hFm18 := zfr_up hmm18 hFm16 (zc_4_12 hc0) rfl
  exact zw_some ⟨hIm18, hFm18, trivial⟩
set_option maxHeartbeats 4000000 in
theorem zk_27 (n : Nat) {a0 : Int} {m0 : zu_m} (hIm0 : zi_I m0) (hc0 : zcls a0 = 12)  : zw (zu_call (zt_T n) 27 [(28, a0)] m0) (fun v m => zi_I m ∧ zfr [(12, 7), (12, 8)] m0 m ∧ True) := by
  have hFm0 : zfr [(12, 7), (12, 8)] m0 m0 := zfr_rf _ _
  refine zw_eq (zr_27_0 n a0 m0) ?_
  generalize hmm1 : zu_up m0 a0 6 0 = m1
  have hIm1 := zi_up hmm1 hIm0 hc0 zb_12_6 (by omega) (by omega)
  have hFm1 := zfr_up hmm1 hFm0 hc0 rfl
  generalize hmm2 : zu_up m1 a0 7 (-1) = m2
  have hIm2 := zi_up hmm2 hIm1 hc0 zb_12_7 (by omega) (by omega)
  have hFm2 := zfr_up hmm2 hFm1 hc0 rfl
  exact zw_some ⟨hIm2, hFm2, trivial⟩
set_option maxHeartbeats 4000000 in
theorem zk_28 (n : Nat) {a0 : Int} {m0 : zu_m} (hIm0 : zi_I m0) (hc0 : zcls a0 = 13)  : zw (zu_call (zt_T n) 28 [(31, a0)] m0) (fun v m => zi_I m ∧ zfr [(13, 5)] m0 m ∧ True) := by
  have hFm0 : zfr [(13, 5)] m0 m0 := zfr_rf _ _
  refine zw_eq (zr_28_0 n a0 m0) ?_
  generalize hmm1 : zu_up m0 a0 4 0 = m1
  have hIm1 := zi_up hmm1 hIm0 hc0 zb_13_4 (by omega) (by omega)
  have hFm1 := zfr_up hmm1 hFm0 hc0 rfl
  exact zw_some ⟨hIm1, hFm1, trivial⟩
set_option maxHeartbeats 4000000 in
theorem zl_30 (n : Nat) {a0 : Int} {m0 : zu_m} (hc0 : zcls a0 = 15) : ∀ k : Nat, (∀ (x1 : Int) (mh : zu_m), zi_I mh → zfr [(15, 18), (15, 19), (15, 20), (15, 21), (15, 22), (15, 23), (15, 24), (15, 49), (63, 0), (64, 0), (65, 0), (66, 0), (75, 0)] m0 mh → (0 ≤ x1 ∧ x1 ≤ 6) → (6 - x1) * 1 + 60 < (k : Int) → zw (zu_ex (zt_T n) 30 43 [(40, a0), (0, x1)] [] mh) (fun v m => zi_I m ∧ zfr [(15, 18), (15, 19), (15, 20), (15, 21), (15, 22), (15, 23), (15, 24), (15, 49), (63, 0), (64, 0), (65, 0), (66, 0), (75, 0)] m0 m ∧ True)) ∧ (∀ (x1 : Int) (mh : zu_m), zi_I mh → zfr [(15, 18), (15, 19), (15, 20), (15, 21), (15, 22), (15, 23), (15, 24), (15, 49), (63, 0), (64, 0), (65, 0), (66, 0), (75, 0)] m0 mh → (5 ≤ x1 ∧ x1 ≤ 10) → (10 - x1) * 1 + 54 < (k : Int) → zw (zu_ex (zt_T n) 30 64 [(40, a0), (0, x1)] [] mh) (fun v m => zi_I m ∧ zfr [(15, 18), (15, 19), (15, 20), (15, 21), (15, 22), (15, 23), (15, 24), (15, 49), (63, 0), (64, 0), (65, 0), (66, 0), (75, 0)] m0 m ∧ True)) ∧ (∀ (x1 : Int) (mh : zu_m), zi_I mh → zfr [(15, 18), (15, 19), (15, 20), (15, 21), (15, 22), (15, 23), (15, 24), (15, 49), (63, 0), (64, 0), (65, 0), (66, 0), (75, 0)] m0 mh → (0 ≤ x1 ∧ x1 ≤ 48) → (48 - x1) * 1 + 5 < (k : Int) → zw (zu_ex (zt_T n) 30 95 [(40, a0), (0, x1)] [] mh) (fun v m => zi_I m ∧ zfr [(15, 18), (15, 19), (15, 20), (15, 21), (15, 22), (15, 23), (15, 24), (15, 49), (63, 0), (64, 0), (65, 0), (66, 0), (75, 0)] m0 m ∧ True)) ∧ (∀ (x1 : Int) (mh : zu_m), zi_I mh → zfr [(15, 18), (15, 19), (15, 20), (15, 21), (15, 22), (15, 23), (15, 24), (15, 49), (63, 0), (64, 0), (65, 0), (66, 0), (75, 0)] m0 mh → (4 ≤ x1 ∧ x1 ≤ 8) → (8 - x1) * 1 + 0 < (k : Int) → zw (zu_ex (zt_T n) 30 126 [(40, a0), (0, x1)] [] mh) (fun v m => zi_I m ∧ zfr [(15, 18), (15, 19), (15, 20), (15, 21), (15, 22), (15, 23), (15, 24), (15, 49), (63, 0), (64, 0), (65, 0), (66, 0), (75, 0)] m0 m ∧ True)) := by
  intro k
  induction k with
  | zero => exact ⟨fun x1 mh hImh hFmh hbx1 hM => by exfalso; omega, fun x1 mh hImh hFmh hbx1 hM => by exfalso; omega, fun x1 mh hImh hFmh hbx1 hM => by exfalso; omega, fun x1 mh hImh hFmh hbx1 hM => by exfalso; omega⟩
  | succ k ih =>
    refine ⟨?_, ?_, ?_, ?_⟩
    · intro x1 mh hImh hFmh hbx1 hM
      refine zw_eq (zr_30_43 n a0 x1 mh) ?_
      refine zw_ite (fun h1 => ?_) (fun h1 => ?_)
      · have hM : (10 - 5) * 1 + 54 < (k : Int) := by omega
        exact ih.2.1 5 mh hImh hFmh ⟨by omega, by omega⟩ hM
      · refine zw_b (by omega) ?_
        have b2 : 0 ≤ x1 ∧ x1 < 6 := by omega
        refine zw_if b2 ?_
        generalize hmm3 : zu_up mh 193 x1 0 = m3
        have hIm3 := zi_up hmm3 hImh zq_193 (zb_63 _) (by omega) (by omega)
        have hFm3 := zfr_up hmm3 hFmh zq_193 rfl
        have w4 := zu_w32_id (z := x1 + 1) (by omega) (by omega)
        have hM : (6 - (zu_w32 (x1 + 1))) * 1 + 60 < (k : Int) := by omega
        exact ih.1 (zu_w32 (x1 + 1)) m3 hIm3 hFm3 ⟨by omega, by omega⟩ hM
    · intro x1 mh hImh hFmh hbx1 hM
      refine zw_eq (zr_30_64 n a0 x1 mh) ?_
      refine zw_ite (fun h5 => ?_) (fun h5 => ?_)
      · have hM : (48 - 0) * 1 + 5 < (k : Int) := by omega
        exact ih.2.2.1 0 mh hImh hFmh ⟨by omega, by omega⟩ hM
      · refine zw_ite (fun h6 => ?_) (fun h6 => ?_)
        · have b7 : 0 ≤ x1 ∧ x1 < 10 := by omega
          refine zw_if b7 ?_
          generalize hmm8 : zu_up mh 194 x1 0 = m8
          have hIm8 := zi_up hmm8 hImh zq_194 (zb_64 _) (by omega) (by omega)
          have hFm8 := zfr_up hmm8 hFmh zq_194 rfl
          have w9 := zu_w32_id (z := x1 + 1) (by omega) (by omega)
          have hM : (10 - (zu_w32 (x1 + 1))) * 1 + 54 < (k : Int) := by omega
          exact ih.2.1 (zu_w32 (x1 + 1)) m8 hIm8 hFm8 ⟨by omega, by omega⟩ hM
        · have b10 : 0 ≤ x1 ∧ x1 < 10 := by omega
          refine zw_if b10 ?_
          generalize hmm11 : zu_up mh 194 x1 (-1) = m11
          have hIm11 := zi_up hmm11 hImh zq_194 (zb_64 _) (by omega) (by omega)
          have hFm11 := zfr_up hmm11 hFmh zq_194 rfl
          have w12 := zu_w32_id (z := x1 + 1) (by omega) (by omega)
          have hM : (10 - (zu_w32 (x1 + 1))) * 1 + 54 < (k : Int) := by omega
          exact ih.2.1 (zu_w32 (x1 + 1)) m11 hIm11 hFm11 ⟨by omega, by omega⟩ hM
    · intro x1 mh hImh hFmh hbx1 hM
      refine zw_eq (zr_30_95 n a0 x1 mh) ?_
      refine zw_ite (fun h13 => ?_) (fun h13 => ?_)
      · have hM : (8 - 4) * 1 + 0 < (k : Int) := by omega
        exact ih.2.2.2 4 mh hImh hFmh ⟨by omega, by omega⟩ hM
      · have w14 := zu_w32_id (z := 48 + x1) (by omega) (by omega)
        have b15 : 0 ≤ (zu_w32 (48 + x1)) ∧ (zu_w32 (48 + x1)) < 96 := by omega
        refine zw_if b15 ?_
        generalize hmm16 : zu_up mh 195 (zu_w32 (48 + x1)) 0 = m16
        have hIm16 := zi_up hmm16 hImh zq_195 (zb_65 _) (by omega) (by omega)
        have hFm16 := zfr_up hmm16 hFmh zq_195 rfl
        refine zw_b (by omega) ?_
        have b17 : 0 ≤ x1 ∧ x1 < 48 := by omega
        refine zw_if b17 ?_
        generalize hmm18 : zu_up m16 196 x1 0 = m18
        have hIm18 := zi_up hmm18 hIm16 zq_196 (zb_66 _) (by omega) (by omega)
        have hFm18 := zfr_up hmm18 hFm16 zq_196 rfl
        have w19 := zu_w32_id (z := x1 + 1) (by omega) (by omega)
        have hM : (48 - (zu_w32 (x1 + 1))) * 1 + 5 < (k : Int) := by omega
        exact ih.2.2.1 (zu_w32 (x1 + 1)) m18 hIm18 hFm18 ⟨by omega, by omega⟩ hM
    · intro x1 mh hImh hFmh hbx1 hM
      refine zw_eq (zr_30_126 n a0 x1 mh) ?_
      refine zw_ite (fun h20 => ?_) (fun h20 => ?_)
      · exact zw_some ⟨hImh, hFmh, trivial⟩
      · refine zw_b (by omega) ?_
        have b21 : 0 ≤ x1 ∧ x1 < 8 := by omega
        refine zw_if b21 ?_
        generalize hmm22 : zu_up mh 205 x1 0 = m22
        have hIm22 := zi_up hmm22 hImh zq_205 (zb_75 _) (by omega) (by omega)
        have hFm22 := zfr_up hmm22 hFmh zq_205 rfl
        have w23 := zu_w32_id (z := x1 + 1) (by omega) (by omega)
        have hM : (8 - (zu_w32 (x1 + 1))) * 1 + 0 < (k : Int) := by omega
        exact ih.2.2.2 (zu_w32 (x1 + 1)) m22 hIm22 hFm22 ⟨by omega, by omega⟩ hM
set_option maxHeartbeats 4000000 in
theorem zk_30 (n : Nat) {a0 : Int} {m0 : zu_m} (hIm0 : zi_I m0) (hc0 : zcls a0 = 15)  : zw (zu_call (zt_T n) 30 [(40, a0)] m0) (fun v m => zi_I m ∧ zfr [(15, 18), (15, 19), (15, 20), (15, 21), (15, 22), (15, 23), (15, 24), (15, 49), (63, 0), (64, 0), (65, 0), (66, 0), (75, 0)] m0 m ∧ True) := by
  have hFm0 : zfr [(15, 18), (15, 19), (15, 20), (15, 21), (15, 22), (15, 23), (15, 24), (15, 49), (63, 0), (64, 0), (65, 0), (66, 0), (75, 0)] m0 m0 := zfr_rf _ _
  refine zw_eq (zr_30_0 n a0 m0) ?_
  generalize hmm24 : zu_up m0 a0 17 6 = m24
  have hIm24 := zi_up hmm24 hIm0 hc0 zb_15_17 (by omega) (by omega)
  have hFm24 := zfr_up hmm24 hFm0 hc0 rfl
  generalize hmm25 : zu_up m24 a0 18 5 = m25
  have hIm25 := zi_up hmm25 hIm24 hc0 zb_15_18 (by omega) (by omega)
  have hFm25 := zfr_up hmm25 hFm24 hc0 rfl
  generalize hmm26 : zu_up m25 a0 19 0 = m26
  have hIm26 := zi_up hmm26 hIm25 hc0 zb_15_19 (by omega) (by omega)
  have hFm26 := zfr_up hmm26 hFm25 hc0 rfl
  generalize hmm27 : zu_up m26 a0 20 0 = m27
  have hIm27 := zi_up hmm27 hIm26 hc0 zb_15_20 (by omega) (by omega)
  have hFm27 := zfr_up hmm27 hFm26 hc0 rfl
  generalize hmm28 : zu_up m27 a0 21 0 = m28
  have hIm28 := zi_up hmm28 hIm27 hc0 zb_15_21 (by omega) (by omega)
  have hFm28 := zfr_up hmm28 hFm27 hc0 rfl
  generalize hmm29 : zu_up m28 a0 22 0 = m29
  have hIm29 := zi_up hmm29 hIm28 hc0 zb_15_22 (by omega) (by omega)
  have hFm29 := zfr_up hmm29 hFm28 hc0 rfl
  generalize hmm30 : zu_up m29 a0 48 0 = m30
  have hIm30 := zi_up hmm30 hIm29 hc0 zb_15_48 (by omega) (by omega)
  have hFm30 := zfr_up hmm30 hFm29 hc0 rfl
  refine zw_b (by omega) ?_
  generalize hmm31 : zu_up m30 a0 23 0 = m31
  have hIm31 := zi_up hmm31 hIm30 hc0 zb_15_23 (by omega) (by omega)
  have hFm31 := zfr_up hmm31 hFm30 hc0 rfl
  have hM : (6 - 0) * 1 + 60 < ((67 : Nat) : Int) := by omega
  exact (zl_30 n (m0 := m0) hc0 67).1 0 m31 hIm31 hFm31 ⟨by omega, by omega⟩ hM
set_option maxHeartbeats 4000000 in
theorem zl_32_64 (n : Nat) {a0 a1 : Int} {m0 : zu_m} (hc0 : zcls a0 = 64) : ∀ k : Nat, (∀ (x2 : Int) (mh : zu_m), zi_I mh → zfr [(64, 0)] m0 mh → (5 ≤ a1 ∧ a1 ≤ 5) → (0 ≤ x2 ∧ x2 ≤ 5) → (5 - x2) * 1 + 0 < (k : Int) → zw (zu_ex (zt_T n) 32 2 [(43, a0), (0, a1), (0, x2)] [] mh) (fun v m => zi_I m ∧ zfr [(64, 0)] m0 m ∧ True)) := by
  intro k
  induction k with
  | zero => exact fun x2 mh hImh hFmh hba1 hbx2 hM => by exfalso; omega
  | succ k ih =>
    intro x2 mh hImh hFmh hba1 hbx2 hM
    refine zw_eq (zr_32_2 n a0 a1 x2 mh) ?_
    refine zw_ite (fun h1 => ?_) (fun h1 => ?_)
    · exact zw_some ⟨hImh, hFmh, trivial⟩
    · have w2 := zu_w32_id (z := a1 + x2) (by omega) (by omega)
      have b3 : 0 ≤ (zu_w32 (a1 + x2)) ∧ (zu_w32 (a1 + x2)) < 10 := by omega
      refine zw_if b3 ?_
      have r4 : (-1) ≤ (mh a0 (zu_w32 (a1 + x2))) ∧ (mh a0 (zu_w32 (a1 + x2))) ≤ 99999 := zi_rd hImh hc0 (zb_64 _)
      have b5 : 0 ≤ x2 ∧ x2 < 10 := by omega
      refine zw_if b5 ?_
      generalize hmm6 : zu_up mh a0 x2 (mh a0 (zu_w32 (a1 + x2))) = m6
      have hIm6 := zi_up hmm6 hImh hc0 (zb_64 _) (by omega) (by omega)
      have hFm6 := zfr_up hmm6 hFmh hc0 rfl
      have w7 := zu_w32_id (z := x2 + 1) (by omega) (by omega)
      have hM : (5 - (zu_w32 (x2 + 1))) * 1 + 0 < (k : Int) := by omega
      exact ih (zu_w32 (x2 + 1)) m6 hIm6 hFm6 ⟨by omega, by omega⟩ ⟨by omega, by omega⟩ hM
set_option maxHeartbeats 4000000 in
theorem zk_32_64 (n : Nat) {a0 a1 : Int} {m0 : zu_m} (hIm0 : zi_I m0) (hc0 : zcls a0 = 64) (ha1 : 5 ≤ a1 ∧ a1 ≤ 5) : zw (zu_call (zt_T n) 32 [(43, a0), (0, a1)] m0) (fun v m => zi_I m ∧ zfr [(64, 0)] m0 m ∧ True) := by
  have hFm0 : zfr [(64, 0)] m0 m0 := zfr_rf _ _
  refine zw_eq (zr_32_0 n a0 a1 m0) ?_
  have hM : (5 - 0) * 1 + 0 < ((6 : Nat) : Int) := by omega
  exact (zl_32_64 n (m0 := m0) hc0 6) 0 m0 hIm0 hFm0 ⟨by omega, by omega⟩ ⟨by omega, by omega⟩ hM
set_option maxHeartbeats 4000000 in
theorem zl_32_65 (n : Nat) {a0 a1 : Int} {m0 : zu_m} (hc0 : zcls a0 = 65) : ∀ k : Nat, (∀ (x2 : Int) (mh : zu_m), zi_I mh → zfr [(65, 0)] m0 mh → (48 ≤ a1 ∧ a1 ≤ 48) → (0 ≤ x2 ∧ x2 ≤ 48) → (48 - x2) * 1 + 0 < (k : Int) → zw (zu_ex (zt_T n) 32 2 [(44, a0), (0, a1), (0, x2)] [] mh) (fun v m => zi_I m ∧ zfr [(65, 0)] m0 m ∧ True)) := by
  intro k
  induction k with
  | zero => exact fun x2 mh hImh hFmh hba1 hbx2 hM => by exfalso; omega
  | succ k ih =>
    intro x2 mh hImh hFmh hba1 hbx2 hM
    refine zw_eq (zr_32b_2 n a0 a1 x2 mh) ?_
    refine zw_ite (fun h1 => ?_) (fun h1 => ?_)
    · exact zw_some ⟨hImh, hFmh, trivial⟩
    · have w2 := zu_w32_id (z := a1 + x2) (by omega) (by omega)
      have b3 : 0 ≤ (zu_w32 (a1 + x2)) ∧ (zu_w32 (a1 + x2)) < 96 := by omega
      refine zw_if b3 ?_
      have r4 : (-2147483648) ≤ (mh a0 (zu_w32 (a1 + x2))) ∧ (mh a0 (zu_w32 (a1 + x2))) ≤ 2147483647 := zi_rd hImh hc0 (zb_65 _)
      have b5 : 0 ≤ x2 ∧ x2 < 96 := by omega
      refine zw_if b5 ?_
      generalize hmm6 : zu_up mh a0 x2 (mh a0 (zu_w32 (a1 + x2))) = m6
      have hIm6 := zi_up hmm6 hImh hc0 (zb_65 _) (by omega) (by omega)
      have hFm6 := zfr_up hmm6 hFmh hc0 rfl
      have w7 := zu_w32_id (z := x2 + 1) (by omega) (by omega)
      have hM : (48 - (zu_w32 (x2 + 1))) * 1 + 0 < (k : Int) := by omega
      exact ih (zu_w32 (x2 + 1)) m6 hIm6 hFm6 ⟨by omega, by omega⟩ ⟨by omega, by omega⟩ hM
set_option maxHeartbeats 4000000 in
theorem zk_32_65 (n : Nat) {a0 a1 : Int} {m0 : zu_m} (hIm0 : zi_I m0) (hc0 : zcls a0 = 65) (ha1 : 48 ≤ a1 ∧ a1 ≤ 48) : zw (zu_call (zt_T n) 32 [(44, a0), (0, a1)] m0) (fun v m => zi_I m ∧ zfr [(65, 0)] m0 m ∧ True) := by
  have hFm0 : zfr [(65, 0)] m0 m0 := zfr_rf _ _
  refine zw_eq (zr_32b_0 n a0 a1 m0) ?_
  have hM : (48 - 0) * 1 + 0 < ((49 : Nat) : Int) := by omega
  exact (zl_32_65 n (m0 := m0) hc0 49) 0 m0 hIm0 hFm0 ⟨by omega, by omega⟩ ⟨by omega, by omega⟩ hM
set_option maxHeartbeats 4000000 in
theorem zl_32_67 (n : Nat) {a0 a1 : Int} {m0 : zu_m} (hc0 : zcls a0 = 67) : ∀ k : Nat, (∀ (x2 : Int) (mh : zu_m), zi_I mh → zfr [(67, 0)] m0 mh → (18 ≤ a1 ∧ a1 ≤ 18) → (0 ≤ x2 ∧ x2 ≤ 18) → (18 - x2) * 1 + 0 < (k : Int) → zw (zu_ex (zt_T n) 32 2 [(45, a0), (0, a1), (0, x2)] [] mh) (fun v m => zi_I m ∧ zfr [(67, 0)] m0 m ∧ True)) := by
  intro k
  induction k with
  | zero => exact fun x2 mh hImh hFmh hba1 hbx2 hM => by exfalso; omega
  | succ k ih =>
    intro x2 mh hImh hFmh hba1 hbx2 hM
    refine zw_eq (zr_32c_2 n a0 a1 x2 mh) ?_
    refine zw_ite (fun h1 => ?_) (fun h1 => ?_)
    · exact zw_some ⟨hImh, hFmh, trivial⟩
    · have w2 := zu_w32_id (z := a1 + x2) (by omega) (by omega)
      have b3 : 0 ≤ (zu_w32 (a1 + x2)) ∧ (zu_w32 (a1 + x2)) < 36 := by omega
      refine zw_if b3 ?_
      have r4 : 0 ≤ (mh a0 (zu_w32 (a1 + x2))) ∧ (mh a0 (zu_w32 (a1 + x2))) ≤ 47 := zi_rd hImh hc0 (zb_67 _)
      have b5 : 0 ≤ x2 ∧ x2 < 36 := by omega
      refine zw_if b5 ?_
      generalize hmm6 : zu_up mh a0 x2 (mh a0 (zu_w32 (a1 + x2))) = m6
      have hIm6 := zi_up hmm6 hImh hc0 (zb_67 _) (by omega) (by omega)
      have hFm6 := zfr_up hmm6 hFmh hc0 rfl
      have w7 := zu_w32_id (z := x2 + 1) (by omega) (by omega)
      have hM : (18 - (zu_w32 (x2 + 1))) * 1 + 0 < (k : Int) := by omega
      exact ih (zu_w32 (x2 + 1)) m6 hIm6 hFm6 ⟨by omega, by omega⟩ ⟨by omega, by omega⟩ hM
set_option maxHeartbeats 4000000 in
theorem zk_32_67 (n : Nat) {a0 a1 : Int} {m0 : zu_m} (hIm0 : zi_I m0) (hc0 : zcls a0 = 67) (ha1 : 18 ≤ a1 ∧ a1 ≤ 18) : zw (zu_call (zt_T n) 32 [(45, a0), (0, a1)] m0) (fun v m => zi_I m ∧ zfr [(67, 0)] m0 m ∧ True) := by
  have hFm0 : zfr [(67, 0)] m0 m0 := zfr_rf _ _
  refine zw_eq (zr_32c_0 n a0 a1 m0) ?_
  have hM : (18 - 0) * 1 + 0 < ((19 : Nat) : Int) := by omega
  exact (zl_32_67 n (m0 := m0) hc0 19) 0 m0 hIm0 hFm0 ⟨by omega, by omega⟩ ⟨by omega, by omega⟩ hM
set_option maxHeartbeats 4000000 in
theorem zl_32_68 (n : Nat) {a0 a1 : Int} {m0 : zu_m} (hc0 : zcls a0 = 68) : ∀ k : Nat, (∀ (x2 : Int) (mh : zu_m), zi_I mh → zfr [(68, 0)] m0 mh → (18 ≤ a1 ∧ a1 ≤ 18) → (0 ≤ x2 ∧ x2 ≤ 18) → (18 - x2) * 1 + 0 < (k : Int) → zw (zu_ex (zt_T n) 32 2 [(45, a0), (0, a1), (0, x2)] [] mh) (fun v m => zi_I m ∧ zfr [(68, 0)] m0 m ∧ True)) := by
  intro k
  induction k with
  | zero => exact fun x2 mh hImh hFmh hba1 hbx2 hM => by exfalso; omega
  | succ k ih =>
    intro x2 mh hImh hFmh hba1 hbx2 hM
    refine zw_eq (zr_32c_2 n a0 a1 x2 mh) ?_
    refine zw_ite (fun h1 => ?_) (fun h1 => ?_)
    · exact zw_some ⟨hImh, hFmh, trivial⟩
    · have w2 := zu_w32_id (z := a1 + x2) (by omega) (by omega)
      have b3 : 0 ≤ (zu_w32 (a1 + x2)) ∧ (zu_w32 (a1 + x2)) < 36 := by omega
      refine zw_if b3 ?_
      have r4 : 0 ≤ (mh a0 (zu_w32 (a1 + x2))) ∧ (mh a0 (zu_w32 (a1 + x2))) ≤ 3 := zi_rd hImh hc0 (zb_68 _)
      have b5 : 0 ≤ x2 ∧ x2 < 36 := by omega
      refine zw_if b5 ?_
      generalize hmm6 : zu_up mh a0 x2 (mh a0 (zu_w32 (a1 + x2))) = m6
      have hIm6 := zi_up hmm6 hImh hc0 (zb_68 _) (by omega) (by omega)
      have hFm6 := zfr_up hmm6 hFmh hc0 rfl
      have w7 := zu_w32_id (z := x2 + 1) (by omega) (by omega)
      have hM : (18 - (zu_w32 (x2 + 1))) * 1 + 0 < (k : Int) := by omega
      exact ih (zu_w32 (x2 + 1)) m6 hIm6 hFm6 ⟨by omega, by omega⟩ ⟨by omega, by omega⟩ hM
set_option maxHeartbeats 4000000 in
theorem zk_32_68 (n : Nat) {a0 a1 : Int} {m0 : zu_m} (hIm0 : zi_I m0) (hc0 : zcls a0 = 68) (ha1 : 18 ≤ a1 ∧ a1 ≤ 18) : zw (zu_call (zt_T n) 32 [(45, a0), (0, a1)] m0) (fun v m => zi_I m ∧ zfr [(68, 0)] m0 m ∧ True) := by
  have hFm0 : zfr [(68, 0)] m0 m0 := zfr_rf _ _
  refine zw_eq (zr_32c_0 n a0 a1 m0) ?_
  have hM : (18 - 0) * 1 + 0 < ((19 : Nat) : Int) := by omega
  exact (zl_32_68 n (m0 := m0) hc0 19) 0 m0 hIm0 hFm0 ⟨by omega, by omega⟩ ⟨by omega, by omega⟩ hM
set_option maxHeartbeats 4000000 in
theorem zl_32_69 (n : Nat) {a0 a1 : Int} {m0 : zu_m} (hc0 : zcls a0 = 69) : ∀ k : Nat, (∀ (x2 : Int) (mh : zu_m), zi_I mh → zfr [(69, 0)] m0 mh → (18 ≤ a1 ∧ a1 ≤ 18) → (0 ≤ x2 ∧ x2 ≤ 18) → (18 - x2) * 1 + 0 < (k : Int) → zw (zu_ex (zt_T n) 32 2 [(45, a0), (0, a1), (0, x2)] [] mh) (fun v m => zi_I m ∧ zfr [(69, 0)] m0 m ∧ True)) := by
  intro k
  induction k with
  | zero => exact fun x2 mh hImh hFmh hba1 hbx2 hM => by exfalso; omega
  | succ k ih =>
    intro x2 mh hImh hFmh hba1 hbx2 hM
    refine zw_eq (zr_32c_2 n a0 a1 x2 mh) ?_
    refine zw_ite (fun h1 => ?_) (fun h1 => ?_)
    · exact zw_some ⟨hImh, hFmh, trivial⟩
    · have w2 := zu_w32_id (z := a1 + x2) (by omega) (by omega)
      have b3 : 0 ≤ (zu_w32 (a1 + x2)) ∧ (zu_w32 (a1 + x2)) < 36 := by omega
      refine zw_if b3 ?_
      have r4 : 0 ≤ (mh a0 (zu_w32 (a1 + x2))) ∧ (mh a0 (zu_w32 (a1 + x2))) ≤ 9 := zi_rd hImh hc0 (zb_69 _)
      have b5 : 0 ≤ x2 ∧ x2 < 36 := by omega
      refine zw_if b5 ?_
      generalize hmm6 : zu_up mh a0 x2 (mh a0 (zu_w32 (a1 + x2))) = m6
      have hIm6 := zi_up hmm6 hImh hc0 (zb_69 _) (by omega) (by omega)
      have hFm6 := zfr_up hmm6 hFmh hc0 rfl
      have w7 := zu_w32_id (z := x2 + 1) (by omega) (by omega)
      have hM : (18 - (zu_w32 (x2 + 1))) * 1 + 0 < (k : Int) := by omega
      exact ih (zu_w32 (x2 + 1)) m6 hIm6 hFm6 ⟨by omega, by omega⟩ ⟨by omega, by omega⟩ hM
set_option maxHeartbeats 4000000 in
theorem zk_32_69 (n : Nat) {a0 a1 : Int} {m0 : zu_m} (hIm0 : zi_I m0) (hc0 : zcls a0 = 69) (ha1 : 18 ≤ a1 ∧ a1 ≤ 18) : zw (zu_call (zt_T n) 32 [(45, a0), (0, a1)] m0) (fun v m => zi_I m ∧ zfr [(69, 0)] m0 m ∧ True) := by
  have hFm0 : zfr [(69, 0)] m0 m0 := zfr_rf _ _
  refine zw_eq (zr_32c_0 n a0 a1 m0) ?_
  have hM : (18 - 0) * 1 + 0 < ((19 : Nat) : Int) := by omega
  exact (zl_32_69 n (m0 := m0) hc0 19) 0 m0 hIm0 hFm0 ⟨by omega, by omega⟩ ⟨by omega, by omega⟩ hM
set_option maxHeartbeats 4000000 in
theorem zl_32_70 (n : Nat) {a0 a1 : Int} {m0 : zu_m} (hc0 : zcls a0 = 70) : ∀ k : Nat, (∀ (x2 : Int) (mh : zu_m), zi_I mh → zfr [(70, 0)] m0 mh → (4 ≤ a1 ∧ a1 ≤ 4) → (0 ≤ x2 ∧ x2 ≤ 4) → (4 - x2) * 1 + 0 < (k : Int) → zw (zu_ex (zt_T n) 32 2 [(46, a0), (0, a1), (0, x2)] [] mh) (fun v m => zi_I m ∧ zfr [(70, 0)] m0 m ∧ True)) := by
  intro k
  induction k with
  | zero => exact fun x2 mh hImh hFmh hba1 hbx2 hM => by exfalso; omega
  | succ k ih =>
    intro x2 mh hImh hFmh hba1 hbx2 hM
    refine zw_eq (zr_32d_2 n a0 a1 x2 mh) ?_
    refine zw_ite (fun h1 => ?_) (fun h1 => ?_)
    · exact zw_some ⟨hImh, hFmh, trivial⟩
    · have w2 := zu_w32_id (z := a1 + x2) (by omega) (by omega)
      have b3 : 0 ≤ (zu_w32 (a1 + x2)) ∧ (zu_w32 (a1 + x2)) < 8 := by omega
      refine zw_if b3 ?_
      have r4 : (-2147483648) ≤ (mh a0 (zu_w32 (a1 + x2))) ∧ (mh a0 (zu_w32 (a1 + x2))) ≤ 2147483647 := zi_rd hImh hc0 (zb_70 _)
      have b5 : 0 ≤ x2 ∧ x2 < 8 := by omega
      refine zw_if b5 ?_
      generalize hmm6 : zu_up mh a0 x2 (mh a0 (zu_w32 (a1 + x2))) = m6
      have hIm6 := zi_up hmm6 hImh hc0 (zb_70 _) (by omega) (by omega)
      have hFm6 := zfr_up hmm6 hFmh hc0 rfl
      have w7 := zu_w32_id (z := x2 + 1) (by omega) (by omega)
      have hM : (4 - (zu_w32 (x2 + 1))) * 1 + 0 < (k : Int) := by omega
      exact ih (zu_w32 (x2 + 1)) m6 hIm6 hFm6 ⟨by omega, by omega⟩ ⟨by omega, by omega⟩ hM
set_option maxHeartbeats 4000000 in
theorem zk_32_70 (n : Nat) {a0 a1 : Int} {m0 : zu_m} (hIm0 : zi_I m0) (hc0 : zcls a0 = 70) (ha1 : 4 ≤ a1 ∧ a1 ≤ 4) : zw (zu_call (zt_T n) 32 [(46, a0), (0, a1)] m0) (fun v m => zi_I m ∧ zfr [(70, 0)] m0 m ∧ True) := by
  have hFm0 : zfr [(70, 0)] m0 m0 := zfr_rf _ _
  refine zw_eq (zr_32d_0 n a0 a1 m0) ?_
  have hM : (4 - 0) * 1 + 0 < ((5 : Nat) : Int) := by omega
  exact (zl_32_70 n (m0 := m0) hc0 5) 0 m0 hIm0 hFm0 ⟨by omega, by omega⟩ ⟨by omega, by omega⟩ hM
set_option maxHeartbeats 4000000 in
theorem zl_32_71 (n : Nat) {a0 a1 : Int} {m0 : zu_m} (hc0 : zcls a0 = 71) : ∀ k : Nat, (∀ (x2 : Int) (mh : zu_m), zi_I mh → zfr [(71, 0)] m0 mh → (4 ≤ a1 ∧ a1 ≤ 4) → (0 ≤ x2 ∧ x2 ≤ 4) → (4 - x2) * 1 + 0 < (k : Int) → zw (zu_ex (zt_T n) 32 2 [(46, a0), (0, a1), (0, x2)] [] mh) (fun v m => zi_I m ∧ zfr [(71, 0)] m0 m ∧ True)) := by
  intro k
  induction k with
  | zero => exact fun x2 mh hImh hFmh hba1 hbx2 hM => by exfalso; omega
  | succ k ih =>
    intro x2 mh hImh hFmh hba1 hbx2 hM
    refine zw_eq (zr_32d_2 n a0 a1 x2 mh) ?_
    refine zw_ite (fun h1 => ?_) (fun h1 => ?_)
    · exact zw_some ⟨hImh, hFmh, trivial⟩
    · have w2 := zu_w32_id (z := a1 + x2) (by omega) (by omega)
      have b3 : 0 ≤ (zu_w32 (a1 + x2)) ∧ (zu_w32 (a1 + x2)) < 8 := by omega
      refine zw_if b3 ?_
      have r4 : 0 ≤ (mh a0 (zu_w32 (a1 + x2))) ∧ (mh a0 (zu_w32 (a1 + x2))) ≤ 47 := zi_rd hImh hc0 (zb_71 _)
      have b5 : 0 ≤ x2 ∧ x2 < 8 := by omega
      refine zw_if b5 ?_
      generalize hmm6 : zu_up mh a0 x2 (mh a0 (zu_w32 (a1 + x2))) = m6
      have hIm6 := zi_up hmm6 hImh hc0 (zb_71 _) (by omega) (by omega)
      have hFm6 := zfr_up hmm6 hFmh hc0 rfl
      have w7 := zu_w32_id (z := x2 + 1) (by omega) (by omega)
      have hM : (4 - (zu_w32 (x2 + 1))) * 1 + 0 < (k : Int) := by omega
      exact ih (zu_w32 (x2 + 1)) m6 hIm6 hFm6 ⟨by omega, by omega⟩ ⟨by omega, by omega⟩ hM
set_option maxHeartbeats 4000000 in
theorem zk_32_71 (n : Nat) {a0 a1 : Int} {m0 : zu_m} (hIm0 : zi_I m0) (hc0 : zcls a0 = 71) (ha1 : 4 ≤ a1 ∧ a1 ≤ 4) : zw (zu_call (zt_T n) 32 [(46, a0), (0, a1)] m0) (fun v m => zi_I m ∧ zfr [(71, 0)] m0 m ∧ True) := by
  have hFm0 : zfr [(71, 0)] m0 m0 := zfr_rf _ _
  refine zw_eq (zr_32d_0 n a0 a1 m0) ?_
  have hM : (4 - 0) * 1 + 0 < ((5 : Nat) : Int) := by omega
  exact (zl_32_71 n (m0 := m0) hc0 5) 0 m0 hIm0 hFm0 ⟨by omega, by omega⟩ ⟨by omega, by omega⟩ hM
set_option maxHeartbeats 4000000 in
theorem zl_32_72 (n : Nat) {a0 a1 : Int} {m0 : zu_m} (hc0 : zcls a0 = 72) : ∀ k : Nat, (∀ (x2 : Int) (mh : zu_m), zi_I mh → zfr [(72, 0)] m0 mh → (4 ≤ a1 ∧ a1 ≤ 4) → (0 ≤ x2 ∧ x2 ≤ 4) → (4 - x2) * 1 + 0 < (k : Int) → zw (zu_ex (zt_T n) 32 2 [(46, a0), (0, a1), (0, x2)] [] mh) (fun v m => zi_I m ∧ zfr [(72, 0)] m0 m ∧ True)) := by
  intro k
  induction k with
  | zero => exact fun x2 mh hImh hFmh hba1 hbx2 hM => by exfalso; omega
  | succ k ih =>
    intro x2 mh hImh hFmh hba1 hbx2 hM
    refine zw_eq (zr_32d_2 n a0 a1 x2 mh) ?_
    refine zw_ite (fun h1 => ?_) (fun h1 => ?_)
    · exact zw_some ⟨hImh, hFmh, trivial⟩
    · have w2 := zu_w32_id (z := a1 + x2) (by omega) (by omega)
      have b3 : 0 ≤ (zu_w32 (a1 + x2)) ∧ (zu_w32 (a1 + x2)) < 8 := by omega
      refine zw_if b3 ?_
      have r4 : 0 ≤ (mh a0 (zu_w32 (a1 + x2))) ∧ (mh a0 (zu_w32 (a1 + x2))) ≤ 15 := zi_rd hImh hc0 (zb_72 _)
      have b5 : 0 ≤ x2 ∧ x2 < 8 := by omega
      refine zw_if b5 ?_
      generalize hmm6 : zu_up mh a0 x2 (mh a0 (zu_w32 (a1 + x2))) = m6
      have hIm6 := zi_up hmm6 hImh hc0 (zb_72 _) (by omega) (by omega)
      have hFm6 := zfr_up hmm6 hFmh hc0 rfl
      have w7 := zu_w32_id (z := x2 + 1) (by omega) (by omega)
      have hM : (4 - (zu_w32 (x2 + 1))) * 1 + 0 < (k : Int) := by omega
      exact ih (zu_w32 (x2 + 1)) m6 hIm6 hFm6 ⟨by omega, by omega⟩ ⟨by omega, by omega⟩ hM
set_option maxHeartbeats 4000000 in
theorem zk_32_72 (n : Nat) {a0 a1 : Int} {m0 : zu_m} (hIm0 : zi_I m0) (hc0 : zcls a0 = 72) (ha1 : 4 ≤ a1 ∧ a1 ≤ 4) : zw (zu_call (zt_T n) 32 [(46, a0), (0, a1)] m0) (fun v m => zi_I m ∧ zfr [(72, 0)] m0 m ∧ True) := by
  have hFm0 : zfr [(72, 0)] m0 m0 := zfr_rf _ _
  refine zw_eq (zr_32d_0 n a0 a1 m0) ?_
  have hM : (4 - 0) * 1 + 0 < ((5 : Nat) : Int) := by omega
  exact (zl_32_72 n (m0 := m0) hc0 5) 0 m0 hIm0 hFm0 ⟨by omega, by omega⟩ ⟨by omega, by omega⟩ hM
set_option maxHeartbeats 4000000 in
theorem zl_32_73 (n : Nat) {a0 a1 : Int} {m0 : zu_m} (hc0 : zcls a0 = 73) : ∀ k : Nat, (∀ (x2 : Int) (mh : zu_m), zi_I mh → zfr [(73, 0)] m0 mh → (4 ≤ a1 ∧ a1 ≤ 4) → (0 ≤ x2 ∧ x2 ≤ 4) → (4 - x2) * 1 + 0 < (k : Int) → zw (zu_ex (zt_T n) 32 2 [(46, a0), (0, a1), (0, x2)] [] mh) (fun v m => zi_I m ∧ zfr [(73, 0)] m0 m ∧ True)) := by
  intro k
  induction k with
  | zero => exact fun x2 mh hImh hFmh hba1 hbx2 hM => by exfalso; omega
  | succ k ih =>
    intro x2 mh hImh hFmh hba1 hbx2 hM
    refine zw_eq (zr_32d_2 n a0 a1 x2 mh) ?_
    refine zw_ite (fun h1 => ?_) (fun h1 => ?_)
    · exact zw_some ⟨hImh, hFmh, trivial⟩
    · have w2 := zu_w32_id (z := a1 + x2) (by omega) (by omega)
      have b3 : 0 ≤ (zu_w32 (a1 + x2)) ∧ (zu_w32 (a1 + x2)) < 8 := by omega
      refine zw_if b3 ?_
      have r4 : 0 ≤ (mh a0 (zu_w32 (a1 + x2))) ∧ (mh a0 (zu_w32 (a1 + x2))) ≤ 3 := zi_rd hImh hc0 (zb_73 _)
      have b5 : 0 ≤ x2 ∧ x2 < 8 := by omega
      refine zw_if b5 ?_
      generalize hmm6 : zu_up mh a0 x2 (mh a0 (zu_w32 (a1 + x2))) = m6
      have hIm6 := zi_up hmm6 hImh hc0 (zb_73 _) (by omega) (by omega)
      have hFm6 := zfr_up hmm6 hFmh hc0 rfl
      have w7 := zu_w32_id (z := x2 + 1) (by omega) (by omega)
      have hM : (4 - (zu_w32 (x2 + 1))) * 1 + 0 < (k : Int) := by omega
      exact ih (zu_w32 (x2 + 1)) m6 hIm6 hFm6 ⟨by omega, by omega⟩ ⟨by omega, by omega⟩ hM
set_option maxHeartbeats 4000000 in
theorem zk_32_73 (n : Nat) {a0 a1 : Int} {m0 : zu_m} (hIm0 : zi_I m0) (hc0 : zcls a0 = 73) (ha1 : 4 ≤ a1 ∧ a1 ≤ 4) : zw (zu_call (zt_T n) 32 [(46, a0), (0, a1)] m0) (fun v m => zi_I m ∧ zfr [(73, 0)] m0 m ∧ True) := by
  have hFm0 : zfr [(73, 0)] m0 m0 := zfr_rf _ _
  refine zw_eq (zr_32d_0 n a0 a1 m0) ?_
  have hM : (4 - 0) * 1 + 0 < ((5 : Nat) : Int) := by omega
  exact (zl_32_73 n (m0 := m0) hc0 5) 0 m0 hIm0 hFm0 ⟨by omega, by omega⟩ ⟨by omega, by omega⟩ hM
set_option maxHeartbeats 4000000 in
theorem zl_32_74 (n : Nat) {a0 a1 : Int} {m0 : zu_m} (hc0 : zcls a0 = 74) : ∀ k : Nat, (∀ (x2 : Int) (mh : zu_m), zi_I mh → zfr [(74, 0)] m0 mh → (4 ≤ a1 ∧ a1 ≤ 4) → (0 ≤ x2 ∧ x2 ≤ 4) → (4 - x2) * 1 + 0 < (k : Int) → zw (zu_ex (zt_T n) 32 2 [(46, a0), (0, a1), (0, x2)] [] mh) (fun v m => zi_I m ∧ zfr [(74, 0)] m0 m ∧ True)) := by
  intro k
  induction k with
  | zero => exact fun x2 mh hImh hFmh hba1 hbx2 hM => by exfalso; omega
  | succ k ih =>
    intro x2 mh hImh hFmh hba1 hbx2 hM
    refine zw_eq (zr_32d_2 n a0 a1 x2 mh) ?_
    refine zw_ite (fun h1 => ?_) (fun h1 => ?_)
    · exact zw_some ⟨hImh, hFmh, trivial⟩
    · have w2 := zu_w32_id (z := a1 + x2) (by omega) (by omega)
      have b3 : 0 ≤ (zu_w32 (a1 + x2)) ∧ (zu_w32 (a1 + x2)) < 8 := by omega
      refine zw_if b3 ?_
      have r4 : 0 ≤ (mh a0 (zu_w32 (a1 + x2))) ∧ (mh a0 (zu_w32 (a1 + x2))) ≤ 99 := zi_rd hImh hc0 (zb_74 _)
      have b5 : 0 ≤ x2 ∧ x2 < 8 := by omega
      refine zw_if b5 ?_
      generalize hmm6 : zu_up mh a0 x2 (mh a0 (zu_w32 (a1 + x2))) = m6
      have hIm6 := zi_up hmm6 hImh hc0 (zb_74 _) (by omega) (by omega)
      have hFm6 := zfr_up hmm6 hFmh hc0 rfl
      have w7 := zu_w32_id (z := x2 + 1) (by omega) (by omega)
      have hM : (4 - (zu_w32 (x2 + 1))) * 1 + 0 < (k : Int) := by omega
      exact ih (zu_w32 (x2 + 1)) m6 hIm6 hFm6 ⟨by omega, by omega⟩ ⟨by omega, by omega⟩ hM
set_option maxHeartbeats 4000000 in
theorem zk_32_74 (n : Nat) {a0 a1 : Int} {m0 : zu_m} (hIm0 : zi_I m0) (hc0 : zcls a0 = 74) (ha1 : 4 ≤ a1 ∧ a1 ≤ 4) : zw (zu_call (zt_T n) 32 [(46, a0), (0, a1)] m0) (fun v m => zi_I m ∧ zfr [(74, 0)] m0 m ∧ True) := by
  have hFm0 : zfr [(74, 0)] m0 m0 := zfr_rf _ _
  refine zw_eq (zr_32d_0 n a0 a1 m0) ?_
  have hM : (4 - 0) * 1 + 0 < ((5 : Nat) : Int) := by omega
  exact (zl_32_74 n (m0 := m0) hc0 5) 0 m0 hIm0 hFm0 ⟨by omega, by omega⟩ ⟨by omega, by omega⟩ hM
set_option maxHeartbeats 4000000 in
theorem zl_32_76 (n : Nat) {a0 a1 : Int} {m0 : zu_m} (hc0 : zcls a0 = 76) : ∀ k : Nat, (∀ (x2 : Int) (mh : zu_m), zi_I mh → zfr [(76, 0)] m0 mh → (4 ≤ a1 ∧ a1 ≤ 4) → (0 ≤ x2 ∧ x2 ≤ 4) → (4 - x2) * 1 + 0 < (k : Int) → zw (zu_ex (zt_T n) 32 2 [(46, a0), (0, a1), (0, x2)] [] mh) (fun v m => zi_I m ∧ zfr [(76, 0)] m0 m ∧ True)) := by
  intro k
  induction k with
  | zero => exact fun x2 mh hImh hFmh hba1 hbx2 hM => by exfalso; omega
  | succ k ih =>
    intro x2 mh hImh hFmh hba1 hbx2 hM
    refine zw_eq (zr_32d_2 n a0 a1 x2 mh) ?_
    refine zw_ite (fun h1 => ?_) (fun h1 => ?_)
    · exact zw_some ⟨hImh, hFmh, trivial⟩
    · have w2 := zu_w32_id (z := a1 + x2) (by omega) (by omega)
      have b3 : 0 ≤ (zu_w32 (a1 + x2)) ∧ (zu_w32 (a1 + x2)) < 8 := by omega
      refine zw_if b3 ?_
      have r4 : 0 ≤ (mh a0 (zu_w32 (a1 + x2))) ∧ (mh a0 (zu_w32 (a1 + x2))) ≤ 64 := zi_rd hImh hc0 (zb_76 _)
      have b5 : 0 ≤ x2 ∧ x2 < 8 := by omega
      refine zw_if b5 ?_
      generalize hmm6 : zu_up mh a0 x2 (mh a0 (zu_w32 (a1 + x2))) = m6
      have hIm6 := zi_up hmm6 hImh hc0 (zb_76 _) (by omega) (by omega)
      have hFm6 := zfr_up hmm6 hFmh hc0 rfl
      have w7 := zu_w32_id (z := x2 + 1) (by omega) (by omega)
      have hM : (4 - (zu_w32 (x2 + 1))) * 1 + 0 < (k : Int) := by omega
      exact ih (zu_w32 (x2 + 1)) m6 hIm6 hFm6 ⟨by omega, by omega⟩ ⟨by omega, by omega⟩ hM
set_option maxHeartbeats 4000000 in
theorem zk_32_76 (n : Nat) {a0 a1 : Int} {m0 : zu_m} (hIm0 : zi_I m0) (hc0 : zcls a0 = 76) (ha1 : 4 ≤ a1 ∧ a1 ≤ 4) : zw (zu_call (zt_T n) 32 [(46, a0), (0, a1)] m0) (fun v m => zi_I m ∧ zfr [(76, 0)] m0 m ∧ True) := by
  have hFm0 : zfr [(76, 0)] m0 m0 := zfr_rf _ _
  refine zw_eq (zr_32d_0 n a0 a1 m0) ?_
  have hM : (4 - 0) * 1 + 0 < ((5 : Nat) : Int) := by omega
  exact (zl_32_76 n (m0 := m0) hc0 5) 0 m0 hIm0 hFm0 ⟨by omega, by omega⟩ ⟨by omega, by omega⟩ hM
set_option maxHeartbeats 4000000 in
theorem zl_32_77 (n : Nat) {a0 a1 : Int} {m0 : zu_m} (hc0 : zcls a0 = 77) : ∀ k : Nat, (∀ (x2 : Int) (mh : zu_m), zi_I mh → zfr [(77, 0)] m0 mh → (4 ≤ a1 ∧ a1 ≤ 4) → (0 ≤ x2 ∧ x2 ≤ 4) → (4 - x2) * 1 + 0 < (k : Int) → zw (zu_ex (zt_T n) 32 2 [(46, a0), (0, a1), (0, x2)] [] mh) (fun v m => zi_I m ∧ zfr [(77, 0)] m0 m ∧ True)) := by
  intro k
  induction k with
  | zero => exact fun x2 mh hImh hFmh hba1 hbx2 hM => by exfalso; omega
  | succ k ih =>
    intro x2 mh hImh hFmh hba1 hbx2 hM
    refine zw_eq (zr_32d_2 n a0 a1 x2 mh) ?_
    refine zw_ite (fun h1 => ?_) (fun h1 => ?_)
    · exact zw_some ⟨hImh, hFmh, trivial⟩
    · have w2 := zu_w32_id (z := a1 + x2) (by omega) (by omega)
      have b3 : 0 ≤ (zu_w32 (a1 + x2)) ∧ (zu_w32 (a1 + x2)) < 8 := by omega
      refine zw_if b3 ?_
      have r4 : 0 ≤ (mh a0 (zu_w32 (a1 + x2))) ∧ (mh a0 (zu_w32 (a1 + x2))) ≤ 64 := zi_rd hImh hc0 (zb_77 _)
      have b5 : 0 ≤ x2 ∧ x2 < 8 := by omega
      refine zw_if b5 ?_
      generalize hmm6 : zu_up mh a0 x2 (mh a0 (zu_w32 (a1 + x2))) = m6
      have hIm6 := zi_up hmm6 hImh hc0 (zb_77 _) (by omega) (by omega)
      have hFm6 := zfr_up hmm6 hFmh hc0 rfl
      have w7 := zu_w32_id (z := x2 + 1) (by omega) (by omega)
      have hM : (4 - (zu_w32 (x2 + 1))) * 1 + 0 < (k : Int) := by omega
      exact ih (zu_w32 (x2 + 1)) m6 hIm6 hFm6 ⟨by omega, by omega⟩ ⟨by omega, by omega⟩ hM
set_option maxHeartbeats 4000000 in
theorem zk_32_77 (n : Nat) {a0 a1 : Int} {m0 : zu_m} (hIm0 : zi_I m0) (hc0 : zcls a0 = 77) (ha1 : 4 ≤ a1 ∧ a1 ≤ 4) : zw (zu_call (zt_T n) 32 [(46, a0), (0, a1)] m0) (fun v m => zi_I m ∧ zfr [(77, 0)] m0 m ∧ True) := by
  have hFm0 : zfr [(77, 0)] m0 m0 := zfr_rf _ _
  refine zw_eq (zr_32d_0 n a0 a1 m0) ?_
  have hM : (4 - 0) * 1 + 0 < ((5 : Nat) : Int) := by omega
  exact (zl_32_77 n (m0 := m0) hc0 5) 0 m0 hIm0 hFm0 ⟨by omega, by omega⟩ ⟨by omega, by omega⟩ hM
set_option maxHeartbeats 4000000 in
theorem zl_32_78 (n : Nat) {a0 a1 : Int} {m0 : zu_m} (hc0 : zcls a0 = 78) : ∀ k : Nat, (∀ (x2 : Int) (mh : zu_m), zi_I mh → zfr [(78, 0)] m0 mh → (64 ≤ a1 ∧ a1 ≤ 64) → (0 ≤ x2 ∧ x2 ≤ 64) → (64 - x2) * 1 + 0 < (k : Int) → zw (zu_ex (zt_T n) 32 2 [(48, a0), (0, a1), (0, x2)] [] mh) (fun v m => zi_I m ∧ zfr [(78, 0)] m0 m ∧ True)) := by
  intro k
  induction k with
  | zero => exact fun x2 mh hImh hFmh hba1 hbx2 hM => by exfalso; omega
  | succ k ih =>
    intro x2 mh hImh hFmh hba1 hbx2 hM
    refine zw_eq (zr_32e_2 n a0 a1 x2 mh) ?_
    refine zw_ite (fun h1 => ?_) (fun h1 => ?_)
    · exact zw_some ⟨hImh, hFmh, trivial⟩
    · have w2 := zu_w32_id (z := a1 + x2) (by omega) (by omega)
      have b3 : 0 ≤ (zu_w32 (a1 + x2)) ∧ (zu_w32 (a1 + x2)) < 128 := by omega
      refine zw_if b3 ?_
      have r4 : 0 ≤ (mh a0 (zu_w32 (a1 + x2))) ∧ (mh a0 (zu_w32 (a1 + x2))) ≤ 14 := zi_rd hImh hc0 (zb_78 _)
      have b5 : 0 ≤ x2 ∧ x2 < 128 := by omega
      refine zw_if b5 ?_
      generalize hmm6 : zu_up mh a0 x2 (mh a0 (zu_w32 (a1 + x2))) = m6
      have hIm6 := zi_up hmm6 hImh hc0 (zb_78 _) (by omega) (by omega)
      have hFm6 := zfr_up hmm6 hFmh hc0 rfl
      have w7 := zu_w32_id (z := x2 + 1) (by omega) (by omega)
      have hM : (64 - (zu_w32 (x2 + 1))) * 1 + 0 < (k : Int) := by omega
      exact ih (zu_w32 (x2 + 1)) m6 hIm6 hFm6 ⟨by omega, by omega⟩ ⟨by omega, by omega⟩ hM
set_option maxHeartbeats 4000000 in
theorem zk_32_78 (n : Nat) {a0 a1 : Int} {m0 : zu_m} (hIm0 : zi_I m0) (hc0 : zcls a0 = 78) (ha1 : 64 ≤ a1 ∧ a1 ≤ 64) : zw (zu_call (zt_T n) 32 [(48, a0), (0, a1)] m0) (fun v m => zi_I m ∧ zfr [(78, 0)] m0 m ∧ True) := by
  have hFm0 : zfr [(78, 0)] m0 m0 := zfr_rf _ _
  refine zw_eq (zr_32e_0 n a0 a1 m0) ?_
  have hM : (64 - 0) * 1 + 0 < ((65 : Nat) : Int) := by omega
  exact (zl_32_78 n (m0 := m0) hc0 65) 0 m0 hIm0 hFm0 ⟨by omega, by omega⟩ ⟨by omega, by omega⟩ hM
set_option maxHeartbeats 4000000 in
theorem zl_32_79 (n : Nat) {a0 a1 : Int} {m0 : zu_m} (hc0 : zcls a0 = 79) : ∀ k : Nat, (∀ (x2 : Int) (mh : zu_m), zi_I mh → zfr [(79, 0)] m0 mh → (64 ≤ a1 ∧ a1 ≤ 64) → (0 ≤ x2 ∧ x2 ≤ 64) → (64 - x2) * 1 + 0 < (k : Int) → zw (zu_ex (zt_T n) 32 2 [(48, a0), (0, a1), (0, x2)] [] mh) (fun v m => zi_I m ∧ zfr [(79, 0)] m0 m ∧ True)) := by
  intro k
  induction k with
  | zero => exact fun x2 mh hImh hFmh hba1 hbx2 hM => by exfalso; omega
  | succ k ih =>
    intro x2 mh hImh hFmh hba1 hbx2 hM
    refine zw_eq (zr_32e_2 n a0 a1 x2 mh) ?_
    refine zw_ite (fun h1 => ?_) (fun h1 => ?_)
    · exact zw_some ⟨hImh, hFmh, trivial⟩
    · have w2 := zu_w32_id (z := a1 + x2) (by omega) (by omega)
      have b3 : 0 ≤ (zu_w32 (a1 + x2)) ∧ (zu_w32 (a1 + x2)) < 128 := by omega
      refine zw_if b3 ?_
      have r4 : 0 ≤ (mh a0 (zu_w32 (a1 + x2))) ∧ (mh a0 (zu_w32 (a1 + x2))) ≤ 9999 := zi_rd hImh hc0 (zb_79 _)
      have b5 : 0 ≤ x2 ∧ x2 < 128 := by omega
      refine zw_if b5 ?_
      generalize hmm6 : zu_up mh a0 x2 (mh a0 (zu_w32 (a1 + x2))) = m6
      have hIm6 := zi_up hmm6 hImh hc0 (zb_79 _) (by omega) (by omega)
      have hFm6 := zfr_up hmm6 hFmh hc0 rfl
      have w7 := zu_w32_id (z := x2 + 1) (by omega) (by omega)
      have hM : (64 - (zu_w32 (x2 + 1))) * 1 + 0 < (k : Int) := by omega
      exact ih (zu_w32 (x2 + 1)) m6 hIm6 hFm6 ⟨by omega, by omega⟩ ⟨by omega, by omega⟩ hM
set_option maxHeartbeats 4000000 in
theorem zk_32_79 (n : Nat) {a0 a1 : Int} {m0 : zu_m} (hIm0 : zi_I m0) (hc0 : zcls a0 = 79) (ha1 : 64 ≤ a1 ∧ a1 ≤ 64) : zw (zu_call (zt_T n) 32 [(48, a0), (0, a1)] m0) (fun v m => zi_I m ∧ zfr [(79, 0)] m0 m ∧ True) := by
  have hFm0 : zfr [(79, 0)] m0 m0 := zfr_rf _ _
  refine zw_eq (zr_32e_0 n a0 a1 m0) ?_
  have hM : (64 - 0) * 1 + 0 < ((65 : Nat) : Int) := by omega
  exact (zl_32_79 n (m0 := m0) hc0 65) 0 m0 hIm0 hFm0 ⟨by omega, by omega⟩ ⟨by omega, by omega⟩ hM
set_option maxHeartbeats 4000000 in
theorem zl_32_80 (n : Nat) {a0 a1 : Int} {m0 : zu_m} (hc0 : zcls a0 = 80) : ∀ k : Nat, (∀ (x2 : Int) (mh : zu_m), zi_I mh → zfr [(80, 0)] m0 mh → (64 ≤ a1 ∧ a1 ≤ 64) → (0 ≤ x2 ∧ x2 ≤ 64) → (64 - x2) * 1 + 0 < (k : Int) → zw (zu_ex (zt_T n) 32 2 [(48, a0), (0, a1), (0, x2)] [] mh) (fun v m => zi_I m ∧ zfr [(80, 0)] m0 m ∧ True)) := by
  intro k
  induction k with
  | zero => exact fun x2 mh hImh hFmh hba1 hbx2 hM => by exfalso; omega
  | succ k ih =>
    intro x2 mh hImh hFmh hba1 hbx2 hM
    refine zw_eq (zr_32e_2 n a0 a1 x2 mh) ?_
    refine zw_ite (fun h1 => ?_) (fun h1 => ?_)
    · exact zw_some ⟨hImh, hFmh, trivial⟩
    · have w2 := zu_w32_id (z := a1 + x2) (by omega) (by omega)
      have b3 : 0 ≤ (zu_w32 (a1 + x2)) ∧ (zu_w32 (a1 + x2)) < 128 := by omega
      refine zw_if b3 ?_
      have r4 : (-1) ≤ (mh a0 (zu_w32 (a1 + x2))) ∧ (mh a0 (zu_w32 (a1 + x2))) ≤ 63 := zi_rd hImh hc0 (zb_80 _)
      have b5 : 0 ≤ x2 ∧ x2 < 128 := by omega
      refine zw_if b5 ?_
      generalize hmm6 : zu_up mh a0 x2 (mh a0 (zu_w32 (a1 + x2))) = m6
      have hIm6 := zi_up hmm6 hImh hc0 (zb_80 _) (by omega) (by omega)
      have hFm6 := zfr_up hmm6 hFmh hc0 rfl
      have w7 := zu_w32_id (z := x2 + 1) (by omega) (by omega)
      have hM : (64 - (zu_w32 (x2 + 1))) * 1 + 0 < (k : Int) := by omega
      exact ih (zu_w32 (x2 + 1)) m6 hIm6 hFm6 ⟨by omega, by omega⟩ ⟨by omega, by omega⟩ hM
set_option maxHeartbeats 4000000 in
theorem zk_32_80 (n : Nat) {a0 a1 : Int} {m0 : zu_m} (hIm0 : zi_I m0) (hc0 : zcls a0 = 80) (ha1 : 64 ≤ a1 ∧ a1 ≤ 64) : zw (zu_call (zt_T n) 32 [(48, a0), (0, a1)] m0) (fun v m => zi_I m ∧ zfr [(80, 0)] m0 m ∧ True) := by
  have hFm0 : zfr [(80, 0)] m0 m0 := zfr_rf _ _
  refine zw_eq (zr_32e_0 n a0 a1 m0) ?_
  have hM : (64 - 0) * 1 + 0 < ((65 : Nat) : Int) := by omega
  exact (zl_32_80 n (m0 := m0) hc0 65) 0 m0 hIm0 hFm0 ⟨by omega, by omega⟩ ⟨by omega, by omega⟩ hM
set_option maxHeartbeats 4000000 in
theorem zk_35 (n : Nat) {a0 : Int} {m0 : zu_m} (hIm0 : zi_I m0) (hc0 : zcls a0 = 15)  : zw (zu_call (zt_T n) 35 [(40, a0)] m0) (fun v m => zi_I m ∧ zfr [(15, 65), (15, 66), (15, 67), (15, 68), (15, 69), (15, 70)] m0 m ∧ True) := by
  have hFm0 : zfr [(15, 65), (15, 66), (15, 67), (15, 68), (15, 69), (15, 70)] m0 m0 := zfr_rf _ _
  refine zw_eq (zr_35_0 n a0 m0) ?_
  have r1 : (-2147483648) ≤ (m0 a0 62) ∧ (m0 a0 62) ≤ 2147483647 := zi_rd hIm0 hc0 zb_15_62
  generalize hmm2 : zu_up m0 a0 64 (m0 a0 62) = m2
  have hIm2 := zi_up hmm2 hIm0 hc0 zb_15_64 (by omega) (by omega)
  have hFm2 := zfr_up hmm2 hFm0 hc0 rfl
  refine zw_b (by omega) ?_
  generalize hmm3 : zu_up m2 a0 65 0 = m3
  have hIm3 := zi_up hmm3 hIm2 hc0 zb_15_65 (by omega) (by omega)
  have hFm3 := zfr_up hmm3 hFm2 hc0 rfl
  refine zw_b (by omega) ?_
  generalize hmm4 : zu_up m3 a0 66 0 = m4
  have hIm4 := zi_up hmm4 hIm3 hc0 zb_15_66 (by omega) (by omega)
  have hFm4 := zfr_up hmm4 hFm3 hc0 rfl
  refine zw_b (by omega) ?_
  generalize hmm5 : zu_up m4 a0 67 0 = m5
  have hIm5 := zi_up hmm5 hIm4 hc0 zb_15_67 (by omega) (by omega)
  have hFm5 := zfr_up hmm5 hFm4 hc0 rfl
  refine zw_b (by omega) ?_
  generalize hmm6 : zu_up m5 a0 68 0 = m6
  have hIm6 := zi_up hmm6 hIm5 hc0 zb_15_68 (by omega) (by omega)
  have hFm6 := zfr_up hmm6 hFm5 hc0 rfl
  generalize hmm7 : zu_up m6 a0 69 (-1) = m7
  have hIm7 := zi_up hmm7 hIm6 hc0 zb_15_69 (by omega) (by omega)
  have hFm7 := zfr_up hmm7 hFm6 hc0 rfl
  exact zw_some ⟨hIm7, hFm7, trivial⟩
set_option maxHeartbeats 4000000 in
theorem zk_38 (n : Nat) {a0 a1 a2 a3 a4 a5 a6 : Int} {m0 : zu_m} (hIm0 : zi_I m0) (hc0 : zcls a0 = 15) (ha1 : 0 ≤ a1 ∧ a1 ≤ 15) (ha2 : 0 ≤ a2 ∧ a2 ≤ 9) (ha3 : 0 ≤ a3 ∧ a3 ≤ 47) (ha4 : 0 ≤ a4 ∧ a4 ≤ 3) (ha5 : 0 ≤ a5 ∧ a5 ≤ 1) (ha6 : (-2147483648) ≤ a6 ∧ a6 ≤ 2147483647) : zw (zu_call (zt_T n) 38 [(40, a0), (0, a1), (0, a2), (0, a3), (0, a4), (0, a5), (0, a6)] m0) (fun v m => zi_I m ∧ zfr [(83, 0)] m0 m ∧ True) := by
  have hFm0 : zfr [(83, 0)] m0 m0 := zfr_rf _ _
  refine zw_eq (zr_38_0 n a0 a1 a2 a3 a4 a5 a6 m0) ?_
  have b1 : 0 ≤ 0 ∧ 0 < 7 := by omega
  refine zw_if b1 ?_
  generalize hmm2 : zu_up m0 213 0 a1 = m2
  have hIm2 := zi_up hmm2 hIm0 zq_213 (zb_83 _) (by omega) (by omega)
  have hFm2 := zfr_up hmm2 hFm0 zq_213 rfl
  have b3 : 0 ≤ 1 ∧ 1 < 7 := by omega
  refine zw_if b3 ?_
  generalize hmm4 : zu_up m2 213 1 a2 = m4
  have hIm4 := zi_up hmm4 hIm2 zq_213 (zb_83 _) (by omega) (by omega)
  have hFm4 := zfr_up hmm4 hFm2 zq_213 rfl
  have b5 : 0 ≤ a3 ∧ a3 < 96 := by omega
  refine zw_if b5 ?_
  have r6 : (-2147483648) ≤ (m4 195 a3) ∧ (m4 195 a3) ≤ 2147483647 := zi_rd hIm4 zq_195 (zb_65 _)
  have b7 : 0 ≤ 2 ∧ 2 < 7 := by omega
  refine zw_if b7 ?_
  generalize hmm8 : zu_up m4 213 2 (m4 195 a3) = m8
  have hIm8 := zi_up hmm8 hIm4 zq_213 (zb_83 _) (by omega) (by omega)
  have hFm8 := zfr_up hmm8 hFm4 zq_213 rfl
  have b9 : 0 ≤ 3 ∧ 3 < 7 := by omega
  refine zw_if b9 ?_
  generalize hmm10 : zu_up m8 213 3 a4 = m10
  have hIm10 := zi_up hmm10 hIm8 zq_213 (zb_83 _) (by omega) (by omega)
  have hFm10 := zfr_up hmm10 hFm8 zq_213 rfl
  have b11 : 0 ≤ 4 ∧ 4 < 7 := by omega
  refine zw_if b11 ?_
  generalize hmm12 : zu_up m10 213 4 a5 = m12
  have hIm12 := zi_up hmm12 hIm10 zq_213 (zb_83 _) (by omega) (by omega)
  have hFm12 := zfr_up hmm12 hFm10 zq_213 rfl
  have r13 : 1 ≤ (m12 a0 12) ∧ (m12 a0 12) ≤ 8 := zi_rd hIm12 hc0 zb_15_12
  refine zw_nif (by omega) ?_
  have d14 := ztdiv_bd (x := a3) (y := (m12 a0 12)) (by omega) (by omega)
  have w15 := zu_w32_id (z := Int.tdiv a3 (m12 a0 12)) (by omega) (by omega)
  have b16 : 0 ≤ 5 ∧ 5 < 7 := by omega
  refine zw_if b16 ?_
  generalize hmm17 : zu_up m12 213 5 (zu_w32 (Int.tdiv a3 (m12 a0 12))) = m17
  have hIm17 := zi_up hmm17 hIm12 zq_213 (zb_83 _) (by omega) (by omega)
  have hFm17 := zfr_up hmm17 hFm12 zq_213 rfl
  have b18 : 0 ≤ 6 ∧ 6 < 7 := by omega
  refine zw_if b18 ?_
  generalize hmm19 : zu_up m17 213 6 a6 = m19
  have hIm19 := zi_up hmm19 hIm17 zq_213 (zb_83 _) (by omega) (by omega)
  have hFm19 := zfr_up hmm19 hFm17 zq_213 rfl
  exact zw_some ⟨hIm19, hFm19, trivial⟩
set_option maxHeartbeats 4000000 in
theorem zk_43 (n : Nat) {a0 a1 : Int} {m0 : zu_m} (hIm0 : zi_I m0) (hc0 : zcls a0 = 2) (ha1 : (-2147483648) ≤ a1 ∧ a1 ≤ 2147483647) : zw (zu_call (zt_T n) 43 [(5, a0), (0, a1)] m0) (fun v m => zi_I m ∧ zfr [] m0 m ∧ (-2147483648) ≤ v ∧ v ≤ 2147483647) := by
  have hFm0 : zfr [] m0 m0 := zfr_rf _ _
  refine zw_eq (zr_43_0 n a0 a1 m0) ?_
  refine zw_ite (fun h1 => ?_) (fun h1 => ?_)
  · refine zw_ite (fun h2 => ?_) (fun h2 => ?_)
    · exact zw_some ⟨hIm0, hFm0, by omega, by omega⟩
    · have r3 : (-2147483648) ≤ (m0 a0 3) ∧ (m0 a0 3) ≤ 2147483647 := zi_rd hIm0 hc0 zb_2_3
      exact zw_some ⟨hIm0, hFm0, by omega, by omega⟩
  · have r4 : (-2147483648) ≤ (m0 a0 2) ∧ (m0 a0 2) ≤ 2147483647 := zi_rd hIm0 hc0 zb_2_2
    exact zw_some ⟨hIm0, hFm0, by omega, by omega⟩
set_option maxHeartbeats 4000000 in
theorem zk_74 (n : Nat) {a0 a1 : Int} {m0 : zu_m} (hIm0 : zi_I m0) (hc0 : zcls a0 = 2) (ha1 : (-2147483648) ≤ a1 ∧ a1 ≤ 2147483647) : zw (zu_call (zt_T n) 74 [(5, a0), (0, a1)] m0) (fun v m => zi_I m ∧ zfr [(12, 8)] m0 m ∧ 0 ≤ v ∧ v ≤ 1) := by
  have hFm0 : zfr [(12, 8)] m0 m0 := zfr_rf _ _
  refine zw_eq (zr_74_0 n a0 a1 m0) ?_
  refine zw_ite (fun h1 => ?_) (fun h1 => ?_)
  · refine zw_b (by omega) ?_
    exact zw_some ⟨hIm0, hFm0, by omega, by omega⟩
  · have r2 : 0 ≤ (m0 141 6) ∧ (m0 141 6) ≤ 24 := zi_rd hIm0 zq_141 zb_12_6
    refine zw_ite (fun h3 => ?_) (fun h3 => ?_)
    · generalize hmm4 : zu_up m0 141 7 a1 = m4
      have hIm4 := zi_up hmm4 hIm0 zq_141 zb_12_7 (by omega) (by omega)
      have hFm4 := zfr_up hmm4 hFm0 zq_141 rfl
      refine zw_b (by omega) ?_
      exact zw_some ⟨hIm4, hFm4, by omega, by omega⟩
    · refine zw_b (by omega) ?_
      exact zw_some ⟨hIm0, hFm0, by omega, by omega⟩
set_option maxHeartbeats 4000000 in
theorem zl_91 (n : Nat) {a0 a1 a2 : Int} {m0 : zu_m} (hc0 : zcls a0 = 15) : ∀ k : Nat, (∀ (x3 x4 : Int) (mh : zu_m), zi_I mh → zfr [] m0 mh → (0 ≤ a1 ∧ a1 ≤ 700) → (0 ≤ a2 ∧ a2 ≤ 700) → ((-2147483648) ≤ x3 ∧ x3 ≤ 2147483647) → (0 ≤ x4 ∧ x4 ≤ 720) → (720 - x4) * 1 + 0 < (k : Int) → zw (zu_ex (zt_T n) 91 5 [(40, a0), (0, a1), (0, a2), (0, x3), (0, x4)] [] mh) (fun v m => zi_I m ∧ zfr [] m0 m ∧ (-2147483648) ≤ v ∧ v ≤ 2147483647)) := by
  intro k
  induction k with
  | zero => exact fun x3 x4 mh hImh hFmh hba1 hba2 hbx3 hbx4 hM => by exfalso; omega
  | succ k ih =>
    intro x3 x4 mh hImh hFmh hba1 hba2 hbx3 hbx4 hM
    refine zw_eq (zr_91_5 n a0 a1 a2 x3 x4 mh) ?_
    have w1 := zu_w32_id (z := a1 + 6) (by omega) (by omega)
    refine zw_ite (fun h2 => ?_) (fun h2 => ?_)
    · exact zw_some ⟨hImh, hFmh, by omega, by omega⟩
    · have b3 := zu_i32_rg 5 x3 5
      refine zw_ite (fun h4 => ?_) (fun h4 => ?_)
      · have b5 := zu_i32_rg 4 (zu_i32 5 x3 5) 0
        have w6 := zu_w32_id (z := x4 + 1) (by omega) (by omega)
        have hM : (720 - (zu_w32 (x4 + 1))) * 1 + 0 < (k : Int) := by omega
        exact ih (zu_i32 4 (zu_i32 5 x3 5) 0) (zu_w32 (x4 + 1)) mh hImh hFmh ⟨by omega, by omega⟩ ⟨by omega, by omega⟩ ⟨by omega, by omega⟩ ⟨by omega, by omega⟩ hM
      · have b7 : 0 ≤ x4 ∧ x4 < 700 := by omega
        refine zw_if b7 ?_
        have r8 : (-2147483648) ≤ (mh 191 x4) ∧ (mh 191 x4) ≤ 2147483647 := zi_rd hImh zq_191 (zb_61 _)
        have w9 := zu_w32_rg ((mh 191 x4) - 96)
        have b10 := zu_i32_rg 4 (zu_i32 5 x3 5) (zu_w32 ((mh 191 x4) - 96))
        have w11 := zu_w32_id (z := x4 + 1) (by omega) (by omega)
        have hM : (720 - (zu_w32 (x4 + 1))) * 1 + 0 < (k : Int) := by omega
        exact ih (zu_i32 4 (zu_i32 5 x3 5) (zu_w32 ((mh 191 x4) - 96))) (zu_w32 (x4 + 1)) mh hImh hFmh ⟨by omega, by omega⟩ ⟨by omega, by omega⟩ ⟨by omega, by omega⟩ ⟨by omega, by omega⟩ hM
set_option maxHeartbeats 4000000 in
theorem zk_91 (n : Nat) {a0 a1 a2 : Int} {m0 : zu_m} (hIm0 : zi_I m0) (hc0 : zcls a0 = 15) (ha1 : 0 ≤ a1 ∧ a1 ≤ 700) (ha2 : 0 ≤ a2 ∧ a2 ≤ 700) : zw (zu_call (zt_T n) 91 [(40, a0), (0, a1), (0, a2)] m0) (fun v m => zi_I m ∧ zfr [] m0 m ∧ (-2147483648) ≤ v ∧ v ≤ 2147483647) := by
  have hFm0 : zfr [] m0 m0 := zfr_rf _ _
  refine zw_eq (zr_91_0 n a0 a1 a2 m0) ?_
  have hM : (720 - a1) * 1 + 0 < ((721 : Nat) : Int) := by omega
  exact (zl_91 n (m0 := m0) hc0 721) 0 a1 m0 hIm0 hFm0 ⟨by omega, by omega⟩ ⟨by omega, by omega⟩ ⟨by omega, by omega⟩ ⟨by omega, by omega⟩ hM
set_option maxHeartbeats 4000000 in
theorem zl_95 (n : Nat) {a0 a1 a2 a3 : Int} {m0 : zu_m} (hc0 : zcls a0 = 70) : ∀ k : Nat, (∀ (x4 : Int) (mh : zu_m), zi_I mh → zfr [] m0 mh → (0 ≤ a1 ∧ a1 ≤ 4) → (0 ≤ a2 ∧ a2 ≤ 4) → ((-2147483648) ≤ a3 ∧ a3 ≤ 2147483647) → (0 ≤ x4 ∧ x4 ≤ 4) → (4 - x4) * 1 + 0 < (k : Int) → zw (zu_ex (zt_T n) 95 3 [(46, a0), (0, a1), (0, a2), (0, a3), (0, x4)] [] mh) (fun v m => zi_I m ∧ zfr [] m0 m ∧ (-1) ≤ v ∧ v ≤ 3)) := by
  intro k
  induction k with
  | zero => exact fun x4 mh hImh hFmh hba1 hba2 hba3 hbx4 hM => by exfalso; omega
  | succ k ih =>
    intro x4 mh hImh hFmh hba1 hba2 hba3 hbx4 hM
    refine zw_eq (zr_95_3 n a0 a1 a2 a3 x4 mh) ?_
    refine zw_ite (fun h1 => ?_) (fun h1 => ?_)
    · exact zw_some ⟨hImh, hFmh, by omega, by omega⟩
    · have w2 := zu_w32_id (z := a1 + x4) (by omega) (by omega)
      have b3 : 0 ≤ (zu_w32 (a1 + x4)) ∧ (zu_w32 (a1 + x4)) < 8 := by omega
      refine zw_if b3 ?_
      have r4 : (-2147483648) ≤ (mh a0 (zu_w32 (a1 + x4))) ∧ (mh a0 (zu_w32 (a1 + x4))) ≤ 2147483647 := zi_rd hImh hc0 (zb_70 _)
      refine zw_ite (fun h5 => ?_) (fun h5 => ?_)
      · have w6 := zu_w32_id (z := x4 + 1) (by omega) (by omega)
        have hM : (4 - (zu_w32 (x4 + 1))) * 1 + 0 < (k : Int) := by omega
        exact ih (zu_w32 (x4 + 1)) mh hImh hFmh ⟨by omega, by omega⟩ ⟨by omega, by omega⟩ ⟨by omega, by omega⟩ ⟨by omega, by omega⟩ hM
      · exact zw_some ⟨hImh, hFmh, by omega, by omega⟩
set_option maxHeartbeats 4000000 in
theorem zk_95 (n : Nat) {a0 a1 a2 a3 : Int} {m0 : zu_m} (hIm0 : zi_I m0) (hc0 : zcls a0 = 70) (ha1 : 0 ≤ a1 ∧ a1 ≤ 4) (ha2 : 0 ≤ a2 ∧ a2 ≤ 4) (ha3 : (-2147483648) ≤ a3 ∧ a3 ≤ 2147483647) : zw (zu_call (zt_T n) 95 [(46, a0), (0, a1), (0, a2), (0, a3)] m0) (fun v m => zi_I m ∧ zfr [] m0 m ∧ (-1) ≤ v ∧ v ≤ 3) := by
  have hFm0 : zfr [] m0 m0 := zfr_rf _ _
  refine zw_eq (zr_95_0 n a0 a1 a2 a3 m0) ?_
  have hM : (4 - 0) * 1 + 0 < ((5 : Nat) : Int) := by omega
  exact (zl_95 n (m0 := m0) hc0 5) 0 m0 hIm0 hFm0 ⟨by omega, by omega⟩ ⟨by omega, by omega⟩ ⟨by omega, by omega⟩ ⟨by omega, by omega⟩ hM
set_option maxHeartbeats 4000000 in
theorem zk_107 (n : Nat) {a0 a1 : Int} {m0 : zu_m} (hIm0 : zi_I m0) (hc0 : zcls a0 = 15) (ha1 : (-2147483648) ≤ a1 ∧ a1 ≤ 2147483647) : zw (zu_call (zt_T n) 107 [(40, a0), (0, a1)] m0) (fun v m => zi_I m ∧ zfr [(15, 3)] m0 m ∧ (-2147483648) ≤ v ∧ v ≤ 2147483647) := by
  have hFm0 : zfr [(15, 3)] m0 m0 := zfr_rf _ _
  refine zw_eq (zr_107_0 n a0 a1 m0) ?_
  generalize hmm1 : zu_up m0 a0 2 0 = m1
  have hIm1 := zi_up hmm1 hIm0 hc0 zb_15_2 (by omega) (by omega)
  have hFm1 := zfr_up hmm1 hFm0 hc0 rfl
  refine zw_ite (fun h2 => ?_) (fun h2 => ?_)
  · refine zw_ite (fun h3 => ?_) (fun h3 => ?_)
    · exact zw_some ⟨hIm1, hFm1, by omega, by omega⟩
    · have r4 : (-2147483648) ≤ (m1 a0 5) ∧ (m1 a0 5) ≤ 2147483647 := zi_rd hIm1 hc0 zb_15_5
      exact zw_some ⟨hIm1, hFm1, by omega, by omega⟩
  · have r5 : (-2147483648) ≤ (m1 a0 4) ∧ (m1 a0 4) ≤ 2147483647 := zi_rd hIm1 hc0 zb_15_4
    exact zw_some ⟨hIm1, hFm1, by omega, by omega⟩
set_option maxHeartbeats 4000000 in
theorem zk_119 (n : Nat) {a0 a1 : Int} {m0 : zu_m} (hIm0 : zi_I m0) (hc0 : zcls a0 = 15) (ha1 : (-2000000000000) ≤ a1 ∧ a1 ≤ 2000000000000) : zw (zu_call (zt_T n) 119 [(40, a0), (1, a1)] m0) (fun v m => zi_I m ∧ zfr [(15, 54)] m0 m ∧ (-9223372036854775808) ≤ v ∧ v ≤ 9223372036854775807) := by
  have hFm0 : zfr [(15, 54)] m0 m0 := zfr_rf _ _
  refine zw_eq (zr_119_0 n a0 a1 m0) ?_
  have r1 : 0 ≤ (m0 a0 53) ∧ (m0 a0 53) ≤ 1 := zi_rd hIm0 hc0 zb_15_53
  refine zw_ite (fun h2 => ?_) (fun h2 => ?_)
  · refine zw_b (by omega) ?_
    generalize hmm3 : zu_up m0 a0 53 1 = m3
    have hIm3 := zi_up hmm3 hIm0 hc0 zb_15_53 (by omega) (by omega)
    have hFm3 := zfr_up hmm3 hFm0 hc0 rfl
    have r4 : 0 ≤ (m3 a0 53) ∧ (m3 a0 53) ≤ 1 := zi_rd hIm3 hc0 zb_15_53
    have e5 : (m3 a0 53) = 1 := (zs_eq hmm3)
    refine zw_ite (fun h6 => ?_) (fun h6 => ?_)
    · exfalso; omega
    · exact zw_some ⟨hIm3, hFm3, by omega, by omega⟩
  · have c7 := zu_lcmp_sp a1 1000000000000
    refine zw_ite (fun h8 => ?_) (fun h8 => ?_)
    · refine zw_b (by omega) ?_
      generalize hmm9 : zu_up m0 a0 53 1 = m9
      have hIm9 := zi_up hmm9 hIm0 hc0 zb_15_53 (by omega) (by omega)
      have hFm9 := zfr_up hmm9 hFm0 hc0 rfl
      have r10 : 0 ≤ (m9 a0 53) ∧ (m9 a0 53) ≤ 1 := zi_rd hIm9 hc0 zb_15_53
      have e11 : (m9 a0 53) = 1 := (zs_eq hmm9)
      refine zw_ite (fun h12 => ?_) (fun h12 => ?_)
      · exfalso; omega
      · exact zw_some ⟨hIm9, hFm9, by omega, by omega⟩
    · have c13 := zu_lcmp_sp a1 (-1000000000000)
      refine zw_ite (fun h14 => ?_) (fun h14 => ?_)
      · refine zw_b (by omega) ?_
        generalize hmm15 : zu_up m0 a0 53 0 = m15
        have hIm15 := zi_up hmm15 hIm0 hc0 zb_15_53 (by omega) (by omega)
        have hFm15 := zfr_up hmm15 hFm0 hc0 rfl
        have r16 : 0 ≤ (m15 a0 53) ∧ (m15 a0 53) ≤ 1 := zi_rd hIm15 hc0 zb_15_53
        have e17 : (m15 a0 53) = 0 := (zs_eq hmm15)
        refine zw_ite (fun h18 => ?_) (fun h18 => ?_)
        · exact zw_some ⟨hIm15, hFm15, by omega, by omega⟩
        · exfalso; omega
      · refine zw_b (by omega) ?_
        generalize hmm19 : zu_up m0 a0 53 1 = m19
        have hIm19 := zi_up hmm19 hIm0 hc0 zb_15_53 (by omega) (by omega)
        have hFm19 := zfr_up hmm19 hFm0 hc0 rfl
        have r20 : 0 ≤ (m19 a0 53) ∧ (m19 a0 53) ≤ 1 := zi_rd hIm19 hc0 zb_15_53
        have e21 : (m19 a0 53) = 1 := (zs_eq hmm19)
        refine zw_ite (fun h22 => ?_) (fun h22 => ?_)
        · exfalso; omega
        · exact zw_some ⟨hIm19, hFm19, by omega, by omega⟩
set_option maxHeartbeats 4000000 in
theorem zk_120 (n : Nat) {a0 a1 a2 : Int} {m0 : zu_m} (hIm0 : zi_I m0)  (ha0 : 5 ≤ a0 ∧ a0 ≤ 10) (ha1 : (-1000000000000) ≤ a1 ∧ a1 ≤ 1000000000000) (ha2 : (-1000000000000) ≤ a2 ∧ a2 ≤ 1000000000000) : zw (zu_call (zt_T n) 120 [(0, a0), (1, a1), (1, a2)] m0) (fun v m => zi_I m ∧ zfr [] m0 m ∧ 0 ≤ v ∧ v ≤ 1) := by
  have hFm0 : zfr [] m0 m0 := zfr_rf _ _
  refine zw_eq (zr_120_0 n a0 a1 a2 m0) ?_
  refine zw_ite (fun h1 => ?_) (fun h1 => ?_)
  · have c2 := zu_lcmp_sp a1 a2
    refine zw_ite (fun h3 => ?_) (fun h3 => ?_)
    · refine zw_b (by omega) ?_
      exact zw_some ⟨hIm0, hFm0, by omega, by omega⟩
    · refine zw_b (by omega) ?_
      exact zw_some ⟨hIm0, hFm0, by omega, by omega⟩
  · refine zw_ite (fun h4 => ?_) (fun h4 => ?_)
    · have c5 := zu_lcmp_sp a1 a2
      refine zw_ite (fun h6 => ?_) (fun h6 => ?_)
      · refine zw_b (by omega) ?_
        exact zw_some ⟨hIm0, hFm0, by omega, by omega⟩
      · refine zw_b (by omega) ?_
        exact zw_some ⟨hIm0, hFm0, by omega, by omega⟩
    · refine zw_ite (fun h7 => ?_) (fun h7 => ?_)
      · have c8 := zu_lcmp_sp a1 a2
        refine zw_ite (fun h9 => ?_) (fun h9 => ?_)
        · refine zw_b (by omega) ?_
          exact zw_some ⟨hIm0, hFm0, by omega, by omega⟩
        · refine zw_b (by omega) ?_
          exact zw_some ⟨hIm0, hFm0, by omega, by omega⟩
      · refine zw_ite (fun h10 => ?_) (fun h10 => ?_)
        · have c11 := zu_lcmp_sp a1 a2
          refine zw_ite (fun h12 => ?_) (fun h12 => ?_)
          · refine zw_b (by omega) ?_
            exact zw_some ⟨hIm0, hFm0, by omega, by omega⟩
          · refine zw_b (by omega) ?_
            exact zw_some ⟨hIm0, hFm0, by omega, by omega⟩
        · refine zw_ite (fun h13 => ?_) (fun h13 => ?_)
          · have c14 := zu_lcmp_sp a1 a2
            refine zw_ite (fun h15 => ?_) (fun h15 => ?_)
            · refine zw_b (by omega) ?_
              exact zw_some ⟨hIm0, hFm0, by omega, by omega⟩
            · refine zw_b (by omega) ?_
              exact zw_some ⟨hIm0, hFm0, by omega, by omega⟩
          · have c16 := zu_lcmp_sp a1 a2
            refine zw_ite (fun h17 => ?_) (fun h17 => ?_)
            · refine zw_b (by omega) ?_
              exact zw_some ⟨hIm0, hFm0, by omega, by omega⟩
            · refine zw_b (by omega) ?_
              exact zw_some ⟨hIm0, hFm0, by omega, by omega⟩
set_option maxHeartbeats 4000000 in
theorem zk_121 (n : Nat) {a0 a1 a2 : Int} {m0 : zu_m} (hIm0 : zi_I m0) (hc0 : zcls a0 = 15) (ha1 : (-1000000000000) ≤ a1 ∧ a1 ≤ 1000000000000) (ha2 : (-1000000000000) ≤ a2 ∧ a2 ≤ 1000000000000) : zw (zu_call (zt_T n) 121 [(40, a0), (1, a1), (1, a2)] m0) (fun v m => zi_I m ∧ zfr [(15, 54)] m0 m ∧ (-9223372036854775808) ≤ v ∧ v ≤ 9223372036854775807) := by
  have hFm0 : zfr [(15, 54)] m0 m0 := zfr_rf _ _
  refine zw_eq (zr_121_0 n a0 a1 a2 m0) ?_
  have c1 := zu_lcmp_sp a1 0
  refine zw_ite (fun h2 => ?_) (fun h2 => ?_)
  · have r3 : 0 ≤ (m0 a0 53) ∧ (m0 a0 53) ≤ 1 := zi_rd hIm0 hc0 zb_15_53
    refine zw_ite (fun h4 => ?_) (fun h4 => ?_)
    · refine zw_b (by omega) ?_
      generalize hmm5 : zu_up m0 a0 53 1 = m5
      have hIm5 := zi_up hmm5 hIm0 hc0 zb_15_53 (by omega) (by omega)
      have hFm5 := zfr_up hmm5 hFm0 hc0 rfl
      have r6 : 0 ≤ (m5 a0 53) ∧ (m5 a0 53) ≤ 1 := zi_rd hIm5 hc0 zb_15_53
      have e7 : (m5 a0 53) = 1 := (zs_eq hmm5)
      refine zw_ite (fun h8 => ?_) (fun h8 => ?_)
      · exfalso; omega
      · exact zw_some ⟨hIm5, hFm5, by omega, by omega⟩
    · refine zw_ite (fun h9 => ?_) (fun h9 => ?_)
      · refine zw_b (by omega) ?_
        generalize hmm10 : zu_up m0 a0 53 0 = m10
        have hIm10 := zi_up hmm10 hIm0 hc0 zb_15_53 (by omega) (by omega)
        have hFm10 := zfr_up hmm10 hFm0 hc0 rfl
        have r11 : 0 ≤ (m10 a0 53) ∧ (m10 a0 53) ≤ 1 := zi_rd hIm10 hc0 zb_15_53
        have e12 : (m10 a0 53) = 0 := (zs_eq hmm10)
        refine zw_ite (fun h13 => ?_) (fun h13 => ?_)
        · have w14 := zu_w64_rg (a1 * a2)
          exact zw_some ⟨hIm10, hFm10, by omega, by omega⟩
        · exfalso; omega
      · exfalso; omega
  · have c15 := zu_lcmp_sp a2 0
    refine zw_ite (fun h16 => ?_) (fun h16 => ?_)
    · have r17 : 0 ≤ (m0 a0 53) ∧ (m0 a0 53) ≤ 1 := zi_rd hIm0 hc0 zb_15_53
      refine zw_ite (fun h18 => ?_) (fun h18 => ?_)
      · refine zw_b (by omega) ?_
        generalize hmm19 : zu_up m0 a0 53 1 = m19
        have hIm19 := zi_up hmm19 hIm0 hc0 zb_15_53 (by omega) (by omega)
        have hFm19 := zfr_up hmm19 hFm0 hc0 rfl
        have r20 : 0 ≤ (m19 a0 53) ∧ (m19 a0 53) ≤ 1 := zi_rd hIm19 hc0 zb_15_53
        have e21 : (m19 a0 53) = 1 := (zs_eq hmm19)
        refine zw_ite (fun h22 => ?_) (fun h22 => ?_)
        · exfalso; omega
        · exact zw_some ⟨hIm19, hFm19, by omega, by omega⟩
      · refine zw_ite (fun h23 => ?_) (fun h23 => ?_)
        · refine zw_b (by omega) ?_
          generalize hmm24 : zu_up m0 a0 53 0 = m24
          have hIm24 := zi_up hmm24 hIm0 hc0 zb_15_53 (by omega) (by omega)
          have hFm24 := zfr_up hmm24 hFm0 hc0 rfl
          have r25 : 0 ≤ (m24 a0 53) ∧ (m24 a0 53) ≤ 1 := zi_rd hIm24 hc0 zb_15_53
          have e26 : (m24 a0 53) = 0 := (zs_eq hmm24)
          refine zw_ite (fun h27 => ?_) (fun h27 => ?_)
          · have w28 := zu_w64_rg (a1 * a2)
            exact zw_some ⟨hIm24, hFm24, by omega, by omega⟩
          · exfalso; omega
        · exfalso; omega
    · have c29 := zu_lcmp_sp a2 0
      refine zw_ite (fun h30 => ?_) (fun h30 => ?_)
      · have c31 := zu_lcmp_sp a1 0
        refine zw_ite (fun h32 => ?_) (fun h32 => ?_)
        · refine zw_nif (by omega) ?_
          have w33 := zu_w64_rg (Int.tdiv 1000000000000 a1)
          have c34 := zu_lcmp_sp a2 (zu_w64 (Int.tdiv 1000000000000 a1))
          refine zw_ite (fun h35 => ?_) (fun h35 => ?_)
          · have r36 : 0 ≤ (m0 a0 53) ∧ (m0 a0 53) ≤ 1 := zi_rd hIm0 hc0 zb_15_53
            refine zw_ite (fun h37 => ?_) (fun h37 => ?_)
            · refine zw_b (by omega) ?_
              generalize hmm38 : zu_up m0 a0 53 1 = m38
              have hIm38 := zi_up hmm38 hIm0 hc0 zb_15_53 (by omega) (by omega)
              have hFm38 := zfr_up hmm38 hFm0 hc0 rfl
              have r39 : 0 ≤ (m38 a0 53) ∧ (m38 a0 53) ≤ 1 := zi_rd hIm38 hc0 zb_15_53
              have e40 : (m38 a0 53) = 1 := (zs_eq hmm38)
              refine zw_ite (fun h41 => ?_) (fun h41 => ?_)
              · exfalso; omega
              · exact zw_some ⟨hIm38, hFm38, by omega, by omega⟩
            · refine zw_ite (fun h42 => ?_) (fun h42 => ?_)
              · refine zw_b (by omega) ?_
                generalize hmm43 : zu_up m0 a0 53 0 = m43
                have hIm43 := zi_up hmm43 hIm0 hc0 zb_15_53 (by omega) (by omega)
                have hFm43 := zfr_up hmm43 hFm0 hc0 rfl
                have r44 : 0 ≤ (m43 a0 53) ∧ (m43 a0 53) ≤ 1 := zi_rd hIm43 hc0 zb_15_53
                have e45 : (m43 a0 53) = 0 := (zs_eq hmm43)
                refine zw_ite (fun h46 => ?_) (fun h46 => ?_)
                · have w47 := zu_w64_rg (a1 * a2)
                  exact zw_some ⟨hIm43, hFm43, by omega, by omega⟩
                · exfalso; omega
              · exfalso; omega
          · have r48 : 0 ≤ (m0 a0 53) ∧ (m0 a0 53) ≤ 1 := zi_rd hIm0 hc0 zb_15_53
            refine zw_ite (fun h49 => ?_) (fun h49 => ?_)
            · refine zw_b (by omega) ?_
              generalize hmm50 : zu_up m0 a0 53 1 = m50
              have hIm50 := zi_up hmm50 hIm0 hc0 zb_15_53 (by omega) (by omega)
              have hFm50 := zfr_up hmm50 hFm0 hc0 rfl
              have r51 : 0 ≤ (m50 a0 53) ∧ (m50 a0 53) ≤ 1 := zi_rd hIm50 hc0 zb_15_53
              have e52 : (m50 a0 53) = 1 := (zs_eq hmm50)
              refine zw_ite (fun h53 => ?_) (fun h53 => ?_)
              · exfalso; omega
              · exact zw_some ⟨hIm50, hFm50, by omega, by omega⟩
            · refine zw_ite (fun h54 => ?_) (fun h54 => ?_)
              · exfalso; omega
              · refine zw_b (by omega) ?_
                generalize hmm55 : zu_up m0 a0 53 1 = m55
                have hIm55 := zi_up hmm55 hIm0 hc0 zb_15_53 (by omega) (by omega)
                have hFm55 := zfr_up hmm55 hFm0 hc0 rfl
                have r56 : 0 ≤ (m55 a0 53) ∧ (m55 a0 53) ≤ 1 := zi_rd hIm55 hc0 zb_15_53
                have e57 : (m55 a0 53) = 1 := (zs_eq hmm55)
                refine zw_ite (fun h58 => ?_) (fun h58 => ?_)
                · exfalso; omega
                · exact zw_some ⟨hIm55, hFm55, by omega, by omega⟩
        · have w59 := zu_w64_id (z := -a1) (by omega) (by omega)
          refine zw_nif (by omega) ?_
          have d60 := ztdiv_bd (x := 1000000000000) (y := (zu_w64 (-a1))) (by omega) (by omega)
          have w61 := zu_w64_id (z := Int.tdiv 1000000000000 (zu_w64 (-a1))) (by omega) (by omega)
          have c62 := zu_lcmp_sp a2 (zu_w64 (Int.tdiv 1000000000000 (zu_w64 (-a1))))
          refine zw_ite (fun h63 => ?_) (fun h63 => ?_)
          · have r64 : 0 ≤ (m0 a0 53) ∧ (m0 a0 53) ≤ 1 := zi_rd hIm0 hc0 zb_15_53
            refine zw_ite (fun h65 => ?_) (fun h65 => ?_)
            · refine zw_b (by omega) ?_
              generalize hmm66 : zu_up m0 a0 53 1 = m66
              have hIm66 := zi_up hmm66 hIm0 hc0 zb_15_53 (by omega) (by omega)
              have hFm66 := zfr_up hmm66 hFm0 hc0 rfl
              have r67 : 0 ≤ (m66 a0 53) ∧ (m66 a0 53) ≤ 1 := zi_rd hIm66 hc0 zb_15_53
              have e68 : (m66 a0 53) = 1 := (zs_eq hmm66)
              refine zw_ite (fun h69 => ?_) (fun h69 => ?_)
              · exfalso; omega
              · exact zw_some ⟨hIm66, hFm66, by omega, by omega⟩
            · refine zw_ite (fun h70 => ?_) (fun h70 => ?_)
              · refine zw_b (by omega) ?_
                generalize hmm71 : zu_up m0 a0 53 0 = m71
                have hIm71 := zi_up hmm71 hIm0 hc0 zb_15_53 (by omega) (by omega)
                have hFm71 := zfr_up hmm71 hFm0 hc0 rfl
                have r72 : 0 ≤ (m71 a0 53) ∧ (m71 a0 53) ≤ 1 := zi_rd hIm71 hc0 zb_15_53
                have e73 : (m71 a0 53) = 0 := (zs_eq hmm71)
                refine zw_ite (fun h74 => ?_) (fun h74 => ?_)
                · have w75 := zu_w64_rg (a1 * a2)
                  exact zw_some ⟨hIm71, hFm71, by omega, by omega⟩
                · exfalso; omega
              · exfalso; omega
          · have r76 : 0 ≤ (m0 a0 53) ∧ (m0 a0 53) ≤ 1 := zi_rd hIm0 hc0 zb_15_53
            refine zw_ite (fun h77 => ?_) (fun h77 => ?_)
            · refine zw_b (by omega) ?_
              generalize hmm78 : zu_up m0 a0 53 1 = m78
              have hIm78 := zi_up hmm78 hIm0 hc0 zb_15_53 (by omega) (by omega)
              have hFm78 := zfr_up hmm78 hFm0 hc0 rfl
              have r79 : 0 ≤ (m78 a0 53) ∧ (m78 a0 53) ≤ 1 := zi_rd hIm78 hc0 zb_15_53
              have e80 : (m78 a0 53) = 1 := (zs_eq hmm78)
              refine zw_ite (fun h81 => ?_) (fun h81 => ?_)
              · exfalso; omega
              · exact zw_some ⟨hIm78, hFm78, by omega, by omega⟩
            · refine zw_ite (fun h82 => ?_) (fun h82 => ?_)
              · exfalso; omega
              · refine zw_b (by omega) ?_
                generalize hmm83 : zu_up m0 a0 53 1 = m83
                have hIm83 := zi_up hmm83 hIm0 hc0 zb_15_53 (by omega) (by omega)
                have hFm83 := zfr_up hmm83 hFm0 hc0 rfl
                have r84 : 0 ≤ (m83 a0 53) ∧ (m83 a0 53) ≤ 1 := zi_rd hIm83 hc0 zb_15_53
                have e85 : (m83 a0 53) = 1 := (zs_eq hmm83)
                refine zw_ite (fun h86 => ?_) (fun h86 => ?_)
                · exfalso; omega
                · exact zw_some ⟨hIm83, hFm83, by omega, by omega⟩
      · have w87 := zu_w64_id (z := -a2) (by omega) (by omega)
        have c88 := zu_lcmp_sp a1 0
        refine zw_ite (fun h89 => ?_) (fun h89 => ?_)
        · refine zw_nif (by omega) ?_
          have w90 := zu_w64_rg (Int.tdiv 1000000000000 a1)
          have c91 := zu_lcmp_sp (zu_w64 (-a2)) (zu_w64 (Int.tdiv 1000000000000 a1))
          refine zw_ite (fun h92 => ?_) (fun h92 => ?_)
          · have r93 : 0 ≤ (m0 a0 53) ∧ (m0 a0 53) ≤ 1 := zi_rd hIm0 hc0 zb_15_53
            refine zw_ite (fun h94 => ?_) (fun h94 => ?_)
            · refine zw_b (by omega) ?_
              generalize hmm95 : zu_up m0 a0 53 1 = m95
              have hIm95 := zi_up hmm95 hIm0 hc0 zb_15_53 (by omega) (by omega)
              have hFm95 := zfr_up hmm95 hFm0 hc0 rfl
              have r96 : 0 ≤ (m95 a0 53) ∧ (m95 a0 53) ≤ 1 := zi_rd hIm95 hc0 zb_15_53
              have e97 : (m95 a0 53) = 1 := (zs_eq hmm95)
              refine zw_ite (fun h98 => ?_) (fun h98 => ?_)
              · exfalso; omega
              · exact zw_some ⟨hIm95, hFm95, by omega, by omega⟩
            · refine zw_ite (fun h99 => ?_) (fun h99 => ?_)
              · refine zw_b (by omega) ?_
                generalize hmm100 : zu_up m0 a0 53 0 = m100
                have hIm100 := zi_up hmm100 hIm0 hc0 zb_15_53 (by omega) (by omega)
                have hFm100 := zfr_up hmm100 hFm0 hc0 rfl
                have r101 : 0 ≤ (m100 a0 53) ∧ (m100 a0 53) ≤ 1 := zi_rd hIm100 hc0 zb_15_53
                have e102 : (m100 a0 53) = 0 := (zs_eq hmm100)
                refine zw_ite (fun h103 => ?_) (fun h103 => ?_)
                · have w104 := zu_w64_rg (a1 * a2)
                  exact zw_some ⟨hIm100, hFm100, by omega, by omega⟩
                · exfalso; omega
              · exfalso; omega
          · have r105 : 0 ≤ (m0 a0 53) ∧ (m0 a0 53) ≤ 1 := zi_rd hIm0 hc0 zb_15_53
            refine zw_ite (fun h106 => ?_) (fun h106 => ?_)
            · refine zw_b (by omega) ?_
              generalize hmm107 : zu_up m0 a0 53 1 = m107
              have hIm107 := zi_up hmm107 hIm0 hc0 zb_15_53 (by omega) (by omega)
              have hFm107 := zfr_up hmm107 hFm0 hc0 rfl
              have r108 : 0 ≤ (m107 a0 53) ∧ (m107 a0 53) ≤ 1 := zi_rd hIm107 hc0 zb_15_53
              have e109 : (m107 a0 53) = 1 := (zs_eq hmm107)
              refine zw_ite (fun h110 => ?_) (fun h110 => ?_)
              · exfalso; omega
              · exact zw_some ⟨hIm107, hFm107, by omega, by omega⟩
            · refine zw_ite (fun h111 => ?_) (fun h111 => ?_)
              · exfalso; omega
              · refine zw_b (by omega) ?_
                generalize hmm112 : zu_up m0 a0 53 1 = m112
                have hIm112 := zi_up hmm112 hIm0 hc0 zb_15_53 (by omega) (by omega)
                have hFm112 := zfr_up hmm112 hFm0 hc0 rfl
                have r113 : 0 ≤ (m112 a0 53) ∧ (m112 a0 53) ≤ 1 := zi_rd hIm112 hc0 zb_15_53
                have e114 : (m112 a0 53) = 1 := (zs_eq hmm112)
                refine zw_ite (fun h115 => ?_) (fun h115 => ?_)
                · exfalso; omega
                · exact zw_some ⟨hIm112, hFm112, by omega, by omega⟩
        · have w116 := zu_w64_id (z := -a1) (by omega) (by omega)
          refine zw_nif (by omega) ?_
          have d117 := ztdiv_bd (x := 1000000000000) (y := (zu_w64 (-a1))) (by omega) (by omega)
          have w118 := zu_w64_id (z := Int.tdiv 1000000000000 (zu_w64 (-a1))) (by omega) (by omega)
          have c119 := zu_lcmp_sp (zu_w64 (-a2)) (zu_w64 (Int.tdiv 1000000000000 (zu_w64 (-a1))))
          refine zw_ite (fun h120 => ?_) (fun h120 => ?_)
          · have r121 : 0 ≤ (m0 a0 53) ∧ (m0 a0 53) ≤ 1 := zi_rd hIm0 hc0 zb_15_53
            refine zw_ite (fun h122 => ?_) (fun h122 => ?_)
            · refine zw_b (by omega) ?_
              generalize hmm123 : zu_up m0 a0 53 1 = m123
              have hIm123 := zi_up hmm123 hIm0 hc0 zb_15_53 (by omega) (by omega)
              have hFm123 := zfr_up hmm123 hFm0 hc0 rfl
              have r124 : 0 ≤ (m123 a0 53) ∧ (m123 a0 53) ≤ 1 := zi_rd hIm123 hc0 zb_15_53
              have e125 : (m123 a0 53) = 1 := (zs_eq hmm123)
              refine zw_ite (fun h126 => ?_) (fun h126 => ?_)
              · exfalso; omega
              · exact zw_some ⟨hIm123, hFm123, by omega, by omega⟩
            · refine zw_ite (fun h127 => ?_) (fun h127 => ?_)
              · refine zw_b (by omega) ?_
                generalize hmm128 : zu_up m0 a0 53 0 = m128
                have hIm128 := zi_up hmm128 hIm0 hc0 zb_15_53 (by omega) (by omega)
                have hFm128 := zfr_up hmm128 hFm0 hc0 rfl
                have r129 : 0 ≤ (m128 a0 53) ∧ (m128 a0 53) ≤ 1 := zi_rd hIm128 hc0 zb_15_53
                have e130 : (m128 a0 53) = 0 := (zs_eq hmm128)
                refine zw_ite (fun h131 => ?_) (fun h131 => ?_)
                · have w132 := zu_w64_rg (a1 * a2)
                  exact zw_some ⟨hIm128, hFm128, by omega, by omega⟩
                · exfalso; omega
              · exfalso; omega
          · have r133 : 0 ≤ (m0 a0 53) ∧ (m0 a0 53) ≤ 1 := zi_rd hIm0 hc0 zb_15_53
            refine zw_ite (fun h134 => ?_) (fun h134 => ?_)
            · refine zw_b (by omega) ?_
              generalize hmm135 : zu_up m0 a0 53 1 = m135
              have hIm135 := zi_up hmm135 hIm0 hc0 zb_15_53 (by omega) (by omega)
              have hFm135 := zfr_up hmm135 hFm0 hc0 rfl
              have r136 : 0 ≤ (m135 a0 53) ∧ (m135 a0 53) ≤ 1 := zi_rd hIm135 hc0 zb_15_53
              have e137 : (m135 a0 53) = 1 := (zs_eq hmm135)
              refine zw_ite (fun h138 => ?_) (fun h138 => ?_)
              · exfalso; omega
              · exact zw_some ⟨hIm135, hFm135, by omega, by omega⟩
            · refine zw_ite (fun h139 => ?_) (fun h139 => ?_)
              · exfalso; omega
              · refine zw_b (by omega) ?_
                generalize hmm140 : zu_up m0 a0 53 1 = m140
                have hIm140 := zi_up hmm140 hIm0 hc0 zb_15_53 (by omega) (by omega)
                have hFm140 := zfr_up hmm140 hFm0 hc0 rfl
                have r141 : 0 ≤ (m140 a0 53) ∧ (m140 a0 53) ≤ 1 := zi_rd hIm140 hc0 zb_15_53
                have e142 : (m140 a0 53) = 1 := (zs_eq hmm140)
                refine zw_ite (fun h143 => ?_) (fun h143 => ?_)
                · exfalso; omega
                · exact zw_some ⟨hIm140, hFm140, by omega, by omega⟩
set_option maxHeartbeats 4000000 in
theorem zl_130 (n : Nat) {a0 a1 a2 : Int} {m0 : zu_m} (hc0 : zcls a0 = 15) : ∀ k : Nat, (∀ (x3 x4 : Int) (mh : zu_m), zi_I mh → zfr [] m0 mh → (0 ≤ a1 ∧ a1 ≤ 1) → ((-2147483648) ≤ a2 ∧ a2 ≤ 2147483647) → ((-2147483648) ≤ x3 ∧ x3 ≤ 2147483647) → (0 ≤ x4 ∧ x4 ≤ 18) → (18 - x4) * 1 + 0 < (k : Int) → zw (zu_ex (zt_T n) 130 5 [(40, a0), (0, a1), (0, a2), (0, x3), (0, x4)] [] mh) (fun v m => zi_I m ∧ zfr [] m0 m ∧ (-2147483648) ≤ v ∧ v ≤ 2147483647)) := by
  intro k
  induction k with
  | zero => exact fun x3 x4 mh hImh hFmh hba1 hba2 hbx3 hbx4 hM => by exfalso; omega
  | succ k ih =>
    intro x3 x4 mh hImh hFmh hba1 hba2 hbx3 hbx4 hM
    refine zw_eq (zr_130_5 n a0 a1 a2 x3 x4 mh) ?_
    have b1 : 0 ≤ a1 ∧ a1 < 2 := by omega
    refine zw_if b1 ?_
    have r2 : 0 ≤ (mh 216 a1) ∧ (mh 216 a1) ≤ 18 := zi_rdh (n := 2) hImh zq_216 (by omega) (by decide +kernel)
    refine zw_ite (fun h3 => ?_) (fun h3 => ?_)
    · exact zw_some ⟨hImh, hFmh, by omega, by omega⟩
    · have w4 := zu_w32_id (z := 18 * a1) (by omega) (by omega)
      have w5 := zu_w32_id (z := (zu_w32 (18 * a1)) + x4) (by omega) (by omega)
      have b6 : 0 ≤ (zu_w32 ((zu_w32 (18 * a1)) + x4)) ∧ (zu_w32 ((zu_w32 (18 * a1)) + x4)) < 36 := by omega
      refine zw_if b6 ?_
      have r7 : (-3) ≤ (mh 215 (zu_w32 ((zu_w32 (18 * a1)) + x4))) ∧ (mh 215 (zu_w32 ((zu_w32 (18 * a1)) + x4))) ≤ 3 := zi_rd hImh zq_215 (zb_85 _)
      refine zw_ite (fun h8 => ?_) (fun h8 => ?_)
      · have w9 := zu_w32_id (z := x3 + 0) (by omega) (by omega)
        have w10 := zu_w32_id (z := x4 + 1) (by omega) (by omega)
        have hM : (18 - (zu_w32 (x4 + 1))) * 1 + 0 < (k : Int) := by omega
        exact ih (zu_w32 (x3 + 0)) (zu_w32 (x4 + 1)) mh hImh hFmh ⟨by omega, by omega⟩ ⟨by omega, by omega⟩ ⟨by omega, by omega⟩ ⟨by omega, by omega⟩ hM
      · have w11 := zu_w32_rg (x3 + 1)
        have w12 := zu_w32_id (z := x4 + 1) (by omega) (by omega)
        have hM : (18 - (zu_w32 (x4 + 1))) * 1 + 0 < (k : Int) := by omega
        exact ih (zu_w32 (x3 + 1)) (zu_w32 (x4 + 1)) mh hImh hFmh ⟨by omega, by omega⟩ ⟨by omega, by omega⟩ ⟨by omega, by omega⟩ ⟨by omega, by omega⟩ hM
set_option maxHeartbeats 4000000 in
theorem zk_130 (n : Nat) {a0 a1 a2 : Int} {m0 : zu_m} (hIm0 : zi_I m0) (hc0 : zcls a0 = 15) (ha1 : 0 ≤ a1 ∧ a1 ≤ 1) (ha2 : (-2147483648) ≤ a2 ∧ a2 ≤ 2147483647) : zw (zu_call (zt_T n) 130 [(40, a0), (0, a1), (0, a2)] m0) (fun v m => zi_I m ∧ zfr [] m0 m ∧ (-2147483648) ≤ v ∧ v ≤ 2147483647) := by
  have hFm0 : zfr [] m0 m0 := zfr_rf _ _
  refine zw_eq (zr_130_0 n a0 a1 a2 m0) ?_
  have hM : (18 - 0) * 1 + 0 < ((19 : Nat) : Int) := by omega
  exact (zl_130 n (m0 := m0) hc0 19) 0 0 m0 hIm0 hFm0 ⟨by omega, by omega⟩ ⟨by omega, by omega⟩ ⟨by omega, by omega⟩ ⟨by omega, by omega⟩ hM
set_option maxHeartbeats 4000000 in
theorem zk_135 (n : Nat) {a0 a1 a2 : Int} {m0 : zu_m} (hIm0 : zi_I m0) (hc0 : zcls a0 = 15) (ha1 : 0 ≤ a1 ∧ a1 ≤ 47) (ha2 : 0 ≤ a2 ∧ a2 ≤ 47) : zw (zu_call (zt_T n) 135 [(40, a0), (0, a1), (0, a2)] m0) (fun v m => zi_I m ∧ zfr [] m0 m ∧ 0 ≤ v ∧ v ≤ 54) := by
  have hFm0 : zfr [] m0 m0 := zfr_rf _ _
  refine zw_eq (zr_135_0 n a0 a1 a2 m0) ?_
  have r1 : 1 ≤ (m0 a0 12) ∧ (m0 a0 12) ≤ 8 := zi_rd hIm0 hc0 zb_15_12
  refine zw_nif (by omega) ?_
  have d2 := ztmod_bd (x := a1) (y := (m0 a0 12)) (by omega) (by omega)
  refine zw_nif (by omega) ?_
  have d3 := ztmod_bd (x := a2) (y := (m0 a0 12)) (by omega) (by omega)
  have w4 := zu_w32_id (z := (Int.tmod a1 (m0 a0 12)) - (Int.tmod a2 (m0 a0 12))) (by omega) (by omega)
  refine zw_nif (by omega) ?_
  have d5 := ztdiv_bd (x := a1) (y := (m0 a0 12)) (by omega) (by omega)
  have w6 := zu_w32_id (z := Int.tdiv a1 (m0 a0 12)) (by omega) (by omega)
  refine zw_nif (by omega) ?_
  have d7 := ztdiv_bd (x := a2) (y := (m0 a0 12)) (by omega) (by omega)
  have w8 := zu_w32_id (z := Int.tdiv a2 (m0 a0 12)) (by omega) (by omega)
  have w9 := zu_w32_id (z := (zu_w32 (Int.tdiv a1 (m0 a0 12))) - (zu_w32 (Int.tdiv a2 (m0 a0 12)))) (by omega) (by omega)
  refine zw_ite (fun h10 => ?_) (fun h10 => ?_)
  · refine zw_ite (fun h11 => ?_) (fun h11 => ?_)
    · have w12 := zu_w32_id (z := (zu_w32 ((Int.tmod a1 (m0 a0 12)) - (Int.tmod a2 (m0 a0 12)))) + (zu_w32 ((zu_w32 (Int.tdiv a1 (m0 a0 12))) - (zu_w32 (Int.tdiv a2 (m0 a0 12)))))) (by omega) (by omega)
      exact zw_some ⟨hIm0, hFm0, by omega, by omega⟩
    · have w13 := zu_w32_id (z := -(zu_w32 ((zu_w32 (Int.tdiv a1 (m0 a0 12))) - (zu_w32 (Int.tdiv a2 (m0 a0 12)))))) (by omega) (by omega)
      have w14 := zu_w32_id (z := (zu_w32 ((Int.tmod a1 (m0 a0 12)) - (Int.tmod a2 (m0 a0 12)))) + (zu_w32 (-(zu_w32 ((zu_w32 (Int.tdiv a1 (m0 a0 12))) - (zu_w32 (Int.tdiv a2 (m0 a0 12)))))))) (by omega) (by omega)
      exact zw_some ⟨hIm0, hFm0, by omega, by omega⟩
  · have w15 := zu_w32_id (z := -(zu_w32 ((Int.tmod a1 (m0 a0 12)) - (Int.tmod a2 (m0 a0 12))))) (by omega) (by omega)
    refine zw_ite (fun h16 => ?_) (fun h16 => ?_)
    · have w17 := zu_w32_id (z := (zu_w32 (-(zu_w32 ((Int.tmod a1 (m0 a0 12)) - (Int.tmod a2 (m0 a0 12)))))) + (zu_w32 ((zu_w32 (Int.tdiv a1 (m0 a0 12))) - (zu_w32 (Int.tdiv a2 (m0 a0 12)))))) (by omega) (by omega)
      exact zw_some ⟨hIm0, hFm0, by omega, by omega⟩
    · have w18 := zu_w32_id (z := -(zu_w32 ((zu_w32 (Int.tdiv a1 (m0 a0 12))) - (zu_w32 (Int.tdiv a2 (m0 a0 12)))))) (by omega) (by omega)
      have w19 := zu_w32_id (z := (zu_w32 (-(zu_w32 ((Int.tmod a1 (m0 a0 12)) - (Int.tmod a2 (m0 a0 12)))))) + (zu_w32 (-(zu_w32 ((zu_w32 (Int.tdiv a1 (m0 a0 12))) - (zu_w32 (Int.tdiv a2 (m0 a0 12)))))))) (by omega) (by omega)
      exact zw_some ⟨hIm0, hFm0, by omega, by omega⟩
set_option maxHeartbeats 4000000 in
theorem zk_136 (n : Nat) {a0 a1 : Int} {m0 : zu_m} (hIm0 : zi_I m0) (hc0 : zcls a0 = 15) (ha1 : 1 ≤ a1 ∧ a1 ≤ 100) : zw (zu_call (zt_T n) 136 [(40, a0), (0, a1)] m0) (fun v m => zi_I m ∧ zfr [(15, 64)] m0 m ∧ (-99) ≤ v ∧ v ≤ 99) := by
  have hFm0 : zfr [(15, 64)] m0 m0 := zfr_rf _ _
  refine zw_eq (zr_136_0 n a0 a1 m0) ?_
  have r1 : (-9223372036854775808) ≤ (m0 a0 63) ∧ (m0 a0 63) ≤ 9223372036854775807 := zi_rd hIm0 hc0 zb_15_63
  have w2 := zu_w64_rg ((m0 a0 63) * 1103515245)
  have w3 := zu_w64_rg ((zu_w64 ((m0 a0 63) * 1103515245)) + 12345)
  have b4 := zu_i64_rg 3 (zu_w64 ((zu_w64 ((m0 a0 63) * 1103515245)) + 12345)) 2147483647
  generalize hmm5 : zu_up m0 a0 63 (zu_i64 3 (zu_w64 ((zu_w64 ((m0 a0 63) * 1103515245)) + 12345)) 2147483647) = m5
  have hIm5 := zi_up hmm5 hIm0 hc0 zb_15_63 (by omega) (by omega)
  have hFm5 := zfr_up hmm5 hFm0 hc0 rfl
  have r6 : (-9223372036854775808) ≤ (m5 a0 63) ∧ (m5 a0 63) ≤ 9223372036854775807 := zi_rd hIm5 hc0 zb_15_63
  have e7 : (m5 a0 63) = (zu_i64 3 (zu_w64 ((zu_w64 ((m0 a0 63) * 1103515245)) + 12345)) 2147483647) := (zs_eq hmm5)
  refine zw_nif (by omega) ?_
  have w8 := zu_w64_rg (Int.tdiv (m5 a0 63) 65536)
  refine zw_nif (by omega) ?_
  have d9 := ztmod_b2 (x := (zu_w64 (Int.tdiv (m5 a0 63) 65536))) (y := a1) (by omega)
  have w10 := zu_w32_id (z := (Int.tmod (zu_w64 (Int.tdiv (m5 a0 63) 65536)) a1)) (by omega) (by omega)
  exact zw_some ⟨hIm5, hFm5, by omega, by omega⟩
set_option maxHeartbeats 4000000 in
theorem zk_167 (n : Nat) {a0 a1 a2 : Int} {m0 : zu_m} (hIm0 : zi_I m0) (hc0 : zcls a0 = 15) (ha1 : 0 ≤ a1 ∧ a1 ≤ 3) (ha2 : 0 ≤ a2 ∧ a2 ≤ 3) : zw (zu_call (zt_T n) 167 [(40, a0), (0, a1), (0, a2)] m0) (fun v m => zi_I m ∧ zfr [] m0 m ∧ (-2147483648) ≤ v ∧ v ≤ 2147483647) := by
  have hFm0 : zfr [] m0 m0 := zfr_rf _ _
  refine zw_eq (zr_167_0 n a0 a1 a2 m0) ?_
  refine zw_ite (fun h1 => ?_) (fun h1 => ?_)
  · have b2 : 0 ≤ a1 ∧ a1 < 4 := by omega
    refine zw_if b2 ?_
    have r3 : 0 ≤ (m0 224 a1) ∧ (m0 224 a1) ≤ 47 := zi_rd hIm0 zq_224 (zb_94 _)
    have b4 : 0 ≤ (m0 224 a1) ∧ (m0 224 a1) < 48 := by omega
    refine zw_if b4 ?_
    have r5 : (-2147483648) ≤ (m0 222 (m0 224 a1)) ∧ (m0 222 (m0 224 a1)) ≤ 2147483647 := zi_rd hIm0 zq_222 (zb_92 _)
    exact zw_some ⟨hIm0, hFm0, by omega, by omega⟩
  · have b6 : 0 ≤ a1 ∧ a1 < 4 := by omega
    refine zw_if b6 ?_
    have r7 : 0 ≤ (m0 224 a1) ∧ (m0 224 a1) ≤ 47 := zi_rd hIm0 zq_224 (zb_94 _)
    have b8 : 0 ≤ (m0 224 a1) ∧ (m0 224 a1) < 48 := by omega
    refine zw_if b8 ?_
    have r9 : (-2147483648) ≤ (m0 222 (m0 224 a1)) ∧ (m0 222 (m0 224 a1)) ≤ 2147483647 := zi_rd hIm0 zq_222 (zb_92 _)
    refine zw_nif (by omega) ?_
    have w10 := zu_w32_rg (Int.tdiv (m0 222 (m0 224 a1)) 2)
    exact zw_some ⟨hIm0, hFm0, by omega, by omega⟩
set_option maxHeartbeats 4000000 in
theorem zl_186 (n : Nat) {a0 a1 : Int} {m0 : zu_m} (hc0 : zcls a0 = 15) : ∀ k : Nat, (∀ (x2 x3 : Int) (mh : zu_m), zi_I mh → zfr [] m0 mh → (0 ≤ a1 ∧ a1 ≤ 1) → ((-2147483648) ≤ x2 ∧ x2 ≤ 2147483647) → (0 ≤ x3 ∧ x3 ≤ 18) → (18 - x3) * 1 + 0 < (k : Int) → zw (zu_ex (zt_T n) 186 4 [(40, a0), (0, a1), (0, x2), (0, x3)] [] mh) (fun v m => zi_I m ∧ zfr [] m0 m ∧ (-2147483648) ≤ v ∧ v ≤ 2147483647)) := by
  intro k
  induction k with
  | zero => exact fun x2 x3 mh hImh hFmh hba1 hbx2 hbx3 hM => by exfalso; omega
  | succ k ih =>
    intro x2 x3 mh hImh hFmh hba1 hbx2 hbx3 hM
    refine zw_eq (zr_186_4 n a0 a1 x2 x3 mh) ?_
    have b1 : 0 ≤ a1 ∧ a1 < 2 := by omega
    refine zw_if b1 ?_
    have r2 : 0 ≤ (mh 216 a1) ∧ (mh 216 a1) ≤ 18 := zi_rdh (n := 2) hImh zq_216 (by omega) (by decide +kernel)
    refine zw_ite (fun h3 => ?_) (fun h3 => ?_)
    · exact zw_some ⟨hImh, hFmh, by omega, by omega⟩
    · have w4 := zu_w32_id (z := 18 * a1) (by omega) (by omega)
      have w5 := zu_w32_id (z := (zu_w32 (18 * a1)) + x3) (by omega) (by omega)
      have b6 : 0 ≤ (zu_w32 ((zu_w32 (18 * a1)) + x3)) ∧ (zu_w32 ((zu_w32 (18 * a1)) + x3)) < 36 := by omega
      refine zw_if b6 ?_
      have r7 : (-3) ≤ (mh 215 (zu_w32 ((zu_w32 (18 * a1)) + x3))) ∧ (mh 215 (zu_w32 ((zu_w32 (18 * a1)) + x3))) ≤ 3 := zi_rd hImh zq_215 (zb_85 _)
      refine zw_ite (fun h8 => ?_) (fun h8 => ?_)
      · have w9 := zu_w32_id (z := x2 + 0) (by omega) (by omega)
        have w10 := zu_w32_id (z := x3 + 1) (by omega) (by omega)
        have hM : (18 - (zu_w32 (x3 + 1))) * 1 + 0 < (k : Int) := by omega
        exact ih (zu_w32 (x2 + 0)) (zu_w32 (x3 + 1)) mh hImh hFmh ⟨by omega, by omega⟩ ⟨by omega, by omega⟩ ⟨by omega, by omega⟩ hM
      · have w11 := zu_w32_rg (x2 + 1)
        have w12 := zu_w32_id (z := x3 + 1) (by omega) (by omega)
        have hM : (18 - (zu_w32 (x3 + 1))) * 1 + 0 < (k : Int) := by omega
        exact ih (zu_w32 (x2 + 1)) (zu_w32 (x3 + 1)) mh hImh hFmh ⟨by omega, by omega⟩ ⟨by omega, by omega⟩ ⟨by omega, by omega⟩ hM
set_option maxHeartbeats 4000000 in
theorem zk_186 (n : Nat) {a0 a1 : Int} {m0 : zu_m} (hIm0 : zi_I m0) (hc0 : zcls a0 = 15) (ha1 : 0 ≤ a1 ∧ a1 ≤ 1) : zw (zu_call (zt_T n) 186 [(40, a0), (0, a1)] m0) (fun v m => zi_I m ∧ zfr [] m0 m ∧ (-2147483648) ≤ v ∧ v ≤ 2147483647) := by
  have hFm0 : zfr [] m0 m0 := zfr_rf _ _
  refine zw_eq (zr_186_0 n a0 a1 m0) ?_
  have hM : (18 - 0) * 1 + 0 < ((19 : Nat) : Int) := by omega
  exact (zl_186 n (m0 := m0) hc0 19) 0 0 m0 hIm0 hFm0 ⟨by omega, by omega⟩ ⟨by omega, by omega⟩ ⟨by omega, by omega⟩ hM
set_option maxHeartbeats 4000000 in
theorem zl_188_15_98 (n : Nat) {a0 a1 a2 : Int} {m0 : zu_m} (hc0 : zcls a0 = 15) (hc1 : zcls a1 = 98) : ∀ k : Nat, (∀ (x3 : Int) (mh : zu_m), zi_I mh → zfr [(98, 0)] m0 mh → (0 ≤ a2 ∧ a2 ≤ 418) → (0 ≤ x3 ∧ x3 ≤ 4) → (4 - x3) * 1 + 17 < (k : Int) → zw (zu_ex (zt_T n) 188 20 [(40, a0), (51, a1), (0, a2), (0, x3)] [] mh) (fun v m => zi_I m ∧ zfr [(98, 0)] m0 m ∧ True)) ∧ (∀ (x3 : Int) (mh : zu_m), zi_I mh → zfr [(98, 0)] m0 mh → (0 ≤ a2 ∧ a2 ≤ 418) → (0 ≤ x3 ∧ x3 ≤ 16) → (16 - x3) * 1 + 0 < (k : Int) → zw (zu_ex (zt_T n) 188 46 [(40, a0), (51, a1), (0, a2), (0, x3)] [] mh) (fun v m => zi_I m ∧ zfr [(98, 0)] m0 m ∧ True)) := by
  intro k
  induction k with
  | zero => exact ⟨fun x3 mh hImh hFmh hba2 hbx3 hM => by exfalso; omega, fun x3 mh hImh hFmh hba2 hbx3 hM => by exfalso; omega⟩
  | succ k ih =>
    refine ⟨?_, ?_⟩
    · intro x3 mh hImh hFmh hba2 hbx3 hM
      refine zw_eq (zr_188_20 n a0 a1 a2 x3 mh) ?_
      refine zw_ite (fun h1 => ?_) (fun h1 => ?_)
      · have hM : (16 - 0) * 1 + 0 < (k : Int) := by omega
        exact ih.2 0 mh hImh hFmh ⟨by omega, by omega⟩ ⟨by omega, by omega⟩ hM
      · have w2 := zu_w32_id (z := a2 + 2) (by omega) (by omega)
        have w3 := zu_w32_id (z := (zu_w32 (a2 + 2)) + x3) (by omega) (by omega)
        have b4 : 0 ≤ x3 ∧ x3 < 8 := by omega
        refine zw_if b4 ?_
        have r5 : 0 ≤ (mh 217 x3) ∧ (mh 217 x3) ≤ 47 := zi_rd hImh zq_217 (zb_87 _)
        have b6 : 0 ≤ (zu_w32 ((zu_w32 (a2 + 2)) + x3)) ∧ (zu_w32 ((zu_w32 (a2 + 2)) + x3)) < 440 := by omega
        refine zw_if b6 ?_
        generalize hmm7 : zu_up mh a1 (zu_w32 ((zu_w32 (a2 + 2)) + x3)) (mh 217 x3) = m7
        have hIm7 := zi_up hmm7 hImh hc1 (zb_98 _) (by omega) (by omega)
        have hFm7 := zfr_up hmm7 hFmh hc1 rfl
        have w8 := zu_w32_id (z := x3 + 1) (by omega) (by omega)
        have hM : (4 - (zu_w32 (x3 + 1))) * 1 + 17 < (k : Int) := by omega
        exact ih.1 (zu_w32 (x3 + 1)) m7 hIm7 hFm7 ⟨by omega, by omega⟩ ⟨by omega, by omega⟩ hM
    · intro x3 mh hImh hFmh hba2 hbx3 hM
      refine zw_eq (zr_188_46 n a0 a1 a2 x3 mh) ?_
      refine zw_ite (fun h9 => ?_) (fun h9 => ?_)
      · exact zw_some ⟨hImh, hFmh, trivial⟩
      · have w10 := zu_w32_id (z := a2 + 6) (by omega) (by omega)
        have w11 := zu_w32_id (z := (zu_w32 (a2 + 6)) + x3) (by omega) (by omega)
        have b12 : 0 ≤ x3 ∧ x3 < 36 := by omega
        refine zw_if b12 ?_
        have r13 : 0 ≤ (mh 197 x3) ∧ (mh 197 x3) ≤ 47 := zi_rd hImh zq_197 (zb_67 _)
        have b14 : 0 ≤ x3 ∧ x3 < 36 := by omega
        refine zw_if b14 ?_
        have r15 : 0 ≤ (mh 198 x3) ∧ (mh 198 x3) ≤ 3 := zi_rd hImh zq_198 (zb_68 _)
        have b16 : 0 ≤ x3 ∧ x3 < 36 := by omega
        refine zw_if b16 ?_
        have r17 : 0 ≤ (mh 199 x3) ∧ (mh 199 x3) ≤ 9 := zi_rd hImh zq_199 (zb_69 _)
        have w18 := zu_w32_id (z := 4 * (mh 199 x3)) (by omega) (by omega)
        have w19 := zu_w32_id (z := (mh 198 x3) + (zu_w32 (4 * (mh 199 x3)))) (by omega) (by omega)
        have w20 := zu_w32_id (z := 48 * (zu_w32 ((mh 198 x3) + (zu_w32 (4 * (mh 199 x3)))))) (by omega) (by omega)
        have w21 := zu_w32_id (z := (mh 197 x3) + (zu_w32 (48 * (zu_w32 ((mh 198 x3) + (zu_w32 (4 * (mh 199 x3)))))))) (by omega) (by omega)
        have b22 : 0 ≤ (zu_w32 ((zu_w32 (a2 + 6)) + x3)) ∧ (zu_w32 ((zu_w32 (a2 + 6)) + x3)) < 440 := by omega
        refine zw_if b22 ?_
        generalize hmm23 : zu_up mh a1 (zu_w32 ((zu_w32 (a2 + 6)) + x3)) (zu_w32 ((mh 197 x3) + (zu_w32 (48 * (zu_w32 ((mh 198 x3) + (zu_w32 (4 * (mh 199 x3))))))))) = m23
        have hIm23 := zi_up hmm23 hImh hc1 (zb_98 _) (by omega) (by omega)
        have hFm23 := zfr_up hmm23 hFmh hc1 rfl
        have w24 := zu_w32_id (z := x3 + 1) (by omega) (by omega)
        have hM : (16 - (zu_w32 (x3 + 1))) * 1 + 0 < (k : Int) := by omega
        exact ih.2 (zu_w32 (x3 + 1)) m23 hIm23 hFm23 ⟨by omega, by omega⟩ ⟨by omega, by omega⟩ hM
set_option maxHeartbeats 4000000 in
theorem zk_188_15_98 (n : Nat) {a0 a1 a2 : Int} {m0 : zu_m} (hIm0 : zi_I m0) (hc0 : zcls a0 = 15) (hc1 : zcls a1 = 98) (ha2 : 0 ≤ a2 ∧ a2 ≤ 418) : zw (zu_call (zt_T n) 188 [(40, a0), (51, a1), (0, a2)] m0) (fun v m => zi_I m ∧ zfr [(98, 0)] m0 m ∧ True) := by
  have hFm0 : zfr [(98, 0)] m0 m0 := zfr_rf _ _
  refine zw_eq (zr_188_0 n a0 a1 a2 m0) ?_
  have b25 : 0 ≤ 0 ∧ 0 < 2 := by omega
  refine zw_if b25 ?_
  have r26 : 0 ≤ (m0 216 0) ∧ (m0 216 0) ≤ 16 := zi_rd hIm0 zq_216 zb_86_0
  have b27 : 0 ≤ a2 ∧ a2 < 440 := by omega
  refine zw_if b27 ?_
  generalize hmm28 : zu_up m0 a1 a2 (m0 216 0) = m28
  have hIm28 := zi_up hmm28 hIm0 hc1 (zb_98 _) (by omega) (by omega)
  have hFm28 := zfr_up hmm28 hFm0 hc1 rfl
  have w29 := zu_w32_id (z := a2 + 1) (by omega) (by omega)
  have r30 : (-2147483648) ≤ (m28 a0 62) ∧ (m28 a0 62) ≤ 2147483647 := zi_rd hIm28 hc0 zb_15_62
  have b31 : 0 ≤ (zu_w32 (a2 + 1)) ∧ (zu_w32 (a2 + 1)) < 440 := by omega
  refine zw_if b31 ?_
  generalize hmm32 : zu_up m28 a1 (zu_w32 (a2 + 1)) (m28 a0 62) = m32
  have hIm32 := zi_up hmm32 hIm28 hc1 (zb_98 _) (by omega) (by omega)
  have hFm32 := zfr_up hmm32 hFm28 hc1 rfl
  have hM : (4 - 0) * 1 + 17 < ((22 : Nat) : Int) := by omega
  exact (zl_188_15_98 n (m0 := m0) hc0 hc1 22).1 0 m32 hIm32 hFm32 ⟨by omega, by omega⟩ ⟨by omega, by omega⟩ hM
set_option maxHeartbeats 4000000 in
theorem zl_188_15_99 (n : Nat) {a0 a1 a2 : Int} {m0 : zu_m} (hc0 : zcls a0 = 15) (hc1 : zcls a1 = 99) : ∀ k : Nat, (∀ (x3 : Int) (mh : zu_m), zi_I mh → zfr [(99, 0)] m0 mh → (0 ≤ a2 ∧ a2 ≤ 0) → (0 ≤ x3 ∧ x3 ≤ 4) → (4 - x3) * 1 + 17 < (k : Int) → zw (zu_ex (zt_T n) 188 20 [(40, a0), (52, a1), (0, a2), (0, x3)] [] mh) (fun v m => zi_I m ∧ zfr [(99, 0)] m0 m ∧ True)) ∧ (∀ (x3 : Int) (mh : zu_m), zi_I mh → zfr [(99, 0)] m0 mh → (0 ≤ a2 ∧ a2 ≤ 0) → (0 ≤ x3 ∧ x3 ≤ 16) → (16 - x3) * 1 + 0 < (k : Int) → zw (zu_ex (zt_T n) 188 46 [(40, a0), (52, a1), (0, a2), (0, x3)] [] mh) (fun v m => zi_I m ∧ zfr [(99, 0)] m0 m ∧ True)) := by
  intro k
  induction k with
  | zero => exact ⟨fun x3 mh hImh hFmh hba2 hbx3 hM => by exfalso; omega, fun x3 mh hImh hFmh hba2 hbx3 hM => by exfalso; omega⟩
  | succ k ih =>
    refine ⟨?_, ?_⟩
    · intro x3 mh hImh hFmh hba2 hbx3 hM
      refine zw_eq (zr_188b_20 n a0 a1 a2 x3 mh) ?_
      refine zw_ite (fun h1 => ?_) (fun h1 => ?_)
      · have hM : (16 - 0) * 1 + 0 < (k : Int) := by omega
        exact ih.2 0 mh hImh hFmh ⟨by omega, by omega⟩ ⟨by omega, by omega⟩ hM
      · have w2 := zu_w32_id (z := a2 + 2) (by omega) (by omega)
        have w3 := zu_w32_id (z := (zu_w32 (a2 + 2)) + x3) (by omega) (by omega)
        have b4 : 0 ≤ x3 ∧ x3 < 8 := by omega
        refine zw_if b4 ?_
        have r5 : 0 ≤ (mh 217 x3) ∧ (mh 217 x3) ≤ 47 := zi_rd hImh zq_217 (zb_87 _)
        have b6 : 0 ≤ (zu_w32 ((zu_w32 (a2 + 2)) + x3)) ∧ (zu_w32 ((zu_w32 (a2 + 2)) + x3)) < 22 := by omega
        refine zw_if b6 ?_
        generalize hmm7 : zu_up mh a1 (zu_w32 ((zu_w32 (a2 + 2)) + x3)) (mh 217 x3) = m7
        have hIm7 := zi_up hmm7 hImh hc1 (zb_99 _) (by omega) (by omega)
        have hFm7 := zfr_up hmm7 hFmh hc1 rfl
        have w8 := zu_w32_id (z := x3 + 1) (by omega) (by omega)
        have hM : (4 - (zu_w32 (x3 + 1))) * 1 + 17 < (k : Int) := by omega
        exact ih.1 (zu_w32 (x3 + 1)) m7 hIm7 hFm7 ⟨by omega, by omega⟩ ⟨by omega, by omega⟩ hM
    · intro x3 mh hImh hFmh hba2 hbx3 hM
      refine zw_eq (zr_188b_46 n a0 a1 a2 x3 mh) ?_
      refine zw_ite (fun h9 => ?_) (fun h9 => ?_)
      · exact zw_some ⟨hImh, hFmh, trivial⟩
      · have w10 := zu_w32_id (z := a2 + 6) (by omega) (by omega)
        have w11 := zu_w32_id (z := (zu_w32 (a2 + 6)) + x3) (by omega) (by omega)
        have b12 : 0 ≤ x3 ∧ x3 < 36 := by omega
        refine zw_if b12 ?_
        have r13 : 0 ≤ (mh 197 x3) ∧ (mh 197 x3) ≤ 47 := zi_rd hImh zq_197 (zb_67 _)
        have b14 : 0 ≤ x3 ∧ x3 < 36 := by omega
        refine zw_if b14 ?_
        have r15 : 0 ≤ (mh 198 x3) ∧ (mh 198 x3) ≤ 3 := zi_rd hImh zq_198 (zb_68 _)
        have b16 : 0 ≤ x3 ∧ x3 < 36 := by omega
        refine zw_if b16 ?_
        have r17 : 0 ≤ (mh 199 x3) ∧ (mh 199 x3) ≤ 9 := zi_rd hImh zq_199 (zb_69 _)
        have w18 := zu_w32_id (z := 4 * (mh 199 x3)) (by omega) (by omega)
        have w19 := zu_w32_id (z := (mh 198 x3) + (zu_w32 (4 * (mh 199 x3)))) (by omega) (by omega)
        have w20 := zu_w32_id (z := 48 * (zu_w32 ((mh 198 x3) + (zu_w32 (4 * (mh 199 x3)))))) (by omega) (by omega)
        have w21 := zu_w32_id (z := (mh 197 x3) + (zu_w32 (48 * (zu_w32 ((mh 198 x3) + (zu_w32 (4 * (mh 199 x3)))))))) (by omega) (by omega)
        have b22 : 0 ≤ (zu_w32 ((zu_w32 (a2 + 6)) + x3)) ∧ (zu_w32 ((zu_w32 (a2 + 6)) + x3)) < 22 := by omega
        refine zw_if b22 ?_
        generalize hmm23 : zu_up mh a1 (zu_w32 ((zu_w32 (a2 + 6)) + x3)) (zu_w32 ((mh 197 x3) + (zu_w32 (48 * (zu_w32 ((mh 198 x3) + (zu_w32 (4 * (mh 199 x3))))))))) = m23
        have hIm23 := zi_up hmm23 hImh hc1 (zb_99 _) (by omega) (by omega)
        have hFm23 := zfr_up hmm23 hFmh hc1 rfl
        have w24 := zu_w32_id (z := x3 + 1) (by omega) (by omega)
        have hM : (16 - (zu_w32 (x3 + 1))) * 1 + 0 < (k : Int) := by omega
        exact ih.2 (zu_w32 (x3 + 1)) m23 hIm23 hFm23 ⟨by omega, by omega⟩ ⟨by omega, by omega⟩ hM
set_option maxHeartbeats 4000000 in
theorem zk_188_15_99 (n : Nat) {a0 a1 a2 : Int} {m0 : zu_m} (hIm0 : zi_I m0) (hc0 : zcls a0 = 15) (hc1 : zcls a1 = 99) (ha2 : 0 ≤ a2 ∧ a2 ≤ 0) : zw (zu_call (zt_T n) 188 [(40, a0), (52, a1), (0, a2)] m0) (fun v m => zi_I m ∧ zfr [(99, 0)] m0 m ∧ True) := by
  have hFm0 : zfr [(99, 0)] m0 m0 := zfr_rf _ _
  refine zw_eq (zr_188b_0 n a0 a1 a2 m0) ?_
  have b25 : 0 ≤ 0 ∧ 0 < 2 := by omega
  refine zw_if b25 ?_
  have r26 : 0 ≤ (m0 216 0) ∧ (m0 216 0) ≤ 16 := zi_rd hIm0 zq_216 zb_86_0
  have b27 : 0 ≤ a2 ∧ a2 < 22 := by omega
  refine zw_if b27 ?_
  generalize hmm28 : zu_up m0 a1 a2 (m0 216 0) = m28
  have hIm28 := zi_up hmm28 hIm0 hc1 (zb_99 _) (by omega) (by omega)
  have hFm28 := zfr_up hmm28 hFm0 hc1 rfl
  have w29 := zu_w32_id (z := a2 + 1) (by omega) (by omega)
  have r30 : (-2147483648) ≤ (m28 a0 62) ∧ (m28 a0 62) ≤ 2147483647 := zi_rd hIm28 hc0 zb_15_62
  have b31 : 0 ≤ (zu_w32 (a2 + 1)) ∧ (zu_w32 (a2 + 1)) < 22 := by omega
  refine zw_if b31 ?_
  generalize hmm32 : zu_up m28 a1 (zu_w32 (a2 + 1)) (m28 a0 62) = m32
  have hIm32 := zi_up hmm32 hIm28 hc1 (zb_99 _) (by omega) (by omega)
  have hFm32 := zfr_up hmm32 hFm28 hc1 rfl
  have hM : (4 - 0) * 1 + 17 < ((22 : Nat) : Int) := by omega
  exact (zl_188_15_99 n (m0 := m0) hc0 hc1 22).1 0 m32 hIm32 hFm32 ⟨by omega, by omega⟩ ⟨by omega, by omega⟩ hM
set_option maxHeartbeats 4000000 in
theorem zl_194 (n : Nat) {a0 a1 : Int} {m0 : zu_m} (hc0 : zcls a0 = 15) : ∀ k : Nat, (∀ (x2 x3 : Int) (mh : zu_m), zi_I mh → zfr [] m0 mh → ((-2147483648) ≤ a1 ∧ a1 ≤ (-1)) → ((-2147483648) ≤ x2 ∧ x2 ≤ 2147483647) → (0 ≤ x3 ∧ x3 ≤ 16) → (16 - x3) * 1 + 0 < (k : Int) → zw (zu_ex (zt_T n) 194 4 [(40, a0), (0, a1), (0, x2), (0, x3)] [] mh) (fun v m => zi_I m ∧ zfr [] m0 m ∧ (-2147483648) ≤ v ∧ v ≤ 2147483647)) := by
  intro k
  induction k with
  | zero => exact fun x2 x3 mh hImh hFmh hba1 hbx2 hbx3 hM => by exfalso; omega
  | succ k ih =>
    intro x2 x3 mh hImh hFmh hba1 hbx2 hbx3 hM
    refine zw_eq (zr_194_4 n a0 a1 x2 x3 mh) ?_
    have b1 : 0 ≤ 0 ∧ 0 < 2 := by omega
    refine zw_if b1 ?_
    have r2 : 0 ≤ (mh 216 0) ∧ (mh 216 0) ≤ 16 := zi_rd hImh zq_216 zb_86_0
    refine zw_ite (fun h3 => ?_) (fun h3 => ?_)
    · exact zw_some ⟨hImh, hFmh, by omega, by omega⟩
    · have b4 : 0 ≤ x3 ∧ x3 < 36 := by omega
      refine zw_if b4 ?_
      have r5 : (-3) ≤ (mh 215 x3) ∧ (mh 215 x3) ≤ 3 := zi_rd hImh zq_215 (zb_85 _)
      refine zw_ite (fun h6 => ?_) (fun h6 => ?_)
      · have w7 := zu_w32_id (z := x2 + 0) (by omega) (by omega)
        have w8 := zu_w32_id (z := x3 + 1) (by omega) (by omega)
        have hM : (16 - (zu_w32 (x3 + 1))) * 1 + 0 < (k : Int) := by omega
        exact ih (zu_w32 (x2 + 0)) (zu_w32 (x3 + 1)) mh hImh hFmh ⟨by omega, by omega⟩ ⟨by omega, by omega⟩ ⟨by omega, by omega⟩ hM
      · have w9 := zu_w32_rg (x2 + 1)
        have w10 := zu_w32_id (z := x3 + 1) (by omega) (by omega)
        have hM : (16 - (zu_w32 (x3 + 1))) * 1 + 0 < (k : Int) := by omega
        exact ih (zu_w32 (x2 + 1)) (zu_w32 (x3 + 1)) mh hImh hFmh ⟨by omega, by omega⟩ ⟨by omega, by omega⟩ ⟨by omega, by omega⟩ hM
set_option maxHeartbeats 4000000 in
theorem zk_194 (n : Nat) {a0 a1 : Int} {m0 : zu_m} (hIm0 : zi_I m0) (hc0 : zcls a0 = 15) (ha1 : (-2147483648) ≤ a1 ∧ a1 ≤ (-1)) : zw (zu_call (zt_T n) 194 [(40, a0), (0, a1)] m0) (fun v m => zi_I m ∧ zfr [] m0 m ∧ (-2147483648) ≤ v ∧ v ≤ 2147483647) := by
  have hFm0 : zfr [] m0 m0 := zfr_rf _ _
  refine zw_eq (zr_194_0 n a0 a1 m0) ?_
  have hM : (16 - 0) * 1 + 0 < ((17 : Nat) : Int) := by omega
  exact (zl_194 n (m0 := m0) hc0 17) 0 0 m0 hIm0 hFm0 ⟨by omega, by omega⟩ ⟨by omega, by omega⟩ ⟨by omega, by omega⟩ hM
set_option maxHeartbeats 4000000 in
theorem zk_196 (n : Nat) {a0 a1 : Int} {m0 : zu_m} (hIm0 : zi_I m0) (hc0 : zcls a0 = 8) (hc1 : zcls a1 = 8)  : zw (zu_call (zt_T n) 196 [(21, a0), (21, a1)] m0) (fun v m => zi_I m ∧ zfr [(8, 1), (8, 2), (8, 3), (8, 4), (8, 5), (8, 6), (8, 7), (8, 8)] m0 m ∧ True) := by
  have hFm0 : zfr [(8, 1), (8, 2), (8, 3), (8, 4), (8, 5), (8, 6), (8, 7), (8, 8)] m0 m0 := zfr_rf _ _
  refine zw_eq (zr_196_0 n a0 a1 m0) ?_
  have r1 : (-2147483648) ≤ (m0 a1 0) ∧ (m0 a1 0) ≤ 2147483647 := zi_rd hIm0 hc1 zb_8_0
  generalize hmm2 : zu_up m0 a0 0 (m0 a1 0) = m2
  have hIm2 := zi_up hmm2 hIm0 hc0 zb_8_0 (by omega) (by omega)
  have hFm2 := zfr_up hmm2 hFm0 hc0 rfl
  have r3 : 0 ≤ (m2 a1 1) ∧ (m2 a1 1) ≤ 47 := zi_rd hIm2 hc1 zb_8_1
  generalize hmm4 : zu_up m2 a0 1 (m2 a1 1) = m4
  have hIm4 := zi_up hmm4 hIm2 hc0 zb_8_1 (by omega) (by omega)
  have hFm4 := zfr_up hmm4 hFm2 hc0 rfl
  have r5 : 0 ≤ (m4 a1 2) ∧ (m4 a1 2) ≤ 15 := zi_rd hIm4 hc1 zb_8_2
  generalize hmm6 : zu_up m4 a0 2 (m4 a1 2) = m6
  have hIm6 := zi_up hmm6 hIm4 hc0 zb_8_2 (by omega) (by omega)
  have hFm6 := zfr_up hmm6 hFm4 hc0 rfl
  have r7 : 0 ≤ (m6 a1 3) ∧ (m6 a1 3) ≤ 3 := zi_rd hIm6 hc1 zb_8_3
  generalize hmm8 : zu_up m6 a0 3 (m6 a1 3) = m8
  have hIm8 := zi_up hmm8 hIm6 hc0 zb_8_3 (by omega) (by omega)
  have hFm8 := zfr_up hmm8 hFm6 hc0 rfl
  have r9 : (-2147483648) ≤ (m8 a1 4) ∧ (m8 a1 4) ≤ 2147483647 := zi_rd hIm8 hc1 zb_8_4
  generalize hmm10 : zu_up m8 a0 4 (m8 a1 4) = m10
  have hIm10 := zi_up hmm10 hIm8 hc0 zb_8_4 (by omega) (by omega)
  have hFm10 := zfr_up hmm10 hFm8 hc0 rfl
  have r11 : (-2147483648) ≤ (m10 a1 5) ∧ (m10 a1 5) ≤ 2147483647 := zi_rd hIm10 hc1 zb_8_5
  generalize hmm12 : zu_up m10 a0 5 (m10 a1 5) = m12
  have hIm12 := zi_up hmm12 hIm10 hc0 zb_8_5 (by omega) (by omega)
  have hFm12 := zfr_up hmm12 hFm10 hc0 rfl
  have r13 : (-2147483648) ≤ (m12 a1 6) ∧ (m12 a1 6) ≤ 2147483647 := zi_rd hIm12 hc1 zb_8_6
  generalize hmm14 : zu_up m12 a0 6 (m12 a1 6) = m14
  have hIm14 := zi_up hmm14 hIm12 hc0 zb_8_6 (by omega) (by omega)
  have hFm14 := zfr_up hmm14 hFm12 hc0 rfl
  have r15 : (-2147483648) ≤ (m14 a1 7) ∧ (m14 a1 7) ≤ 2147483647 := zi_rd hIm14 hc1 zb_8_7
  generalize hmm16 : zu_up m14 a0 7 (m14 a1 7) = m16
  have hIm16 := zi_up hmm16 hIm14 hc0 zb_8_7 (by omega) (by omega)
  have hFm16 := zfr_up hmm16 hFm14 hc0 rfl
  exact zw_some ⟨hIm16, hFm16, trivial⟩
set_option maxHeartbeats 4000000 in
theorem zk_197 (n : Nat) {a0 a1 : Int} {m0 : zu_m} (hIm0 : zi_I m0) (hc0 : zcls a0 = 7) (hc1 : zcls a1 = 7)  : zw (zu_call (zt_T n) 197 [(20, a0), (20, a1)] m0) (fun v m => zi_I m ∧ zfr [(7, 1), (7, 2), (7, 3), (7, 4)] m0 m ∧ True) := by
  have hFm0 : zfr [(7, 1), (7, 2), (7, 3), (7, 4)] m0 m0 := zfr_rf _ _
  refine zw_eq (zr_197_0 n a0 a1 m0) ?_
  have r1 : 0 ≤ (m0 a1 0) ∧ (m0 a1 0) ≤ 47 := zi_rd hIm0 hc1 zb_7_0
  generalize hmm2 : zu_up m0 a0 0 (m0 a1 0) = m2
  have hIm2 := zi_up hmm2 hIm0 hc0 zb_7_0 (by omega) (by omega)
  have hFm2 := zfr_up hmm2 hFm0 hc0 rfl
  have r3 : 0 ≤ (m2 a1 1) ∧ (m2 a1 1) ≤ 3 := zi_rd hIm2 hc1 zb_7_1
  generalize hmm4 : zu_up m2 a0 1 (m2 a1 1) = m4
  have hIm4 := zi_up hmm4 hIm2 hc0 zb_7_1 (by omega) (by omega)
  have hFm4 := zfr_up hmm4 hFm2 hc0 rfl
  have r5 : 0 ≤ (m4 a1 2) ∧ (m4 a1 2) ≤ 9 := zi_rd hIm4 hc1 zb_7_2
  generalize hmm6 : zu_up m4 a0 2 (m4 a1 2) = m6
  have hIm6 := zi_up hmm6 hIm4 hc0 zb_7_2 (by omega) (by omega)
  have hFm6 := zfr_up hmm6 hFm4 hc0 rfl
  have r7 : (-3) ≤ (m6 a1 3) ∧ (m6 a1 3) ≤ 3 := zi_rd hIm6 hc1 zb_7_3
  generalize hmm8 : zu_up m6 a0 3 (m6 a1 3) = m8
  have hIm8 := zi_up hmm8 hIm6 hc0 zb_7_3 (by omega) (by omega)
  have hFm8 := zfr_up hmm8 hFm6 hc0 rfl
  exact zw_some ⟨hIm8, hFm8, trivial⟩
set_option maxHeartbeats 4000000 in
theorem zk_207 (n : Nat) {a0 a1 a2 : Int} {m0 : zu_m} (hIm0 : zi_I m0) (hc0 : zcls a0 = 5) (ha1 : 0 ≤ a1 ∧ a1 ≤ 17) (ha2 : (-2147483648) ≤ a2 ∧ a2 ≤ 9999) : zw (zu_call (zt_T n) 207 [(10, a0), (0, a1), (0, a2)] m0) (fun v m => zi_I m ∧ zfr [(5, 7), (20, 0), (21, 0)] m0 m ∧ True) := by
  have hFm0 : zfr [(5, 7), (20, 0), (21, 0)] m0 m0 := zfr_rf _ _
  refine zw_eq (zr_207_0 n a0 a1 a2 m0) ?_
  have r1 : 0 ≤ (m0 a0 6) ∧ (m0 a0 6) ≤ 64 := zi_rd hIm0 hc0 zb_5_6
  refine zw_ite (fun h2 => ?_) (fun h2 => ?_)
  · exact zw_some ⟨hIm0, hFm0, trivial⟩
  · have b3 : 0 ≤ (m0 a0 6) ∧ (m0 a0 6) < 64 := by omega
    refine zw_if b3 ?_
    generalize hmm4 : zu_up m0 (a0 + 1) (m0 a0 6) a1 = m4
    have hIm4 := zi_up hmm4 hIm0 (zc_5_0 hc0) (zb_20 _) (by omega) (by omega)
    have hFm4 := zfr_up hmm4 hFm0 (zc_5_0 hc0) rfl
    have r5 : 0 ≤ (m4 a0 6) ∧ (m4 a0 6) ≤ 64 := zi_rd hIm4 hc0 zb_5_6
    have e6 : (m4 a0 6) = (m0 a0 6) := (zs_ne hmm4 (Or.inl (zc_ne hc0 (zc_5_0 hc0) (by decide))))
    have b7 : 0 ≤ (m4 a0 6) ∧ (m4 a0 6) < 64 := by omega
    refine zw_if b7 ?_
    generalize hmm8 : zu_up m4 (a0 + 2) (m4 a0 6) a2 = m8
    have hIm8 := zi_up hmm8 hIm4 (zc_5_1 hc0) (zb_21 _) (by omega) (by omega)
    have hFm8 := zfr_up hmm8 hFm4 (zc_5_1 hc0) rfl
    have r9 : 0 ≤ (m8 a0 6) ∧ (m8 a0 6) ≤ 64 := zi_rd hIm8 hc0 zb_5_6
    have e10 : (m8 a0 6) = (m4 a0 6) := (zs_ne hmm8 (Or.inl (zc_ne hc0 (zc_5_1 hc0) (by decide))))
    have w11 := zu_w32_id (z := (m8 a0 6) + 1) (by omega) (by omega)
    generalize hmm12 : zu_up m8 a0 6 (zu_w32 ((m8 a0 6) + 1)) = m12
    have hIm12 := zi_up hmm12 hIm8 hc0 zb_5_6 (by omega) (by omega)
    have hFm12 := zfr_up hmm12 hFm8 hc0 rfl
    exact zw_some ⟨hIm12, hFm12, trivial⟩
set_option maxHeartbeats 4000000 in
theorem zk_208 (n : Nat) {a0 a1 a2 : Int} {m0 : zu_m} (hIm0 : zi_I m0)  (ha0 : 0 ≤ a0 ∧ a0 ≤ 6) (ha1 : (-1000000000000) ≤ a1 ∧ a1 ≤ 1000000000000) (ha2 : (-1000000000000) ≤ a2 ∧ a2 ≤ 1000000000000) : zw (zu_call (zt_T n) 208 [(0, a0), (1, a1), (1, a2)] m0) (fun v m => zi_I m ∧ zfr [] m0 m ∧ (-9223372036854775808) ≤ v ∧ v ≤ 9223372036854775807) := by
  have hFm0 : zfr [] m0 m0 := zfr_rf _ _
  refine zw_eq (zr_208_0 n a0 a1 a2 m0) ?_
  refine zw_ite (fun h1 => ?_) (fun h1 => ?_)
  · have w2 := zu_w64_id (z := a1 + a2) (by omega) (by omega)
    exact zw_some ⟨hIm0, hFm0, by omega, by omega⟩
  · refine zw_ite (fun h3 => ?_) (fun h3 => ?_)
    · have w4 := zu_w64_id (z := a1 - a2) (by omega) (by omega)
      exact zw_some ⟨hIm0, hFm0, by omega, by omega⟩
    · refine zw_ite (fun h5 => ?_) (fun h5 => ?_)
      · have c6 := zu_lcmp_sp a1 0
        refine zw_ite (fun h7 => ?_) (fun h7 => ?_)
        · exact zw_some ⟨hIm0, hFm0, by omega, by omega⟩
        · have c8 := zu_lcmp_sp a2 0
          refine zw_ite (fun h9 => ?_) (fun h9 => ?_)
          · have c10 := zu_lcmp_sp a2 0
            refine zw_ite (fun h11 => ?_) (fun h11 => ?_)
            · have c12 := zu_lcmp_sp a1 0
              refine zw_ite (fun h13 => ?_) (fun h13 => ?_)
              · refine zw_nif (by omega) ?_
                have w14 := zu_w64_rg (Int.tdiv 1000000000000 a1)
                have c15 := zu_lcmp_sp a2 (zu_w64 (Int.tdiv 1000000000000 a1))
                refine zw_ite (fun h16 => ?_) (fun h16 => ?_)
                · have w17 := zu_w64_rg (a1 * a2)
                  exact zw_some ⟨hIm0, hFm0, by omega, by omega⟩
                · exact zw_some ⟨hIm0, hFm0, by omega, by omega⟩
              · have w18 := zu_w64_id (z := -a1) (by omega) (by omega)
                refine zw_nif (by omega) ?_
                have d19 := ztdiv_bd (x := 1000000000000) (y := (zu_w64 (-a1))) (by omega) (by omega)
                have w20 := zu_w64_id (z := Int.tdiv 1000000000000 (zu_w64 (-a1))) (by omega) (by omega)
                have c21 := zu_lcmp_sp a2 (zu_w64 (Int.tdiv 1000000000000 (zu_w64 (-a1))))
                refine zw_ite (fun h22 => ?_) (fun h22 => ?_)
                · have w23 := zu_w64_rg (a1 * a2)
                  exact zw_some ⟨hIm0, hFm0, by omega, by omega⟩
                · exact zw_some ⟨hIm0, hFm0, by omega, by omega⟩
            · have w24 := zu_w64_id (z := -a2) (by omega) (by omega)
              have c25 := zu_lcmp_sp a1 0
              refine zw_ite (fun h26 => ?_) (fun h26 => ?_)
              · refine zw_nif (by omega) ?_
                have w27 := zu_w64_rg (Int.tdiv 1000000000000 a1)
                have c28 := zu_lcmp_sp (zu_w64 (-a2)) (zu_w64 (Int.tdiv 1000000000000 a1))
                refine zw_ite (fun h29 => ?_) (fun h29 => ?_)
                · have w30 := zu_w64_rg (a1 * a2)
                  exact zw_some ⟨hIm0, hFm0, by omega, by omega⟩
                · exact zw_some ⟨hIm0, hFm0, by omega, by omega⟩
              · have w31 := zu_w64_id (z := -a1) (by omega) (by omega)
                refine zw_nif (by omega) ?_
                have d32 := ztdiv_bd (x := 1000000000000) (y := (zu_w64 (-a1))) (by omega) (by omega)
                have w33 := zu_w64_id (z := Int.tdiv 1000000000000 (zu_w64 (-a1))) (by omega) (by omega)
                have c34 := zu_lcmp_sp (zu_w64 (-a2)) (zu_w64 (Int.tdiv 1000000000000 (zu_w64 (-a1))))
                refine zw_ite (fun h35 => ?_) (fun h35 => ?_)
                · have w36 := zu_w64_rg (a1 * a2)
                  exact zw_some ⟨hIm0, hFm0, by omega, by omega⟩
                · exact zw_some ⟨hIm0, hFm0, by omega, by omega⟩
          · exact zw_some ⟨hIm0, hFm0, by omega, by omega⟩
      · have c37 := zu_lcmp_sp a2 0
        refine zw_ite (fun h38 => ?_) (fun h38 => ?_)
        · refine zw_nif (by omega) ?_
          have w39 := zu_w64_rg (Int.tdiv a1 a2)
          exact zw_some ⟨hIm0, hFm0, by omega, by omega⟩
        · exact zw_some ⟨hIm0, hFm0, by omega, by omega⟩

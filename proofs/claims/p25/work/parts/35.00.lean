set_option maxHeartbeats 4000000 in
theorem zl_14 (n : Nat) {a0 : Int} {m0 : zu_m} (hc0 : zcls a0 = 5)   : ∀ k : Nat, (∀ (x1 : Int) (mh : zu_m), zi_I mh → zfr [(5, 6), (5, 7), (35, 0), (36, 0)] m0 mh → (0 ≤ x1 ∧ x1 ≤ 4) → (0 ≤ mh a0 5 ∧ mh a0 5 ≤ 0) → (0 ≤ mh a0 6 ∧ mh a0 6 ≤ 0) → (4 - x1) * 1 + 0 < (k : Int) → zw (zu_ex (zt_T n) 14 12 [(10, a0), (0, x1)] [] mh) (fun v m => zi_I m ∧ zfr [(5, 6), (5, 7), (35, 0), (36, 0)] m0 m ∧ True ∧ (0 ≤ m a0 5 ∧ m a0 5 ≤ 0) ∧ (0 ≤ m a0 6 ∧ m a0 6 ≤ 0))) := by
  intro k
  induction k with
  | zero => exact fun x1 mh hImh hFmh hbx1 hg1 hg2 hM => by exfalso; omega
  | succ k ih =>
    intro x1 mh hImh hFmh hbx1 hg1 hg2 hM
    refine zw_eq (zu_rega_at (zt_T n) (zm_14 n) (zdp_14 n) _ _ _ _ _ _ (zr_14_12 n _ _ a0 x1 mh)) ?_
    refine zw_ite (fun h1 => ?_) (fun h1 => ?_)
    · exact zw_some ⟨hImh, hFmh, trivial, ⟨by omega, by omega⟩, ⟨by omega, by omega⟩⟩
    · have b2 : 0 ≤ x1 ∧ x1 < 4 := by omega
      refine zw_if b2 ?_
      generalize hmm3 : zu_up mh (a0 + 3) x1 (-1) = m3
      have hIm3 := zi_up hmm3 hImh (zc_5_2 hc0) (zb_35 _) (by omega) (by omega)
      have hFm3 := zfr_up hmm3 hFmh (zc_5_2 hc0) rfl
      have b4 : 0 ≤ x1 ∧ x1 < 4 := by omega
      refine zw_if b4 ?_
      generalize hmm5 : zu_up m3 (a0 + 4) x1 (-1) = m5
      have hIm5 := zi_up hmm5 hIm3 (zc_5_3 hc0) (zb_36 _) (by omega) (by omega)
      have hFm5 := zfr_up hmm5 hFm3 (zc_5_3 hc0) rfl
      have w6 := zu_w32_id (z := x1 + 1) (by omega) (by omega)
      have r7 : 0 ≤ (m5 a0 5) ∧ (m5 a0 5) ≤ 64 := zi_rd hIm5 hc0 zb_5_5
      have e8 : (m5 a0 5) = (mh a0 5) := (Eq.trans (zs_ne hmm5 (Or.inl (zc_ne hc0 (zc_5_3 hc0) (by decide)))) (zs_ne hmm3 (Or.inl (zc_ne hc0 (zc_5_2 hc0) (by decide)))))
      have r9 : 0 ≤ (m5 a0 6) ∧ (m5 a0 6) ≤ 64 := zi_rd hIm5 hc0 zb_5_6
      have e10 : (m5 a0 6) = (mh a0 6) := (Eq.trans (zs_ne hmm5 (Or.inl (zc_ne hc0 (zc_5_3 hc0) (by decide)))) (zs_ne hmm3 (Or.inl (zc_ne hc0 (zc_5_2 hc0) (by decide)))))
      have hM : (4 - (zu_w32 (x1 + 1))) * 1 + 0 < (k : Int) := by omega
      exact ih (zu_w32 (x1 + 1)) m5 hIm5 hFm5 ⟨by omega, by omega⟩ ⟨by omega, by omega⟩ ⟨by omega, by omega⟩ hM
set_option maxHeartbeats 4000000 in
theorem zk_14 (n : Nat) {a0 : Int} {m0 : zu_m} (hIm0 : zi_I m0) (hc0 : zcls a0 = 5)      : zw (zu_call (zt_T n) 14 [(10, a0)] m0) (fun v m => zi_I m ∧ zfr [(5, 6), (5, 7), (35, 0), (36, 0)] m0 m ∧ True ∧ (0 ≤ m a0 5 ∧ m a0 5 ≤ 0) ∧ (0 ≤ m a0 6 ∧ m a0 6 ≤ 0)) := by
  have hFm0 : zfr [(5, 6), (5, 7), (35, 0), (36, 0)] m0 m0 := zfr_rf _ _
  refine zw_eq (zu_call_at (zt_T n) (zm_14 n) (zdp_14 n) _ _ _ _ _ rfl (zr_14_0 n _ _ a0 m0)) ?_
  generalize hmm11 : zu_up m0 a0 5 0 = m11
  have hIm11 := zi_up hmm11 hIm0 hc0 zb_5_5 (by omega) (by omega)
  have hFm11 := zfr_up hmm11 hFm0 hc0 rfl
  generalize hmm12 : zu_up m11 a0 6 0 = m12
  have hIm12 := zi_up hmm12 hIm11 hc0 zb_5_6 (by omega) (by omega)
  have hFm12 := zfr_up hmm12 hFm11 hc0 rfl
  have r13 : 0 ≤ (m12 a0 5) ∧ (m12 a0 5) ≤ 64 := zi_rd hIm12 hc0 zb_5_5
  have e14 : (m12 a0 5) = 0 := (Eq.trans (zs_ne hmm12 (Or.inr (by decide))) (zs_eq hmm11))
  have r15 : 0 ≤ (m12 a0 6) ∧ (m12 a0 6) ≤ 64 := zi_rd hIm12 hc0 zb_5_6
  have e16 : (m12 a0 6) = 0 := (zs_eq hmm12)
  have hM : (4 - 0) * 1 + 0 < ((5 : Nat) : Int) := by omega
  exact (zl_14 n (m0 := m0) hc0 5) 0 m12 hIm12 hFm12 ⟨by omega, by omega⟩ ⟨by omega, by omega⟩ ⟨by omega, by omega⟩ hM
set_option maxHeartbeats 4000000 in
theorem zl_15_11 (n : Nat) {a0 a1 a2 : Int} {m0 : zu_m} (hc0 : zcls a0 = 11)   : ∀ k : Nat, (∀ (x3 x4 : Int) (mh : zu_m), zi_I mh → zfr [(11, 1), (11, 2), (11, 3), (49, 0), (50, 0)] m0 mh → (1 ≤ a1 ∧ a1 ≤ 8) → (1 ≤ a2 ∧ a2 ≤ 6) → (0 ≤ x3 ∧ x3 ≤ 48) → (0 ≤ x4 ∧ x4 ≤ 6) → ((mh a0 0) = a1) → ((mh a0 1) = a2) → ((mh a0 2) = a1 * a2) → (x4 ≤ a2) → (x3 = x4 * a1) → (zshp mh a0 a1 a2 x3) → (6 - x4) * 50 + 49 < (k : Int) → zw (zu_ex (zt_T n) 15 28 [(8, a0), (0, a1), (0, a2), (0, x3), (0, x4), (2, 0)] [] mh) (fun v m => zi_I m ∧ zfr [(11, 1), (11, 2), (11, 3), (49, 0), (50, 0)] m0 m ∧ zgeo m 50 ∧ True ∧ ((m a0 0) = a1) ∧ ((m a0 1) = a2) ∧ ((m a0 2) = a1 * a2))) ∧ (∀ (x3 x4 x5 : Int) (mh : zu_m), zi_I mh → zfr [(11, 1), (11, 2), (11, 3), (49, 0), (50, 0)] m0 mh → (1 ≤ a1 ∧ a1 ≤ 8) → (1 ≤ a2 ∧ a2 ≤ 6) → (0 ≤ x3 ∧ x3 ≤ 48) → (0 ≤ x4 ∧ x4 ≤ 5) → (0 ≤ x5 ∧ x5 ≤ 8) → ((mh a0 0) = a1) → ((mh a0 1) = a2) → ((mh a0 2) = a1 * a2) → (x4 < a2) → (x5 ≤ a1) → (x3 = x4 * a1 + x5) → (zshp mh a0 a1 a2 x3) → (48 - x3) * 1 + (6 - x4) * 50 + 0 < (k : Int) → zw (zu_ex (zt_T n) 15 40 [(8, a0), (0, a1), (0, a2), (0, x3), (0, x4), (0, x5)] [] mh) (fun v m => zi_I m ∧ zfr [(11, 1), (11, 2), (11, 3), (49, 0), (50, 0)] m0 m ∧ zgeo m 50 ∧ True ∧ ((m a0 0) = a1) ∧ ((m a0 1) = a2) ∧ ((m a0 2) = a1 * a2))) := by
  intro k
  induction k with
  | zero => exact ⟨fun x3 x4 mh hImh hFmh hba1 hba2 hbx3 hbx4 hH0 hH1 hH2 hH3 hH4 hH5 hM => by exfalso; omega, fun x3 x4 x5 mh hImh hFmh hba1 hba2 hbx3 hbx4 hbx5 hH0 hH1 hH2 hH3 hH4 hH5 hH6 hM => by exfalso; omega⟩
  | succ k ih =>
    refine ⟨?_, ?_⟩
    · intro x3 x4 mh hImh hFmh hba1 hba2 hbx3 hbx4 hH0 hH1 hH2 hH3 hH4 hH5 hM
      refine zw_eq (zu_rega_at (zt_T n) (zm_15 n) (zdp_15 n) _ _ _ _ _ _ (zr_15_28 n _ _ a0 a1 a2 x3 x4 mh)) ?_
      have r1 : 1 ≤ (mh a0 0) ∧ (mh a0 0) ≤ 8 := zi_rd hImh hc0 zb_11_0
      have r2 : 1 ≤ (mh a0 1) ∧ (mh a0 1) ≤ 6 := zi_rd hImh hc0 zb_11_1
      have r3 : 1 ≤ (mh a0 2) ∧ (mh a0 2) ≤ 48 := zi_rd hImh hc0 zb_11_2
      refine zw_ite (fun h4 => ?_) (fun h4 => ?_)
      · have hz := zgeo_of hH0 hH1 hH2 hH4 (by omega) hH5
        have hRG5mh : zgeo mh 50 := zone_50 hc0 ▸ hz
        exact zw_some ⟨hImh, hFmh, hRG5mh, trivial, by omega, by omega, by omega⟩
      · have hM : (48 - x3) * 1 + (6 - x4) * 50 + 0 < (k : Int) := by omega
        exact ih.2 x3 x4 0 mh hImh hFmh ⟨by omega, by omega⟩ ⟨by omega, by omega⟩ ⟨by omega, by omega⟩ ⟨by omega, by omega⟩ ⟨by omega, by omega⟩ (by omega) (by omega) (by omega) (by omega) (by omega) (by omega) hH5 hM
    · intro x3 x4 x5 mh hImh hFmh hba1 hba2 hbx3 hbx4 hbx5 hH0 hH1 hH2 hH3 hH4 hH5 hH6 hM
      refine zw_eq (zu_rega_at (zt_T n) (zm_15 n) (zdp_15 n) _ _ _ _ _ _ (zr_15_40 n _ _ a0 a1 a2 x3 x4 x5 mh)) ?_
      have r5 : 1 ≤ (mh a0 0) ∧ (mh a0 0) ≤ 8 := zi_rd hImh hc0 zb_11_0
      have r6 : 1 ≤ (mh a0 1) ∧ (mh a0 1) ≤ 6 := zi_rd hImh hc0 zb_11_1
      have r7 : 1 ≤ (mh a0 2) ∧ (mh a0 2) ≤ 48 := zi_rd hImh hc0 zb_11_2
      refine zw_ite (fun h8 => ?_) (fun h8 => ?_)
      · have s9 := zshp_5 (y := x4) (W := a1) (by omega) (by omega) (by omega)
        have w10 := zu_w32_id (z := x4 + 1) (by omega) (by omega)
        have hM : (6 - (zu_w32 (x4 + 1))) * 50 + 49 < (k : Int) := by omega
        exact zw_le (zu_forget (zu_lr_same (zu_lr_same (zu_lr_same (zu_lr_same (zu_lr_same (zu_lr_drop zu_lr_nil))))))) (ih.1 x3 (zu_w32 (x4 + 1)) mh hImh hFmh ⟨by omega, by omega⟩ ⟨by omega, by omega⟩ ⟨by omega, by omega⟩ ⟨by omega, by omega⟩ (by omega) (by omega) (by omega) (by omega) (zshp_y hH5 (by omega) (by omega)) hH6 hM)
      · refine zw_ite (fun h11 => ?_) (fun h11 => ?_)
        · have s12 := zshp_5 (y := x4) (W := a1) (by omega) (by omega) (by omega)
          have w13 := zu_w32_id (z := x4 + 1) (by omega) (by omega)
          have hM : (6 - (zu_w32 (x4 + 1))) * 50 + 49 < (k : Int) := by omega
          exact zw_le (zu_forget (zu_lr_same (zu_lr_same (zu_lr_same (zu_lr_same (zu_lr_same (zu_lr_drop zu_lr_nil))))))) (ih.1 x3 (zu_w32 (x4 + 1)) mh hImh hFmh ⟨by omega, by omega⟩ ⟨by omega, by omega⟩ ⟨by omega, by omega⟩ ⟨by omega, by omega⟩ (by omega) (by omega) (by omega) (by omega) (zshp_y hH5 (by omega) (by omega)) hH6 hM)
        · have b14 : 0 ≤ x3 ∧ x3 < 48 := by omega
          refine zw_if b14 ?_
          generalize hmm15 : zu_up mh (a0 + 1) x3 x5 = m15
          have hIm15 := zi_up hmm15 hImh (zc_11_6 hc0) (zb_49 _) (by omega) (by omega)
          have hFm15 := zfr_up hmm15 hFmh (zc_11_6 hc0) rfl
          have b16 : 0 ≤ x3 ∧ x3 < 48 := by omega
          refine zw_if b16 ?_
          generalize hmm17 : zu_up m15 (a0 + 2) x3 x4 = m17
          have hIm17 := zi_up hmm17 hIm15 (zc_11_7 hc0) (zb_50 _) (by omega) (by omega)
          have hFm17 := zfr_up hmm17 hFm15 (zc_11_7 hc0) rfl
          have w18 := zu_w32_id (z := x3 + 1) (by omega) (by omega)
          have w19 := zu_w32_id (z := x5 + 1) (by omega) (by omega)
          have r20 : 1 ≤ (m17 a0 0) ∧ (m17 a0 0) ≤ 8 := zi_rd hIm17 hc0 zb_11_0
          have e21 : (m17 a0 0) = (mh a0 0) := (Eq.trans (zs_ne hmm17 (Or.inl (zc_ne hc0 (zc_11_7 hc0) (by decide)))) (zs_ne hmm15 (Or.inl (zc_ne hc0 (zc_11_6 hc0) (by decide)))))
          have r22 : 1 ≤ (m17 a0 1) ∧ (m17 a0 1) ≤ 6 := zi_rd hIm17 hc0 zb_11_1
          have e23 : (m17 a0 1) = (mh a0 1) := (Eq.trans (zs_ne hmm17 (Or.inl (zc_ne hc0 (zc_11_7 hc0) (by decide)))) (zs_ne hmm15 (Or.inl (zc_ne hc0 (zc_11_6 hc0) (by decide)))))
          have r24 : 1 ≤ (m17 a0 2) ∧ (m17 a0 2) ≤ 48 := zi_rd hIm17 hc0 zb_11_2
          have e25 : (m17 a0 2) = (mh a0 2) := (Eq.trans (zs_ne hmm17 (Or.inl (zc_ne hc0 (zc_11_7 hc0) (by decide)))) (zs_ne hmm15 (Or.inl (zc_ne hc0 (zc_11_6 hc0) (by decide)))))
          have hM : (48 - (zu_w32 (x3 + 1))) * 1 + (6 - x4) * 50 + 0 < (k : Int) := by omega
          exact ih.2 (zu_w32 (x3 + 1)) x4 (zu_w32 (x5 + 1)) m17 hIm17 hFm17 ⟨by omega, by omega⟩ ⟨by omega, by omega⟩ ⟨by omega, by omega⟩ ⟨by omega, by omega⟩ ⟨by omega, by omega⟩ (by omega) (by omega) (by omega) (by omega) (by omega) (by omega) (zshp_s hmm15 hmm17 rfl hH5 (by omega) (by omega) (by omega) (by omega) hH6 (by omega)) hM
set_option maxHeartbeats 4000000 in
theorem zk_15_11 (n : Nat) {a0 a1 a2 : Int} {m0 : zu_m} (hIm0 : zi_I m0) (hc0 : zcls a0 = 11) (ha1 : 1 ≤ a1 ∧ a1 ≤ 8) (ha2 : 1 ≤ a2 ∧ a2 ≤ 6)     : zw (zu_call (zt_T n) 15 [(8, a0), (0, a1), (0, a2)] m0) (fun v m => zi_I m ∧ zfr [(11, 1), (11, 2), (11, 3), (49, 0), (50, 0)] m0 m ∧ zgeo m 50 ∧ True ∧ ((m a0 0) = a1) ∧ ((m a0 1) = a2) ∧ ((m a0 2) = a1 * a2)) := by
  have hFm0 : zfr [(11, 1), (11, 2), (11, 3), (49, 0), (50, 0)] m0 m0 := zfr_rf _ _
  refine zw_eq (zu_call_at (zt_T n) (zm_15 n) (zdp_15 n) _ _ _ _ _ rfl (zr_15_0 n _ _ a0 a1 a2 m0)) ?_
  generalize hmm26 : zu_up m0 a0 0 a1 = m26
  have hIm26 := zi_up hmm26 hIm0 hc0 zb_11_0 (by omega) (by omega)
  have hFm26 := zfr_up hmm26 hFm0 hc0 rfl
  generalize hmm27 : zu_up m26 a0 1 a2 = m27
  have hIm27 := zi_up hmm27 hIm26 hc0 zb_11_1 (by omega) (by omega)
  have hFm27 := zfr_up hmm27 hFm26 hc0 rfl
  have r28 : 1 ≤ (m27 a0 0) ∧ (m27 a0 0) ≤ 8 := zi_rd hIm27 hc0 zb_11_0
  have e29 : (m27 a0 0) = a1 := (Eq.trans (zs_ne hmm27 (Or.inr (by decide))) (zs_eq hmm26))
  have r30 : 1 ≤ (m27 a0 1) ∧ (m27 a0 1) ≤ 6 := zi_rd hIm27 hc0 zb_11_1
  have e31 : (m27 a0 1) = a2 := (zs_eq hmm27)
  have p32 := zmul_bd (x := (m27 a0 0)) (y := (m27 a0 1)) (a := 1) (b := 1) (A := 8) (B := 6) (by omega) (by omega) (by omega) (by omega) (by omega) (by omega)
  have w33 := zu_w32_id (z := (m27 a0 0) * (m27 a0 1)) (by omega) (by omega)
  have s34 := zshp_c (x := (m27 a0 0)) (y := (m27 a0 1)) (a := a1) (b := a2) (by omega) (by omega) (by omega) (by omega) (by omega) (by omega)
  generalize hmm35 : zu_up m27 a0 2 (zu_w32 ((m27 a0 0) * (m27 a0 1))) = m35
  have hIm35 := zi_up hmm35 hIm27 hc0 zb_11_2 (by omega) (by omega)
  have hFm35 := zfr_up hmm35 hFm27 hc0 rfl
  have r36 : 1 ≤ (m35 a0 0) ∧ (m35 a0 0) ≤ 8 := zi_rd hIm35 hc0 zb_11_0
  have e37 : (m35 a0 0) = (m27 a0 0) := (zs_ne hmm35 (Or.inr (by decide)))
  have r38 : 1 ≤ (m35 a0 1) ∧ (m35 a0 1) ≤ 6 := zi_rd hIm35 hc0 zb_11_1
  have e39 : (m35 a0 1) = (m27 a0 1) := (zs_ne hmm35 (Or.inr (by decide)))
  have r40 : 1 ≤ (m35 a0 2) ∧ (m35 a0 2) ≤ 48 := zi_rd hIm35 hc0 zb_11_2
  have e41 : (m35 a0 2) = (zu_w32 ((m27 a0 0) * (m27 a0 1))) := (zs_eq hmm35)
  have hM : (6 - 0) * 50 + 49 < ((350 : Nat) : Int) := by omega
  exact (zl_15_11 n (m0 := m0) hc0 350).1 0 0 m35 hIm35 hFm35 ⟨by omega, by omega⟩ ⟨by omega, by omega⟩ ⟨by omega, by omega⟩ ⟨by omega, by omega⟩ (by omega) (by omega) (by omega) (by omega) (by omega) (zshp_0 _ _ _ _) hM
set_option maxHeartbeats 4000000 in
theorem zl_15_4 (n : Nat) {a0 a1 a2 : Int} {m0 : zu_m} (hc0 : zcls a0 = 4)   : ∀ k : Nat, (∀ (x3 x4 : Int) (mh : zu_m), zi_I mh → zfr [(4, 1), (4, 2), (4, 3), (30, 0), (31, 0)] m0 mh → (1 ≤ a1 ∧ a1 ≤ 8) → (1 ≤ a2 ∧ a2 ≤ 6) → (0 ≤ x3 ∧ x3 ≤ 48) → (0 ≤ x4 ∧ x4 ≤ 6) → ((mh a0 0) = a1) → ((mh a0 1) = a2) → ((mh a0 2) = a1 * a2) → (x4 ≤ a2) → (x3 = x4 * a1) → (zshp mh a0 a1 a2 x3) → (6 - x4) * 50 + 49 < (k : Int) → zw (zu_ex (zt_T n) 15 28 [(8, a0), (0, a1), (0, a2), (0, x3), (0, x4), (2, 0)] [] mh) (fun v m => zi_I m ∧ zfr [(4, 1), (4, 2), (4, 3), (30, 0), (31, 0)] m0 m ∧ (m 6 2 = m 6 0 * m 6 1) ∧ True ∧ ((m a0 0) = a1) ∧ ((m a0 1) = a2) ∧ ((m a0 2) = a1 * a2))) ∧ (∀ (x3 x4 x5 : Int) (mh : zu_m), zi_I mh → zfr [(4, 1), (4, 2), (4, 3), (30, 0), (31, 0)] m0 mh → (1 ≤ a1 ∧ a1 ≤ 8) → (1 ≤ a2 ∧ a2 ≤ 6) → (0 ≤ x3 ∧ x3 ≤ 48) → (0 ≤ x4 ∧ x4 ≤ 5) → (0 ≤ x5 ∧ x5 ≤ 8) → ((mh a0 0) = a1) → ((mh a0 1) = a2) → ((mh a0 2) = a1 * a2) → (x4 < a2) → (x5 ≤ a1) → (x3 = x4 * a1 + x5) → (zshp mh a0 a1 a2 x3) → (48 - x3) * 1 + (6 - x4) * 50 + 0 < (k : Int) → zw (zu_ex (zt_T n) 15 40 [(8, a0), (0, a1), (0, a2), (0, x3), (0, x4), (0, x5)] [] mh) (fun v m => zi_I m ∧ zfr [(4, 1), (4, 2), (4, 3), (30, 0), (31, 0)] m0 m ∧ (m 6 2 = m 6 0 * m 6 1) ∧ True ∧ ((m a0 0) = a1) ∧ ((m a0 1) = a2) ∧ ((m a0 2) = a1 * a2))) := by
  intro k
  induction k with
  | zero => exact ⟨fun x3 x4 mh hImh hFmh hba1 hba2 hbx3 hbx4 hH0 hH1 hH2 hH3 hH4 hH5 hM => by exfalso; omega, fun x3 x4 x5 mh hImh hFmh hba1 hba2 hbx3 hbx4 hbx5 hH0 hH1 hH2 hH3 hH4 hH5 hH6 hM => by exfalso; omega⟩
  | succ k ih =>
    refine ⟨?_, ?_⟩
    · intro x3 x4 mh hImh hFmh hba1 hba2 hbx3 hbx4 hH0 hH1 hH2 hH3 hH4 hH5 hM
      refine zw_eq (zu_rega_at (zt_T n) (zm_15 n) (zdp_15 n) _ _ _ _ _ _ (zr_15_28 n _ _ a0 a1 a2 x3 x4 mh)) ?_
      have r1 : 1 ≤ (mh a0 0) ∧ (mh a0 0) ≤ 8 := zi_rd hImh hc0 zb_4_0
      have r2 : 1 ≤ (mh a0 1) ∧ (mh a0 1) ≤ 6 := zi_rd hImh hc0 zb_4_1
      have r3 : 1 ≤ (mh a0 2) ∧ (mh a0 2) ≤ 48 := zi_rd hImh hc0 zb_4_2
      refine zw_ite (fun h4 => ?_) (fun h4 => ?_)
      · have hz := zgeo_of hH0 hH1 hH2 hH4 (by omega) hH5
        have hRG6mh : (mh 6 2 = mh 6 0 * mh 6 1) := zone_6 hc0 ▸ hz.1
        exact zw_some ⟨hImh, hFmh, hRG6mh, trivial, by omega, by omega, by omega⟩
      · have hM : (48 - x3) * 1 + (6 - x4) * 50 + 0 < (k : Int) := by omega
        exact ih.2 x3 x4 0 mh hImh hFmh ⟨by omega, by omega⟩ ⟨by omega, by omega⟩ ⟨by omega, by omega⟩ ⟨by omega, by omega⟩ ⟨by omega, by omega⟩ (by omega) (by omega) (by omega) (by omega) (by omega) (by omega) hH5 hM
    · intro x3 x4 x5 mh hImh hFmh hba1 hba2 hbx3 hbx4 hbx5 hH0 hH1 hH2 hH3 hH4 hH5 hH6 hM
      refine zw_eq (zu_rega_at (zt_T n) (zm_15 n) (zdp_15 n) _ _ _ _ _ _ (zr_15_40 n _ _ a0 a1 a2 x3 x4 x5 mh)) ?_
      have r5 : 1 ≤ (mh a0 0) ∧ (mh a0 0) ≤ 8 := zi_rd hImh hc0 zb_4_0
      have r6 : 1 ≤ (mh a0 1) ∧ (mh a0 1) ≤ 6 := zi_rd hImh hc0 zb_4_1
      have r7 : 1 ≤ (mh a0 2) ∧ (mh a0 2) ≤ 48 := zi_rd hImh hc0 zb_4_2
      refine zw_ite (fun h8 => ?_) (fun h8 => ?_)
      · have s9 := zshp_5 (y := x4) (W := a1) (by omega) (by omega) (by omega)
        have w10 := zu_w32_id (z := x4 + 1) (by omega) (by omega)
        have hM : (6 - (zu_w32 (x4 + 1))) * 50 + 49 < (k : Int) := by omega
        exact zw_le (zu_forget (zu_lr_same (zu_lr_same (zu_lr_same (zu_lr_same (zu_lr_same (zu_lr_drop zu_lr_nil))))))) (ih.1 x3 (zu_w32 (x4 + 1)) mh hImh hFmh ⟨by omega, by omega⟩ ⟨by omega, by omega⟩ ⟨by omega, by omega⟩ ⟨by omega, by omega⟩ (by omega) (by omega) (by omega) (by omega) (zshp_y hH5 (by omega) (by omega)) hH6 hM)
      · refine zw_ite (fun h11 => ?_) (fun h11 => ?_)
        · have s12 := zshp_5 (y := x4) (W := a1) (by omega) (by omega) (by omega)
          have w13 := zu_w32_id (z := x4 + 1) (by omega) (by omega)
          have hM : (6 - (zu_w32 (x4 + 1))) * 50 + 49 < (k : Int) := by omega
          exact zw_le (zu_forget (zu_lr_same (zu_lr_same (zu_lr_same (zu_lr_same (zu_lr_same (zu_lr_drop zu_lr_nil))))))) (ih.1 x3 (zu_w32 (x4 + 1)) mh hImh hFmh ⟨by omega, by omega⟩ ⟨by omega, by omega⟩ ⟨by omega, by omega⟩ ⟨by omega, by omega⟩ (by omega) (by omega) (by omega) (by omega) (zshp_y hH5 (by omega) (by omega)) hH6 hM)
        · have b14 : 0 ≤ x3 ∧ x3 < 48 := by omega
          refine zw_if b14 ?_
          generalize hmm15 : zu_up mh (a0 + 1) x3 x5 = m15
          have hIm15 := zi_up hmm15 hImh (zc_4_6 hc0) (zb_30 _) (by omega) (by omega)
          have hFm15 := zfr_up hmm15 hFmh (zc_4_6 hc0) rfl
          have b16 : 0 ≤ x3 ∧ x3 < 48 := by omega
          refine zw_if b16 ?_
          generalize hmm17 : zu_up m15 (a0 + 2) x3 x4 = m17
          have hIm17 := zi_up hmm17 hIm15 (zc_4_7 hc0) (zb_31 _) (by omega) (by omega)
          have hFm17 := zfr_up hmm17 hFm15 (zc_4_7 hc0) rfl
          have w18 := zu_w32_id (z := x3 + 1) (by omega) (by omega)
          have w19 := zu_w32_id (z := x5 + 1) (by omega) (by omega)
          have r20 : 1 ≤ (m17 a0 0) ∧ (m17 a0 0) ≤ 8 := zi_rd hIm17 hc0 zb_4_0
          have e21 : (m17 a0 0) = (mh a0 0) := (Eq.trans (zs_ne hmm17 (Or.inl (zc_ne hc0 (zc_4_7 hc0) (by decide)))) (zs_ne hmm15 (Or.inl (zc_ne hc0 (zc_4_6 hc0) (by decide)))))
          have r22 : 1 ≤ (m17 a0 1) ∧ (m17 a0 1) ≤ 6 := zi_rd hIm17 hc0 zb_4_1
          have e23 : (m17 a0 1) = (mh a0 1) := (Eq.trans (zs_ne hmm17 (Or.inl (zc_ne hc0 (zc_4_7 hc0) (by decide)))) (zs_ne hmm15 (Or.inl (zc_ne hc0 (zc_4_6 hc0) (by decide)))))
          have r24 : 1 ≤ (m17 a0 2) ∧ (m17 a0 2) ≤ 48 := zi_rd hIm17 hc0 zb_4_2
          have e25 : (m17 a0 2) = (mh a0 2) := (Eq.trans (zs_ne hmm17 (Or.inl (zc_ne hc0 (zc_4_7 hc0) (by decide)))) (zs_ne hmm15 (Or.inl (zc_ne hc0 (zc_4_6 hc0) (by decide)))))
          have hM : (48 - (zu_w32 (x3 + 1))) * 1 + (6 - x4) * 50 + 0 < (k : Int) := by omega
          exact ih.2 (zu_w32 (x3 + 1)) x4 (zu_w32 (x5 + 1)) m17 hIm17 hFm17 ⟨by omega, by omega⟩ ⟨by omega, by omega⟩ ⟨by omega, by omega⟩ ⟨by omega, by omega⟩ ⟨by omega, by omega⟩ (by omega) (by omega) (by omega) (by omega) (by omega) (by omega) (zshp_s hmm15 hmm17 rfl hH5 (by omega) (by omega) (by omega) (by omega) hH6 (by omega)) hM
set_option maxHeartbeats 4000000 in
theorem zk_15_4 (n : Nat) {a0 a1 a2 : Int} {m0 : zu_m} (hIm0 : zi_I m0) (hc0 : zcls a0 = 4) (ha1 : 1 ≤ a1 ∧ a1 ≤ 8) (ha2 : 1 ≤ a2 ∧ a2 ≤ 6)     : zw (zu_call (zt_T n) 15 [(8, a0), (0, a1), (0, a2)] m0) (fun v m => zi_I m ∧ zfr [(4, 1), (4, 2), (4, 3), (30, 0), (31, 0)] m0 m ∧ (m 6 2 = m 6 0 * m 6 1) ∧ True ∧ ((m a0 0) = a1) ∧ ((m a0 1) = a2) ∧ ((m a0 2) = a1 * a2)) := by
  have hFm0 : zfr [(4, 1), (4, 2), (4, 3), (30, 0), (31, 0)] m0 m0 := zfr_rf _ _
  refine zw_eq (zu_call_at (zt_T n) (zm_15 n) (zdp_15 n) _ _ _ _ _ rfl (zr_15_0 n _ _ a0 a1 a2 m0)) ?_
  generalize hmm26 : zu_up m0 a0 0 a1 = m26
  have hIm26 := zi_up hmm26 hIm0 hc0 zb_4_0 (by omega) (by omega)
  have hFm26 := zfr_up hmm26 hFm0 hc0 rfl
  generalize hmm27 : zu_up m26 a0 1 a2 = m27
  have hIm27 := zi_up hmm27 hIm26 hc0 zb_4_1 (by omega) (by omega)
  have hFm27 := zfr_up hmm27 hFm26 hc0 rfl
  have r28 : 1 ≤ (m27 a0 0) ∧ (m27 a0 0) ≤ 8 := zi_rd hIm27 hc0 zb_4_0
  have e29 : (m27 a0 0) = a1 := (Eq.trans (zs_ne hmm27 (Or.inr (by decide))) (zs_eq hmm26))
  have r30 : 1 ≤ (m27 a0 1) ∧ (m27 a0 1) ≤ 6 := zi_rd hIm27 hc0 zb_4_1
  have e31 : (m27 a0 1) = a2 := (zs_eq hmm27)
  have p32 := zmul_bd (x := (m27 a0 0)) (y := (m27 a0 1)) (a := 1) (b := 1) (A := 8) (B := 6) (by omega) (by omega) (by omega) (by omega) (by omega) (by omega)
  have w33 := zu_w32_id (z := (m27 a0 0) * (m27 a0 1)) (by omega) (by omega)
  have s34 := zshp_c (x := (m27 a0 0)) (y := (m27 a0 1)) (a := a1) (b := a2) (by omega) (by omega) (by omega) (by omega) (by omega) (by omega)
  generalize hmm35 : zu_up m27 a0 2 (zu_w32 ((m27 a0 0) * (m27 a0 1))) = m35
  have hIm35 := zi_up hmm35 hIm27 hc0 zb_4_2 (by omega) (by omega)
  have hFm35 := zfr_up hmm35 hFm27 hc0 rfl
  have r36 : 1 ≤ (m35 a0 0) ∧ (m35 a0 0) ≤ 8 := zi_rd hIm35 hc0 zb_4_0
  have e37 : (m35 a0 0) = (m27 a0 0) := (zs_ne hmm35 (Or.inr (by decide)))
  have r38 : 1 ≤ (m35 a0 1) ∧ (m35 a0 1) ≤ 6 := zi_rd hIm35 hc0 zb_4_1
  have e39 : (m35 a0 1) = (m27 a0 1) := (zs_ne hmm35 (Or.inr (by decide)))
  have r40 : 1 ≤ (m35 a0 2) ∧ (m35 a0 2) ≤ 48 := zi_rd hIm35 hc0 zb_4_2
  have e41 : (m35 a0 2) = (zu_w32 ((m27 a0 0) * (m27 a0 1))) := (zs_eq hmm35)
  have hM : (6 - 0) * 50 + 49 < ((350 : Nat) : Int) := by omega
  exact (zl_15_4 n (m0 := m0) hc0 350).1 0 0 m35 hIm35 hFm35 ⟨by omega, by omega⟩ ⟨by omega, by omega⟩ ⟨by omega, by omega⟩ ⟨by omega, by omega⟩ (by omega) (by omega) (by omega) (by omega) (by omega) (zshp_0 _ _ _ _) hM
set_option maxHeartbeats 4000000 in
theorem zl_16 (n : Nat) {a0 : Int} {m0 : zu_m} (hc0 : zcls a0 = 6)   : ∀ k : Nat, (∀ (x1 : Int) (mh : zu_m), zi_I mh → zfr [(6, 3), (6, 5), (6, 9), (6, 10), (6, 11), (6, 12), (43, 0), (44, 0)] m0 mh → (0 ≤ x1 ∧ x1 ≤ 48) → (0 ≤ mh a0 10 ∧ mh a0 10 ≤ 0) → (1000000 ≤ mh a0 11 ∧ mh a0 11 ≤ 1000000) → (0 ≤ mh a0 2 ∧ mh a0 2 ≤ 0) → (0 ≤ mh a0 4 ∧ mh a0 4 ≤ 0) → (0 ≤ mh a0 8 ∧ mh a0 8 ≤ 0) → (0 ≤ mh a0 9 ∧ mh a0 9 ≤ 0) → (zE mh 19 6) → (48 - x1) * 1 + 0 < (k : Int) → zw (zu_ex (zt_T n) 16 33 [(16, a0), (0, x1)] [] mh) (fun v m => zi_I m ∧ zfr [(6, 3), (6, 5), (6, 9), (6, 10), (6, 11), (6, 12), (43, 0), (44, 0)] m0 m ∧ zE m 19 6 ∧ True ∧ (0 ≤ m a0 10 ∧ m a0 10 ≤ 0) ∧ (1000000 ≤ m a0 11 ∧ m a0 11 ≤ 1000000) ∧ (0 ≤ m a0 2 ∧ m a0 2 ≤ 0) ∧ (0 ≤ m a0 4 ∧ m a0 4 ≤ 0) ∧ (0 ≤ m a0 8 ∧ m a0 8 ≤ 0) ∧ (0 ≤ m a0 9 ∧ m a0 9 ≤ 0))) := by
  intro k
  induction k with
  | zero => exact fun x1 mh hImh hFmh hbx1 hg1 hg2 hg3 hg4 hg5 hg6 hRE19mh hM => by exfalso; omega
  | succ k ih =>
    intro x1 mh hImh hFmh hbx1 hg1 hg2 hg3 hg4 hg5 hg6 hRE19mh hM
    refine zw_eq (zu_rega_at (zt_T n) (zm_16 n) (zdp_16 n) _ _ _ _ _ _ (zr_16_33 n _ _ a0 x1 mh)) ?_
    refine zw_ite (fun h1 => ?_) (fun h1 => ?_)
    · exact zw_some ⟨hImh, hFmh, hRE19mh, trivial, ⟨by omega, by omega⟩, ⟨by omega, by omega⟩, ⟨by omega, by omega⟩, ⟨by omega, by omega⟩, ⟨by omega, by omega⟩, ⟨by omega, by omega⟩⟩
    · refine zw_b (by omega) ?_
      have b2 : 0 ≤ x1 ∧ x1 < 48 := by omega
      refine zw_if b2 ?_
      generalize hmm3 : zu_up mh 22 x1 0 = m3
      have hIm3 := zi_up hmm3 hImh zq_22 (zb_43 _) (by omega) (by omega)
      have hFm3 := zfr_up hmm3 hFmh zq_22 rfl
      have hRE19m3 := zR_E19_fr (zdis_fr (zfr_up hmm3 (zfr_rf [(43, 0)] _) zq_22 rfl) rfl) hRE19mh
      have b4 : 0 ≤ x1 ∧ x1 < 48 := by omega
      refine zw_if b4 ?_
      generalize hmm5 : zu_up m3 23 x1 0 = m5
      have hIm5 := zi_up hmm5 hIm3 zq_23 (zb_44 _) (by omega) (by omega)
      have hFm5 := zfr_up hmm5 hFm3 zq_23 rfl
      have hRE19m5 := zR_E19_fr (zdis_fr (zfr_up hmm5 (zfr_rf [(44, 0)] _) zq_23 rfl) rfl) hRE19m3
      have w6 := zu_w32_id (z := x1 + 1) (by omega) (by omega)
      have r7 : 0 ≤ (m5 a0 2) ∧ (m5 a0 2) ≤ 16 := zi_rd hIm5 hc0 zb_6_2
      have e8 : (m5 a0 2) = (mh a0 2) := (Eq.trans (zs_ne hmm5 (Or.inl (zc_ne hc0 zq_23 (by decide)))) (zs_ne hmm3 (Or.inl (zc_ne hc0 zq_22 (by decide)))))
      have r9 : 0 ≤ (m5 a0 4) ∧ (m5 a0 4) ≤ 4 := zi_rd hIm5 hc0 zb_6_4
      have e10 : (m5 a0 4) = (mh a0 4) := (Eq.trans (zs_ne hmm5 (Or.inl (zc_ne hc0 zq_23 (by decide)))) (zs_ne hmm3 (Or.inl (zc_ne hc0 zq_22 (by decide)))))
      have r11 : 0 ≤ (m5 a0 8) ∧ (m5 a0 8) ≤ 9999 := zi_rd hIm5 hc0 zb_6_8
      have e12 : (m5 a0 8) = (mh a0 8) := (Eq.trans (zs_ne hmm5 (Or.inl (zc_ne hc0 zq_23 (by decide)))) (zs_ne hmm3 (Or.inl (zc_ne hc0 zq_22 (by decide)))))
      have r13 : (-2147483648) ≤ (m5 a0 9) ∧ (m5 a0 9) ≤ 2147483647 := zi_rd hIm5 hc0 zb_6_9
      have e14 : (m5 a0 9) = (mh a0 9) := (Eq.trans (zs_ne hmm5 (Or.inl (zc_ne hc0 zq_23 (by decide)))) (zs_ne hmm3 (Or.inl (zc_ne hc0 zq_22 (by decide)))))
      have r15 : 0 ≤ (m5 a0 10) ∧ (m5 a0 10) ≤ 3 := zi_rd hIm5 hc0 zb_6_10
      have e16 : (m5 a0 10) = (mh a0 10) := (Eq.trans (zs_ne hmm5 (Or.inl (zc_ne hc0 zq_23 (by decide)))) (zs_ne hmm3 (Or.inl (zc_ne hc0 zq_22 (by decide)))))
      have r17 : (-2147483648) ≤ (m5 a0 11) ∧ (m5 a0 11) ≤ 2147483647 := zi_rd hIm5 hc0 zb_6_11
      have e18 : (m5 a0 11) = (mh a0 11) := (Eq.trans (zs_ne hmm5 (Or.inl (zc_ne hc0 zq_23 (by decide)))) (zs_ne hmm3 (Or.inl (zc_ne hc0 zq_22 (by decide)))))
      have hM : (48 - (zu_w32 (x1 + 1))) * 1 + 0 < (k : Int) := by omega
      exact ih (zu_w32 (x1 + 1)) m5 hIm5 hFm5 ⟨by omega, by omega⟩ ⟨by omega, by omega⟩ ⟨by omega, by omega⟩ ⟨by omega, by omega⟩ ⟨by omega, by omega⟩ ⟨by omega, by omega⟩ ⟨by omega, by omega⟩ hRE19m5 hM
set_option maxHeartbeats 4000000 in
theorem zk_16 (n : Nat) {a0 : Int} {m0 : zu_m} (hIm0 : zi_I m0) (hc0 : zcls a0 = 6)      : zw (zu_call (zt_T n) 16 [(16, a0)] m0) (fun v m => zi_I m ∧ zfr [(6, 3), (6, 5), (6, 9), (6, 10), (6, 11), (6, 12), (43, 0), (44, 0)] m0 m ∧ zE m 19 6 ∧ True ∧ (0 ≤ m a0 10 ∧ m a0 10 ≤ 0) ∧ (1000000 ≤ m a0 11 ∧ m a0 11 ≤ 1000000) ∧ (0 ≤ m a0 2 ∧ m a0 2 ≤ 0) ∧ (0 ≤ m a0 4 ∧ m a0 4 ≤ 0) ∧ (0 ≤ m a0 8 ∧ m a0 8 ≤ 0) ∧ (0 ≤ m a0 9 ∧ m a0 9 ≤ 0)) := by
  have hFm0 : zfr [(6, 3), (6, 5), (6, 9), (6, 10), (6, 11), (6, 12), (43, 0), (44, 0)] m0 m0 := zfr_rf _ _
  refine zw_eq (zu_call_at (zt_T n) (zm_16 n) (zdp_16 n) _ _ _ _ _ rfl (zr_16_0 n _ _ a0 m0)) ?_
  generalize hmm19 : zu_up m0 a0 2 0 = m19
  have hIm19 := zi_up hmm19 hIm0 hc0 zb_6_2 (by omega) (by omega)
  have hFm19 := zfr_up hmm19 hFm0 hc0 rfl
  generalize hmm20 : zu_up m19 a0 4 0 = m20
  have hIm20 := zi_up hmm20 hIm19 hc0 zb_6_4 (by omega) (by omega)
  have hFm20 := zfr_up hmm20 hFm19 hc0 rfl
  have hRE19m20 : zE m20 19 6 := zE_zero (zone_19 hc0) (by rw [zs_eq hmm20]; decide)
  generalize hmm21 : zu_up m20 a0 8 0 = m21
  have hIm21 := zi_up hmm21 hIm20 hc0 zb_6_8 (by omega) (by omega)
  have hFm21 := zfr_up hmm21 hFm20 hc0 rfl
  have hRE19m21 := zR_E19_fr (zdis_fr (zfr_up hmm21 (zfr_rf [(6, 9)] _) hc0 rfl) rfl) hRE19m20
  generalize hmm22 : zu_up m21 a0 9 0 = m22
  have hIm22 := zi_up hmm22 hIm21 hc0 zb_6_9 (by omega) (by omega)
  have hFm22 := zfr_up hmm22 hFm21 hc0 rfl
  have hRE19m22 := zR_E19_fr (zdis_fr (zfr_up hmm22 (zfr_rf [(6, 10)] _) hc0 rfl) rfl) hRE19m21
  generalize hmm23 : zu_up m22 a0 10 0 = m23
  have hIm23 := zi_up hmm23 hIm22 hc0 zb_6_10 (by omega) (by omega)
  have hFm23 := zfr_up hmm23 hFm22 hc0 rfl
  have hRE19m23 := zR_E19_fr (zdis_fr (zfr_up hmm23 (zfr_rf [(6, 11)] _) hc0 rfl) rfl) hRE19m22
  generalize hmm24 : zu_up m23 a0 11 1000000 = m24
  have hIm24 := zi_up hmm24 hIm23 hc0 zb_6_11 (by omega) (by omega)
  have hFm24 := zfr_up hmm24 hFm23 hc0 rfl
  have hRE19m24 := zR_E19_fr (zdis_fr (zfr_up hmm24 (zfr_rf [(6, 12)] _) hc0 rfl) rfl) hRE19m23
  have r25 : 0 ≤ (m24 a0 2) ∧ (m24 a0 2) ≤ 16 := zi_rd hIm24 hc0 zb_6_2
  have e26 : (m24 a0 2) = 0 := (Eq.trans (zs_ne hmm24 (Or.inr (by decide))) (Eq.trans (zs_ne hmm23 (Or.inr (by decide))) (Eq.trans (zs_ne hmm22 (Or.inr (by decide))) (Eq.trans (zs_ne hmm21 (Or.inr (by decide))) (Eq.trans (zs_ne hmm20 (Or.inr (by decide))) (zs_eq hmm19))))))
  have r27 : 0 ≤ (m24 a0 4) ∧ (m24 a0 4) ≤ 4 := zi_rd hIm24 hc0 zb_6_4
  have e28 : (m24 a0 4) = 0 := (Eq.trans (zs_ne hmm24 (Or.inr (by decide))) (Eq.trans (zs_ne hmm23 (Or.inr (by decide))) (Eq.trans (zs_ne hmm22 (Or.inr (by decide))) (Eq.trans (zs_ne hmm21 (Or.inr (by decide))) (zs_eq hmm20)))))
  have r29 : 0 ≤ (m24 a0 8) ∧ (m24 a0 8) ≤ 9999 := zi_rd hIm24 hc0 zb_6_8
  have e30 : (m24 a0 8) = 0 := (Eq.trans (zs_ne hmm24 (Or.inr (by decide))) (Eq.trans (zs_ne hmm23 (Or.inr (by decide))) (Eq.trans (zs_ne hmm22 (Or.inr (by decide))) (zs_eq hmm21))))
  have r31 : (-2147483648) ≤ (m24 a0 9) ∧ (m24 a0 9) ≤ 2147483647 := zi_rd hIm24 hc0 zb_6_9
  have e32 : (m24 a0 9) = 0 := (Eq.trans (zs_ne hmm24 (Or.inr (by decide))) (Eq.trans (zs_ne hmm23 (Or.inr (by decide))) (zs_eq hmm22)))
  have r33 : 0 ≤ (m24 a0 10) ∧ (m24 a0 10) ≤ 3 := zi_rd hIm24 hc0 zb_6_10
  have e34 : (m24 a0 10) = 0 := (Eq.trans (zs_ne hmm24 (Or.inr (by decide))) (zs_eq hmm23))
  have r35 : (-2147483648) ≤ (m24 a0 11) ∧ (m24 a0 11) ≤ 2147483647 := zi_rd hIm24 hc0 zb_6_11
  have e36 : (m24 a0 11) = 1000000 := (zs_eq hmm24)
  have hM : (48 - 0) * 1 + 0 < ((49 : Nat) : Int) := by omega
  exact (zl_16 n (m0 := m0) hc0 49) 0 m24 hIm24 hFm24 ⟨by omega, by omega⟩ ⟨by omega, by omega⟩ ⟨by omega, by omega⟩ ⟨by omega, by omega⟩ ⟨by omega, by omega⟩ ⟨by omega, by omega⟩ ⟨by omega, by omega⟩ hRE19m24 hM
set_option maxHeartbeats 4000000 in
theorem zk_17 (n : Nat) {a0 a1 : Int} {m0 : zu_m} (hIm0 : zi_I m0) (hc0 : zcls a0 = 9) (ha1 : 0 ≤ a1 ∧ a1 ≤ 700)     : zw (zu_call (zt_T n) 17 [(22, a0), (0, a1)] m0) (fun v m => zi_I m ∧ zfr [(9, 3), (9, 4)] m0 m ∧ True ∧ (0 ≤ m a0 3 ∧ m a0 3 ≤ 0)) := by
  have hFm0 : zfr [(9, 3), (9, 4)] m0 m0 := zfr_rf _ _
  refine zw_eq (zu_call_at (zt_T n) (zm_17 n) (zdp_17 n) _ _ _ _ _ rfl (zr_17_0 n _ _ a0 a1 m0)) ?_
  generalize hmm1 : zu_up m0 a0 2 a1 = m1
  have hIm1 := zi_up hmm1 hIm0 hc0 zb_9_2 (by omega) (by omega)
  have hFm1 := zfr_up hmm1 hFm0 hc0 rfl
  generalize hmm2 : zu_up m1 a0 3 0 = m2
  have hIm2 := zi_up hmm2 hIm1 hc0 zb_9_3 (by omega) (by omega)
  have hFm2 := zfr_up hmm2 hFm1 hc0 rfl
  have r3 : 0 ≤ (m2 a0 3) ∧ (m2 a0 3) ≤ 700 := zi_rd hIm2 hc0 zb_9_3
  have e4 : (m2 a0 3) = 0 := (zs_eq hmm2)
  exact zw_some ⟨hIm2, hFm2, trivial, ⟨by omega, by omega⟩⟩
set_option maxHeartbeats 4000000 in
theorem zk_21 (n : Nat) {a0 a1 : Int} {m0 : zu_m} (hIm0 : zi_I m0) (hc0 : zcls a0 = 12) (hc1 : zcls a1 = 5)     (hRK10m0 : zR_K10 m0) : zw (zu_call (zt_T n) 21 [(10, a0), (10, a1)] m0) (fun v m => zi_I m ∧ zfr [(12, 6), (12, 7), (52, 0), (53, 0), (54, 0), (55, 0)] m0 m ∧ zR_K10 m ∧ zR_K54 m ∧ True) := by
  have hFm0 : zfr [(12, 6), (12, 7), (52, 0), (53, 0), (54, 0), (55, 0)] m0 m0 := zfr_rf _ _
  refine zw_eq (zu_call_at (zt_T n) (zm_21 n) (zdp_21 n) _ _ _ _ _ rfl (zr_21_0 n _ _ a0 a1 m0)) ?_
  refine zw_if (by omega) ?_
  generalize hmm1 : zu_cp m0 (a1 + 1) 0 (a0 + 1) 0 64 = m1
  have hIm1 := zi_cp hmm1 hIm0 (zc_5_0 hc1) (zc_12_0 hc0) zb_33 zb_52 (by decide) (by decide)
  have hFm1 := zfr_cp hmm1 hFm0 (zc_12_0 hc0) (fun _ => rfl)
  have hfm1 : zfr [(52, 0)] m0 m1 := zfr_cp hmm1 (zfr_rf _ _) (zc_12_0 hc0) (fun _ => rfl)
  have hRK10m1 := zR_K10_fr (zdis_fr hfm1 rfl) hRK10m0
  refine zw_if (by omega) ?_
  generalize hmm2 : zu_cp m1 (a1 + 2) 0 (a0 + 2) 0 64 = m2
  have hIm2 := zi_cp hmm2 hIm1 (zc_5_1 hc1) (zc_12_1 hc0) zb_34 zb_53 (by decide) (by decide)
  have hFm2 := zfr_cp hmm2 hFm1 (zc_12_1 hc0) (fun _ => rfl)
  have hfm2 : zfr [(53, 0)] m1 m2 := zfr_cp hmm2 (zfr_rf _ _) (zc_12_1 hc0) (fun _ => rfl)
  have hRK10m2 := zR_K10_fr (zdis_fr hfm2 rfl) hRK10m1
  have hRK54m2 := zK_copy hmm1 hmm2 hRK10m0 hc0 hc1
  refine zw_if (by omega) ?_
  generalize hmm3 : zu_cp m2 (a1 + 3) 0 (a0 + 3) 0 4 = m3
  have hIm3 := zi_cp hmm3 hIm2 (zc_5_2 hc1) (zc_12_2 hc0) zb_35 zb_54 (by decide) (by decide)
  have hFm3 := zfr_cp hmm3 hFm2 (zc_12_2 hc0) (fun _ => rfl)
  have hfm3 : zfr [(54, 0)] m2 m3 := zfr_cp hmm3 (zfr_rf _ _) (zc_12_2 hc0) (fun _ => rfl)
  have hRK10m3 := zR_K10_fr (zdis_fr hfm3 rfl) hRK10m2
  have hRK54m3 := zR_K54_fr (zdis_fr hfm3 rfl) hRK54m2
  refine zw_if (by omega) ?_
  generalize hmm4 : zu_cp m3 (a1 + 4) 0 (a0 + 4) 0 4 = m4
  have hIm4 := zi_cp hmm4 hIm3 (zc_5_3 hc1) (zc_12_3 hc0) zb_36 zb_55 (by decide) (by decide)
  have hFm4 := zfr_cp hmm4 hFm3 (zc_12_3 hc0) (fun _ => rfl)
  have hfm4 : zfr [(55, 0)] m3 m4 := zfr_cp hmm4 (zfr_rf _ _) (zc_12_3 hc0) (fun _ => rfl)
  have hRK10m4 := zR_K10_fr (zdis_fr hfm4 rfl) hRK10m3
  have hRK54m4 := zR_K54_fr (zdis_fr hfm4 rfl) hRK54m3
  have r5 : 0 ≤ (m4 a1 5) ∧ (m4 a1 5) ≤ 64 := zi_rd hIm4 hc1 zb_5_5
  generalize hmm6 : zu_up m4 a0 5 (m4 a1 5) = m6
  have hIm6 := zi_up hmm6 hIm4 hc0 zb_12_5 (by omega) (by omega)
  have hFm6 := zfr_up hmm6 hFm4 hc0 rfl
  have hRK10m6 := zR_K10_fr (zdis_fr (zfr_up hmm6 (zfr_rf [(12, 6)] _) hc0 rfl) rfl) hRK10m4
  have hRK54m6 := zR_K54_fr (zdis_fr (zfr_up hmm6 (zfr_rf [(12, 6)] _) hc0 rfl) rfl) hRK54m4
  have r7 : 0 ≤ (m6 a1 6) ∧ (m6 a1 6) ≤ 64 := zi_rd hIm6 hc1 zb_5_6
  generalize hmm8 : zu_up m6 a0 6 (m6 a1 6) = m8
  have hIm8 := zi_up hmm8 hIm6 hc0 zb_12_6 (by omega) (by omega)
  have hFm8 := zfr_up hmm8 hFm6 hc0 rfl
  have hRK10m8 := zR_K10_fr (zdis_fr (zfr_up hmm8 (zfr_rf [(12, 7)] _) hc0 rfl) rfl) hRK10m6
  have hRK54m8 := zR_K54_fr (zdis_fr (zfr_up hmm8 (zfr_rf [(12, 7)] _) hc0 rfl) rfl) hRK54m6
  exact zw_some ⟨hIm8, hFm8, hRK10m8, hRK54m8, trivial⟩
set_option maxHeartbeats 4000000 in
theorem zk_25 (n : Nat) {a0 a1 a2 a3 : Int} {m0 : zu_m} (hIm0 : zi_I m0) (hc0 : zcls a0 = 11) (ha1 : 0 ≤ a1 ∧ a1 ≤ 47) (ha2 : 0 ≤ a2 ∧ a2 ≤ 3) (ha3 : 0 ≤ a3 ∧ a3 ≤ 9)     : zw (zu_call (zt_T n) 25 [(8, a0), (0, a1), (0, a2), (0, a3)] m0) (fun v m => zi_I m ∧ zfr [(59, 1), (59, 2), (59, 3), (59, 4), (59, 5), (59, 6), (59, 7)] m0 m ∧ True) := by
  have hFm0 : zfr [(59, 1), (59, 2), (59, 3), (59, 4), (59, 5), (59, 6), (59, 7)] m0 m0 := zfr_rf _ _
  refine zw_eq (zu_call_at (zt_T n) (zm_25 n) (zdp_25 n) _ _ _ _ _ rfl (zr_25_0 n _ _ a0 a1 a2 a3 m0)) ?_
  have b1 : 0 ≤ (0 : Int) ∧ (0 : Int) < 7 := by omega
  refine zw_if b1 ?_
  generalize hmm2 : zu_up m0 (a0 + 12) 0 0 = m2
  have hIm2 := zi_upr (m := 7) (r0 := 0) (r1 := 0) (lo := 0) (hi := 15) hmm2 hIm0 (zc_11_12 hc0) (by omega) (by decide +kernel) (by omega) (by omega)
  have hFm2 := zfr_up hmm2 hFm0 (zc_11_12 hc0) rfl
  have b3 : 0 ≤ (1 : Int) ∧ (1 : Int) < 7 := by omega
  refine zw_if b3 ?_
  generalize hmm4 : zu_up m2 (a0 + 12) 1 a3 = m4
  have hIm4 := zi_upr (m := 7) (r0 := 1) (r1 := 1) (lo := 0) (hi := 9) hmm4 hIm2 (zc_11_12 hc0) (by omega) (by decide +kernel) (by omega) (by omega)
  have hFm4 := zfr_up hmm4 hFm2 (zc_11_12 hc0) rfl
  have b5 : 0 ≤ a1 ∧ a1 < 48 := by omega
  refine zw_if b5 ?_
  have r6 : 0 ≤ (m4 (a0 + 3) a1) ∧ (m4 (a0 + 3) a1) ≤ 3 := zi_rd hIm4 (zc_11_8 hc0) (zb_51 _)
  have b7 : 0 ≤ (2 : Int) ∧ (2 : Int) < 7 := by omega
  refine zw_if b7 ?_
  generalize hmm8 : zu_up m4 (a0 + 12) 2 (m4 (a0 + 3) a1) = m8
  have hIm8 := zi_upr (m := 7) (r0 := 2) (r1 := 2) (lo := 0) (hi := 3) hmm8 hIm4 (zc_11_12 hc0) (by omega) (by decide +kernel) (by omega) (by omega)
  have hFm8 := zfr_up hmm8 hFm4 (zc_11_12 hc0) rfl
  have b9 : 0 ≤ (3 : Int) ∧ (3 : Int) < 7 := by omega
  refine zw_if b9 ?_
  generalize hmm10 : zu_up m8 (a0 + 12) 3 a2 = m10
  have hIm10 := zi_upr (m := 7) (r0 := 3) (r1 := 3) (lo := 0) (hi := 3) hmm10 hIm8 (zc_11_12 hc0) (by omega) (by decide +kernel) (by omega) (by omega)
  have hFm10 := zfr_up hmm10 hFm8 (zc_11_12 hc0) rfl
  have b11 : 0 ≤ (4 : Int) ∧ (4 : Int) < 7 := by omega
  refine zw_if b11 ?_
  generalize hmm12 : zu_up m10 (a0 + 12) 4 0 = m12
  have hIm12 := zi_upr (m := 7) (r0 := 4) (r1 := 4) (lo := 0) (hi := 1) hmm12 hIm10 (zc_11_12 hc0) (by omega) (by decide +kernel) (by omega) (by omega)
  have hFm12 := zfr_up hmm12 hFm10 (zc_11_12 hc0) rfl
  have b13 : 0 ≤ a1 ∧ a1 < 48 := by omega
  refine zw_if b13 ?_
  have r14 : 0 ≤ (m12 (a0 + 2) a1) ∧ (m12 (a0 + 2) a1) ≤ 5 := zi_rd hIm12 (zc_11_7 hc0) (zb_50 _)
  have b15 : 0 ≤ (5 : Int) ∧ (5 : Int) < 7 := by omega
  refine zw_if b15 ?_
  generalize hmm16 : zu_up m12 (a0 + 12) 5 (m12 (a0 + 2) a1) = m16
  have hIm16 := zi_upr (m := 7) (r0 := 5) (r1 := 5) (lo := 0) (hi := 5) hmm16 hIm12 (zc_11_12 hc0) (by omega) (by decide +kernel) (by omega) (by omega)
  have hFm16 := zfr_up hmm16 hFm12 (zc_11_12 hc0) rfl
  have b17 : 0 ≤ (6 : Int) ∧ (6 : Int) < 7 := by omega
  refine zw_if b17 ?_
  generalize hmm18 : zu_up m16 (a0 + 12) 6 0 = m18
  have hIm18 := zi_upr (m := 7) (r0 := 6) (r1 := 6) (lo := (-2147483648)) (hi := 2147483647) hmm18 hIm16 (zc_11_12 hc0) (by omega) (by decide +kernel) (by omega) (by omega)
  have hFm18 := zfr_up hmm18 hFm16 (zc_11_12 hc0) rfl
  exact zw_some ⟨hIm18, hFm18, trivial⟩
set_option maxHeartbeats 4000000 in
theorem zk_27 (n : Nat) {a0 : Int} {m0 : zu_m} (hIm0 : zi_I m0) (hc0 : zcls a0 = 22)      : zw (zu_call (zt_T n) 27 [(28, a0)] m0) (fun v m => zi_I m ∧ zfr [(22, 7), (22, 8)] m0 m ∧ True ∧ (0 ≤ m a0 6 ∧ m a0 6 ≤ 0) ∧ ((-1) ≤ m a0 7 ∧ m a0 7 ≤ (-1))) := by
  have hFm0 : zfr [(22, 7), (22, 8)] m0 m0 := zfr_rf _ _
  refine zw_eq (zu_call_at (zt_T n) (zm_27 n) (zdp_27 n) _ _ _ _ _ rfl (zr_27_0 n _ _ a0 m0)) ?_
  generalize hmm1 : zu_up m0 a0 6 0 = m1
  have hIm1 := zi_up hmm1 hIm0 hc0 zb_22_6 (by omega) (by omega)
  have hFm1 := zfr_up hmm1 hFm0 hc0 rfl
  generalize hmm2 : zu_up m1 a0 7 (-1) = m2
  have hIm2 := zi_up hmm2 hIm1 hc0 zb_22_7 (by omega) (by omega)
  have hFm2 := zfr_up hmm2 hFm1 hc0 rfl
  have r3 : 0 ≤ (m2 a0 6) ∧ (m2 a0 6) ≤ 24 := zi_rd hIm2 hc0 zb_22_6
  have e4 : (m2 a0 6) = 0 := (Eq.trans (zs_ne hmm2 (Or.inr (by decide))) (zs_eq hmm1))
  have r5 : (-1) ≤ (m2 a0 7) ∧ (m2 a0 7) ≤ 24 := zi_rd hIm2 hc0 zb_22_7
  have e6 : (m2 a0 7) = (-1) := (zs_eq hmm2)
  exact zw_some ⟨hIm2, hFm2, trivial, ⟨by omega, by omega⟩, ⟨by omega, by omega⟩⟩
set_option maxHeartbeats 4000000 in
theorem zk_28 (n : Nat) {a0 : Int} {m0 : zu_m} (hIm0 : zi_I m0) (hc0 : zcls a0 = 23)      : zw (zu_call (zt_T n) 28 [(31, a0)] m0) (fun v m => zi_I m ∧ zfr [(23, 5)] m0 m ∧ zR_UN m ∧ zR_UW m ∧ True ∧ (0 ≤ m a0 4 ∧ m a0 4 ≤ 0)) := by
  have hFm0 : zfr [(23, 5)] m0 m0 := zfr_rf _ _
  refine zw_eq (zu_call_at (zt_T n) (zm_28 n) (zdp_28 n) _ _ _ _ _ rfl (zr_28_0 n _ _ a0 m0)) ?_
  generalize hmm1 : zu_up m0 a0 4 0 = m1
  have hIm1 := zi_up hmm1 hIm0 hc0 zb_23_4 (by omega) (by omega)
  have hFm1 := zfr_up hmm1 hFm0 hc0 rfl
  have r2 : 0 ≤ (m1 89 2) ∧ (m1 89 2) ≤ 16 := zi_rd hIm1 zq_89 zb_16_2
  have hRUWm1 := zUW_zero (m := m1) (zone_148 hc0) (by rw [zs_eq hmm1]; decide)
  have hRUNm1 := zUN_zero (m := m1) (zone_148 hc0) (by rw [zs_eq hmm1]; decide) (by omega)
  have r3 : 0 ≤ (m1 a0 4) ∧ (m1 a0 4) ≤ 20 := zi_rd hIm1 hc0 zb_23_4
  have e4 : (m1 a0 4) = 0 := (zs_eq hmm1)
  exact zw_some ⟨hIm1, hFm1, hRUNm1, hRUWm1, trivial, ⟨by omega, by omega⟩⟩
set_option maxHeartbeats 4000000 in
theorem zl_30 (n : Nat) {a0 : Int} {m0 : zu_m} (hc0 : zcls a0 = 28)   : ∀ k : Nat, (∀ (x1 : Int) (mh : zu_m), zi_I mh → zfr [(28, 18), (28, 19), (28, 20), (28, 21), (28, 22), (28, 23), (28, 24), (28, 49), (102, 0), (103, 0), (104, 0), (105, 0), (114, 0)] m0 mh → (0 ≤ x1 ∧ x1 ≤ 6) → (6 ≤ mh a0 17 ∧ mh a0 17 ≤ 6) → (5 ≤ mh a0 18 ∧ mh a0 18 ≤ 5) → (0 ≤ mh a0 19 ∧ mh a0 19 ≤ 0) → (0 ≤ mh a0 20 ∧ mh a0 20 ≤ 0) → (0 ≤ mh a0 21 ∧ mh a0 21 ≤ 0) → (0 ≤ mh a0 22 ∧ mh a0 22 ≤ 0) → (0 ≤ mh a0 23 ∧ mh a0 23 ≤ 0) → (0 ≤ mh a0 48 ∧ mh a0 48 ≤ 0) → (zR_LT mh) → (6 - x1) * 1 + 60 < (k : Int) → zw (zu_ex (zt_T n) 30 43 [(40, a0), (0, x1)] [] mh) (fun v m => zi_I m ∧ zfr [(28, 18), (28, 19), (28, 20), (28, 21), (28, 22), (28, 23), (28, 24), (28, 49), (102, 0), (103, 0), (104, 0), (105, 0), (114, 0)] m0 m ∧ zR_CR m ∧ zR_LR m ∧ zR_LT m ∧ True ∧ (6 ≤ m a0 17 ∧ m a0 17 ≤ 6) ∧ (5 ≤ m a0 18 ∧ m a0 18 ≤ 5) ∧ (0 ≤ m a0 19 ∧ m a0 19 ≤ 0) ∧ (0 ≤ m a0 20 ∧ m a0 20 ≤ 0) ∧ (0 ≤ m a0 21 ∧ m a0 21 ≤ 0) ∧ (0 ≤ m a0 22 ∧ m a0 22 ≤ 0) ∧ (0 ≤ m a0 23 ∧ m a0 23 ≤ 0) ∧ (0 ≤ m a0 48 ∧ m a0 48 ≤ 0))) ∧ (∀ (x1 : Int) (mh : zu_m), zi_I mh → zfr [(28, 18), (28, 19), (28, 20), (28, 21), (28, 22), (28, 23), (28, 24), (28, 49), (102, 0), (103, 0), (104, 0), (105, 0), (114, 0)] m0 mh → (5 ≤ x1 ∧ x1 ≤ 10) → (6 ≤ mh a0 17 ∧ mh a0 17 ≤ 6) → (5 ≤ mh a0 18 ∧ mh a0 18 ≤ 5) → (0 ≤ mh a0 19 ∧ mh a0 19 ≤ 0) → (0 ≤ mh a0 20 ∧ mh a0 20 ≤ 0) → (0 ≤ mh a0 21 ∧ mh a0 21 ≤ 0) → (0 ≤ mh a0 22 ∧ mh a0 22 ≤ 0) → (0 ≤ mh a0 23 ∧ mh a0 23 ≤ 0) → (0 ≤ mh a0 48 ∧ mh a0 48 ≤ 0) → (zR_LT mh) → (10 - x1) * 1 + 54 < (k : Int) → zw (zu_ex (zt_T n) 30 64 [(40, a0), (0, x1)] [] mh) (fun v m => zi_I m ∧ zfr [(28, 18), (28, 19), (28, 20), (28, 21), (28, 22), (28, 23), (28, 24), (28, 49), (102, 0), (103, 0), (104, 0), (105, 0), (114, 0)] m0 m ∧ zR_CR m ∧ zR_LR m ∧ zR_LT m ∧ True ∧ (6 ≤ m a0 17 ∧ m a0 17 ≤ 6) ∧ (5 ≤ m a0 18 ∧ m a0 18 ≤ 5) ∧ (0 ≤ m a0 19 ∧ m a0 19 ≤ 0) ∧ (0 ≤ m a0 20 ∧ m a0 20 ≤ 0) ∧ (0 ≤ m a0 21 ∧ m a0 21 ≤ 0) ∧ (0 ≤ m a0 22 ∧ m a0 22 ≤ 0) ∧ (0 ≤ m a0 23 ∧ m a0 23 ≤ 0) ∧ (0 ≤ m a0 48 ∧ m a0 48 ≤ 0))) ∧ (∀ (x1 : Int) (mh : zu_m), zi_I mh → zfr [(28, 18), (28, 19), (28, 20), (28, 21), (28, 22), (28, 23), (28, 24), (28, 49), (102, 0), (103, 0), (104, 0), (105, 0), (114, 0)] m0 mh → (0 ≤ x1 ∧ x1 ≤ 48) → (6 ≤ mh a0 17 ∧ mh a0 17 ≤ 6) → (5 ≤ mh a0 18 ∧ mh a0 18 ≤ 5) → (0 ≤ mh a0 19 ∧ mh a0 19 ≤ 0) → (0 ≤ mh a0 20 ∧ mh a0 20 ≤ 0) → (0 ≤ mh a0 21 ∧ mh a0 21 ≤ 0) → (0 ≤ mh a0 22 ∧ mh a0 22 ≤ 0) → (0 ≤ mh a0 23 ∧ mh a0 23 ≤ 0) → (0 ≤ mh a0 48 ∧ mh a0 48 ≤ 0) → (zR_LT mh) → (48 - x1) * 1 + 5 < (k : Int) → zw (zu_ex (zt_T n) 30 95 [(40, a0), (0, x1)] [] mh) (fun v m => zi_I m ∧ zfr [(28, 18), (28, 19), (28, 20), (28, 21), (28, 22), (28, 23), (28, 24), (28, 49), (102, 0), (103, 0), (104, 0), (105, 0), (114, 0)] m0 m ∧ zR_CR m ∧ zR_LR m ∧ zR_LT m ∧ True ∧ (6 ≤ m a0 17 ∧ m a0 17 ≤ 6) ∧ (5 ≤ m a0 18 ∧ m a0 18 ≤ 5) ∧ (0 ≤ m a0 19 ∧ m a0 19 ≤ 0) ∧ (0 ≤ m a0 20 ∧ m a0 20 ≤ 0) ∧ (0 ≤ m a0 21 ∧ m a0 21 ≤ 0) ∧ (0 ≤ m a0 22 ∧ m a0 22 ≤ 0) ∧ (0 ≤ m a0 23 ∧ m a0 23 ≤ 0) ∧ (0 ≤ m a0 48 ∧ m a0 48 ≤ 0))) ∧ (∀ (x1 : Int) (mh : zu_m), zi_I mh → zfr [(28, 18), (28, 19), (28, 20), (28, 21), (28, 22), (28, 23), (28, 24), (28, 49), (102, 0), (103, 0), (104, 0), (105, 0), (114, 0)] m0 mh → (4 ≤ x1 ∧ x1 ≤ 8) → (6 ≤ mh a0 17 ∧ mh a0 17 ≤ 6) → (5 ≤ mh a0 18 ∧ mh a0 18 ≤ 5) → (0 ≤ mh a0 19 ∧ mh a0 19 ≤ 0) → (0 ≤ mh a0 20 ∧ mh a0 20 ≤ 0) → (0 ≤ mh a0 21 ∧ mh a0 21 ≤ 0) → (0 ≤ mh a0 22 ∧ mh a0 22 ≤ 0) → (0 ≤ mh a0 23 ∧ mh a0 23 ≤ 0) → (0 ≤ mh a0 48 ∧ mh a0 48 ≤ 0) → (∀ i, 4 ≤ i → i < x1 → mh 205 i = 0) → (zR_LT mh) → (8 - x1) * 1 + 0 < (k : Int) → zw (zu_ex (zt_T n) 30 126 [(40, a0), (0, x1)] [] mh) (fun v m => zi_I m ∧ zfr [(28, 18), (28, 19), (28, 20), (28, 21), (28, 22), (28, 23), (28, 24), (28, 49), (102, 0), (103, 0), (104, 0), (105, 0), (114, 0)] m0 m ∧ zR_CR m ∧ zR_LR m ∧ zR_LT m ∧ True ∧ (6 ≤ m a0 17 ∧ m a0 17 ≤ 6) ∧ (5 ≤ m a0 18 ∧ m a0 18 ≤ 5) ∧ (0 ≤ m a0 19 ∧ m a0 19 ≤ 0) ∧ (0 ≤ m a0 20 ∧ m a0 20 ≤ 0) ∧ (0 ≤ m a0 21 ∧ m a0 21 ≤ 0) ∧ (0 ≤ m a0 22 ∧ m a0 22 ≤ 0) ∧ (0 ≤ m a0 23 ∧ m a0 23 ≤ 0) ∧ (0 ≤ m a0 48 ∧ m a0 48 ≤ 0))) := by
  intro k
  induction k with
  | zero => exact ⟨fun x1 mh hImh hFmh hbx1 hg1 hg2 hg3 hg4 hg5 hg6 hg7 hg8 hRLTmh hM => by exfalso; omega, fun x1 mh hImh hFmh hbx1 hg1 hg2 hg3 hg4 hg5 hg6 hg7 hg8 hRLTmh hM => by exfalso; omega, fun x1 mh hImh hFmh hbx1 hg1 hg2 hg3 hg4 hg5 hg6 hg7 hg8 hRLTmh hM => by exfalso; omega, fun x1 mh hImh hFmh hbx1 hg1 hg2 hg3 hg4 hg5 hg6 hg7 hg8 hH0 hRLTmh hM => by exfalso; omega⟩
  | succ k ih =>
    refine ⟨?_, ?_, ?_, ?_⟩
    · intro x1 mh hImh hFmh hbx1 hg1 hg2 hg3 hg4 hg5 hg6 hg7 hg8 hRLTmh hM
      refine zw_eq (zu_rega_at (zt_T n) (zm_30 n) (zdp_30 n) _ _ _ _ _ _ (zr_30_43 n _ _ a0 x1 mh)) ?_
      refine zw_ite (fun h1 => ?_) (fun h1 => ?_)
      · have hM : (10 - 5) * 1 + 54 < (k : Int) := by omega
        exact ih.2.1 5 mh hImh hFmh ⟨by omega, by omega⟩ ⟨by omega, by omega⟩ ⟨by omega, by omega⟩ ⟨by omega, by omega⟩ ⟨by omega, by omega⟩ ⟨by omega, by omega⟩ ⟨by omega, by omega⟩ ⟨by omega, by omega⟩ ⟨by omega, by omega⟩ hRLTmh hM
      · refine zw_b (by omega) ?_
        have b2 : 0 ≤ x1 ∧ x1 < 6 := by omega
        refine zw_if b2 ?_
        generalize hmm3 : zu_up mh 193 x1 0 = m3
        have hIm3 := zi_up hmm3 hImh zq_193 (zb_102 _) (by omega) (by omega)
        have hFm3 := zfr_up hmm3 hFmh zq_193 rfl
        have hRLTm3 := zR_LT_fr (zdis_fr (zfr_up hmm3 (zfr_rf [(102, 0)] _) zq_193 rfl) rfl) hRLTmh
        have w4 := zu_w32_id (z := x1 + 1) (by omega) (by omega)
        have r5 : 1 ≤ (m3 a0 17) ∧ (m3 a0 17) ≤ 8 := zi_rd hIm3 hc0 zb_28_17
        have e6 : (m3 a0 17) = (mh a0 17) := (zs_ne hmm3 (Or.inl (zc_ne hc0 zq_193 (by decide))))
        have r7 : 1 ≤ (m3 a0 18) ∧ (m3 a0 18) ≤ 6 := zi_rd hIm3 hc0 zb_28_18
        have e8 : (m3 a0 18) = (mh a0 18) := (zs_ne hmm3 (Or.inl (zc_ne hc0 zq_193 (by decide))))
        have r9 : 0 ≤ (m3 a0 19) ∧ (m3 a0 19) ≤ 12 := zi_rd hIm3 hc0 zb_28_19
        have e10 : (m3 a0 19) = (mh a0 19) := (zs_ne hmm3 (Or.inl (zc_ne hc0 zq_193 (by decide))))
        have r11 : 0 ≤ (m3 a0 20) ∧ (m3 a0 20) ≤ 4 := zi_rd hIm3 hc0 zb_28_20
        have e12 : (m3 a0 20) = (mh a0 20) := (zs_ne hmm3 (Or.inl (zc_ne hc0 zq_193 (by decide))))
        have r13 : 0 ≤ (m3 a0 21) ∧ (m3 a0 21) ≤ 64 := zi_rd hIm3 hc0 zb_28_21
        have e14 : (m3 a0 21) = (mh a0 21) := (zs_ne hmm3 (Or.inl (zc_ne hc0 zq_193 (by decide))))
        have r15 : 0 ≤ (m3 a0 22) ∧ (m3 a0 22) ≤ 16 := zi_rd hIm3 hc0 zb_28_22
        have e16 : (m3 a0 22) = (mh a0 22) := (zs_ne hmm3 (Or.inl (zc_ne hc0 zq_193 (by decide))))
        have r17 : 0 ≤ (m3 a0 48) ∧ (m3 a0 48) ≤ 64 := zi_rd hIm3 hc0 zb_28_48
        have e18 : (m3 a0 48) = (mh a0 48) := (zs_ne hmm3 (Or.inl (zc_ne hc0 zq_193 (by decide))))
        have r19 : 0 ≤ (m3 a0 23) ∧ (m3 a0 23) ≤ 1 := zi_rd hIm3 hc0 zb_28_23
        have e20 : (m3 a0 23) = (mh a0 23) := (zs_ne hmm3 (Or.inl (zc_ne hc0 zq_193 (by decide))))
        have hM : (6 - (zu_w32 (x1 + 1))) * 1 + 60 < (k : Int) := by omega
        exact ih.1 (zu_w32 (x1 + 1)) m3 hIm3 hFm3 ⟨by omega, by omega⟩ ⟨by omega, by omega⟩ ⟨by omega, by omega⟩ ⟨by omega, by omega⟩ ⟨by omega, by omega⟩ ⟨by omega, by omega⟩ ⟨by omega, by omega⟩ ⟨by omega, by omega⟩ ⟨by omega, by omega⟩ hRLTm3 hM
    · intro x1 mh hImh hFmh hbx1 hg1 hg2 hg3 hg4 hg5 hg6 hg7 hg8 hRLTmh hM
      refine zw_eq (zu_rega_at (zt_T n) (zm_30 n) (zdp_30 n) _ _ _ _ _ _ (zr_30_64 n _ _ a0 x1 mh)) ?_
      refine zw_ite (fun h21 => ?_) (fun h21 => ?_)
      · have hM : (48 - 0) * 1 + 5 < (k : Int) := by omega
        exact ih.2.2.1 0 mh hImh hFmh ⟨by omega, by omega⟩ ⟨by omega, by omega⟩ ⟨by omega, by omega⟩ ⟨by omega, by omega⟩ ⟨by omega, by omega⟩ ⟨by omega, by omega⟩ ⟨by omega, by omega⟩ ⟨by omega, by omega⟩ ⟨by omega, by omega⟩ hRLTmh hM
      · refine zw_ite (fun h22 => ?_) (fun h22 => ?_)
        · have b23 : 0 ≤ x1 ∧ x1 < 10 := by omega
          refine zw_if b23 ?_
          generalize hmm24 : zu_up mh 194 x1 0 = m24
          have hIm24 := zi_up hmm24 hImh zq_194 (zb_103 _) (by omega) (by omega)
          have hFm24 := zfr_up hmm24 hFmh zq_194 rfl
          have hRLTm24 := zR_LT_fr (zdis_fr (zfr_up hmm24 (zfr_rf [(103, 0)] _) zq_194 rfl) rfl) hRLTmh
          have w25 := zu_w32_id (z := x1 + 1) (by omega) (by omega)
          have r26 : 1 ≤ (m24 a0 17) ∧ (m24 a0 17) ≤ 8 := zi_rd hIm24 hc0 zb_28_17
          have e27 : (m24 a0 17) = (mh a0 17) := (zs_ne hmm24 (Or.inl (zc_ne hc0 zq_194 (by decide))))
          have r28 : 1 ≤ (m24 a0 18) ∧ (m24 a0 18) ≤ 6 := zi_rd hIm24 hc0 zb_28_18
          have e29 : (m24 a0 18) = (mh a0 18) := (zs_ne hmm24 (Or.inl (zc_ne hc0 zq_194 (by decide))))
          have r30 : 0 ≤ (m24 a0 19) ∧ (m24 a0 19) ≤ 12 := zi_rd hIm24 hc0 zb_28_19
          have e31 : (m24 a0 19) = (mh a0 19) := (zs_ne hmm24 (Or.inl (zc_ne hc0 zq_194 (by decide))))
          have r32 : 0 ≤ (m24 a0 20) ∧ (m24 a0 20) ≤ 4 := zi_rd hIm24 hc0 zb_28_20
          have e33 : (m24 a0 20) = (mh a0 20) := (zs_ne hmm24 (Or.inl (zc_ne hc0 zq_194 (by decide))))
          have r34 : 0 ≤ (m24 a0 21) ∧ (m24 a0 21) ≤ 64 := zi_rd hIm24 hc0 zb_28_21
          have e35 : (m24 a0 21) = (mh a0 21) := (zs_ne hmm24 (Or.inl (zc_ne hc0 zq_194 (by decide))))
          have r36 : 0 ≤ (m24 a0 22) ∧ (m24 a0 22) ≤ 16 := zi_rd hIm24 hc0 zb_28_22
          have e37 : (m24 a0 22) = (mh a0 22) := (zs_ne hmm24 (Or.inl (zc_ne hc0 zq_194 (by decide))))
          have r38 : 0 ≤ (m24 a0 48) ∧ (m24 a0 48) ≤ 64 := zi_rd hIm24 hc0 zb_28_48
          have e39 : (m24 a0 48) = (mh a0 48) := (zs_ne hmm24 (Or.inl (zc_ne hc0 zq_194 (by decide))))
          have r40 : 0 ≤ (m24 a0 23) ∧ (m24 a0 23) ≤ 1 := zi_rd hIm24 hc0 zb_28_23
          have e41 : (m24 a0 23) = (mh a0 23) := (zs_ne hmm24 (Or.inl (zc_ne hc0 zq_194 (by decide))))
          have hM : (10 - (zu_w32 (x1 + 1))) * 1 + 54 < (k : Int) := by omega
          exact ih.2.1 (zu_w32 (x1 + 1)) m24 hIm24 hFm24 ⟨by omega, by omega⟩ ⟨by omega, by omega⟩ ⟨by omega, by omega⟩ ⟨by omega, by omega⟩ ⟨by omega, by omega⟩ ⟨by omega, by omega⟩ ⟨by omega, by omega⟩ ⟨by omega, by omega⟩ ⟨by omega, by omega⟩ hRLTm24 hM
        · have b42 : 0 ≤ x1 ∧ x1 < 10 := by omega
          refine zw_if b42 ?_
          generalize hmm43 : zu_up mh 194 x1 (-1) = m43
          have hIm43 := zi_up hmm43 hImh zq_194 (zb_103 _) (by omega) (by omega)
          have hFm43 := zfr_up hmm43 hFmh zq_194 rfl
          have hRLTm43 := zR_LT_fr (zdis_fr (zfr_up hmm43 (zfr_rf [(103, 0)] _) zq_194 rfl) rfl) hRLTmh
          have w44 := zu_w32_id (z := x1 + 1) (by omega) (by omega)
          have r45 : 1 ≤ (m43 a0 17) ∧ (m43 a0 17) ≤ 8 := zi_rd hIm43 hc0 zb_28_17
          have e46 : (m43 a0 17) = (mh a0 17) := (zs_ne hmm43 (Or.inl (zc_ne hc0 zq_194 (by decide))))
          have r47 : 1 ≤ (m43 a0 18) ∧ (m43 a0 18) ≤ 6 := zi_rd hIm43 hc0 zb_28_18
          have e48 : (m43 a0 18) = (mh a0 18) := (zs_ne hmm43 (Or.inl (zc_ne hc0 zq_194 (by decide))))
          have r49 : 0 ≤ (m43 a0 19) ∧ (m43 a0 19) ≤ 12 := zi_rd hIm43 hc0 zb_28_19
          have e50 : (m43 a0 19) = (mh a0 19) := (zs_ne hmm43 (Or.inl (zc_ne hc0 zq_194 (by decide))))
          have r51 : 0 ≤ (m43 a0 20) ∧ (m43 a0 20) ≤ 4 := zi_rd hIm43 hc0 zb_28_20
          have e52 : (m43 a0 20) = (mh a0 20) := (zs_ne hmm43 (Or.inl (zc_ne hc0 zq_194 (by decide))))
          have r53 : 0 ≤ (m43 a0 21) ∧ (m43 a0 21) ≤ 64 := zi_rd hIm43 hc0 zb_28_21
          have e54 : (m43 a0 21) = (mh a0 21) := (zs_ne hmm43 (Or.inl (zc_ne hc0 zq_194 (by decide))))
          have r55 : 0 ≤ (m43 a0 22) ∧ (m43 a0 22) ≤ 16 := zi_rd hIm43 hc0 zb_28_22
          have e56 : (m43 a0 22) = (mh a0 22) := (zs_ne hmm43 (Or.inl (zc_ne hc0 zq_194 (by decide))))
          have r57 : 0 ≤ (m43 a0 48) ∧ (m43 a0 48) ≤ 64 := zi_rd hIm43 hc0 zb_28_48
          have e58 : (m43 a0 48) = (mh a0 48) := (zs_ne hmm43 (Or.inl (zc_ne hc0 zq_194 (by decide))))
          have r59 : 0 ≤ (m43 a0 23) ∧ (m43 a0 23) ≤ 1 := zi_rd hIm43 hc0 zb_28_23
          have e60 : (m43 a0 23) = (mh a0 23) := (zs_ne hmm43 (Or.inl (zc_ne hc0 zq_194 (by decide))))
          have hM : (10 - (zu_w32 (x1 + 1))) * 1 + 54 < (k : Int) := by omega
          exact ih.2.1 (zu_w32 (x1 + 1)) m43 hIm43 hFm43 ⟨by omega, by omega⟩ ⟨by omega, by omega⟩ ⟨by omega, by omega⟩ ⟨by omega, by omega⟩ ⟨by omega, by omega⟩ ⟨by omega, by omega⟩ ⟨by omega, by omega⟩ ⟨by omega, by omega⟩ ⟨by omega, by omega⟩ hRLTm43 hM
    · intro x1 mh hImh hFmh hbx1 hg1 hg2 hg3 hg4 hg5 hg6 hg7 hg8 hRLTmh hM
      refine zw_eq (zu_rega_at (zt_T n) (zm_30 n) (zdp_30 n) _ _ _ _ _ _ (zr_30_95 n _ _ a0 x1 mh)) ?_
      refine zw_ite (fun h61 => ?_) (fun h61 => ?_)
      · have hM : (8 - 4) * 1 + 0 < (k : Int) := by omega
        exact ih.2.2.2 4 mh hImh hFmh ⟨by omega, by omega⟩ ⟨by omega, by omega⟩ ⟨by omega, by omega⟩ ⟨by omega, by omega⟩ ⟨by omega, by omega⟩ ⟨by omega, by omega⟩ ⟨by omega, by omega⟩ ⟨by omega, by omega⟩ ⟨by omega, by omega⟩ (fun i h0 h1 => by omega) hRLTmh hM
      · have w62 := zu_w32_id (z := 48 + x1) (by omega) (by omega)
        have b63 : 0 ≤ (zu_w32 (48 + x1)) ∧ (zu_w32 (48 + x1)) < 96 := by omega
        refine zw_if b63 ?_
        generalize hmm64 : zu_up mh 195 (zu_w32 (48 + x1)) 0 = m64
        have hIm64 := zi_up hmm64 hImh zq_195 (zb_104 _) (by omega) (by omega)
        have hFm64 := zfr_up hmm64 hFmh zq_195 rfl
        have hRLTm64 := zR_LT_fr (zdis_fr (zfr_up hmm64 (zfr_rf [(104, 0)] _) zq_195 rfl) rfl) hRLTmh
        refine zw_b (by omega) ?_
        have b65 : 0 ≤ x1 ∧ x1 < 48 := by omega
        refine zw_if b65 ?_
        generalize hmm66 : zu_up m64 196 x1 0 = m66
        have hIm66 := zi_up hmm66 hIm64 zq_196 (zb_105 _) (by omega) (by omega)
        have hFm66 := zfr_up hmm66 hFm64 zq_196 rfl
        have hRLTm66 := zR_LT_fr (zdis_fr (zfr_up hmm66 (zfr_rf [(105, 0)] _) zq_196 rfl) rfl) hRLTm64
        have w67 := zu_w32_id (z := x1 + 1) (by omega) (by omega)
        have r68 : 1 ≤ (m66 a0 17) ∧ (m66 a0 17) ≤ 8 := zi_rd hIm66 hc0 zb_28_17
        have e69 : (m66 a0 17) = (mh a0 17) := (Eq.trans (zs_ne hmm66 (Or.inl (zc_ne hc0 zq_196 (by decide)))) (zs_ne hmm64 (Or.inl (zc_ne hc0 zq_195 (by decide)))))
        have r70 : 1 ≤ (m66 a0 18) ∧ (m66 a0 18) ≤ 6 := zi_rd hIm66 hc0 zb_28_18
        have e71 : (m66 a0 18) = (mh a0 18) := (Eq.trans (zs_ne hmm66 (Or.inl (zc_ne hc0 zq_196 (by decide)))) (zs_ne hmm64 (Or.inl (zc_ne hc0 zq_195 (by decide)))))
        have r72 : 0 ≤ (m66 a0 19) ∧ (m66 a0 19) ≤ 12 := zi_rd hIm66 hc0 zb_28_19
        have e73 : (m66 a0 19) = (mh a0 19) := (Eq.trans (zs_ne hmm66 (Or.inl (zc_ne hc0 zq_196 (by decide)))) (zs_ne hmm64 (Or.inl (zc_ne hc0 zq_195 (by decide)))))
        have r74 : 0 ≤ (m66 a0 20) ∧ (m66 a0 20) ≤ 4 := zi_rd hIm66 hc0 zb_28_20
        have e75 : (m66 a0 20) = (mh a0 20) := (Eq.trans (zs_ne hmm66 (Or.inl (zc_ne hc0 zq_196 (by decide)))) (zs_ne hmm64 (Or.inl (zc_ne hc0 zq_195 (by decide)))))
        have r76 : 0 ≤ (m66 a0 21) ∧ (m66 a0 21) ≤ 64 := zi_rd hIm66 hc0 zb_28_21
        have e77 : (m66 a0 21) = (mh a0 21) := (Eq.trans (zs_ne hmm66 (Or.inl (zc_ne hc0 zq_196 (by decide)))) (zs_ne hmm64 (Or.inl (zc_ne hc0 zq_195 (by decide)))))
        have r78 : 0 ≤ (m66 a0 22) ∧ (m66 a0 22) ≤ 16 := zi_rd hIm66 hc0 zb_28_22
        have e79 : (m66 a0 22) = (mh a0 22) := (Eq.trans (zs_ne hmm66 (Or.inl (zc_ne hc0 zq_196 (by decide)))) (zs_ne hmm64 (Or.inl (zc_ne hc0 zq_195 (by decide)))))
        have r80 : 0 ≤ (m66 a0 48) ∧ (m66 a0 48) ≤ 64 := zi_rd hIm66 hc0 zb_28_48
        have e81 : (m66 a0 48) = (mh a0 48) := (Eq.trans (zs_ne hmm66 (Or.inl (zc_ne hc0 zq_196 (by decide)))) (zs_ne hmm64 (Or.inl (zc_ne hc0 zq_195 (by decide)))))
        have r82 : 0 ≤ (m66 a0 23) ∧ (m66 a0 23) ≤ 1 := zi_rd hIm66 hc0 zb_28_23
        have e83 : (m66 a0 23) = (mh a0 23) := (Eq.trans (zs_ne hmm66 (Or.inl (zc_ne hc0 zq_196 (by decide)))) (zs_ne hmm64 (Or.inl (zc_ne hc0 zq_195 (by decide)))))
        have hM : (48 - (zu_w32 (x1 + 1))) * 1 + 5 < (k : Int) := by omega
        exact ih.2.2.1 (zu_w32 (x1 + 1)) m66 hIm66 hFm66 ⟨by omega, by omega⟩ ⟨by omega, by omega⟩ ⟨by omega, by omega⟩ ⟨by omega, by omega⟩ ⟨by omega, by omega⟩ ⟨by omega, by omega⟩ ⟨by omega, by omega⟩ ⟨by omega, by omega⟩ ⟨by omega, by omega⟩ hRLTm66 hM
    · intro x1 mh hImh hFmh hbx1 hg1 hg2 hg3 hg4 hg5 hg6 hg7 hg8 hH0 hRLTmh hM
      refine zw_eq (zu_rega_at (zt_T n) (zm_30 n) (zdp_30 n) _ _ _ _ _ _ (zr_30_126 n _ _ a0 x1 mh)) ?_
      refine zw_ite (fun h84 => ?_) (fun h84 => ?_)
      · have hRLRmh := zLR_pl (m := mh) hH0 (by omega)
        have hRCRmh := zCR_zero (m := mh) (zone_190 hc0) (by omega) (by omega)
        exact zw_some ⟨hImh, hFmh, hRCRmh, hRLRmh, hRLTmh, trivial, ⟨by omega, by omega⟩, ⟨by omega, by omega⟩, ⟨by omega, by omega⟩, ⟨by omega, by omega⟩, ⟨by omega, by omega⟩, ⟨by omega, by omega⟩, ⟨by omega, by omega⟩, ⟨by omega, by omega⟩⟩
      · refine zw_b (by omega) ?_
        have b85 : 0 ≤ x1 ∧ x1 < 8 := by omega
        refine zw_if b85 ?_
        generalize hmm86 : zu_up mh 205 x1 0 = m86
        have hIm86 := zi_up hmm86 hImh zq_205 (zb_114 _) (by omega) (by omega)
        have hFm86 := zfr_up hmm86 hFmh zq_205 rfl
        have hRLTm86 := zLT_h5 hmm86 (by omega) hRLTmh
        have w87 := zu_w32_id (z := x1 + 1) (by omega) (by omega)
        have r88 : 1 ≤ (m86 a0 17) ∧ (m86 a0 17) ≤ 8 := zi_rd hIm86 hc0 zb_28_17
        have e89 : (m86 a0 17) = (mh a0 17) := (zs_ne hmm86 (Or.inl (zc_ne hc0 zq_205 (by decide))))
        have r90 : 1 ≤ (m86 a0 18) ∧ (m86 a0 18) ≤ 6 := zi_rd hIm86 hc0 zb_28_18
        have e91 : (m86 a0 18) = (mh a0 18) := (zs_ne hmm86 (Or.inl (zc_ne hc0 zq_205 (by decide))))
        have r92 : 0 ≤ (m86 a0 19) ∧ (m86 a0 19) ≤ 12 := zi_rd hIm86 hc0 zb_28_19
        have e93 : (m86 a0 19) = (mh a0 19) := (zs_ne hmm86 (Or.inl (zc_ne hc0 zq_205 (by decide))))
        have r94 : 0 ≤ (m86 a0 20) ∧ (m86 a0 20) ≤ 4 := zi_rd hIm86 hc0 zb_28_20
        have e95 : (m86 a0 20) = (mh a0 20) := (zs_ne hmm86 (Or.inl (zc_ne hc0 zq_205 (by decide))))
        have r96 : 0 ≤ (m86 a0 21) ∧ (m86 a0 21) ≤ 64 := zi_rd hIm86 hc0 zb_28_21
        have e97 : (m86 a0 21) = (mh a0 21) := (zs_ne hmm86 (Or.inl (zc_ne hc0 zq_205 (by decide))))
        have r98 : 0 ≤ (m86 a0 22) ∧ (m86 a0 22) ≤ 16 := zi_rd hIm86 hc0 zb_28_22
        have e99 : (m86 a0 22) = (mh a0 22) := (zs_ne hmm86 (Or.inl (zc_ne hc0 zq_205 (by decide))))
        have r100 : 0 ≤ (m86 a0 48) ∧ (m86 a0 48) ≤ 64 := zi_rd hIm86 hc0 zb_28_48
        have e101 : (m86 a0 48) = (mh a0 48) := (zs_ne hmm86 (Or.inl (zc_ne hc0 zq_205 (by decide))))
        have r102 : 0 ≤ (m86 a0 23) ∧ (m86 a0 23) ≤ 1 := zi_rd hIm86 hc0 zb_28_23
        have e103 : (m86 a0 23) = (mh a0 23) := (zs_ne hmm86 (Or.inl (zc_ne hc0 zq_205 (by decide))))
        have hM : (8 - (zu_w32 (x1 + 1))) * 1 + 0 < (k : Int) := by omega
        exact ih.2.2.2 (zu_w32 (x1 + 1)) m86 hIm86 hFm86 ⟨by omega, by omega⟩ ⟨by omega, by omega⟩ ⟨by omega, by omega⟩ ⟨by omega, by omega⟩ ⟨by omega, by omega⟩ ⟨by omega, by omega⟩ ⟨by omega, by omega⟩ ⟨by omega, by omega⟩ ⟨by omega, by omega⟩ (zpl_s hmm86 hH0 (by omega)) hRLTm86 hM
set_option maxHeartbeats 4000000 in
theorem zk_30 (n : Nat) {a0 : Int} {m0 : zu_m} (hIm0 : zi_I m0) (hc0 : zcls a0 = 28)     (hRLTm0 : zR_LT m0) : zw (zu_call (zt_T n) 30 [(40, a0)] m0) (fun v m => zi_I m ∧ zfr [(28, 18), (28, 19), (28, 20), (28, 21), (28, 22), (28, 23), (28, 24), (28, 49), (102, 0), (103, 0), (104, 0), (105, 0), (114, 0)] m0 m ∧ zR_CR m ∧ zR_LR m ∧ zR_LT m ∧ True ∧ (6 ≤ m a0 17 ∧ m a0 17 ≤ 6) ∧ (5 ≤ m a0 18 ∧ m a0 18 ≤ 5) ∧ (0 ≤ m a0 19 ∧ m a0 19 ≤ 0) ∧ (0 ≤ m a0 20 ∧ m a0 20 ≤ 0) ∧ (0 ≤ m a0 21 ∧ m a0 21 ≤ 0) ∧ (0 ≤ m a0 22 ∧ m a0 22 ≤ 0) ∧ (0 ≤ m a0 23 ∧ m a0 23 ≤ 0) ∧ (0 ≤ m a0 48 ∧ m a0 48 ≤ 0)) := by
  have hFm0 : zfr [(28, 18), (28, 19), (28, 20), (28, 21), (28, 22), (28, 23), (28, 24), (28, 49), (102, 0), (103, 0), (104, 0), (105, 0), (114, 0)] m0 m0 := zfr_rf _ _
  refine zw_eq (zu_call_at (zt_T n) (zm_30 n) (zdp_30 n) _ _ _ _ _ rfl (zr_30_0 n _ _ a0 m0)) ?_
  generalize hmm104 : zu_up m0 a0 17 6 = m104
  have hIm104 := zi_up hmm104 hIm0 hc0 zb_28_17 (by omega) (by omega)
  have hFm104 := zfr_up hmm104 hFm0 hc0 rfl
  have hRLTm104 := zR_LT_fr (zdis_fr (zfr_up hmm104 (zfr_rf [(28, 18)] _) hc0 rfl) rfl) hRLTm0
  generalize hmm105 : zu_up m104 a0 18 5 = m105
  have hIm105 := zi_up hmm105 hIm104 hc0 zb_28_18 (by omega) (by omega)
  have hFm105 := zfr_up hmm105 hFm104 hc0 rfl
  have hRLTm105 := zR_LT_fr (zdis_fr (zfr_up hmm105 (zfr_rf [(28, 19)] _) hc0 rfl) rfl) hRLTm104
  generalize hmm106 : zu_up m105 a0 19 0 = m106
  have hIm106 := zi_up hmm106 hIm105 hc0 zb_28_19 (by omega) (by omega)
  have hFm106 := zfr_up hmm106 hFm105 hc0 rfl
  have hRLTm106 := zR_LT_fr (zdis_fr (zfr_up hmm106 (zfr_rf [(28, 20)] _) hc0 rfl) rfl) hRLTm105
  generalize hmm107 : zu_up m106 a0 20 0 = m107
  have hIm107 := zi_up hmm107 hIm106 hc0 zb_28_20 (by omega) (by omega)
  have hFm107 := zfr_up hmm107 hFm106 hc0 rfl
  have hRLTm107 := zR_LT_fr (zdis_fr (zfr_up hmm107 (zfr_rf [(28, 21)] _) hc0 rfl) rfl) hRLTm106
  generalize hmm108 : zu_up m107 a0 21 0 = m108
  have hIm108 := zi_up hmm108 hIm107 hc0 zb_28_21 (by omega) (by omega)
  have hFm108 := zfr_up hmm108 hFm107 hc0 rfl
  have hRLTm108 := zR_LT_fr (zdis_fr (zfr_up hmm108 (zfr_rf [(28, 22)] _) hc0 rfl) rfl) hRLTm107
  generalize hmm109 : zu_up m108 a0 22 0 = m109
  have hIm109 := zi_up hmm109 hIm108 hc0 zb_28_22 (by omega) (by omega)
  have hFm109 := zfr_up hmm109 hFm108 hc0 rfl
  have hRLTm109 := zR_LT_fr (zdis_fr (zfr_up hmm109 (zfr_rf [(28, 23)] _) hc0 rfl) rfl) hRLTm108
  generalize hmm110 : zu_up m109 a0 48 0 = m110
  have hIm110 := zi_up hmm110 hIm109 hc0 zb_28_48 (by omega) (by omega)
  have hFm110 := zfr_up hmm110 hFm109 hc0 rfl
  have hRLTm110 := zR_LT_fr (zdis_fr (zfr_up hmm110 (zfr_rf [(28, 49)] _) hc0 rfl) rfl) hRLTm109
  refine zw_b (by omega) ?_
  generalize hmm111 : zu_up m110 a0 23 0 = m111
  have hIm111 := zi_up hmm111 hIm110 hc0 zb_28_23 (by omega) (by omega)
  have hFm111 := zfr_up hmm111 hFm110 hc0 rfl
  have hRLTm111 := zR_LT_fr (zdis_fr (zfr_up hmm111 (zfr_rf [(28, 24)] _) hc0 rfl) rfl) hRLTm110
  have r112 : 1 ≤ (m111 a0 17) ∧ (m111 a0 17) ≤ 8 := zi_rd hIm111 hc0 zb_28_17
  have e113 : (m111 a0 17) = 6 := (Eq.trans (zs_ne hmm111 (Or.inr (by decide))) (Eq.trans (zs_ne hmm110 (Or.inr (by decide))) (Eq.trans (zs_ne hmm109 (Or.inr (by decide))) (Eq.trans (zs_ne hmm108 (Or.inr (by decide))) (Eq.trans (zs_ne hmm107 (Or.inr (by decide))) (Eq.trans (zs_ne hmm106 (Or.inr (by decide))) (Eq.trans (zs_ne hmm105 (Or.inr (by decide))) (zs_eq hmm104))))))))
  have r114 : 1 ≤ (m111 a0 18) ∧ (m111 a0 18) ≤ 6 := zi_rd hIm111 hc0 zb_28_18
  have e115 : (m111 a0 18) = 5 := (Eq.trans (zs_ne hmm111 (Or.inr (by decide))) (Eq.trans (zs_ne hmm110 (Or.inr (by decide))) (Eq.trans (zs_ne hmm109 (Or.inr (by decide))) (Eq.trans (zs_ne hmm108 (Or.inr (by decide))) (Eq.trans (zs_ne hmm107 (Or.inr (by decide))) (Eq.trans (zs_ne hmm106 (Or.inr (by decide))) (zs_eq hmm105)))))))
  have r116 : 0 ≤ (m111 a0 19) ∧ (m111 a0 19) ≤ 12 := zi_rd hIm111 hc0 zb_28_19
  have e117 : (m111 a0 19) = 0 := (Eq.trans (zs_ne hmm111 (Or.inr (by decide))) (Eq.trans (zs_ne hmm110 (Or.inr (by decide))) (Eq.trans (zs_ne hmm109 (Or.inr (by decide))) (Eq.trans (zs_ne hmm108 (Or.inr (by decide))) (Eq.trans (zs_ne hmm107 (Or.inr (by decide))) (zs_eq hmm106))))))
  have r118 : 0 ≤ (m111 a0 20) ∧ (m111 a0 20) ≤ 4 := zi_rd hIm111 hc0 zb_28_20
  have e119 : (m111 a0 20) = 0 := (Eq.trans (zs_ne hmm111 (Or.inr (by decide))) (Eq.trans (zs_ne hmm110 (Or.inr (by decide))) (Eq.trans (zs_ne hmm109 (Or.inr (by decide))) (Eq.trans (zs_ne hmm108 (Or.inr (by decide))) (zs_eq hmm107)))))
  have r120 : 0 ≤ (m111 a0 21) ∧ (m111 a0 21) ≤ 64 := zi_rd hIm111 hc0 zb_28_21
  have e121 : (m111 a0 21) = 0 := (Eq.trans (zs_ne hmm111 (Or.inr (by decide))) (Eq.trans (zs_ne hmm110 (Or.inr (by decide))) (Eq.trans (zs_ne hmm109 (Or.inr (by decide))) (zs_eq hmm108))))
  have r122 : 0 ≤ (m111 a0 22) ∧ (m111 a0 22) ≤ 16 := zi_rd hIm111 hc0 zb_28_22
  have e123 : (m111 a0 22) = 0 := (Eq.trans (zs_ne hmm111 (Or.inr (by decide))) (Eq.trans (zs_ne hmm110 (Or.inr (by decide))) (zs_eq hmm109)))
  have r124 : 0 ≤ (m111 a0 48) ∧ (m111 a0 48) ≤ 64 := zi_rd hIm111 hc0 zb_28_48
  have e125 : (m111 a0 48) = 0 := (Eq.trans (zs_ne hmm111 (Or.inr (by decide))) (zs_eq hmm110))
  have r126 : 0 ≤ (m111 a0 23) ∧ (m111 a0 23) ≤ 1 := zi_rd hIm111 hc0 zb_28_23
  have e127 : (m111 a0 23) = 0 := (zs_eq hmm111)
  have hM : (6 - 0) * 1 + 60 < ((67 : Nat) : Int) := by omega
  exact (zl_30 n (m0 := m0) hc0 67).1 0 m111 hIm111 hFm111 ⟨by omega, by omega⟩ ⟨by omega, by omega⟩ ⟨by omega, by omega⟩ ⟨by omega, by omega⟩ ⟨by omega, by omega⟩ ⟨by omega, by omega⟩ ⟨by omega, by omega⟩ ⟨by omega, by omega⟩ ⟨by omega, by omega⟩ hRLTm111 hM
set_option maxHeartbeats 4000000 in
theorem zl_32_103 (n : Nat) {a0 a1 : Int} {m0 : zu_m} (hc0 : zcls a0 = 103)   : ∀ k : Nat, (∀ (x2 : Int) (mh : zu_m), zi_I mh → zfr [(103, 0)] m0 mh → (5 ≤ a1 ∧ a1 ≤ 5) → (0 ≤ x2 ∧ x2 ≤ 5) → (zcpl m0 mh a0 a1 x2) → (x2 ≤ a1) → (5 - x2) * 1 + 0 < (k : Int) → zw (zu_ex (zt_T n) 32 2 [(43, a0), (0, a1), (0, x2)] [] mh) (fun v m => zi_I m ∧ zfr [(103, 0)] m0 m ∧ True ∧ (zcpl m0 m a0 a1 a1))) := by
  intro k
  induction k with
  | zero => exact fun x2 mh hImh hFmh hba1 hbx2 hH0 hH1 hM => by exfalso; omega
  | succ k ih =>
    intro x2 mh hImh hFmh hba1 hbx2 hH0 hH1 hM
    refine zw_eq (zu_rega_at (zt_T n) (zm_32 n) (zdp_32 n) _ _ _ _ _ _ (zr_32_2 n _ _ a0 a1 x2 mh)) ?_
    refine zw_ite (fun h1 => ?_) (fun h1 => ?_)
    · exact zw_some ⟨hImh, hFmh, trivial, zcpl_e hH0 (by omega)⟩
    · have w2 := zu_w32_id (z := a1 + x2) (by omega) (by omega)
      have b3 : 0 ≤ (zu_w32 (a1 + x2)) ∧ (zu_w32 (a1 + x2)) < 10 := by omega
      refine zw_if b3 ?_
      have r4 : (-1) ≤ (mh a0 (zu_w32 (a1 + x2))) ∧ (mh a0 (zu_w32 (a1 + x2))) ≤ 99999 := zi_rd hImh hc0 (zb_103 _)
      have b5 : 0 ≤ x2 ∧ x2 < 10 := by omega
      refine zw_if b5 ?_
      generalize hmm6 : zu_up mh a0 x2 (mh a0 (zu_w32 (a1 + x2))) = m6
      have hIm6 := zi_up hmm6 hImh hc0 (zb_103 _) (by omega) (by omega)
      have hFm6 := zfr_up hmm6 hFmh hc0 rfl
      have w7 := zu_w32_id (z := x2 + 1) (by omega) (by omega)
      have hM : (5 - (zu_w32 (x2 + 1))) * 1 + 0 < (k : Int) := by omega
      exact ih (zu_w32 (x2 + 1)) m6 hIm6 hFm6 ⟨by omega, by omega⟩ ⟨by omega, by omega⟩ (zcpl_s hmm6 rfl (by omega) (by omega) hH0 (by omega) (by omega)) (by omega) hM
set_option maxHeartbeats 4000000 in
theorem zk_32_103 (n : Nat) {a0 a1 : Int} {m0 : zu_m} (hIm0 : zi_I m0) (hc0 : zcls a0 = 103) (ha1 : 5 ≤ a1 ∧ a1 ≤ 5)     : zw (zu_call (zt_T n) 32 [(43, a0), (0, a1)] m0) (fun v m => zi_I m ∧ zfr [(103, 0)] m0 m ∧ True ∧ (zcpl m0 m a0 a1 a1)) := by
  have hFm0 : zfr [(103, 0)] m0 m0 := zfr_rf _ _
  refine zw_eq (zu_call_at (zt_T n) (zm_32 n) (zdp_32 n) _ _ _ _ _ rfl (zr_32_0 n _ _ a0 a1 m0)) ?_
  have hM : (5 - 0) * 1 + 0 < ((6 : Nat) : Int) := by omega
  exact (zl_32_103 n (m0 := m0) hc0 6) 0 m0 hIm0 hFm0 ⟨by omega, by omega⟩ ⟨by omega, by omega⟩ (zcpl_0 _ _ _) (by omega) hM
set_option maxHeartbeats 4000000 in
theorem zl_32_104 (n : Nat) {a0 a1 : Int} {m0 : zu_m} (hc0 : zcls a0 = 104)   : ∀ k : Nat, (∀ (x2 : Int) (mh : zu_m), zi_I mh → zfr [(104, 0)] m0 mh → (48 ≤ a1 ∧ a1 ≤ 48) → (0 ≤ x2 ∧ x2 ≤ 48) → (zcpl m0 mh a0 a1 x2) → (x2 ≤ a1) → (48 - x2) * 1 + 0 < (k : Int) → zw (zu_ex (zt_T n) 32 2 [(44, a0), (0, a1), (0, x2)] [] mh) (fun v m => zi_I m ∧ zfr [(104, 0)] m0 m ∧ True ∧ (zcpl m0 m a0 a1 a1))) := by
  intro k
  induction k with
  | zero => exact fun x2 mh hImh hFmh hba1 hbx2 hH0 hH1 hM => by exfalso; omega
  | succ k ih =>
    intro x2 mh hImh hFmh hba1 hbx2 hH0 hH1 hM
    refine zw_eq (zu_rega_at (zt_T n) (zm_32 n) (zdp_32 n) _ _ _ _ _ _ (zr_32b_2 n _ _ a0 a1 x2 mh)) ?_
    refine zw_ite (fun h1 => ?_) (fun h1 => ?_)
    · exact zw_some ⟨hImh, hFmh, trivial, zcpl_e hH0 (by omega)⟩
    · have w2 := zu_w32_id (z := a1 + x2) (by omega) (by omega)
      have b3 : 0 ≤ (zu_w32 (a1 + x2)) ∧ (zu_w32 (a1 + x2)) < 96 := by omega
      refine zw_if b3 ?_
      have r4 : 0 ≤ (mh a0 (zu_w32 (a1 + x2))) ∧ (mh a0 (zu_w32 (a1 + x2))) ≤ 3 := zi_rd hImh hc0 (zb_104 _)
      have b5 : 0 ≤ x2 ∧ x2 < 96 := by omega
      refine zw_if b5 ?_
      generalize hmm6 : zu_up mh a0 x2 (mh a0 (zu_w32 (a1 + x2))) = m6
      have hIm6 := zi_up hmm6 hImh hc0 (zb_104 _) (by omega) (by omega)
      have hFm6 := zfr_up hmm6 hFmh hc0 rfl
      have w7 := zu_w32_id (z := x2 + 1) (by omega) (by omega)
      have hM : (48 - (zu_w32 (x2 + 1))) * 1 + 0 < (k : Int) := by omega
      exact ih (zu_w32 (x2 + 1)) m6 hIm6 hFm6 ⟨by omega, by omega⟩ ⟨by omega, by omega⟩ (zcpl_s hmm6 rfl (by omega) (by omega) hH0 (by omega) (by omega)) (by omega) hM
set_option maxHeartbeats 4000000 in
theorem zk_32_104 (n : Nat) {a0 a1 : Int} {m0 : zu_m} (hIm0 : zi_I m0) (hc0 : zcls a0 = 104) (ha1 : 48 ≤ a1 ∧ a1 ≤ 48)     : zw (zu_call (zt_T n) 32 [(44, a0), (0, a1)] m0) (fun v m => zi_I m ∧ zfr [(104, 0)] m0 m ∧ True ∧ (zcpl m0 m a0 a1 a1)) := by
  have hFm0 : zfr [(104, 0)] m0 m0 := zfr_rf _ _
  refine zw_eq (zu_call_at (zt_T n) (zm_32 n) (zdp_32 n) _ _ _ _ _ rfl (zr_32b_0 n _ _ a0 a1 m0)) ?_
  have hM : (48 - 0) * 1 + 0 < ((49 : Nat) : Int) := by omega
  exact (zl_32_104 n (m0 := m0) hc0 49) 0 m0 hIm0 hFm0 ⟨by omega, by omega⟩ ⟨by omega, by omega⟩ (zcpl_0 _ _ _) (by omega) hM
set_option maxHeartbeats 4000000 in
theorem zl_32_106 (n : Nat) {a0 a1 : Int} {m0 : zu_m} (hc0 : zcls a0 = 106)   : ∀ k : Nat, (∀ (x2 : Int) (mh : zu_m), zi_I mh → zfr [(106, 0)] m0 mh → (18 ≤ a1 ∧ a1 ≤ 18) → (0 ≤ x2 ∧ x2 ≤ 18) → (zcpl m0 mh a0 a1 x2) → (x2 ≤ a1) → (18 - x2) * 1 + 0 < (k : Int) → zw (zu_ex (zt_T n) 32 2 [(45, a0), (0, a1), (0, x2)] [] mh) (fun v m => zi_I m ∧ zfr [(106, 0)] m0 m ∧ True ∧ (zcpl m0 m a0 a1 a1))) := by
  intro k
  induction k with
  | zero => exact fun x2 mh hImh hFmh hba1 hbx2 hH0 hH1 hM => by exfalso; omega
  | succ k ih =>
    intro x2 mh hImh hFmh hba1 hbx2 hH0 hH1 hM
    refine zw_eq (zu_rega_at (zt_T n) (zm_32 n) (zdp_32 n) _ _ _ _ _ _ (zr_32c_2 n _ _ a0 a1 x2 mh)) ?_
    refine zw_ite (fun h1 => ?_) (fun h1 => ?_)
    · exact zw_some ⟨hImh, hFmh, trivial, zcpl_e hH0 (by omega)⟩
    · have w2 := zu_w32_id (z := a1 + x2) (by omega) (by omega)
      have b3 : 0 ≤ (zu_w32 (a1 + x2)) ∧ (zu_w32 (a1 + x2)) < 36 := by omega
      refine zw_if b3 ?_
      have r4 : 0 ≤ (mh a0 (zu_w32 (a1 + x2))) ∧ (mh a0 (zu_w32 (a1 + x2))) ≤ 47 := zi_rd hImh hc0 (zb_106 _)
      have b5 : 0 ≤ x2 ∧ x2 < 36 := by omega
      refine zw_if b5 ?_
      generalize hmm6 : zu_up mh a0 x2 (mh a0 (zu_w32 (a1 + x2))) = m6
      have hIm6 := zi_up hmm6 hImh hc0 (zb_106 _) (by omega) (by omega)
      have hFm6 := zfr_up hmm6 hFmh hc0 rfl
      have w7 := zu_w32_id (z := x2 + 1) (by omega) (by omega)
      have hM : (18 - (zu_w32 (x2 + 1))) * 1 + 0 < (k : Int) := by omega
      exact ih (zu_w32 (x2 + 1)) m6 hIm6 hFm6 ⟨by omega, by omega⟩ ⟨by omega, by omega⟩ (zcpl_s hmm6 rfl (by omega) (by omega) hH0 (by omega) (by omega)) (by omega) hM
set_option maxHeartbeats 4000000 in
theorem zk_32_106 (n : Nat) {a0 a1 : Int} {m0 : zu_m} (hIm0 : zi_I m0) (hc0 : zcls a0 = 106) (ha1 : 18 ≤ a1 ∧ a1 ≤ 18)     : zw (zu_call (zt_T n) 32 [(45, a0), (0, a1)] m0) (fun v m => zi_I m ∧ zfr [(106, 0)] m0 m ∧ True ∧ (zcpl m0 m a0 a1 a1)) := by
  have hFm0 : zfr [(106, 0)] m0 m0 := zfr_rf _ _
  refine zw_eq (zu_call_at (zt_T n) (zm_32 n) (zdp_32 n) _ _ _ _ _ rfl (zr_32c_0 n _ _ a0 a1 m0)) ?_
  have hM : (18 - 0) * 1 + 0 < ((19 : Nat) : Int) := by omega
  exact (zl_32_106 n (m0 := m0) hc0 19) 0 m0 hIm0 hFm0 ⟨by omega, by omega⟩ ⟨by omega, by omega⟩ (zcpl_0 _ _ _) (by omega) hM
set_option maxHeartbeats 4000000 in
theorem zl_32_107 (n : Nat) {a0 a1 : Int} {m0 : zu_m} (hc0 : zcls a0 = 107)   : ∀ k : Nat, (∀ (x2 : Int) (mh : zu_m), zi_I mh → zfr [(107, 0)] m0 mh → (18 ≤ a1 ∧ a1 ≤ 18) → (0 ≤ x2 ∧ x2 ≤ 18) → (zcpl m0 mh a0 a1 x2) → (x2 ≤ a1) → (18 - x2) * 1 + 0 < (k : Int) → zw (zu_ex (zt_T n) 32 2 [(45, a0), (0, a1), (0, x2)] [] mh) (fun v m => zi_I m ∧ zfr [(107, 0)] m0 m ∧ True ∧ (zcpl m0 m a0 a1 a1))) := by
  intro k
  induction k with
  | zero => exact fun x2 mh hImh hFmh hba1 hbx2 hH0 hH1 hM => by exfalso; omega
  | succ k ih =>
    intro x2 mh hImh hFmh hba1 hbx2 hH0 hH1 hM
    refine zw_eq (zu_rega_at (zt_T n) (zm_32 n) (zdp_32 n) _ _ _ _ _ _ (zr_32c_2 n _ _ a0 a1 x2 mh)) ?_
    refine zw_ite (fun h1 => ?_) (fun h1 => ?_)
    · exact zw_some ⟨hImh, hFmh, trivial, zcpl_e hH0 (by omega)⟩
    · have w2 := zu_w32_id (z := a1 + x2) (by omega) (by omega)
      have b3 : 0 ≤ (zu_w32 (a1 + x2)) ∧ (zu_w32 (a1 + x2)) < 36 := by omega
      refine zw_if b3 ?_
      have r4 : 0 ≤ (mh a0 (zu_w32 (a1 + x2))) ∧ (mh a0 (zu_w32 (a1 + x2))) ≤ 3 := zi_rd hImh hc0 (zb_107 _)
      have b5 : 0 ≤ x2 ∧ x2 < 36 := by omega
      refine zw_if b5 ?_
      generalize hmm6 : zu_up mh a0 x2 (mh a0 (zu_w32 (a1 + x2))) = m6
      have hIm6 := zi_up hmm6 hImh hc0 (zb_107 _) (by omega) (by omega)
      have hFm6 := zfr_up hmm6 hFmh hc0 rfl
      have w7 := zu_w32_id (z := x2 + 1) (by omega) (by omega)
      have hM : (18 - (zu_w32 (x2 + 1))) * 1 + 0 < (k : Int) := by omega
      exact ih (zu_w32 (x2 + 1)) m6 hIm6 hFm6 ⟨by omega, by omega⟩ ⟨by omega, by omega⟩ (zcpl_s hmm6 rfl (by omega) (by omega) hH0 (by omega) (by omega)) (by omega) hM
set_option maxHeartbeats 4000000 in
theorem zk_32_107 (n : Nat) {a0 a1 : Int} {m0 : zu_m} (hIm0 : zi_I m0) (hc0 : zcls a0 = 107) (ha1 : 18 ≤ a1 ∧ a1 ≤ 18)     : zw (zu_call (zt_T n) 32 [(45, a0), (0, a1)] m0) (fun v m => zi_I m ∧ zfr [(107, 0)] m0 m ∧ True ∧ (zcpl m0 m a0 a1 a1)) := by
  have hFm0 : zfr [(107, 0)] m0 m0 := zfr_rf _ _
  refine zw_eq (zu_call_at (zt_T n) (zm_32 n) (zdp_32 n) _ _ _ _ _ rfl (zr_32c_0 n _ _ a0 a1 m0)) ?_
  have hM : (18 - 0) * 1 + 0 < ((19 : Nat) : Int) := by omega
  exact (zl_32_107 n (m0 := m0) hc0 19) 0 m0 hIm0 hFm0 ⟨by omega, by omega⟩ ⟨by omega, by omega⟩ (zcpl_0 _ _ _) (by omega) hM
set_option maxHeartbeats 4000000 in
theorem zl_32_108 (n : Nat) {a0 a1 : Int} {m0 : zu_m} (hc0 : zcls a0 = 108)   : ∀ k : Nat, (∀ (x2 : Int) (mh : zu_m), zi_I mh → zfr [(108, 0)] m0 mh → (18 ≤ a1 ∧ a1 ≤ 18) → (0 ≤ x2 ∧ x2 ≤ 18) → (zcpl m0 mh a0 a1 x2) → (x2 ≤ a1) → (18 - x2) * 1 + 0 < (k : Int) → zw (zu_ex (zt_T n) 32 2 [(45, a0), (0, a1), (0, x2)] [] mh) (fun v m => zi_I m ∧ zfr [(108, 0)] m0 m ∧ True ∧ (zcpl m0 m a0 a1 a1))) := by
  intro k
  induction k with
  | zero => exact fun x2 mh hImh hFmh hba1 hbx2 hH0 hH1 hM => by exfalso; omega
  | succ k ih =>
    intro x2 mh hImh hFmh hba1 hbx2 hH0 hH1 hM
    refine zw_eq (zu_rega_at (zt_T n) (zm_32 n) (zdp_32 n) _ _ _ _ _ _ (zr_32c_2 n _ _ a0 a1 x2 mh)) ?_
    refine zw_ite (fun h1 => ?_) (fun h1 => ?_)
    · exact zw_some ⟨hImh, hFmh, trivial, zcpl_e hH0 (by omega)⟩
    · have w2 := zu_w32_id (z := a1 + x2) (by omega) (by omega)
      have b3 : 0 ≤ (zu_w32 (a1 + x2)) ∧ (zu_w32 (a1 + x2)) < 36 := by omega
      refine zw_if b3 ?_
      have r4 : 0 ≤ (mh a0 (zu_w32 (a1 + x2))) ∧ (mh a0 (zu_w32 (a1 + x2))) ≤ 9 := zi_rd hImh hc0 (zb_108 _)
      have b5 : 0 ≤ x2 ∧ x2 < 36 := by omega
      refine zw_if b5 ?_
      generalize hmm6 : zu_up mh a0 x2 (mh a0 (zu_w32 (a1 + x2))) = m6
      have hIm6 := zi_up hmm6 hImh hc0 (zb_108 _) (by omega) (by omega)
      have hFm6 := zfr_up hmm6 hFmh hc0 rfl
      have w7 := zu_w32_id (z := x2 + 1) (by omega) (by omega)
      have hM : (18 - (zu_w32 (x2 + 1))) * 1 + 0 < (k : Int) := by omega
      exact ih (zu_w32 (x2 + 1)) m6 hIm6 hFm6 ⟨by omega, by omega⟩ ⟨by omega, by omega⟩ (zcpl_s hmm6 rfl (by omega) (by omega) hH0 (by omega) (by omega)) (by omega) hM
set_option maxHeartbeats 4000000 in
theorem zk_32_108 (n : Nat) {a0 a1 : Int} {m0 : zu_m} (hIm0 : zi_I m0) (hc0 : zcls a0 = 108) (ha1 : 18 ≤ a1 ∧ a1 ≤ 18)     : zw (zu_call (zt_T n) 32 [(45, a0), (0, a1)] m0) (fun v m => zi_I m ∧ zfr [(108, 0)] m0 m ∧ True ∧ (zcpl m0 m a0 a1 a1)) := by
  have hFm0 : zfr [(108, 0)] m0 m0 := zfr_rf _ _
  refine zw_eq (zu_call_at (zt_T n) (zm_32 n) (zdp_32 n) _ _ _ _ _ rfl (zr_32c_0 n _ _ a0 a1 m0)) ?_
  have hM : (18 - 0) * 1 + 0 < ((19 : Nat) : Int) := by omega
  exact (zl_32_108 n (m0 := m0) hc0 19) 0 m0 hIm0 hFm0 ⟨by omega, by omega⟩ ⟨by omega, by omega⟩ (zcpl_0 _ _ _) (by omega) hM
set_option maxHeartbeats 4000000 in
theorem zl_32_109 (n : Nat) {a0 a1 : Int} {m0 : zu_m} (hc0 : zcls a0 = 109)   : ∀ k : Nat, (∀ (x2 : Int) (mh : zu_m), zi_I mh → zfr [(109, 0)] m0 mh → (4 ≤ a1 ∧ a1 ≤ 4) → (0 ≤ x2 ∧ x2 ≤ 4) → (zcpl m0 mh a0 a1 x2) → (x2 ≤ a1) → (4 - x2) * 1 + 0 < (k : Int) → zw (zu_ex (zt_T n) 32 2 [(46, a0), (0, a1), (0, x2)] [] mh) (fun v m => zi_I m ∧ zfr [(109, 0)] m0 m ∧ True ∧ (zcpl m0 m a0 a1 a1))) := by
  intro k
  induction k with
  | zero => exact fun x2 mh hImh hFmh hba1 hbx2 hH0 hH1 hM => by exfalso; omega
  | succ k ih =>
    intro x2 mh hImh hFmh hba1 hbx2 hH0 hH1 hM
    refine zw_eq (zu_rega_at (zt_T n) (zm_32 n) (zdp_32 n) _ _ _ _ _ _ (zr_32d_2 n _ _ a0 a1 x2 mh)) ?_
    refine zw_ite (fun h1 => ?_) (fun h1 => ?_)
    · exact zw_some ⟨hImh, hFmh, trivial, zcpl_e hH0 (by omega)⟩
    · have w2 := zu_w32_id (z := a1 + x2) (by omega) (by omega)
      have b3 : 0 ≤ (zu_w32 (a1 + x2)) ∧ (zu_w32 (a1 + x2)) < 8 := by omega
      refine zw_if b3 ?_
      have r4 : (-2147483648) ≤ (mh a0 (zu_w32 (a1 + x2))) ∧ (mh a0 (zu_w32 (a1 + x2))) ≤ 2147483647 := zi_rd hImh hc0 (zb_109 _)
      have b5 : 0 ≤ x2 ∧ x2 < 8 := by omega
      refine zw_if b5 ?_
      generalize hmm6 : zu_up mh a0 x2 (mh a0 (zu_w32 (a1 + x2))) = m6
      have hIm6 := zi_up hmm6 hImh hc0 (zb_109 _) (by omega) (by omega)
      have hFm6 := zfr_up hmm6 hFmh hc0 rfl
      have w7 := zu_w32_id (z := x2 + 1) (by omega) (by omega)
      have hM : (4 - (zu_w32 (x2 + 1))) * 1 + 0 < (k : Int) := by omega
      exact ih (zu_w32 (x2 + 1)) m6 hIm6 hFm6 ⟨by omega, by omega⟩ ⟨by omega, by omega⟩ (zcpl_s hmm6 rfl (by omega) (by omega) hH0 (by omega) (by omega)) (by omega) hM
set_option maxHeartbeats 4000000 in
theorem zk_32_109 (n : Nat) {a0 a1 : Int} {m0 : zu_m} (hIm0 : zi_I m0) (hc0 : zcls a0 = 109) (ha1 : 4 ≤ a1 ∧ a1 ≤ 4)     : zw (zu_call (zt_T n) 32 [(46, a0), (0, a1)] m0) (fun v m => zi_I m ∧ zfr [(109, 0)] m0 m ∧ True ∧ (zcpl m0 m a0 a1 a1)) := by
  have hFm0 : zfr [(109, 0)] m0 m0 := zfr_rf _ _
  refine zw_eq (zu_call_at (zt_T n) (zm_32 n) (zdp_32 n) _ _ _ _ _ rfl (zr_32d_0 n _ _ a0 a1 m0)) ?_
  have hM : (4 - 0) * 1 + 0 < ((5 : Nat) : Int) := by omega
  exact (zl_32_109 n (m0 := m0) hc0 5) 0 m0 hIm0 hFm0 ⟨by omega, by omega⟩ ⟨by omega, by omega⟩ (zcpl_0 _ _ _) (by omega) hM
set_option maxHeartbeats 4000000 in
theorem zl_32_110 (n : Nat) {a0 a1 : Int} {m0 : zu_m} (hc0 : zcls a0 = 110)   : ∀ k : Nat, (∀ (x2 : Int) (mh : zu_m), zi_I mh → zfr [(110, 0)] m0 mh → (4 ≤ a1 ∧ a1 ≤ 4) → (0 ≤ x2 ∧ x2 ≤ 4) → (zcpl m0 mh a0 a1 x2) → (x2 ≤ a1) → (4 - x2) * 1 + 0 < (k : Int) → zw (zu_ex (zt_T n) 32 2 [(46, a0), (0, a1), (0, x2)] [] mh) (fun v m => zi_I m ∧ zfr [(110, 0)] m0 m ∧ True ∧ (zcpl m0 m a0 a1 a1))) := by
  intro k
  induction k with
  | zero => exact fun x2 mh hImh hFmh hba1 hbx2 hH0 hH1 hM => by exfalso; omega
  | succ k ih =>
    intro x2 mh hImh hFmh hba1 hbx2 hH0 hH1 hM
    refine zw_eq (zu_rega_at (zt_T n) (zm_32 n) (zdp_32 n) _ _ _ _ _ _ (zr_32d_2 n _ _ a0 a1 x2 mh)) ?_
    refine zw_ite (fun h1 => ?_) (fun h1 => ?_)
    · exact zw_some ⟨hImh, hFmh, trivial, zcpl_e hH0 (by omega)⟩
    · have w2 := zu_w32_id (z := a1 + x2) (by omega) (by omega)
      have b3 : 0 ≤ (zu_w32 (a1 + x2)) ∧ (zu_w32 (a1 + x2)) < 8 := by omega
      refine zw_if b3 ?_
      have r4 : 0 ≤ (mh a0 (zu_w32 (a1 + x2))) ∧ (mh a0 (zu_w32 (a1 + x2))) ≤ 47 := zi_rd hImh hc0 (zb_110 _)
      have b5 : 0 ≤ x2 ∧ x2 < 8 := by omega
      refine zw_if b5 ?_
      generalize hmm6 : zu_up mh a0 x2 (mh a0 (zu_w32 (a1 + x2))) = m6
      have hIm6 := zi_up hmm6 hImh hc0 (zb_110 _) (by omega) (by omega)
      have hFm6 := zfr_up hmm6 hFmh hc0 rfl
      have w7 := zu_w32_id (z := x2 + 1) (by omega) (by omega)
      have hM : (4 - (zu_w32 (x2 + 1))) * 1 + 0 < (k : Int) := by omega
      exact ih (zu_w32 (x2 + 1)) m6 hIm6 hFm6 ⟨by omega, by omega⟩ ⟨by omega, by omega⟩ (zcpl_s hmm6 rfl (by omega) (by omega) hH0 (by omega) (by omega)) (by omega) hM
set_option maxHeartbeats 4000000 in
theorem zk_32_110 (n : Nat) {a0 a1 : Int} {m0 : zu_m} (hIm0 : zi_I m0) (hc0 : zcls a0 = 110) (ha1 : 4 ≤ a1 ∧ a1 ≤ 4)     : zw (zu_call (zt_T n) 32 [(46, a0), (0, a1)] m0) (fun v m => zi_I m ∧ zfr [(110, 0)] m0 m ∧ True ∧ (zcpl m0 m a0 a1 a1)) := by
  have hFm0 : zfr [(110, 0)] m0 m0 := zfr_rf _ _
  refine zw_eq (zu_call_at (zt_T n) (zm_32 n) (zdp_32 n) _ _ _ _ _ rfl (zr_32d_0 n _ _ a0 a1 m0)) ?_
  have hM : (4 - 0) * 1 + 0 < ((5 : Nat) : Int) := by omega
  exact (zl_32_110 n (m0 := m0) hc0 5) 0 m0 hIm0 hFm0 ⟨by omega, by omega⟩ ⟨by omega, by omega⟩ (zcpl_0 _ _ _) (by omega) hM
set_option maxHeartbeats 4000000 in
theorem zl_32_111 (n : Nat) {a0 a1 : Int} {m0 : zu_m} (hc0 : zcls a0 = 111)   : ∀ k : Nat, (∀ (x2 : Int) (mh : zu_m), zi_I mh → zfr [(111, 0)] m0 mh → (4 ≤ a1 ∧ a1 ≤ 4) → (0 ≤ x2 ∧ x2 ≤ 4) → (zcpl m0 mh a0 a1 x2) → (x2 ≤ a1) → (4 - x2) * 1 + 0 < (k : Int) → zw (zu_ex (zt_T n) 32 2 [(46, a0), (0, a1), (0, x2)] [] mh) (fun v m => zi_I m ∧ zfr [(111, 0)] m0 m ∧ True ∧ (zcpl m0 m a0 a1 a1))) := by
  intro k
  induction k with
  | zero => exact fun x2 mh hImh hFmh hba1 hbx2 hH0 hH1 hM => by exfalso; omega
  | succ k ih =>
    intro x2 mh hImh hFmh hba1 hbx2 hH0 hH1 hM
    refine zw_eq (zu_rega_at (zt_T n) (zm_32 n) (zdp_32 n) _ _ _ _ _ _ (zr_32d_2 n _ _ a0 a1 x2 mh)) ?_
    refine zw_ite (fun h1 => ?_) (fun h1 => ?_)
    · exact zw_some ⟨hImh, hFmh, trivial, zcpl_e hH0 (by omega)⟩
    · have w2 := zu_w32_id (z := a1 + x2) (by omega) (by omega)
      have b3 : 0 ≤ (zu_w32 (a1 + x2)) ∧ (zu_w32 (a1 + x2)) < 8 := by omega
      refine zw_if b3 ?_
      have r4 : 0 ≤ (mh a0 (zu_w32 (a1 + x2))) ∧ (mh a0 (zu_w32 (a1 + x2))) ≤ 15 := zi_rd hImh hc0 (zb_111 _)
      have b5 : 0 ≤ x2 ∧ x2 < 8 := by omega
      refine zw_if b5 ?_
      generalize hmm6 : zu_up mh a0 x2 (mh a0 (zu_w32 (a1 + x2))) = m6
      have hIm6 := zi_up hmm6 hImh hc0 (zb_111 _) (by omega) (by omega)
      have hFm6 := zfr_up hmm6 hFmh hc0 rfl
      have w7 := zu_w32_id (z := x2 + 1) (by omega) (by omega)
      have hM : (4 - (zu_w32 (x2 + 1))) * 1 + 0 < (k : Int) := by omega
      exact ih (zu_w32 (x2 + 1)) m6 hIm6 hFm6 ⟨by omega, by omega⟩ ⟨by omega, by omega⟩ (zcpl_s hmm6 rfl (by omega) (by omega) hH0 (by omega) (by omega)) (by omega) hM
set_option maxHeartbeats 4000000 in
theorem zk_32_111 (n : Nat) {a0 a1 : Int} {m0 : zu_m} (hIm0 : zi_I m0) (hc0 : zcls a0 = 111) (ha1 : 4 ≤ a1 ∧ a1 ≤ 4)     : zw (zu_call (zt_T n) 32 [(46, a0), (0, a1)] m0) (fun v m => zi_I m ∧ zfr [(111, 0)] m0 m ∧ True ∧ (zcpl m0 m a0 a1 a1)) := by
  have hFm0 : zfr [(111, 0)] m0 m0 := zfr_rf _ _
  refine zw_eq (zu_call_at (zt_T n) (zm_32 n) (zdp_32 n) _ _ _ _ _ rfl (zr_32d_0 n _ _ a0 a1 m0)) ?_
  have hM : (4 - 0) * 1 + 0 < ((5 : Nat) : Int) := by omega
  exact (zl_32_111 n (m0 := m0) hc0 5) 0 m0 hIm0 hFm0 ⟨by omega, by omega⟩ ⟨by omega, by omega⟩ (zcpl_0 _ _ _) (by omega) hM
set_option maxHeartbeats 4000000 in
theorem zl_32_112 (n : Nat) {a0 a1 : Int} {m0 : zu_m} (hc0 : zcls a0 = 112)   : ∀ k : Nat, (∀ (x2 : Int) (mh : zu_m), zi_I mh → zfr [(112, 0)] m0 mh → (4 ≤ a1 ∧ a1 ≤ 4) → (0 ≤ x2 ∧ x2 ≤ 4) → (zcpl m0 mh a0 a1 x2) → (x2 ≤ a1) → (4 - x2) * 1 + 0 < (k : Int) → zw (zu_ex (zt_T n) 32 2 [(46, a0), (0, a1), (0, x2)] [] mh) (fun v m => zi_I m ∧ zfr [(112, 0)] m0 m ∧ True ∧ (zcpl m0 m a0 a1 a1))) := by
  intro k
  induction k with
  | zero => exact fun x2 mh hImh hFmh hba1 hbx2 hH0 hH1 hM => by exfalso; omega
  | succ k ih =>
    intro x2 mh hImh hFmh hba1 hbx2 hH0 hH1 hM
    refine zw_eq (zu_rega_at (zt_T n) (zm_32 n) (zdp_32 n) _ _ _ _ _ _ (zr_32d_2 n _ _ a0 a1 x2 mh)) ?_
    refine zw_ite (fun h1 => ?_) (fun h1 => ?_)
    · exact zw_some ⟨hImh, hFmh, trivial, zcpl_e hH0 (by omega)⟩
    · have w2 := zu_w32_id (z := a1 + x2) (by omega) (by omega)
      have b3 : 0 ≤ (zu_w32 (a1 + x2)) ∧ (zu_w32 (a1 + x2)) < 8 := by omega
      refine zw_if b3 ?_
      have r4 : 0 ≤ (mh a0 (zu_w32 (a1 + x2))) ∧ (mh a0 (zu_w32 (a1 + x2))) ≤ 3 := zi_rd hImh hc0 (zb_112 _)
      have b5 : 0 ≤ x2 ∧ x2 < 8 := by omega
      refine zw_if b5 ?_
      generalize hmm6 : zu_up mh a0 x2 (mh a0 (zu_w32 (a1 + x2))) = m6
      have hIm6 := zi_up hmm6 hImh hc0 (zb_112 _) (by omega) (by omega)
      have hFm6 := zfr_up hmm6 hFmh hc0 rfl
      have w7 := zu_w32_id (z := x2 + 1) (by omega) (by omega)
      have hM : (4 - (zu_w32 (x2 + 1))) * 1 + 0 < (k : Int) := by omega
      exact ih (zu_w32 (x2 + 1)) m6 hIm6 hFm6 ⟨by omega, by omega⟩ ⟨by omega, by omega⟩ (zcpl_s hmm6 rfl (by omega) (by omega) hH0 (by omega) (by omega)) (by omega) hM
set_option maxHeartbeats 4000000 in
theorem zk_32_112 (n : Nat) {a0 a1 : Int} {m0 : zu_m} (hIm0 : zi_I m0) (hc0 : zcls a0 = 112) (ha1 : 4 ≤ a1 ∧ a1 ≤ 4)     : zw (zu_call (zt_T n) 32 [(46, a0), (0, a1)] m0) (fun v m => zi_I m ∧ zfr [(112, 0)] m0 m ∧ True ∧ (zcpl m0 m a0 a1 a1)) := by
  have hFm0 : zfr [(112, 0)] m0 m0 := zfr_rf _ _
  refine zw_eq (zu_call_at (zt_T n) (zm_32 n) (zdp_32 n) _ _ _ _ _ rfl (zr_32d_0 n _ _ a0 a1 m0)) ?_
  have hM : (4 - 0) * 1 + 0 < ((5 : Nat) : Int) := by omega
  exact (zl_32_112 n (m0 := m0) hc0 5) 0 m0 hIm0 hFm0 ⟨by omega, by omega⟩ ⟨by omega, by omega⟩ (zcpl_0 _ _ _) (by omega) hM
set_option maxHeartbeats 4000000 in
theorem zl_32_113 (n : Nat) {a0 a1 : Int} {m0 : zu_m} (hc0 : zcls a0 = 113)   : ∀ k : Nat, (∀ (x2 : Int) (mh : zu_m), zi_I mh → zfr [(113, 0)] m0 mh → (4 ≤ a1 ∧ a1 ≤ 4) → (0 ≤ x2 ∧ x2 ≤ 4) → (zcpl m0 mh a0 a1 x2) → (x2 ≤ a1) → (4 - x2) * 1 + 0 < (k : Int) → zw (zu_ex (zt_T n) 32 2 [(46, a0), (0, a1), (0, x2)] [] mh) (fun v m => zi_I m ∧ zfr [(113, 0)] m0 m ∧ True ∧ (zcpl m0 m a0 a1 a1))) := by
  intro k
  induction k with
  | zero => exact fun x2 mh hImh hFmh hba1 hbx2 hH0 hH1 hM => by exfalso; omega
  | succ k ih =>
    intro x2 mh hImh hFmh hba1 hbx2 hH0 hH1 hM
    refine zw_eq (zu_rega_at (zt_T n) (zm_32 n) (zdp_32 n) _ _ _ _ _ _ (zr_32d_2 n _ _ a0 a1 x2 mh)) ?_
    refine zw_ite (fun h1 => ?_) (fun h1 => ?_)
    · exact zw_some ⟨hImh, hFmh, trivial, zcpl_e hH0 (by omega)⟩
    · have w2 := zu_w32_id (z := a1 + x2) (by omega) (by omega)
      have b3 : 0 ≤ (zu_w32 (a1 + x2)) ∧ (zu_w32 (a1 + x2)) < 8 := by omega
      refine zw_if b3 ?_
      have r4 : 0 ≤ (mh a0 (zu_w32 (a1 + x2))) ∧ (mh a0 (zu_w32 (a1 + x2))) ≤ 99 := zi_rd hImh hc0 (zb_113 _)
      have b5 : 0 ≤ x2 ∧ x2 < 8 := by omega
      refine zw_if b5 ?_
      generalize hmm6 : zu_up mh a0 x2 (mh a0 (zu_w32 (a1 + x2))) = m6
      have hIm6 := zi_up hmm6 hImh hc0 (zb_113 _) (by omega) (by omega)
      have hFm6 := zfr_up hmm6 hFmh hc0 rfl
      have w7 := zu_w32_id (z := x2 + 1) (by omega) (by omega)
      have hM : (4 - (zu_w32 (x2 + 1))) * 1 + 0 < (k : Int) := by omega
      exact ih (zu_w32 (x2 + 1)) m6 hIm6 hFm6 ⟨by omega, by omega⟩ ⟨by omega, by omega⟩ (zcpl_s hmm6 rfl (by omega) (by omega) hH0 (by omega) (by omega)) (by omega) hM
set_option maxHeartbeats 4000000 in
theorem zk_32_113 (n : Nat) {a0 a1 : Int} {m0 : zu_m} (hIm0 : zi_I m0) (hc0 : zcls a0 = 113) (ha1 : 4 ≤ a1 ∧ a1 ≤ 4)     : zw (zu_call (zt_T n) 32 [(46, a0), (0, a1)] m0) (fun v m => zi_I m ∧ zfr [(113, 0)] m0 m ∧ True ∧ (zcpl m0 m a0 a1 a1)) := by
  have hFm0 : zfr [(113, 0)] m0 m0 := zfr_rf _ _
  refine zw_eq (zu_call_at (zt_T n) (zm_32 n) (zdp_32 n) _ _ _ _ _ rfl (zr_32d_0 n _ _ a0 a1 m0)) ?_
  have hM : (4 - 0) * 1 + 0 < ((5 : Nat) : Int) := by omega
  exact (zl_32_113 n (m0 := m0) hc0 5) 0 m0 hIm0 hFm0 ⟨by omega, by omega⟩ ⟨by omega, by omega⟩ (zcpl_0 _ _ _) (by omega) hM
set_option maxHeartbeats 4000000 in
theorem zl_32_115 (n : Nat) {a0 a1 : Int} {m0 : zu_m} (hc0 : zcls a0 = 115)   : ∀ k : Nat, (∀ (x2 : Int) (mh : zu_m), zi_I mh → zfr [(115, 0)] m0 mh → (4 ≤ a1 ∧ a1 ≤ 4) → (0 ≤ x2 ∧ x2 ≤ 4) → (zcpl m0 mh a0 a1 x2) → (x2 ≤ a1) → (4 - x2) * 1 + 0 < (k : Int) → zw (zu_ex (zt_T n) 32 2 [(46, a0), (0, a1), (0, x2)] [] mh) (fun v m => zi_I m ∧ zfr [(115, 0)] m0 m ∧ True ∧ (zcpl m0 m a0 a1 a1))) := by
  intro k
  induction k with
  | zero => exact fun x2 mh hImh hFmh hba1 hbx2 hH0 hH1 hM => by exfalso; omega
  | succ k ih =>
    intro x2 mh hImh hFmh hba1 hbx2 hH0 hH1 hM
    refine zw_eq (zu_rega_at (zt_T n) (zm_32 n) (zdp_32 n) _ _ _ _ _ _ (zr_32d_2 n _ _ a0 a1 x2 mh)) ?_
    refine zw_ite (fun h1 => ?_) (fun h1 => ?_)
    · exact zw_some ⟨hImh, hFmh, trivial, zcpl_e hH0 (by omega)⟩
    · have w2 := zu_w32_id (z := a1 + x2) (by omega) (by omega)
      have b3 : 0 ≤ (zu_w32 (a1 + x2)) ∧ (zu_w32 (a1 + x2)) < 8 := by omega
      refine zw_if b3 ?_
      have r4 : 0 ≤ (mh a0 (zu_w32 (a1 + x2))) ∧ (mh a0 (zu_w32 (a1 + x2))) ≤ 64 := zi_rd hImh hc0 (zb_115 _)
      have b5 : 0 ≤ x2 ∧ x2 < 8 := by omega
      refine zw_if b5 ?_
      generalize hmm6 : zu_up mh a0 x2 (mh a0 (zu_w32 (a1 + x2))) = m6
      have hIm6 := zi_up hmm6 hImh hc0 (zb_115 _) (by omega) (by omega)
      have hFm6 := zfr_up hmm6 hFmh hc0 rfl
      have w7 := zu_w32_id (z := x2 + 1) (by omega) (by omega)
      have hM : (4 - (zu_w32 (x2 + 1))) * 1 + 0 < (k : Int) := by omega
      exact ih (zu_w32 (x2 + 1)) m6 hIm6 hFm6 ⟨by omega, by omega⟩ ⟨by omega, by omega⟩ (zcpl_s hmm6 rfl (by omega) (by omega) hH0 (by omega) (by omega)) (by omega) hM
set_option maxHeartbeats 4000000 in
theorem zk_32_115 (n : Nat) {a0 a1 : Int} {m0 : zu_m} (hIm0 : zi_I m0) (hc0 : zcls a0 = 115) (ha1 : 4 ≤ a1 ∧ a1 ≤ 4)     : zw (zu_call (zt_T n) 32 [(46, a0), (0, a1)] m0) (fun v m => zi_I m ∧ zfr [(115, 0)] m0 m ∧ True ∧ (zcpl m0 m a0 a1 a1)) := by
  have hFm0 : zfr [(115, 0)] m0 m0 := zfr_rf _ _
  refine zw_eq (zu_call_at (zt_T n) (zm_32 n) (zdp_32 n) _ _ _ _ _ rfl (zr_32d_0 n _ _ a0 a1 m0)) ?_
  have hM : (4 - 0) * 1 + 0 < ((5 : Nat) : Int) := by omega
  exact (zl_32_115 n (m0 := m0) hc0 5) 0 m0 hIm0 hFm0 ⟨by omega, by omega⟩ ⟨by omega, by omega⟩ (zcpl_0 _ _ _) (by omega) hM
set_option maxHeartbeats 4000000 in
theorem zl_32_116 (n : Nat) {a0 a1 : Int} {m0 : zu_m} (hc0 : zcls a0 = 116)   : ∀ k : Nat, (∀ (x2 : Int) (mh : zu_m), zi_I mh → zfr [(116, 0)] m0 mh → (4 ≤ a1 ∧ a1 ≤ 4) → (0 ≤ x2 ∧ x2 ≤ 4) → (zcpl m0 mh a0 a1 x2) → (x2 ≤ a1) → (4 - x2) * 1 + 0 < (k : Int) → zw (zu_ex (zt_T n) 32 2 [(46, a0), (0, a1), (0, x2)] [] mh) (fun v m => zi_I m ∧ zfr [(116, 0)] m0 m ∧ True ∧ (zcpl m0 m a0 a1 a1))) := by
  intro k
  induction k with
  | zero => exact fun x2 mh hImh hFmh hba1 hbx2 hH0 hH1 hM => by exfalso; omega
  | succ k ih =>
    intro x2 mh hImh hFmh hba1 hbx2 hH0 hH1 hM
    refine zw_eq (zu_rega_at (zt_T n) (zm_32 n) (zdp_32 n) _ _ _ _ _ _ (zr_32d_2 n _ _ a0 a1 x2 mh)) ?_
    refine zw_ite (fun h1 => ?_) (fun h1 => ?_)
    · exact zw_some ⟨hImh, hFmh, trivial, zcpl_e hH0 (by omega)⟩
    · have w2 := zu_w32_id (z := a1 + x2) (by omega) (by omega)
      have b3 : 0 ≤ (zu_w32 (a1 + x2)) ∧ (zu_w32 (a1 + x2)) < 8 := by omega
      refine zw_if b3 ?_
      have r4 : 0 ≤ (mh a0 (zu_w32 (a1 + x2))) ∧ (mh a0 (zu_w32 (a1 + x2))) ≤ 64 := zi_rd hImh hc0 (zb_116 _)
      have b5 : 0 ≤ x2 ∧ x2 < 8 := by omega
      refine zw_if b5 ?_
      generalize hmm6 : zu_up mh a0 x2 (mh a0 (zu_w32 (a1 + x2))) = m6
      have hIm6 := zi_up hmm6 hImh hc0 (zb_116 _) (by omega) (by omega)
      have hFm6 := zfr_up hmm6 hFmh hc0 rfl
      have w7 := zu_w32_id (z := x2 + 1) (by omega) (by omega)
      have hM : (4 - (zu_w32 (x2 + 1))) * 1 + 0 < (k : Int) := by omega
      exact ih (zu_w32 (x2 + 1)) m6 hIm6 hFm6 ⟨by omega, by omega⟩ ⟨by omega, by omega⟩ (zcpl_s hmm6 rfl (by omega) (by omega) hH0 (by omega) (by omega)) (by omega) hM
set_option maxHeartbeats 4000000 in
theorem zk_32_116 (n : Nat) {a0 a1 : Int} {m0 : zu_m} (hIm0 : zi_I m0) (hc0 : zcls a0 = 116) (ha1 : 4 ≤ a1 ∧ a1 ≤ 4)     : zw (zu_call (zt_T n) 32 [(46, a0), (0, a1)] m0) (fun v m => zi_I m ∧ zfr [(116, 0)] m0 m ∧ True ∧ (zcpl m0 m a0 a1 a1)) := by
  have hFm0 : zfr [(116, 0)] m0 m0 := zfr_rf _ _
  refine zw_eq (zu_call_at (zt_T n) (zm_32 n) (zdp_32 n) _ _ _ _ _ rfl (zr_32d_0 n _ _ a0 a1 m0)) ?_
  have hM : (4 - 0) * 1 + 0 < ((5 : Nat) : Int) := by omega
  exact (zl_32_116 n (m0 := m0) hc0 5) 0 m0 hIm0 hFm0 ⟨by omega, by omega⟩ ⟨by omega, by omega⟩ (zcpl_0 _ _ _) (by omega) hM
set_option maxHeartbeats 4000000 in
theorem zl_32_117 (n : Nat) {a0 a1 : Int} {m0 : zu_m} (hc0 : zcls a0 = 117)   : ∀ k : Nat, (∀ (x2 : Int) (mh : zu_m), zi_I mh → zfr [(117, 0)] m0 mh → (64 ≤ a1 ∧ a1 ≤ 64) → (0 ≤ x2 ∧ x2 ≤ 64) → (zcpl m0 mh a0 a1 x2) → (x2 ≤ a1) → (64 - x2) * 1 + 0 < (k : Int) → zw (zu_ex (zt_T n) 32 2 [(48, a0), (0, a1), (0, x2)] [] mh) (fun v m => zi_I m ∧ zfr [(117, 0)] m0 m ∧ True ∧ (zcpl m0 m a0 a1 a1))) := by
  intro k
  induction k with
  | zero => exact fun x2 mh hImh hFmh hba1 hbx2 hH0 hH1 hM => by exfalso; omega
  | succ k ih =>
    intro x2 mh hImh hFmh hba1 hbx2 hH0 hH1 hM
    refine zw_eq (zu_rega_at (zt_T n) (zm_32 n) (zdp_32 n) _ _ _ _ _ _ (zr_32e_2 n _ _ a0 a1 x2 mh)) ?_
    refine zw_ite (fun h1 => ?_) (fun h1 => ?_)
    · exact zw_some ⟨hImh, hFmh, trivial, zcpl_e hH0 (by omega)⟩
    · have w2 := zu_w32_id (z := a1 + x2) (by omega) (by omega)
      have b3 : 0 ≤ (zu_w32 (a1 + x2)) ∧ (zu_w32 (a1 + x2)) < 128 := by omega
      refine zw_if b3 ?_
      have r4 : 0 ≤ (mh a0 (zu_w32 (a1 + x2))) ∧ (mh a0 (zu_w32 (a1 + x2))) ≤ 14 := zi_rd hImh hc0 (zb_117 _)
      have b5 : 0 ≤ x2 ∧ x2 < 128 := by omega
      refine zw_if b5 ?_
      generalize hmm6 : zu_up mh a0 x2 (mh a0 (zu_w32 (a1 + x2))) = m6
      have hIm6 := zi_up hmm6 hImh hc0 (zb_117 _) (by omega) (by omega)
      have hFm6 := zfr_up hmm6 hFmh hc0 rfl
      have w7 := zu_w32_id (z := x2 + 1) (by omega) (by omega)
      have hM : (64 - (zu_w32 (x2 + 1))) * 1 + 0 < (k : Int) := by omega
      exact ih (zu_w32 (x2 + 1)) m6 hIm6 hFm6 ⟨by omega, by omega⟩ ⟨by omega, by omega⟩ (zcpl_s hmm6 rfl (by omega) (by omega) hH0 (by omega) (by omega)) (by omega) hM
set_option maxHeartbeats 4000000 in
theorem zk_32_117 (n : Nat) {a0 a1 : Int} {m0 : zu_m} (hIm0 : zi_I m0) (hc0 : zcls a0 = 117) (ha1 : 64 ≤ a1 ∧ a1 ≤ 64)     : zw (zu_call (zt_T n) 32 [(48, a0), (0, a1)] m0) (fun v m => zi_I m ∧ zfr [(117, 0)] m0 m ∧ True ∧ (zcpl m0 m a0 a1 a1)) := by
  have hFm0 : zfr [(117, 0)] m0 m0 := zfr_rf _ _
  refine zw_eq (zu_call_at (zt_T n) (zm_32 n) (zdp_32 n) _ _ _ _ _ rfl (zr_32e_0 n _ _ a0 a1 m0)) ?_
  have hM : (64 - 0) * 1 + 0 < ((65 : Nat) : Int) := by omega
  exact (zl_32_117 n (m0 := m0) hc0 65) 0 m0 hIm0 hFm0 ⟨by omega, by omega⟩ ⟨by omega, by omega⟩ (zcpl_0 _ _ _) (by omega) hM
set_option maxHeartbeats 4000000 in
theorem zl_32_118 (n : Nat) {a0 a1 : Int} {m0 : zu_m} (hc0 : zcls a0 = 118)   : ∀ k : Nat, (∀ (x2 : Int) (mh : zu_m), zi_I mh → zfr [(118, 0)] m0 mh → (64 ≤ a1 ∧ a1 ≤ 64) → (0 ≤ x2 ∧ x2 ≤ 64) → (zcpl m0 mh a0 a1 x2) → (x2 ≤ a1) → (64 - x2) * 1 + 0 < (k : Int) → zw (zu_ex (zt_T n) 32 2 [(48, a0), (0, a1), (0, x2)] [] mh) (fun v m => zi_I m ∧ zfr [(118, 0)] m0 m ∧ True ∧ (zcpl m0 m a0 a1 a1))) := by
  intro k
  induction k with
  | zero => exact fun x2 mh hImh hFmh hba1 hbx2 hH0 hH1 hM => by exfalso; omega
  | succ k ih =>
    intro x2 mh hImh hFmh hba1 hbx2 hH0 hH1 hM
    refine zw_eq (zu_rega_at (zt_T n) (zm_32 n) (zdp_32 n) _ _ _ _ _ _ (zr_32e_2 n _ _ a0 a1 x2 mh)) ?_
    refine zw_ite (fun h1 => ?_) (fun h1 => ?_)
    · exact zw_some ⟨hImh, hFmh, trivial, zcpl_e hH0 (by omega)⟩
    · have w2 := zu_w32_id (z := a1 + x2) (by omega) (by omega)
      have b3 : 0 ≤ (zu_w32 (a1 + x2)) ∧ (zu_w32 (a1 + x2)) < 128 := by omega
      refine zw_if b3 ?_
      have r4 : 0 ≤ (mh a0 (zu_w32 (a1 + x2))) ∧ (mh a0 (zu_w32 (a1 + x2))) ≤ 9999 := zi_rd hImh hc0 (zb_118 _)
      have b5 : 0 ≤ x2 ∧ x2 < 128 := by omega
      refine zw_if b5 ?_
      generalize hmm6 : zu_up mh a0 x2 (mh a0 (zu_w32 (a1 + x2))) = m6
      have hIm6 := zi_up hmm6 hImh hc0 (zb_118 _) (by omega) (by omega)
      have hFm6 := zfr_up hmm6 hFmh hc0 rfl
      have w7 := zu_w32_id (z := x2 + 1) (by omega) (by omega)
      have hM : (64 - (zu_w32 (x2 + 1))) * 1 + 0 < (k : Int) := by omega
      exact ih (zu_w32 (x2 + 1)) m6 hIm6 hFm6 ⟨by omega, by omega⟩ ⟨by omega, by omega⟩ (zcpl_s hmm6 rfl (by omega) (by omega) hH0 (by omega) (by omega)) (by omega) hM
set_option maxHeartbeats 4000000 in
theorem zk_32_118 (n : Nat) {a0 a1 : Int} {m0 : zu_m} (hIm0 : zi_I m0) (hc0 : zcls a0 = 118) (ha1 : 64 ≤ a1 ∧ a1 ≤ 64)     : zw (zu_call (zt_T n) 32 [(48, a0), (0, a1)] m0) (fun v m => zi_I m ∧ zfr [(118, 0)] m0 m ∧ True ∧ (zcpl m0 m a0 a1 a1)) := by
  have hFm0 : zfr [(118, 0)] m0 m0 := zfr_rf _ _
  refine zw_eq (zu_call_at (zt_T n) (zm_32 n) (zdp_32 n) _ _ _ _ _ rfl (zr_32e_0 n _ _ a0 a1 m0)) ?_
  have hM : (64 - 0) * 1 + 0 < ((65 : Nat) : Int) := by omega
  exact (zl_32_118 n (m0 := m0) hc0 65) 0 m0 hIm0 hFm0 ⟨by omega, by omega⟩ ⟨by omega, by omega⟩ (zcpl_0 _ _ _) (by omega) hM
set_option maxHeartbeats 4000000 in
theorem zl_32_119 (n : Nat) {a0 a1 : Int} {m0 : zu_m} (hc0 : zcls a0 = 119)   : ∀ k : Nat, (∀ (x2 : Int) (mh : zu_m), zi_I mh → zfr [(119, 0)] m0 mh → (64 ≤ a1 ∧ a1 ≤ 64) → (0 ≤ x2 ∧ x2 ≤ 64) → (zcpl m0 mh a0 a1 x2) → (x2 ≤ a1) → (64 - x2) * 1 + 0 < (k : Int) → zw (zu_ex (zt_T n) 32 2 [(48, a0), (0, a1), (0, x2)] [] mh) (fun v m => zi_I m ∧ zfr [(119, 0)] m0 m ∧ True ∧ (zcpl m0 m a0 a1 a1))) := by
  intro k
  induction k with
  | zero => exact fun x2 mh hImh hFmh hba1 hbx2 hH0 hH1 hM => by exfalso; omega
  | succ k ih =>
    intro x2 mh hImh hFmh hba1 hbx2 hH0 hH1 hM
    refine zw_eq (zu_rega_at (zt_T n) (zm_32 n) (zdp_32 n) _ _ _ _ _ _ (zr_32e_2 n _ _ a0 a1 x2 mh)) ?_
    refine zw_ite (fun h1 => ?_) (fun h1 => ?_)
    · exact zw_some ⟨hImh, hFmh, trivial, zcpl_e hH0 (by omega)⟩
    · have w2 := zu_w32_id (z := a1 + x2) (by omega) (by omega)
      have b3 : 0 ≤ (zu_w32 (a1 + x2)) ∧ (zu_w32 (a1 + x2)) < 128 := by omega
      refine zw_if b3 ?_
      have r4 : (-1) ≤ (mh a0 (zu_w32 (a1 + x2))) ∧ (mh a0 (zu_w32 (a1 + x2))) ≤ 63 := zi_rd hImh hc0 (zb_119 _)
      have b5 : 0 ≤ x2 ∧ x2 < 128 := by omega
      refine zw_if b5 ?_
      generalize hmm6 : zu_up mh a0 x2 (mh a0 (zu_w32 (a1 + x2))) = m6
      have hIm6 := zi_up hmm6 hImh hc0 (zb_119 _) (by omega) (by omega)
      have hFm6 := zfr_up hmm6 hFmh hc0 rfl
      have w7 := zu_w32_id (z := x2 + 1) (by omega) (by omega)
      have hM : (64 - (zu_w32 (x2 + 1))) * 1 + 0 < (k : Int) := by omega
      exact ih (zu_w32 (x2 + 1)) m6 hIm6 hFm6 ⟨by omega, by omega⟩ ⟨by omega, by omega⟩ (zcpl_s hmm6 rfl (by omega) (by omega) hH0 (by omega) (by omega)) (by omega) hM
set_option maxHeartbeats 4000000 in
theorem zk_32_119 (n : Nat) {a0 a1 : Int} {m0 : zu_m} (hIm0 : zi_I m0) (hc0 : zcls a0 = 119) (ha1 : 64 ≤ a1 ∧ a1 ≤ 64)     : zw (zu_call (zt_T n) 32 [(48, a0), (0, a1)] m0) (fun v m => zi_I m ∧ zfr [(119, 0)] m0 m ∧ True ∧ (zcpl m0 m a0 a1 a1)) := by
  have hFm0 : zfr [(119, 0)] m0 m0 := zfr_rf _ _
  refine zw_eq (zu_call_at (zt_T n) (zm_32 n) (zdp_32 n) _ _ _ _ _ rfl (zr_32e_0 n _ _ a0 a1 m0)) ?_
  have hM : (64 - 0) * 1 + 0 < ((65 : Nat) : Int) := by omega
  exact (zl_32_119 n (m0 := m0) hc0 65) 0 m0 hIm0 hFm0 ⟨by omega, by omega⟩ ⟨by omega, by omega⟩ (zcpl_0 _ _ _) (by omega) hM
set_option maxHeartbeats 4000000 in
theorem zl_34 (n : Nat) {a0 a1 : Int} {m0 : zu_m} (hc0 : zcls a0 = 28)   : ∀ k : Nat, (∀ (x2 : Int) (mh : zu_m), zi_I mh → zfr [(124, 0), (125, 0), (126, 0), (127, 0), (129, 0), (130, 0)] m0 mh → (0 ≤ a1 ∧ a1 ≤ 1) → (0 ≤ x2 ∧ x2 ≤ 18) → (∀ p, mh 217 p = m0 217 p) → (∀ p, mh 216 p = m0 216 p) → (zR_C0 mh) → (18 - x2) * 1 + 5 < (k : Int) → zw (zu_ex (zt_T n) 34 2 [(40, a0), (0, a1), (0, x2)] [] mh) (fun v m => zi_I m ∧ zfr [(124, 0), (125, 0), (126, 0), (127, 0), (129, 0), (130, 0)] m0 m ∧ zR_C0 m ∧ zE1 m a1 ∧ True ∧ (zE1 m0 0 → zE1 m 0) ∧ ((m0 a0 14 ≤ m0 216 0 ∨ a1 = 0) → (m a0 14) ≤ (m 216 0)))) ∧ (∀ (x2 : Int) (mh : zu_m), zi_I mh → zfr [(124, 0), (125, 0), (126, 0), (127, 0), (129, 0), (130, 0)] m0 mh → (0 ≤ a1 ∧ a1 ≤ 1) → (0 ≤ x2 ∧ x2 ≤ 4) → (zE1p mh a1 x2) → (zE1 m0 0 → zE1 mh 0) → ((m0 a0 14 ≤ m0 216 0 ∨ a1 = 0) → (mh a0 14) ≤ (mh 216 0)) → (zR_C0 mh) → (4 - x2) * 1 + 0 < (k : Int) → zw (zu_ex (zt_T n) 34 38 [(40, a0), (0, a1), (0, x2)] [] mh) (fun v m => zi_I m ∧ zfr [(124, 0), (125, 0), (126, 0), (127, 0), (129, 0), (130, 0)] m0 m ∧ zR_C0 m ∧ zE1 m a1 ∧ True ∧ (zE1 m0 0 → zE1 m 0) ∧ ((m0 a0 14 ≤ m0 216 0 ∨ a1 = 0) → (m a0 14) ≤ (m 216 0)))) := by
  intro k
  induction k with
  | zero => exact ⟨fun x2 mh hImh hFmh hba1 hbx2 hH0 hH1 hRC0mh hM => by exfalso; omega, fun x2 mh hImh hFmh hba1 hbx2 hH0 hH1 hH2 hRC0mh hM => by exfalso; omega⟩
  | succ k ih =>
    refine ⟨?_, ?_⟩
    · intro x2 mh hImh hFmh hba1 hbx2 hH0 hH1 hRC0mh hM
      refine zw_eq (zu_rega_at (zt_T n) (zm_34 n) (zdp_34 n) _ _ _ _ _ _ (zr_34_2 n _ _ a0 a1 x2 mh)) ?_
      refine zw_ite (fun h1 => ?_) (fun h1 => ?_)
      · have r2 : 0 ≤ (mh a0 14) ∧ (mh a0 14) ≤ 12 := zi_rd hImh hc0 zb_28_14
        have b3 : 0 ≤ a1 ∧ a1 < 2 := by omega
        refine zw_if b3 ?_
        generalize hmm4 : zu_up mh 216 a1 (mh a0 14) = m4
        have hIm4 := zi_upr (m := 2) (r0 := 0) (r1 := 1) (lo := 0) (hi := 16) hmm4 hImh zq_216 (by omega) (by decide +kernel) (by omega) (by omega)
        have hFm4 := zfr_up hmm4 hFmh zq_216 rfl
        have hRC0m4 := zR_C0_fr (zdis_fr (zfr_up hmm4 (zfr_rf [(125, 0)] _) zq_216 rfl) rfl) hRC0mh
        have r5 : 0 ≤ (m4 a0 14) ∧ (m4 a0 14) ≤ 12 := zi_rd hIm4 hc0 zb_28_14
        have e6 : (m4 a0 14) = (mh a0 14) := (zs_ne hmm4 (Or.inl (zc_ne hc0 zq_216 (by decide))))
        have r7 : 0 ≤ (m4 216 0) ∧ (m4 216 0) ≤ 16 := zi_rdr (m := 2) (r0 := 0) (r1 := 0) hIm4 zq_216 (by omega) (by decide +kernel)
        have hM : (4 - 0) * 1 + 0 < (k : Int) := by omega
        exact ih.2 0 m4 hIm4 hFm4 ⟨by omega, by omega⟩ ⟨by omega, by omega⟩ (zE1p_0 _ _) (fun h => zE1_mv h (fun p => Eq.trans ((fun _ => (zs_ne hmm4 (Or.inl (zc_ne zq_217 zq_216 (by decide))))) p) (hH0 p)) (zfr_ap hFm4 zq_190 rfl) (zfr_ap hFm4 zq_190 rfl) (zfr_ap hFm4 zq_190 rfl)) (zTE_af (zone_190 hc0) hmm4 rfl (zfr_ap hFmh hc0 rfl) (fun p => Eq.trans ((fun _ => rfl) p) (hH1 p))) hRC0m4 hM
      · have w8 := zu_w32_id (z := 18 * a1) (by omega) (by omega)
        have w9 := zu_w32_id (z := (zu_w32 (18 * a1)) + x2) (by omega) (by omega)
        have b10 : 0 ≤ (zu_w32 ((zu_w32 (18 * a1)) + x2)) ∧ (zu_w32 ((zu_w32 (18 * a1)) + x2)) < 36 := by omega
        refine zw_if b10 ?_
        generalize hmm11 : zu_up mh 215 (zu_w32 ((zu_w32 (18 * a1)) + x2)) (-1) = m11
        have hIm11 := zi_up hmm11 hImh zq_215 (zb_124 _) (by omega) (by omega)
        have hFm11 := zfr_up hmm11 hFmh zq_215 rfl
        have hRC0m11 := zR_C0_fr (zdis_fr (zfr_up hmm11 (zfr_rf [(124, 0)] _) zq_215 rfl) rfl) hRC0mh
        have w12 := zu_w32_id (z := x2 + 1) (by omega) (by omega)
        have hM : (18 - (zu_w32 (x2 + 1))) * 1 + 5 < (k : Int) := by omega
        exact ih.1 (zu_w32 (x2 + 1)) m11 hIm11 hFm11 ⟨by omega, by omega⟩ ⟨by omega, by omega⟩ (fun p => Eq.trans ((fun _ => (zs_ne hmm11 (Or.inl (zc_ne zq_217 zq_215 (by decide))))) p) (hH0 p)) (fun p => Eq.trans ((fun _ => (zs_ne hmm11 (Or.inl (zc_ne zq_216 zq_215 (by decide))))) p) (hH1 p)) hRC0m11 hM
    · intro x2 mh hImh hFmh hba1 hbx2 hH0 hH1 hH2 hRC0mh hM
      refine zw_eq (zu_rega_at (zt_T n) (zm_34 n) (zdp_34 n) _ _ _ _ _ _ (zr_34_38 n _ _ a0 a1 x2 mh)) ?_
      have r13 : 0 ≤ (mh a0 14) ∧ (mh a0 14) ≤ 12 := zi_rd hImh hc0 zb_28_14
      have r14 : 0 ≤ (mh 216 0) ∧ (mh 216 0) ≤ 16 := zi_rdr (m := 2) (r0 := 0) (r1 := 0) hImh zq_216 (by omega) (by decide +kernel)
      refine zw_ite (fun h15 => ?_) (fun h15 => ?_)
      · have hREBmh := zE1_of hH0 (by omega)
        have b16 : 0 ≤ a1 ∧ a1 < 2 := by omega
        refine zw_if b16 ?_
        generalize hmm17 : zu_up mh 220 a1 0 = m17
        have hIm17 := zi_up hmm17 hImh zq_220 (zb_129 _) (by omega) (by omega)
        have hFm17 := zfr_up hmm17 hFmh zq_220 rfl
        have hRC0m17 := zR_C0_fr (zdis_fr (zfr_up hmm17 (zfr_rf [(129, 0)] _) zq_220 rfl) rfl) hRC0mh
        have hREBm17 := zR_EB_fr (zdis_fr (zfr_up hmm17 (zfr_rf [(129, 0)] _) zq_220 rfl) rfl) hREBmh
        have b18 : 0 ≤ a1 ∧ a1 < 2 := by omega
        refine zw_if b18 ?_
        generalize hmm19 : zu_up m17 221 a1 0 = m19
        have hIm19 := zi_up hmm19 hIm17 zq_221 (zb_130 _) (by omega) (by omega)
        have hFm19 := zfr_up hmm19 hFm17 zq_221 rfl
        have hRC0m19 := zR_C0_fr (zdis_fr (zfr_up hmm19 (zfr_rf [(130, 0)] _) zq_221 rfl) rfl) hRC0m17
        have hREBm19 := zR_EB_fr (zdis_fr (zfr_up hmm19 (zfr_rf [(130, 0)] _) zq_221 rfl) rfl) hREBm17
        have r20 : 0 ≤ (m19 a0 14) ∧ (m19 a0 14) ≤ 12 := zi_rd hIm19 hc0 zb_28_14
        have e21 : (m19 a0 14) = (mh a0 14) := (Eq.trans (zs_ne hmm19 (Or.inl (zc_ne hc0 zq_221 (by decide)))) (zs_ne hmm17 (Or.inl (zc_ne hc0 zq_220 (by decide)))))
        have r22 : 0 ≤ (m19 216 0) ∧ (m19 216 0) ≤ 16 := zi_rdr (m := 2) (r0 := 0) (r1 := 0) hIm19 zq_216 (by omega) (by decide +kernel)
        have e23 : (m19 216 0) = (mh 216 0) := (Eq.trans (zs_ne hmm19 (Or.inl (zc_ne zq_216 zq_221 (by decide)))) (zs_ne hmm17 (Or.inl (zc_ne zq_216 zq_220 (by decide)))))
        exact zw_some ⟨hIm19, hFm19, hRC0m19, hREBm19, trivial, (fun h => zE1_mv (hH1 h) (fun _ => (Eq.trans (zs_ne hmm19 (Or.inl (zc_ne zq_217 zq_221 (by decide)))) (zs_ne hmm17 (Or.inl (zc_ne zq_217 zq_220 (by decide)))))) (Eq.trans (zs_ne hmm19 (Or.inl (zc_ne zq_190 zq_221 (by decide)))) (zs_ne hmm17 (Or.inl (zc_ne zq_190 zq_220 (by decide))))) (Eq.trans (zs_ne hmm19 (Or.inl (zc_ne zq_190 zq_221 (by decide)))) (zs_ne hmm17 (Or.inl (zc_ne zq_190 zq_220 (by decide))))) (Eq.trans (zs_ne hmm19 (Or.inl (zc_ne zq_190 zq_221 (by decide)))) (zs_ne hmm17 (Or.inl (zc_ne zq_190 zq_220 (by decide)))))), by omega⟩
      · have w24 := zu_w32_id (z := 4 * a1) (by omega) (by omega)
        have w25 := zu_w32_id (z := (zu_w32 (4 * a1)) + x2) (by omega) (by omega)
        have b26 : 0 ≤ x2 ∧ x2 < 8 := by omega
        refine zw_if b26 ?_
        have r27 : 0 ≤ (mh 201 x2) ∧ (mh 201 x2) ≤ 47 := zi_rd hImh zq_201 (zb_110 _)
        have b28 : 0 ≤ (zu_w32 ((zu_w32 (4 * a1)) + x2)) ∧ (zu_w32 ((zu_w32 (4 * a1)) + x2)) < 8 := by omega
        refine zw_if b28 ?_
        generalize hmm29 : zu_up mh 217 (zu_w32 ((zu_w32 (4 * a1)) + x2)) (mh 201 x2) = m29
        have hIm29 := zi_up hmm29 hImh zq_217 (zb_126 _) (by omega) (by omega)
        have hFm29 := zfr_up hmm29 hFmh zq_217 rfl
        have hRC0m29 := zR_C0_fr (zdis_fr (zfr_up hmm29 (zfr_rf [(126, 0)] _) zq_217 rfl) rfl) hRC0mh
        have hc0v := zC0_rd (c := x2) hRC0mh (zone_190 hc0) (by omega) (by omega)
        have hzpm29 := zE1p_s (y := x2 + 1) hmm29 (zone_190 hc0) (by omega) rfl hc0v hH0
        have hzsm29 : zE1 m0 0 → zE1 m29 0 := fun h => zE1_upx (b' := a1) (x := x2) hmm29 (zone_190 hc0) (by omega) (by omega) (by omega) hc0v (hH1 h)
        have b30 : 0 ≤ x2 ∧ x2 < 8 := by omega
        refine zw_if b30 ?_
        have r31 : 0 ≤ (m29 204 x2) ∧ (m29 204 x2) ≤ 99 := zi_rd hIm29 zq_204 (zb_113 _)
        have b32 : 0 ≤ (zu_w32 ((zu_w32 (4 * a1)) + x2)) ∧ (zu_w32 ((zu_w32 (4 * a1)) + x2)) < 8 := by omega
        refine zw_if b32 ?_
        generalize hmm33 : zu_up m29 218 (zu_w32 ((zu_w32 (4 * a1)) + x2)) (m29 204 x2) = m33
        have hIm33 := zi_up hmm33 hIm29 zq_218 (zb_127 _) (by omega) (by omega)
        have hFm33 := zfr_up hmm33 hFm29 zq_218 rfl
        have hRC0m33 := zR_C0_fr (zdis_fr (zfr_up hmm33 (zfr_rf [(127, 0)] _) zq_218 rfl) rfl) hRC0m29
        have w34 := zu_w32_id (z := x2 + 1) (by omega) (by omega)
        have r35 : 0 ≤ (m33 a0 14) ∧ (m33 a0 14) ≤ 12 := zi_rd hIm33 hc0 zb_28_14
        have e36 : (m33 a0 14) = (mh a0 14) := (Eq.trans (zs_ne hmm33 (Or.inl (zc_ne hc0 zq_218 (by decide)))) (zs_ne hmm29 (Or.inl (zc_ne hc0 zq_217 (by decide)))))
        have r37 : 0 ≤ (m33 216 0) ∧ (m33 216 0) ≤ 16 := zi_rdr (m := 2) (r0 := 0) (r1 := 0) hIm33 zq_216 (by omega) (by decide +kernel)
        have e38 : (m33 216 0) = (mh 216 0) := (Eq.trans (zs_ne hmm33 (Or.inl (zc_ne zq_216 zq_218 (by decide)))) (zs_ne hmm29 (Or.inl (zc_ne zq_216 zq_217 (by decide)))))
        have hM : (4 - (zu_w32 (x2 + 1))) * 1 + 0 < (k : Int) := by omega
        exact ih.2 (zu_w32 (x2 + 1)) m33 hIm33 hFm33 ⟨by omega, by omega⟩ ⟨by omega, by omega⟩ (zE1p_mv hzpm29 (fun _ => (zs_ne hmm33 (Or.inl (zc_ne zq_217 zq_218 (by decide))))) (zs_ne hmm33 (Or.inl (zc_ne zq_190 zq_218 (by decide)))) (zs_ne hmm33 (Or.inl (zc_ne zq_190 zq_218 (by decide)))) (zs_ne hmm33 (Or.inl (zc_ne zq_190 zq_218 (by decide)))) (by omega)) (fun h => zE1_mv (hzsm29 h) (fun _ => (zs_ne hmm33 (Or.inl (zc_ne zq_217 zq_218 (by decide))))) (zs_ne hmm33 (Or.inl (zc_ne zq_190 zq_218 (by decide)))) (zs_ne hmm33 (Or.inl (zc_ne zq_190 zq_218 (by decide)))) (zs_ne hmm33 (Or.inl (zc_ne zq_190 zq_218 (by decide))))) (by omega) hRC0m33 hM
set_option maxHeartbeats 4000000 in
theorem zk_34 (n : Nat) {a0 a1 : Int} {m0 : zu_m} (hIm0 : zi_I m0) (hc0 : zcls a0 = 28) (ha1 : 0 ≤ a1 ∧ a1 ≤ 1)    (hRC0m0 : zR_C0 m0) : zw (zu_call (zt_T n) 34 [(40, a0), (0, a1)] m0) (fun v m => zi_I m ∧ zfr [(124, 0), (125, 0), (126, 0), (127, 0), (129, 0), (130, 0)] m0 m ∧ zR_C0 m ∧ zE1 m a1 ∧ True ∧ (zE1 m0 0 → zE1 m 0) ∧ ((m0 a0 14 ≤ m0 216 0 ∨ a1 = 0) → (m a0 14) ≤ (m 216 0))) := by
  have hFm0 : zfr [(124, 0), (125, 0), (126, 0), (127, 0), (129, 0), (130, 0)] m0 m0 := zfr_rf _ _
  refine zw_eq (zu_call_at (zt_T n) (zm_34 n) (zdp_34 n) _ _ _ _ _ rfl (zr_34_0 n _ _ a0 a1 m0)) ?_
  have hM : (18 - 0) * 1 + 5 < ((24 : Nat) : Int) := by omega
  exact (zl_34 n (m0 := m0) hc0 24).1 0 m0 hIm0 hFm0 ⟨by omega, by omega⟩ ⟨by omega, by omega⟩ (fun _ => rfl) (fun _ => rfl) hRC0m0 hM

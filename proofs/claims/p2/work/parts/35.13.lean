set_option maxHeartbeats 4000000 in
theorem zl_165 (n : Nat) {a0 a1 : Int} {m0 : zu_m} (hc0 : zcls a0 = 15)  : ∀ k : Nat, (∀ (x2 x3 : Int) (mh : zu_m), zi_I mh → zfr [(15, 3), (15, 54), (15, 64), (15, 65), (15, 66), (15, 67), (15, 68), (15, 69), (15, 70), (83, 0), (84, 0), (85, 0), (86, 0), (87, 0), (88, 0), (89, 0), (90, 0), (91, 0), (92, 0)] m0 mh → (1 ≤ a1 ∧ a1 ≤ 200) → (0 ≤ x2 ∧ x2 ≤ 2) → (1 ≤ x3 ∧ x3 ≤ 3) → (0 ≤ mh a0 2 ∧ mh a0 2 ≤ 0) → (3 - x3) * 1 + 0 < (k : Int) → zw (zu_ex (zt_T n) 165 22 [(40, a0), (0, a1), (0, x2), (0, x3)] [] mh) (fun v m => zi_I m ∧ zfr [(15, 3), (15, 54), (15, 64), (15, 65), (15, 66), (15, 67), (15, 68), (15, 69), (15, 70), (83, 0), (84, 0), (85, 0), (86, 0), (87, 0), (88, 0), (89, 0), (90, 0), (91, 0), (92, 0)] m0 m ∧ ((-1) ≤ v ∧ v ≤ 2) ∧ (0 ≤ m a0 2 ∧ m a0 2 ≤ 0))) := by
  intro k
  induction k with
  | zero => exact fun x2 x3 mh hImh hFmh hba1 hbx2 hbx3 hg3 hM => by exfalso; omega
  | succ k ih =>
    intro x2 x3 mh hImh hFmh hba1 hbx2 hbx3 hg3 hM
    refine zw_eq (zr_165_22 n a0 a1 x2 x3 mh) ?_
    refine zw_ite (fun h1 => ?_) (fun h1 => ?_)
    · exact zw_some ⟨hImh, hFmh, ⟨by omega, by omega⟩, ⟨by omega, by omega⟩⟩
    · refine zw_bd (zw_mono (zk_163 n hImh hc0 ⟨by omega, by omega⟩ ⟨by omega, by omega⟩) (fun v3 m2 hqm2 => ?_))
      obtain ⟨hIm2, hfm2, hvm2⟩ := hqm2
      have hFm2 := zfr_tr hFmh hfm2 rfl
      refine zw_bd (zw_mono (zk_163 n hIm2 hc0 ⟨by omega, by omega⟩ ⟨by omega, by omega⟩) (fun v5 m4 hqm4 => ?_))
      obtain ⟨hIm4, hfm4, hvm4⟩ := hqm4
      have hFm4 := zfr_tr hFm2 hfm4 rfl
      refine zw_ite (fun h6 => ?_) (fun h6 => ?_)
      · have w7 := zu_w32_id (z := x3 + 1) (by omega) (by omega)
        have r8 : (-2147483648) ≤ (m4 a0 2) ∧ (m4 a0 2) ≤ 2147483647 := zi_rd hIm4 hc0 zb_15_2
        have e9 : (m4 a0 2) = (mh a0 2) := (Eq.trans (zfr_ap hfm4 hc0 rfl) (zfr_ap hfm2 hc0 rfl))
        have hM : (3 - (zu_w32 (x3 + 1))) * 1 + 0 < (k : Int) := by omega
        exact ih x2 (zu_w32 (x3 + 1)) m4 hIm4 hFm4 ⟨by omega, by omega⟩ ⟨by omega, by omega⟩ ⟨by omega, by omega⟩ ⟨by omega, by omega⟩ hM
      · have w10 := zu_w32_id (z := x3 + 1) (by omega) (by omega)
        have r11 : (-2147483648) ≤ (m4 a0 2) ∧ (m4 a0 2) ≤ 2147483647 := zi_rd hIm4 hc0 zb_15_2
        have e12 : (m4 a0 2) = (mh a0 2) := (Eq.trans (zfr_ap hfm4 hc0 rfl) (zfr_ap hfm2 hc0 rfl))
        have hM : (3 - (zu_w32 (x3 + 1))) * 1 + 0 < (k : Int) := by omega
        exact ih x3 (zu_w32 (x3 + 1)) m4 hIm4 hFm4 ⟨by omega, by omega⟩ ⟨by omega, by omega⟩ ⟨by omega, by omega⟩ ⟨by omega, by omega⟩ hM
set_option maxHeartbeats 4000000 in
theorem zk_165 (n : Nat) {a0 a1 : Int} {m0 : zu_m} (hIm0 : zi_I m0) (hc0 : zcls a0 = 15) (ha1 : (-2147483648) ≤ a1 ∧ a1 ≤ 2147483647)    : zw (zu_call (zt_T n) 165 [(40, a0), (0, a1)] m0) (fun v m => zi_I m ∧ zfr [(15, 3), (15, 54), (15, 64), (15, 65), (15, 66), (15, 67), (15, 68), (15, 69), (15, 70), (83, 0), (84, 0), (85, 0), (86, 0), (87, 0), (88, 0), (89, 0), (90, 0), (91, 0), (92, 0)] m0 m ∧ ((-1) ≤ v ∧ v ≤ 2) ∧ (0 ≤ m a0 2 ∧ m a0 2 ≤ 0)) := by
  have hFm0 : zfr [(15, 3), (15, 54), (15, 64), (15, 65), (15, 66), (15, 67), (15, 68), (15, 69), (15, 70), (83, 0), (84, 0), (85, 0), (86, 0), (87, 0), (88, 0), (89, 0), (90, 0), (91, 0), (92, 0)] m0 m0 := zfr_rf _ _
  refine zw_eq (zr_165_0 n a0 a1 m0) ?_
  generalize hmm13 : zu_up m0 a0 2 0 = m13
  have hIm13 := zi_up hmm13 hIm0 hc0 zb_15_2 (by omega) (by omega)
  have hFm13 := zfr_up hmm13 hFm0 hc0 rfl
  refine zw_bd (zw_eq (zr_83_0 n a1 1 200 m13) ?_)
  refine zw_ite (fun h14 => ?_) (fun h14 => ?_)
  · refine zw_b (by omega) ?_
    refine zw_some ?_
    refine zw_ite (fun h15 => ?_) (fun h15 => ?_)
    · exfalso; omega
    · have r16 : (-2147483648) ≤ (m13 a0 2) ∧ (m13 a0 2) ≤ 2147483647 := zi_rd hIm13 hc0 zb_15_2
      have e17 : (m13 a0 2) = 0 := (zs_eq hmm13)
      exact zw_some ⟨hIm13, hFm13, ⟨by omega, by omega⟩, ⟨by omega, by omega⟩⟩
  · refine zw_ite (fun h18 => ?_) (fun h18 => ?_)
    · refine zw_b (by omega) ?_
      refine zw_some ?_
      refine zw_ite (fun h19 => ?_) (fun h19 => ?_)
      · exfalso; omega
      · have r20 : (-2147483648) ≤ (m13 a0 2) ∧ (m13 a0 2) ≤ 2147483647 := zi_rd hIm13 hc0 zb_15_2
        have e21 : (m13 a0 2) = 0 := (zs_eq hmm13)
        exact zw_some ⟨hIm13, hFm13, ⟨by omega, by omega⟩, ⟨by omega, by omega⟩⟩
    · refine zw_b (by omega) ?_
      refine zw_some ?_
      refine zw_ite (fun h22 => ?_) (fun h22 => ?_)
      · have r23 : (-2147483648) ≤ (m13 a0 2) ∧ (m13 a0 2) ≤ 2147483647 := zi_rd hIm13 hc0 zb_15_2
        have e24 : (m13 a0 2) = 0 := (zs_eq hmm13)
        have hM : (3 - 1) * 1 + 0 < ((3 : Nat) : Int) := by omega
        exact (zl_165 n (m0 := m0) hc0 3) 0 1 m13 hIm13 hFm13 ⟨by omega, by omega⟩ ⟨by omega, by omega⟩ ⟨by omega, by omega⟩ ⟨by omega, by omega⟩ hM
      · exfalso; omega

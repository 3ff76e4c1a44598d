set_option maxHeartbeats 4000000 in
theorem zl_240 (n : Nat) {a0 : Int} {m0 : zu_m} (hc0 : zcls a0 = 25)   : ∀ k : Nat, (∀ (x1 x2 x3 : Int) (mh : zu_m), zi_I mh → zfr [] m0 mh → (0 ≤ x1 ∧ x1 ≤ 2147483647) → ((-2147483648) ≤ x2 ∧ x2 ≤ 2147483647) → (0 ≤ x3 ∧ x3 ≤ 4) → (4 - x3) * 1 + 0 < (k : Int) → zw (zu_ex (zt_T n) 240 9 [(27, a0), (0, x1), (0, x2), (0, x3)] [] mh) (fun v m => zi_I m ∧ zfr [] m0 m ∧ ((-2147483648) ≤ v ∧ v ≤ 2147483647))) := by
  intro k
  induction k with
  | zero => exact fun x1 x2 x3 mh hImh hFmh hbx1 hbx2 hbx3 hM => by exfalso; omega
  | succ k ih =>
    intro x1 x2 x3 mh hImh hFmh hbx1 hbx2 hbx3 hM
    refine zw_eq (zr_240_9 n a0 x1 x2 x3 mh) ?_
    unfold zd_240_9
    have r1 : 0 ≤ (mh a0 4) ∧ (mh a0 4) ≤ 4 := zi_rd hImh hc0 zb_25_4
    refine zw_ite (fun h2 => ?_) (fun h2 => ?_)
    · exact zw_some ⟨hImh, hFmh, ⟨by omega, by omega⟩⟩
    · have b3 : 0 ≤ x3 ∧ x3 < 4 := by omega
      refine zw_if b3 ?_
      have r4 : (-2147483648) ≤ (mh ((a0 + 2) + 20 + x3) 6) ∧ (mh ((a0 + 2) + 20 + x3) 6) ≤ 2147483647 := zi_rd hImh (zc_96_e (zc_25_3 hc0) b3) zb_27_6
      have w5 := zu_w32_rg (x1 - (mh ((a0 + 2) + 20 + x3) 6))
      have w6 := zu_w32_rg (x2 + (zu_w32 (x1 - (mh ((a0 + 2) + 20 + x3) 6))))
      have w7 := zu_w32_id (z := x3 + 1) (by omega) (by omega)
      have hM : (4 - (zu_w32 (x3 + 1))) * 1 + 0 < (k : Int) := by omega
      exact ih x1 (zu_w32 (x2 + (zu_w32 (x1 - (mh ((a0 + 2) + 20 + x3) 6))))) (zu_w32 (x3 + 1)) mh hImh hFmh ⟨by omega, by omega⟩ ⟨by omega, by omega⟩ ⟨by omega, by omega⟩ hM
set_option maxHeartbeats 4000000 in
theorem zk_240 (n : Nat) {a0 : Int} {m0 : zu_m} (hIm0 : zi_I m0) (hc0 : zcls a0 = 25)      : zw (zu_call (zt_T n) 240 [(27, a0)] m0) (fun v m => zi_I m ∧ zfr [] m0 m ∧ ((-2147483648) ≤ v ∧ v ≤ 2147483647)) := by
  have hFm0 : zfr [] m0 m0 := zfr_rf _ _
  refine zw_eq (zr_240_0 n a0 m0) ?_
  unfold zd_240_0
  refine zw_bd (zw_mono (zk_238_25 n hIm0 hc0) (fun v9 m8 hqm8 => ?_))
  obtain ⟨hIm8, hfm8, hvm8⟩ := hqm8
  have hFm8 := zfr_tr hFm0 hfm8 rfl
  have hM : (4 - 0) * 1 + 0 < ((5 : Nat) : Int) := by omega
  exact (zl_240 n (m0 := m0) hc0 5) v9 0 0 m8 hIm8 hFm8 ⟨by omega, by omega⟩ ⟨by omega, by omega⟩ ⟨by omega, by omega⟩ hM
set_option maxHeartbeats 4000000 in
theorem zl_255 (n : Nat) {a0 a1 : Int} {m0 : zu_m} (hc0 : zcls a0 = 11)   : ∀ k : Nat, (∀ (x2 x4 x6 : Int) (mh : zu_m), zi_I mh → zfr [] m0 mh → (0 ≤ a1 ∧ a1 ≤ 1) → ((-9223372036854775808) ≤ x2 ∧ x2 ≤ 9223372036854775807) → ((-9223372036854775808) ≤ x4 ∧ x4 ≤ 9223372036854775807) → (0 ≤ x6 ∧ x6 ≤ 48) → (48 - x6) * 1 + 0 < (k : Int) → zw (zu_ex (zt_T n) 255 8 [(8, a0), (0, a1), (1, x2), (2, 0), (1, x4), (2, 0), (0, x6), (2, 0)] [] mh) (fun v m => zi_I m ∧ zfr [] m0 m ∧ ((-9223372036854775808) ≤ v ∧ v ≤ 9223372036854775807))) := by
  intro k
  induction k with
  | zero => exact fun x2 x4 x6 mh hImh hFmh hba1 hbx2 hbx4 hbx6 hM => by exfalso; omega
  | succ k ih =>
    intro x2 x4 x6 mh hImh hFmh hba1 hbx2 hbx4 hbx6 hM
    refine zw_eq (zr_255_8 n a0 a1 x2 x4 x6 mh) ?_
    unfold zd_255_8
    have r1 : 1 ≤ (mh a0 2) ∧ (mh a0 2) ≤ 48 := zi_rd hImh hc0 zb_11_2
    refine zw_ite (fun h2 => ?_) (fun h2 => ?_)
    · have w3 := zu_w64_rg (x2 * x2)
      refine zw_bd (zw_mono (zk_256 n hImh ⟨by omega, by omega⟩ ⟨by omega, by omega⟩) (fun v5 m4 hqm4 => ?_))
      obtain ⟨hIm4, hfm4, hvm4⟩ := hqm4
      have hFm4 := zfr_tr hFmh hfm4 rfl
      have c6 := zu_lcmp_sp v5 0
      refine zw_ite (fun h7 => ?_) (fun h7 => ?_)
      · refine zw_ite (fun h8 => ?_) (fun h8 => ?_)
        · refine zw_nif (by omega) ?_
          have w9 := zu_w64_rg (Int.tdiv (zu_w64 (x2 * x2)) v5)
          exact zw_some ⟨hIm4, hFm4, ⟨by omega, by omega⟩⟩
        · refine zw_nif (by omega) ?_
          have w10 := zu_w64_rg (Int.tdiv x4 v5)
          exact zw_some ⟨hIm4, hFm4, ⟨by omega, by omega⟩⟩
      · exact zw_some ⟨hIm4, hFm4, ⟨by omega, by omega⟩⟩
    · have b11 : 0 ≤ x6 ∧ x6 < 48 := by omega
      refine zw_if b11 ?_
      have r12 : 0 ≤ (mh (a0 + 10) x6) ∧ (mh (a0 + 10) x6) ≤ 999 := zi_rd hImh (zc_11_10 hc0) (zb_57 _)
      have w13 := zu_w64_rg (x2 + (mh (a0 + 10) x6))
      have b14 : 0 ≤ x6 ∧ x6 < 48 := by omega
      refine zw_if b14 ?_
      have b15 : 0 ≤ x6 ∧ x6 < 48 := by omega
      refine zw_if b15 ?_
      have p16 := zmul_bd (x := (mh (a0 + 10) x6)) (y := (mh (a0 + 10) x6)) (a := 0) (b := 0) (A := 999) (B := 999) (by omega) (by omega) (by omega) (by omega) (by omega) (by omega)
      have w17 := zu_w64_id (z := (mh (a0 + 10) x6) * (mh (a0 + 10) x6)) (by omega) (by omega)
      have w18 := zu_w64_rg (x4 + (zu_w64 ((mh (a0 + 10) x6) * (mh (a0 + 10) x6))))
      have w19 := zu_w32_id (z := x6 + 1) (by omega) (by omega)
      have hM : (48 - (zu_w32 (x6 + 1))) * 1 + 0 < (k : Int) := by omega
      exact ih (zu_w64 (x2 + (mh (a0 + 10) x6))) (zu_w64 (x4 + (zu_w64 ((mh (a0 + 10) x6) * (mh (a0 + 10) x6))))) (zu_w32 (x6 + 1)) mh hImh hFmh ⟨by omega, by omega⟩ ⟨by omega, by omega⟩ ⟨by omega, by omega⟩ ⟨by omega, by omega⟩ hM
set_option maxHeartbeats 4000000 in
theorem zk_255 (n : Nat) {a0 a1 : Int} {m0 : zu_m} (hIm0 : zi_I m0) (hc0 : zcls a0 = 11) (ha1 : 0 ≤ a1 ∧ a1 ≤ 1)     : zw (zu_call (zt_T n) 255 [(8, a0), (0, a1)] m0) (fun v m => zi_I m ∧ zfr [] m0 m ∧ ((-9223372036854775808) ≤ v ∧ v ≤ 9223372036854775807)) := by
  have hFm0 : zfr [] m0 m0 := zfr_rf _ _
  refine zw_eq (zr_255_0 n a0 a1 m0) ?_
  unfold zd_255_0
  have hM : (48 - 0) * 1 + 0 < ((49 : Nat) : Int) := by omega
  exact (zl_255 n (m0 := m0) hc0 49) 0 0 0 m0 hIm0 hFm0 ⟨by omega, by omega⟩ ⟨by omega, by omega⟩ ⟨by omega, by omega⟩ ⟨by omega, by omega⟩ hM
set_option maxHeartbeats 4000000 in
theorem zl_274 (n : Nat) {a0 : Int} {m0 : zu_m} (hc0 : zcls a0 = 22)   : ∀ k : Nat, (∀ (x1 x2 : Int) (mh : zu_m), zi_I mh → zfr [(80, 0)] m0 mh → (0 ≤ x1 ∧ x1 ≤ 24) → (0 ≤ x2 ∧ x2 ≤ 24) → (24 - x2) * 1 + 25 < (k : Int) → zw (zu_ex (zt_T n) 274 7 [(28, a0), (0, x1), (0, x2)] [] mh) (fun v m => zi_I m ∧ zfr [(80, 0)] m0 m ∧ True)) ∧ (∀ (x1 x2 : Int) (mh : zu_m), zi_I mh → zfr [(80, 0)] m0 mh → (0 ≤ x1 ∧ x1 ≤ 24) → ((-1) ≤ x2 ∧ x2 ≤ 23) → (x2 - (-1)) * 1 + 0 < (k : Int) → zw (zu_ex (zt_T n) 274 29 [(28, a0), (0, x1), (0, x2)] [] mh) (fun v m => zi_I m ∧ zfr [(80, 0)] m0 m ∧ True)) := by
  intro k
  induction k with
  | zero => exact ⟨fun x1 x2 mh hImh hFmh hbx1 hbx2 hM => by exfalso; omega, fun x1 x2 mh hImh hFmh hbx1 hbx2 hM => by exfalso; omega⟩
  | succ k ih =>
    refine ⟨?_, ?_⟩
    · intro x1 x2 mh hImh hFmh hbx1 hbx2 hM
      refine zw_eq (zr_274_7 n a0 x1 x2 mh) ?_
      unfold zd_274_7
      refine zw_ite (fun h1 => ?_) (fun h1 => ?_)
      · have w2 := zu_w32_id (z := x1 - 1) (by omega) (by omega)
        have hM : ((zu_w32 (x1 - 1)) - (-1)) * 1 + 0 < (k : Int) := by omega
        exact ih.2 x1 (zu_w32 (x1 - 1)) mh hImh hFmh ⟨by omega, by omega⟩ ⟨by omega, by omega⟩ hM
      · refine zw_b (by omega) ?_
        have b3 : 0 ≤ x2 ∧ x2 < 24 := by omega
        refine zw_if b3 ?_
        generalize hmm4 : zu_up mh 147 x2 0 = m4
        have hIm4 := zi_up hmm4 hImh zq_147 (zb_80 _) (by omega) (by omega)
        have hFm4 := zfr_up hmm4 hFmh zq_147 rfl
        have w5 := zu_w32_id (z := x2 + 1) (by omega) (by omega)
        have hM : (24 - (zu_w32 (x2 + 1))) * 1 + 25 < (k : Int) := by omega
        exact ih.1 x1 (zu_w32 (x2 + 1)) m4 hIm4 hFm4 ⟨by omega, by omega⟩ ⟨by omega, by omega⟩ hM
    · intro x1 x2 mh hImh hFmh hbx1 hbx2 hM
      refine zw_eq (zr_274_29 n a0 x1 x2 mh) ?_
      unfold zd_274_29
      refine zw_ite (fun h6 => ?_) (fun h6 => ?_)
      · exact zw_some ⟨hImh, hFmh, trivial⟩
      · have b7 : 0 ≤ x2 ∧ x2 < 24 := by omega
        refine zw_if b7 ?_
        have r8 : 0 ≤ (mh 147 x2) ∧ (mh 147 x2) ≤ 1 := zi_rd hImh zq_147 (zb_80 _)
        refine zw_ite (fun h9 => ?_) (fun h9 => ?_)
        · have w10 := zu_w32_id (z := x2 + (-1)) (by omega) (by omega)
          have hM : ((zu_w32 (x2 + (-1))) - (-1)) * 1 + 0 < (k : Int) := by omega
          exact ih.2 x1 (zu_w32 (x2 + (-1))) mh hImh hFmh ⟨by omega, by omega⟩ ⟨by omega, by omega⟩ hM
        · have b11 : 0 ≤ x2 ∧ x2 < 24 := by omega
          refine zw_if b11 ?_
          have r12 : (-1) ≤ (mh 146 x2) ∧ (mh 146 x2) ≤ 23 := zi_rd hImh zq_146 (zb_79 _)
          refine zw_ite (fun h13 => ?_) (fun h13 => ?_)
          · have w14 := zu_w32_id (z := x2 + (-1)) (by omega) (by omega)
            have hM : ((zu_w32 (x2 + (-1))) - (-1)) * 1 + 0 < (k : Int) := by omega
            exact ih.2 x1 (zu_w32 (x2 + (-1))) mh hImh hFmh ⟨by omega, by omega⟩ ⟨by omega, by omega⟩ hM
          · have b15 : 0 ≤ x2 ∧ x2 < 24 := by omega
            refine zw_if b15 ?_
            refine zw_b (by omega) ?_
            have b16 : 0 ≤ (mh 146 x2) ∧ (mh 146 x2) < 24 := by omega
            refine zw_if b16 ?_
            generalize hmm17 : zu_up mh 147 (mh 146 x2) 1 = m17
            have hIm17 := zi_up hmm17 hImh zq_147 (zb_80 _) (by omega) (by omega)
            have hFm17 := zfr_up hmm17 hFmh zq_147 rfl
            have w18 := zu_w32_id (z := x2 + (-1)) (by omega) (by omega)
            have hM : ((zu_w32 (x2 + (-1))) - (-1)) * 1 + 0 < (k : Int) := by omega
            exact ih.2 x1 (zu_w32 (x2 + (-1))) m17 hIm17 hFm17 ⟨by omega, by omega⟩ ⟨by omega, by omega⟩ hM
set_option maxHeartbeats 4000000 in
theorem zk_274 (n : Nat) {a0 : Int} {m0 : zu_m} (hIm0 : zi_I m0) (hc0 : zcls a0 = 22)      : zw (zu_call (zt_T n) 274 [(28, a0)] m0) (fun v m => zi_I m ∧ zfr [(80, 0)] m0 m ∧ True) := by
  have hFm0 : zfr [(80, 0)] m0 m0 := zfr_rf _ _
  refine zw_eq (zr_274_0 n a0 m0) ?_
  unfold zd_274_0
  refine zw_bd (zw_eq (zr_271_0 n a0 m0) ?_)
  unfold zd_271_0
  have r19 : (-1) ≤ (m0 a0 7) ∧ (m0 a0 7) ≤ 24 := zi_rd hIm0 hc0 zb_22_7
  refine zw_ite (fun h20 => ?_) (fun h20 => ?_)
  · refine zw_some ?_
    have hM : (24 - 0) * 1 + 25 < ((50 : Nat) : Int) := by omega
    exact (zl_274 n (m0 := m0) hc0 50).1 (m0 a0 7) 0 m0 hIm0 hFm0 ⟨by omega, by omega⟩ ⟨by omega, by omega⟩ hM
  · have r21 : 0 ≤ (m0 a0 6) ∧ (m0 a0 6) ≤ 24 := zi_rd hIm0 hc0 zb_22_6
    refine zw_some ?_
    have hM : (24 - 0) * 1 + 25 < ((50 : Nat) : Int) := by omega
    exact (zl_274 n (m0 := m0) hc0 50).1 (m0 a0 6) 0 m0 hIm0 hFm0 ⟨by omega, by omega⟩ ⟨by omega, by omega⟩ hM
set_option maxHeartbeats 4000000 in
theorem zl_276 (n : Nat) {a0 : Int} {m0 : zu_m} (hc0 : zcls a0 = 22)   : ∀ k : Nat, (∀ (x1 x2 x3 : Int) (mh : zu_m), zi_I mh → zfr [] m0 mh → (0 ≤ x1 ∧ x1 ≤ 200) → (0 ≤ x2 ∧ x2 ≤ 24) → (0 ≤ x3 ∧ x3 ≤ 24) → (24 - x3) * 1 + 0 < (k : Int) → zw (zu_ex (zt_T n) 276 9 [(28, a0), (0, x1), (0, x2), (0, x3)] [] mh) (fun v m => zi_I m ∧ zfr [] m0 m ∧ (0 ≤ v ∧ v ≤ 200))) := by
  intro k
  induction k with
  | zero => exact fun x1 x2 x3 mh hImh hFmh hbx1 hbx2 hbx3 hM => by exfalso; omega
  | succ k ih =>
    intro x1 x2 x3 mh hImh hFmh hbx1 hbx2 hbx3 hM
    refine zw_eq (zr_276_9 n a0 x1 x2 x3 mh) ?_
    unfold zd_276_9
    refine zw_ite (fun h1 => ?_) (fun h1 => ?_)
    · exact zw_some ⟨hImh, hFmh, ⟨by omega, by omega⟩⟩
    · refine zw_bd (zw_eq (zr_275_0 n a0 x3 mh) ?_)
      unfold zd_275_0
      have b2 : 0 ≤ x3 ∧ x3 < 24 := by omega
      refine zw_if b2 ?_
      have r3 : 0 ≤ (mh 147 x3) ∧ (mh 147 x3) ≤ 1 := zi_rd hImh zq_147 (zb_80 _)
      refine zw_ite (fun h4 => ?_) (fun h4 => ?_)
      · refine zw_b (by omega) ?_
        refine zw_some ?_
        refine zw_ite (fun h5 => ?_) (fun h5 => ?_)
        · have w6 := zu_w32_id (z := x3 + 1) (by omega) (by omega)
          have hM : (24 - (zu_w32 (x3 + 1))) * 1 + 0 < (k : Int) := by omega
          exact ih x1 x2 (zu_w32 (x3 + 1)) mh hImh hFmh ⟨by omega, by omega⟩ ⟨by omega, by omega⟩ ⟨by omega, by omega⟩ hM
        · exfalso; omega
      · have b7 : 0 ≤ x3 ∧ x3 < 24 := by omega
        refine zw_if b7 ?_
        have r8 : (-1) ≤ (mh 146 x3) ∧ (mh 146 x3) ≤ 23 := zi_rd hImh zq_146 (zb_79 _)
        refine zw_ite (fun h9 => ?_) (fun h9 => ?_)
        · refine zw_b (by omega) ?_
          refine zw_some ?_
          refine zw_ite (fun h10 => ?_) (fun h10 => ?_)
          · have w11 := zu_w32_id (z := x3 + 1) (by omega) (by omega)
            have hM : (24 - (zu_w32 (x3 + 1))) * 1 + 0 < (k : Int) := by omega
            exact ih x1 x2 (zu_w32 (x3 + 1)) mh hImh hFmh ⟨by omega, by omega⟩ ⟨by omega, by omega⟩ ⟨by omega, by omega⟩ hM
          · exfalso; omega
        · refine zw_b (by omega) ?_
          refine zw_some ?_
          refine zw_ite (fun h12 => ?_) (fun h12 => ?_)
          · exfalso; omega
          · have b13 : 0 ≤ x3 ∧ x3 < 24 := by omega
            refine zw_if b13 ?_
            have r14 : 0 ≤ (mh 142 x3) ∧ (mh 142 x3) ≤ 200 := zi_rd hImh zq_142 (zb_75 _)
            have k15 := zmax_bd x1 (mh 142 x3)
            have w16 := zu_w32_id (z := x3 + 1) (by omega) (by omega)
            have hM : (24 - (zu_w32 (x3 + 1))) * 1 + 0 < (k : Int) := by omega
            exact ih (zu_max x1 (mh 142 x3)) x2 (zu_w32 (x3 + 1)) mh hImh hFmh ⟨by omega, by omega⟩ ⟨by omega, by omega⟩ ⟨by omega, by omega⟩ hM
set_option maxHeartbeats 4000000 in
theorem zk_276 (n : Nat) {a0 : Int} {m0 : zu_m} (hIm0 : zi_I m0) (hc0 : zcls a0 = 22)      : zw (zu_call (zt_T n) 276 [(28, a0)] m0) (fun v m => zi_I m ∧ zfr [] m0 m ∧ (0 ≤ v ∧ v ≤ 200)) := by
  have hFm0 : zfr [] m0 m0 := zfr_rf _ _
  refine zw_eq (zr_276_0 n a0 m0) ?_
  unfold zd_276_0
  refine zw_bd (zw_eq (zr_271_0 n a0 m0) ?_)
  unfold zd_271_0
  have r17 : (-1) ≤ (m0 a0 7) ∧ (m0 a0 7) ≤ 24 := zi_rd hIm0 hc0 zb_22_7
  refine zw_ite (fun h18 => ?_) (fun h18 => ?_)
  · refine zw_some ?_
    have hM : (24 - 0) * 1 + 0 < ((25 : Nat) : Int) := by omega
    exact (zl_276 n (m0 := m0) hc0 25) 0 (m0 a0 7) 0 m0 hIm0 hFm0 ⟨by omega, by omega⟩ ⟨by omega, by omega⟩ ⟨by omega, by omega⟩ hM
  · have r19 : 0 ≤ (m0 a0 6) ∧ (m0 a0 6) ≤ 24 := zi_rd hIm0 hc0 zb_22_6
    refine zw_some ?_
    have hM : (24 - 0) * 1 + 0 < ((25 : Nat) : Int) := by omega
    exact (zl_276 n (m0 := m0) hc0 25) 0 (m0 a0 6) 0 m0 hIm0 hFm0 ⟨by omega, by omega⟩ ⟨by omega, by omega⟩ ⟨by omega, by omega⟩ hM
set_option maxHeartbeats 4000000 in
theorem zl_277 (n : Nat) {a0 a1 : Int} {m0 : zu_m} (hc0 : zcls a0 = 22) (hc1 : zcls a1 = 25)   : ∀ k : Nat, (∀ (x2 x3 : Int) (mh : zu_m), zi_I mh → zfr [] m0 mh → (0 ≤ x2 ∧ x2 ≤ 24) → (0 ≤ x3 ∧ x3 ≤ 24) → (24 - x3) * 1 + 0 < (k : Int) → zw (zu_ex (zt_T n) 277 7 [(28, a0), (27, a1), (0, x2), (0, x3)] [] mh) (fun v m => zi_I m ∧ zfr [] m0 m ∧ (0 ≤ v ∧ v ≤ 1))) := by
  intro k
  induction k with
  | zero => exact fun x2 x3 mh hImh hFmh hbx2 hbx3 hM => by exfalso; omega
  | succ k ih =>
    intro x2 x3 mh hImh hFmh hbx2 hbx3 hM
    refine zw_eq (zr_277_7 n a0 a1 x2 x3 mh) ?_
    unfold zd_277_7
    refine zw_ite (fun h1 => ?_) (fun h1 => ?_)
    · refine zw_b (by omega) ?_
      exact zw_some ⟨hImh, hFmh, ⟨by omega, by omega⟩⟩
    · refine zw_bd (zw_eq (zr_275_0 n a0 x3 mh) ?_)
      unfold zd_275_0
      have b2 : 0 ≤ x3 ∧ x3 < 24 := by omega
      refine zw_if b2 ?_
      have r3 : 0 ≤ (mh 147 x3) ∧ (mh 147 x3) ≤ 1 := zi_rd hImh zq_147 (zb_80 _)
      refine zw_ite (fun h4 => ?_) (fun h4 => ?_)
      · refine zw_b (by omega) ?_
        refine zw_some ?_
        refine zw_ite (fun h5 => ?_) (fun h5 => ?_)
        · have w6 := zu_w32_id (z := x3 + 1) (by omega) (by omega)
          have hM : (24 - (zu_w32 (x3 + 1))) * 1 + 0 < (k : Int) := by omega
          exact ih x2 (zu_w32 (x3 + 1)) mh hImh hFmh ⟨by omega, by omega⟩ ⟨by omega, by omega⟩ hM
        · exfalso; omega
      · have b7 : 0 ≤ x3 ∧ x3 < 24 := by omega
        refine zw_if b7 ?_
        have r8 : (-1) ≤ (mh 146 x3) ∧ (mh 146 x3) ≤ 23 := zi_rd hImh zq_146 (zb_79 _)
        refine zw_ite (fun h9 => ?_) (fun h9 => ?_)
        · refine zw_b (by omega) ?_
          refine zw_some ?_
          refine zw_ite (fun h10 => ?_) (fun h10 => ?_)
          · have w11 := zu_w32_id (z := x3 + 1) (by omega) (by omega)
            have hM : (24 - (zu_w32 (x3 + 1))) * 1 + 0 < (k : Int) := by omega
            exact ih x2 (zu_w32 (x3 + 1)) mh hImh hFmh ⟨by omega, by omega⟩ ⟨by omega, by omega⟩ hM
          · exfalso; omega
        · refine zw_b (by omega) ?_
          refine zw_some ?_
          refine zw_ite (fun h12 => ?_) (fun h12 => ?_)
          · exfalso; omega
          · have b13 : 0 ≤ x3 ∧ x3 < 24 := by omega
            refine zw_if b13 ?_
            have r14 : 0 ≤ (mh 142 x3) ∧ (mh 142 x3) ≤ 200 := zi_rd hImh zq_142 (zb_75 _)
            have r15 : 0 ≤ (mh a1 8) ∧ (mh a1 8) ≤ 20000 := zi_rd hImh hc1 zb_25_8
            refine zw_ite (fun h16 => ?_) (fun h16 => ?_)
            · have w17 := zu_w32_id (z := x3 + 1) (by omega) (by omega)
              have hM : (24 - (zu_w32 (x3 + 1))) * 1 + 0 < (k : Int) := by omega
              exact ih x2 (zu_w32 (x3 + 1)) mh hImh hFmh ⟨by omega, by omega⟩ ⟨by omega, by omega⟩ hM
            · have b18 : 0 ≤ x3 ∧ x3 < 24 := by omega
              refine zw_if b18 ?_
              have r19 : 0 ≤ (mh 143 x3) ∧ (mh 143 x3) ≤ 3 := zi_rd hImh zq_143 (zb_76 _)
              have b20 : 0 ≤ (mh 143 x3) ∧ (mh 143 x3) < 4 := by omega
              refine zw_if b20 ?_
              have r21 : (-2147483648) ≤ (mh ((a1 + 2) + 20 + (mh 143 x3)) 6) ∧ (mh ((a1 + 2) + 20 + (mh 143 x3)) 6) ≤ 2147483647 := zi_rd hImh (zc_96_e (zc_25_3 hc1) b20) zb_27_6
              have b22 : 0 ≤ x3 ∧ x3 < 24 := by omega
              refine zw_if b22 ?_
              have r23 : 0 ≤ (mh 144 x3) ∧ (mh 144 x3) ≤ 16 := zi_rd hImh zq_144 (zb_77 _)
              refine zw_ite (fun h24 => ?_) (fun h24 => ?_)
              · have b25 : 0 ≤ x3 ∧ x3 < 24 := by omega
                refine zw_if b25 ?_
                have r26 : 0 ≤ (mh 145 x3) ∧ (mh 145 x3) ≤ 1 := zi_rd hImh zq_145 (zb_78 _)
                refine zw_ite (fun h27 => ?_) (fun h27 => ?_)
                · have w28 := zu_w32_id (z := x3 + 1) (by omega) (by omega)
                  have hM : (24 - (zu_w32 (x3 + 1))) * 1 + 0 < (k : Int) := by omega
                  exact ih x2 (zu_w32 (x3 + 1)) mh hImh hFmh ⟨by omega, by omega⟩ ⟨by omega, by omega⟩ hM
                · refine zw_b (by omega) ?_
                  exact zw_some ⟨hImh, hFmh, ⟨by omega, by omega⟩⟩
              · have b29 : 0 ≤ x3 ∧ x3 < 24 := by omega
                refine zw_if b29 ?_
                have r30 : 0 ≤ (mh 145 x3) ∧ (mh 145 x3) ≤ 1 := zi_rd hImh zq_145 (zb_78 _)
                refine zw_ite (fun h31 => ?_) (fun h31 => ?_)
                · have w32 := zu_w32_id (z := x3 + 1) (by omega) (by omega)
                  have hM : (24 - (zu_w32 (x3 + 1))) * 1 + 0 < (k : Int) := by omega
                  exact ih x2 (zu_w32 (x3 + 1)) mh hImh hFmh ⟨by omega, by omega⟩ ⟨by omega, by omega⟩ hM
                · refine zw_b (by omega) ?_
                  exact zw_some ⟨hImh, hFmh, ⟨by omega, by omega⟩⟩
set_option maxHeartbeats 4000000 in
theorem zk_277 (n : Nat) {a0 a1 : Int} {m0 : zu_m} (hIm0 : zi_I m0) (hc0 : zcls a0 = 22) (hc1 : zcls a1 = 25)      : zw (zu_call (zt_T n) 277 [(28, a0), (27, a1)] m0) (fun v m => zi_I m ∧ zfr [] m0 m ∧ (0 ≤ v ∧ v ≤ 1)) := by
  have hFm0 : zfr [] m0 m0 := zfr_rf _ _
  refine zw_eq (zr_277_0 n a0 a1 m0) ?_
  unfold zd_277_0
  refine zw_bd (zw_eq (zr_271_0 n a0 m0) ?_)
  unfold zd_271_0
  have r33 : (-1) ≤ (m0 a0 7) ∧ (m0 a0 7) ≤ 24 := zi_rd hIm0 hc0 zb_22_7
  refine zw_ite (fun h34 => ?_) (fun h34 => ?_)
  · refine zw_some ?_
    have hM : (24 - 0) * 1 + 0 < ((25 : Nat) : Int) := by omega
    exact (zl_277 n (m0 := m0) hc0 hc1 25) (m0 a0 7) 0 m0 hIm0 hFm0 ⟨by omega, by omega⟩ ⟨by omega, by omega⟩ hM
  · have r35 : 0 ≤ (m0 a0 6) ∧ (m0 a0 6) ≤ 24 := zi_rd hIm0 hc0 zb_22_6
    refine zw_some ?_
    have hM : (24 - 0) * 1 + 0 < ((25 : Nat) : Int) := by omega
    exact (zl_277 n (m0 := m0) hc0 hc1 25) (m0 a0 6) 0 m0 hIm0 hFm0 ⟨by omega, by omega⟩ ⟨by omega, by omega⟩ hM
set_option maxHeartbeats 4000000 in
theorem zk_292 (n : Nat) {a0 a1 a2 : Int} {m0 : zu_m} (hIm0 : zi_I m0) (hc0 : zcls a0 = 24) (ha1 : 0 ≤ a1 ∧ a1 ≤ 3) (ha2 : 0 ≤ a2 ∧ a2 ≤ 17)     : zw (zu_call (zt_T n) 292 [(33, a0), (0, a1), (0, a2)] m0) (fun v m => zi_I m ∧ zfr [(59, 1), (59, 2), (59, 3), (59, 4), (59, 5), (59, 6), (59, 7)] m0 m ∧ True) := by
  have hFm0 : zfr [(59, 1), (59, 2), (59, 3), (59, 4), (59, 5), (59, 6), (59, 7)] m0 m0 := zfr_rf _ _
  refine zw_eq (zr_292_0 n a0 a1 a2 m0) ?_
  unfold zd_292_0
  have r1 : 0 ≤ (m0 89 2) ∧ (m0 89 2) ≤ 16 := zi_rd hIm0 zq_89 zb_16_2
  refine zw_ite (fun h2 => ?_) (fun h2 => ?_)
  · have b3 : 0 ≤ a2 ∧ a2 < 18 := by omega
    refine zw_if b3 ?_
    have r4 : 0 ≤ (m0 155 a2) ∧ (m0 155 a2) ≤ 47 := zi_rd hIm0 zq_155 (zb_86 _)
    have r5 : 0 ≤ (m0 a0 13) ∧ (m0 a0 13) ≤ 3 := zi_rd hIm0 hc0 zb_24_13
    have r6 : 0 ≤ (m0 a0 14) ∧ (m0 a0 14) ≤ 9 := zi_rd hIm0 hc0 zb_24_14
    refine zw_bd (zw_mono (zk_25 n hIm0 zq_50 ⟨by omega, by omega⟩ ⟨by omega, by omega⟩ ⟨by omega, by omega⟩) (fun v8 m7 hqm7 => ?_))
    obtain ⟨hIm7, hfm7, hvm7⟩ := hqm7
    have hFm7 := zfr_tr hFm0 hfm7 rfl
    have b9 : 0 ≤ a1 ∧ a1 < 4 := by omega
    refine zw_if b9 ?_
    have r10 : 0 ≤ (m7 ((89 + 2) + 20 + a1) 2) ∧ (m7 ((89 + 2) + 20 + a1) 2) ≤ 15 := zi_rd hIm7 (zc_66_e (zc_16_3 zq_89) b9) zb_18_2
    have b11 : 0 ≤ a1 ∧ a1 < 4 := by omega
    refine zw_if b11 ?_
    have r12 : (-2147483648) ≤ (m7 158 a1) ∧ (m7 158 a1) ≤ 2147483647 := zi_rd hIm7 zq_158 (zb_89 _)
    refine zw_bd (zw_mono (zk_247 n hIm7 zq_50 ⟨by omega, by omega⟩ ⟨by omega, by omega⟩ ⟨by omega, by omega⟩) (fun v14 m13 hqm13 => ?_))
    obtain ⟨hIm13, hfm13, hvm13⟩ := hqm13
    have hFm13 := zfr_tr hFm7 hfm13 rfl
    exact zw_some ⟨hIm13, hFm13, trivial⟩
  · have b15 : 0 ≤ a2 ∧ a2 < 18 := by omega
    refine zw_if b15 ?_
    have r16 : 0 ≤ (m0 155 a2) ∧ (m0 155 a2) ≤ 47 := zi_rd hIm0 zq_155 (zb_86 _)
    have b17 : 0 ≤ a2 ∧ a2 < 16 := by omega
    refine zw_if b17 ?_
    have r18 : 0 ≤ (m0 ((89 + 1) + 5 + a2) 1) ∧ (m0 ((89 + 1) + 5 + a2) 1) ≤ 3 := zi_rd hIm0 (zc_65_e (zc_16_1 zq_89) b17) zb_17_1
    have b19 : 0 ≤ a2 ∧ a2 < 16 := by omega
    refine zw_if b19 ?_
    have r20 : 0 ≤ (m0 ((89 + 1) + 5 + a2) 2) ∧ (m0 ((89 + 1) + 5 + a2) 2) ≤ 9 := zi_rd hIm0 (zc_65_e (zc_16_1 zq_89) b19) zb_17_2
    refine zw_bd (zw_mono (zk_25 n hIm0 zq_50 ⟨by omega, by omega⟩ ⟨by omega, by omega⟩ ⟨by omega, by omega⟩) (fun v22 m21 hqm21 => ?_))
    obtain ⟨hIm21, hfm21, hvm21⟩ := hqm21
    have hFm21 := zfr_tr hFm0 hfm21 rfl
    have b23 : 0 ≤ a1 ∧ a1 < 4 := by omega
    refine zw_if b23 ?_
    have r24 : 0 ≤ (m21 ((89 + 2) + 20 + a1) 2) ∧ (m21 ((89 + 2) + 20 + a1) 2) ≤ 15 := zi_rd hIm21 (zc_66_e (zc_16_3 zq_89) b23) zb_18_2
    have b25 : 0 ≤ a1 ∧ a1 < 4 := by omega
    refine zw_if b25 ?_
    have r26 : (-2147483648) ≤ (m21 158 a1) ∧ (m21 158 a1) ≤ 2147483647 := zi_rd hIm21 zq_158 (zb_89 _)
    refine zw_bd (zw_mono (zk_247 n hIm21 zq_50 ⟨by omega, by omega⟩ ⟨by omega, by omega⟩ ⟨by omega, by omega⟩) (fun v28 m27 hqm27 => ?_))
    obtain ⟨hIm27, hfm27, hvm27⟩ := hqm27
    have hFm27 := zfr_tr hFm21 hfm27 rfl
    exact zw_some ⟨hIm27, hFm27, trivial⟩
set_option maxHeartbeats 4000000 in
theorem zl_297 (n : Nat) {a0 a1 a2 : Int} {m0 : zu_m} (hc0 : zcls a0 = 24)   : ∀ k : Nat, (∀ (x3 : Int) (mh : zu_m), zi_I mh → zfr [] m0 mh → (0 ≤ a1 ∧ a1 ≤ 3) → (0 ≤ a2 ∧ a2 ≤ 3) → (0 ≤ x3 ∧ x3 ≤ 4) → (1 ≤ mh a0 18 ∧ mh a0 18 ≤ 4) → (4 - x3) * 1 + 0 < (k : Int) → zw (zu_ex (zt_T n) 297 2 [(33, a0), (0, a1), (0, a2), (0, x3)] [] mh) (fun v m => zi_I m ∧ zfr [] m0 m ∧ (0 ≤ v ∧ v ≤ 1))) := by
  intro k
  induction k with
  | zero => exact fun x3 mh hImh hFmh hba1 hba2 hbx3 hg3 hM => by exfalso; omega
  | succ k ih =>
    intro x3 mh hImh hFmh hba1 hba2 hbx3 hg3 hM
    refine zw_eq (zr_297_2 n a0 a1 a2 x3 mh) ?_
    unfold zd_297_2
    refine zw_ite (fun h1 => ?_) (fun h1 => ?_)
    · refine zw_b (by omega) ?_
      exact zw_some ⟨hImh, hFmh, ⟨by omega, by omega⟩⟩
    · refine zw_bd (zw_mono (zk_296 n hImh hc0 ⟨by omega, by omega⟩ ⟨by omega, by omega⟩) (fun v3 m2 hqm2 => ?_))
      obtain ⟨hIm2, hfm2, hvm2⟩ := hqm2
      have hFm2 := zfr_tr hFmh hfm2 rfl
      refine zw_bd (zw_mono (zk_296 n hIm2 hc0 ⟨by omega, by omega⟩ ⟨by omega, by omega⟩) (fun v5 m4 hqm4 => ?_))
      obtain ⟨hIm4, hfm4, hvm4⟩ := hqm4
      have hFm4 := zfr_tr hFm2 hfm4 rfl
      refine zw_ite (fun h6 => ?_) (fun h6 => ?_)
      · have w7 := zu_w32_id (z := x3 + 1) (by omega) (by omega)
        have r8 : 0 ≤ (m4 a0 18) ∧ (m4 a0 18) ≤ 4 := zi_rd hIm4 hc0 zb_24_18
        have e9 : (m4 a0 18) = (mh a0 18) := (Eq.trans (zfr_ap hfm4 hc0 rfl) (zfr_ap hfm2 hc0 rfl))
        have hM : (4 - (zu_w32 (x3 + 1))) * 1 + 0 < (k : Int) := by omega
        exact ih (zu_w32 (x3 + 1)) m4 hIm4 hFm4 ⟨by omega, by omega⟩ ⟨by omega, by omega⟩ ⟨by omega, by omega⟩ ⟨by omega, by omega⟩ hM
      · refine zw_b (by omega) ?_
        exact zw_some ⟨hIm4, hFm4, ⟨by omega, by omega⟩⟩
set_option maxHeartbeats 4000000 in
theorem zk_297 (n : Nat) {a0 a1 a2 : Int} {m0 : zu_m} (hIm0 : zi_I m0) (hc0 : zcls a0 = 24) (ha1 : 0 ≤ a1 ∧ a1 ≤ 3) (ha2 : 0 ≤ a2 ∧ a2 ≤ 3)  (he0 : 1 ≤ m0 a0 18 ∧ m0 a0 18 ≤ 4)   : zw (zu_call (zt_T n) 297 [(33, a0), (0, a1), (0, a2)] m0) (fun v m => zi_I m ∧ zfr [] m0 m ∧ (0 ≤ v ∧ v ≤ 1)) := by
  have hFm0 : zfr [] m0 m0 := zfr_rf _ _
  refine zw_eq (zr_297_0 n a0 a1 a2 m0) ?_
  unfold zd_297_0
  have hM : (4 - 0) * 1 + 0 < ((5 : Nat) : Int) := by omega
  exact (zl_297 n (m0 := m0) hc0 5) 0 m0 hIm0 hFm0 ⟨by omega, by omega⟩ ⟨by omega, by omega⟩ ⟨by omega, by omega⟩ ⟨by omega, by omega⟩ hM
set_option maxHeartbeats 4000000 in
theorem zk_305 (n : Nat) {a0 a1 a2 a3 a4 : Int} {m0 : zu_m} (hIm0 : zi_I m0) (hc0 : zcls a0 = 23) (ha1 : 0 ≤ a1 ∧ a1 ≤ 3) (ha2 : 0 ≤ a2 ∧ a2 ≤ 3) (ha3 : 0 ≤ a3 ∧ a3 ≤ 47) (ha4 : 0 ≤ a4 ∧ a4 ≤ 9)     : zw (zu_call (zt_T n) 305 [(31, a0), (0, a1), (0, a2), (0, a3), (0, a4)] m0) (fun v m => zi_I m ∧ zfr [(23, 5), (81, 0), (82, 0), (83, 0), (84, 0)] m0 m ∧ True ∧ (1 ≤ m a0 4 ∧ m a0 4 ≤ 20)) := by
  have hFm0 : zfr [(23, 5), (81, 0), (82, 0), (83, 0), (84, 0)] m0 m0 := zfr_rf _ _
  refine zw_eq (zr_305_0 n a0 a1 a2 a3 a4 m0) ?_
  unfold zd_305_0
  have r1 : 0 ≤ (m0 a0 4) ∧ (m0 a0 4) ≤ 20 := zi_rd hIm0 hc0 zb_23_4
  refine zw_ite (fun h2 => ?_) (fun h2 => ?_)
  · have b3 : 0 ≤ (m0 a0 4) ∧ (m0 a0 4) < 20 := by omega
    refine zw_if b3 ?_
    generalize hmm4 : zu_up m0 149 (m0 a0 4) a1 = m4
    have hIm4 := zi_up hmm4 hIm0 zq_149 (zb_81 _) (by omega) (by omega)
    have hFm4 := zfr_up hmm4 hFm0 zq_149 rfl
    have r5 : 0 ≤ (m4 a0 4) ∧ (m4 a0 4) ≤ 20 := zi_rd hIm4 hc0 zb_23_4
    have e6 : (m4 a0 4) = (m0 a0 4) := (zs_ne hmm4 (Or.inl (zc_ne hc0 zq_149 (by decide))))
    have b7 : 0 ≤ (m4 a0 4) ∧ (m4 a0 4) < 20 := by omega
    refine zw_if b7 ?_
    generalize hmm8 : zu_up m4 150 (m4 a0 4) a2 = m8
    have hIm8 := zi_up hmm8 hIm4 zq_150 (zb_82 _) (by omega) (by omega)
    have hFm8 := zfr_up hmm8 hFm4 zq_150 rfl
    have r9 : 0 ≤ (m8 a0 4) ∧ (m8 a0 4) ≤ 20 := zi_rd hIm8 hc0 zb_23_4
    have e10 : (m8 a0 4) = (m4 a0 4) := (zs_ne hmm8 (Or.inl (zc_ne hc0 zq_150 (by decide))))
    have b11 : 0 ≤ (m8 a0 4) ∧ (m8 a0 4) < 20 := by omega
    refine zw_if b11 ?_
    generalize hmm12 : zu_up m8 151 (m8 a0 4) a3 = m12
    have hIm12 := zi_up hmm12 hIm8 zq_151 (zb_83 _) (by omega) (by omega)
    have hFm12 := zfr_up hmm12 hFm8 zq_151 rfl
    have r13 : 0 ≤ (m12 a0 4) ∧ (m12 a0 4) ≤ 20 := zi_rd hIm12 hc0 zb_23_4
    have e14 : (m12 a0 4) = (m8 a0 4) := (zs_ne hmm12 (Or.inl (zc_ne hc0 zq_151 (by decide))))
    have b15 : 0 ≤ (m12 a0 4) ∧ (m12 a0 4) < 20 := by omega
    refine zw_if b15 ?_
    generalize hmm16 : zu_up m12 152 (m12 a0 4) a4 = m16
    have hIm16 := zi_up hmm16 hIm12 zq_152 (zb_84 _) (by omega) (by omega)
    have hFm16 := zfr_up hmm16 hFm12 zq_152 rfl
    have r17 : 0 ≤ (m16 a0 4) ∧ (m16 a0 4) ≤ 20 := zi_rd hIm16 hc0 zb_23_4
    have e18 : (m16 a0 4) = (m12 a0 4) := (zs_ne hmm16 (Or.inl (zc_ne hc0 zq_152 (by decide))))
    have w19 := zu_w32_id (z := (m16 a0 4) + 1) (by omega) (by omega)
    generalize hmm20 : zu_up m16 a0 4 (zu_w32 ((m16 a0 4) + 1)) = m20
    have hIm20 := zi_up hmm20 hIm16 hc0 zb_23_4 (by omega) (by omega)
    have hFm20 := zfr_up hmm20 hFm16 hc0 rfl
    have r21 : 0 ≤ (m20 a0 4) ∧ (m20 a0 4) ≤ 20 := zi_rd hIm20 hc0 zb_23_4
    have e22 : (m20 a0 4) = (zu_w32 ((m16 a0 4) + 1)) := (zs_eq hmm20)
    exact zw_some ⟨hIm20, hFm20, trivial, ⟨by omega, by omega⟩⟩
  · refine zw_bd (zw_mono (zk_306 n hIm0 hc0 ⟨by omega, by omega⟩) (fun v24 m23 hqm23 => ?_))
    obtain ⟨hIm23, hfm23, hvm23⟩ := hqm23
    have hFm23 := zfr_tr hFm0 hfm23 rfl
    have b25 : 0 ≤ (m23 a0 4) ∧ (m23 a0 4) < 20 := by omega
    refine zw_if b25 ?_
    generalize hmm26 : zu_up m23 149 (m23 a0 4) a1 = m26
    have hIm26 := zi_up hmm26 hIm23 zq_149 (zb_81 _) (by omega) (by omega)
    have hFm26 := zfr_up hmm26 hFm23 zq_149 rfl
    have r27 : 0 ≤ (m26 a0 4) ∧ (m26 a0 4) ≤ 20 := zi_rd hIm26 hc0 zb_23_4
    have e28 : (m26 a0 4) = (m23 a0 4) := (zs_ne hmm26 (Or.inl (zc_ne hc0 zq_149 (by decide))))
    have b29 : 0 ≤ (m26 a0 4) ∧ (m26 a0 4) < 20 := by omega
    refine zw_if b29 ?_
    generalize hmm30 : zu_up m26 150 (m26 a0 4) a2 = m30
    have hIm30 := zi_up hmm30 hIm26 zq_150 (zb_82 _) (by omega) (by omega)
    have hFm30 := zfr_up hmm30 hFm26 zq_150 rfl
    have r31 : 0 ≤ (m30 a0 4) ∧ (m30 a0 4) ≤ 20 := zi_rd hIm30 hc0 zb_23_4
    have e32 : (m30 a0 4) = (m26 a0 4) := (zs_ne hmm30 (Or.inl (zc_ne hc0 zq_150 (by decide))))
    have b33 : 0 ≤ (m30 a0 4) ∧ (m30 a0 4) < 20 := by omega
    refine zw_if b33 ?_
    generalize hmm34 : zu_up m30 151 (m30 a0 4) a3 = m34
    have hIm34 := zi_up hmm34 hIm30 zq_151 (zb_83 _) (by omega) (by omega)
    have hFm34 := zfr_up hmm34 hFm30 zq_151 rfl
    have r35 : 0 ≤ (m34 a0 4) ∧ (m34 a0 4) ≤ 20 := zi_rd hIm34 hc0 zb_23_4
    have e36 : (m34 a0 4) = (m30 a0 4) := (zs_ne hmm34 (Or.inl (zc_ne hc0 zq_151 (by decide))))
    have b37 : 0 ≤ (m34 a0 4) ∧ (m34 a0 4) < 20 := by omega
    refine zw_if b37 ?_
    generalize hmm38 : zu_up m34 152 (m34 a0 4) a4 = m38
    have hIm38 := zi_up hmm38 hIm34 zq_152 (zb_84 _) (by omega) (by omega)
    have hFm38 := zfr_up hmm38 hFm34 zq_152 rfl
    have r39 : 0 ≤ (m38 a0 4) ∧ (m38 a0 4) ≤ 20 := zi_rd hIm38 hc0 zb_23_4
    have e40 : (m38 a0 4) = (m34 a0 4) := (zs_ne hmm38 (Or.inl (zc_ne hc0 zq_152 (by decide))))
    have w41 := zu_w32_id (z := (m38 a0 4) + 1) (by omega) (by omega)
    generalize hmm42 : zu_up m38 a0 4 (zu_w32 ((m38 a0 4) + 1)) = m42
    have hIm42 := zi_up hmm42 hIm38 hc0 zb_23_4 (by omega) (by omega)
    have hFm42 := zfr_up hmm42 hFm38 hc0 rfl
    have r43 : 0 ≤ (m42 a0 4) ∧ (m42 a0 4) ≤ 20 := zi_rd hIm42 hc0 zb_23_4
    have e44 : (m42 a0 4) = (zu_w32 ((m38 a0 4) + 1)) := (zs_eq hmm42)
    exact zw_some ⟨hIm42, hFm42, trivial, ⟨by omega, by omega⟩⟩
set_option maxHeartbeats 4000000 in
theorem zk_311 (n : Nat) {a0 a1 : Int} {m0 : zu_m} (hIm0 : zi_I m0) (hc0 : zcls a0 = 23) (hc1 : zcls a1 = 16)      : zw (zu_call (zt_T n) 311 [(31, a0), (27, a1)] m0) (fun v m => zi_I m ∧ zfr [(16, 3), (16, 11), (17, 1), (17, 2), (17, 3), (17, 4), (18, 2), (23, 5)] m0 m ∧ (0 ≤ v ∧ v ≤ 1) ∧ (0 ≤ m a0 4 ∧ m a0 4 ≤ 19)) := by
  sorry
set_option maxHeartbeats 4000000 in
theorem zk_24 (n : Nat) {a0 a1 : Int} {m0 : zu_m} (hIm0 : zi_I m0) (hc0 : zcls a0 = 11) (ha1 : 0 ≤ a1 ∧ a1 ≤ 47)    (hRK54m0 : zR_K54 m0) : zw (zu_call (zt_T n) 24 [(8, a0), (0, a1)] m0) (fun v m => zi_I m ∧ zfr [(56, 0), (59, 1), (59, 2), (59, 3), (59, 4), (59, 5), (59, 6), (59, 7)] m0 m ∧ zR_K54 m ∧ ((-9223372036854775808) ≤ v ∧ v ≤ 9223372036854775807)) := by
  have hFm0 : zfr [(56, 0), (59, 1), (59, 2), (59, 3), (59, 4), (59, 5), (59, 6), (59, 7)] m0 m0 := zfr_rf _ _
  refine zw_eq (zr_24_0 n a0 a1 m0) ?_
  unfold zd_24_0
  refine zw_bd (zw_mono (zk_25 n hIm0 hc0 ⟨by omega, by omega⟩ ⟨by omega, by omega⟩ ⟨by omega, by omega⟩) (fun v2 m1 hqm1 => ?_))
  obtain ⟨hIm1, hfm1, hvm1⟩ := hqm1
  have hFm1 := zfr_tr hFm0 hfm1 rfl
  have hRK54m1 := zR_K54_fr (zdis_fr hfm1 rfl) hRK54m0
  refine zw_bd (zw_mono (zk_26 n hIm1 (zc_11_9 hc0) (zc_11_12 hc0) ⟨by omega, by omega⟩ hRK54m1) (fun v4 m3 hqm3 => ?_))
  obtain ⟨hIm3, hfm3, hvm3⟩ := hqm3
  have hFm3 := zfr_tr hFm1 hfm3 rfl
  obtain ⟨hRK54m3, hvm3⟩ := hvm3
  exact zw_some ⟨hIm3, hFm3, hRK54m3, ⟨by omega, by omega⟩⟩
set_option maxHeartbeats 4000000 in
theorem zk_59 (n : Nat) {a0 a1 : Int} {m0 : zu_m} (hIm0 : zi_I m0) (hc0 : zcls a0 = 2) (ha1 : (-2147483648) ≤ a1 ∧ a1 ≤ 2147483647)     : zw (zu_call (zt_T n) 59 [(5, a0), (0, a1)] m0) (fun v m => zi_I m ∧ zfr [] m0 m ∧ ((-1) ≤ v ∧ v ≤ 47)) := by
  have hFm0 : zfr [] m0 m0 := zfr_rf _ _
  refine zw_eq (zr_59_0 n a0 a1 m0) ?_
  unfold zd_59_0
  refine zw_bd (zw_eq (zr_211_0 n 89 a1 m0) ?_)
  unfold zd_211_0
  refine zw_ite (fun h1 => ?_) (fun h1 => ?_)
  · refine zw_b (by omega) ?_
    refine zw_some ?_
    refine zw_ite (fun h2 => ?_) (fun h2 => ?_)
    · exfalso; omega
    · exact zw_some ⟨hIm0, hFm0, ⟨by omega, by omega⟩⟩
  · have r3 : 0 ≤ (m0 89 4) ∧ (m0 89 4) ≤ 4 := zi_rd hIm0 zq_89 zb_16_4
    refine zw_ite (fun h4 => ?_) (fun h4 => ?_)
    · refine zw_b (by omega) ?_
      refine zw_some ?_
      refine zw_ite (fun h5 => ?_) (fun h5 => ?_)
      · exfalso; omega
      · exact zw_some ⟨hIm0, hFm0, ⟨by omega, by omega⟩⟩
    · refine zw_b (by omega) ?_
      refine zw_some ?_
      refine zw_ite (fun h6 => ?_) (fun h6 => ?_)
      · have b7 : 0 ≤ a1 ∧ a1 < 4 := by omega
        refine zw_if b7 ?_
        have r8 : 0 ≤ (m0 ((89 + 2) + 20 + a1) 1) ∧ (m0 ((89 + 2) + 20 + a1) 1) ≤ 47 := zi_rd hIm0 (zc_66_e (zc_16_3 zq_89) b7) zb_18_1
        refine zw_bd (zw_mono (zk_223_16 n hIm0 zq_89 ⟨by omega, by omega⟩ ⟨by omega, by omega⟩) (fun v10 m9 hqm9 => ?_))
        obtain ⟨hIm9, hfm9, hvm9⟩ := hqm9
        have hFm9 := zfr_tr hFm0 hfm9 rfl
        exact zw_some ⟨hIm9, hFm9, ⟨by omega, by omega⟩⟩
      · exfalso; omega
set_option maxHeartbeats 4000000 in
theorem zk_67 (n : Nat) {a0 a1 : Int} {m0 : zu_m} (hIm0 : zi_I m0) (hc0 : zcls a0 = 2) (ha1 : (-2147483648) ≤ a1 ∧ a1 ≤ 2147483647)     : zw (zu_call (zt_T n) 67 [(5, a0), (0, a1)] m0) (fun v m => zi_I m ∧ zfr [] m0 m ∧ ((-9223372036854775808) ≤ v ∧ v ≤ 9223372036854775807)) := by
  have hFm0 : zfr [] m0 m0 := zfr_rf _ _
  refine zw_eq (zr_67_0 n a0 a1 m0) ?_
  unfold zd_67_0
  refine zw_ite (fun h1 => ?_) (fun h1 => ?_)
  · exact zw_some ⟨hIm0, hFm0, ⟨by omega, by omega⟩⟩
  · refine zw_ite (fun h2 => ?_) (fun h2 => ?_)
    · refine zw_ite (fun h3 => ?_) (fun h3 => ?_)
      · refine zw_bd (zw_mono (zk_255 n hIm0 zq_50 ⟨by omega, by omega⟩) (fun v5 m4 hqm4 => ?_))
        obtain ⟨hIm4, hfm4, hvm4⟩ := hqm4
        have hFm4 := zfr_tr hFm0 hfm4 rfl
        exact zw_some ⟨hIm4, hFm4, ⟨by omega, by omega⟩⟩
      · refine zw_bd (zw_mono (zk_255 n hIm0 zq_50 ⟨by omega, by omega⟩) (fun v7 m6 hqm6 => ?_))
        obtain ⟨hIm6, hfm6, hvm6⟩ := hqm6
        have hFm6 := zfr_tr hFm0 hfm6 rfl
        exact zw_some ⟨hIm6, hFm6, ⟨by omega, by omega⟩⟩
    · exact zw_some ⟨hIm0, hFm0, ⟨by omega, by omega⟩⟩
set_option maxHeartbeats 4000000 in
theorem zk_78 (n : Nat) {a0 : Int} {m0 : zu_m} (hIm0 : zi_I m0) (hc0 : zcls a0 = 2)      : zw (zu_call (zt_T n) 78 [(5, a0)] m0) (fun v m => zi_I m ∧ zfr [(16, 3), (16, 11), (17, 1), (17, 2), (17, 3), (17, 4), (18, 2), (23, 5)] m0 m ∧ ((-1) ≤ v ∧ v ≤ 20)) := by
  have hFm0 : zfr [(16, 3), (16, 11), (17, 1), (17, 2), (17, 3), (17, 4), (18, 2), (23, 5)] m0 m0 := zfr_rf _ _
  refine zw_eq (zr_78_0 n a0 m0) ?_
  unfold zd_78_0
  refine zw_bd (zw_mono (zk_311 n hIm0 zq_148 zq_89) (fun v2 m1 hqm1 => ?_))
  obtain ⟨hIm1, hfm1, hvm1⟩ := hqm1
  have hFm1 := zfr_tr hFm0 hfm1 rfl
  refine zw_ite (fun h3 => ?_) (fun h3 => ?_)
  · exact zw_some ⟨hIm1, hFm1, ⟨by omega, by omega⟩⟩
  · exact zw_some ⟨hIm1, hFm1, ⟨by omega, by omega⟩⟩
set_option maxHeartbeats 4000000 in
theorem zk_79 (n : Nat) {a0 : Int} {m0 : zu_m} (hIm0 : zi_I m0) (hc0 : zcls a0 = 2)      : zw (zu_call (zt_T n) 79 [(5, a0)] m0) (fun v m => zi_I m ∧ zfr [(2, 10), (19, 3), (19, 5), (19, 9), (19, 10), (19, 11), (19, 12), (20, 1), (20, 2), (20, 3), (20, 4), (21, 1), (21, 2), (21, 3), (21, 4), (21, 5), (21, 6), (21, 7), (21, 8), (72, 0), (73, 0)] m0 m ∧ (0 ≤ v ∧ v ≤ 9999) ∧ (1 ≤ m a0 9 ∧ m a0 9 ≤ 1)) := by
  have hFm0 : zfr [(2, 10), (19, 3), (19, 5), (19, 9), (19, 10), (19, 11), (19, 12), (20, 1), (20, 2), (20, 3), (20, 4), (21, 1), (21, 2), (21, 3), (21, 4), (21, 5), (21, 6), (21, 7), (21, 8), (72, 0), (73, 0)] m0 m0 := zfr_rf _ _
  refine zw_eq (zr_79_0 n a0 m0) ?_
  unfold zd_79_0
  refine zw_bd (zw_mono (zk_22_19_16 n hIm0 zq_115 zq_89) (fun v2 m1 hqm1 => ?_))
  obtain ⟨hIm1, hfm1, hvm1⟩ := hqm1
  have hFm1 := zfr_tr hFm0 hfm1 rfl
  refine zw_b (by omega) ?_
  generalize hmm3 : zu_up m1 a0 9 1 = m3
  have hIm3 := zi_up hmm3 hIm1 hc0 zb_2_9 (by omega) (by omega)
  have hFm3 := zfr_up hmm3 hFm1 hc0 rfl
  have r4 : 0 ≤ (m3 89 8) ∧ (m3 89 8) ≤ 9999 := zi_rd hIm3 zq_89 zb_16_8
  have r5 : 0 ≤ (m3 a0 9) ∧ (m3 a0 9) ≤ 1 := zi_rd hIm3 hc0 zb_2_9
  have e6 : (m3 a0 9) = 1 := (zs_eq hmm3)
  exact zw_some ⟨hIm3, hFm3, ⟨by omega, by omega⟩, ⟨by omega, by omega⟩⟩
set_option maxHeartbeats 4000000 in
theorem zk_80 (n : Nat) {a0 : Int} {m0 : zu_m} (hIm0 : zi_I m0) (hc0 : zcls a0 = 2)      : zw (zu_call (zt_T n) 80 [(5, a0)] m0) (fun v m => zi_I m ∧ zfr [(16, 3), (16, 5), (16, 9), (16, 10), (16, 11), (16, 12), (17, 1), (17, 2), (17, 3), (17, 4), (18, 1), (18, 2), (18, 3), (18, 4), (18, 5), (18, 6), (18, 7), (18, 8), (23, 5), (67, 0), (68, 0)] m0 m ∧ ((-1) ≤ v ∧ v ≤ 9999)) := by
  have hFm0 : zfr [(16, 3), (16, 5), (16, 9), (16, 10), (16, 11), (16, 12), (17, 1), (17, 2), (17, 3), (17, 4), (18, 1), (18, 2), (18, 3), (18, 4), (18, 5), (18, 6), (18, 7), (18, 8), (23, 5), (67, 0), (68, 0)] m0 m0 := zfr_rf _ _
  refine zw_eq (zr_80_0 n a0 m0) ?_
  unfold zd_80_0
  have r1 : 0 ≤ (m0 a0 9) ∧ (m0 a0 9) ≤ 1 := zi_rd hIm0 hc0 zb_2_9
  refine zw_ite (fun h2 => ?_) (fun h2 => ?_)
  · refine zw_bd (zw_mono (zk_22_16_19 n hIm0 zq_89 zq_115) (fun v4 m3 hqm3 => ?_))
    obtain ⟨hIm3, hfm3, hvm3⟩ := hqm3
    have hFm3 := zfr_tr hFm0 hfm3 rfl
    refine zw_bd (zw_mono (zk_28 n hIm3 zq_148) (fun v6 m5 hqm5 => ?_))
    obtain ⟨hIm5, hfm5, hvm5⟩ := hqm5
    have hFm5 := zfr_tr hFm3 hfm5 rfl
    have r7 : 0 ≤ (m5 89 8) ∧ (m5 89 8) ≤ 9999 := zi_rd hIm5 zq_89 zb_16_8
    exact zw_some ⟨hIm5, hFm5, ⟨by omega, by omega⟩⟩
  · exact zw_some ⟨hIm0, hFm0, ⟨by omega, by omega⟩⟩
set_option maxHeartbeats 4000000 in
theorem zk_81 (n : Nat) {a0 a1 : Int} {m0 : zu_m} (hIm0 : zi_I m0) (hc0 : zcls a0 = 2) (ha1 : (-2147483648) ≤ a1 ∧ a1 ≤ 2147483647)     : zw (zu_call (zt_T n) 81 [(5, a0), (0, a1)] m0) (fun v m => zi_I m ∧ zfr [] m0 m ∧ ((-2147483648) ≤ v ∧ v ≤ 2147483647)) := by
  have hFm0 : zfr [] m0 m0 := zfr_rf _ _
  refine zw_eq (zr_81_0 n a0 a1 m0) ?_
  unfold zd_81_0
  refine zw_ite (fun h1 => ?_) (fun h1 => ?_)
  · have r2 : 1 ≤ (m0 50 0) ∧ (m0 50 0) ≤ 8 := zi_rd hIm0 zq_50 zb_11_0
    exact zw_some ⟨hIm0, hFm0, ⟨by omega, by omega⟩⟩
  · refine zw_ite (fun h3 => ?_) (fun h3 => ?_)
    · have r4 : 1 ≤ (m0 50 1) ∧ (m0 50 1) ≤ 6 := zi_rd hIm0 zq_50 zb_11_1
      exact zw_some ⟨hIm0, hFm0, ⟨by omega, by omega⟩⟩
    · refine zw_ite (fun h5 => ?_) (fun h5 => ?_)
      · have r6 : 0 ≤ (m0 89 2) ∧ (m0 89 2) ≤ 16 := zi_rd hIm0 zq_89 zb_16_2
        exact zw_some ⟨hIm0, hFm0, ⟨by omega, by omega⟩⟩
      · refine zw_ite (fun h7 => ?_) (fun h7 => ?_)
        · have r8 : 0 ≤ (m0 89 4) ∧ (m0 89 4) ≤ 4 := zi_rd hIm0 zq_89 zb_16_4
          exact zw_some ⟨hIm0, hFm0, ⟨by omega, by omega⟩⟩
        · refine zw_ite (fun h9 => ?_) (fun h9 => ?_)
          · have r10 : 0 ≤ (m0 (50 + 4) 5) ∧ (m0 (50 + 4) 5) ≤ 64 := zi_rd hIm0 (zc_11_9 zq_50) zb_12_5
            exact zw_some ⟨hIm0, hFm0, ⟨by omega, by omega⟩⟩
          · refine zw_ite (fun h11 => ?_) (fun h11 => ?_)
            · have r12 : 0 ≤ (m0 89 8) ∧ (m0 89 8) ≤ 9999 := zi_rd hIm0 zq_89 zb_16_8
              exact zw_some ⟨hIm0, hFm0, ⟨by omega, by omega⟩⟩
            · refine zw_ite (fun h13 => ?_) (fun h13 => ?_)
              · refine zw_bd (zw_mono (zk_233 n hIm0 zq_89 ⟨by omega, by omega⟩) (fun v15 m14 hqm14 => ?_))
                obtain ⟨hIm14, hfm14, hvm14⟩ := hqm14
                have hFm14 := zfr_tr hFm0 hfm14 rfl
                exact zw_some ⟨hIm14, hFm14, ⟨by omega, by omega⟩⟩
              · refine zw_ite (fun h16 => ?_) (fun h16 => ?_)
                · refine zw_bd (zw_mono (zk_234_16 n hIm0 zq_89) (fun v18 m17 hqm17 => ?_))
                  obtain ⟨hIm17, hfm17, hvm17⟩ := hqm17
                  have hFm17 := zfr_tr hFm0 hfm17 rfl
                  exact zw_some ⟨hIm17, hFm17, ⟨by omega, by omega⟩⟩
                · refine zw_ite (fun h19 => ?_) (fun h19 => ?_)
                  · refine zw_bd (zw_mono (zk_233 n hIm0 zq_89 ⟨by omega, by omega⟩) (fun v21 m20 hqm20 => ?_))
                    obtain ⟨hIm20, hfm20, hvm20⟩ := hqm20
                    have hFm20 := zfr_tr hFm0 hfm20 rfl
                    exact zw_some ⟨hIm20, hFm20, ⟨by omega, by omega⟩⟩
                  · refine zw_ite (fun h22 => ?_) (fun h22 => ?_)
                    · refine zw_bd (zw_mono (zk_233 n hIm0 zq_89 ⟨by omega, by omega⟩) (fun v24 m23 hqm23 => ?_))
                      obtain ⟨hIm23, hfm23, hvm23⟩ := hqm23
                      have hFm23 := zfr_tr hFm0 hfm23 rfl
                      exact zw_some ⟨hIm23, hFm23, ⟨by omega, by omega⟩⟩
                    · refine zw_ite (fun h25 => ?_) (fun h25 => ?_)
                      · refine zw_bd (zw_mono (zk_235 n hIm0 zq_89) (fun v27 m26 hqm26 => ?_))
                        obtain ⟨hIm26, hfm26, hvm26⟩ := hqm26
                        have hFm26 := zfr_tr hFm0 hfm26 rfl
                        exact zw_some ⟨hIm26, hFm26, ⟨by omega, by omega⟩⟩
                      · refine zw_ite (fun h28 => ?_) (fun h28 => ?_)
                        · have r29 : 0 ≤ (m0 89 10) ∧ (m0 89 10) ≤ 3 := zi_rd hIm0 zq_89 zb_16_10
                          exact zw_some ⟨hIm0, hFm0, ⟨by omega, by omega⟩⟩
                        · refine zw_ite (fun h30 => ?_) (fun h30 => ?_)
                          · have r31 : 0 ≤ (m0 141 6) ∧ (m0 141 6) ≤ 24 := zi_rd hIm0 zq_141 zb_22_6
                            exact zw_some ⟨hIm0, hFm0, ⟨by omega, by omega⟩⟩
                          · refine zw_ite (fun h32 => ?_) (fun h32 => ?_)
                            · refine zw_bd (zw_eq (zr_271_0 n 141 m0) ?_)
                              unfold zd_271_0
                              have r33 : (-1) ≤ (m0 141 7) ∧ (m0 141 7) ≤ 24 := zi_rd hIm0 zq_141 zb_22_7
                              refine zw_ite (fun h34 => ?_) (fun h34 => ?_)
                              · refine zw_some ?_
                                exact zw_some ⟨hIm0, hFm0, ⟨by omega, by omega⟩⟩
                              · have r35 : 0 ≤ (m0 141 6) ∧ (m0 141 6) ≤ 24 := zi_rd hIm0 zq_141 zb_22_6
                                refine zw_some ?_
                                exact zw_some ⟨hIm0, hFm0, ⟨by omega, by omega⟩⟩
                            · refine zw_ite (fun h36 => ?_) (fun h36 => ?_)
                              · have r37 : 0 ≤ (m0 148 4) ∧ (m0 148 4) ≤ 20 := zi_rd hIm0 zq_148 zb_23_4
                                exact zw_some ⟨hIm0, hFm0, ⟨by omega, by omega⟩⟩
                              · refine zw_ite (fun h38 => ?_) (fun h38 => ?_)
                                · refine zw_bd (zw_mono (zk_239_16 n hIm0 zq_89) (fun v40 m39 hqm39 => ?_))
                                  obtain ⟨hIm39, hfm39, hvm39⟩ := hqm39
                                  have hFm39 := zfr_tr hFm0 hfm39 rfl
                                  exact zw_some ⟨hIm39, hFm39, ⟨by omega, by omega⟩⟩
                                · exact zw_some ⟨hIm0, hFm0, ⟨by omega, by omega⟩⟩
set_option maxHeartbeats 4000000 in
theorem zk_116 (n : Nat) {a0 : Int} {m0 : zu_m} (hIm0 : zi_I m0) (hc0 : zcls a0 = 28)   (he0 : 1 ≤ m0 a0 49 ∧ m0 a0 49 ≤ 1) (hxp0 : (m0 a0 21) + znz m0 = (m0 a0 48)) (hxp1 : (m0 a0 45) = znz m0 + (m0 a0 47)) (hxp2 : (m0 a0 46) = zbi m0) (hxp3 : (m0 a0 49) = 1) (hRKNm0 : zR_KN m0) (hRNSm0 : zR_NS m0) (hRTRm0 : zR_TR m0) (hRWDm0 : zR_WD m0) : zw (zu_call (zt_T n) 116 [(40, a0)] m0) (fun v m => zi_I m ∧ zfr [(28, 5), (28, 6), (28, 8), (28, 9), (28, 10), (28, 11), (28, 22), (28, 46), (28, 47), (28, 48), (28, 49), (28, 50), (28, 51), (117, 0), (118, 0), (119, 0), (120, 0), (121, 0)] m0 m ∧ zR_KN m ∧ zR_NS m ∧ zR_TR m ∧ zR_WD m ∧ (0 ≤ v ∧ v ≤ 1) ∧ ((m0 a0 7) ≤ (m a0 7)) ∧ (v = 1 → ((m0 a0 8) ≠ 0 ∧ ((m a0 8) = 0 ∨ (m0 a0 7) < (m a0 7)))) ∧ (v = 1 → (m a0 21) + znz m = (m a0 48)) ∧ (v = 1 → (m a0 46) + (m a0 49) = zbi m + 1) ∧ (v = 1 → (m a0 45) = znz m + (m a0 47)) ∧ (v = 1 → ((m a0 49) = 0 → 1 ≤ (m a0 21)))) := by
  have hFm0 : zfr [(28, 5), (28, 6), (28, 8), (28, 9), (28, 10), (28, 11), (28, 22), (28, 46), (28, 47), (28, 48), (28, 49), (28, 50), (28, 51), (117, 0), (118, 0), (119, 0), (120, 0), (121, 0)] m0 m0 := zfr_rf _ _
  have r1 : 0 ≤ (m0 a0 21) ∧ (m0 a0 21) ≤ 64 := zi_rd hIm0 hc0 zb_28_21
  have r2 : 0 ≤ (m0 a0 48) ∧ (m0 a0 48) ≤ 64 := zi_rd hIm0 hc0 zb_28_48
  have r3 : 0 ≤ (m0 a0 45) ∧ (m0 a0 45) ≤ 96 := zi_rd hIm0 hc0 zb_28_45
  have r4 : 0 ≤ (m0 a0 47) ∧ (m0 a0 47) ≤ 8 := zi_rd hIm0 hc0 zb_28_47
  have r5 : 0 ≤ (m0 a0 46) ∧ (m0 a0 46) ≤ 96 := zi_rd hIm0 hc0 zb_28_46
  have g6 := zwt_bd hIm0 hc0
  have s7 := hRNSm0 a0 hc0
  have s8 := hRTRm0 a0 hc0
  refine zw_eq (zr_116_0 n a0 m0) ?_
  unfold zd_116_0
  refine zw_bd (zw_eq (zr_93_0 n a0 40 m0) ?_)
  unfold zd_93_0
  have r9 : 0 ≤ (m0 a0 8) ∧ (m0 a0 8) ≤ 6 := zi_rd hIm0 hc0 zb_28_8
  refine zw_ite (fun h10 => ?_) (fun h10 => ?_)
  · refine zw_b (by omega) ?_
    refine zw_some ?_
    refine zw_ite (fun h11 => ?_) (fun h11 => ?_)
    · refine zw_bd (zw_eq (zr_92_0 n a0 25 m0) ?_)
      unfold zd_92_0
      refine zw_ite (fun h12 => ?_) (fun h12 => ?_)
      · refine zw_b (by omega) ?_
        refine zw_some ?_
        refine zw_ite (fun h13 => ?_) (fun h13 => ?_)
        · refine zw_bd (zw_eq (zr_115_0 n a0 m0) ?_)
          unfold zd_115_0
          refine zw_ite (fun h14 => ?_) (fun h14 => ?_)
          · refine zw_some ?_
            refine zw_ite (fun h15 => ?_) (fun h15 => ?_)
            · exfalso; omega
            · refine zw_ite (fun h16 => ?_) (fun h16 => ?_)
              · refine zw_ite (fun h17 => ?_) (fun h17 => ?_)
                · exfalso; omega
                · refine zw_ite (fun h18 => ?_) (fun h18 => ?_)
                  · refine zw_bd (zw_eq (zr_113_0 n a0 m0) ?_)
                    unfold zd_113_0
                    refine zw_ite (fun h19 => ?_) (fun h19 => ?_)
                    · have w20 := zu_w32_id (z := (m0 a0 48) + 1) (by omega) (by omega)
                      generalize hmm21 : zu_up m0 a0 48 (zu_w32 ((m0 a0 48) + 1)) = m21
                      have hIm21 := zi_up hmm21 hIm0 hc0 zb_28_48 (by omega) (by omega)
                      have hFm21 := zfr_up hmm21 hFm0 hc0 rfl
                      have g22 := zwt_fr (zdis_fr (zfr_up hmm21 (zfr_rf [(28, 49)] _) hc0 rfl) rfl)
                      have hRKNm21 := zR_KN_fr (zdis_fr (zfr_up hmm21 (zfr_rf [(28, 49)] _) hc0 rfl) rfl) hRKNm0
                      have hRNSm21 := zR_NS_fr (zdis_fr (zfr_up hmm21 (zfr_rf [(28, 49)] _) hc0 rfl) rfl) hRNSm0
                      have hRTRm21 := zR_TR_fr (zdis_fr (zfr_up hmm21 (zfr_rf [(28, 49)] _) hc0 rfl) rfl) hRTRm0
                      have hRWDm21 := zR_WD_fr (zdis_fr (zfr_up hmm21 (zfr_rf [(28, 49)] _) hc0 rfl) rfl) hRWDm0
                      refine zw_b (by omega) ?_
                      refine zw_some ?_
                      refine zw_ite (fun h23 => ?_) (fun h23 => ?_)
                      · refine zw_ite (fun h24 => ?_) (fun h24 => ?_)
                        · refine zw_ite (fun h25 => ?_) (fun h25 => ?_)
                          · have r26 : (-2147483648) ≤ (m21 a0 9) ∧ (m21 a0 9) ≤ 2147483647 := zi_rd hIm21 hc0 zb_28_9
                            have e27 : (m21 a0 9) = (m0 a0 9) := (zs_ne hmm21 (Or.inr (by decide)))
                            have r28 : 0 ≤ (m21 a0 21) ∧ (m21 a0 21) ≤ 64 := zi_rd hIm21 hc0 zb_28_21
                            have e29 : (m21 a0 21) = (m0 a0 21) := (zs_ne hmm21 (Or.inr (by decide)))
                            have r30 : 0 ≤ (m21 a0 46) ∧ (m21 a0 46) ≤ 96 := zi_rd hIm21 hc0 zb_28_46
                            have e31 : (m21 a0 46) = (m0 a0 46) := (zs_ne hmm21 (Or.inr (by decide)))
                            refine zw_bd (zw_mono (zk_110 n hIm21 hc0 ⟨by omega, by omega⟩ ⟨by omega, by omega⟩ ⟨by omega, by omega⟩ (by omega) (by omega) (by omega) (by omega) (by omega) hRKNm21) (fun v33 m32 hqm32 => ?_))
                            obtain ⟨hIm32, hfm32, hvm32⟩ := hqm32
                            have hFm32 := zfr_tr hFm21 hfm32 rfl
                            obtain ⟨hRKNm32, hvm32⟩ := hvm32
                            have g34 := zwt_fr (zdis_fr hfm32 rfl)
                            have hRNSm32 := zR_NS_fr (zdis_fr hfm32 rfl) hRNSm21
                            have hRTRm32 := zR_TR_fr (zdis_fr hfm32 rfl) hRTRm21
                            have hRWDm32 := zR_WD_fr (zdis_fr hfm32 rfl) hRWDm21
                            have g35 := zwt_bd hIm32 hc0
                            have s36 := hRNSm32 a0 hc0
                            have s37 := hRTRm32 a0 hc0
                            refine zw_b (by omega) ?_
                            generalize hmm38 : zu_up m32 a0 49 0 = m38
                            have hIm38 := zi_up hmm38 hIm32 hc0 zb_28_49 (by omega) (by omega)
                            have hFm38 := zfr_up hmm38 hFm32 hc0 rfl
                            have g39 := zwt_fr (zdis_fr (zfr_up hmm38 (zfr_rf [(28, 50)] _) hc0 rfl) rfl)
                            have hRKNm38 := zR_KN_fr (zdis_fr (zfr_up hmm38 (zfr_rf [(28, 50)] _) hc0 rfl) rfl) hRKNm32
                            have hRNSm38 := zR_NS_fr (zdis_fr (zfr_up hmm38 (zfr_rf [(28, 50)] _) hc0 rfl) rfl) hRNSm32
                            have hRTRm38 := zR_TR_fr (zdis_fr (zfr_up hmm38 (zfr_rf [(28, 50)] _) hc0 rfl) rfl) hRTRm32
                            have hRWDm38 := zR_WD_fr (zdis_fr (zfr_up hmm38 (zfr_rf [(28, 50)] _) hc0 rfl) rfl) hRWDm32
                            refine zw_bd (zw_mono (zk_89 n hIm38 hc0 hRNSm38 hRWDm38) (fun v41 m40 hqm40 => ?_))
                            obtain ⟨hIm40, hfm40, hvm40⟩ := hqm40
                            have hFm40 := zfr_tr hFm38 hfm40 rfl
                            obtain ⟨hRNSm40, hRTRm40, hRWDm40, hvm40⟩ := hvm40
                            have g42 := zwt_fr (zdis_fr hfm40 rfl)
                            have hRKNm40 := zR_KN_fr (zdis_fr hfm40 rfl) hRKNm38
                            have g43 := zwt_bd hIm40 hc0
                            have s44 := hRNSm40 a0 hc0
                            have s45 := hRTRm40 a0 hc0
                            refine zw_b (by omega) ?_
                            have r46 : 0 ≤ (m40 a0 7) ∧ (m40 a0 7) ≤ 700 := zi_rd hIm40 hc0 zb_28_7
                            have r47 : 0 ≤ (m40 a0 8) ∧ (m40 a0 8) ≤ 6 := zi_rd hIm40 hc0 zb_28_8
                            have r48 : 0 ≤ (m40 a0 21) ∧ (m40 a0 21) ≤ 64 := zi_rd hIm40 hc0 zb_28_21
                            have e49 : (m40 a0 21) = (m32 a0 21) := (Eq.trans (zfr_ap hfm40 hc0 rfl) (zs_ne hmm38 (Or.inr (by decide))))
                            have r50 : 0 ≤ (m40 a0 48) ∧ (m40 a0 48) ≤ 64 := zi_rd hIm40 hc0 zb_28_48
                            have e51 : (m40 a0 48) = (zu_w32 ((m0 a0 48) + 1)) := (Eq.trans (zfr_ap hfm40 hc0 rfl) (Eq.trans (zs_ne hmm38 (Or.inr (by decide))) (Eq.trans (zfr_ap hfm32 hc0 rfl) (zs_eq hmm21))))
                            have r52 : 0 ≤ (m40 a0 46) ∧ (m40 a0 46) ≤ 96 := zi_rd hIm40 hc0 zb_28_46
                            have e53 : (m40 a0 46) = (m32 a0 46) := (Eq.trans (zfr_ap hfm40 hc0 rfl) (zs_ne hmm38 (Or.inr (by decide))))
                            have r54 : 0 ≤ (m40 a0 49) ∧ (m40 a0 49) ≤ 1 := zi_rd hIm40 hc0 zb_28_49
                            have e55 : (m40 a0 49) = 0 := (Eq.trans (zfr_ap hfm40 hc0 rfl) (zs_eq hmm38))
                            have r56 : 0 ≤ (m40 a0 45) ∧ (m40 a0 45) ≤ 96 := zi_rd hIm40 hc0 zb_28_45
                            have e57 : (m40 a0 45) = (m0 a0 45) := (Eq.trans (zfr_ap hfm40 hc0 rfl) (Eq.trans (zs_ne hmm38 (Or.inr (by decide))) (Eq.trans (zfr_ap hfm32 hc0 rfl) (zs_ne hmm21 (Or.inr (by decide))))))
                            have r58 : 0 ≤ (m40 a0 47) ∧ (m40 a0 47) ≤ 8 := zi_rd hIm40 hc0 zb_28_47
                            have e59 : (m40 a0 47) = (m0 a0 47) := (Eq.trans (zfr_ap hfm40 hc0 rfl) (Eq.trans (zs_ne hmm38 (Or.inr (by decide))) (Eq.trans (zfr_ap hfm32 hc0 rfl) (zs_ne hmm21 (Or.inr (by decide))))))
                            exact zw_some ⟨hIm40, hFm40, hRKNm40, hRNSm40, hRTRm40, hRWDm40, ⟨by omega, by omega⟩, by omega, by omega, by omega, by omega, by omega, by omega⟩
                          · exfalso; omega
                        · exfalso; omega
                      · exfalso; omega
                    · refine zw_bd (zw_eq (zr_85_0 n a0 2 m0) ?_)
                      unfold zd_85_0
                      generalize hmm60 : zu_up m0 a0 4 2 = m60
                      have hIm60 := zi_up hmm60 hIm0 hc0 zb_28_4 (by omega) (by omega)
                      have hFm60 := zfr_up hmm60 hFm0 hc0 rfl
                      have g61 := zwt_fr (zdis_fr (zfr_up hmm60 (zfr_rf [(28, 5)] _) hc0 rfl) rfl)
                      have hRKNm60 := zR_KN_fr (zdis_fr (zfr_up hmm60 (zfr_rf [(28, 5)] _) hc0 rfl) rfl) hRKNm0
                      have hRNSm60 := zR_NS_fr (zdis_fr (zfr_up hmm60 (zfr_rf [(28, 5)] _) hc0 rfl) rfl) hRNSm0
                      have hRTRm60 := zR_TR_fr (zdis_fr (zfr_up hmm60 (zfr_rf [(28, 5)] _) hc0 rfl) rfl) hRTRm0
                      have hRWDm60 := zR_WD_fr (zdis_fr (zfr_up hmm60 (zfr_rf [(28, 5)] _) hc0 rfl) rfl) hRWDm0
                      have r62 : 0 ≤ (m60 a0 10) ∧ (m60 a0 10) ≤ 700 := zi_rd hIm60 hc0 zb_28_10
                      generalize hmm63 : zu_up m60 a0 5 (m60 a0 10) = m63
                      have hIm63 := zi_up hmm63 hIm60 hc0 zb_28_5 (by omega) (by omega)
                      have hFm63 := zfr_up hmm63 hFm60 hc0 rfl
                      have g64 := zwt_fr (zdis_fr (zfr_up hmm63 (zfr_rf [(28, 6)] _) hc0 rfl) rfl)
                      have hRKNm63 := zR_KN_fr (zdis_fr (zfr_up hmm63 (zfr_rf [(28, 6)] _) hc0 rfl) rfl) hRKNm60
                      have hRNSm63 := zR_NS_fr (zdis_fr (zfr_up hmm63 (zfr_rf [(28, 6)] _) hc0 rfl) rfl) hRNSm60
                      have hRTRm63 := zR_TR_fr (zdis_fr (zfr_up hmm63 (zfr_rf [(28, 6)] _) hc0 rfl) rfl) hRTRm60
                      have hRWDm63 := zR_WD_fr (zdis_fr (zfr_up hmm63 (zfr_rf [(28, 6)] _) hc0 rfl) rfl) hRWDm60
                      refine zw_b (by omega) ?_
                      refine zw_some ?_
                      refine zw_b (by omega) ?_
                      refine zw_some ?_
                      refine zw_ite (fun h65 => ?_) (fun h65 => ?_)
                      · exfalso; omega
                      · refine zw_b (by omega) ?_
                        have r66 : 0 ≤ (m63 a0 7) ∧ (m63 a0 7) ≤ 700 := zi_rd hIm63 hc0 zb_28_7
                        have r67 : 0 ≤ (m63 a0 8) ∧ (m63 a0 8) ≤ 6 := zi_rd hIm63 hc0 zb_28_8
                        have e68 : (m63 a0 8) = (m0 a0 8) := (Eq.trans (zs_ne hmm63 (Or.inr (by decide))) (zs_ne hmm60 (Or.inr (by decide))))
                        have r69 : 0 ≤ (m63 a0 21) ∧ (m63 a0 21) ≤ 64 := zi_rd hIm63 hc0 zb_28_21
                        have e70 : (m63 a0 21) = (m0 a0 21) := (Eq.trans (zs_ne hmm63 (Or.inr (by decide))) (zs_ne hmm60 (Or.inr (by decide))))
                        have r71 : 0 ≤ (m63 a0 48) ∧ (m63 a0 48) ≤ 64 := zi_rd hIm63 hc0 zb_28_48
                        have e72 : (m63 a0 48) = (m0 a0 48) := (Eq.trans (zs_ne hmm63 (Or.inr (by decide))) (zs_ne hmm60 (Or.inr (by decide))))
                        have r73 : 0 ≤ (m63 a0 46) ∧ (m63 a0 46) ≤ 96 := zi_rd hIm63 hc0 zb_28_46
                        have e74 : (m63 a0 46) = (m0 a0 46) := (Eq.trans (zs_ne hmm63 (Or.inr (by decide))) (zs_ne hmm60 (Or.inr (by decide))))
                        have r75 : 0 ≤ (m63 a0 49) ∧ (m63 a0 49) ≤ 1 := zi_rd hIm63 hc0 zb_28_49
                        have e76 : (m63 a0 49) = (m0 a0 49) := (Eq.trans (zs_ne hmm63 (Or.inr (by decide))) (zs_ne hmm60 (Or.inr (by decide))))
                        have r77 : 0 ≤ (m63 a0 45) ∧ (m63 a0 45) ≤ 96 := zi_rd hIm63 hc0 zb_28_45
                        have e78 : (m63 a0 45) = (m0 a0 45) := (Eq.trans (zs_ne hmm63 (Or.inr (by decide))) (zs_ne hmm60 (Or.inr (by decide))))
                        have r79 : 0 ≤ (m63 a0 47) ∧ (m63 a0 47) ≤ 8 := zi_rd hIm63 hc0 zb_28_47
                        have e80 : (m63 a0 47) = (m0 a0 47) := (Eq.trans (zs_ne hmm63 (Or.inr (by decide))) (zs_ne hmm60 (Or.inr (by decide))))
                        exact zw_some ⟨hIm63, hFm63, hRKNm63, hRNSm63, hRTRm63, hRWDm63, ⟨by omega, by omega⟩, by omega, by omega, by omega, by omega, by omega, by omega⟩
                  · refine zw_bd (zw_eq (zr_85_0 n a0 2 m0) ?_)
                    unfold zd_85_0
                    generalize hmm81 : zu_up m0 a0 4 2 = m81
                    have hIm81 := zi_up hmm81 hIm0 hc0 zb_28_4 (by omega) (by omega)
                    have hFm81 := zfr_up hmm81 hFm0 hc0 rfl
                    have g82 := zwt_fr (zdis_fr (zfr_up hmm81 (zfr_rf [(28, 5)] _) hc0 rfl) rfl)
                    have hRKNm81 := zR_KN_fr (zdis_fr (zfr_up hmm81 (zfr_rf [(28, 5)] _) hc0 rfl) rfl) hRKNm0
                    have hRNSm81 := zR_NS_fr (zdis_fr (zfr_up hmm81 (zfr_rf [(28, 5)] _) hc0 rfl) rfl) hRNSm0
                    have hRTRm81 := zR_TR_fr (zdis_fr (zfr_up hmm81 (zfr_rf [(28, 5)] _) hc0 rfl) rfl) hRTRm0
                    have hRWDm81 := zR_WD_fr (zdis_fr (zfr_up hmm81 (zfr_rf [(28, 5)] _) hc0 rfl) rfl) hRWDm0
                    have r83 : 0 ≤ (m81 a0 10) ∧ (m81 a0 10) ≤ 700 := zi_rd hIm81 hc0 zb_28_10
                    generalize hmm84 : zu_up m81 a0 5 (m81 a0 10) = m84
                    have hIm84 := zi_up hmm84 hIm81 hc0 zb_28_5 (by omega) (by omega)
                    have hFm84 := zfr_up hmm84 hFm81 hc0 rfl
                    have g85 := zwt_fr (zdis_fr (zfr_up hmm84 (zfr_rf [(28, 6)] _) hc0 rfl) rfl)
                    have hRKNm84 := zR_KN_fr (zdis_fr (zfr_up hmm84 (zfr_rf [(28, 6)] _) hc0 rfl) rfl) hRKNm81
                    have hRNSm84 := zR_NS_fr (zdis_fr (zfr_up hmm84 (zfr_rf [(28, 6)] _) hc0 rfl) rfl) hRNSm81
                    have hRTRm84 := zR_TR_fr (zdis_fr (zfr_up hmm84 (zfr_rf [(28, 6)] _) hc0 rfl) rfl) hRTRm81
                    have hRWDm84 := zR_WD_fr (zdis_fr (zfr_up hmm84 (zfr_rf [(28, 6)] _) hc0 rfl) rfl) hRWDm81
                    refine zw_b (by omega) ?_
                    refine zw_some ?_
                    refine zw_b (by omega) ?_
                    have r86 : 0 ≤ (m84 a0 7) ∧ (m84 a0 7) ≤ 700 := zi_rd hIm84 hc0 zb_28_7
                    have r87 : 0 ≤ (m84 a0 8) ∧ (m84 a0 8) ≤ 6 := zi_rd hIm84 hc0 zb_28_8
                    have e88 : (m84 a0 8) = (m0 a0 8) := (Eq.trans (zs_ne hmm84 (Or.inr (by decide))) (zs_ne hmm81 (Or.inr (by decide))))
                    have r89 : 0 ≤ (m84 a0 21) ∧ (m84 a0 21) ≤ 64 := zi_rd hIm84 hc0 zb_28_21
                    have e90 : (m84 a0 21) = (m0 a0 21) := (Eq.trans (zs_ne hmm84 (Or.inr (by decide))) (zs_ne hmm81 (Or.inr (by decide))))
                    have r91 : 0 ≤ (m84 a0 48) ∧ (m84 a0 48) ≤ 64 := zi_rd hIm84 hc0 zb_28_48
                    have e92 : (m84 a0 48) = (m0 a0 48) := (Eq.trans (zs_ne hmm84 (Or.inr (by decide))) (zs_ne hmm81 (Or.inr (by decide))))
                    have r93 : 0 ≤ (m84 a0 46) ∧ (m84 a0 46) ≤ 96 := zi_rd hIm84 hc0 zb_28_46
                    have e94 : (m84 a0 46) = (m0 a0 46) := (Eq.trans (zs_ne hmm84 (Or.inr (by decide))) (zs_ne hmm81 (Or.inr (by decide))))
                    have r95 : 0 ≤ (m84 a0 49) ∧ (m84 a0 49) ≤ 1 := zi_rd hIm84 hc0 zb_28_49
                    have e96 : (m84 a0 49) = (m0 a0 49) := (Eq.trans (zs_ne hmm84 (Or.inr (by decide))) (zs_ne hmm81 (Or.inr (by decide))))
                    have r97 : 0 ≤ (m84 a0 45) ∧ (m84 a0 45) ≤ 96 := zi_rd hIm84 hc0 zb_28_45
                    have e98 : (m84 a0 45) = (m0 a0 45) := (Eq.trans (zs_ne hmm84 (Or.inr (by decide))) (zs_ne hmm81 (Or.inr (by decide))))
                    have r99 : 0 ≤ (m84 a0 47) ∧ (m84 a0 47) ≤ 8 := zi_rd hIm84 hc0 zb_28_47
                    have e100 : (m84 a0 47) = (m0 a0 47) := (Eq.trans (zs_ne hmm84 (Or.inr (by decide))) (zs_ne hmm81 (Or.inr (by decide))))
                    exact zw_some ⟨hIm84, hFm84, hRKNm84, hRNSm84, hRTRm84, hRWDm84, ⟨by omega, by omega⟩, by omega, by omega, by omega, by omega, by omega, by omega⟩
              · refine zw_bd (zw_eq (zr_85_0 n a0 1 m0) ?_)
                unfold zd_85_0
                generalize hmm101 : zu_up m0 a0 4 1 = m101
                have hIm101 := zi_up hmm101 hIm0 hc0 zb_28_4 (by omega) (by omega)
                have hFm101 := zfr_up hmm101 hFm0 hc0 rfl
                have g102 := zwt_fr (zdis_fr (zfr_up hmm101 (zfr_rf [(28, 5)] _) hc0 rfl) rfl)
                have hRKNm101 := zR_KN_fr (zdis_fr (zfr_up hmm101 (zfr_rf [(28, 5)] _) hc0 rfl) rfl) hRKNm0
                have hRNSm101 := zR_NS_fr (zdis_fr (zfr_up hmm101 (zfr_rf [(28, 5)] _) hc0 rfl) rfl) hRNSm0
                have hRTRm101 := zR_TR_fr (zdis_fr (zfr_up hmm101 (zfr_rf [(28, 5)] _) hc0 rfl) rfl) hRTRm0
                have hRWDm101 := zR_WD_fr (zdis_fr (zfr_up hmm101 (zfr_rf [(28, 5)] _) hc0 rfl) rfl) hRWDm0
                have r103 : 0 ≤ (m101 a0 10) ∧ (m101 a0 10) ≤ 700 := zi_rd hIm101 hc0 zb_28_10
                generalize hmm104 : zu_up m101 a0 5 (m101 a0 10) = m104
                have hIm104 := zi_up hmm104 hIm101 hc0 zb_28_5 (by omega) (by omega)
                have hFm104 := zfr_up hmm104 hFm101 hc0 rfl
                have g105 := zwt_fr (zdis_fr (zfr_up hmm104 (zfr_rf [(28, 6)] _) hc0 rfl) rfl)
                have hRKNm104 := zR_KN_fr (zdis_fr (zfr_up hmm104 (zfr_rf [(28, 6)] _) hc0 rfl) rfl) hRKNm101
                have hRNSm104 := zR_NS_fr (zdis_fr (zfr_up hmm104 (zfr_rf [(28, 6)] _) hc0 rfl) rfl) hRNSm101
                have hRTRm104 := zR_TR_fr (zdis_fr (zfr_up hmm104 (zfr_rf [(28, 6)] _) hc0 rfl) rfl) hRTRm101
                have hRWDm104 := zR_WD_fr (zdis_fr (zfr_up hmm104 (zfr_rf [(28, 6)] _) hc0 rfl) rfl) hRWDm101
                refine zw_b (by omega) ?_
                refine zw_some ?_
                refine zw_b (by omega) ?_
                have r106 : 0 ≤ (m104 a0 7) ∧ (m104 a0 7) ≤ 700 := zi_rd hIm104 hc0 zb_28_7
                have r107 : 0 ≤ (m104 a0 8) ∧ (m104 a0 8) ≤ 6 := zi_rd hIm104 hc0 zb_28_8
                have e108 : (m104 a0 8) = (m0 a0 8) := (Eq.trans (zs_ne hmm104 (Or.inr (by decide))) (zs_ne hmm101 (Or.inr (by decide))))
                have r109 : 0 ≤ (m104 a0 21) ∧ (m104 a0 21) ≤ 64 := zi_rd hIm104 hc0 zb_28_21
                have e110 : (m104 a0 21) = (m0 a0 21) := (Eq.trans (zs_ne hmm104 (Or.inr (by decide))) (zs_ne hmm101 (Or.inr (by decide))))
                have r111 : 0 ≤ (m104 a0 48) ∧ (m104 a0 48) ≤ 64 := zi_rd hIm104 hc0 zb_28_48
                have e112 : (m104 a0 48) = (m0 a0 48) := (Eq.trans (zs_ne hmm104 (Or.inr (by decide))) (zs_ne hmm101 (Or.inr (by decide))))
                have r113 : 0 ≤ (m104 a0 46) ∧ (m104 a0 46) ≤ 96 := zi_rd hIm104 hc0 zb_28_46
                have e114 : (m104 a0 46) = (m0 a0 46) := (Eq.trans (zs_ne hmm104 (Or.inr (by decide))) (zs_ne hmm101 (Or.inr (by decide))))
                have r115 : 0 ≤ (m104 a0 49) ∧ (m104 a0 49) ≤ 1 := zi_rd hIm104 hc0 zb_28_49
                have e116 : (m104 a0 49) = (m0 a0 49) := (Eq.trans (zs_ne hmm104 (Or.inr (by decide))) (zs_ne hmm101 (Or.inr (by decide))))
                have r117 : 0 ≤ (m104 a0 45) ∧ (m104 a0 45) ≤ 96 := zi_rd hIm104 hc0 zb_28_45
                have e118 : (m104 a0 45) = (m0 a0 45) := (Eq.trans (zs_ne hmm104 (Or.inr (by decide))) (zs_ne hmm101 (Or.inr (by decide))))
                have r119 : 0 ≤ (m104 a0 47) ∧ (m104 a0 47) ≤ 8 := zi_rd hIm104 hc0 zb_28_47
                have e120 : (m104 a0 47) = (m0 a0 47) := (Eq.trans (zs_ne hmm104 (Or.inr (by decide))) (zs_ne hmm101 (Or.inr (by decide))))
                exact zw_some ⟨hIm104, hFm104, hRKNm104, hRNSm104, hRTRm104, hRWDm104, ⟨by omega, by omega⟩, by omega, by omega, by omega, by omega, by omega, by omega⟩
          · exfalso; omega
        · exfalso; omega
      · refine zw_ite (fun h121 => ?_) (fun h121 => ?_)
        · refine zw_b (by omega) ?_
          refine zw_some ?_
          refine zw_ite (fun h122 => ?_) (fun h122 => ?_)
          · refine zw_bd (zw_eq (zr_115_0 n a0 m0) ?_)
            unfold zd_115_0
            refine zw_ite (fun h123 => ?_) (fun h123 => ?_)
            · exfalso; omega
            · refine zw_ite (fun h124 => ?_) (fun h124 => ?_)
              · refine zw_some ?_
                refine zw_ite (fun h125 => ?_) (fun h125 => ?_)
                · exfalso; omega
                · refine zw_ite (fun h126 => ?_) (fun h126 => ?_)
                  · exfalso; omega
                  · refine zw_bd (zw_eq (zr_85_0 n a0 1 m0) ?_)
                    unfold zd_85_0
                    generalize hmm127 : zu_up m0 a0 4 1 = m127
                    have hIm127 := zi_up hmm127 hIm0 hc0 zb_28_4 (by omega) (by omega)
                    have hFm127 := zfr_up hmm127 hFm0 hc0 rfl
                    have g128 := zwt_fr (zdis_fr (zfr_up hmm127 (zfr_rf [(28, 5)] _) hc0 rfl) rfl)
                    have hRKNm127 := zR_KN_fr (zdis_fr (zfr_up hmm127 (zfr_rf [(28, 5)] _) hc0 rfl) rfl) hRKNm0
                    have hRNSm127 := zR_NS_fr (zdis_fr (zfr_up hmm127 (zfr_rf [(28, 5)] _) hc0 rfl) rfl) hRNSm0
                    have hRTRm127 := zR_TR_fr (zdis_fr (zfr_up hmm127 (zfr_rf [(28, 5)] _) hc0 rfl) rfl) hRTRm0
                    have hRWDm127 := zR_WD_fr (zdis_fr (zfr_up hmm127 (zfr_rf [(28, 5)] _) hc0 rfl) rfl) hRWDm0
                    have r129 : 0 ≤ (m127 a0 10) ∧ (m127 a0 10) ≤ 700 := zi_rd hIm127 hc0 zb_28_10
                    generalize hmm130 : zu_up m127 a0 5 (m127 a0 10) = m130
                    have hIm130 := zi_up hmm130 hIm127 hc0 zb_28_5 (by omega) (by omega)
                    have hFm130 := zfr_up hmm130 hFm127 hc0 rfl
                    have g131 := zwt_fr (zdis_fr (zfr_up hmm130 (zfr_rf [(28, 6)] _) hc0 rfl) rfl)
                    have hRKNm130 := zR_KN_fr (zdis_fr (zfr_up hmm130 (zfr_rf [(28, 6)] _) hc0 rfl) rfl) hRKNm127
                    have hRNSm130 := zR_NS_fr (zdis_fr (zfr_up hmm130 (zfr_rf [(28, 6)] _) hc0 rfl) rfl) hRNSm127
                    have hRTRm130 := zR_TR_fr (zdis_fr (zfr_up hmm130 (zfr_rf [(28, 6)] _) hc0 rfl) rfl) hRTRm127
                    have hRWDm130 := zR_WD_fr (zdis_fr (zfr_up hmm130 (zfr_rf [(28, 6)] _) hc0 rfl) rfl) hRWDm127
                    refine zw_b (by omega) ?_
                    refine zw_some ?_
                    refine zw_b (by omega) ?_
                    have r132 : 0 ≤ (m130 a0 7) ∧ (m130 a0 7) ≤ 700 := zi_rd hIm130 hc0 zb_28_7
                    have r133 : 0 ≤ (m130 a0 8) ∧ (m130 a0 8) ≤ 6 := zi_rd hIm130 hc0 zb_28_8
                    have e134 : (m130 a0 8) = (m0 a0 8) := (Eq.trans (zs_ne hmm130 (Or.inr (by decide))) (zs_ne hmm127 (Or.inr (by decide))))
                    have r135 : 0 ≤ (m130 a0 21) ∧ (m130 a0 21) ≤ 64 := zi_rd hIm130 hc0 zb_28_21
                    have e136 : (m130 a0 21) = (m0 a0 21) := (Eq.trans (zs_ne hmm130 (Or.inr (by decide))) (zs_ne hmm127 (Or.inr (by decide))))
                    have r137 : 0 ≤ (m130 a0 48) ∧ (m130 a0 48) ≤ 64 := zi_rd hIm130 hc0 zb_28_48
                    have e138 : (m130 a0 48) = (m0 a0 48) := (Eq.trans (zs_ne hmm130 (Or.inr (by decide))) (zs_ne hmm127 (Or.inr (by decide))))
                    have r139 : 0 ≤ (m130 a0 46) ∧ (m130 a0 46) ≤ 96 := zi_rd hIm130 hc0 zb_28_46
                    have e140 : (m130 a0 46) = (m0 a0 46) := (Eq.trans (zs_ne hmm130 (Or.inr (by decide))) (zs_ne hmm127 (Or.inr (by decide))))
                    have r141 : 0 ≤ (m130 a0 49) ∧ (m130 a0 49) ≤ 1 := zi_rd hIm130 hc0 zb_28_49
                    have e142 : (m130 a0 49) = (m0 a0 49) := (Eq.trans (zs_ne hmm130 (Or.inr (by decide))) (zs_ne hmm127 (Or.inr (by decide))))
                    have r143 : 0 ≤ (m130 a0 45) ∧ (m130 a0 45) ≤ 96 := zi_rd hIm130 hc0 zb_28_45
                    have e144 : (m130 a0 45) = (m0 a0 45) := (Eq.trans (zs_ne hmm130 (Or.inr (by decide))) (zs_ne hmm127 (Or.inr (by decide))))
                    have r145 : 0 ≤ (m130 a0 47) ∧ (m130 a0 47) ≤ 8 := zi_rd hIm130 hc0 zb_28_47
                    have e146 : (m130 a0 47) = (m0 a0 47) := (Eq.trans (zs_ne hmm130 (Or.inr (by decide))) (zs_ne hmm127 (Or.inr (by decide))))
                    exact zw_some ⟨hIm130, hFm130, hRKNm130, hRNSm130, hRTRm130, hRWDm130, ⟨by omega, by omega⟩, by omega, by omega, by omega, by omega, by omega, by omega⟩
              · have w147 := zu_w32_id (z := (m0 a0 9) - 26) (by omega) (by omega)
                refine zw_some ?_
                refine zw_ite (fun h148 => ?_) (fun h148 => ?_)
                · refine zw_ite (fun h149 => ?_) (fun h149 => ?_)
                  · refine zw_bd (zw_eq (zr_113_0 n a0 m0) ?_)
                    unfold zd_113_0
                    refine zw_ite (fun h150 => ?_) (fun h150 => ?_)
                    · have w151 := zu_w32_id (z := (m0 a0 48) + 1) (by omega) (by omega)
                      generalize hmm152 : zu_up m0 a0 48 (zu_w32 ((m0 a0 48) + 1)) = m152
                      have hIm152 := zi_up hmm152 hIm0 hc0 zb_28_48 (by omega) (by omega)
                      have hFm152 := zfr_up hmm152 hFm0 hc0 rfl
                      have g153 := zwt_fr (zdis_fr (zfr_up hmm152 (zfr_rf [(28, 49)] _) hc0 rfl) rfl)
                      have hRKNm152 := zR_KN_fr (zdis_fr (zfr_up hmm152 (zfr_rf [(28, 49)] _) hc0 rfl) rfl) hRKNm0
                      have hRNSm152 := zR_NS_fr (zdis_fr (zfr_up hmm152 (zfr_rf [(28, 49)] _) hc0 rfl) rfl) hRNSm0
                      have hRTRm152 := zR_TR_fr (zdis_fr (zfr_up hmm152 (zfr_rf [(28, 49)] _) hc0 rfl) rfl) hRTRm0
                      have hRWDm152 := zR_WD_fr (zdis_fr (zfr_up hmm152 (zfr_rf [(28, 49)] _) hc0 rfl) rfl) hRWDm0
                      refine zw_b (by omega) ?_
                      refine zw_some ?_
                      refine zw_ite (fun h154 => ?_) (fun h154 => ?_)
                      · refine zw_ite (fun h155 => ?_) (fun h155 => ?_)
                        · exfalso; omega
                        · refine zw_ite (fun h156 => ?_) (fun h156 => ?_)
                          · exfalso; omega
                          · have r157 : 0 ≤ (m152 a0 21) ∧ (m152 a0 21) ≤ 64 := zi_rd hIm152 hc0 zb_28_21
                            have e158 : (m152 a0 21) = (m0 a0 21) := (zs_ne hmm152 (Or.inr (by decide)))
                            have r159 : 0 ≤ (m152 a0 46) ∧ (m152 a0 46) ≤ 96 := zi_rd hIm152 hc0 zb_28_46
                            have e160 : (m152 a0 46) = (m0 a0 46) := (zs_ne hmm152 (Or.inr (by decide)))
                            refine zw_bd (zw_mono (zk_110 n hIm152 hc0 ⟨by omega, by omega⟩ ⟨by omega, by omega⟩ ⟨by omega, by omega⟩ (by omega) (by omega) (by omega) (by omega) (by omega) hRKNm152) (fun v162 m161 hqm161 => ?_))
                            obtain ⟨hIm161, hfm161, hvm161⟩ := hqm161
                            have hFm161 := zfr_tr hFm152 hfm161 rfl
                            obtain ⟨hRKNm161, hvm161⟩ := hvm161
                            have g163 := zwt_fr (zdis_fr hfm161 rfl)
                            have hRNSm161 := zR_NS_fr (zdis_fr hfm161 rfl) hRNSm152
                            have hRTRm161 := zR_TR_fr (zdis_fr hfm161 rfl) hRTRm152
                            have hRWDm161 := zR_WD_fr (zdis_fr hfm161 rfl) hRWDm152
                            have g164 := zwt_bd hIm161 hc0
                            have s165 := hRNSm161 a0 hc0
                            have s166 := hRTRm161 a0 hc0
                            refine zw_b (by omega) ?_
                            generalize hmm167 : zu_up m161 a0 49 0 = m167
                            have hIm167 := zi_up hmm167 hIm161 hc0 zb_28_49 (by omega) (by omega)
                            have hFm167 := zfr_up hmm167 hFm161 hc0 rfl
                            have g168 := zwt_fr (zdis_fr (zfr_up hmm167 (zfr_rf [(28, 50)] _) hc0 rfl) rfl)
                            have hRKNm167 := zR_KN_fr (zdis_fr (zfr_up hmm167 (zfr_rf [(28, 50)] _) hc0 rfl) rfl) hRKNm161
                            have hRNSm167 := zR_NS_fr (zdis_fr (zfr_up hmm167 (zfr_rf [(28, 50)] _) hc0 rfl) rfl) hRNSm161
                            have hRTRm167 := zR_TR_fr (zdis_fr (zfr_up hmm167 (zfr_rf [(28, 50)] _) hc0 rfl) rfl) hRTRm161
                            have hRWDm167 := zR_WD_fr (zdis_fr (zfr_up hmm167 (zfr_rf [(28, 50)] _) hc0 rfl) rfl) hRWDm161
                            refine zw_bd (zw_mono (zk_89 n hIm167 hc0 hRNSm167 hRWDm167) (fun v170 m169 hqm169 => ?_))
                            obtain ⟨hIm169, hfm169, hvm169⟩ := hqm169
                            have hFm169 := zfr_tr hFm167 hfm169 rfl
                            obtain ⟨hRNSm169, hRTRm169, hRWDm169, hvm169⟩ := hvm169
                            have g171 := zwt_fr (zdis_fr hfm169 rfl)
                            have hRKNm169 := zR_KN_fr (zdis_fr hfm169 rfl) hRKNm167
                            have g172 := zwt_bd hIm169 hc0
                            have s173 := hRNSm169 a0 hc0
                            have s174 := hRTRm169 a0 hc0
                            refine zw_b (by omega) ?_
                            have r175 : 0 ≤ (m169 a0 7) ∧ (m169 a0 7) ≤ 700 := zi_rd hIm169 hc0 zb_28_7
                            have r176 : 0 ≤ (m169 a0 8) ∧ (m169 a0 8) ≤ 6 := zi_rd hIm169 hc0 zb_28_8
                            have r177 : 0 ≤ (m169 a0 21) ∧ (m169 a0 21) ≤ 64 := zi_rd hIm169 hc0 zb_28_21
                            have e178 : (m169 a0 21) = (m161 a0 21) := (Eq.trans (zfr_ap hfm169 hc0 rfl) (zs_ne hmm167 (Or.inr (by decide))))
                            have r179 : 0 ≤ (m169 a0 48) ∧ (m169 a0 48) ≤ 64 := zi_rd hIm169 hc0 zb_28_48
                            have e180 : (m169 a0 48) = (zu_w32 ((m0 a0 48) + 1)) := (Eq.trans (zfr_ap hfm169 hc0 rfl) (Eq.trans (zs_ne hmm167 (Or.inr (by decide))) (Eq.trans (zfr_ap hfm161 hc0 rfl) (zs_eq hmm152))))
                            have r181 : 0 ≤ (m169 a0 46) ∧ (m169 a0 46) ≤ 96 := zi_rd hIm169 hc0 zb_28_46
                            have e182 : (m169 a0 46) = (m161 a0 46) := (Eq.trans (zfr_ap hfm169 hc0 rfl) (zs_ne hmm167 (Or.inr (by decide))))
                            have r183 : 0 ≤ (m169 a0 49) ∧ (m169 a0 49) ≤ 1 := zi_rd hIm169 hc0 zb_28_49
                            have e184 : (m169 a0 49) = 0 := (Eq.trans (zfr_ap hfm169 hc0 rfl) (zs_eq hmm167))
                            have r185 : 0 ≤ (m169 a0 45) ∧ (m169 a0 45) ≤ 96 := zi_rd hIm169 hc0 zb_28_45
                            have e186 : (m169 a0 45) = (m0 a0 45) := (Eq.trans (zfr_ap hfm169 hc0 rfl) (Eq.trans (zs_ne hmm167 (Or.inr (by decide))) (Eq.trans (zfr_ap hfm161 hc0 rfl) (zs_ne hmm152 (Or.inr (by decide))))))
                            have r187 : 0 ≤ (m169 a0 47) ∧ (m169 a0 47) ≤ 8 := zi_rd hIm169 hc0 zb_28_47
                            have e188 : (m169 a0 47) = (m0 a0 47) := (Eq.trans (zfr_ap hfm169 hc0 rfl) (Eq.trans (zs_ne hmm167 (Or.inr (by decide))) (Eq.trans (zfr_ap hfm161 hc0 rfl) (zs_ne hmm152 (Or.inr (by decide))))))
                            exact zw_some ⟨hIm169, hFm169, hRKNm169, hRNSm169, hRTRm169, hRWDm169, ⟨by omega, by omega⟩, by omega, by omega, by omega, by omega, by omega, by omega⟩
                      · exfalso; omega
                    · refine zw_bd (zw_eq (zr_85_0 n a0 2 m0) ?_)
                      unfold zd_85_0
                      generalize hmm189 : zu_up m0 a0 4 2 = m189
                      have hIm189 := zi_up hmm189 hIm0 hc0 zb_28_4 (by omega) (by omega)
                      have hFm189 := zfr_up hmm189 hFm0 hc0 rfl
                      have g190 := zwt_fr (zdis_fr (zfr_up hmm189 (zfr_rf [(28, 5)] _) hc0 rfl) rfl)
                      have hRKNm189 := zR_KN_fr (zdis_fr (zfr_up hmm189 (zfr_rf [(28, 5)] _) hc0 rfl) rfl) hRKNm0
                      have hRNSm189 := zR_NS_fr (zdis_fr (zfr_up hmm189 (zfr_rf [(28, 5)] _) hc0 rfl) rfl) hRNSm0
                      have hRTRm189 := zR_TR_fr (zdis_fr (zfr_up hmm189 (zfr_rf [(28, 5)] _) hc0 rfl) rfl) hRTRm0
                      have hRWDm189 := zR_WD_fr (zdis_fr (zfr_up hmm189 (zfr_rf [(28, 5)] _) hc0 rfl) rfl) hRWDm0
                      have r191 : 0 ≤ (m189 a0 10) ∧ (m189 a0 10) ≤ 700 := zi_rd hIm189 hc0 zb_28_10
                      generalize hmm192 : zu_up m189 a0 5 (m189 a0 10) = m192
                      have hIm192 := zi_up hmm192 hIm189 hc0 zb_28_5 (by omega) (by omega)
                      have hFm192 := zfr_up hmm192 hFm189 hc0 rfl
                      have g193 := zwt_fr (zdis_fr (zfr_up hmm192 (zfr_rf [(28, 6)] _) hc0 rfl) rfl)
                      have hRKNm192 := zR_KN_fr (zdis_fr (zfr_up hmm192 (zfr_rf [(28, 6)] _) hc0 rfl) rfl) hRKNm189
                      have hRNSm192 := zR_NS_fr (zdis_fr (zfr_up hmm192 (zfr_rf [(28, 6)] _) hc0 rfl) rfl) hRNSm189
                      have hRTRm192 := zR_TR_fr (zdis_fr (zfr_up hmm192 (zfr_rf [(28, 6)] _) hc0 rfl) rfl) hRTRm189
                      have hRWDm192 := zR_WD_fr (zdis_fr (zfr_up hmm192 (zfr_rf [(28, 6)] _) hc0 rfl) rfl) hRWDm189
                      refine zw_b (by omega) ?_
                      refine zw_some ?_
                      refine zw_b (by omega) ?_
                      refine zw_some ?_
                      refine zw_ite (fun h194 => ?_) (fun h194 => ?_)
                      · exfalso; omega
                      · refine zw_b (by omega) ?_
                        have r195 : 0 ≤ (m192 a0 7) ∧ (m192 a0 7) ≤ 700 := zi_rd hIm192 hc0 zb_28_7
                        have r196 : 0 ≤ (m192 a0 8) ∧ (m192 a0 8) ≤ 6 := zi_rd hIm192 hc0 zb_28_8
                        have e197 : (m192 a0 8) = (m0 a0 8) := (Eq.trans (zs_ne hmm192 (Or.inr (by decide))) (zs_ne hmm189 (Or.inr (by decide))))
                        have r198 : 0 ≤ (m192 a0 21) ∧ (m192 a0 21) ≤ 64 := zi_rd hIm192 hc0 zb_28_21
                        have e199 : (m192 a0 21) = (m0 a0 21) := (Eq.trans (zs_ne hmm192 (Or.inr (by decide))) (zs_ne hmm189 (Or.inr (by decide))))
                        have r200 : 0 ≤ (m192 a0 48) ∧ (m192 a0 48) ≤ 64 := zi_rd hIm192 hc0 zb_28_48
                        have e201 : (m192 a0 48) = (m0 a0 48) := (Eq.trans (zs_ne hmm192 (Or.inr (by decide))) (zs_ne hmm189 (Or.inr (by decide))))
                        have r202 : 0 ≤ (m192 a0 46) ∧ (m192 a0 46) ≤ 96 := zi_rd hIm192 hc0 zb_28_46
                        have e203 : (m192 a0 46) = (m0 a0 46) := (Eq.trans (zs_ne hmm192 (Or.inr (by decide))) (zs_ne hmm189 (Or.inr (by decide))))
                        have r204 : 0 ≤ (m192 a0 49) ∧ (m192 a0 49) ≤ 1 := zi_rd hIm192 hc0 zb_28_49
                        have e205 : (m192 a0 49) = (m0 a0 49) := (Eq.trans (zs_ne hmm192 (Or.inr (by decide))) (zs_ne hmm189 (Or.inr (by decide))))
                        have r206 : 0 ≤ (m192 a0 45) ∧ (m192 a0 45) ≤ 96 := zi_rd hIm192 hc0 zb_28_45
                        have e207 : (m192 a0 45) = (m0 a0 45) := (Eq.trans (zs_ne hmm192 (Or.inr (by decide))) (zs_ne hmm189 (Or.inr (by decide))))
                        have r208 : 0 ≤ (m192 a0 47) ∧ (m192 a0 47) ≤ 8 := zi_rd hIm192 hc0 zb_28_47
                        have e209 : (m192 a0 47) = (m0 a0 47) := (Eq.trans (zs_ne hmm192 (Or.inr (by decide))) (zs_ne hmm189 (Or.inr (by decide))))
                        exact zw_some ⟨hIm192, hFm192, hRKNm192, hRNSm192, hRTRm192, hRWDm192, ⟨by omega, by omega⟩, by omega, by omega, by omega, by omega, by omega, by omega⟩
                  · exfalso; omega
                · exfalso; omega
          · exfalso; omega
        · refine zw_b (by omega) ?_
          refine zw_some ?_
          refine zw_ite (fun h210 => ?_) (fun h210 => ?_)
          · exfalso; omega
          · have r211 : 0 ≤ (m0 a0 50) ∧ (m0 a0 50) ≤ 1 := zi_rd hIm0 hc0 zb_28_50
            refine zw_ite (fun h212 => ?_) (fun h212 => ?_)
            · refine zw_bd (zw_eq (zr_115_0 n a0 m0) ?_)
              unfold zd_115_0
              refine zw_ite (fun h213 => ?_) (fun h213 => ?_)
              · exfalso; omega
              · refine zw_ite (fun h214 => ?_) (fun h214 => ?_)
                · refine zw_some ?_
                  refine zw_ite (fun h215 => ?_) (fun h215 => ?_)
                  · exfalso; omega
                  · refine zw_ite (fun h216 => ?_) (fun h216 => ?_)
                    · exfalso; omega
                    · refine zw_bd (zw_eq (zr_85_0 n a0 1 m0) ?_)
                      unfold zd_85_0
                      generalize hmm217 : zu_up m0 a0 4 1 = m217
                      have hIm217 := zi_up hmm217 hIm0 hc0 zb_28_4 (by omega) (by omega)
                      have hFm217 := zfr_up hmm217 hFm0 hc0 rfl
                      have g218 := zwt_fr (zdis_fr (zfr_up hmm217 (zfr_rf [(28, 5)] _) hc0 rfl) rfl)
                      have hRKNm217 := zR_KN_fr (zdis_fr (zfr_up hmm217 (zfr_rf [(28, 5)] _) hc0 rfl) rfl) hRKNm0
                      have hRNSm217 := zR_NS_fr (zdis_fr (zfr_up hmm217 (zfr_rf [(28, 5)] _) hc0 rfl) rfl) hRNSm0
                      have hRTRm217 := zR_TR_fr (zdis_fr (zfr_up hmm217 (zfr_rf [(28, 5)] _) hc0 rfl) rfl) hRTRm0
                      have hRWDm217 := zR_WD_fr (zdis_fr (zfr_up hmm217 (zfr_rf [(28, 5)] _) hc0 rfl) rfl) hRWDm0
                      have r219 : 0 ≤ (m217 a0 10) ∧ (m217 a0 10) ≤ 700 := zi_rd hIm217 hc0 zb_28_10
                      generalize hmm220 : zu_up m217 a0 5 (m217 a0 10) = m220
                      have hIm220 := zi_up hmm220 hIm217 hc0 zb_28_5 (by omega) (by omega)
                      have hFm220 := zfr_up hmm220 hFm217 hc0 rfl
                      have g221 := zwt_fr (zdis_fr (zfr_up hmm220 (zfr_rf [(28, 6)] _) hc0 rfl) rfl)
                      have hRKNm220 := zR_KN_fr (zdis_fr (zfr_up hmm220 (zfr_rf [(28, 6)] _) hc0 rfl) rfl) hRKNm217
                      have hRNSm220 := zR_NS_fr (zdis_fr (zfr_up hmm220 (zfr_rf [(28, 6)] _) hc0 rfl) rfl) hRNSm217
                      have hRTRm220 := zR_TR_fr (zdis_fr (zfr_up hmm220 (zfr_rf [(28, 6)] _) hc0 rfl) rfl) hRTRm217
                      have hRWDm220 := zR_WD_fr (zdis_fr (zfr_up hmm220 (zfr_rf [(28, 6)] _) hc0 rfl) rfl) hRWDm217
                      refine zw_b (by omega) ?_
                      refine zw_some ?_
                      refine zw_b (by omega) ?_
                      have r222 : 0 ≤ (m220 a0 7) ∧ (m220 a0 7) ≤ 700 := zi_rd hIm220 hc0 zb_28_7
                      have r223 : 0 ≤ (m220 a0 8) ∧ (m220 a0 8) ≤ 6 := zi_rd hIm220 hc0 zb_28_8
                      have e224 : (m220 a0 8) = (m0 a0 8) := (Eq.trans (zs_ne hmm220 (Or.inr (by decide))) (zs_ne hmm217 (Or.inr (by decide))))
                      have r225 : 0 ≤ (m220 a0 21) ∧ (m220 a0 21) ≤ 64 := zi_rd hIm220 hc0 zb_28_21
                      have e226 : (m220 a0 21) = (m0 a0 21) := (Eq.trans (zs_ne hmm220 (Or.inr (by decide))) (zs_ne hmm217 (Or.inr (by decide))))
                      have r227 : 0 ≤ (m220 a0 48) ∧ (m220 a0 48) ≤ 64 := zi_rd hIm220 hc0 zb_28_48
                      have e228 : (m220 a0 48) = (m0 a0 48) := (Eq.trans (zs_ne hmm220 (Or.inr (by decide))) (zs_ne hmm217 (Or.inr (by decide))))
                      have r229 : 0 ≤ (m220 a0 46) ∧ (m220 a0 46) ≤ 96 := zi_rd hIm220 hc0 zb_28_46
                      have e230 : (m220 a0 46) = (m0 a0 46) := (Eq.trans (zs_ne hmm220 (Or.inr (by decide))) (zs_ne hmm217 (Or.inr (by decide))))
                      have r231 : 0 ≤ (m220 a0 49) ∧ (m220 a0 49) ≤ 1 := zi_rd hIm220 hc0 zb_28_49
                      have e232 : (m220 a0 49) = (m0 a0 49) := (Eq.trans (zs_ne hmm220 (Or.inr (by decide))) (zs_ne hmm217 (Or.inr (by decide))))
                      have r233 : 0 ≤ (m220 a0 45) ∧ (m220 a0 45) ≤ 96 := zi_rd hIm220 hc0 zb_28_45
                      have e234 : (m220 a0 45) = (m0 a0 45) := (Eq.trans (zs_ne hmm220 (Or.inr (by decide))) (zs_ne hmm217 (Or.inr (by decide))))
                      have r235 : 0 ≤ (m220 a0 47) ∧ (m220 a0 47) ≤ 8 := zi_rd hIm220 hc0 zb_28_47
                      have e236 : (m220 a0 47) = (m0 a0 47) := (Eq.trans (zs_ne hmm220 (Or.inr (by decide))) (zs_ne hmm217 (Or.inr (by decide))))
                      exact zw_some ⟨hIm220, hFm220, hRKNm220, hRNSm220, hRTRm220, hRWDm220, ⟨by omega, by omega⟩, by omega, by omega, by omega, by omega, by omega, by omega⟩
                · exfalso; omega
            · refine zw_bd (zw_eq (zr_113_0 n a0 m0) ?_)
              unfold zd_113_0
              refine zw_ite (fun h237 => ?_) (fun h237 => ?_)
              · have w238 := zu_w32_id (z := (m0 a0 48) + 1) (by omega) (by omega)
                generalize hmm239 : zu_up m0 a0 48 (zu_w32 ((m0 a0 48) + 1)) = m239
                have hIm239 := zi_up hmm239 hIm0 hc0 zb_28_48 (by omega) (by omega)
                have hFm239 := zfr_up hmm239 hFm0 hc0 rfl
                have g240 := zwt_fr (zdis_fr (zfr_up hmm239 (zfr_rf [(28, 49)] _) hc0 rfl) rfl)
                have hRKNm239 := zR_KN_fr (zdis_fr (zfr_up hmm239 (zfr_rf [(28, 49)] _) hc0 rfl) rfl) hRKNm0
                have hRNSm239 := zR_NS_fr (zdis_fr (zfr_up hmm239 (zfr_rf [(28, 49)] _) hc0 rfl) rfl) hRNSm0
                have hRTRm239 := zR_TR_fr (zdis_fr (zfr_up hmm239 (zfr_rf [(28, 49)] _) hc0 rfl) rfl) hRTRm0
                have hRWDm239 := zR_WD_fr (zdis_fr (zfr_up hmm239 (zfr_rf [(28, 49)] _) hc0 rfl) rfl) hRWDm0
                refine zw_b (by omega) ?_
                refine zw_some ?_
                refine zw_ite (fun h241 => ?_) (fun h241 => ?_)
                · refine zw_bd (zw_eq (zr_114_0 n a0 2 m239) ?_)
                  unfold zd_114_0
                  have r242 : 0 ≤ (m239 a0 45) ∧ (m239 a0 45) ≤ 96 := zi_rd hIm239 hc0 zb_28_45
                  have e243 : (m239 a0 45) = (m0 a0 45) := (zs_ne hmm239 (Or.inr (by decide)))
                  have b244 : 0 ≤ (m239 a0 45) ∧ (m239 a0 45) < 96 := by omega
                  refine zw_if b244 ?_
                  generalize hmm245 : zu_up m239 211 (m239 a0 45) 2 = m245
                  have hIm245 := zi_up hmm245 hIm239 zq_211 (zb_120 _) (by omega) (by omega)
                  have hFm245 := zfr_up hmm245 hFm239 zq_211 rfl
                  have hRKNm245 := zR_KN_fr (zdis_fr (zfr_up hmm245 (zfr_rf [(120, 0)] _) zq_211 rfl) rfl) hRKNm239
                  have hRNSm245 := zR_NS_fr (zdis_fr (zfr_up hmm245 (zfr_rf [(120, 0)] _) zq_211 rfl) rfl) hRNSm239
                  have hRTRm245 := zR_TR_fr (zdis_fr (zfr_up hmm245 (zfr_rf [(120, 0)] _) zq_211 rfl) rfl) hRTRm239
                  have hRWDm245 := zR_WD_fr (zdis_fr (zfr_up hmm245 (zfr_rf [(120, 0)] _) zq_211 rfl) rfl) hRWDm239
                  have r246 : 0 ≤ (m245 a0 45) ∧ (m245 a0 45) ≤ 96 := zi_rd hIm245 hc0 zb_28_45
                  have e247 : (m245 a0 45) = (m239 a0 45) := (zs_ne hmm245 (Or.inl (zc_ne hc0 zq_211 (by decide))))
                  have w248 := zu_w32_id (z := (m245 a0 45) + 1) (by omega) (by omega)
                  generalize hmm249 : zu_up m245 a0 45 (zu_w32 ((m245 a0 45) + 1)) = m249
                  have hIm249 := zi_up hmm249 hIm245 hc0 zb_28_45 (by omega) (by omega)
                  have hFm249 := zfr_up hmm249 hFm245 hc0 rfl
                  have hRKNm249 := zR_KN_fr (zdis_fr (zfr_up hmm249 (zfr_rf [(28, 46)] _) hc0 rfl) rfl) hRKNm245
                  have hRNSm249 := zR_NS_fr (zdis_fr (zfr_up hmm249 (zfr_rf [(28, 46)] _) hc0 rfl) rfl) hRNSm245
                  have hRTRm249 := zR_TR_fr (zdis_fr (zfr_up hmm249 (zfr_rf [(28, 46)] _) hc0 rfl) rfl) hRTRm245
                  have hRWDm249 := zR_WD_fr (zdis_fr (zfr_up hmm249 (zfr_rf [(28, 46)] _) hc0 rfl) rfl) hRWDm245
                  have g250 := zwt_push hmm245 hmm249 hc0 (by omega) (by omega) (by omega)
                  have g251 := zwt_bd hIm249 hc0
                  refine zw_some ?_
                  refine zw_bd (zw_mono (zk_89 n hIm249 hc0 hRNSm249 hRWDm249) (fun v253 m252 hqm252 => ?_))
                  obtain ⟨hIm252, hfm252, hvm252⟩ := hqm252
                  have hFm252 := zfr_tr hFm249 hfm252 rfl
                  obtain ⟨hRNSm252, hRTRm252, hRWDm252, hvm252⟩ := hvm252
                  have g254 := zwt_fr (zdis_fr hfm252 rfl)
                  have hRKNm252 := zR_KN_fr (zdis_fr hfm252 rfl) hRKNm249
                  have g255 := zwt_bd hIm252 hc0
                  have s256 := hRNSm252 a0 hc0
                  have s257 := hRTRm252 a0 hc0
                  refine zw_b (by omega) ?_
                  have r258 : 0 ≤ (m252 a0 7) ∧ (m252 a0 7) ≤ 700 := zi_rd hIm252 hc0 zb_28_7
                  have r259 : 0 ≤ (m252 a0 8) ∧ (m252 a0 8) ≤ 6 := zi_rd hIm252 hc0 zb_28_8
                  have r260 : 0 ≤ (m252 a0 21) ∧ (m252 a0 21) ≤ 64 := zi_rd hIm252 hc0 zb_28_21
                  have e261 : (m252 a0 21) = (m0 a0 21) := (Eq.trans (zfr_ap hfm252 hc0 rfl) (Eq.trans (zs_ne hmm249 (Or.inr (by decide))) (Eq.trans (zs_ne hmm245 (Or.inl (zc_ne hc0 zq_211 (by decide)))) (zs_ne hmm239 (Or.inr (by decide))))))
                  have r262 : 0 ≤ (m252 a0 48) ∧ (m252 a0 48) ≤ 64 := zi_rd hIm252 hc0 zb_28_48
                  have e263 : (m252 a0 48) = (zu_w32 ((m0 a0 48) + 1)) := (Eq.trans (zfr_ap hfm252 hc0 rfl) (Eq.trans (zs_ne hmm249 (Or.inr (by decide))) (Eq.trans (zs_ne hmm245 (Or.inl (zc_ne hc0 zq_211 (by decide)))) (zs_eq hmm239))))
                  have r264 : 0 ≤ (m252 a0 46) ∧ (m252 a0 46) ≤ 96 := zi_rd hIm252 hc0 zb_28_46
                  have e265 : (m252 a0 46) = (m0 a0 46) := (Eq.trans (zfr_ap hfm252 hc0 rfl) (Eq.trans (zs_ne hmm249 (Or.inr (by decide))) (Eq.trans (zs_ne hmm245 (Or.inl (zc_ne hc0 zq_211 (by decide)))) (zs_ne hmm239 (Or.inr (by decide))))))
                  have r266 : 0 ≤ (m252 a0 49) ∧ (m252 a0 49) ≤ 1 := zi_rd hIm252 hc0 zb_28_49
                  have e267 : (m252 a0 49) = (m0 a0 49) := (Eq.trans (zfr_ap hfm252 hc0 rfl) (Eq.trans (zs_ne hmm249 (Or.inr (by decide))) (Eq.trans (zs_ne hmm245 (Or.inl (zc_ne hc0 zq_211 (by decide)))) (zs_ne hmm239 (Or.inr (by decide))))))
                  have r268 : 0 ≤ (m252 a0 45) ∧ (m252 a0 45) ≤ 96 := zi_rd hIm252 hc0 zb_28_45
                  have e269 : (m252 a0 45) = (zu_w32 ((m245 a0 45) + 1)) := (Eq.trans (zfr_ap hfm252 hc0 rfl) (zs_eq hmm249))
                  have r270 : 0 ≤ (m252 a0 47) ∧ (m252 a0 47) ≤ 8 := zi_rd hIm252 hc0 zb_28_47
                  have e271 : (m252 a0 47) = (m0 a0 47) := (Eq.trans (zfr_ap hfm252 hc0 rfl) (Eq.trans (zs_ne hmm249 (Or.inr (by decide))) (Eq.trans (zs_ne hmm245 (Or.inl (zc_ne hc0 zq_211 (by decide)))) (zs_ne hmm239 (Or.inr (by decide))))))
                  exact zw_some ⟨hIm252, hFm252, hRKNm252, hRNSm252, hRTRm252, hRWDm252, ⟨by omega, by omega⟩, by omega, by omega, by omega, by omega, by omega, by omega⟩
                · exfalso; omega
              · refine zw_bd (zw_eq (zr_85_0 n a0 2 m0) ?_)
                unfold zd_85_0
                generalize hmm272 : zu_up m0 a0 4 2 = m272
                have hIm272 := zi_up hmm272 hIm0 hc0 zb_28_4 (by omega) (by omega)
                have hFm272 := zfr_up hmm272 hFm0 hc0 rfl
                have g273 := zwt_fr (zdis_fr (zfr_up hmm272 (zfr_rf [(28, 5)] _) hc0 rfl) rfl)
                have hRKNm272 := zR_KN_fr (zdis_fr (zfr_up hmm272 (zfr_rf [(28, 5)] _) hc0 rfl) rfl) hRKNm0
                have hRNSm272 := zR_NS_fr (zdis_fr (zfr_up hmm272 (zfr_rf [(28, 5)] _) hc0 rfl) rfl) hRNSm0
                have hRTRm272 := zR_TR_fr (zdis_fr (zfr_up hmm272 (zfr_rf [(28, 5)] _) hc0 rfl) rfl) hRTRm0
                have hRWDm272 := zR_WD_fr (zdis_fr (zfr_up hmm272 (zfr_rf [(28, 5)] _) hc0 rfl) rfl) hRWDm0
                have r274 : 0 ≤ (m272 a0 10) ∧ (m272 a0 10) ≤ 700 := zi_rd hIm272 hc0 zb_28_10
                generalize hmm275 : zu_up m272 a0 5 (m272 a0 10) = m275
                have hIm275 := zi_up hmm275 hIm272 hc0 zb_28_5 (by omega) (by omega)
                have hFm275 := zfr_up hmm275 hFm272 hc0 rfl
                have g276 := zwt_fr (zdis_fr (zfr_up hmm275 (zfr_rf [(28, 6)] _) hc0 rfl) rfl)
                have hRKNm275 := zR_KN_fr (zdis_fr (zfr_up hmm275 (zfr_rf [(28, 6)] _) hc0 rfl) rfl) hRKNm272
                have hRNSm275 := zR_NS_fr (zdis_fr (zfr_up hmm275 (zfr_rf [(28, 6)] _) hc0 rfl) rfl) hRNSm272
                have hRTRm275 := zR_TR_fr (zdis_fr (zfr_up hmm275 (zfr_rf [(28, 6)] _) hc0 rfl) rfl) hRTRm272
                have hRWDm275 := zR_WD_fr (zdis_fr (zfr_up hmm275 (zfr_rf [(28, 6)] _) hc0 rfl) rfl) hRWDm272
                refine zw_b (by omega) ?_
                refine zw_some ?_
                refine zw_b (by omega) ?_
                refine zw_some ?_
                refine zw_ite (fun h277 => ?_) (fun h277 => ?_)
                · exfalso; omega
                · refine zw_b (by omega) ?_
                  have r278 : 0 ≤ (m275 a0 7) ∧ (m275 a0 7) ≤ 700 := zi_rd hIm275 hc0 zb_28_7
                  have r279 : 0 ≤ (m275 a0 8) ∧ (m275 a0 8) ≤ 6 := zi_rd hIm275 hc0 zb_28_8
                  have e280 : (m275 a0 8) = (m0 a0 8) := (Eq.trans (zs_ne hmm275 (Or.inr (by decide))) (zs_ne hmm272 (Or.inr (by decide))))
                  have r281 : 0 ≤ (m275 a0 21) ∧ (m275 a0 21) ≤ 64 := zi_rd hIm275 hc0 zb_28_21
                  have e282 : (m275 a0 21) = (m0 a0 21) := (Eq.trans (zs_ne hmm275 (Or.inr (by decide))) (zs_ne hmm272 (Or.inr (by decide))))
                  have r283 : 0 ≤ (m275 a0 48) ∧ (m275 a0 48) ≤ 64 := zi_rd hIm275 hc0 zb_28_48
                  have e284 : (m275 a0 48) = (m0 a0 48) := (Eq.trans (zs_ne hmm275 (Or.inr (by decide))) (zs_ne hmm272 (Or.inr (by decide))))
                  have r285 : 0 ≤ (m275 a0 46) ∧ (m275 a0 46) ≤ 96 := zi_rd hIm275 hc0 zb_28_46
                  have e286 : (m275 a0 46) = (m0 a0 46) := (Eq.trans (zs_ne hmm275 (Or.inr (by decide))) (zs_ne hmm272 (Or.inr (by decide))))
                  have r287 : 0 ≤ (m275 a0 49) ∧ (m275 a0 49) ≤ 1 := zi_rd hIm275 hc0 zb_28_49
                  have e288 : (m275 a0 49) = (m0 a0 49) := (Eq.trans (zs_ne hmm275 (Or.inr (by decide))) (zs_ne hmm272 (Or.inr (by decide))))
                  have r289 : 0 ≤ (m275 a0 45) ∧ (m275 a0 45) ≤ 96 := zi_rd hIm275 hc0 zb_28_45
                  have e290 : (m275 a0 45) = (m0 a0 45) := (Eq.trans (zs_ne hmm275 (Or.inr (by decide))) (zs_ne hmm272 (Or.inr (by decide))))
                  have r291 : 0 ≤ (m275 a0 47) ∧ (m275 a0 47) ≤ 8 := zi_rd hIm275 hc0 zb_28_47
                  have e292 : (m275 a0 47) = (m0 a0 47) := (Eq.trans (zs_ne hmm275 (Or.inr (by decide))) (zs_ne hmm272 (Or.inr (by decide))))
                  exact zw_some ⟨hIm275, hFm275, hRKNm275, hRNSm275, hRTRm275, hRWDm275, ⟨by omega, by omega⟩, by omega, by omega, by omega, by omega, by omega, by omega⟩
    · exfalso; omega
  · have r293 : (-2147483648) ≤ (m0 a0 9) ∧ (m0 a0 9) ≤ 2147483647 := zi_rd hIm0 hc0 zb_28_9
    refine zw_ite (fun h294 => ?_) (fun h294 => ?_)
    · refine zw_b (by omega) ?_
      refine zw_some ?_
      refine zw_ite (fun h295 => ?_) (fun h295 => ?_)
      · refine zw_bd (zw_eq (zr_92_0 n a0 25 m0) ?_)
        unfold zd_92_0
        refine zw_ite (fun h296 => ?_) (fun h296 => ?_)
        · refine zw_b (by omega) ?_
          refine zw_some ?_
          refine zw_ite (fun h297 => ?_) (fun h297 => ?_)
          · refine zw_bd (zw_eq (zr_115_0 n a0 m0) ?_)
            unfold zd_115_0
            refine zw_ite (fun h298 => ?_) (fun h298 => ?_)
            · refine zw_some ?_
              refine zw_ite (fun h299 => ?_) (fun h299 => ?_)
              · exfalso; omega
              · refine zw_ite (fun h300 => ?_) (fun h300 => ?_)
                · exfalso; omega
                · refine zw_bd (zw_eq (zr_85_0 n a0 1 m0) ?_)
                  unfold zd_85_0
                  generalize hmm301 : zu_up m0 a0 4 1 = m301
                  have hIm301 := zi_up hmm301 hIm0 hc0 zb_28_4 (by omega) (by omega)
                  have hFm301 := zfr_up hmm301 hFm0 hc0 rfl
                  have g302 := zwt_fr (zdis_fr (zfr_up hmm301 (zfr_rf [(28, 5)] _) hc0 rfl) rfl)
                  have hRKNm301 := zR_KN_fr (zdis_fr (zfr_up hmm301 (zfr_rf [(28, 5)] _) hc0 rfl) rfl) hRKNm0
                  have hRNSm301 := zR_NS_fr (zdis_fr (zfr_up hmm301 (zfr_rf [(28, 5)] _) hc0 rfl) rfl) hRNSm0
                  have hRTRm301 := zR_TR_fr (zdis_fr (zfr_up hmm301 (zfr_rf [(28, 5)] _) hc0 rfl) rfl) hRTRm0
                  have hRWDm301 := zR_WD_fr (zdis_fr (zfr_up hmm301 (zfr_rf [(28, 5)] _) hc0 rfl) rfl) hRWDm0
                  have r303 : 0 ≤ (m301 a0 10) ∧ (m301 a0 10) ≤ 700 := zi_rd hIm301 hc0 zb_28_10
                  generalize hmm304 : zu_up m301 a0 5 (m301 a0 10) = m304
                  have hIm304 := zi_up hmm304 hIm301 hc0 zb_28_5 (by omega) (by omega)
                  have hFm304 := zfr_up hmm304 hFm301 hc0 rfl
                  have g305 := zwt_fr (zdis_fr (zfr_up hmm304 (zfr_rf [(28, 6)] _) hc0 rfl) rfl)
                  have hRKNm304 := zR_KN_fr (zdis_fr (zfr_up hmm304 (zfr_rf [(28, 6)] _) hc0 rfl) rfl) hRKNm301
                  have hRNSm304 := zR_NS_fr (zdis_fr (zfr_up hmm304 (zfr_rf [(28, 6)] _) hc0 rfl) rfl) hRNSm301
                  have hRTRm304 := zR_TR_fr (zdis_fr (zfr_up hmm304 (zfr_rf [(28, 6)] _) hc0 rfl) rfl) hRTRm301
                  have hRWDm304 := zR_WD_fr (zdis_fr (zfr_up hmm304 (zfr_rf [(28, 6)] _) hc0 rfl) rfl) hRWDm301
                  refine zw_b (by omega) ?_
                  refine zw_some ?_
                  refine zw_b (by omega) ?_
                  have r306 : 0 ≤ (m304 a0 7) ∧ (m304 a0 7) ≤ 700 := zi_rd hIm304 hc0 zb_28_7
                  have r307 : 0 ≤ (m304 a0 8) ∧ (m304 a0 8) ≤ 6 := zi_rd hIm304 hc0 zb_28_8
                  have e308 : (m304 a0 8) = (m0 a0 8) := (Eq.trans (zs_ne hmm304 (Or.inr (by decide))) (zs_ne hmm301 (Or.inr (by decide))))
                  have r309 : 0 ≤ (m304 a0 21) ∧ (m304 a0 21) ≤ 64 := zi_rd hIm304 hc0 zb_28_21
                  have e310 : (m304 a0 21) = (m0 a0 21) := (Eq.trans (zs_ne hmm304 (Or.inr (by decide))) (zs_ne hmm301 (Or.inr (by decide))))
                  have r311 : 0 ≤ (m304 a0 48) ∧ (m304 a0 48) ≤ 64 := zi_rd hIm304 hc0 zb_28_48
                  have e312 : (m304 a0 48) = (m0 a0 48) := (Eq.trans (zs_ne hmm304 (Or.inr (by decide))) (zs_ne hmm301 (Or.inr (by decide))))
                  have r313 : 0 ≤ (m304 a0 46) ∧ (m304 a0 46) ≤ 96 := zi_rd hIm304 hc0 zb_28_46
                  have e314 : (m304 a0 46) = (m0 a0 46) := (Eq.trans (zs_ne hmm304 (Or.inr (by decide))) (zs_ne hmm301 (Or.inr (by decide))))
                  have r315 : 0 ≤ (m304 a0 49) ∧ (m304 a0 49) ≤ 1 := zi_rd hIm304 hc0 zb_28_49
                  have e316 : (m304 a0 49) = (m0 a0 49) := (Eq.trans (zs_ne hmm304 (Or.inr (by decide))) (zs_ne hmm301 (Or.inr (by decide))))
                  have r317 : 0 ≤ (m304 a0 45) ∧ (m304 a0 45) ≤ 96 := zi_rd hIm304 hc0 zb_28_45
                  have e318 : (m304 a0 45) = (m0 a0 45) := (Eq.trans (zs_ne hmm304 (Or.inr (by decide))) (zs_ne hmm301 (Or.inr (by decide))))
                  have r319 : 0 ≤ (m304 a0 47) ∧ (m304 a0 47) ≤ 8 := zi_rd hIm304 hc0 zb_28_47
                  have e320 : (m304 a0 47) = (m0 a0 47) := (Eq.trans (zs_ne hmm304 (Or.inr (by decide))) (zs_ne hmm301 (Or.inr (by decide))))
                  exact zw_some ⟨hIm304, hFm304, hRKNm304, hRNSm304, hRTRm304, hRWDm304, ⟨by omega, by omega⟩, by omega, by omega, by omega, by omega, by omega, by omega⟩
            · exfalso; omega
          · exfalso; omega
        · exfalso; omega
      · exfalso; omega
    · refine zw_b (by omega) ?_
      refine zw_some ?_
      refine zw_ite (fun h321 => ?_) (fun h321 => ?_)
      · exfalso; omega
      · refine zw_ite (fun h322 => ?_) (fun h322 => ?_)
        · have w323 := zu_w32_id (z := (m0 a0 47) + 1) (by omega) (by omega)
          generalize hmm324 : zu_up m0 a0 47 (zu_w32 ((m0 a0 47) + 1)) = m324
          have hIm324 := zi_up hmm324 hIm0 hc0 zb_28_47 (by omega) (by omega)
          have hFm324 := zfr_up hmm324 hFm0 hc0 rfl
          have g325 := zwt_fr (zdis_fr (zfr_up hmm324 (zfr_rf [(28, 48)] _) hc0 rfl) rfl)
          have hRKNm324 := zR_KN_fr (zdis_fr (zfr_up hmm324 (zfr_rf [(28, 48)] _) hc0 rfl) rfl) hRKNm0
          have hRNSm324 := zR_NS_fr (zdis_fr (zfr_up hmm324 (zfr_rf [(28, 48)] _) hc0 rfl) rfl) hRNSm0
          have hRTRm324 := zR_TR_fr (zdis_fr (zfr_up hmm324 (zfr_rf [(28, 48)] _) hc0 rfl) rfl) hRTRm0
          have hRWDm324 := zR_WD_fr (zdis_fr (zfr_up hmm324 (zfr_rf [(28, 48)] _) hc0 rfl) rfl) hRWDm0
          refine zw_bd (zw_eq (zr_114_0 n a0 0 m324) ?_)
          unfold zd_114_0
          have r326 : 0 ≤ (m324 a0 45) ∧ (m324 a0 45) ≤ 96 := zi_rd hIm324 hc0 zb_28_45
          have e327 : (m324 a0 45) = (m0 a0 45) := (zs_ne hmm324 (Or.inr (by decide)))
          have b328 : 0 ≤ (m324 a0 45) ∧ (m324 a0 45) < 96 := by omega
          refine zw_if b328 ?_
          generalize hmm329 : zu_up m324 211 (m324 a0 45) 0 = m329
          have hIm329 := zi_up hmm329 hIm324 zq_211 (zb_120 _) (by omega) (by omega)
          have hFm329 := zfr_up hmm329 hFm324 zq_211 rfl
          have hRKNm329 := zR_KN_fr (zdis_fr (zfr_up hmm329 (zfr_rf [(120, 0)] _) zq_211 rfl) rfl) hRKNm324
          have hRNSm329 := zR_NS_fr (zdis_fr (zfr_up hmm329 (zfr_rf [(120, 0)] _) zq_211 rfl) rfl) hRNSm324
          have hRTRm329 := zR_TR_fr (zdis_fr (zfr_up hmm329 (zfr_rf [(120, 0)] _) zq_211 rfl) rfl) hRTRm324
          have hRWDm329 := zR_WD_fr (zdis_fr (zfr_up hmm329 (zfr_rf [(120, 0)] _) zq_211 rfl) rfl) hRWDm324
          have r330 : 0 ≤ (m329 a0 45) ∧ (m329 a0 45) ≤ 96 := zi_rd hIm329 hc0 zb_28_45
          have e331 : (m329 a0 45) = (m324 a0 45) := (zs_ne hmm329 (Or.inl (zc_ne hc0 zq_211 (by decide))))
          have w332 := zu_w32_id (z := (m329 a0 45) + 1) (by omega) (by omega)
          generalize hmm333 : zu_up m329 a0 45 (zu_w32 ((m329 a0 45) + 1)) = m333
          have hIm333 := zi_up hmm333 hIm329 hc0 zb_28_45 (by omega) (by omega)
          have hFm333 := zfr_up hmm333 hFm329 hc0 rfl
          have hRKNm333 := zR_KN_fr (zdis_fr (zfr_up hmm333 (zfr_rf [(28, 46)] _) hc0 rfl) rfl) hRKNm329
          have hRNSm333 := zR_NS_fr (zdis_fr (zfr_up hmm333 (zfr_rf [(28, 46)] _) hc0 rfl) rfl) hRNSm329
          have hRTRm333 := zR_TR_fr (zdis_fr (zfr_up hmm333 (zfr_rf [(28, 46)] _) hc0 rfl) rfl) hRTRm329
          have hRWDm333 := zR_WD_fr (zdis_fr (zfr_up hmm333 (zfr_rf [(28, 46)] _) hc0 rfl) rfl) hRWDm329
          have g334 := zwt_push hmm329 hmm333 hc0 (by omega) (by omega) (by omega)
          have g335 := zwt_bd hIm333 hc0
          refine zw_some ?_
          refine zw_b (by omega) ?_
          generalize hmm336 : zu_up m333 a0 50 1 = m336
          have hIm336 := zi_up hmm336 hIm333 hc0 zb_28_50 (by omega) (by omega)
          have hFm336 := zfr_up hmm336 hFm333 hc0 rfl
          have g337 := zwt_fr (zdis_fr (zfr_up hmm336 (zfr_rf [(28, 51)] _) hc0 rfl) rfl)
          have hRKNm336 := zR_KN_fr (zdis_fr (zfr_up hmm336 (zfr_rf [(28, 51)] _) hc0 rfl) rfl) hRKNm333
          have hRNSm336 := zR_NS_fr (zdis_fr (zfr_up hmm336 (zfr_rf [(28, 51)] _) hc0 rfl) rfl) hRNSm333
          have hRTRm336 := zR_TR_fr (zdis_fr (zfr_up hmm336 (zfr_rf [(28, 51)] _) hc0 rfl) rfl) hRTRm333
          have hRWDm336 := zR_WD_fr (zdis_fr (zfr_up hmm336 (zfr_rf [(28, 51)] _) hc0 rfl) rfl) hRWDm333
          refine zw_bd (zw_mono (zk_89 n hIm336 hc0 hRNSm336 hRWDm336) (fun v339 m338 hqm338 => ?_))
          obtain ⟨hIm338, hfm338, hvm338⟩ := hqm338
          have hFm338 := zfr_tr hFm336 hfm338 rfl
          obtain ⟨hRNSm338, hRTRm338, hRWDm338, hvm338⟩ := hvm338
          have g340 := zwt_fr (zdis_fr hfm338 rfl)
          have hRKNm338 := zR_KN_fr (zdis_fr hfm338 rfl) hRKNm336
          have g341 := zwt_bd hIm338 hc0
          have s342 := hRNSm338 a0 hc0
          have s343 := hRTRm338 a0 hc0
          refine zw_b (by omega) ?_
          have r344 : 0 ≤ (m338 a0 7) ∧ (m338 a0 7) ≤ 700 := zi_rd hIm338 hc0 zb_28_7
          have r345 : 0 ≤ (m338 a0 8) ∧ (m338 a0 8) ≤ 6 := zi_rd hIm338 hc0 zb_28_8
          have r346 : 0 ≤ (m338 a0 21) ∧ (m338 a0 21) ≤ 64 := zi_rd hIm338 hc0 zb_28_21
          have e347 : (m338 a0 21) = (m0 a0 21) := (Eq.trans (zfr_ap hfm338 hc0 rfl) (Eq.trans (zs_ne hmm336 (Or.inr (by decide))) (Eq.trans (zs_ne hmm333 (Or.inr (by decide))) (Eq.trans (zs_ne hmm329 (Or.inl (zc_ne hc0 zq_211 (by decide)))) (zs_ne hmm324 (Or.inr (by decide)))))))
          have r348 : 0 ≤ (m338 a0 48) ∧ (m338 a0 48) ≤ 64 := zi_rd hIm338 hc0 zb_28_48
          have e349 : (m338 a0 48) = (m0 a0 48) := (Eq.trans (zfr_ap hfm338 hc0 rfl) (Eq.trans (zs_ne hmm336 (Or.inr (by decide))) (Eq.trans (zs_ne hmm333 (Or.inr (by decide))) (Eq.trans (zs_ne hmm329 (Or.inl (zc_ne hc0 zq_211 (by decide)))) (zs_ne hmm324 (Or.inr (by decide)))))))
          have r350 : 0 ≤ (m338 a0 46) ∧ (m338 a0 46) ≤ 96 := zi_rd hIm338 hc0 zb_28_46
          have e351 : (m338 a0 46) = (m0 a0 46) := (Eq.trans (zfr_ap hfm338 hc0 rfl) (Eq.trans (zs_ne hmm336 (Or.inr (by decide))) (Eq.trans (zs_ne hmm333 (Or.inr (by decide))) (Eq.trans (zs_ne hmm329 (Or.inl (zc_ne hc0 zq_211 (by decide)))) (zs_ne hmm324 (Or.inr (by decide)))))))
          have r352 : 0 ≤ (m338 a0 49) ∧ (m338 a0 49) ≤ 1 := zi_rd hIm338 hc0 zb_28_49
          have e353 : (m338 a0 49) = (m0 a0 49) := (Eq.trans (zfr_ap hfm338 hc0 rfl) (Eq.trans (zs_ne hmm336 (Or.inr (by decide))) (Eq.trans (zs_ne hmm333 (Or.inr (by decide))) (Eq.trans (zs_ne hmm329 (Or.inl (zc_ne hc0 zq_211 (by decide)))) (zs_ne hmm324 (Or.inr (by decide)))))))
          have r354 : 0 ≤ (m338 a0 45) ∧ (m338 a0 45) ≤ 96 := zi_rd hIm338 hc0 zb_28_45
          have e355 : (m338 a0 45) = (zu_w32 ((m329 a0 45) + 1)) := (Eq.trans (zfr_ap hfm338 hc0 rfl) (Eq.trans (zs_ne hmm336 (Or.inr (by decide))) (zs_eq hmm333)))
          have r356 : 0 ≤ (m338 a0 47) ∧ (m338 a0 47) ≤ 8 := zi_rd hIm338 hc0 zb_28_47
          have e357 : (m338 a0 47) = (zu_w32 ((m0 a0 47) + 1)) := (Eq.trans (zfr_ap hfm338 hc0 rfl) (Eq.trans (zs_ne hmm336 (Or.inr (by decide))) (Eq.trans (zs_ne hmm333 (Or.inr (by decide))) (Eq.trans (zs_ne hmm329 (Or.inl (zc_ne hc0 zq_211 (by decide)))) (zs_eq hmm324)))))
          exact zw_some ⟨hIm338, hFm338, hRKNm338, hRNSm338, hRTRm338, hRWDm338, ⟨by omega, by omega⟩, by omega, by omega, by omega, by omega, by omega, by omega⟩
        · refine zw_bd (zw_eq (zr_85_0 n a0 2 m0) ?_)
          unfold zd_85_0
          generalize hmm358 : zu_up m0 a0 4 2 = m358
          have hIm358 := zi_up hmm358 hIm0 hc0 zb_28_4 (by omega) (by omega)
          have hFm358 := zfr_up hmm358 hFm0 hc0 rfl
          have g359 := zwt_fr (zdis_fr (zfr_up hmm358 (zfr_rf [(28, 5)] _) hc0 rfl) rfl)
          have hRKNm358 := zR_KN_fr (zdis_fr (zfr_up hmm358 (zfr_rf [(28, 5)] _) hc0 rfl) rfl) hRKNm0
          have hRNSm358 := zR_NS_fr (zdis_fr (zfr_up hmm358 (zfr_rf [(28, 5)] _) hc0 rfl) rfl) hRNSm0
          have hRTRm358 := zR_TR_fr (zdis_fr (zfr_up hmm358 (zfr_rf [(28, 5)] _) hc0 rfl) rfl) hRTRm0
          have hRWDm358 := zR_WD_fr (zdis_fr (zfr_up hmm358 (zfr_rf [(28, 5)] _) hc0 rfl) rfl) hRWDm0
          have r360 : 0 ≤ (m358 a0 10) ∧ (m358 a0 10) ≤ 700 := zi_rd hIm358 hc0 zb_28_10
          generalize hmm361 : zu_up m358 a0 5 (m358 a0 10) = m361
          have hIm361 := zi_up hmm361 hIm358 hc0 zb_28_5 (by omega) (by omega)
          have hFm361 := zfr_up hmm361 hFm358 hc0 rfl
          have g362 := zwt_fr (zdis_fr (zfr_up hmm361 (zfr_rf [(28, 6)] _) hc0 rfl) rfl)
          have hRKNm361 := zR_KN_fr (zdis_fr (zfr_up hmm361 (zfr_rf [(28, 6)] _) hc0 rfl) rfl) hRKNm358
          have hRNSm361 := zR_NS_fr (zdis_fr (zfr_up hmm361 (zfr_rf [(28, 6)] _) hc0 rfl) rfl) hRNSm358
          have hRTRm361 := zR_TR_fr (zdis_fr (zfr_up hmm361 (zfr_rf [(28, 6)] _) hc0 rfl) rfl) hRTRm358
          have hRWDm361 := zR_WD_fr (zdis_fr (zfr_up hmm361 (zfr_rf [(28, 6)] _) hc0 rfl) rfl) hRWDm358
          refine zw_b (by omega) ?_
          refine zw_some ?_
          refine zw_b (by omega) ?_
          have r363 : 0 ≤ (m361 a0 7) ∧ (m361 a0 7) ≤ 700 := zi_rd hIm361 hc0 zb_28_7
          have r364 : 0 ≤ (m361 a0 8) ∧ (m361 a0 8) ≤ 6 := zi_rd hIm361 hc0 zb_28_8
          have e365 : (m361 a0 8) = (m0 a0 8) := (Eq.trans (zs_ne hmm361 (Or.inr (by decide))) (zs_ne hmm358 (Or.inr (by decide))))
          have r366 : 0 ≤ (m361 a0 21) ∧ (m361 a0 21) ≤ 64 := zi_rd hIm361 hc0 zb_28_21
          have e367 : (m361 a0 21) = (m0 a0 21) := (Eq.trans (zs_ne hmm361 (Or.inr (by decide))) (zs_ne hmm358 (Or.inr (by decide))))
          have r368 : 0 ≤ (m361 a0 48) ∧ (m361 a0 48) ≤ 64 := zi_rd hIm361 hc0 zb_28_48
          have e369 : (m361 a0 48) = (m0 a0 48) := (Eq.trans (zs_ne hmm361 (Or.inr (by decide))) (zs_ne hmm358 (Or.inr (by decide))))
          have r370 : 0 ≤ (m361 a0 46) ∧ (m361 a0 46) ≤ 96 := zi_rd hIm361 hc0 zb_28_46
          have e371 : (m361 a0 46) = (m0 a0 46) := (Eq.trans (zs_ne hmm361 (Or.inr (by decide))) (zs_ne hmm358 (Or.inr (by decide))))
          have r372 : 0 ≤ (m361 a0 49) ∧ (m361 a0 49) ≤ 1 := zi_rd hIm361 hc0 zb_28_49
          have e373 : (m361 a0 49) = (m0 a0 49) := (Eq.trans (zs_ne hmm361 (Or.inr (by decide))) (zs_ne hmm358 (Or.inr (by decide))))
          have r374 : 0 ≤ (m361 a0 45) ∧ (m361 a0 45) ≤ 96 := zi_rd hIm361 hc0 zb_28_45
          have e375 : (m361 a0 45) = (m0 a0 45) := (Eq.trans (zs_ne hmm361 (Or.inr (by decide))) (zs_ne hmm358 (Or.inr (by decide))))
          have r376 : 0 ≤ (m361 a0 47) ∧ (m361 a0 47) ≤ 8 := zi_rd hIm361 hc0 zb_28_47
          have e377 : (m361 a0 47) = (m0 a0 47) := (Eq.trans (zs_ne hmm361 (Or.inr (by decide))) (zs_ne hmm358 (Or.inr (by decide))))
          exact zw_some ⟨hIm361, hFm361, hRKNm361, hRNSm361, hRTRm361, hRWDm361, ⟨by omega, by omega⟩, by omega, by omega, by omega, by omega, by omega, by omega⟩

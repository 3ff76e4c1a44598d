set_option maxHeartbeats 4000000 in
theorem zl_290 (n : Nat) {a0 a1 a2 a3 : Int} {m0 : zu_m} (hc0 : zcls a0 = 24)   : ∀ k : Nat, (∀ (x4 : Int) (mh : zu_m), zi_I mh → zfr [(56, 0), (59, 1), (59, 2), (59, 3), (59, 4), (59, 5), (59, 6), (59, 7), (87, 0), (88, 0), (89, 0), (90, 0), (91, 0)] m0 mh → (0 ≤ a1 ∧ a1 ≤ 3) → (0 ≤ a2 ∧ a2 ≤ 47) → (1 ≤ a3 ∧ a3 ≤ 18) → (0 ≤ x4 ∧ x4 ≤ 18) → (zR_K54 mh) → (18 - x4) * 1 + 0 < (k : Int) → zw (zu_ex (zt_T n) 290 3 [(33, a0), (0, a1), (0, a2), (0, a3), (0, x4)] [] mh) (fun v m => zi_I m ∧ zfr [(56, 0), (59, 1), (59, 2), (59, 3), (59, 4), (59, 5), (59, 6), (59, 7), (87, 0), (88, 0), (89, 0), (90, 0), (91, 0)] m0 m ∧ zR_K54 m ∧ True)) := by
  intro k
  induction k with
  | zero => exact fun x4 mh hImh hFmh hba1 hba2 hba3 hbx4 hRK54mh hM => by exfalso; omega
  | succ k ih =>
    intro x4 mh hImh hFmh hba1 hba2 hba3 hbx4 hRK54mh hM
    refine zw_eq (zr_290_3 n a0 a1 a2 a3 x4 mh) ?_
    refine zw_ite (fun h1 => ?_) (fun h1 => ?_)
    · exact zw_some ⟨hImh, hFmh, hRK54mh, trivial⟩
    · refine zw_ite (fun h2 => ?_) (fun h2 => ?_)
      · exfalso; omega
      · have b3 : 0 ≤ a2 ∧ a2 < 48 := by omega
        refine zw_if b3 ?_
        have r4 : (-2147483648) ≤ (mh 157 a2) ∧ (mh 157 a2) ≤ 2147483647 := zi_rd hImh zq_157 (zb_88 _)
        refine zw_ite (fun h5 => ?_) (fun h5 => ?_)
        · exact zw_some ⟨hImh, hFmh, hRK54mh, trivial⟩
        · have b6 : 0 ≤ x4 ∧ x4 < 18 := by omega
          refine zw_if b6 ?_
          have r7 : 0 ≤ (mh 156 x4) ∧ (mh 156 x4) ≤ 1 := zi_rd hImh zq_156 (zb_87 _)
          refine zw_ite (fun h8 => ?_) (fun h8 => ?_)
          · have w9 := zu_w32_id (z := x4 + 1) (by omega) (by omega)
            have hM : (18 - (zu_w32 (x4 + 1))) * 1 + 0 < (k : Int) := by omega
            exact ih (zu_w32 (x4 + 1)) mh hImh hFmh ⟨by omega, by omega⟩ ⟨by omega, by omega⟩ ⟨by omega, by omega⟩ ⟨by omega, by omega⟩ hRK54mh hM
          · have b10 : 0 ≤ x4 ∧ x4 < 18 := by omega
            refine zw_if b10 ?_
            have r11 : 0 ≤ (mh 155 x4) ∧ (mh 155 x4) ≤ 47 := zi_rd hImh zq_155 (zb_86 _)
            refine zw_ite (fun h12 => ?_) (fun h12 => ?_)
            · have w13 := zu_w32_id (z := x4 + 1) (by omega) (by omega)
              have hM : (18 - (zu_w32 (x4 + 1))) * 1 + 0 < (k : Int) := by omega
              exact ih (zu_w32 (x4 + 1)) mh hImh hFmh ⟨by omega, by omega⟩ ⟨by omega, by omega⟩ ⟨by omega, by omega⟩ ⟨by omega, by omega⟩ hRK54mh hM
            · refine zw_bd (zw_mono (zk_291 n hImh hc0 ⟨by omega, by omega⟩ ⟨by omega, by omega⟩ hRK54mh) (fun v15 m14 hqm14 => ?_))
              obtain ⟨hIm14, hfm14, hvm14⟩ := hqm14
              have hFm14 := zfr_tr hFmh hfm14 rfl
              obtain ⟨hRK54m14, hvm14⟩ := hvm14
              refine zw_ite (fun h16 => ?_) (fun h16 => ?_)
              · have w17 := zu_w32_id (z := x4 + 1) (by omega) (by omega)
                have hM : (18 - (zu_w32 (x4 + 1))) * 1 + 0 < (k : Int) := by omega
                exact ih (zu_w32 (x4 + 1)) m14 hIm14 hFm14 ⟨by omega, by omega⟩ ⟨by omega, by omega⟩ ⟨by omega, by omega⟩ ⟨by omega, by omega⟩ hRK54m14 hM
              · refine zw_b (by omega) ?_
                have b18 : 0 ≤ x4 ∧ x4 < 18 := by omega
                refine zw_if b18 ?_
                generalize hmm19 : zu_up m14 156 x4 1 = m19
                have hIm19 := zi_up hmm19 hIm14 zq_156 (zb_87 _) (by omega) (by omega)
                have hFm19 := zfr_up hmm19 hFm14 zq_156 rfl
                have hRK54m19 := zR_K54_fr (zdis_fr (zfr_up hmm19 (zfr_rf [(87, 0)] _) zq_156 rfl) rfl) hRK54m14
                have b20 : 0 ≤ a2 ∧ a2 < 48 := by omega
                refine zw_if b20 ?_
                have r21 : (-2147483648) ≤ (m19 157 a2) ∧ (m19 157 a2) ≤ 2147483647 := zi_rd hIm19 zq_157 (zb_88 _)
                have e22 : (m19 157 a2) = (mh 157 a2) := (Eq.trans (zs_ne hmm19 (Or.inl (zc_ne zq_157 zq_156 (by decide)))) (zfr_ap hfm14 zq_157 rfl))
                have w23 := zu_w32_id (z := (m19 157 a2) - 1) (by omega) (by omega)
                have b24 : 0 ≤ a2 ∧ a2 < 48 := by omega
                refine zw_if b24 ?_
                generalize hmm25 : zu_up m19 157 a2 (zu_w32 ((m19 157 a2) - 1)) = m25
                have hIm25 := zi_up hmm25 hIm19 zq_157 (zb_88 _) (by omega) (by omega)
                have hFm25 := zfr_up hmm25 hFm19 zq_157 rfl
                have hRK54m25 := zR_K54_fr (zdis_fr (zfr_up hmm25 (zfr_rf [(88, 0)] _) zq_157 rfl) rfl) hRK54m19
                have b26 : 0 ≤ a1 ∧ a1 < 4 := by omega
                refine zw_if b26 ?_
                have r27 : (-2147483648) ≤ (m25 158 a1) ∧ (m25 158 a1) ≤ 2147483647 := zi_rd hIm25 zq_158 (zb_89 _)
                have w28 := zu_w32_rg ((m25 158 a1) + 1)
                have b29 : 0 ≤ a1 ∧ a1 < 4 := by omega
                refine zw_if b29 ?_
                generalize hmm30 : zu_up m25 158 a1 (zu_w32 ((m25 158 a1) + 1)) = m30
                have hIm30 := zi_up hmm30 hIm25 zq_158 (zb_89 _) (by omega) (by omega)
                have hFm30 := zfr_up hmm30 hFm25 zq_158 rfl
                have hRK54m30 := zR_K54_fr (zdis_fr (zfr_up hmm30 (zfr_rf [(89, 0)] _) zq_158 rfl) rfl) hRK54m25
                have w31 := zu_w32_id (z := x4 + 1) (by omega) (by omega)
                have hM : (18 - (zu_w32 (x4 + 1))) * 1 + 0 < (k : Int) := by omega
                exact ih (zu_w32 (x4 + 1)) m30 hIm30 hFm30 ⟨by omega, by omega⟩ ⟨by omega, by omega⟩ ⟨by omega, by omega⟩ ⟨by omega, by omega⟩ hRK54m30 hM
set_option maxHeartbeats 4000000 in
theorem zk_290 (n : Nat) {a0 a1 a2 a3 : Int} {m0 : zu_m} (hIm0 : zi_I m0) (hc0 : zcls a0 = 24) (ha1 : 0 ≤ a1 ∧ a1 ≤ 3) (ha2 : 0 ≤ a2 ∧ a2 ≤ 47) (ha3 : 1 ≤ a3 ∧ a3 ≤ 18)    (hRK54m0 : zR_K54 m0) : zw (zu_call (zt_T n) 290 [(33, a0), (0, a1), (0, a2), (0, a3)] m0) (fun v m => zi_I m ∧ zfr [(56, 0), (59, 1), (59, 2), (59, 3), (59, 4), (59, 5), (59, 6), (59, 7), (87, 0), (88, 0), (89, 0), (90, 0), (91, 0)] m0 m ∧ zR_K54 m ∧ True) := by
  have hFm0 : zfr [(56, 0), (59, 1), (59, 2), (59, 3), (59, 4), (59, 5), (59, 6), (59, 7), (87, 0), (88, 0), (89, 0), (90, 0), (91, 0)] m0 m0 := zfr_rf _ _
  refine zw_eq (zr_290_0 n a0 a1 a2 a3 m0) ?_
  have hM : (18 - 0) * 1 + 0 < ((19 : Nat) : Int) := by omega
  exact (zl_290 n (m0 := m0) hc0 19) 0 m0 hIm0 hFm0 ⟨by omega, by omega⟩ ⟨by omega, by omega⟩ ⟨by omega, by omega⟩ ⟨by omega, by omega⟩ hRK54m0 hM
set_option maxHeartbeats 4000000 in
theorem zl_33 (n : Nat) {a0 : Int} {m0 : zu_m} (hc0 : zcls a0 = 28)   : ∀ k : Nat, (∀ (x1 : Int) (mh : zu_m), zi_I mh → zfr [(28, 54), (28, 63), (28, 64), (28, 65), (28, 66), (28, 67), (28, 68), (28, 69), (28, 70), (28, 78), (28, 79), (28, 82), (28, 84), (122, 0), (123, 0), (124, 0), (125, 0), (126, 0), (127, 0), (128, 0), (129, 0), (130, 0), (131, 0)] m0 mh → (0 ≤ x1 ∧ x1 ≤ 4) → ((-1) ≤ mh a0 62 ∧ mh a0 62 ≤ 99999) → ((-1) ≤ mh a0 63 ∧ mh a0 63 ≤ 99999) → (4 - x1) * 1 + 49 < (k : Int) → zw (zu_ex (zt_T n) 33 32 [(40, a0), (0, x1)] [] mh) (fun v m => zi_I m ∧ zfr [(28, 54), (28, 63), (28, 64), (28, 65), (28, 66), (28, 67), (28, 68), (28, 69), (28, 70), (28, 78), (28, 79), (28, 82), (28, 84), (122, 0), (123, 0), (124, 0), (125, 0), (126, 0), (127, 0), (128, 0), (129, 0), (130, 0), (131, 0)] m0 m ∧ True ∧ ((-1) ≤ m a0 62 ∧ m a0 62 ≤ 99999) ∧ ((-1) ≤ m a0 63 ∧ m a0 63 ≤ 99999) ∧ (0 ≤ m a0 77 ∧ m a0 77 ≤ 0) ∧ ((-1) ≤ m a0 78 ∧ m a0 78 ≤ (-1)) ∧ (0 ≤ m a0 81 ∧ m a0 81 ≤ 0) ∧ (0 ≤ m a0 83 ∧ m a0 83 ≤ 0))) ∧ (∀ (x1 : Int) (mh : zu_m), zi_I mh → zfr [(28, 54), (28, 63), (28, 64), (28, 65), (28, 66), (28, 67), (28, 68), (28, 69), (28, 70), (28, 78), (28, 79), (28, 82), (28, 84), (122, 0), (123, 0), (124, 0), (125, 0), (126, 0), (127, 0), (128, 0), (129, 0), (130, 0), (131, 0)] m0 mh → (0 ≤ x1 ∧ x1 ≤ 48) → ((-1) ≤ mh a0 62 ∧ mh a0 62 ≤ 99999) → ((-1) ≤ mh a0 63 ∧ mh a0 63 ≤ 99999) → (48 - x1) * 1 + 0 < (k : Int) → zw (zu_ex (zt_T n) 33 52 [(40, a0), (0, x1)] [] mh) (fun v m => zi_I m ∧ zfr [(28, 54), (28, 63), (28, 64), (28, 65), (28, 66), (28, 67), (28, 68), (28, 69), (28, 70), (28, 78), (28, 79), (28, 82), (28, 84), (122, 0), (123, 0), (124, 0), (125, 0), (126, 0), (127, 0), (128, 0), (129, 0), (130, 0), (131, 0)] m0 m ∧ True ∧ ((-1) ≤ m a0 62 ∧ m a0 62 ≤ 99999) ∧ ((-1) ≤ m a0 63 ∧ m a0 63 ≤ 99999) ∧ (0 ≤ m a0 77 ∧ m a0 77 ≤ 0) ∧ ((-1) ≤ m a0 78 ∧ m a0 78 ≤ (-1)) ∧ (0 ≤ m a0 81 ∧ m a0 81 ≤ 0) ∧ (0 ≤ m a0 83 ∧ m a0 83 ≤ 0))) := by
  intro k
  induction k with
  | zero => exact ⟨fun x1 mh hImh hFmh hbx1 hg1 hg2 hM => by exfalso; omega, fun x1 mh hImh hFmh hbx1 hg1 hg2 hM => by exfalso; omega⟩
  | succ k ih =>
    refine ⟨?_, ?_⟩
    · intro x1 mh hImh hFmh hbx1 hg1 hg2 hM
      refine zw_eq (zr_33_32 n a0 x1 mh) ?_
      refine zw_ite (fun h1 => ?_) (fun h1 => ?_)
      · have hM : (48 - 0) * 1 + 0 < (k : Int) := by omega
        exact ih.2 0 mh hImh hFmh ⟨by omega, by omega⟩ ⟨by omega, by omega⟩ ⟨by omega, by omega⟩ hM
      · have b2 : 0 ≤ x1 ∧ x1 < 4 := by omega
        refine zw_if b2 ?_
        generalize hmm3 : zu_up mh 219 x1 0 = m3
        have hIm3 := zi_up hmm3 hImh zq_219 (zb_128 _) (by omega) (by omega)
        have hFm3 := zfr_up hmm3 hFmh zq_219 rfl
        have w4 := zu_w32_id (z := x1 + 1) (by omega) (by omega)
        have r5 : (-2147483648) ≤ (m3 a0 62) ∧ (m3 a0 62) ≤ 2147483647 := zi_rd hIm3 hc0 zb_28_62
        have e6 : (m3 a0 62) = (mh a0 62) := (zs_ne hmm3 (Or.inl (zc_ne hc0 zq_219 (by decide))))
        have r7 : (-9223372036854775808) ≤ (m3 a0 63) ∧ (m3 a0 63) ≤ 9223372036854775807 := zi_rd hIm3 hc0 zb_28_63
        have e8 : (m3 a0 63) = (mh a0 63) := (zs_ne hmm3 (Or.inl (zc_ne hc0 zq_219 (by decide))))
        have hM : (4 - (zu_w32 (x1 + 1))) * 1 + 49 < (k : Int) := by omega
        exact ih.1 (zu_w32 (x1 + 1)) m3 hIm3 hFm3 ⟨by omega, by omega⟩ ⟨by omega, by omega⟩ ⟨by omega, by omega⟩ hM
    · intro x1 mh hImh hFmh hbx1 hg1 hg2 hM
      refine zw_eq (zr_33_52 n a0 x1 mh) ?_
      refine zw_ite (fun h9 => ?_) (fun h9 => ?_)
      · generalize hmm10 : zu_up mh a0 77 0 = m10
        have hIm10 := zi_up hmm10 hImh hc0 zb_28_77 (by omega) (by omega)
        have hFm10 := zfr_up hmm10 hFmh hc0 rfl
        generalize hmm11 : zu_up m10 a0 78 (-1) = m11
        have hIm11 := zi_up hmm11 hIm10 hc0 zb_28_78 (by omega) (by omega)
        have hFm11 := zfr_up hmm11 hFm10 hc0 rfl
        generalize hmm12 : zu_up m11 a0 81 0 = m12
        have hIm12 := zi_up hmm12 hIm11 hc0 zb_28_81 (by omega) (by omega)
        have hFm12 := zfr_up hmm12 hFm11 hc0 rfl
        refine zw_b (by omega) ?_
        generalize hmm13 : zu_up m12 a0 83 0 = m13
        have hIm13 := zi_up hmm13 hIm12 hc0 zb_28_83 (by omega) (by omega)
        have hFm13 := zfr_up hmm13 hFm12 hc0 rfl
        have r14 : (-2147483648) ≤ (m13 a0 62) ∧ (m13 a0 62) ≤ 2147483647 := zi_rd hIm13 hc0 zb_28_62
        have e15 : (m13 a0 62) = (mh a0 62) := (Eq.trans (zs_ne hmm13 (Or.inr (by decide))) (Eq.trans (zs_ne hmm12 (Or.inr (by decide))) (Eq.trans (zs_ne hmm11 (Or.inr (by decide))) (zs_ne hmm10 (Or.inr (by decide))))))
        have r16 : (-9223372036854775808) ≤ (m13 a0 63) ∧ (m13 a0 63) ≤ 9223372036854775807 := zi_rd hIm13 hc0 zb_28_63
        have e17 : (m13 a0 63) = (mh a0 63) := (Eq.trans (zs_ne hmm13 (Or.inr (by decide))) (Eq.trans (zs_ne hmm12 (Or.inr (by decide))) (Eq.trans (zs_ne hmm11 (Or.inr (by decide))) (zs_ne hmm10 (Or.inr (by decide))))))
        have r18 : 0 ≤ (m13 a0 77) ∧ (m13 a0 77) ≤ 24 := zi_rd hIm13 hc0 zb_28_77
        have e19 : (m13 a0 77) = 0 := (Eq.trans (zs_ne hmm13 (Or.inr (by decide))) (Eq.trans (zs_ne hmm12 (Or.inr (by decide))) (Eq.trans (zs_ne hmm11 (Or.inr (by decide))) (zs_eq hmm10))))
        have r20 : (-1) ≤ (m13 a0 78) ∧ (m13 a0 78) ≤ 24 := zi_rd hIm13 hc0 zb_28_78
        have e21 : (m13 a0 78) = (-1) := (Eq.trans (zs_ne hmm13 (Or.inr (by decide))) (Eq.trans (zs_ne hmm12 (Or.inr (by decide))) (zs_eq hmm11)))
        have r22 : 0 ≤ (m13 a0 81) ∧ (m13 a0 81) ≤ 20 := zi_rd hIm13 hc0 zb_28_81
        have e23 : (m13 a0 81) = 0 := (Eq.trans (zs_ne hmm13 (Or.inr (by decide))) (zs_eq hmm12))
        have r24 : 0 ≤ (m13 a0 83) ∧ (m13 a0 83) ≤ 1 := zi_rd hIm13 hc0 zb_28_83
        have e25 : (m13 a0 83) = 0 := (zs_eq hmm13)
        exact zw_some ⟨hIm13, hFm13, trivial, ⟨by omega, by omega⟩, ⟨by omega, by omega⟩, ⟨by omega, by omega⟩, ⟨by omega, by omega⟩, ⟨by omega, by omega⟩, ⟨by omega, by omega⟩⟩
      · refine zw_bd (zw_eq (zr_36_0 n a0 mh) ?_)
        have r26 : 1 ≤ (mh a0 12) ∧ (mh a0 12) ≤ 8 := zi_rd hImh hc0 zb_28_12
        have r27 : 1 ≤ (mh a0 13) ∧ (mh a0 13) ≤ 6 := zi_rd hImh hc0 zb_28_13
        have p28 := zmul_bd (x := (mh a0 12)) (y := (mh a0 13)) (a := 1) (b := 1) (A := 8) (B := 6) (by omega) (by omega) (by omega) (by omega) (by omega) (by omega)
        have w29 := zu_w32_id (z := (mh a0 12) * (mh a0 13)) (by omega) (by omega)
        refine zw_some ?_
        refine zw_ite (fun h30 => ?_) (fun h30 => ?_)
        · have b31 : 0 ≤ x1 ∧ x1 < 48 := by omega
          refine zw_if b31 ?_
          generalize hmm32 : zu_up mh 222 x1 0 = m32
          have hIm32 := zi_up hmm32 hImh zq_222 (zb_131 _) (by omega) (by omega)
          have hFm32 := zfr_up hmm32 hFmh zq_222 rfl
          have w33 := zu_w32_id (z := x1 + 1) (by omega) (by omega)
          have r34 : (-2147483648) ≤ (m32 a0 62) ∧ (m32 a0 62) ≤ 2147483647 := zi_rd hIm32 hc0 zb_28_62
          have e35 : (m32 a0 62) = (mh a0 62) := (zs_ne hmm32 (Or.inl (zc_ne hc0 zq_222 (by decide))))
          have r36 : (-9223372036854775808) ≤ (m32 a0 63) ∧ (m32 a0 63) ≤ 9223372036854775807 := zi_rd hIm32 hc0 zb_28_63
          have e37 : (m32 a0 63) = (mh a0 63) := (zs_ne hmm32 (Or.inl (zc_ne hc0 zq_222 (by decide))))
          have hM : (48 - (zu_w32 (x1 + 1))) * 1 + 0 < (k : Int) := by omega
          exact ih.2 (zu_w32 (x1 + 1)) m32 hIm32 hFm32 ⟨by omega, by omega⟩ ⟨by omega, by omega⟩ ⟨by omega, by omega⟩ hM
        · refine zw_bd (zw_mono (zk_37 n hImh hc0 ⟨by omega, by omega⟩) (fun v39 m38 hqm38 => ?_))
          obtain ⟨hIm38, hfm38, hvm38⟩ := hqm38
          have hFm38 := zfr_tr hFmh hfm38 rfl
          have w40 := zu_w32_rg (1000 * v39)
          have b41 : 0 ≤ x1 ∧ x1 < 48 := by omega
          refine zw_if b41 ?_
          generalize hmm42 : zu_up m38 222 x1 (zu_w32 (1000 * v39)) = m42
          have hIm42 := zi_up hmm42 hIm38 zq_222 (zb_131 _) (by omega) (by omega)
          have hFm42 := zfr_up hmm42 hFm38 zq_222 rfl
          have w43 := zu_w32_id (z := x1 + 1) (by omega) (by omega)
          have r44 : (-2147483648) ≤ (m42 a0 62) ∧ (m42 a0 62) ≤ 2147483647 := zi_rd hIm42 hc0 zb_28_62
          have e45 : (m42 a0 62) = (mh a0 62) := (Eq.trans (zs_ne hmm42 (Or.inl (zc_ne hc0 zq_222 (by decide)))) (zfr_ap hfm38 hc0 rfl))
          have r46 : (-9223372036854775808) ≤ (m42 a0 63) ∧ (m42 a0 63) ≤ 9223372036854775807 := zi_rd hIm42 hc0 zb_28_63
          have e47 : (m42 a0 63) = (mh a0 63) := (Eq.trans (zs_ne hmm42 (Or.inl (zc_ne hc0 zq_222 (by decide)))) (zfr_ap hfm38 hc0 rfl))
          have hM : (48 - (zu_w32 (x1 + 1))) * 1 + 0 < (k : Int) := by omega
          exact ih.2 (zu_w32 (x1 + 1)) m42 hIm42 hFm42 ⟨by omega, by omega⟩ ⟨by omega, by omega⟩ ⟨by omega, by omega⟩ hM
set_option maxHeartbeats 4000000 in
theorem zk_33 (n : Nat) {a0 : Int} {m0 : zu_m} (hIm0 : zi_I m0) (hc0 : zcls a0 = 28)      : zw (zu_call (zt_T n) 33 [(40, a0)] m0) (fun v m => zi_I m ∧ zfr [(28, 54), (28, 63), (28, 64), (28, 65), (28, 66), (28, 67), (28, 68), (28, 69), (28, 70), (28, 78), (28, 79), (28, 82), (28, 84), (122, 0), (123, 0), (124, 0), (125, 0), (126, 0), (127, 0), (128, 0), (129, 0), (130, 0), (131, 0)] m0 m ∧ True ∧ ((-1) ≤ m a0 62 ∧ m a0 62 ≤ 99999) ∧ ((-1) ≤ m a0 63 ∧ m a0 63 ≤ 99999) ∧ (0 ≤ m a0 77 ∧ m a0 77 ≤ 0) ∧ ((-1) ≤ m a0 78 ∧ m a0 78 ≤ (-1)) ∧ (0 ≤ m a0 81 ∧ m a0 81 ≤ 0) ∧ (0 ≤ m a0 83 ∧ m a0 83 ≤ 0)) := by
  have hFm0 : zfr [(28, 54), (28, 63), (28, 64), (28, 65), (28, 66), (28, 67), (28, 68), (28, 69), (28, 70), (28, 78), (28, 79), (28, 82), (28, 84), (122, 0), (123, 0), (124, 0), (125, 0), (126, 0), (127, 0), (128, 0), (129, 0), (130, 0), (131, 0)] m0 m0 := zfr_rf _ _
  refine zw_eq (zr_33_0 n a0 m0) ?_
  refine zw_bd (zw_mono (zk_34 n hIm0 hc0 ⟨by omega, by omega⟩) (fun v49 m48 hqm48 => ?_))
  obtain ⟨hIm48, hfm48, hvm48⟩ := hqm48
  have hFm48 := zfr_tr hFm0 hfm48 rfl
  have b50 : 0 ≤ (0 : Int) ∧ (0 : Int) < 10 := by omega
  refine zw_if b50 ?_
  have r51 : (-1) ≤ (m48 194 0) ∧ (m48 194 0) ≤ 99999 := zi_rd hIm48 zq_194 (zb_103 _)
  generalize hmm52 : zu_up m48 a0 62 (m48 194 0) = m52
  have hIm52 := zi_up hmm52 hIm48 hc0 zb_28_62 (by omega) (by omega)
  have hFm52 := zfr_up hmm52 hFm48 hc0 rfl
  have b53 : 0 ≤ (4 : Int) ∧ (4 : Int) < 10 := by omega
  refine zw_if b53 ?_
  have r54 : (-1) ≤ (m52 194 4) ∧ (m52 194 4) ≤ 99999 := zi_rd hIm52 zq_194 (zb_103 _)
  generalize hmm55 : zu_up m52 a0 63 (m52 194 4) = m55
  have hIm55 := zi_up hmm55 hIm52 hc0 zb_28_63 (by omega) (by omega)
  have hFm55 := zfr_up hmm55 hFm52 hc0 rfl
  refine zw_bd (zw_mono (zk_35 n hIm55 hc0) (fun v57 m56 hqm56 => ?_))
  obtain ⟨hIm56, hfm56, hvm56⟩ := hqm56
  have hFm56 := zfr_tr hFm55 hfm56 rfl
  have r58 : (-2147483648) ≤ (m56 a0 62) ∧ (m56 a0 62) ≤ 2147483647 := zi_rd hIm56 hc0 zb_28_62
  have e59 : (m56 a0 62) = (m48 194 0) := (Eq.trans (zfr_ap hfm56 hc0 rfl) (Eq.trans (zs_ne hmm55 (Or.inr (by decide))) (zs_eq hmm52)))
  have r60 : (-9223372036854775808) ≤ (m56 a0 63) ∧ (m56 a0 63) ≤ 9223372036854775807 := zi_rd hIm56 hc0 zb_28_63
  have e61 : (m56 a0 63) = (m52 194 4) := (Eq.trans (zfr_ap hfm56 hc0 rfl) (zs_eq hmm55))
  have hM : (4 - 0) * 1 + 49 < ((54 : Nat) : Int) := by omega
  exact (zl_33 n (m0 := m0) hc0 54).1 0 m56 hIm56 hFm56 ⟨by omega, by omega⟩ ⟨by omega, by omega⟩ ⟨by omega, by omega⟩ hM
set_option maxHeartbeats 4000000 in
theorem zk_47 (n : Nat) {a0 a1 a2 : Int} {m0 : zu_m} (hIm0 : zi_I m0) (hc0 : zcls a0 = 2) (ha1 : (-2147483648) ≤ a1 ∧ a1 ≤ 2147483647) (ha2 : (-2147483648) ≤ a2 ∧ a2 ≤ 2147483647)    (hRK54m0 : zR_K54 m0) : zw (zu_call (zt_T n) 47 [(5, a0), (0, a1), (0, a2)] m0) (fun v m => zi_I m ∧ zfr [(56, 0), (59, 1), (59, 2), (59, 3), (59, 4), (59, 5), (59, 6), (59, 7)] m0 m ∧ zR_K54 m ∧ ((-2147483648) ≤ v ∧ v ≤ 2147483647)) := by
  have hFm0 : zfr [(56, 0), (59, 1), (59, 2), (59, 3), (59, 4), (59, 5), (59, 6), (59, 7)] m0 m0 := zfr_rf _ _
  refine zw_eq (zr_47_0 n a0 a1 a2 m0) ?_
  refine zw_bd (zw_eq (zr_211_0 n 89 a1 m0) ?_)
  refine zw_ite (fun h1 => ?_) (fun h1 => ?_)
  · refine zw_b (by omega) ?_
    refine zw_some ?_
    refine zw_ite (fun h2 => ?_) (fun h2 => ?_)
    · exfalso; omega
    · exact zw_some ⟨hIm0, hFm0, hRK54m0, ⟨by omega, by omega⟩⟩
  · have r3 : 0 ≤ (m0 89 4) ∧ (m0 89 4) ≤ 4 := zi_rd hIm0 zq_89 zb_16_4
    refine zw_ite (fun h4 => ?_) (fun h4 => ?_)
    · refine zw_b (by omega) ?_
      refine zw_some ?_
      refine zw_ite (fun h5 => ?_) (fun h5 => ?_)
      · exfalso; omega
      · exact zw_some ⟨hIm0, hFm0, hRK54m0, ⟨by omega, by omega⟩⟩
    · refine zw_b (by omega) ?_
      refine zw_some ?_
      refine zw_ite (fun h6 => ?_) (fun h6 => ?_)
      · have b7 : 0 ≤ a1 ∧ a1 < 4 := by omega
        refine zw_if b7 ?_
        refine zw_ite (fun h8 => ?_) (fun h8 => ?_)
        · have r9 : 0 ≤ (m0 ((89 + 2) + 20 + a1) 1) ∧ (m0 ((89 + 2) + 20 + a1) 1) ≤ 47 := zi_rd hIm0 (zc_66_e (zc_16_3 zq_89) b7) zb_18_1
          exact zw_some ⟨hIm0, hFm0, hRK54m0, ⟨by omega, by omega⟩⟩
        · refine zw_ite (fun h10 => ?_) (fun h10 => ?_)
          · have r11 : (-2147483648) ≤ (m0 ((89 + 2) + 20 + a1) 6) ∧ (m0 ((89 + 2) + 20 + a1) 6) ≤ 2147483647 := zi_rd hIm0 (zc_66_e (zc_16_3 zq_89) b7) zb_18_6
            exact zw_some ⟨hIm0, hFm0, hRK54m0, ⟨by omega, by omega⟩⟩
          · refine zw_ite (fun h12 => ?_) (fun h12 => ?_)
            · refine zw_bd (zw_mono (zk_236 n hIm0 zq_89 ⟨by omega, by omega⟩) (fun v14 m13 hqm13 => ?_))
              obtain ⟨hIm13, hfm13, hvm13⟩ := hqm13
              have hFm13 := zfr_tr hFm0 hfm13 rfl
              have hRK54m13 := zR_K54_fr (zdis_fr hfm13 rfl) hRK54m0
              exact zw_some ⟨hIm13, hFm13, hRK54m13, ⟨by omega, by omega⟩⟩
            · refine zw_ite (fun h15 => ?_) (fun h15 => ?_)
              · have r16 : (-2147483648) ≤ (m0 ((89 + 2) + 20 + a1) 5) ∧ (m0 ((89 + 2) + 20 + a1) 5) ≤ 2147483647 := zi_rd hIm0 (zc_66_e (zc_16_3 zq_89) b7) zb_18_5
                exact zw_some ⟨hIm0, hFm0, hRK54m0, ⟨by omega, by omega⟩⟩
              · refine zw_ite (fun h17 => ?_) (fun h17 => ?_)
                · refine zw_bd (zw_mono (zk_237 n hIm0 zq_89 ⟨by omega, by omega⟩ hRK54m0) (fun v19 m18 hqm18 => ?_))
                  obtain ⟨hIm18, hfm18, hvm18⟩ := hqm18
                  have hFm18 := zfr_tr hFm0 hfm18 rfl
                  obtain ⟨hRK54m18, hvm18⟩ := hvm18
                  exact zw_some ⟨hIm18, hFm18, hRK54m18, ⟨by omega, by omega⟩⟩
                · exact zw_some ⟨hIm0, hFm0, hRK54m0, ⟨by omega, by omega⟩⟩
      · exfalso; omega
set_option maxHeartbeats 4000000 in
theorem zk_57 (n : Nat) {a0 a1 : Int} {m0 : zu_m} (hIm0 : zi_I m0) (hc0 : zcls a0 = 2) (ha1 : (-2147483648) ≤ a1 ∧ a1 ≤ 2147483647)    (hRK54m0 : zR_K54 m0) : zw (zu_call (zt_T n) 57 [(5, a0), (0, a1)] m0) (fun v m => zi_I m ∧ zfr [(16, 9), (16, 10), (17, 4), (18, 2), (18, 6), (18, 7), (18, 8), (23, 5), (56, 0), (59, 1), (59, 2), (59, 3), (59, 4), (59, 5), (59, 6), (59, 7), (67, 0), (68, 0)] m0 m ∧ zR_K54 m ∧ ((-1) ≤ v ∧ v ≤ 9999)) := by
  have hFm0 : zfr [(16, 9), (16, 10), (17, 4), (18, 2), (18, 6), (18, 7), (18, 8), (23, 5), (56, 0), (59, 1), (59, 2), (59, 3), (59, 4), (59, 5), (59, 6), (59, 7), (67, 0), (68, 0)] m0 m0 := zfr_rf _ _
  refine zw_eq (zr_57_0 n a0 a1 m0) ?_
  refine zw_ite (fun h1 => ?_) (fun h1 => ?_)
  · exact zw_some ⟨hIm0, hFm0, hRK54m0, ⟨by omega, by omega⟩⟩
  · refine zw_ite (fun h2 => ?_) (fun h2 => ?_)
    · exact zw_some ⟨hIm0, hFm0, hRK54m0, ⟨by omega, by omega⟩⟩
    · have r3 : 0 ≤ (m0 89 8) ∧ (m0 89 8) ≤ 9999 := zi_rd hIm0 zq_89 zb_16_8
      have w4 := zu_w32_id (z := (m0 89 8) + a1) (by omega) (by omega)
      refine zw_ite (fun h5 => ?_) (fun h5 => ?_)
      · refine zw_bd (zw_mono (zk_214_16 n hIm0 zq_89 ⟨by omega, by omega⟩ ⟨by omega, by omega⟩ (by omega) hRK54m0) (fun v7 m6 hqm6 => ?_))
        obtain ⟨hIm6, hfm6, hvm6⟩ := hqm6
        have hFm6 := zfr_tr hFm0 hfm6 rfl
        obtain ⟨hRK54m6, hvm6⟩ := hvm6
        refine zw_ite (fun h8 => ?_) (fun h8 => ?_)
        · have r9 : 0 ≤ (m6 89 8) ∧ (m6 89 8) ≤ 9999 := zi_rd hIm6 zq_89 zb_16_8
          exact zw_some ⟨hIm6, hFm6, hRK54m6, ⟨by omega, by omega⟩⟩
        · refine zw_bd (zw_mono (zk_28 n hIm6 zq_148) (fun v11 m10 hqm10 => ?_))
          obtain ⟨hIm10, hfm10, hvm10⟩ := hqm10
          have hFm10 := zfr_tr hFm6 hfm10 rfl
          have hRK54m10 := zR_K54_fr (zdis_fr hfm10 rfl) hRK54m6
          have r12 : 0 ≤ (m10 89 8) ∧ (m10 89 8) ≤ 9999 := zi_rd hIm10 zq_89 zb_16_8
          exact zw_some ⟨hIm10, hFm10, hRK54m10, ⟨by omega, by omega⟩⟩
      · exact zw_some ⟨hIm0, hFm0, hRK54m0, ⟨by omega, by omega⟩⟩
set_option maxHeartbeats 4000000 in
theorem zk_71 (n : Nat) {a0 a1 : Int} {m0 : zu_m} (hIm0 : zi_I m0) (hc0 : zcls a0 = 2) (ha1 : (-2147483648) ≤ a1 ∧ a1 ≤ 2147483647)    (hRK54m0 : zR_K54 m0) : zw (zu_call (zt_T n) 71 [(5, a0), (0, a1)] m0) (fun v m => zi_I m ∧ zfr [(56, 0), (59, 1), (59, 2), (59, 3), (59, 4), (59, 5), (59, 6), (59, 7), (69, 0)] m0 m ∧ zR_K54 m ∧ ((-8) ≤ v ∧ v ≤ 3)) := by
  have hFm0 : zfr [(56, 0), (59, 1), (59, 2), (59, 3), (59, 4), (59, 5), (59, 6), (59, 7), (69, 0)] m0 m0 := zfr_rf _ _
  refine zw_eq (zr_71_0 n a0 a1 m0) ?_
  refine zw_bd (zw_eq (zr_210_0 n 89 a1 m0) ?_)
  refine zw_ite (fun h1 => ?_) (fun h1 => ?_)
  · refine zw_b (by omega) ?_
    refine zw_some ?_
    refine zw_ite (fun h2 => ?_) (fun h2 => ?_)
    · exact zw_some ⟨hIm0, hFm0, hRK54m0, ⟨by omega, by omega⟩⟩
    · exfalso; omega
  · have r3 : 0 ≤ (m0 89 2) ∧ (m0 89 2) ≤ 16 := zi_rd hIm0 zq_89 zb_16_2
    refine zw_ite (fun h4 => ?_) (fun h4 => ?_)
    · refine zw_b (by omega) ?_
      refine zw_some ?_
      refine zw_ite (fun h5 => ?_) (fun h5 => ?_)
      · exact zw_some ⟨hIm0, hFm0, hRK54m0, ⟨by omega, by omega⟩⟩
      · exfalso; omega
    · refine zw_b (by omega) ?_
      refine zw_some ?_
      refine zw_ite (fun h6 => ?_) (fun h6 => ?_)
      · exfalso; omega
      · refine zw_bd (zw_mono (zk_243 n hIm0 zq_89 ⟨by omega, by omega⟩ ⟨by omega, by omega⟩ hRK54m0) (fun v8 m7 hqm7 => ?_))
        obtain ⟨hIm7, hfm7, hvm7⟩ := hqm7
        have hFm7 := zfr_tr hFm0 hfm7 rfl
        obtain ⟨hRK54m7, hvm7⟩ := hvm7
        exact zw_some ⟨hIm7, hFm7, hRK54m7, ⟨by omega, by omega⟩⟩
set_option maxHeartbeats 4000000 in
theorem zk_105 (n : Nat) {a0 : Int} {m0 : zu_m} (hIm0 : zi_I m0) (hc0 : zcls a0 = 28)   (he0 : 1 ≤ m0 a0 8 ∧ m0 a0 8 ≤ 6)  (hRNSm0 : zR_NS m0) (hRWDm0 : zR_WD m0) : zw (zu_call (zt_T n) 105 [(40, a0)] m0) (fun v m => zi_I m ∧ zfr [(28, 5), (28, 6), (28, 8), (28, 9), (28, 10), (28, 11), (28, 12), (28, 18), (28, 19), (28, 20), (28, 21), (28, 22), (28, 23), (28, 24), (28, 43), (28, 46), (28, 47), (28, 48), (28, 49), (28, 50), (28, 51), (102, 0), (103, 0), (104, 0), (105, 0), (106, 0), (107, 0), (108, 0), (109, 0), (110, 0), (111, 0), (112, 0), (113, 0), (114, 0), (115, 0), (116, 0), (117, 0), (118, 0), (119, 0), (120, 0), (121, 0)] m0 m ∧ zR_NS m ∧ zR_WD m ∧ (0 ≤ v ∧ v ≤ 1) ∧ (v = 1 → (m0 a0 7) < (m a0 7))) := by
  have hFm0 : zfr [(28, 5), (28, 6), (28, 8), (28, 9), (28, 10), (28, 11), (28, 12), (28, 18), (28, 19), (28, 20), (28, 21), (28, 22), (28, 23), (28, 24), (28, 43), (28, 46), (28, 47), (28, 48), (28, 49), (28, 50), (28, 51), (102, 0), (103, 0), (104, 0), (105, 0), (106, 0), (107, 0), (108, 0), (109, 0), (110, 0), (111, 0), (112, 0), (113, 0), (114, 0), (115, 0), (116, 0), (117, 0), (118, 0), (119, 0), (120, 0), (121, 0)] m0 m0 := zfr_rf _ _
  have s1 := hRNSm0 a0 hc0
  refine zw_eq (zr_105_0 n a0 m0) ?_
  refine zw_ite (fun h2 => ?_) (fun h2 => ?_)
  · refine zw_bd (zw_eq (zr_85_0 n a0 1 m0) ?_)
    generalize hmm3 : zu_up m0 a0 4 1 = m3
    have hIm3 := zi_up hmm3 hIm0 hc0 zb_28_4 (by omega) (by omega)
    have hFm3 := zfr_up hmm3 hFm0 hc0 rfl
    have hRNSm3 := zR_NS_fr (zdis_fr (zfr_up hmm3 (zfr_rf [(28, 5)] _) hc0 rfl) rfl) hRNSm0
    have hRWDm3 := zR_WD_fr (zdis_fr (zfr_up hmm3 (zfr_rf [(28, 5)] _) hc0 rfl) rfl) hRWDm0
    have r4 : 0 ≤ (m3 a0 10) ∧ (m3 a0 10) ≤ 700 := zi_rd hIm3 hc0 zb_28_10
    generalize hmm5 : zu_up m3 a0 5 (m3 a0 10) = m5
    have hIm5 := zi_up hmm5 hIm3 hc0 zb_28_5 (by omega) (by omega)
    have hFm5 := zfr_up hmm5 hFm3 hc0 rfl
    have hRNSm5 := zR_NS_fr (zdis_fr (zfr_up hmm5 (zfr_rf [(28, 6)] _) hc0 rfl) rfl) hRNSm3
    have hRWDm5 := zR_WD_fr (zdis_fr (zfr_up hmm5 (zfr_rf [(28, 6)] _) hc0 rfl) rfl) hRWDm3
    refine zw_b (by omega) ?_
    refine zw_some ?_
    refine zw_b (by omega) ?_
    have r6 : 0 ≤ (m5 a0 7) ∧ (m5 a0 7) ≤ 700 := zi_rd hIm5 hc0 zb_28_7
    exact zw_some ⟨hIm5, hFm5, hRNSm5, hRWDm5, ⟨by omega, by omega⟩, by omega⟩
  · have r7 : (-2147483648) ≤ (m0 a0 9) ∧ (m0 a0 9) ≤ 2147483647 := zi_rd hIm0 hc0 zb_28_9
    refine zw_ite (fun h8 => ?_) (fun h8 => ?_)
    · refine zw_ite (fun h9 => ?_) (fun h9 => ?_)
      · refine zw_ite (fun h10 => ?_) (fun h10 => ?_)
        · refine zw_ite (fun h11 => ?_) (fun h11 => ?_)
          · refine zw_ite (fun h12 => ?_) (fun h12 => ?_)
            · refine zw_ite (fun h13 => ?_) (fun h13 => ?_)
              · refine zw_bd (zw_mono (zk_104 n hIm0 hc0 ⟨by omega, by omega⟩ hRNSm0 hRWDm0) (fun v15 m14 hqm14 => ?_))
                obtain ⟨hIm14, hfm14, hvm14⟩ := hqm14
                have hFm14 := zfr_tr hFm0 hfm14 rfl
                obtain ⟨hRNSm14, hRWDm14, hvm14⟩ := hvm14
                have s16 := hRNSm14 a0 hc0
                refine zw_ite (fun h17 => ?_) (fun h17 => ?_)
                · refine zw_bd (zw_eq (zr_93_0 n a0 59 m14) ?_)
                  have r18 : 0 ≤ (m14 a0 8) ∧ (m14 a0 8) ≤ 6 := zi_rd hIm14 hc0 zb_28_8
                  refine zw_ite (fun h19 => ?_) (fun h19 => ?_)
                  · refine zw_b (by omega) ?_
                    refine zw_some ?_
                    refine zw_ite (fun h20 => ?_) (fun h20 => ?_)
                    · exfalso; omega
                    · refine zw_bd (zw_eq (zr_85_0 n a0 1 m14) ?_)
                      generalize hmm21 : zu_up m14 a0 4 1 = m21
                      have hIm21 := zi_up hmm21 hIm14 hc0 zb_28_4 (by omega) (by omega)
                      have hFm21 := zfr_up hmm21 hFm14 hc0 rfl
                      have hRNSm21 := zR_NS_fr (zdis_fr (zfr_up hmm21 (zfr_rf [(28, 5)] _) hc0 rfl) rfl) hRNSm14
                      have hRWDm21 := zR_WD_fr (zdis_fr (zfr_up hmm21 (zfr_rf [(28, 5)] _) hc0 rfl) rfl) hRWDm14
                      have r22 : 0 ≤ (m21 a0 10) ∧ (m21 a0 10) ≤ 700 := zi_rd hIm21 hc0 zb_28_10
                      generalize hmm23 : zu_up m21 a0 5 (m21 a0 10) = m23
                      have hIm23 := zi_up hmm23 hIm21 hc0 zb_28_5 (by omega) (by omega)
                      have hFm23 := zfr_up hmm23 hFm21 hc0 rfl
                      have hRNSm23 := zR_NS_fr (zdis_fr (zfr_up hmm23 (zfr_rf [(28, 6)] _) hc0 rfl) rfl) hRNSm21
                      have hRWDm23 := zR_WD_fr (zdis_fr (zfr_up hmm23 (zfr_rf [(28, 6)] _) hc0 rfl) rfl) hRWDm21
                      refine zw_b (by omega) ?_
                      refine zw_some ?_
                      refine zw_b (by omega) ?_
                      have r24 : 0 ≤ (m23 a0 7) ∧ (m23 a0 7) ≤ 700 := zi_rd hIm23 hc0 zb_28_7
                      exact zw_some ⟨hIm23, hFm23, hRNSm23, hRWDm23, ⟨by omega, by omega⟩, by omega⟩
                  · have r25 : (-2147483648) ≤ (m14 a0 9) ∧ (m14 a0 9) ≤ 2147483647 := zi_rd hIm14 hc0 zb_28_9
                    refine zw_ite (fun h26 => ?_) (fun h26 => ?_)
                    · refine zw_b (by omega) ?_
                      refine zw_some ?_
                      refine zw_ite (fun h27 => ?_) (fun h27 => ?_)
                      · exfalso; omega
                      · refine zw_bd (zw_eq (zr_85_0 n a0 1 m14) ?_)
                        generalize hmm28 : zu_up m14 a0 4 1 = m28
                        have hIm28 := zi_up hmm28 hIm14 hc0 zb_28_4 (by omega) (by omega)
                        have hFm28 := zfr_up hmm28 hFm14 hc0 rfl
                        have hRNSm28 := zR_NS_fr (zdis_fr (zfr_up hmm28 (zfr_rf [(28, 5)] _) hc0 rfl) rfl) hRNSm14
                        have hRWDm28 := zR_WD_fr (zdis_fr (zfr_up hmm28 (zfr_rf [(28, 5)] _) hc0 rfl) rfl) hRWDm14
                        have r29 : 0 ≤ (m28 a0 10) ∧ (m28 a0 10) ≤ 700 := zi_rd hIm28 hc0 zb_28_10
                        generalize hmm30 : zu_up m28 a0 5 (m28 a0 10) = m30
                        have hIm30 := zi_up hmm30 hIm28 hc0 zb_28_5 (by omega) (by omega)
                        have hFm30 := zfr_up hmm30 hFm28 hc0 rfl
                        have hRNSm30 := zR_NS_fr (zdis_fr (zfr_up hmm30 (zfr_rf [(28, 6)] _) hc0 rfl) rfl) hRNSm28
                        have hRWDm30 := zR_WD_fr (zdis_fr (zfr_up hmm30 (zfr_rf [(28, 6)] _) hc0 rfl) rfl) hRWDm28
                        refine zw_b (by omega) ?_
                        refine zw_some ?_
                        refine zw_b (by omega) ?_
                        have r31 : 0 ≤ (m30 a0 7) ∧ (m30 a0 7) ≤ 700 := zi_rd hIm30 hc0 zb_28_7
                        exact zw_some ⟨hIm30, hFm30, hRNSm30, hRWDm30, ⟨by omega, by omega⟩, by omega⟩
                    · refine zw_b (by omega) ?_
                      refine zw_some ?_
                      refine zw_ite (fun h32 => ?_) (fun h32 => ?_)
                      · refine zw_bd (zw_mono (zk_89 n hIm14 hc0 hRNSm14 hRWDm14) (fun v34 m33 hqm33 => ?_))
                        obtain ⟨hIm33, hfm33, hvm33⟩ := hqm33
                        have hFm33 := zfr_tr hFm14 hfm33 rfl
                        obtain ⟨hRNSm33, hRWDm33, hvm33⟩ := hvm33
                        have s35 := hRNSm33 a0 hc0
                        refine zw_b (by omega) ?_
                        have r36 : 0 ≤ (m33 a0 7) ∧ (m33 a0 7) ≤ 700 := zi_rd hIm33 hc0 zb_28_7
                        exact zw_some ⟨hIm33, hFm33, hRNSm33, hRWDm33, ⟨by omega, by omega⟩, by omega⟩
                      · exfalso; omega
                · refine zw_b (by omega) ?_
                  have r37 : 0 ≤ (m14 a0 7) ∧ (m14 a0 7) ≤ 700 := zi_rd hIm14 hc0 zb_28_7
                  exact zw_some ⟨hIm14, hFm14, hRNSm14, hRWDm14, ⟨by omega, by omega⟩, by omega⟩
              · refine zw_bd (zw_mono (zk_103 n hIm0 hc0 ⟨by omega, by omega⟩ ⟨by omega, by omega⟩ hRNSm0 hRWDm0) (fun v39 m38 hqm38 => ?_))
                obtain ⟨hIm38, hfm38, hvm38⟩ := hqm38
                have hFm38 := zfr_tr hFm0 hfm38 rfl
                obtain ⟨hRNSm38, hRWDm38, hvm38⟩ := hvm38
                have s40 := hRNSm38 a0 hc0
                refine zw_ite (fun h41 => ?_) (fun h41 => ?_)
                · refine zw_bd (zw_eq (zr_93_0 n a0 59 m38) ?_)
                  have r42 : 0 ≤ (m38 a0 8) ∧ (m38 a0 8) ≤ 6 := zi_rd hIm38 hc0 zb_28_8
                  refine zw_ite (fun h43 => ?_) (fun h43 => ?_)
                  · refine zw_b (by omega) ?_
                    refine zw_some ?_
                    refine zw_ite (fun h44 => ?_) (fun h44 => ?_)
                    · exfalso; omega
                    · refine zw_bd (zw_eq (zr_85_0 n a0 1 m38) ?_)
                      generalize hmm45 : zu_up m38 a0 4 1 = m45
                      have hIm45 := zi_up hmm45 hIm38 hc0 zb_28_4 (by omega) (by omega)
                      have hFm45 := zfr_up hmm45 hFm38 hc0 rfl
                      have hRNSm45 := zR_NS_fr (zdis_fr (zfr_up hmm45 (zfr_rf [(28, 5)] _) hc0 rfl) rfl) hRNSm38
                      have hRWDm45 := zR_WD_fr (zdis_fr (zfr_up hmm45 (zfr_rf [(28, 5)] _) hc0 rfl) rfl) hRWDm38
                      have r46 : 0 ≤ (m45 a0 10) ∧ (m45 a0 10) ≤ 700 := zi_rd hIm45 hc0 zb_28_10
                      generalize hmm47 : zu_up m45 a0 5 (m45 a0 10) = m47
                      have hIm47 := zi_up hmm47 hIm45 hc0 zb_28_5 (by omega) (by omega)
                      have hFm47 := zfr_up hmm47 hFm45 hc0 rfl
                      have hRNSm47 := zR_NS_fr (zdis_fr (zfr_up hmm47 (zfr_rf [(28, 6)] _) hc0 rfl) rfl) hRNSm45
                      have hRWDm47 := zR_WD_fr (zdis_fr (zfr_up hmm47 (zfr_rf [(28, 6)] _) hc0 rfl) rfl) hRWDm45
                      refine zw_b (by omega) ?_
                      refine zw_some ?_
                      refine zw_b (by omega) ?_
                      have r48 : 0 ≤ (m47 a0 7) ∧ (m47 a0 7) ≤ 700 := zi_rd hIm47 hc0 zb_28_7
                      exact zw_some ⟨hIm47, hFm47, hRNSm47, hRWDm47, ⟨by omega, by omega⟩, by omega⟩
                  · have r49 : (-2147483648) ≤ (m38 a0 9) ∧ (m38 a0 9) ≤ 2147483647 := zi_rd hIm38 hc0 zb_28_9
                    refine zw_ite (fun h50 => ?_) (fun h50 => ?_)
                    · refine zw_b (by omega) ?_
                      refine zw_some ?_
                      refine zw_ite (fun h51 => ?_) (fun h51 => ?_)
                      · exfalso; omega
                      · refine zw_bd (zw_eq (zr_85_0 n a0 1 m38) ?_)
                        generalize hmm52 : zu_up m38 a0 4 1 = m52
                        have hIm52 := zi_up hmm52 hIm38 hc0 zb_28_4 (by omega) (by omega)
                        have hFm52 := zfr_up hmm52 hFm38 hc0 rfl
                        have hRNSm52 := zR_NS_fr (zdis_fr (zfr_up hmm52 (zfr_rf [(28, 5)] _) hc0 rfl) rfl) hRNSm38
                        have hRWDm52 := zR_WD_fr (zdis_fr (zfr_up hmm52 (zfr_rf [(28, 5)] _) hc0 rfl) rfl) hRWDm38
                        have r53 : 0 ≤ (m52 a0 10) ∧ (m52 a0 10) ≤ 700 := zi_rd hIm52 hc0 zb_28_10
                        generalize hmm54 : zu_up m52 a0 5 (m52 a0 10) = m54
                        have hIm54 := zi_up hmm54 hIm52 hc0 zb_28_5 (by omega) (by omega)
                        have hFm54 := zfr_up hmm54 hFm52 hc0 rfl
                        have hRNSm54 := zR_NS_fr (zdis_fr (zfr_up hmm54 (zfr_rf [(28, 6)] _) hc0 rfl) rfl) hRNSm52
                        have hRWDm54 := zR_WD_fr (zdis_fr (zfr_up hmm54 (zfr_rf [(28, 6)] _) hc0 rfl) rfl) hRWDm52
                        refine zw_b (by omega) ?_
                        refine zw_some ?_
                        refine zw_b (by omega) ?_
                        have r55 : 0 ≤ (m54 a0 7) ∧ (m54 a0 7) ≤ 700 := zi_rd hIm54 hc0 zb_28_7
                        exact zw_some ⟨hIm54, hFm54, hRNSm54, hRWDm54, ⟨by omega, by omega⟩, by omega⟩
                    · refine zw_b (by omega) ?_
                      refine zw_some ?_
                      refine zw_ite (fun h56 => ?_) (fun h56 => ?_)
                      · refine zw_bd (zw_mono (zk_89 n hIm38 hc0 hRNSm38 hRWDm38) (fun v58 m57 hqm57 => ?_))
                        obtain ⟨hIm57, hfm57, hvm57⟩ := hqm57
                        have hFm57 := zfr_tr hFm38 hfm57 rfl
                        obtain ⟨hRNSm57, hRWDm57, hvm57⟩ := hvm57
                        have s59 := hRNSm57 a0 hc0
                        refine zw_b (by omega) ?_
                        have r60 : 0 ≤ (m57 a0 7) ∧ (m57 a0 7) ≤ 700 := zi_rd hIm57 hc0 zb_28_7
                        exact zw_some ⟨hIm57, hFm57, hRNSm57, hRWDm57, ⟨by omega, by omega⟩, by omega⟩
                      · exfalso; omega
                · refine zw_b (by omega) ?_
                  have r61 : 0 ≤ (m38 a0 7) ∧ (m38 a0 7) ≤ 700 := zi_rd hIm38 hc0 zb_28_7
                  exact zw_some ⟨hIm38, hFm38, hRNSm38, hRWDm38, ⟨by omega, by omega⟩, by omega⟩
            · refine zw_bd (zw_mono (zk_102 n hIm0 hc0 ⟨by omega, by omega⟩ ⟨by omega, by omega⟩ hRNSm0 hRWDm0) (fun v63 m62 hqm62 => ?_))
              obtain ⟨hIm62, hfm62, hvm62⟩ := hqm62
              have hFm62 := zfr_tr hFm0 hfm62 rfl
              obtain ⟨hRNSm62, hRWDm62, hvm62⟩ := hvm62
              have s64 := hRNSm62 a0 hc0
              refine zw_ite (fun h65 => ?_) (fun h65 => ?_)
              · refine zw_bd (zw_eq (zr_93_0 n a0 59 m62) ?_)
                have r66 : 0 ≤ (m62 a0 8) ∧ (m62 a0 8) ≤ 6 := zi_rd hIm62 hc0 zb_28_8
                refine zw_ite (fun h67 => ?_) (fun h67 => ?_)
                · refine zw_b (by omega) ?_
                  refine zw_some ?_
                  refine zw_ite (fun h68 => ?_) (fun h68 => ?_)
                  · exfalso; omega
                  · refine zw_bd (zw_eq (zr_85_0 n a0 1 m62) ?_)
                    generalize hmm69 : zu_up m62 a0 4 1 = m69
                    have hIm69 := zi_up hmm69 hIm62 hc0 zb_28_4 (by omega) (by omega)
                    have hFm69 := zfr_up hmm69 hFm62 hc0 rfl
                    have hRNSm69 := zR_NS_fr (zdis_fr (zfr_up hmm69 (zfr_rf [(28, 5)] _) hc0 rfl) rfl) hRNSm62
                    have hRWDm69 := zR_WD_fr (zdis_fr (zfr_up hmm69 (zfr_rf [(28, 5)] _) hc0 rfl) rfl) hRWDm62
                    have r70 : 0 ≤ (m69 a0 10) ∧ (m69 a0 10) ≤ 700 := zi_rd hIm69 hc0 zb_28_10
                    generalize hmm71 : zu_up m69 a0 5 (m69 a0 10) = m71
                    have hIm71 := zi_up hmm71 hIm69 hc0 zb_28_5 (by omega) (by omega)
                    have hFm71 := zfr_up hmm71 hFm69 hc0 rfl
                    have hRNSm71 := zR_NS_fr (zdis_fr (zfr_up hmm71 (zfr_rf [(28, 6)] _) hc0 rfl) rfl) hRNSm69
                    have hRWDm71 := zR_WD_fr (zdis_fr (zfr_up hmm71 (zfr_rf [(28, 6)] _) hc0 rfl) rfl) hRWDm69
                    refine zw_b (by omega) ?_
                    refine zw_some ?_
                    refine zw_b (by omega) ?_
                    have r72 : 0 ≤ (m71 a0 7) ∧ (m71 a0 7) ≤ 700 := zi_rd hIm71 hc0 zb_28_7
                    exact zw_some ⟨hIm71, hFm71, hRNSm71, hRWDm71, ⟨by omega, by omega⟩, by omega⟩
                · have r73 : (-2147483648) ≤ (m62 a0 9) ∧ (m62 a0 9) ≤ 2147483647 := zi_rd hIm62 hc0 zb_28_9
                  refine zw_ite (fun h74 => ?_) (fun h74 => ?_)
                  · refine zw_b (by omega) ?_
                    refine zw_some ?_
                    refine zw_ite (fun h75 => ?_) (fun h75 => ?_)
                    · exfalso; omega
                    · refine zw_bd (zw_eq (zr_85_0 n a0 1 m62) ?_)
                      generalize hmm76 : zu_up m62 a0 4 1 = m76
                      have hIm76 := zi_up hmm76 hIm62 hc0 zb_28_4 (by omega) (by omega)
                      have hFm76 := zfr_up hmm76 hFm62 hc0 rfl
                      have hRNSm76 := zR_NS_fr (zdis_fr (zfr_up hmm76 (zfr_rf [(28, 5)] _) hc0 rfl) rfl) hRNSm62
                      have hRWDm76 := zR_WD_fr (zdis_fr (zfr_up hmm76 (zfr_rf [(28, 5)] _) hc0 rfl) rfl) hRWDm62
                      have r77 : 0 ≤ (m76 a0 10) ∧ (m76 a0 10) ≤ 700 := zi_rd hIm76 hc0 zb_28_10
                      generalize hmm78 : zu_up m76 a0 5 (m76 a0 10) = m78
                      have hIm78 := zi_up hmm78 hIm76 hc0 zb_28_5 (by omega) (by omega)
                      have hFm78 := zfr_up hmm78 hFm76 hc0 rfl
                      have hRNSm78 := zR_NS_fr (zdis_fr (zfr_up hmm78 (zfr_rf [(28, 6)] _) hc0 rfl) rfl) hRNSm76
                      have hRWDm78 := zR_WD_fr (zdis_fr (zfr_up hmm78 (zfr_rf [(28, 6)] _) hc0 rfl) rfl) hRWDm76
                      refine zw_b (by omega) ?_
                      refine zw_some ?_
                      refine zw_b (by omega) ?_
                      have r79 : 0 ≤ (m78 a0 7) ∧ (m78 a0 7) ≤ 700 := zi_rd hIm78 hc0 zb_28_7
                      exact zw_some ⟨hIm78, hFm78, hRNSm78, hRWDm78, ⟨by omega, by omega⟩, by omega⟩
                  · refine zw_b (by omega) ?_
                    refine zw_some ?_
                    refine zw_ite (fun h80 => ?_) (fun h80 => ?_)
                    · refine zw_bd (zw_mono (zk_89 n hIm62 hc0 hRNSm62 hRWDm62) (fun v82 m81 hqm81 => ?_))
                      obtain ⟨hIm81, hfm81, hvm81⟩ := hqm81
                      have hFm81 := zfr_tr hFm62 hfm81 rfl
                      obtain ⟨hRNSm81, hRWDm81, hvm81⟩ := hvm81
                      have s83 := hRNSm81 a0 hc0
                      refine zw_b (by omega) ?_
                      have r84 : 0 ≤ (m81 a0 7) ∧ (m81 a0 7) ≤ 700 := zi_rd hIm81 hc0 zb_28_7
                      exact zw_some ⟨hIm81, hFm81, hRNSm81, hRWDm81, ⟨by omega, by omega⟩, by omega⟩
                    · exfalso; omega
              · refine zw_b (by omega) ?_
                have r85 : 0 ≤ (m62 a0 7) ∧ (m62 a0 7) ≤ 700 := zi_rd hIm62 hc0 zb_28_7
                exact zw_some ⟨hIm62, hFm62, hRNSm62, hRWDm62, ⟨by omega, by omega⟩, by omega⟩
          · refine zw_bd (zw_mono (zk_101 n hIm0 hc0 ⟨by omega, by omega⟩ ⟨by omega, by omega⟩ hRNSm0 hRWDm0) (fun v87 m86 hqm86 => ?_))
            obtain ⟨hIm86, hfm86, hvm86⟩ := hqm86
            have hFm86 := zfr_tr hFm0 hfm86 rfl
            obtain ⟨hRNSm86, hRWDm86, hvm86⟩ := hvm86
            have s88 := hRNSm86 a0 hc0
            refine zw_ite (fun h89 => ?_) (fun h89 => ?_)
            · refine zw_bd (zw_eq (zr_93_0 n a0 59 m86) ?_)
              have r90 : 0 ≤ (m86 a0 8) ∧ (m86 a0 8) ≤ 6 := zi_rd hIm86 hc0 zb_28_8
              refine zw_ite (fun h91 => ?_) (fun h91 => ?_)
              · refine zw_b (by omega) ?_
                refine zw_some ?_
                refine zw_ite (fun h92 => ?_) (fun h92 => ?_)
                · exfalso; omega
                · refine zw_bd (zw_eq (zr_85_0 n a0 1 m86) ?_)
                  generalize hmm93 : zu_up m86 a0 4 1 = m93
                  have hIm93 := zi_up hmm93 hIm86 hc0 zb_28_4 (by omega) (by omega)
                  have hFm93 := zfr_up hmm93 hFm86 hc0 rfl
                  have hRNSm93 := zR_NS_fr (zdis_fr (zfr_up hmm93 (zfr_rf [(28, 5)] _) hc0 rfl) rfl) hRNSm86
                  have hRWDm93 := zR_WD_fr (zdis_fr (zfr_up hmm93 (zfr_rf [(28, 5)] _) hc0 rfl) rfl) hRWDm86
                  have r94 : 0 ≤ (m93 a0 10) ∧ (m93 a0 10) ≤ 700 := zi_rd hIm93 hc0 zb_28_10
                  generalize hmm95 : zu_up m93 a0 5 (m93 a0 10) = m95
                  have hIm95 := zi_up hmm95 hIm93 hc0 zb_28_5 (by omega) (by omega)
                  have hFm95 := zfr_up hmm95 hFm93 hc0 rfl
                  have hRNSm95 := zR_NS_fr (zdis_fr (zfr_up hmm95 (zfr_rf [(28, 6)] _) hc0 rfl) rfl) hRNSm93
                  have hRWDm95 := zR_WD_fr (zdis_fr (zfr_up hmm95 (zfr_rf [(28, 6)] _) hc0 rfl) rfl) hRWDm93
                  refine zw_b (by omega) ?_
                  refine zw_some ?_
                  refine zw_b (by omega) ?_
                  have r96 : 0 ≤ (m95 a0 7) ∧ (m95 a0 7) ≤ 700 := zi_rd hIm95 hc0 zb_28_7
                  exact zw_some ⟨hIm95, hFm95, hRNSm95, hRWDm95, ⟨by omega, by omega⟩, by omega⟩
              · have r97 : (-2147483648) ≤ (m86 a0 9) ∧ (m86 a0 9) ≤ 2147483647 := zi_rd hIm86 hc0 zb_28_9
                refine zw_ite (fun h98 => ?_) (fun h98 => ?_)
                · refine zw_b (by omega) ?_
                  refine zw_some ?_
                  refine zw_ite (fun h99 => ?_) (fun h99 => ?_)
                  · exfalso; omega
                  · refine zw_bd (zw_eq (zr_85_0 n a0 1 m86) ?_)
                    generalize hmm100 : zu_up m86 a0 4 1 = m100
                    have hIm100 := zi_up hmm100 hIm86 hc0 zb_28_4 (by omega) (by omega)
                    have hFm100 := zfr_up hmm100 hFm86 hc0 rfl
                    have hRNSm100 := zR_NS_fr (zdis_fr (zfr_up hmm100 (zfr_rf [(28, 5)] _) hc0 rfl) rfl) hRNSm86
                    have hRWDm100 := zR_WD_fr (zdis_fr (zfr_up hmm100 (zfr_rf [(28, 5)] _) hc0 rfl) rfl) hRWDm86
                    have r101 : 0 ≤ (m100 a0 10) ∧ (m100 a0 10) ≤ 700 := zi_rd hIm100 hc0 zb_28_10
                    generalize hmm102 : zu_up m100 a0 5 (m100 a0 10) = m102
                    have hIm102 := zi_up hmm102 hIm100 hc0 zb_28_5 (by omega) (by omega)
                    have hFm102 := zfr_up hmm102 hFm100 hc0 rfl
                    have hRNSm102 := zR_NS_fr (zdis_fr (zfr_up hmm102 (zfr_rf [(28, 6)] _) hc0 rfl) rfl) hRNSm100
                    have hRWDm102 := zR_WD_fr (zdis_fr (zfr_up hmm102 (zfr_rf [(28, 6)] _) hc0 rfl) rfl) hRWDm100
                    refine zw_b (by omega) ?_
                    refine zw_some ?_
                    refine zw_b (by omega) ?_
                    have r103 : 0 ≤ (m102 a0 7) ∧ (m102 a0 7) ≤ 700 := zi_rd hIm102 hc0 zb_28_7
                    exact zw_some ⟨hIm102, hFm102, hRNSm102, hRWDm102, ⟨by omega, by omega⟩, by omega⟩
                · refine zw_b (by omega) ?_
                  refine zw_some ?_
                  refine zw_ite (fun h104 => ?_) (fun h104 => ?_)
                  · refine zw_bd (zw_mono (zk_89 n hIm86 hc0 hRNSm86 hRWDm86) (fun v106 m105 hqm105 => ?_))
                    obtain ⟨hIm105, hfm105, hvm105⟩ := hqm105
                    have hFm105 := zfr_tr hFm86 hfm105 rfl
                    obtain ⟨hRNSm105, hRWDm105, hvm105⟩ := hvm105
                    have s107 := hRNSm105 a0 hc0
                    refine zw_b (by omega) ?_
                    have r108 : 0 ≤ (m105 a0 7) ∧ (m105 a0 7) ≤ 700 := zi_rd hIm105 hc0 zb_28_7
                    exact zw_some ⟨hIm105, hFm105, hRNSm105, hRWDm105, ⟨by omega, by omega⟩, by omega⟩
                  · exfalso; omega
            · refine zw_b (by omega) ?_
              have r109 : 0 ≤ (m86 a0 7) ∧ (m86 a0 7) ≤ 700 := zi_rd hIm86 hc0 zb_28_7
              exact zw_some ⟨hIm86, hFm86, hRNSm86, hRWDm86, ⟨by omega, by omega⟩, by omega⟩
        · have w110 := zu_w32_rg ((m0 a0 9) - 1)
          have w111 := zu_w32_rg ((zu_w32 ((m0 a0 9) - 1)) + 1)
          refine zw_bd (zw_mono (zk_100 n hIm0 hc0 ⟨by omega, by omega⟩ ⟨by omega, by omega⟩ ⟨by omega, by omega⟩ hRNSm0 hRWDm0) (fun v113 m112 hqm112 => ?_))
          obtain ⟨hIm112, hfm112, hvm112⟩ := hqm112
          have hFm112 := zfr_tr hFm0 hfm112 rfl
          obtain ⟨hRNSm112, hRWDm112, hvm112⟩ := hvm112
          have s114 := hRNSm112 a0 hc0
          refine zw_ite (fun h115 => ?_) (fun h115 => ?_)
          · refine zw_bd (zw_eq (zr_93_0 n a0 59 m112) ?_)
            have r116 : 0 ≤ (m112 a0 8) ∧ (m112 a0 8) ≤ 6 := zi_rd hIm112 hc0 zb_28_8
            refine zw_ite (fun h117 => ?_) (fun h117 => ?_)
            · refine zw_b (by omega) ?_
              refine zw_some ?_
              refine zw_ite (fun h118 => ?_) (fun h118 => ?_)
              · exfalso; omega
              · refine zw_bd (zw_eq (zr_85_0 n a0 1 m112) ?_)
                generalize hmm119 : zu_up m112 a0 4 1 = m119
                have hIm119 := zi_up hmm119 hIm112 hc0 zb_28_4 (by omega) (by omega)
                have hFm119 := zfr_up hmm119 hFm112 hc0 rfl
                have hRNSm119 := zR_NS_fr (zdis_fr (zfr_up hmm119 (zfr_rf [(28, 5)] _) hc0 rfl) rfl) hRNSm112
                have hRWDm119 := zR_WD_fr (zdis_fr (zfr_up hmm119 (zfr_rf [(28, 5)] _) hc0 rfl) rfl) hRWDm112
                have r120 : 0 ≤ (m119 a0 10) ∧ (m119 a0 10) ≤ 700 := zi_rd hIm119 hc0 zb_28_10
                generalize hmm121 : zu_up m119 a0 5 (m119 a0 10) = m121
                have hIm121 := zi_up hmm121 hIm119 hc0 zb_28_5 (by omega) (by omega)
                have hFm121 := zfr_up hmm121 hFm119 hc0 rfl
                have hRNSm121 := zR_NS_fr (zdis_fr (zfr_up hmm121 (zfr_rf [(28, 6)] _) hc0 rfl) rfl) hRNSm119
                have hRWDm121 := zR_WD_fr (zdis_fr (zfr_up hmm121 (zfr_rf [(28, 6)] _) hc0 rfl) rfl) hRWDm119
                refine zw_b (by omega) ?_
                refine zw_some ?_
                refine zw_b (by omega) ?_
                have r122 : 0 ≤ (m121 a0 7) ∧ (m121 a0 7) ≤ 700 := zi_rd hIm121 hc0 zb_28_7
                exact zw_some ⟨hIm121, hFm121, hRNSm121, hRWDm121, ⟨by omega, by omega⟩, by omega⟩
            · have r123 : (-2147483648) ≤ (m112 a0 9) ∧ (m112 a0 9) ≤ 2147483647 := zi_rd hIm112 hc0 zb_28_9
              refine zw_ite (fun h124 => ?_) (fun h124 => ?_)
              · refine zw_b (by omega) ?_
                refine zw_some ?_
                refine zw_ite (fun h125 => ?_) (fun h125 => ?_)
                · exfalso; omega
                · refine zw_bd (zw_eq (zr_85_0 n a0 1 m112) ?_)
                  generalize hmm126 : zu_up m112 a0 4 1 = m126
                  have hIm126 := zi_up hmm126 hIm112 hc0 zb_28_4 (by omega) (by omega)
                  have hFm126 := zfr_up hmm126 hFm112 hc0 rfl
                  have hRNSm126 := zR_NS_fr (zdis_fr (zfr_up hmm126 (zfr_rf [(28, 5)] _) hc0 rfl) rfl) hRNSm112
                  have hRWDm126 := zR_WD_fr (zdis_fr (zfr_up hmm126 (zfr_rf [(28, 5)] _) hc0 rfl) rfl) hRWDm112
                  have r127 : 0 ≤ (m126 a0 10) ∧ (m126 a0 10) ≤ 700 := zi_rd hIm126 hc0 zb_28_10
                  generalize hmm128 : zu_up m126 a0 5 (m126 a0 10) = m128
                  have hIm128 := zi_up hmm128 hIm126 hc0 zb_28_5 (by omega) (by omega)
                  have hFm128 := zfr_up hmm128 hFm126 hc0 rfl
                  have hRNSm128 := zR_NS_fr (zdis_fr (zfr_up hmm128 (zfr_rf [(28, 6)] _) hc0 rfl) rfl) hRNSm126
                  have hRWDm128 := zR_WD_fr (zdis_fr (zfr_up hmm128 (zfr_rf [(28, 6)] _) hc0 rfl) rfl) hRWDm126
                  refine zw_b (by omega) ?_
                  refine zw_some ?_
                  refine zw_b (by omega) ?_
                  have r129 : 0 ≤ (m128 a0 7) ∧ (m128 a0 7) ≤ 700 := zi_rd hIm128 hc0 zb_28_7
                  exact zw_some ⟨hIm128, hFm128, hRNSm128, hRWDm128, ⟨by omega, by omega⟩, by omega⟩
              · refine zw_b (by omega) ?_
                refine zw_some ?_
                refine zw_ite (fun h130 => ?_) (fun h130 => ?_)
                · refine zw_bd (zw_mono (zk_89 n hIm112 hc0 hRNSm112 hRWDm112) (fun v132 m131 hqm131 => ?_))
                  obtain ⟨hIm131, hfm131, hvm131⟩ := hqm131
                  have hFm131 := zfr_tr hFm112 hfm131 rfl
                  obtain ⟨hRNSm131, hRWDm131, hvm131⟩ := hvm131
                  have s133 := hRNSm131 a0 hc0
                  refine zw_b (by omega) ?_
                  have r134 : 0 ≤ (m131 a0 7) ∧ (m131 a0 7) ≤ 700 := zi_rd hIm131 hc0 zb_28_7
                  exact zw_some ⟨hIm131, hFm131, hRNSm131, hRWDm131, ⟨by omega, by omega⟩, by omega⟩
                · exfalso; omega
          · refine zw_b (by omega) ?_
            have r135 : 0 ≤ (m112 a0 7) ∧ (m112 a0 7) ≤ 700 := zi_rd hIm112 hc0 zb_28_7
            exact zw_some ⟨hIm112, hFm112, hRNSm112, hRWDm112, ⟨by omega, by omega⟩, by omega⟩
      · refine zw_bd (zw_mono (zk_99 n hIm0 hc0 hRNSm0 hRWDm0) (fun v137 m136 hqm136 => ?_))
        obtain ⟨hIm136, hfm136, hvm136⟩ := hqm136
        have hFm136 := zfr_tr hFm0 hfm136 rfl
        obtain ⟨hRNSm136, hRWDm136, hvm136⟩ := hvm136
        have s138 := hRNSm136 a0 hc0
        refine zw_ite (fun h139 => ?_) (fun h139 => ?_)
        · refine zw_bd (zw_eq (zr_93_0 n a0 59 m136) ?_)
          have r140 : 0 ≤ (m136 a0 8) ∧ (m136 a0 8) ≤ 6 := zi_rd hIm136 hc0 zb_28_8
          refine zw_ite (fun h141 => ?_) (fun h141 => ?_)
          · refine zw_b (by omega) ?_
            refine zw_some ?_
            refine zw_ite (fun h142 => ?_) (fun h142 => ?_)
            · exfalso; omega
            · refine zw_bd (zw_eq (zr_85_0 n a0 1 m136) ?_)
              generalize hmm143 : zu_up m136 a0 4 1 = m143
              have hIm143 := zi_up hmm143 hIm136 hc0 zb_28_4 (by omega) (by omega)
              have hFm143 := zfr_up hmm143 hFm136 hc0 rfl
              have hRNSm143 := zR_NS_fr (zdis_fr (zfr_up hmm143 (zfr_rf [(28, 5)] _) hc0 rfl) rfl) hRNSm136
              have hRWDm143 := zR_WD_fr (zdis_fr (zfr_up hmm143 (zfr_rf [(28, 5)] _) hc0 rfl) rfl) hRWDm136
              have r144 : 0 ≤ (m143 a0 10) ∧ (m143 a0 10) ≤ 700 := zi_rd hIm143 hc0 zb_28_10
              generalize hmm145 : zu_up m143 a0 5 (m143 a0 10) = m145
              have hIm145 := zi_up hmm145 hIm143 hc0 zb_28_5 (by omega) (by omega)
              have hFm145 := zfr_up hmm145 hFm143 hc0 rfl
              have hRNSm145 := zR_NS_fr (zdis_fr (zfr_up hmm145 (zfr_rf [(28, 6)] _) hc0 rfl) rfl) hRNSm143
              have hRWDm145 := zR_WD_fr (zdis_fr (zfr_up hmm145 (zfr_rf [(28, 6)] _) hc0 rfl) rfl) hRWDm143
              refine zw_b (by omega) ?_
              refine zw_some ?_
              refine zw_b (by omega) ?_
              have r146 : 0 ≤ (m145 a0 7) ∧ (m145 a0 7) ≤ 700 := zi_rd hIm145 hc0 zb_28_7
              exact zw_some ⟨hIm145, hFm145, hRNSm145, hRWDm145, ⟨by omega, by omega⟩, by omega⟩
          · have r147 : (-2147483648) ≤ (m136 a0 9) ∧ (m136 a0 9) ≤ 2147483647 := zi_rd hIm136 hc0 zb_28_9
            refine zw_ite (fun h148 => ?_) (fun h148 => ?_)
            · refine zw_b (by omega) ?_
              refine zw_some ?_
              refine zw_ite (fun h149 => ?_) (fun h149 => ?_)
              · exfalso; omega
              · refine zw_bd (zw_eq (zr_85_0 n a0 1 m136) ?_)
                generalize hmm150 : zu_up m136 a0 4 1 = m150
                have hIm150 := zi_up hmm150 hIm136 hc0 zb_28_4 (by omega) (by omega)
                have hFm150 := zfr_up hmm150 hFm136 hc0 rfl
                have hRNSm150 := zR_NS_fr (zdis_fr (zfr_up hmm150 (zfr_rf [(28, 5)] _) hc0 rfl) rfl) hRNSm136
                have hRWDm150 := zR_WD_fr (zdis_fr (zfr_up hmm150 (zfr_rf [(28, 5)] _) hc0 rfl) rfl) hRWDm136
                have r151 : 0 ≤ (m150 a0 10) ∧ (m150 a0 10) ≤ 700 := zi_rd hIm150 hc0 zb_28_10
                generalize hmm152 : zu_up m150 a0 5 (m150 a0 10) = m152
                have hIm152 := zi_up hmm152 hIm150 hc0 zb_28_5 (by omega) (by omega)
                have hFm152 := zfr_up hmm152 hFm150 hc0 rfl
                have hRNSm152 := zR_NS_fr (zdis_fr (zfr_up hmm152 (zfr_rf [(28, 6)] _) hc0 rfl) rfl) hRNSm150
                have hRWDm152 := zR_WD_fr (zdis_fr (zfr_up hmm152 (zfr_rf [(28, 6)] _) hc0 rfl) rfl) hRWDm150
                refine zw_b (by omega) ?_
                refine zw_some ?_
                refine zw_b (by omega) ?_
                have r153 : 0 ≤ (m152 a0 7) ∧ (m152 a0 7) ≤ 700 := zi_rd hIm152 hc0 zb_28_7
                exact zw_some ⟨hIm152, hFm152, hRNSm152, hRWDm152, ⟨by omega, by omega⟩, by omega⟩
            · refine zw_b (by omega) ?_
              refine zw_some ?_
              refine zw_ite (fun h154 => ?_) (fun h154 => ?_)
              · refine zw_bd (zw_mono (zk_89 n hIm136 hc0 hRNSm136 hRWDm136) (fun v156 m155 hqm155 => ?_))
                obtain ⟨hIm155, hfm155, hvm155⟩ := hqm155
                have hFm155 := zfr_tr hFm136 hfm155 rfl
                obtain ⟨hRNSm155, hRWDm155, hvm155⟩ := hvm155
                have s157 := hRNSm155 a0 hc0
                refine zw_b (by omega) ?_
                have r158 : 0 ≤ (m155 a0 7) ∧ (m155 a0 7) ≤ 700 := zi_rd hIm155 hc0 zb_28_7
                exact zw_some ⟨hIm155, hFm155, hRNSm155, hRWDm155, ⟨by omega, by omega⟩, by omega⟩
              · exfalso; omega
        · refine zw_b (by omega) ?_
          have r159 : 0 ≤ (m136 a0 7) ∧ (m136 a0 7) ≤ 700 := zi_rd hIm136 hc0 zb_28_7
          exact zw_some ⟨hIm136, hFm136, hRNSm136, hRWDm136, ⟨by omega, by omega⟩, by omega⟩
    · refine zw_bd (zw_eq (zr_85_0 n a0 1 m0) ?_)
      generalize hmm160 : zu_up m0 a0 4 1 = m160
      have hIm160 := zi_up hmm160 hIm0 hc0 zb_28_4 (by omega) (by omega)
      have hFm160 := zfr_up hmm160 hFm0 hc0 rfl
      have hRNSm160 := zR_NS_fr (zdis_fr (zfr_up hmm160 (zfr_rf [(28, 5)] _) hc0 rfl) rfl) hRNSm0
      have hRWDm160 := zR_WD_fr (zdis_fr (zfr_up hmm160 (zfr_rf [(28, 5)] _) hc0 rfl) rfl) hRWDm0
      have r161 : 0 ≤ (m160 a0 10) ∧ (m160 a0 10) ≤ 700 := zi_rd hIm160 hc0 zb_28_10
      generalize hmm162 : zu_up m160 a0 5 (m160 a0 10) = m162
      have hIm162 := zi_up hmm162 hIm160 hc0 zb_28_5 (by omega) (by omega)
      have hFm162 := zfr_up hmm162 hFm160 hc0 rfl
      have hRNSm162 := zR_NS_fr (zdis_fr (zfr_up hmm162 (zfr_rf [(28, 6)] _) hc0 rfl) rfl) hRNSm160
      have hRWDm162 := zR_WD_fr (zdis_fr (zfr_up hmm162 (zfr_rf [(28, 6)] _) hc0 rfl) rfl) hRWDm160
      refine zw_b (by omega) ?_
      refine zw_some ?_
      refine zw_b (by omega) ?_
      have r163 : 0 ≤ (m162 a0 7) ∧ (m162 a0 7) ≤ 700 := zi_rd hIm162 hc0 zb_28_7
      exact zw_some ⟨hIm162, hFm162, hRNSm162, hRWDm162, ⟨by omega, by omega⟩, by omega⟩
set_option maxHeartbeats 4000000 in
theorem zk_131 (n : Nat) {a0 a1 a2 a3 : Int} {m0 : zu_m} (hIm0 : zi_I m0) (hc0 : zcls a0 = 28) (ha1 : 0 ≤ a1 ∧ a1 ≤ 1) (ha2 : 0 ≤ a2 ∧ a2 ≤ 3) (ha3 : 0 ≤ a3 ∧ a3 ≤ 17)     : zw (zu_call (zt_T n) 131 [(40, a0), (0, a1), (0, a2), (0, a3)] m0) (fun v m => zi_I m ∧ zfr [(28, 54), (122, 0), (123, 0)] m0 m ∧ ((-2147483648) ≤ v ∧ v ≤ 2147483647)) := by
  have hFm0 : zfr [(28, 54), (122, 0), (123, 0)] m0 m0 := zfr_rf _ _
  refine zw_eq (zr_131_0 n a0 a1 a2 a3 m0) ?_
  have b1 : 0 ≤ a3 ∧ a3 < 36 := by omega
  refine zw_if b1 ?_
  have r2 : 0 ≤ (m0 198 a3) ∧ (m0 198 a3) ≤ 3 := zi_rd hIm0 zq_198 (zb_107 _)
  have b3 : 0 ≤ a3 ∧ a3 < 36 := by omega
  refine zw_if b3 ?_
  have r4 : 0 ≤ (m0 199 a3) ∧ (m0 199 a3) ≤ 9 := zi_rd hIm0 zq_199 (zb_108 _)
  have b5 : 0 ≤ a3 ∧ a3 < 36 := by omega
  refine zw_if b5 ?_
  have r6 : 0 ≤ (m0 197 a3) ∧ (m0 197 a3) ≤ 47 := zi_rd hIm0 zq_197 (zb_106 _)
  refine zw_bd (zw_mono (zk_130 n hIm0 hc0 ⟨by omega, by omega⟩ ⟨by omega, by omega⟩) (fun v8 m7 hqm7 => ?_))
  obtain ⟨hIm7, hfm7, hvm7⟩ := hqm7
  have hFm7 := zfr_tr hFm0 hfm7 rfl
  refine zw_bd (zw_mono (zk_129 n hIm7 hc0 ⟨by omega, by omega⟩ ⟨by omega, by omega⟩ ⟨by omega, by omega⟩ ⟨by omega, by omega⟩ ⟨by omega, by omega⟩) (fun v10 m9 hqm9 => ?_))
  obtain ⟨hIm9, hfm9, hvm9⟩ := hqm9
  have hFm9 := zfr_tr hFm7 hfm9 rfl
  exact zw_some ⟨hIm9, hFm9, ⟨by omega, by omega⟩⟩
set_option maxHeartbeats 4000000 in
theorem zk_138 (n : Nat) {a0 a1 a2 a3 : Int} {m0 : zu_m} (hIm0 : zi_I m0) (hc0 : zcls a0 = 28) (ha1 : 0 ≤ a1 ∧ a1 ≤ 3) (ha2 : 0 ≤ a2 ∧ a2 ≤ 47) (ha3 : (-2147483648) ≤ a3 ∧ a3 ≤ 2147483647)     : zw (zu_call (zt_T n) 138 [(40, a0), (0, a1), (0, a2), (0, a3)] m0) (fun v m => zi_I m ∧ zfr [(28, 54), (122, 0), (123, 0)] m0 m ∧ ((-2147483648) ≤ v ∧ v ≤ 2147483647)) := by
  have hFm0 : zfr [(28, 54), (122, 0), (123, 0)] m0 m0 := zfr_rf _ _
  refine zw_eq (zr_138_0 n a0 a1 a2 a3 m0) ?_
  refine zw_bd (zw_mono (zk_129 n hIm0 hc0 ⟨by omega, by omega⟩ ⟨by omega, by omega⟩ ⟨by omega, by omega⟩ ⟨by omega, by omega⟩ ⟨by omega, by omega⟩) (fun v2 m1 hqm1 => ?_))
  obtain ⟨hIm1, hfm1, hvm1⟩ := hqm1
  have hFm1 := zfr_tr hFm0 hfm1 rfl
  have w3 := zu_w32_rg (100 - v2)
  have w4 := zu_w64_rg (a3 * (zu_w32 (100 - v2)))
  refine zw_nif (by omega) ?_
  have w5 := zu_w64_rg (Int.tdiv (zu_w64 (a3 * (zu_w32 (100 - v2)))) 100)
  have w6 := zu_w32_rg (zu_w64 (Int.tdiv (zu_w64 (a3 * (zu_w32 (100 - v2)))) 100))
  exact zw_some ⟨hIm1, hFm1, ⟨by omega, by omega⟩⟩
set_option maxHeartbeats 4000000 in
theorem zl_145 (n : Nat) {a0 a1 a2 : Int} {m0 : zu_m} (hc0 : zcls a0 = 28)   : ∀ k : Nat, (∀ (x3 x4 : Int) (mh : zu_m), zi_I mh → zfr [(28, 3), (28, 54), (122, 0), (123, 0)] m0 mh → (0 ≤ a1 ∧ a1 ≤ 3) → (2 ≤ a2 ∧ a2 ≤ 2) → ((-2147483648) ≤ x3 ∧ x3 ≤ 2147483647) → (0 ≤ x4 ∧ x4 ≤ 16) → (1 ≤ mh a0 15 ∧ mh a0 15 ≤ 4) → (0 ≤ mh a0 2 ∧ mh a0 2 ≤ 0) → (16 - x4) * 1 + 17 < (k : Int) → zw (zu_ex (zt_T n) 145 69 [(40, a0), (0, a1), (0, a2), (0, x3), (0, x4)] [] mh) (fun v m => zi_I m ∧ zfr [(28, 3), (28, 54), (122, 0), (123, 0)] m0 m ∧ ((-2147483648) ≤ v ∧ v ≤ 2147483647) ∧ (0 ≤ m a0 2 ∧ m a0 2 ≤ 0))) ∧ (∀ (x3 x4 : Int) (mh : zu_m), zi_I mh → zfr [(28, 3), (28, 54), (122, 0), (123, 0)] m0 mh → (0 ≤ a1 ∧ a1 ≤ 3) → (4 ≤ a2 ∧ a2 ≤ 4) → ((-2147483648) ≤ x3 ∧ x3 ≤ 2147483647) → (0 ≤ x4 ∧ x4 ≤ 16) → (1 ≤ mh a0 15 ∧ mh a0 15 ≤ 4) → (0 ≤ mh a0 2 ∧ mh a0 2 ≤ 0) → (16 - x4) * 1 + 0 < (k : Int) → zw (zu_ex (zt_T n) 145 120 [(40, a0), (0, a1), (0, a2), (0, x3), (0, x4)] [] mh) (fun v m => zi_I m ∧ zfr [(28, 3), (28, 54), (122, 0), (123, 0)] m0 m ∧ ((-2147483648) ≤ v ∧ v ≤ 2147483647) ∧ (0 ≤ m a0 2 ∧ m a0 2 ≤ 0))) := by
  intro k
  induction k with
  | zero => exact ⟨fun x3 x4 mh hImh hFmh hba1 hba2 hbx3 hbx4 hg4 hg5 hM => by exfalso; omega, fun x3 x4 mh hImh hFmh hba1 hba2 hbx3 hbx4 hg4 hg5 hM => by exfalso; omega⟩
  | succ k ih =>
    refine ⟨?_, ?_⟩
    · intro x3 x4 mh hImh hFmh hba1 hba2 hbx3 hbx4 hg4 hg5 hM
      refine zw_eq (zr_145_69 n a0 a1 a2 x3 x4 mh) ?_
      have b1 : 0 ≤ (0 : Int) ∧ (0 : Int) < 2 := by omega
      refine zw_if b1 ?_
      have r2 : 0 ≤ (mh 216 0) ∧ (mh 216 0) ≤ 16 := zi_rdr (m := 2) (r0 := 0) (r1 := 0) hImh zq_216 (by omega) (by decide +kernel)
      refine zw_ite (fun h3 => ?_) (fun h3 => ?_)
      · exact zw_some ⟨hImh, hFmh, ⟨by omega, by omega⟩, ⟨by omega, by omega⟩⟩
      · have b4 : 0 ≤ x4 ∧ x4 < 36 := by omega
        refine zw_if b4 ?_
        have r5 : (-3) ≤ (mh 215 x4) ∧ (mh 215 x4) ≤ 3 := zi_rd hImh zq_215 (zb_124 _)
        refine zw_ite (fun h6 => ?_) (fun h6 => ?_)
        · have b7 := zu_i32_rg 4 x3 0
          have w8 := zu_w32_id (z := x4 + 1) (by omega) (by omega)
          have hM : (16 - (zu_w32 (x4 + 1))) * 1 + 17 < (k : Int) := by omega
          exact ih.1 (zu_i32 4 x3 0) (zu_w32 (x4 + 1)) mh hImh hFmh ⟨by omega, by omega⟩ ⟨by omega, by omega⟩ ⟨by omega, by omega⟩ ⟨by omega, by omega⟩ ⟨by omega, by omega⟩ ⟨by omega, by omega⟩ hM
        · have b9 := zu_i32_rg 5 1 x4
          have b10 := zu_i32_rg 4 x3 (zu_i32 5 1 x4)
          have w11 := zu_w32_id (z := x4 + 1) (by omega) (by omega)
          have hM : (16 - (zu_w32 (x4 + 1))) * 1 + 17 < (k : Int) := by omega
          exact ih.1 (zu_i32 4 x3 (zu_i32 5 1 x4)) (zu_w32 (x4 + 1)) mh hImh hFmh ⟨by omega, by omega⟩ ⟨by omega, by omega⟩ ⟨by omega, by omega⟩ ⟨by omega, by omega⟩ ⟨by omega, by omega⟩ ⟨by omega, by omega⟩ hM
    · intro x3 x4 mh hImh hFmh hba1 hba2 hbx3 hbx4 hg4 hg5 hM
      refine zw_eq (zr_145_120 n a0 a1 a2 x3 x4 mh) ?_
      have b12 : 0 ≤ (0 : Int) ∧ (0 : Int) < 2 := by omega
      refine zw_if b12 ?_
      have r13 : 0 ≤ (mh 216 0) ∧ (mh 216 0) ≤ 16 := zi_rdr (m := 2) (r0 := 0) (r1 := 0) hImh zq_216 (by omega) (by decide +kernel)
      refine zw_ite (fun h14 => ?_) (fun h14 => ?_)
      · exact zw_some ⟨hImh, hFmh, ⟨by omega, by omega⟩, ⟨by omega, by omega⟩⟩
      · have b15 : 0 ≤ x4 ∧ x4 < 36 := by omega
        refine zw_if b15 ?_
        have r16 : (-3) ≤ (mh 215 x4) ∧ (mh 215 x4) ≤ 3 := zi_rd hImh zq_215 (zb_124 _)
        refine zw_ite (fun h17 => ?_) (fun h17 => ?_)
        · have w18 := zu_w32_id (z := x3 + 0) (by omega) (by omega)
          have w19 := zu_w32_id (z := x4 + 1) (by omega) (by omega)
          have hM : (16 - (zu_w32 (x4 + 1))) * 1 + 0 < (k : Int) := by omega
          exact ih.2 (zu_w32 (x3 + 0)) (zu_w32 (x4 + 1)) mh hImh hFmh ⟨by omega, by omega⟩ ⟨by omega, by omega⟩ ⟨by omega, by omega⟩ ⟨by omega, by omega⟩ ⟨by omega, by omega⟩ ⟨by omega, by omega⟩ hM
        · refine zw_bd (zw_mono (zk_132 n hImh hc0 ⟨by omega, by omega⟩ ⟨by omega, by omega⟩) (fun v21 m20 hqm20 => ?_))
          obtain ⟨hIm20, hfm20, hvm20⟩ := hqm20
          have hFm20 := zfr_tr hFmh hfm20 rfl
          have w22 := zu_w32_rg (x3 + v21)
          have w23 := zu_w32_id (z := x4 + 1) (by omega) (by omega)
          have r24 : (-2147483648) ≤ (m20 a0 2) ∧ (m20 a0 2) ≤ 2147483647 := zi_rd hIm20 hc0 zb_28_2
          have e25 : (m20 a0 2) = (mh a0 2) := (zfr_ap hfm20 hc0 rfl)
          have r26 : 0 ≤ (m20 a0 15) ∧ (m20 a0 15) ≤ 4 := zi_rd hIm20 hc0 zb_28_15
          have e27 : (m20 a0 15) = (mh a0 15) := (zfr_ap hfm20 hc0 rfl)
          have hM : (16 - (zu_w32 (x4 + 1))) * 1 + 0 < (k : Int) := by omega
          exact ih.2 (zu_w32 (x3 + v21)) (zu_w32 (x4 + 1)) m20 hIm20 hFm20 ⟨by omega, by omega⟩ ⟨by omega, by omega⟩ ⟨by omega, by omega⟩ ⟨by omega, by omega⟩ ⟨by omega, by omega⟩ ⟨by omega, by omega⟩ hM
set_option maxHeartbeats 4000000 in
theorem zk_145 (n : Nat) {a0 a1 a2 : Int} {m0 : zu_m} (hIm0 : zi_I m0) (hc0 : zcls a0 = 28) (ha1 : (-2147483648) ≤ a1 ∧ a1 ≤ 2147483647) (ha2 : (-2147483648) ≤ a2 ∧ a2 ≤ 2147483647)     : zw (zu_call (zt_T n) 145 [(40, a0), (0, a1), (0, a2)] m0) (fun v m => zi_I m ∧ zfr [(28, 3), (28, 54), (122, 0), (123, 0)] m0 m ∧ ((-2147483648) ≤ v ∧ v ≤ 2147483647) ∧ (0 ≤ m a0 2 ∧ m a0 2 ≤ 0)) := by
  have hFm0 : zfr [(28, 3), (28, 54), (122, 0), (123, 0)] m0 m0 := zfr_rf _ _
  refine zw_eq (zr_145_0 n a0 a1 a2 m0) ?_
  generalize hmm28 : zu_up m0 a0 2 0 = m28
  have hIm28 := zi_up hmm28 hIm0 hc0 zb_28_2 (by omega) (by omega)
  have hFm28 := zfr_up hmm28 hFm0 hc0 rfl
  refine zw_bd (zw_eq (zr_125_0 n a0 a1 m28) ?_)
  refine zw_ite (fun h29 => ?_) (fun h29 => ?_)
  · refine zw_b (by omega) ?_
    refine zw_some ?_
    refine zw_ite (fun h30 => ?_) (fun h30 => ?_)
    · exfalso; omega
    · have r31 : (-2147483648) ≤ (m28 a0 2) ∧ (m28 a0 2) ≤ 2147483647 := zi_rd hIm28 hc0 zb_28_2
      have e32 : (m28 a0 2) = 0 := (zs_eq hmm28)
      exact zw_some ⟨hIm28, hFm28, ⟨by omega, by omega⟩, ⟨by omega, by omega⟩⟩
  · have r33 : 0 ≤ (m28 a0 15) ∧ (m28 a0 15) ≤ 4 := zi_rd hIm28 hc0 zb_28_15
    refine zw_ite (fun h34 => ?_) (fun h34 => ?_)
    · refine zw_b (by omega) ?_
      refine zw_some ?_
      refine zw_ite (fun h35 => ?_) (fun h35 => ?_)
      · exfalso; omega
      · have r36 : (-2147483648) ≤ (m28 a0 2) ∧ (m28 a0 2) ≤ 2147483647 := zi_rd hIm28 hc0 zb_28_2
        have e37 : (m28 a0 2) = 0 := (zs_eq hmm28)
        exact zw_some ⟨hIm28, hFm28, ⟨by omega, by omega⟩, ⟨by omega, by omega⟩⟩
    · refine zw_b (by omega) ?_
      refine zw_some ?_
      refine zw_ite (fun h38 => ?_) (fun h38 => ?_)
      · refine zw_ite (fun h39 => ?_) (fun h39 => ?_)
        · have b40 : 0 ≤ a1 ∧ a1 < 8 := by omega
          refine zw_if b40 ?_
          have r41 : 0 ≤ (m28 217 a1) ∧ (m28 217 a1) ≤ 47 := zi_rd hIm28 zq_217 (zb_126 _)
          have r42 : (-2147483648) ≤ (m28 a0 2) ∧ (m28 a0 2) ≤ 2147483647 := zi_rd hIm28 hc0 zb_28_2
          have e43 : (m28 a0 2) = 0 := (zs_eq hmm28)
          exact zw_some ⟨hIm28, hFm28, ⟨by omega, by omega⟩, ⟨by omega, by omega⟩⟩
        · refine zw_ite (fun h44 => ?_) (fun h44 => ?_)
          · refine zw_bd (zw_mono (zk_130 n hIm28 hc0 ⟨by omega, by omega⟩ ⟨by omega, by omega⟩) (fun v46 m45 hqm45 => ?_))
            obtain ⟨hIm45, hfm45, hvm45⟩ := hqm45
            have hFm45 := zfr_tr hFm28 hfm45 rfl
            have r47 : (-2147483648) ≤ (m45 a0 2) ∧ (m45 a0 2) ≤ 2147483647 := zi_rd hIm45 hc0 zb_28_2
            have e48 : (m45 a0 2) = 0 := (Eq.trans (zfr_ap hfm45 hc0 rfl) (zs_eq hmm28))
            exact zw_some ⟨hIm45, hFm45, ⟨by omega, by omega⟩, ⟨by omega, by omega⟩⟩
          · refine zw_ite (fun h49 => ?_) (fun h49 => ?_)
            · have r50 : (-2147483648) ≤ (m28 a0 2) ∧ (m28 a0 2) ≤ 2147483647 := zi_rd hIm28 hc0 zb_28_2
              have e51 : (m28 a0 2) = 0 := (zs_eq hmm28)
              have hM : (16 - 0) * 1 + 17 < ((34 : Nat) : Int) := by omega
              exact (zl_145 n (m0 := m0) hc0 34).1 0 0 m28 hIm28 hFm28 ⟨by omega, by omega⟩ ⟨by omega, by omega⟩ ⟨by omega, by omega⟩ ⟨by omega, by omega⟩ ⟨by omega, by omega⟩ ⟨by omega, by omega⟩ hM
            · refine zw_ite (fun h52 => ?_) (fun h52 => ?_)
              · have b53 : 0 ≤ a1 ∧ a1 < 4 := by omega
                refine zw_if b53 ?_
                have r54 : (-2147483648) ≤ (m28 219 a1) ∧ (m28 219 a1) ≤ 2147483647 := zi_rd hIm28 zq_219 (zb_128 _)
                have r55 : (-2147483648) ≤ (m28 a0 2) ∧ (m28 a0 2) ≤ 2147483647 := zi_rd hIm28 hc0 zb_28_2
                have e56 : (m28 a0 2) = 0 := (zs_eq hmm28)
                exact zw_some ⟨hIm28, hFm28, ⟨by omega, by omega⟩, ⟨by omega, by omega⟩⟩
              · refine zw_ite (fun h57 => ?_) (fun h57 => ?_)
                · have r58 : (-2147483648) ≤ (m28 a0 2) ∧ (m28 a0 2) ≤ 2147483647 := zi_rd hIm28 hc0 zb_28_2
                  have e59 : (m28 a0 2) = 0 := (zs_eq hmm28)
                  have hM : (16 - 0) * 1 + 0 < ((34 : Nat) : Int) := by omega
                  exact (zl_145 n (m0 := m0) hc0 34).2 0 0 m28 hIm28 hFm28 ⟨by omega, by omega⟩ ⟨by omega, by omega⟩ ⟨by omega, by omega⟩ ⟨by omega, by omega⟩ ⟨by omega, by omega⟩ ⟨by omega, by omega⟩ hM
                · have r60 : (-2147483648) ≤ (m28 a0 2) ∧ (m28 a0 2) ≤ 2147483647 := zi_rd hIm28 hc0 zb_28_2
                  have e61 : (m28 a0 2) = 0 := (zs_eq hmm28)
                  exact zw_some ⟨hIm28, hFm28, ⟨by omega, by omega⟩, ⟨by omega, by omega⟩⟩
      · exfalso; omega
set_option maxHeartbeats 4000000 in
theorem zl_172 (n : Nat) {a0 a1 : Int} {m0 : zu_m} (hc0 : zcls a0 = 28)   : ∀ k : Nat, (∀ (x2 x4 x6 : Int) (mh : zu_m), zi_I mh → zfr [(28, 3), (28, 54), (122, 0), (123, 0)] m0 mh → ((-2147483648) ≤ a1 ∧ a1 ≤ 2147483647) → (0 ≤ x2 ∧ x2 ≤ 47952) → (0 ≤ x4 ∧ x4 ≤ 47904048) → (0 ≤ x6 ∧ x6 ≤ 48) → (0 ≤ mh a0 2 ∧ mh a0 2 ≤ 0) → (x2 ≤ 999 * x6) → (x4 ≤ 998001 * x6) → (48 - x6) * 1 + 9223372036854775808 < (k : Int) → zw (zu_ex (zt_T n) 172 13 [(40, a0), (0, a1), (1, x2), (2, 0), (1, x4), (2, 0), (0, x6), (2, 0), (2, 0), (2, 0), (2, 0), (2, 0)] [] mh) (fun v m => zi_I m ∧ zfr [(28, 3), (28, 54), (122, 0), (123, 0)] m0 m ∧ ((-9223372036854775808) ≤ v ∧ v ≤ 9223372036854775807) ∧ (0 ≤ m a0 2 ∧ m a0 2 ≤ 0))) ∧ (∀ (x2 x4 x6 x8 : Int) (mh : zu_m), zi_I mh → zfr [(28, 3), (28, 54), (122, 0), (123, 0)] m0 mh → (0 ≤ a1 ∧ a1 ≤ 1) → (1 ≤ x2 ∧ x2 ≤ 47952) → (0 ≤ x4 ∧ x4 ≤ 47904048) → (0 ≤ x6 ∧ x6 ≤ 9223372036854775807) → (0 ≤ x8 ∧ x8 ≤ 2299394304) → (0 ≤ mh a0 2 ∧ mh a0 2 ≤ 0) → (x8 ≠ 0 ∨ x6 ≠ 0) → x8 * 1 + 0 < (k : Int) → zw (zu_ex (zt_T n) 172 80 [(40, a0), (0, a1), (1, x2), (2, 0), (1, x4), (2, 0), (1, x6), (2, 0), (1, x8), (2, 0), (2, 0), (2, 0)] [] mh) (fun v m => zi_I m ∧ zfr [(28, 3), (28, 54), (122, 0), (123, 0)] m0 m ∧ ((-9223372036854775808) ≤ v ∧ v ≤ 9223372036854775807) ∧ (0 ≤ m a0 2 ∧ m a0 2 ≤ 0))) := by
  intro k
  induction k with
  | zero => exact ⟨fun x2 x4 x6 mh hImh hFmh hba1 hbx2 hbx4 hbx6 hg4 hH0 hH1 hM => by exfalso; omega, fun x2 x4 x6 x8 mh hImh hFmh hba1 hbx2 hbx4 hbx6 hbx8 hg5 hH0 hM => by exfalso; omega⟩
  | succ k ih =>
    refine ⟨?_, ?_⟩
    · intro x2 x4 x6 mh hImh hFmh hba1 hbx2 hbx4 hbx6 hg4 hH0 hH1 hM
      refine zw_eq (zr_172_13 n a0 a1 x2 x4 x6 mh) ?_
      refine zw_bd (zw_eq (zr_36_0 n a0 mh) ?_)
      have r1 : 1 ≤ (mh a0 12) ∧ (mh a0 12) ≤ 8 := zi_rd hImh hc0 zb_28_12
      have r2 : 1 ≤ (mh a0 13) ∧ (mh a0 13) ≤ 6 := zi_rd hImh hc0 zb_28_13
      have p3 := zmul_bd (x := (mh a0 12)) (y := (mh a0 13)) (a := 1) (b := 1) (A := 8) (B := 6) (by omega) (by omega) (by omega) (by omega) (by omega) (by omega)
      have w4 := zu_w32_id (z := (mh a0 12) * (mh a0 13)) (by omega) (by omega)
      refine zw_some ?_
      refine zw_ite (fun h5 => ?_) (fun h5 => ?_)
      · refine zw_bd (zw_eq (zr_83_0 n a1 0 1 mh) ?_)
        refine zw_ite (fun h6 => ?_) (fun h6 => ?_)
        · refine zw_b (by omega) ?_
          refine zw_some ?_
          refine zw_ite (fun h7 => ?_) (fun h7 => ?_)
          · exact zw_some ⟨hImh, hFmh, ⟨by omega, by omega⟩, ⟨by omega, by omega⟩⟩
          · exfalso; omega
        · refine zw_ite (fun h8 => ?_) (fun h8 => ?_)
          · refine zw_b (by omega) ?_
            refine zw_some ?_
            refine zw_ite (fun h9 => ?_) (fun h9 => ?_)
            · exact zw_some ⟨hImh, hFmh, ⟨by omega, by omega⟩, ⟨by omega, by omega⟩⟩
            · exfalso; omega
          · refine zw_b (by omega) ?_
            refine zw_some ?_
            refine zw_ite (fun h10 => ?_) (fun h10 => ?_)
            · exfalso; omega
            · have c11 := zu_lcmp_sp x2 0
              refine zw_ite (fun h12 => ?_) (fun h12 => ?_)
              · have p13 := zmul_bd (x := x2) (y := x2) (a := 1) (b := 1) (A := 47952) (B := 47952) (by omega) (by omega) (by omega) (by omega) (by omega) (by omega)
                have w14 := zu_w64_id (z := x2 * x2) (by omega) (by omega)
                have hM : (zu_w64 (x2 * x2)) * 1 + 0 < (k : Int) := by omega
                exact ih.2 x2 x4 x4 (zu_w64 (x2 * x2)) mh hImh hFmh ⟨by omega, by omega⟩ ⟨by omega, by omega⟩ ⟨by omega, by omega⟩ ⟨by omega, by omega⟩ ⟨by omega, by omega⟩ ⟨by omega, by omega⟩ (by omega) hM
              · exact zw_some ⟨hImh, hFmh, ⟨by omega, by omega⟩, ⟨by omega, by omega⟩⟩
      · refine zw_bd (zw_mono (zk_37 n hImh hc0 ⟨by omega, by omega⟩) (fun v16 m15 hqm15 => ?_))
        obtain ⟨hIm15, hfm15, hvm15⟩ := hqm15
        have hFm15 := zfr_tr hFmh hfm15 rfl
        have w17 := zu_w64_id (z := x2 + v16) (by omega) (by omega)
        have w18 := zu_w64_rg (v16 * v16)
        have w19 := zu_w64_rg (x4 + (zu_w64 (v16 * v16)))
        have w20 := zu_w32_id (z := x6 + 1) (by omega) (by omega)
        have r21 : (-2147483648) ≤ (m15 a0 2) ∧ (m15 a0 2) ≤ 2147483647 := zi_rd hIm15 hc0 zb_28_2
        have e22 : (m15 a0 2) = (mh a0 2) := (zfr_ap hfm15 hc0 rfl)
        have hM : (48 - (zu_w32 (x6 + 1))) * 1 + 9223372036854775808 < (k : Int) := by omega
        exact zw_le (zu_forget (zu_lr_same (zu_lr_same (zu_lr_same (zu_lr_same (zu_lr_same (zu_lr_same (zu_lr_same (zu_lr_drop (zu_lr_same (zu_lr_same (zu_lr_same (zu_lr_same zu_lr_nil))))))))))))) (ih.1 (zu_w64 (x2 + v16)) (zu_w64 (x4 + (zu_w64 (v16 * v16)))) (zu_w32 (x6 + 1)) m15 hIm15 hFm15 ⟨by omega, by omega⟩ ⟨by omega, by omega⟩ ⟨by omega, by omega⟩ ⟨by omega, by omega⟩ ⟨by omega, by omega⟩ (by omega) (by omega) hM)
    · intro x2 x4 x6 x8 mh hImh hFmh hba1 hbx2 hbx4 hbx6 hbx8 hg5 hH0 hM
      refine zw_eq (zr_172_80 n a0 a1 x2 x4 x6 x8 mh) ?_
      have c23 := zu_lcmp_sp x8 0
      refine zw_ite (fun h24 => ?_) (fun h24 => ?_)
      · refine zw_ite (fun h25 => ?_) (fun h25 => ?_)
        · have p26 := zmul_bd (x := x2) (y := x2) (a := 1) (b := 1) (A := 47952) (B := 47952) (by omega) (by omega) (by omega) (by omega) (by omega) (by omega)
          have w27 := zu_w64_id (z := x2 * x2) (by omega) (by omega)
          refine zw_nif (by omega) ?_
          have w28 := zu_w64_rg (Int.tdiv (zu_w64 (x2 * x2)) x6)
          exact zw_some ⟨hImh, hFmh, ⟨by omega, by omega⟩, ⟨by omega, by omega⟩⟩
        · refine zw_nif (by omega) ?_
          have w29 := zu_w64_rg (Int.tdiv x4 x6)
          exact zw_some ⟨hImh, hFmh, ⟨by omega, by omega⟩, ⟨by omega, by omega⟩⟩
      · refine zw_nif (by omega) ?_
        have d30 := ztmod_bd (x := x6) (y := x8) (by omega) (by omega)
        have hM : (Int.tmod x6 x8) * 1 + 0 < (k : Int) := by omega
        exact zw_le (zu_forget (zu_lr_same (zu_lr_same (zu_lr_same (zu_lr_same (zu_lr_same (zu_lr_same (zu_lr_same (zu_lr_same (zu_lr_same (zu_lr_same (zu_lr_drop (zu_lr_same zu_lr_nil))))))))))))) (ih.2 x2 x4 x8 (Int.tmod x6 x8) mh hImh hFmh ⟨by omega, by omega⟩ ⟨by omega, by omega⟩ ⟨by omega, by omega⟩ ⟨by omega, by omega⟩ ⟨by omega, by omega⟩ ⟨by omega, by omega⟩ (by omega) hM)
set_option maxHeartbeats 4000000 in
theorem zk_172 (n : Nat) {a0 a1 : Int} {m0 : zu_m} (hIm0 : zi_I m0) (hc0 : zcls a0 = 28) (ha1 : (-2147483648) ≤ a1 ∧ a1 ≤ 2147483647)     : zw (zu_call (zt_T n) 172 [(40, a0), (0, a1)] m0) (fun v m => zi_I m ∧ zfr [(28, 3), (28, 54), (122, 0), (123, 0)] m0 m ∧ ((-9223372036854775808) ≤ v ∧ v ≤ 9223372036854775807) ∧ (0 ≤ m a0 2 ∧ m a0 2 ≤ 0)) := by
  have hFm0 : zfr [(28, 3), (28, 54), (122, 0), (123, 0)] m0 m0 := zfr_rf _ _
  refine zw_eq (zr_172_0 n a0 a1 m0) ?_
  generalize hmm31 : zu_up m0 a0 2 0 = m31
  have hIm31 := zi_up hmm31 hIm0 hc0 zb_28_2 (by omega) (by omega)
  have hFm31 := zfr_up hmm31 hFm0 hc0 rfl
  have r32 : (-2147483648) ≤ (m31 a0 2) ∧ (m31 a0 2) ≤ 2147483647 := zi_rd hIm31 hc0 zb_28_2
  have e33 : (m31 a0 2) = 0 := (zs_eq hmm31)
  have hM : (48 - 0) * 1 + 9223372036854775808 < ((9223372036854775857 : Nat) : Int) := by omega
  exact (zl_172 n (m0 := m0) hc0 9223372036854775857).1 0 0 0 m31 hIm31 hFm31 ⟨by omega, by omega⟩ ⟨by omega, by omega⟩ ⟨by omega, by omega⟩ ⟨by omega, by omega⟩ ⟨by omega, by omega⟩ (by omega) (by omega) hM
set_option maxHeartbeats 4000000 in
theorem zl_173 (n : Nat) {a0 : Int} {m0 : zu_m} (hc0 : zcls a0 = 28)   : ∀ k : Nat, (∀ (x1 x2 : Int) (mh : zu_m), zi_I mh → zfr [(28, 3), (28, 54), (122, 0), (123, 0)] m0 mh → ((-2147483648) ≤ x1 ∧ x1 ≤ 2147483647) → (0 ≤ x2 ∧ x2 ≤ 16) → (0 ≤ mh a0 2 ∧ mh a0 2 ≤ 0) → (16 - x2) * 1 + 0 < (k : Int) → zw (zu_ex (zt_T n) 173 9 [(40, a0), (0, x1), (0, x2)] [] mh) (fun v m => zi_I m ∧ zfr [(28, 3), (28, 54), (122, 0), (123, 0)] m0 m ∧ ((-2147483648) ≤ v ∧ v ≤ 2147483647) ∧ (0 ≤ m a0 2 ∧ m a0 2 ≤ 0))) := by
  intro k
  induction k with
  | zero => exact fun x1 x2 mh hImh hFmh hbx1 hbx2 hg2 hM => by exfalso; omega
  | succ k ih =>
    intro x1 x2 mh hImh hFmh hbx1 hbx2 hg2 hM
    refine zw_eq (zr_173_9 n a0 x1 x2 mh) ?_
    have b1 : 0 ≤ (0 : Int) ∧ (0 : Int) < 2 := by omega
    refine zw_if b1 ?_
    have r2 : 0 ≤ (mh 216 0) ∧ (mh 216 0) ≤ 16 := zi_rdr (m := 2) (r0 := 0) (r1 := 0) hImh zq_216 (by omega) (by decide +kernel)
    refine zw_ite (fun h3 => ?_) (fun h3 => ?_)
    · exact zw_some ⟨hImh, hFmh, ⟨by omega, by omega⟩, ⟨by omega, by omega⟩⟩
    · have b4 : 0 ≤ x2 ∧ x2 < 36 := by omega
      refine zw_if b4 ?_
      have r5 : (-3) ≤ (mh 215 x2) ∧ (mh 215 x2) ≤ 3 := zi_rd hImh zq_215 (zb_124 _)
      refine zw_ite (fun h6 => ?_) (fun h6 => ?_)
      · have w7 := zu_w32_id (z := x1 + 0) (by omega) (by omega)
        have w8 := zu_w32_id (z := x2 + 1) (by omega) (by omega)
        have hM : (16 - (zu_w32 (x2 + 1))) * 1 + 0 < (k : Int) := by omega
        exact ih (zu_w32 (x1 + 0)) (zu_w32 (x2 + 1)) mh hImh hFmh ⟨by omega, by omega⟩ ⟨by omega, by omega⟩ ⟨by omega, by omega⟩ hM
      · refine zw_bd (zw_mono (zk_133 n hImh hc0 ⟨by omega, by omega⟩) (fun v10 m9 hqm9 => ?_))
        obtain ⟨hIm9, hfm9, hvm9⟩ := hqm9
        have hFm9 := zfr_tr hFmh hfm9 rfl
        have w11 := zu_w32_rg (100 - v10)
        have w12 := zu_w32_rg (x1 + (zu_w32 (100 - v10)))
        have w13 := zu_w32_id (z := x2 + 1) (by omega) (by omega)
        have r14 : (-2147483648) ≤ (m9 a0 2) ∧ (m9 a0 2) ≤ 2147483647 := zi_rd hIm9 hc0 zb_28_2
        have e15 : (m9 a0 2) = (mh a0 2) := (zfr_ap hfm9 hc0 rfl)
        have hM : (16 - (zu_w32 (x2 + 1))) * 1 + 0 < (k : Int) := by omega
        exact ih (zu_w32 (x1 + (zu_w32 (100 - v10)))) (zu_w32 (x2 + 1)) m9 hIm9 hFm9 ⟨by omega, by omega⟩ ⟨by omega, by omega⟩ ⟨by omega, by omega⟩ hM
set_option maxHeartbeats 4000000 in
theorem zk_173 (n : Nat) {a0 : Int} {m0 : zu_m} (hIm0 : zi_I m0) (hc0 : zcls a0 = 28)      : zw (zu_call (zt_T n) 173 [(40, a0)] m0) (fun v m => zi_I m ∧ zfr [(28, 3), (28, 54), (122, 0), (123, 0)] m0 m ∧ ((-2147483648) ≤ v ∧ v ≤ 2147483647) ∧ (0 ≤ m a0 2 ∧ m a0 2 ≤ 0)) := by
  have hFm0 : zfr [(28, 3), (28, 54), (122, 0), (123, 0)] m0 m0 := zfr_rf _ _
  refine zw_eq (zr_173_0 n a0 m0) ?_
  generalize hmm16 : zu_up m0 a0 2 0 = m16
  have hIm16 := zi_up hmm16 hIm0 hc0 zb_28_2 (by omega) (by omega)
  have hFm16 := zfr_up hmm16 hFm0 hc0 rfl
  have r17 : (-2147483648) ≤ (m16 a0 2) ∧ (m16 a0 2) ≤ 2147483647 := zi_rd hIm16 hc0 zb_28_2
  have e18 : (m16 a0 2) = 0 := (zs_eq hmm16)
  have hM : (16 - 0) * 1 + 0 < ((17 : Nat) : Int) := by omega
  exact (zl_173 n (m0 := m0) hc0 17) 0 0 m16 hIm16 hFm16 ⟨by omega, by omega⟩ ⟨by omega, by omega⟩ ⟨by omega, by omega⟩ hM
set_option maxHeartbeats 4000000 in
theorem zk_174 (n : Nat) {a0 a1 a2 : Int} {m0 : zu_m} (hIm0 : zi_I m0) (hc0 : zcls a0 = 28) (ha1 : (-2147483648) ≤ a1 ∧ a1 ≤ 2147483647) (ha2 : (-2147483648) ≤ a2 ∧ a2 ≤ 2147483647)     : zw (zu_call (zt_T n) 174 [(40, a0), (0, a1), (0, a2)] m0) (fun v m => zi_I m ∧ zfr [(28, 3), (28, 54), (122, 0), (123, 0)] m0 m ∧ ((-2147483648) ≤ v ∧ v ≤ 2147483647) ∧ (0 ≤ m a0 2 ∧ m a0 2 ≤ 0)) := by
  have hFm0 : zfr [(28, 3), (28, 54), (122, 0), (123, 0)] m0 m0 := zfr_rf _ _
  refine zw_eq (zr_174_0 n a0 a1 a2 m0) ?_
  generalize hmm1 : zu_up m0 a0 2 0 = m1
  have hIm1 := zi_up hmm1 hIm0 hc0 zb_28_2 (by omega) (by omega)
  have hFm1 := zfr_up hmm1 hFm0 hc0 rfl
  refine zw_bd (zw_eq (zr_125_0 n a0 a1 m1) ?_)
  refine zw_ite (fun h2 => ?_) (fun h2 => ?_)
  · refine zw_b (by omega) ?_
    refine zw_some ?_
    refine zw_ite (fun h3 => ?_) (fun h3 => ?_)
    · have r4 : (-2147483648) ≤ (m1 a0 2) ∧ (m1 a0 2) ≤ 2147483647 := zi_rd hIm1 hc0 zb_28_2
      have e5 : (m1 a0 2) = 0 := (zs_eq hmm1)
      exact zw_some ⟨hIm1, hFm1, ⟨by omega, by omega⟩, ⟨by omega, by omega⟩⟩
    · exfalso; omega
  · have r6 : 0 ≤ (m1 a0 15) ∧ (m1 a0 15) ≤ 4 := zi_rd hIm1 hc0 zb_28_15
    refine zw_ite (fun h7 => ?_) (fun h7 => ?_)
    · refine zw_b (by omega) ?_
      refine zw_some ?_
      refine zw_ite (fun h8 => ?_) (fun h8 => ?_)
      · have r9 : (-2147483648) ≤ (m1 a0 2) ∧ (m1 a0 2) ≤ 2147483647 := zi_rd hIm1 hc0 zb_28_2
        have e10 : (m1 a0 2) = 0 := (zs_eq hmm1)
        exact zw_some ⟨hIm1, hFm1, ⟨by omega, by omega⟩, ⟨by omega, by omega⟩⟩
      · exfalso; omega
    · refine zw_b (by omega) ?_
      refine zw_some ?_
      refine zw_ite (fun h11 => ?_) (fun h11 => ?_)
      · exfalso; omega
      · refine zw_bd (zw_eq (zr_124_0 n a0 a2 m1) ?_)
        refine zw_ite (fun h12 => ?_) (fun h12 => ?_)
        · refine zw_b (by omega) ?_
          refine zw_some ?_
          refine zw_ite (fun h13 => ?_) (fun h13 => ?_)
          · have r14 : (-2147483648) ≤ (m1 a0 2) ∧ (m1 a0 2) ≤ 2147483647 := zi_rd hIm1 hc0 zb_28_2
            have e15 : (m1 a0 2) = 0 := (zs_eq hmm1)
            exact zw_some ⟨hIm1, hFm1, ⟨by omega, by omega⟩, ⟨by omega, by omega⟩⟩
          · exfalso; omega
        · have b16 : 0 ≤ (0 : Int) ∧ (0 : Int) < 2 := by omega
          refine zw_if b16 ?_
          have r17 : 0 ≤ (m1 216 0) ∧ (m1 216 0) ≤ 16 := zi_rdr (m := 2) (r0 := 0) (r1 := 0) hIm1 zq_216 (by omega) (by decide +kernel)
          refine zw_ite (fun h18 => ?_) (fun h18 => ?_)
          · refine zw_b (by omega) ?_
            refine zw_some ?_
            refine zw_ite (fun h19 => ?_) (fun h19 => ?_)
            · have r20 : (-2147483648) ≤ (m1 a0 2) ∧ (m1 a0 2) ≤ 2147483647 := zi_rd hIm1 hc0 zb_28_2
              have e21 : (m1 a0 2) = 0 := (zs_eq hmm1)
              exact zw_some ⟨hIm1, hFm1, ⟨by omega, by omega⟩, ⟨by omega, by omega⟩⟩
            · exfalso; omega
          · refine zw_b (by omega) ?_
            refine zw_some ?_
            refine zw_ite (fun h22 => ?_) (fun h22 => ?_)
            · exfalso; omega
            · refine zw_bd (zw_mono (zk_132 n hIm1 hc0 ⟨by omega, by omega⟩ ⟨by omega, by omega⟩) (fun v24 m23 hqm23 => ?_))
              obtain ⟨hIm23, hfm23, hvm23⟩ := hqm23
              have hFm23 := zfr_tr hFm1 hfm23 rfl
              have r25 : (-2147483648) ≤ (m23 a0 2) ∧ (m23 a0 2) ≤ 2147483647 := zi_rd hIm23 hc0 zb_28_2
              have e26 : (m23 a0 2) = 0 := (Eq.trans (zfr_ap hfm23 hc0 rfl) (zs_eq hmm1))
              exact zw_some ⟨hIm23, hFm23, ⟨by omega, by omega⟩, ⟨by omega, by omega⟩⟩
set_option maxHeartbeats 4000000 in
theorem zk_175 (n : Nat) {a0 a1 a2 a3 a4 : Int} {m0 : zu_m} (hIm0 : zi_I m0) (hc0 : zcls a0 = 28) (ha1 : 0 ≤ a1 ∧ a1 ≤ 3) (ha2 : 1 ≤ a2 ∧ a2 ≤ 3) (ha3 : 0 ≤ a3 ∧ a3 ≤ 15) (ha4 : 0 ≤ a4 ∧ a4 ≤ 15)     : zw (zu_call (zt_T n) 175 [(40, a0), (0, a1), (0, a2), (0, a3), (0, a4)] m0) (fun v m => zi_I m ∧ zfr [(28, 54), (122, 0), (123, 0)] m0 m ∧ (0 ≤ v ∧ v ≤ 1)) := by
  have hFm0 : zfr [(28, 54), (122, 0), (123, 0)] m0 m0 := zfr_rf _ _
  refine zw_eq (zr_175_0 n a0 a1 a2 a3 a4 m0) ?_
  refine zw_bd (zw_mono (zk_132 n hIm0 hc0 ⟨by omega, by omega⟩ ⟨by omega, by omega⟩) (fun v2 m1 hqm1 => ?_))
  obtain ⟨hIm1, hfm1, hvm1⟩ := hqm1
  have hFm1 := zfr_tr hFm0 hfm1 rfl
  refine zw_bd (zw_mono (zk_132 n hIm1 hc0 ⟨by omega, by omega⟩ ⟨by omega, by omega⟩) (fun v4 m3 hqm3 => ?_))
  obtain ⟨hIm3, hfm3, hvm3⟩ := hqm3
  have hFm3 := zfr_tr hFm1 hfm3 rfl
  refine zw_ite (fun h5 => ?_) (fun h5 => ?_)
  · refine zw_b (by omega) ?_
    exact zw_some ⟨hIm3, hFm3, ⟨by omega, by omega⟩⟩
  · refine zw_bd (zw_mono (zk_132 n hIm3 hc0 ⟨by omega, by omega⟩ ⟨by omega, by omega⟩) (fun v7 m6 hqm6 => ?_))
    obtain ⟨hIm6, hfm6, hvm6⟩ := hqm6
    have hFm6 := zfr_tr hFm3 hfm6 rfl
    refine zw_bd (zw_mono (zk_132 n hIm6 hc0 ⟨by omega, by omega⟩ ⟨by omega, by omega⟩) (fun v9 m8 hqm8 => ?_))
    obtain ⟨hIm8, hfm8, hvm8⟩ := hqm8
    have hFm8 := zfr_tr hFm6 hfm8 rfl
    refine zw_ite (fun h10 => ?_) (fun h10 => ?_)
    · refine zw_b (by omega) ?_
      exact zw_some ⟨hIm8, hFm8, ⟨by omega, by omega⟩⟩
    · refine zw_b (by omega) ?_
      exact zw_some ⟨hIm8, hFm8, ⟨by omega, by omega⟩⟩
set_option maxHeartbeats 4000000 in
theorem zl_177 (n : Nat) {a0 a1 : Int} {m0 : zu_m} (hc0 : zcls a0 = 28)   : ∀ k : Nat, (∀ (x2 : Int) (mh : zu_m), zi_I mh → zfr [(28, 3), (28, 54), (122, 0), (123, 0), (134, 0)] m0 mh → (0 ≤ a1 ∧ a1 ≤ 15) → (0 ≤ x2 ∧ x2 ≤ 4) → (1 ≤ mh 216 0 ∧ mh 216 0 ≤ 16) → (0 ≤ mh a0 2 ∧ mh a0 2 ≤ 0) → (4 - x2) * 1 + 85 < (k : Int) → zw (zu_ex (zt_T n) 177 29 [(40, a0), (0, a1), (0, x2), (2, 0), (2, 0)] [] mh) (fun v m => zi_I m ∧ zfr [(28, 3), (28, 54), (122, 0), (123, 0), (134, 0)] m0 m ∧ ((-8) ≤ v ∧ v ≤ 3) ∧ (0 ≤ m a0 2 ∧ m a0 2 ≤ 0))) ∧ (∀ (x2 x3 : Int) (mh : zu_m), zi_I mh → zfr [(28, 3), (28, 54), (122, 0), (123, 0), (134, 0)] m0 mh → (0 ≤ a1 ∧ a1 ≤ 15) → (0 ≤ x2 ∧ x2 ≤ 3) → (0 ≤ x3 ∧ x3 ≤ 16) → (1 ≤ mh 216 0 ∧ mh 216 0 ≤ 16) → (0 ≤ mh a0 2 ∧ mh a0 2 ≤ 0) → (16 - x3) * 5 + 4 < (k : Int) → zw (zu_ex (zt_T n) 177 51 [(40, a0), (0, a1), (0, x2), (0, x3), (2, 0)] [] mh) (fun v m => zi_I m ∧ zfr [(28, 3), (28, 54), (122, 0), (123, 0), (134, 0)] m0 m ∧ ((-8) ≤ v ∧ v ≤ 3) ∧ (0 ≤ m a0 2 ∧ m a0 2 ≤ 0))) ∧ (∀ (x2 x3 x4 : Int) (mh : zu_m), zi_I mh → zfr [(28, 3), (28, 54), (122, 0), (123, 0), (134, 0)] m0 mh → (0 ≤ a1 ∧ a1 ≤ 15) → (0 ≤ x2 ∧ x2 ≤ 3) → (0 ≤ x3 ∧ x3 ≤ 15) → (1 ≤ x4 ∧ x4 ≤ 4) → (1 ≤ mh 216 0 ∧ mh 216 0 ≤ 16) → (0 ≤ mh a0 2 ∧ mh a0 2 ≤ 0) → (4 - x4) * 1 + (16 - x3) * 5 + 0 < (k : Int) → zw (zu_ex (zt_T n) 177 73 [(40, a0), (0, a1), (0, x2), (0, x3), (0, x4)] [] mh) (fun v m => zi_I m ∧ zfr [(28, 3), (28, 54), (122, 0), (123, 0), (134, 0)] m0 m ∧ ((-8) ≤ v ∧ v ≤ 3) ∧ (0 ≤ m a0 2 ∧ m a0 2 ≤ 0))) := by
  intro k
  induction k with
  | zero => exact ⟨fun x2 mh hImh hFmh hba1 hbx2 hg2 hg3 hM => by exfalso; omega, fun x2 x3 mh hImh hFmh hba1 hbx2 hbx3 hg3 hg4 hM => by exfalso; omega, fun x2 x3 x4 mh hImh hFmh hba1 hbx2 hbx3 hbx4 hg4 hg5 hM => by exfalso; omega⟩
  | succ k ih =>
    refine ⟨?_, ?_, ?_⟩
    · intro x2 mh hImh hFmh hba1 hbx2 hg2 hg3 hM
      refine zw_eq (zr_177_29 n a0 a1 x2 mh) ?_
      refine zw_ite (fun h1 => ?_) (fun h1 => ?_)
      · have hM : (16 - 0) * 5 + 4 < (k : Int) := by omega
        exact ih.2.1 0 0 mh hImh hFmh ⟨by omega, by omega⟩ ⟨by omega, by omega⟩ ⟨by omega, by omega⟩ ⟨by omega, by omega⟩ ⟨by omega, by omega⟩ hM
      · have b2 : 0 ≤ x2 ∧ x2 < 4 := by omega
        refine zw_if b2 ?_
        generalize hmm3 : zu_up mh 225 x2 0 = m3
        have hIm3 := zi_up hmm3 hImh zq_225 (zb_134 _) (by omega) (by omega)
        have hFm3 := zfr_up hmm3 hFmh zq_225 rfl
        have w4 := zu_w32_id (z := x2 + 1) (by omega) (by omega)
        have r5 : (-2147483648) ≤ (m3 a0 2) ∧ (m3 a0 2) ≤ 2147483647 := zi_rd hIm3 hc0 zb_28_2
        have e6 : (m3 a0 2) = (mh a0 2) := (zs_ne hmm3 (Or.inl (zc_ne hc0 zq_225 (by decide))))
        have r7 : 0 ≤ (m3 216 0) ∧ (m3 216 0) ≤ 16 := zi_rdr (m := 2) (r0 := 0) (r1 := 0) hIm3 zq_216 (by omega) (by decide +kernel)
        have e8 : (m3 216 0) = (mh 216 0) := (zs_ne hmm3 (Or.inl (zc_ne zq_216 zq_225 (by decide))))
        have hM : (4 - (zu_w32 (x2 + 1))) * 1 + 85 < (k : Int) := by omega
        exact ih.1 (zu_w32 (x2 + 1)) m3 hIm3 hFm3 ⟨by omega, by omega⟩ ⟨by omega, by omega⟩ ⟨by omega, by omega⟩ ⟨by omega, by omega⟩ hM
    · intro x2 x3 mh hImh hFmh hba1 hbx2 hbx3 hg3 hg4 hM
      refine zw_eq (zr_177_51 n a0 a1 x2 x3 mh) ?_
      refine zw_ite (fun h9 => ?_) (fun h9 => ?_)
      · exact zw_some ⟨hImh, hFmh, ⟨by omega, by omega⟩, ⟨by omega, by omega⟩⟩
      · have b10 : 0 ≤ x3 ∧ x3 < 36 := by omega
        refine zw_if b10 ?_
        have r11 : (-3) ≤ (mh 215 x3) ∧ (mh 215 x3) ≤ 3 := zi_rd hImh zq_215 (zb_124 _)
        refine zw_ite (fun h12 => ?_) (fun h12 => ?_)
        · have hM : (4 - 1) * 1 + (16 - x3) * 5 + 0 < (k : Int) := by omega
          exact ih.2.2 0 x3 1 mh hImh hFmh ⟨by omega, by omega⟩ ⟨by omega, by omega⟩ ⟨by omega, by omega⟩ ⟨by omega, by omega⟩ ⟨by omega, by omega⟩ ⟨by omega, by omega⟩ hM
        · have w13 := zu_w32_id (z := x3 + 1) (by omega) (by omega)
          have hM : (16 - (zu_w32 (x3 + 1))) * 5 + 4 < (k : Int) := by omega
          exact ih.2.1 x2 (zu_w32 (x3 + 1)) mh hImh hFmh ⟨by omega, by omega⟩ ⟨by omega, by omega⟩ ⟨by omega, by omega⟩ ⟨by omega, by omega⟩ ⟨by omega, by omega⟩ hM
    · intro x2 x3 x4 mh hImh hFmh hba1 hbx2 hbx3 hbx4 hg4 hg5 hM
      refine zw_eq (zr_177_73 n a0 a1 x2 x3 x4 mh) ?_
      have r14 : 0 ≤ (mh a0 15) ∧ (mh a0 15) ≤ 4 := zi_rd hImh hc0 zb_28_15
      refine zw_ite (fun h15 => ?_) (fun h15 => ?_)
      · have b16 : 0 ≤ x2 ∧ x2 < 4 := by omega
        refine zw_if b16 ?_
        have r17 : (-2147483648) ≤ (mh 225 x2) ∧ (mh 225 x2) ≤ 2147483647 := zi_rd hImh zq_225 (zb_134 _)
        refine zw_bd (zw_mono (zk_132 n hImh hc0 ⟨by omega, by omega⟩ ⟨by omega, by omega⟩) (fun v19 m18 hqm18 => ?_))
        obtain ⟨hIm18, hfm18, hvm18⟩ := hqm18
        have hFm18 := zfr_tr hFmh hfm18 rfl
        have w20 := zu_w32_rg ((mh 225 x2) + v19)
        have b21 : 0 ≤ x2 ∧ x2 < 4 := by omega
        refine zw_if b21 ?_
        generalize hmm22 : zu_up m18 225 x2 (zu_w32 ((mh 225 x2) + v19)) = m22
        have hIm22 := zi_up hmm22 hIm18 zq_225 (zb_134 _) (by omega) (by omega)
        have hFm22 := zfr_up hmm22 hFm18 zq_225 rfl
        have w23 := zu_w32_id (z := x3 + 1) (by omega) (by omega)
        have r24 : (-2147483648) ≤ (m22 a0 2) ∧ (m22 a0 2) ≤ 2147483647 := zi_rd hIm22 hc0 zb_28_2
        have e25 : (m22 a0 2) = (mh a0 2) := (Eq.trans (zs_ne hmm22 (Or.inl (zc_ne hc0 zq_225 (by decide)))) (zfr_ap hfm18 hc0 rfl))
        have r26 : 0 ≤ (m22 216 0) ∧ (m22 216 0) ≤ 16 := zi_rdr (m := 2) (r0 := 0) (r1 := 0) hIm22 zq_216 (by omega) (by decide +kernel)
        have e27 : (m22 216 0) = (mh 216 0) := (Eq.trans (zs_ne hmm22 (Or.inl (zc_ne zq_216 zq_225 (by decide)))) (zfr_ap hfm18 zq_216 rfl))
        have hM : (16 - (zu_w32 (x3 + 1))) * 5 + 4 < (k : Int) := by omega
        exact zw_le (zu_forget (zu_lr_same (zu_lr_same (zu_lr_same (zu_lr_same (zu_lr_drop zu_lr_nil)))))) (ih.2.1 x2 (zu_w32 (x3 + 1)) m22 hIm22 hFm22 ⟨by omega, by omega⟩ ⟨by omega, by omega⟩ ⟨by omega, by omega⟩ ⟨by omega, by omega⟩ ⟨by omega, by omega⟩ hM)
      · have b28 : 0 ≤ x4 ∧ x4 < 4 := by omega
        refine zw_if b28 ?_
        have r29 : (-2147483648) ≤ (mh 225 x4) ∧ (mh 225 x4) ≤ 2147483647 := zi_rd hImh zq_225 (zb_134 _)
        have b30 : 0 ≤ x2 ∧ x2 < 4 := by omega
        refine zw_if b30 ?_
        have r31 : (-2147483648) ≤ (mh 225 x2) ∧ (mh 225 x2) ≤ 2147483647 := zi_rd hImh zq_225 (zb_134 _)
        refine zw_ite (fun h32 => ?_) (fun h32 => ?_)
        · have w33 := zu_w32_id (z := x4 + 1) (by omega) (by omega)
          have hM : (4 - (zu_w32 (x4 + 1))) * 1 + (16 - x3) * 5 + 0 < (k : Int) := by omega
          exact ih.2.2 x2 x3 (zu_w32 (x4 + 1)) mh hImh hFmh ⟨by omega, by omega⟩ ⟨by omega, by omega⟩ ⟨by omega, by omega⟩ ⟨by omega, by omega⟩ ⟨by omega, by omega⟩ ⟨by omega, by omega⟩ hM
        · have w34 := zu_w32_id (z := x4 + 1) (by omega) (by omega)
          have hM : (4 - (zu_w32 (x4 + 1))) * 1 + (16 - x3) * 5 + 0 < (k : Int) := by omega
          exact ih.2.2 x4 x3 (zu_w32 (x4 + 1)) mh hImh hFmh ⟨by omega, by omega⟩ ⟨by omega, by omega⟩ ⟨by omega, by omega⟩ ⟨by omega, by omega⟩ ⟨by omega, by omega⟩ ⟨by omega, by omega⟩ hM
set_option maxHeartbeats 4000000 in
theorem zk_177 (n : Nat) {a0 a1 : Int} {m0 : zu_m} (hIm0 : zi_I m0) (hc0 : zcls a0 = 28) (ha1 : (-2147483648) ≤ a1 ∧ a1 ≤ 2147483647)     : zw (zu_call (zt_T n) 177 [(40, a0), (0, a1)] m0) (fun v m => zi_I m ∧ zfr [(28, 3), (28, 54), (122, 0), (123, 0), (134, 0)] m0 m ∧ ((-8) ≤ v ∧ v ≤ 3) ∧ (0 ≤ m a0 2 ∧ m a0 2 ≤ 0)) := by
  have hFm0 : zfr [(28, 3), (28, 54), (122, 0), (123, 0), (134, 0)] m0 m0 := zfr_rf _ _
  refine zw_eq (zr_177_0 n a0 a1 m0) ?_
  generalize hmm35 : zu_up m0 a0 2 0 = m35
  have hIm35 := zi_up hmm35 hIm0 hc0 zb_28_2 (by omega) (by omega)
  have hFm35 := zfr_up hmm35 hFm0 hc0 rfl
  refine zw_bd (zw_eq (zr_124_0 n a0 a1 m35) ?_)
  refine zw_ite (fun h36 => ?_) (fun h36 => ?_)
  · refine zw_b (by omega) ?_
    refine zw_some ?_
    refine zw_ite (fun h37 => ?_) (fun h37 => ?_)
    · exfalso; omega
    · have r38 : (-2147483648) ≤ (m35 a0 2) ∧ (m35 a0 2) ≤ 2147483647 := zi_rd hIm35 hc0 zb_28_2
      have e39 : (m35 a0 2) = 0 := (zs_eq hmm35)
      exact zw_some ⟨hIm35, hFm35, ⟨by omega, by omega⟩, ⟨by omega, by omega⟩⟩
  · have b40 : 0 ≤ (0 : Int) ∧ (0 : Int) < 2 := by omega
    refine zw_if b40 ?_
    have r41 : 0 ≤ (m35 216 0) ∧ (m35 216 0) ≤ 16 := zi_rdr (m := 2) (r0 := 0) (r1 := 0) hIm35 zq_216 (by omega) (by decide +kernel)
    refine zw_ite (fun h42 => ?_) (fun h42 => ?_)
    · refine zw_b (by omega) ?_
      refine zw_some ?_
      refine zw_ite (fun h43 => ?_) (fun h43 => ?_)
      · exfalso; omega
      · have r44 : (-2147483648) ≤ (m35 a0 2) ∧ (m35 a0 2) ≤ 2147483647 := zi_rd hIm35 hc0 zb_28_2
        have e45 : (m35 a0 2) = 0 := (zs_eq hmm35)
        exact zw_some ⟨hIm35, hFm35, ⟨by omega, by omega⟩, ⟨by omega, by omega⟩⟩
    · refine zw_b (by omega) ?_
      refine zw_some ?_
      refine zw_ite (fun h46 => ?_) (fun h46 => ?_)
      · have b47 : 0 ≤ a1 ∧ a1 < 36 := by omega
        refine zw_if b47 ?_
        have r48 : (-3) ≤ (m35 215 a1) ∧ (m35 215 a1) ≤ 3 := zi_rd hIm35 zq_215 (zb_124 _)
        refine zw_ite (fun h49 => ?_) (fun h49 => ?_)
        · have r50 : (-2147483648) ≤ (m35 a0 2) ∧ (m35 a0 2) ≤ 2147483647 := zi_rd hIm35 hc0 zb_28_2
          have e51 : (m35 a0 2) = 0 := (zs_eq hmm35)
          have hM : (4 - 0) * 1 + 85 < ((90 : Nat) : Int) := by omega
          exact (zl_177 n (m0 := m0) hc0 90).1 0 m35 hIm35 hFm35 ⟨by omega, by omega⟩ ⟨by omega, by omega⟩ ⟨by omega, by omega⟩ ⟨by omega, by omega⟩ hM
        · have r52 : (-2147483648) ≤ (m35 a0 2) ∧ (m35 a0 2) ≤ 2147483647 := zi_rd hIm35 hc0 zb_28_2
          have e53 : (m35 a0 2) = 0 := (zs_eq hmm35)
          exact zw_some ⟨hIm35, hFm35, ⟨by omega, by omega⟩, ⟨by omega, by omega⟩⟩
      · exfalso; omega
set_option maxHeartbeats 4000000 in
theorem zl_241 (n : Nat) {a0 a1 : Int} {m0 : zu_m} (hc0 : zcls a0 = 16)   : ∀ k : Nat, (∀ (x2 : Int) (mh : zu_m), zi_I mh → zfr [(56, 0), (59, 1), (59, 2), (59, 3), (59, 4), (59, 5), (59, 6), (59, 7)] m0 mh → (0 ≤ a1 ∧ a1 ≤ 3) → (0 ≤ x2 ∧ x2 ≤ 4) → (zR_K54 mh) → (4 - x2) * 5 + 4 < (k : Int) → zw (zu_ex (zt_T n) 241 2 [(27, a0), (0, a1), (0, x2), (2, 0), (2, 0)] [] mh) (fun v m => zi_I m ∧ zfr [(56, 0), (59, 1), (59, 2), (59, 3), (59, 4), (59, 5), (59, 6), (59, 7)] m0 m ∧ zR_K54 m ∧ ((-2) ≤ v ∧ v ≤ 15))) ∧ (∀ (x2 x3 : Int) (mh : zu_m), zi_I mh → zfr [(56, 0), (59, 1), (59, 2), (59, 3), (59, 4), (59, 5), (59, 6), (59, 7)] m0 mh → (0 ≤ a1 ∧ a1 ≤ 3) → (0 ≤ x2 ∧ x2 ≤ 3) → (1 ≤ x3 ∧ x3 ≤ 4) → (1 ≤ mh a0 4 ∧ mh a0 4 ≤ 4) → (zR_K54 mh) → (4 - x3) * 1 + (4 - x2) * 5 + 0 < (k : Int) → zw (zu_ex (zt_T n) 241 14 [(27, a0), (0, a1), (0, x2), (0, x3), (2, 0)] [] mh) (fun v m => zi_I m ∧ zfr [(56, 0), (59, 1), (59, 2), (59, 3), (59, 4), (59, 5), (59, 6), (59, 7)] m0 m ∧ zR_K54 m ∧ ((-2) ≤ v ∧ v ≤ 15))) := by
  intro k
  induction k with
  | zero => exact ⟨fun x2 mh hImh hFmh hba1 hbx2 hRK54mh hM => by exfalso; omega, fun x2 x3 mh hImh hFmh hba1 hbx2 hbx3 hg3 hRK54mh hM => by exfalso; omega⟩
  | succ k ih =>
    refine ⟨?_, ?_⟩
    · intro x2 mh hImh hFmh hba1 hbx2 hRK54mh hM
      refine zw_eq (zr_241_2 n a0 a1 x2 mh) ?_
      have r1 : 0 ≤ (mh a0 4) ∧ (mh a0 4) ≤ 4 := zi_rd hImh hc0 zb_16_4
      refine zw_ite (fun h2 => ?_) (fun h2 => ?_)
      · exact zw_some ⟨hImh, hFmh, hRK54mh, ⟨by omega, by omega⟩⟩
      · have w3 := zu_w32_id (z := x2 + 1) (by omega) (by omega)
        have hM : (4 - (zu_w32 (x2 + 1))) * 1 + (4 - x2) * 5 + 0 < (k : Int) := by omega
        exact ih.2 x2 (zu_w32 (x2 + 1)) mh hImh hFmh ⟨by omega, by omega⟩ ⟨by omega, by omega⟩ ⟨by omega, by omega⟩ ⟨by omega, by omega⟩ hRK54mh hM
    · intro x2 x3 mh hImh hFmh hba1 hbx2 hbx3 hg3 hRK54mh hM
      refine zw_eq (zr_241_14 n a0 a1 x2 x3 mh) ?_
      refine zw_ite (fun h4 => ?_) (fun h4 => ?_)
      · have w5 := zu_w32_id (z := x2 + 1) (by omega) (by omega)
        have hM : (4 - (zu_w32 (x2 + 1))) * 5 + 4 < (k : Int) := by omega
        exact zw_le (zu_forget (zu_lr_same (zu_lr_same (zu_lr_same (zu_lr_drop (zu_lr_same zu_lr_nil)))))) (ih.1 (zu_w32 (x2 + 1)) mh hImh hFmh ⟨by omega, by omega⟩ ⟨by omega, by omega⟩ hRK54mh hM)
      · refine zw_bd (zw_mono (zk_242 n hImh hc0 ⟨by omega, by omega⟩ ⟨by omega, by omega⟩ hRK54mh) (fun v7 m6 hqm6 => ?_))
        obtain ⟨hIm6, hfm6, hvm6⟩ := hqm6
        have hFm6 := zfr_tr hFmh hfm6 rfl
        obtain ⟨hRK54m6, hvm6⟩ := hvm6
        refine zw_ite (fun h8 => ?_) (fun h8 => ?_)
        · have w9 := zu_w32_id (z := x3 + 1) (by omega) (by omega)
          have r10 : 0 ≤ (m6 a0 4) ∧ (m6 a0 4) ≤ 4 := zi_rd hIm6 hc0 zb_16_4
          have e11 : (m6 a0 4) = (mh a0 4) := (zfr_ap hfm6 hc0 rfl)
          have hM : (4 - (zu_w32 (x3 + 1))) * 1 + (4 - x2) * 5 + 0 < (k : Int) := by omega
          exact zw_le (zu_forget (zu_lr_same (zu_lr_same (zu_lr_same (zu_lr_same (zu_lr_drop zu_lr_nil)))))) (ih.2 x2 (zu_w32 (x3 + 1)) m6 hIm6 hFm6 ⟨by omega, by omega⟩ ⟨by omega, by omega⟩ ⟨by omega, by omega⟩ ⟨by omega, by omega⟩ hRK54m6 hM)
        · refine zw_ite (fun h12 => ?_) (fun h12 => ?_)
          · exact zw_some ⟨hIm6, hFm6, hRK54m6, ⟨by omega, by omega⟩⟩
          · refine zw_ite (fun h13 => ?_) (fun h13 => ?_)
            · exact zw_some ⟨hIm6, hFm6, hRK54m6, ⟨by omega, by omega⟩⟩
            · refine zw_ite (fun h14 => ?_) (fun h14 => ?_)
              · refine zw_nif (by omega) ?_
                have d15 : Int.tdiv v7 16 = v7 / 16 := Int.tdiv_eq_ediv_of_nonneg (by omega)
                have w16 := zu_w32_id (z := Int.tdiv v7 16) (by omega) (by omega)
                exact zw_some ⟨hIm6, hFm6, hRK54m6, ⟨by omega, by omega⟩⟩
              · refine zw_nif (by omega) ?_
                have d17 : Int.tmod v7 16 = v7 % 16 := Int.tmod_eq_emod_of_nonneg (by omega)
                exact zw_some ⟨hIm6, hFm6, hRK54m6, ⟨by omega, by omega⟩⟩
set_option maxHeartbeats 4000000 in
theorem zk_241 (n : Nat) {a0 a1 : Int} {m0 : zu_m} (hIm0 : zi_I m0) (hc0 : zcls a0 = 16) (ha1 : 0 ≤ a1 ∧ a1 ≤ 3)    (hRK54m0 : zR_K54 m0) : zw (zu_call (zt_T n) 241 [(27, a0), (0, a1)] m0) (fun v m => zi_I m ∧ zfr [(56, 0), (59, 1), (59, 2), (59, 3), (59, 4), (59, 5), (59, 6), (59, 7)] m0 m ∧ zR_K54 m ∧ ((-2) ≤ v ∧ v ≤ 15)) := by
  have hFm0 : zfr [(56, 0), (59, 1), (59, 2), (59, 3), (59, 4), (59, 5), (59, 6), (59, 7)] m0 m0 := zfr_rf _ _
  refine zw_eq (zr_241_0 n a0 a1 m0) ?_
  have hM : (4 - 0) * 5 + 4 < ((25 : Nat) : Int) := by omega
  exact (zl_241 n (m0 := m0) hc0 25).1 0 m0 hIm0 hFm0 ⟨by omega, by omega⟩ ⟨by omega, by omega⟩ hRK54m0 hM
set_option maxHeartbeats 4000000 in
theorem zk_258 (n : Nat) {a0 : Int} {m0 : zu_m} (hIm0 : zi_I m0) (hc0 : zcls a0 = 3)   (he0 : 1 ≤ m0 45 4 ∧ m0 45 4 ≤ 5)  (hRK10m0 : zR_K10 m0) : zw (zu_call (zt_T n) 258 [(7, a0)] m0) (fun v m => zi_I m ∧ zfr [(3, 5), (3, 6), (3, 7), (3, 8), (3, 9), (3, 10), (3, 11), (4, 1), (4, 2), (4, 3), (4, 4), (4, 5), (4, 6), (5, 6), (5, 7), (6, 3), (6, 5), (6, 11), (6, 12), (7, 1), (7, 2), (7, 3), (7, 4), (8, 1), (8, 2), (8, 3), (8, 4), (8, 5), (8, 6), (8, 7), (9, 4), (9, 5), (9, 6), (9, 7), (10, 4), (10, 5), (10, 7), (10, 8), (30, 0), (31, 0), (32, 0), (33, 0), (34, 0), (35, 0), (36, 0), (47, 0), (48, 0)] m0 m ∧ zR_K10 m ∧ (0 ≤ v ∧ v ≤ 1)) := by
  have hFm0 : zfr [(3, 5), (3, 6), (3, 7), (3, 8), (3, 9), (3, 10), (3, 11), (4, 1), (4, 2), (4, 3), (4, 4), (4, 5), (4, 6), (5, 6), (5, 7), (6, 3), (6, 5), (6, 11), (6, 12), (7, 1), (7, 2), (7, 3), (7, 4), (8, 1), (8, 2), (8, 3), (8, 4), (8, 5), (8, 6), (8, 7), (9, 4), (9, 5), (9, 6), (9, 7), (10, 4), (10, 5), (10, 7), (10, 8), (30, 0), (31, 0), (32, 0), (33, 0), (34, 0), (35, 0), (36, 0), (47, 0), (48, 0)] m0 m0 := zfr_rf _ _
  refine zw_eq (zr_258_0 n a0 m0) ?_
  refine zw_bd (zw_eq (zr_279_0 n 45 0 12 m0) ?_)
  refine zw_ite (fun h1 => ?_) (fun h1 => ?_)
  · refine zw_b (by omega) ?_
    refine zw_some ?_
    refine zw_ite (fun h2 => ?_) (fun h2 => ?_)
    · exfalso; omega
    · refine zw_bd (zw_eq (zr_257_0 n a0 1 m0) ?_)
      generalize hmm3 : zu_up m0 a0 9 1 = m3
      have hIm3 := zi_up hmm3 hIm0 hc0 zb_3_9 (by omega) (by omega)
      have hFm3 := zfr_up hmm3 hFm0 hc0 rfl
      have hRK10m3 := zR_K10_fr (zdis_fr (zfr_up hmm3 (zfr_rf [(3, 10)] _) hc0 rfl) rfl) hRK10m0
      have r4 : 0 ≤ (m3 45 6) ∧ (m3 45 6) ≤ 700 := zi_rd hIm3 zq_45 zb_9_6
      generalize hmm5 : zu_up m3 a0 10 (m3 45 6) = m5
      have hIm5 := zi_up hmm5 hIm3 hc0 zb_3_10 (by omega) (by omega)
      have hFm5 := zfr_up hmm5 hFm3 hc0 rfl
      have hRK10m5 := zR_K10_fr (zdis_fr (zfr_up hmm5 (zfr_rf [(3, 11)] _) hc0 rfl) rfl) hRK10m3
      refine zw_b (by omega) ?_
      refine zw_some ?_
      refine zw_b (by omega) ?_
      exact zw_some ⟨hIm5, hFm5, hRK10m5, ⟨by omega, by omega⟩⟩
  · have r6 : (-2147483648) ≤ (m0 45 5) ∧ (m0 45 5) ≤ 2147483647 := zi_rd hIm0 zq_45 zb_9_5
    refine zw_ite (fun h7 => ?_) (fun h7 => ?_)
    · refine zw_b (by omega) ?_
      refine zw_some ?_
      refine zw_ite (fun h8 => ?_) (fun h8 => ?_)
      · exfalso; omega
      · refine zw_bd (zw_eq (zr_257_0 n a0 1 m0) ?_)
        generalize hmm9 : zu_up m0 a0 9 1 = m9
        have hIm9 := zi_up hmm9 hIm0 hc0 zb_3_9 (by omega) (by omega)
        have hFm9 := zfr_up hmm9 hFm0 hc0 rfl
        have hRK10m9 := zR_K10_fr (zdis_fr (zfr_up hmm9 (zfr_rf [(3, 10)] _) hc0 rfl) rfl) hRK10m0
        have r10 : 0 ≤ (m9 45 6) ∧ (m9 45 6) ≤ 700 := zi_rd hIm9 zq_45 zb_9_6
        generalize hmm11 : zu_up m9 a0 10 (m9 45 6) = m11
        have hIm11 := zi_up hmm11 hIm9 hc0 zb_3_10 (by omega) (by omega)
        have hFm11 := zfr_up hmm11 hFm9 hc0 rfl
        have hRK10m11 := zR_K10_fr (zdis_fr (zfr_up hmm11 (zfr_rf [(3, 11)] _) hc0 rfl) rfl) hRK10m9
        refine zw_b (by omega) ?_
        refine zw_some ?_
        refine zw_b (by omega) ?_
        exact zw_some ⟨hIm11, hFm11, hRK10m11, ⟨by omega, by omega⟩⟩
    · have w12 := zu_w32_id (z := 0 + 12) (by omega) (by omega)
      refine zw_ite (fun h13 => ?_) (fun h13 => ?_)
      · refine zw_b (by omega) ?_
        refine zw_some ?_
        refine zw_ite (fun h14 => ?_) (fun h14 => ?_)
        · exfalso; omega
        · refine zw_bd (zw_eq (zr_257_0 n a0 1 m0) ?_)
          generalize hmm15 : zu_up m0 a0 9 1 = m15
          have hIm15 := zi_up hmm15 hIm0 hc0 zb_3_9 (by omega) (by omega)
          have hFm15 := zfr_up hmm15 hFm0 hc0 rfl
          have hRK10m15 := zR_K10_fr (zdis_fr (zfr_up hmm15 (zfr_rf [(3, 10)] _) hc0 rfl) rfl) hRK10m0
          have r16 : 0 ≤ (m15 45 6) ∧ (m15 45 6) ≤ 700 := zi_rd hIm15 zq_45 zb_9_6
          generalize hmm17 : zu_up m15 a0 10 (m15 45 6) = m17
          have hIm17 := zi_up hmm17 hIm15 hc0 zb_3_10 (by omega) (by omega)
          have hFm17 := zfr_up hmm17 hFm15 hc0 rfl
          have hRK10m17 := zR_K10_fr (zdis_fr (zfr_up hmm17 (zfr_rf [(3, 11)] _) hc0 rfl) rfl) hRK10m15
          refine zw_b (by omega) ?_
          refine zw_some ?_
          refine zw_b (by omega) ?_
          exact zw_some ⟨hIm17, hFm17, hRK10m17, ⟨by omega, by omega⟩⟩
      · refine zw_b (by omega) ?_
        refine zw_some ?_
        refine zw_ite (fun h18 => ?_) (fun h18 => ?_)
        · refine zw_ite (fun h19 => ?_) (fun h19 => ?_)
          · refine zw_bd (zw_mono (zk_264 n hIm0 hc0) (fun v21 m20 hqm20 => ?_))
            obtain ⟨hIm20, hfm20, hvm20⟩ := hqm20
            have hFm20 := zfr_tr hFm0 hfm20 rfl
            have hRK10m20 := zR_K10_fr (zdis_fr hfm20 rfl) hRK10m0
            refine zw_ite (fun h22 => ?_) (fun h22 => ?_)
            · refine zw_b (by omega) ?_
              exact zw_some ⟨hIm20, hFm20, hRK10m20, ⟨by omega, by omega⟩⟩
            · refine zw_bd (zw_mono (zk_259 n hIm20 hc0) (fun v24 m23 hqm23 => ?_))
              obtain ⟨hIm23, hfm23, hvm23⟩ := hqm23
              have hFm23 := zfr_tr hFm20 hfm23 rfl
              obtain ⟨hRTVm23, hvm23⟩ := hvm23
              have hRK10m23 := zR_K10_fr (zdis_fr hfm23 rfl) hRK10m20
              have s25 := hRTVm23 45 zq_45
              refine zw_ite (fun h26 => ?_) (fun h26 => ?_)
              · refine zw_b (by omega) ?_
                exact zw_some ⟨hIm23, hFm23, hRK10m23, ⟨by omega, by omega⟩⟩
              · refine zw_b (by omega) ?_
                exact zw_some ⟨hIm23, hFm23, hRK10m23, ⟨by omega, by omega⟩⟩
          · refine zw_ite (fun h27 => ?_) (fun h27 => ?_)
            · refine zw_bd (zw_mono (zk_266 n hIm0 hc0 ⟨by omega, by omega⟩ ⟨by omega, by omega⟩) (fun v29 m28 hqm28 => ?_))
              obtain ⟨hIm28, hfm28, hvm28⟩ := hqm28
              have hFm28 := zfr_tr hFm0 hfm28 rfl
              have hRK10m28 := zR_K10_fr (zdis_fr hfm28 rfl) hRK10m0
              refine zw_ite (fun h30 => ?_) (fun h30 => ?_)
              · refine zw_b (by omega) ?_
                exact zw_some ⟨hIm28, hFm28, hRK10m28, ⟨by omega, by omega⟩⟩
              · refine zw_bd (zw_mono (zk_259 n hIm28 hc0) (fun v32 m31 hqm31 => ?_))
                obtain ⟨hIm31, hfm31, hvm31⟩ := hqm31
                have hFm31 := zfr_tr hFm28 hfm31 rfl
                obtain ⟨hRTVm31, hvm31⟩ := hvm31
                have hRK10m31 := zR_K10_fr (zdis_fr hfm31 rfl) hRK10m28
                have s33 := hRTVm31 45 zq_45
                refine zw_ite (fun h34 => ?_) (fun h34 => ?_)
                · refine zw_b (by omega) ?_
                  exact zw_some ⟨hIm31, hFm31, hRK10m31, ⟨by omega, by omega⟩⟩
                · refine zw_b (by omega) ?_
                  exact zw_some ⟨hIm31, hFm31, hRK10m31, ⟨by omega, by omega⟩⟩
            · refine zw_ite (fun h35 => ?_) (fun h35 => ?_)
              · refine zw_bd (zw_mono (zk_267 n hIm0 hc0 ⟨by omega, by omega⟩ ⟨by omega, by omega⟩) (fun v37 m36 hqm36 => ?_))
                obtain ⟨hIm36, hfm36, hvm36⟩ := hqm36
                have hFm36 := zfr_tr hFm0 hfm36 rfl
                have hRK10m36 := zR_K10_fr (zdis_fr hfm36 rfl) hRK10m0
                refine zw_ite (fun h38 => ?_) (fun h38 => ?_)
                · refine zw_b (by omega) ?_
                  exact zw_some ⟨hIm36, hFm36, hRK10m36, ⟨by omega, by omega⟩⟩
                · refine zw_bd (zw_mono (zk_259 n hIm36 hc0) (fun v40 m39 hqm39 => ?_))
                  obtain ⟨hIm39, hfm39, hvm39⟩ := hqm39
                  have hFm39 := zfr_tr hFm36 hfm39 rfl
                  obtain ⟨hRTVm39, hvm39⟩ := hvm39
                  have hRK10m39 := zR_K10_fr (zdis_fr hfm39 rfl) hRK10m36
                  have s41 := hRTVm39 45 zq_45
                  refine zw_ite (fun h42 => ?_) (fun h42 => ?_)
                  · refine zw_b (by omega) ?_
                    exact zw_some ⟨hIm39, hFm39, hRK10m39, ⟨by omega, by omega⟩⟩
                  · refine zw_b (by omega) ?_
                    exact zw_some ⟨hIm39, hFm39, hRK10m39, ⟨by omega, by omega⟩⟩
              · refine zw_ite (fun h43 => ?_) (fun h43 => ?_)
                · refine zw_bd (zw_mono (zk_270 n hIm0 hc0 ⟨by omega, by omega⟩ ⟨by omega, by omega⟩ hRK10m0) (fun v45 m44 hqm44 => ?_))
                  obtain ⟨hIm44, hfm44, hvm44⟩ := hqm44
                  have hFm44 := zfr_tr hFm0 hfm44 rfl
                  obtain ⟨hRK10m44, hvm44⟩ := hvm44
                  refine zw_b (by omega) ?_
                  exact zw_some ⟨hIm44, hFm44, hRK10m44, ⟨by omega, by omega⟩⟩
                · refine zw_ite (fun h46 => ?_) (fun h46 => ?_)
                  · refine zw_bd (zw_mono (zk_268 n hIm0 hc0 ⟨by omega, by omega⟩) (fun v48 m47 hqm47 => ?_))
                    obtain ⟨hIm47, hfm47, hvm47⟩ := hqm47
                    have hFm47 := zfr_tr hFm0 hfm47 rfl
                    have hRK10m47 := zR_K10_fr (zdis_fr hfm47 rfl) hRK10m0
                    refine zw_ite (fun h49 => ?_) (fun h49 => ?_)
                    · refine zw_b (by omega) ?_
                      exact zw_some ⟨hIm47, hFm47, hRK10m47, ⟨by omega, by omega⟩⟩
                    · refine zw_bd (zw_mono (zk_259 n hIm47 hc0) (fun v51 m50 hqm50 => ?_))
                      obtain ⟨hIm50, hfm50, hvm50⟩ := hqm50
                      have hFm50 := zfr_tr hFm47 hfm50 rfl
                      obtain ⟨hRTVm50, hvm50⟩ := hvm50
                      have hRK10m50 := zR_K10_fr (zdis_fr hfm50 rfl) hRK10m47
                      have s52 := hRTVm50 45 zq_45
                      refine zw_ite (fun h53 => ?_) (fun h53 => ?_)
                      · refine zw_b (by omega) ?_
                        exact zw_some ⟨hIm50, hFm50, hRK10m50, ⟨by omega, by omega⟩⟩
                      · refine zw_b (by omega) ?_
                        exact zw_some ⟨hIm50, hFm50, hRK10m50, ⟨by omega, by omega⟩⟩
                  · refine zw_bd (zw_mono (zk_265 n hIm0 hc0 ⟨by omega, by omega⟩) (fun v55 m54 hqm54 => ?_))
                    obtain ⟨hIm54, hfm54, hvm54⟩ := hqm54
                    have hFm54 := zfr_tr hFm0 hfm54 rfl
                    have hRK10m54 := zR_K10_fr (zdis_fr hfm54 rfl) hRK10m0
                    refine zw_ite (fun h56 => ?_) (fun h56 => ?_)
                    · refine zw_b (by omega) ?_
                      exact zw_some ⟨hIm54, hFm54, hRK10m54, ⟨by omega, by omega⟩⟩
                    · refine zw_bd (zw_mono (zk_259 n hIm54 hc0) (fun v58 m57 hqm57 => ?_))
                      obtain ⟨hIm57, hfm57, hvm57⟩ := hqm57
                      have hFm57 := zfr_tr hFm54 hfm57 rfl
                      obtain ⟨hRTVm57, hvm57⟩ := hvm57
                      have hRK10m57 := zR_K10_fr (zdis_fr hfm57 rfl) hRK10m54
                      have s59 := hRTVm57 45 zq_45
                      refine zw_ite (fun h60 => ?_) (fun h60 => ?_)
                      · refine zw_b (by omega) ?_
                        exact zw_some ⟨hIm57, hFm57, hRK10m57, ⟨by omega, by omega⟩⟩
                      · refine zw_b (by omega) ?_
                        exact zw_some ⟨hIm57, hFm57, hRK10m57, ⟨by omega, by omega⟩⟩
        · exfalso; omega

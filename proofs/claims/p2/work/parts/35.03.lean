set_option maxHeartbeats 4000000 in
theorem zk_44 (n : Nat) {a0 a1 : Int} {m0 : zu_m} (hIm0 : zi_I m0) (hc0 : zcls a0 = 2) (ha1 : (-2147483648) ≤ a1 ∧ a1 ≤ 2147483647)    : zw (zu_call (zt_T n) 44 [(5, a0), (0, a1)] m0) (fun v m => zi_I m ∧ zfr [] m0 m ∧ ((-1) ≤ v ∧ v ≤ 3)) := by
  have hFm0 : zfr [] m0 m0 := zfr_rf _ _
  refine zw_eq (zr_44_0 n a0 a1 m0) ?_
  refine zw_bd (zw_mono (zk_212_11 n hIm0 zq_89 ⟨by omega, by omega⟩) (fun v2 m1 hqm1 => ?_))
  obtain ⟨hIm1, hfm1, hvm1⟩ := hqm1
  have hFm1 := zfr_tr hFm0 hfm1 rfl
  exact zw_some ⟨hIm1, hFm1, ⟨by omega, by omega⟩⟩
set_option maxHeartbeats 4000000 in
theorem zk_46 (n : Nat) {a0 a1 a2 : Int} {m0 : zu_m} (hIm0 : zi_I m0) (hc0 : zcls a0 = 2) (ha1 : (-2147483648) ≤ a1 ∧ a1 ≤ 2147483647) (ha2 : (-2147483648) ≤ a2 ∧ a2 ≤ 2147483647)    : zw (zu_call (zt_T n) 46 [(5, a0), (0, a1), (0, a2)] m0) (fun v m => zi_I m ∧ zfr [] m0 m ∧ ((-4) ≤ v ∧ v ≤ 47)) := by
  have hFm0 : zfr [] m0 m0 := zfr_rf _ _
  refine zw_eq (zr_46_0 n a0 a1 a2 m0) ?_
  refine zw_bd (zw_eq (zr_210_0 n 89 a1 m0) ?_)
  refine zw_ite (fun h1 => ?_) (fun h1 => ?_)
  · refine zw_b (by omega) ?_
    refine zw_some ?_
    refine zw_ite (fun h2 => ?_) (fun h2 => ?_)
    · exfalso; omega
    · exact zw_some ⟨hIm0, hFm0, ⟨by omega, by omega⟩⟩
  · have r3 : 0 ≤ (m0 89 2) ∧ (m0 89 2) ≤ 16 := zi_rd hIm0 zq_89 zb_11_2
    refine zw_ite (fun h4 => ?_) (fun h4 => ?_)
    · refine zw_b (by omega) ?_
      refine zw_some ?_
      refine zw_ite (fun h5 => ?_) (fun h5 => ?_)
      · exfalso; omega
      · exact zw_some ⟨hIm0, hFm0, ⟨by omega, by omega⟩⟩
    · refine zw_b (by omega) ?_
      refine zw_some ?_
      refine zw_ite (fun h6 => ?_) (fun h6 => ?_)
      · have b7 : 0 ≤ a1 ∧ a1 < 16 := by omega
        refine zw_if b7 ?_
        refine zw_ite (fun h8 => ?_) (fun h8 => ?_)
        · have r9 : 0 ≤ (m0 ((89 + 1) + 5 + a1) 0) ∧ (m0 ((89 + 1) + 5 + a1) 0) ≤ 47 := zi_rd hIm0 (zc_36_e (zc_11_1 zq_89) b7) zb_7_0
          exact zw_some ⟨hIm0, hFm0, ⟨by omega, by omega⟩⟩
        · refine zw_ite (fun h10 => ?_) (fun h10 => ?_)
          · have r11 : 0 ≤ (m0 ((89 + 1) + 5 + a1) 1) ∧ (m0 ((89 + 1) + 5 + a1) 1) ≤ 3 := zi_rd hIm0 (zc_36_e (zc_11_1 zq_89) b7) zb_7_1
            exact zw_some ⟨hIm0, hFm0, ⟨by omega, by omega⟩⟩
          · refine zw_ite (fun h12 => ?_) (fun h12 => ?_)
            · have r13 : 0 ≤ (m0 ((89 + 1) + 5 + a1) 2) ∧ (m0 ((89 + 1) + 5 + a1) 2) ≤ 9 := zi_rd hIm0 (zc_36_e (zc_11_1 zq_89) b7) zb_7_2
              exact zw_some ⟨hIm0, hFm0, ⟨by omega, by omega⟩⟩
            · refine zw_ite (fun h14 => ?_) (fun h14 => ?_)
              · have r15 : (-3) ≤ (m0 ((89 + 1) + 5 + a1) 3) ∧ (m0 ((89 + 1) + 5 + a1) 3) ≤ 3 := zi_rd hIm0 (zc_36_e (zc_11_1 zq_89) b7) zb_7_3
                exact zw_some ⟨hIm0, hFm0, ⟨by omega, by omega⟩⟩
              · exact zw_some ⟨hIm0, hFm0, ⟨by omega, by omega⟩⟩
      · exfalso; omega
set_option maxHeartbeats 4000000 in
theorem zk_58 (n : Nat) {a0 a1 : Int} {m0 : zu_m} (hIm0 : zi_I m0) (hc0 : zcls a0 = 2) (ha1 : (-2147483648) ≤ a1 ∧ a1 ≤ 2147483647)    : zw (zu_call (zt_T n) 58 [(5, a0), (0, a1)] m0) (fun v m => zi_I m ∧ zfr [] m0 m ∧ ((-1) ≤ v ∧ v ≤ 999000)) := by
  have hFm0 : zfr [] m0 m0 := zfr_rf _ _
  refine zw_eq (zr_58_0 n a0 a1 m0) ?_
  refine zw_bd (zw_eq (zr_244_0 n 50 a1 m0) ?_)
  refine zw_ite (fun h1 => ?_) (fun h1 => ?_)
  · refine zw_b (by omega) ?_
    refine zw_some ?_
    refine zw_ite (fun h2 => ?_) (fun h2 => ?_)
    · exact zw_some ⟨hIm0, hFm0, ⟨by omega, by omega⟩⟩
    · exfalso; omega
  · have r3 : 1 ≤ (m0 50 2) ∧ (m0 50 2) ≤ 48 := zi_rd hIm0 zq_50 zb_4_2
    refine zw_ite (fun h4 => ?_) (fun h4 => ?_)
    · refine zw_b (by omega) ?_
      refine zw_some ?_
      refine zw_ite (fun h5 => ?_) (fun h5 => ?_)
      · exact zw_some ⟨hIm0, hFm0, ⟨by omega, by omega⟩⟩
      · exfalso; omega
    · refine zw_b (by omega) ?_
      refine zw_some ?_
      refine zw_ite (fun h6 => ?_) (fun h6 => ?_)
      · exfalso; omega
      · have b7 : 0 ≤ a1 ∧ a1 < 48 := by omega
        refine zw_if b7 ?_
        have r8 : 0 ≤ (m0 (89 + 4) a1) ∧ (m0 (89 + 4) a1) ≤ 999000 := zi_rd hIm0 (zc_11_6 zq_89) (zb_39 _)
        exact zw_some ⟨hIm0, hFm0, ⟨by omega, by omega⟩⟩
set_option maxHeartbeats 4000000 in
theorem zk_72 (n : Nat) {a0 a1 a2 a3 a4 : Int} {m0 : zu_m} (hIm0 : zi_I m0) (hc0 : zcls a0 = 2) (ha1 : (-2147483648) ≤ a1 ∧ a1 ≤ 2147483647) (ha2 : (-2147483648) ≤ a2 ∧ a2 ≤ 2147483647) (ha3 : (-2147483648) ≤ a3 ∧ a3 ≤ 2147483647) (ha4 : 0 ≤ a4 ∧ a4 ≤ 1)    : zw (zu_call (zt_T n) 72 [(5, a0), (0, a1), (0, a2), (0, a3), (0, a4)] m0) (fun v m => zi_I m ∧ zfr [(12, 7), (41, 0), (42, 0), (43, 0), (44, 0), (45, 0)] m0 m ∧ ((-1) ≤ v ∧ v ≤ 23)) := by
  have hFm0 : zfr [(12, 7), (41, 0), (42, 0), (43, 0), (44, 0), (45, 0)] m0 m0 := zfr_rf _ _
  refine zw_eq (zr_72_0 n a0 a1 a2 a3 a4 m0) ?_
  refine zw_bd (zw_eq (zr_53_0 n a1 m0) ?_)
  refine zw_ite (fun h1 => ?_) (fun h1 => ?_)
  · refine zw_b (by omega) ?_
    refine zw_some ?_
    refine zw_ite (fun h2 => ?_) (fun h2 => ?_)
    · exact zw_some ⟨hIm0, hFm0, ⟨by omega, by omega⟩⟩
    · exfalso; omega
  · refine zw_ite (fun h3 => ?_) (fun h3 => ?_)
    · refine zw_b (by omega) ?_
      refine zw_some ?_
      refine zw_ite (fun h4 => ?_) (fun h4 => ?_)
      · exact zw_some ⟨hIm0, hFm0, ⟨by omega, by omega⟩⟩
      · exfalso; omega
    · refine zw_b (by omega) ?_
      refine zw_some ?_
      refine zw_ite (fun h5 => ?_) (fun h5 => ?_)
      · exfalso; omega
      · refine zw_bd (zw_eq (zr_211_0 n 89 a2 m0) ?_)
        refine zw_ite (fun h6 => ?_) (fun h6 => ?_)
        · refine zw_b (by omega) ?_
          refine zw_some ?_
          refine zw_ite (fun h7 => ?_) (fun h7 => ?_)
          · exact zw_some ⟨hIm0, hFm0, ⟨by omega, by omega⟩⟩
          · exfalso; omega
        · have r8 : 0 ≤ (m0 89 4) ∧ (m0 89 4) ≤ 4 := zi_rd hIm0 zq_89 zb_11_4
          refine zw_ite (fun h9 => ?_) (fun h9 => ?_)
          · refine zw_b (by omega) ?_
            refine zw_some ?_
            refine zw_ite (fun h10 => ?_) (fun h10 => ?_)
            · exact zw_some ⟨hIm0, hFm0, ⟨by omega, by omega⟩⟩
            · exfalso; omega
          · refine zw_b (by omega) ?_
            refine zw_some ?_
            refine zw_ite (fun h11 => ?_) (fun h11 => ?_)
            · exfalso; omega
            · refine zw_ite (fun h12 => ?_) (fun h12 => ?_)
              · exact zw_some ⟨hIm0, hFm0, ⟨by omega, by omega⟩⟩
              · refine zw_ite (fun h13 => ?_) (fun h13 => ?_)
                · refine zw_bd (zw_mono (zk_272 n hIm0 zq_141 ⟨by omega, by omega⟩ ⟨by omega, by omega⟩ ⟨by omega, by omega⟩ ⟨by omega, by omega⟩) (fun v15 m14 hqm14 => ?_))
                  obtain ⟨hIm14, hfm14, hvm14⟩ := hqm14
                  have hFm14 := zfr_tr hFm0 hfm14 rfl
                  exact zw_some ⟨hIm14, hFm14, ⟨by omega, by omega⟩⟩
                · exact zw_some ⟨hIm0, hFm0, ⟨by omega, by omega⟩⟩
set_option maxHeartbeats 4000000 in
theorem zk_73 (n : Nat) {a0 a1 : Int} {m0 : zu_m} (hIm0 : zi_I m0) (hc0 : zcls a0 = 2) (ha1 : (-2147483648) ≤ a1 ∧ a1 ≤ 2147483647)    : zw (zu_call (zt_T n) 73 [(5, a0), (0, a1)] m0) (fun v m => zi_I m ∧ zfr [(12, 7), (45, 0)] m0 m ∧ ((-1) ≤ v ∧ v ≤ 23)) := by
  have hFm0 : zfr [(12, 7), (45, 0)] m0 m0 := zfr_rf _ _
  refine zw_eq (zr_73_0 n a0 a1 m0) ?_
  refine zw_bd (zw_mono (zk_273 n hIm0 zq_141 ⟨by omega, by omega⟩) (fun v2 m1 hqm1 => ?_))
  obtain ⟨hIm1, hfm1, hvm1⟩ := hqm1
  have hFm1 := zfr_tr hFm0 hfm1 rfl
  exact zw_some ⟨hIm1, hFm1, ⟨by omega, by omega⟩⟩
set_option maxHeartbeats 4000000 in
theorem zl_89 (n : Nat) {a0 : Int} {m0 : zu_m} (hc0 : zcls a0 = 15)  : ∀ k : Nat, (∀ (mh : zu_m), zi_I mh → zfr [(15, 8), (15, 9), (15, 10), (15, 11)] m0 mh → (700 - (mh a0 7)) * 1 + 1402 < (k : Int) → zw (zu_ex (zt_T n) 89 0 [(40, a0)] [] mh) (fun v m => zi_I m ∧ zfr [(15, 8), (15, 9), (15, 10), (15, 11)] m0 m ∧ True)) ∧ (∀ (mh : zu_m), zi_I mh → zfr [(15, 8), (15, 9), (15, 10), (15, 11)] m0 mh → (1 ≤ mh a0 6 ∧ mh a0 6 ≤ 700) → (700 - (mh a0 7)) * 1 + 701 < (k : Int) → zw (zu_ex (zt_T n) 89 90 [(40, a0)] [] mh) (fun v m => zi_I m ∧ zfr [(15, 8), (15, 9), (15, 10), (15, 11)] m0 m ∧ True)) ∧ (∀ (mh : zu_m), zi_I mh → zfr [(15, 8), (15, 9), (15, 10), (15, 11)] m0 mh → (1 ≤ mh a0 6 ∧ mh a0 6 ≤ 700) → (3 ≤ mh a0 8 ∧ mh a0 8 ≤ 3) → (0 ≤ mh a0 9 ∧ mh a0 9 ≤ 999999) → (700 - (mh a0 7)) * 1 + 0 < (k : Int) → zw (zu_ex (zt_T n) 89 213 [(40, a0)] [] mh) (fun v m => zi_I m ∧ zfr [(15, 8), (15, 9), (15, 10), (15, 11)] m0 m ∧ True)) := by
  intro k
  induction k with
  | zero => exact ⟨fun mh hImh hFmh hM => by exfalso; omega, fun mh hImh hFmh hg0 hM => by exfalso; omega, fun mh hImh hFmh hg0 hg1 hg2 hM => by exfalso; omega⟩
  | succ k ih =>
    refine ⟨?_, ?_, ?_⟩
    · intro mh hImh hFmh hM
      refine zw_eq (zr_89_0 n a0 mh) ?_
      have r1 : 0 ≤ (mh a0 7) ∧ (mh a0 7) ≤ 700 := zi_rd hImh hc0 zb_15_7
      have r2 : 0 ≤ (mh a0 6) ∧ (mh a0 6) ≤ 700 := zi_rd hImh hc0 zb_15_6
      refine zw_ite (fun h3 => ?_) (fun h3 => ?_)
      · generalize hmm4 : zu_up mh a0 10 (mh a0 7) = m4
        have hIm4 := zi_up hmm4 hImh hc0 zb_15_10 (by omega) (by omega)
        have hFm4 := zfr_up hmm4 hFmh hc0 rfl
        have r5 : 0 ≤ (m4 a0 7) ∧ (m4 a0 7) ≤ 700 := zi_rd hIm4 hc0 zb_15_7
        have e6 : (m4 a0 7) = (mh a0 7) := (zs_ne hmm4 (Or.inr (by decide)))
        have r7 : 0 ≤ (m4 a0 6) ∧ (m4 a0 6) ≤ 700 := zi_rd hIm4 hc0 zb_15_6
        have e8 : (m4 a0 6) = (mh a0 6) := (zs_ne hmm4 (Or.inr (by decide)))
        refine zw_ite (fun h9 => ?_) (fun h9 => ?_)
        · refine zw_bd (zw_eq (zr_87_0 n a0 (m4 a0 7) m4) ?_)
          refine zw_ite (fun h10 => ?_) (fun h10 => ?_)
          · refine zw_b (by omega) ?_
            refine zw_some ?_
            refine zw_ite (fun h11 => ?_) (fun h11 => ?_)
            · refine zw_bd (zw_eq (zr_88_0 n a0 (m4 a0 7) m4) ?_)
              refine zw_ite (fun h12 => ?_) (fun h12 => ?_)
              · refine zw_b (by omega) ?_
                refine zw_some ?_
                refine zw_ite (fun h13 => ?_) (fun h13 => ?_)
                · refine zw_bd (zw_mono (zk_90 n hIm4 hc0) (fun v15 m14 hqm14 => ?_))
                  obtain ⟨hIm14, hfm14, hvm14⟩ := hqm14
                  have hFm14 := zfr_tr hFm4 hfm14 rfl
                  exact zw_some ⟨hIm14, hFm14, trivial⟩
                · exfalso; omega
              · have b16 : 0 ≤ (m4 a0 7) ∧ (m4 a0 7) < 700 := by omega
                refine zw_if b16 ?_
                have r17 : (-2147483648) ≤ (m4 191 (m4 a0 7)) ∧ (m4 191 (m4 a0 7)) ≤ 2147483647 := zi_rd hIm4 zq_191 (zb_61 _)
                refine zw_ite (fun h18 => ?_) (fun h18 => ?_)
                · refine zw_b (by omega) ?_
                  refine zw_some ?_
                  refine zw_ite (fun h19 => ?_) (fun h19 => ?_)
                  · refine zw_bd (zw_mono (zk_90 n hIm4 hc0) (fun v21 m20 hqm20 => ?_))
                    obtain ⟨hIm20, hfm20, hvm20⟩ := hqm20
                    have hFm20 := zfr_tr hFm4 hfm20 rfl
                    exact zw_some ⟨hIm20, hFm20, trivial⟩
                  · exfalso; omega
                · have b22 : 0 ≤ (m4 a0 7) ∧ (m4 a0 7) < 700 := by omega
                  refine zw_if b22 ?_
                  refine zw_ite (fun h23 => ?_) (fun h23 => ?_)
                  · refine zw_b (by omega) ?_
                    refine zw_some ?_
                    refine zw_ite (fun h24 => ?_) (fun h24 => ?_)
                    · refine zw_bd (zw_mono (zk_90 n hIm4 hc0) (fun v26 m25 hqm25 => ?_))
                      obtain ⟨hIm25, hfm25, hvm25⟩ := hqm25
                      have hFm25 := zfr_tr hFm4 hfm25 rfl
                      exact zw_some ⟨hIm25, hFm25, trivial⟩
                    · exfalso; omega
                  · refine zw_b (by omega) ?_
                    refine zw_some ?_
                    refine zw_ite (fun h27 => ?_) (fun h27 => ?_)
                    · exfalso; omega
                    · generalize hmm28 : zu_up m4 a0 8 3 = m28
                      have hIm28 := zi_up hmm28 hIm4 hc0 zb_15_8 (by omega) (by omega)
                      have hFm28 := zfr_up hmm28 hFm4 hc0 rfl
                      generalize hmm29 : zu_up m28 a0 9 0 = m29
                      have hIm29 := zi_up hmm29 hIm28 hc0 zb_15_9 (by omega) (by omega)
                      have hFm29 := zfr_up hmm29 hFm28 hc0 rfl
                      have r30 : 0 ≤ (m29 a0 6) ∧ (m29 a0 6) ≤ 700 := zi_rd hIm29 hc0 zb_15_6
                      have e31 : (m29 a0 6) = (m4 a0 6) := (Eq.trans (zs_ne hmm29 (Or.inr (by decide))) (zs_ne hmm28 (Or.inr (by decide))))
                      have r32 : 0 ≤ (m29 a0 8) ∧ (m29 a0 8) ≤ 6 := zi_rd hIm29 hc0 zb_15_8
                      have e33 : (m29 a0 8) = 3 := (Eq.trans (zs_ne hmm29 (Or.inr (by decide))) (zs_eq hmm28))
                      have r34 : (-2147483648) ≤ (m29 a0 9) ∧ (m29 a0 9) ≤ 2147483647 := zi_rd hIm29 hc0 zb_15_9
                      have e35 : (m29 a0 9) = 0 := (zs_eq hmm29)
                      have r36 : 0 ≤ (m29 a0 7) ∧ (m29 a0 7) ≤ 700 := zi_rd hIm29 hc0 zb_15_7
                      have e37 : (m29 a0 7) = (m4 a0 7) := (Eq.trans (zs_ne hmm29 (Or.inr (by decide))) (zs_ne hmm28 (Or.inr (by decide))))
                      have hM : (700 - (m29 a0 7)) * 1 + 0 < (k : Int) := by omega
                      exact ih.2.2  m29 hIm29 hFm29 ⟨by omega, by omega⟩ ⟨by omega, by omega⟩ ⟨by omega, by omega⟩ hM
            · exfalso; omega
          · have b38 : 0 ≤ (m4 a0 7) ∧ (m4 a0 7) < 700 := by omega
            refine zw_if b38 ?_
            have r39 : (-2147483648) ≤ (m4 191 (m4 a0 7)) ∧ (m4 191 (m4 a0 7)) ≤ 2147483647 := zi_rd hIm4 zq_191 (zb_61 _)
            refine zw_ite (fun h40 => ?_) (fun h40 => ?_)
            · refine zw_b (by omega) ?_
              refine zw_some ?_
              refine zw_ite (fun h41 => ?_) (fun h41 => ?_)
              · refine zw_bd (zw_eq (zr_88_0 n a0 (m4 a0 7) m4) ?_)
                refine zw_ite (fun h42 => ?_) (fun h42 => ?_)
                · refine zw_b (by omega) ?_
                  refine zw_some ?_
                  refine zw_ite (fun h43 => ?_) (fun h43 => ?_)
                  · refine zw_bd (zw_mono (zk_90 n hIm4 hc0) (fun v45 m44 hqm44 => ?_))
                    obtain ⟨hIm44, hfm44, hvm44⟩ := hqm44
                    have hFm44 := zfr_tr hFm4 hfm44 rfl
                    exact zw_some ⟨hIm44, hFm44, trivial⟩
                  · exfalso; omega
                · have b46 : 0 ≤ (m4 a0 7) ∧ (m4 a0 7) < 700 := by omega
                  refine zw_if b46 ?_
                  refine zw_ite (fun h47 => ?_) (fun h47 => ?_)
                  · refine zw_b (by omega) ?_
                    refine zw_some ?_
                    refine zw_ite (fun h48 => ?_) (fun h48 => ?_)
                    · refine zw_bd (zw_mono (zk_90 n hIm4 hc0) (fun v50 m49 hqm49 => ?_))
                      obtain ⟨hIm49, hfm49, hvm49⟩ := hqm49
                      have hFm49 := zfr_tr hFm4 hfm49 rfl
                      exact zw_some ⟨hIm49, hFm49, trivial⟩
                    · exfalso; omega
                  · have b51 : 0 ≤ (m4 a0 7) ∧ (m4 a0 7) < 700 := by omega
                    refine zw_if b51 ?_
                    refine zw_ite (fun h52 => ?_) (fun h52 => ?_)
                    · refine zw_b (by omega) ?_
                      refine zw_some ?_
                      refine zw_ite (fun h53 => ?_) (fun h53 => ?_)
                      · refine zw_bd (zw_mono (zk_90 n hIm4 hc0) (fun v55 m54 hqm54 => ?_))
                        obtain ⟨hIm54, hfm54, hvm54⟩ := hqm54
                        have hFm54 := zfr_tr hFm4 hfm54 rfl
                        exact zw_some ⟨hIm54, hFm54, trivial⟩
                      · exfalso; omega
                    · refine zw_b (by omega) ?_
                      refine zw_some ?_
                      refine zw_ite (fun h56 => ?_) (fun h56 => ?_)
                      · exfalso; omega
                      · generalize hmm57 : zu_up m4 a0 8 3 = m57
                        have hIm57 := zi_up hmm57 hIm4 hc0 zb_15_8 (by omega) (by omega)
                        have hFm57 := zfr_up hmm57 hFm4 hc0 rfl
                        generalize hmm58 : zu_up m57 a0 9 0 = m58
                        have hIm58 := zi_up hmm58 hIm57 hc0 zb_15_9 (by omega) (by omega)
                        have hFm58 := zfr_up hmm58 hFm57 hc0 rfl
                        have r59 : 0 ≤ (m58 a0 6) ∧ (m58 a0 6) ≤ 700 := zi_rd hIm58 hc0 zb_15_6
                        have e60 : (m58 a0 6) = (m4 a0 6) := (Eq.trans (zs_ne hmm58 (Or.inr (by decide))) (zs_ne hmm57 (Or.inr (by decide))))
                        have r61 : 0 ≤ (m58 a0 8) ∧ (m58 a0 8) ≤ 6 := zi_rd hIm58 hc0 zb_15_8
                        have e62 : (m58 a0 8) = 3 := (Eq.trans (zs_ne hmm58 (Or.inr (by decide))) (zs_eq hmm57))
                        have r63 : (-2147483648) ≤ (m58 a0 9) ∧ (m58 a0 9) ≤ 2147483647 := zi_rd hIm58 hc0 zb_15_9
                        have e64 : (m58 a0 9) = 0 := (zs_eq hmm58)
                        have r65 : 0 ≤ (m58 a0 7) ∧ (m58 a0 7) ≤ 700 := zi_rd hIm58 hc0 zb_15_7
                        have e66 : (m58 a0 7) = (m4 a0 7) := (Eq.trans (zs_ne hmm58 (Or.inr (by decide))) (zs_ne hmm57 (Or.inr (by decide))))
                        have hM : (700 - (m58 a0 7)) * 1 + 0 < (k : Int) := by omega
                        exact ih.2.2  m58 hIm58 hFm58 ⟨by omega, by omega⟩ ⟨by omega, by omega⟩ ⟨by omega, by omega⟩ hM
              · exfalso; omega
            · have b67 : 0 ≤ (m4 a0 7) ∧ (m4 a0 7) < 700 := by omega
              refine zw_if b67 ?_
              refine zw_ite (fun h68 => ?_) (fun h68 => ?_)
              · refine zw_b (by omega) ?_
                refine zw_some ?_
                refine zw_ite (fun h69 => ?_) (fun h69 => ?_)
                · refine zw_bd (zw_eq (zr_88_0 n a0 (m4 a0 7) m4) ?_)
                  refine zw_ite (fun h70 => ?_) (fun h70 => ?_)
                  · refine zw_b (by omega) ?_
                    refine zw_some ?_
                    refine zw_ite (fun h71 => ?_) (fun h71 => ?_)
                    · refine zw_bd (zw_mono (zk_90 n hIm4 hc0) (fun v73 m72 hqm72 => ?_))
                      obtain ⟨hIm72, hfm72, hvm72⟩ := hqm72
                      have hFm72 := zfr_tr hFm4 hfm72 rfl
                      exact zw_some ⟨hIm72, hFm72, trivial⟩
                    · exfalso; omega
                  · have b74 : 0 ≤ (m4 a0 7) ∧ (m4 a0 7) < 700 := by omega
                    refine zw_if b74 ?_
                    refine zw_ite (fun h75 => ?_) (fun h75 => ?_)
                    · exfalso; omega
                    · have b76 : 0 ≤ (m4 a0 7) ∧ (m4 a0 7) < 700 := by omega
                      refine zw_if b76 ?_
                      refine zw_ite (fun h77 => ?_) (fun h77 => ?_)
                      · refine zw_b (by omega) ?_
                        refine zw_some ?_
                        refine zw_ite (fun h78 => ?_) (fun h78 => ?_)
                        · refine zw_bd (zw_mono (zk_90 n hIm4 hc0) (fun v80 m79 hqm79 => ?_))
                          obtain ⟨hIm79, hfm79, hvm79⟩ := hqm79
                          have hFm79 := zfr_tr hFm4 hfm79 rfl
                          exact zw_some ⟨hIm79, hFm79, trivial⟩
                        · exfalso; omega
                      · exfalso; omega
                · exfalso; omega
              · refine zw_b (by omega) ?_
                refine zw_some ?_
                refine zw_ite (fun h81 => ?_) (fun h81 => ?_)
                · exfalso; omega
                · have hM : (700 - (m4 a0 7)) * 1 + 701 < (k : Int) := by omega
                  exact ih.2.1  m4 hIm4 hFm4 ⟨by omega, by omega⟩ hM
        · generalize hmm82 : zu_up m4 a0 8 0 = m82
          have hIm82 := zi_up hmm82 hIm4 hc0 zb_15_8 (by omega) (by omega)
          have hFm82 := zfr_up hmm82 hFm4 hc0 rfl
          exact zw_some ⟨hIm82, hFm82, trivial⟩
      · have b83 : 0 ≤ (mh a0 7) ∧ (mh a0 7) < 700 := by omega
        refine zw_if b83 ?_
        have r84 : (-2147483648) ≤ (mh 191 (mh a0 7)) ∧ (mh 191 (mh a0 7)) ≤ 2147483647 := zi_rd hImh zq_191 (zb_61 _)
        refine zw_ite (fun h85 => ?_) (fun h85 => ?_)
        · have w86 := zu_w32_id (z := (mh a0 7) + 1) (by omega) (by omega)
          generalize hmm87 : zu_up mh a0 7 (zu_w32 ((mh a0 7) + 1)) = m87
          have hIm87 := zi_up hmm87 hImh hc0 zb_15_7 (by omega) (by omega)
          have hFm87 := zfr_up hmm87 hFmh hc0 rfl
          have r88 : 0 ≤ (m87 a0 7) ∧ (m87 a0 7) ≤ 700 := zi_rd hIm87 hc0 zb_15_7
          have e89 : (m87 a0 7) = (zu_w32 ((mh a0 7) + 1)) := (zs_eq hmm87)
          have hM : (700 - (m87 a0 7)) * 1 + 1402 < (k : Int) := by omega
          exact ih.1  m87 hIm87 hFm87  hM
        · have b90 : 0 ≤ (mh a0 7) ∧ (mh a0 7) < 700 := by omega
          refine zw_if b90 ?_
          refine zw_ite (fun h91 => ?_) (fun h91 => ?_)
          · generalize hmm92 : zu_up mh a0 10 (mh a0 7) = m92
            have hIm92 := zi_up hmm92 hImh hc0 zb_15_10 (by omega) (by omega)
            have hFm92 := zfr_up hmm92 hFmh hc0 rfl
            have r93 : 0 ≤ (m92 a0 7) ∧ (m92 a0 7) ≤ 700 := zi_rd hIm92 hc0 zb_15_7
            have e94 : (m92 a0 7) = (mh a0 7) := (zs_ne hmm92 (Or.inr (by decide)))
            have r95 : 0 ≤ (m92 a0 6) ∧ (m92 a0 6) ≤ 700 := zi_rd hIm92 hc0 zb_15_6
            have e96 : (m92 a0 6) = (mh a0 6) := (zs_ne hmm92 (Or.inr (by decide)))
            refine zw_ite (fun h97 => ?_) (fun h97 => ?_)
            · refine zw_bd (zw_eq (zr_87_0 n a0 (m92 a0 7) m92) ?_)
              refine zw_ite (fun h98 => ?_) (fun h98 => ?_)
              · refine zw_b (by omega) ?_
                refine zw_some ?_
                refine zw_ite (fun h99 => ?_) (fun h99 => ?_)
                · refine zw_bd (zw_eq (zr_88_0 n a0 (m92 a0 7) m92) ?_)
                  refine zw_ite (fun h100 => ?_) (fun h100 => ?_)
                  · refine zw_b (by omega) ?_
                    refine zw_some ?_
                    refine zw_ite (fun h101 => ?_) (fun h101 => ?_)
                    · refine zw_bd (zw_mono (zk_90 n hIm92 hc0) (fun v103 m102 hqm102 => ?_))
                      obtain ⟨hIm102, hfm102, hvm102⟩ := hqm102
                      have hFm102 := zfr_tr hFm92 hfm102 rfl
                      exact zw_some ⟨hIm102, hFm102, trivial⟩
                    · exfalso; omega
                  · have b104 : 0 ≤ (m92 a0 7) ∧ (m92 a0 7) < 700 := by omega
                    refine zw_if b104 ?_
                    have r105 : (-2147483648) ≤ (m92 191 (m92 a0 7)) ∧ (m92 191 (m92 a0 7)) ≤ 2147483647 := zi_rd hIm92 zq_191 (zb_61 _)
                    refine zw_ite (fun h106 => ?_) (fun h106 => ?_)
                    · refine zw_b (by omega) ?_
                      refine zw_some ?_
                      refine zw_ite (fun h107 => ?_) (fun h107 => ?_)
                      · refine zw_bd (zw_mono (zk_90 n hIm92 hc0) (fun v109 m108 hqm108 => ?_))
                        obtain ⟨hIm108, hfm108, hvm108⟩ := hqm108
                        have hFm108 := zfr_tr hFm92 hfm108 rfl
                        exact zw_some ⟨hIm108, hFm108, trivial⟩
                      · exfalso; omega
                    · have b110 : 0 ≤ (m92 a0 7) ∧ (m92 a0 7) < 700 := by omega
                      refine zw_if b110 ?_
                      refine zw_ite (fun h111 => ?_) (fun h111 => ?_)
                      · refine zw_b (by omega) ?_
                        refine zw_some ?_
                        refine zw_ite (fun h112 => ?_) (fun h112 => ?_)
                        · refine zw_bd (zw_mono (zk_90 n hIm92 hc0) (fun v114 m113 hqm113 => ?_))
                          obtain ⟨hIm113, hfm113, hvm113⟩ := hqm113
                          have hFm113 := zfr_tr hFm92 hfm113 rfl
                          exact zw_some ⟨hIm113, hFm113, trivial⟩
                        · exfalso; omega
                      · refine zw_b (by omega) ?_
                        refine zw_some ?_
                        refine zw_ite (fun h115 => ?_) (fun h115 => ?_)
                        · exfalso; omega
                        · generalize hmm116 : zu_up m92 a0 8 3 = m116
                          have hIm116 := zi_up hmm116 hIm92 hc0 zb_15_8 (by omega) (by omega)
                          have hFm116 := zfr_up hmm116 hFm92 hc0 rfl
                          generalize hmm117 : zu_up m116 a0 9 0 = m117
                          have hIm117 := zi_up hmm117 hIm116 hc0 zb_15_9 (by omega) (by omega)
                          have hFm117 := zfr_up hmm117 hFm116 hc0 rfl
                          have r118 : 0 ≤ (m117 a0 6) ∧ (m117 a0 6) ≤ 700 := zi_rd hIm117 hc0 zb_15_6
                          have e119 : (m117 a0 6) = (m92 a0 6) := (Eq.trans (zs_ne hmm117 (Or.inr (by decide))) (zs_ne hmm116 (Or.inr (by decide))))
                          have r120 : 0 ≤ (m117 a0 8) ∧ (m117 a0 8) ≤ 6 := zi_rd hIm117 hc0 zb_15_8
                          have e121 : (m117 a0 8) = 3 := (Eq.trans (zs_ne hmm117 (Or.inr (by decide))) (zs_eq hmm116))
                          have r122 : (-2147483648) ≤ (m117 a0 9) ∧ (m117 a0 9) ≤ 2147483647 := zi_rd hIm117 hc0 zb_15_9
                          have e123 : (m117 a0 9) = 0 := (zs_eq hmm117)
                          have r124 : 0 ≤ (m117 a0 7) ∧ (m117 a0 7) ≤ 700 := zi_rd hIm117 hc0 zb_15_7
                          have e125 : (m117 a0 7) = (m92 a0 7) := (Eq.trans (zs_ne hmm117 (Or.inr (by decide))) (zs_ne hmm116 (Or.inr (by decide))))
                          have hM : (700 - (m117 a0 7)) * 1 + 0 < (k : Int) := by omega
                          exact ih.2.2  m117 hIm117 hFm117 ⟨by omega, by omega⟩ ⟨by omega, by omega⟩ ⟨by omega, by omega⟩ hM
                · exfalso; omega
              · have b126 : 0 ≤ (m92 a0 7) ∧ (m92 a0 7) < 700 := by omega
                refine zw_if b126 ?_
                have r127 : (-2147483648) ≤ (m92 191 (m92 a0 7)) ∧ (m92 191 (m92 a0 7)) ≤ 2147483647 := zi_rd hIm92 zq_191 (zb_61 _)
                refine zw_ite (fun h128 => ?_) (fun h128 => ?_)
                · refine zw_b (by omega) ?_
                  refine zw_some ?_
                  refine zw_ite (fun h129 => ?_) (fun h129 => ?_)
                  · refine zw_bd (zw_eq (zr_88_0 n a0 (m92 a0 7) m92) ?_)
                    refine zw_ite (fun h130 => ?_) (fun h130 => ?_)
                    · refine zw_b (by omega) ?_
                      refine zw_some ?_
                      refine zw_ite (fun h131 => ?_) (fun h131 => ?_)
                      · refine zw_bd (zw_mono (zk_90 n hIm92 hc0) (fun v133 m132 hqm132 => ?_))
                        obtain ⟨hIm132, hfm132, hvm132⟩ := hqm132
                        have hFm132 := zfr_tr hFm92 hfm132 rfl
                        exact zw_some ⟨hIm132, hFm132, trivial⟩
                      · exfalso; omega
                    · have b134 : 0 ≤ (m92 a0 7) ∧ (m92 a0 7) < 700 := by omega
                      refine zw_if b134 ?_
                      refine zw_ite (fun h135 => ?_) (fun h135 => ?_)
                      · refine zw_b (by omega) ?_
                        refine zw_some ?_
                        refine zw_ite (fun h136 => ?_) (fun h136 => ?_)
                        · refine zw_bd (zw_mono (zk_90 n hIm92 hc0) (fun v138 m137 hqm137 => ?_))
                          obtain ⟨hIm137, hfm137, hvm137⟩ := hqm137
                          have hFm137 := zfr_tr hFm92 hfm137 rfl
                          exact zw_some ⟨hIm137, hFm137, trivial⟩
                        · exfalso; omega
                      · have b139 : 0 ≤ (m92 a0 7) ∧ (m92 a0 7) < 700 := by omega
                        refine zw_if b139 ?_
                        refine zw_ite (fun h140 => ?_) (fun h140 => ?_)
                        · refine zw_b (by omega) ?_
                          refine zw_some ?_
                          refine zw_ite (fun h141 => ?_) (fun h141 => ?_)
                          · refine zw_bd (zw_mono (zk_90 n hIm92 hc0) (fun v143 m142 hqm142 => ?_))
                            obtain ⟨hIm142, hfm142, hvm142⟩ := hqm142
                            have hFm142 := zfr_tr hFm92 hfm142 rfl
                            exact zw_some ⟨hIm142, hFm142, trivial⟩
                          · exfalso; omega
                        · refine zw_b (by omega) ?_
                          refine zw_some ?_
                          refine zw_ite (fun h144 => ?_) (fun h144 => ?_)
                          · exfalso; omega
                          · generalize hmm145 : zu_up m92 a0 8 3 = m145
                            have hIm145 := zi_up hmm145 hIm92 hc0 zb_15_8 (by omega) (by omega)
                            have hFm145 := zfr_up hmm145 hFm92 hc0 rfl
                            generalize hmm146 : zu_up m145 a0 9 0 = m146
                            have hIm146 := zi_up hmm146 hIm145 hc0 zb_15_9 (by omega) (by omega)
                            have hFm146 := zfr_up hmm146 hFm145 hc0 rfl
                            have r147 : 0 ≤ (m146 a0 6) ∧ (m146 a0 6) ≤ 700 := zi_rd hIm146 hc0 zb_15_6
                            have e148 : (m146 a0 6) = (m92 a0 6) := (Eq.trans (zs_ne hmm146 (Or.inr (by decide))) (zs_ne hmm145 (Or.inr (by decide))))
                            have r149 : 0 ≤ (m146 a0 8) ∧ (m146 a0 8) ≤ 6 := zi_rd hIm146 hc0 zb_15_8
                            have e150 : (m146 a0 8) = 3 := (Eq.trans (zs_ne hmm146 (Or.inr (by decide))) (zs_eq hmm145))
                            have r151 : (-2147483648) ≤ (m146 a0 9) ∧ (m146 a0 9) ≤ 2147483647 := zi_rd hIm146 hc0 zb_15_9
                            have e152 : (m146 a0 9) = 0 := (zs_eq hmm146)
                            have r153 : 0 ≤ (m146 a0 7) ∧ (m146 a0 7) ≤ 700 := zi_rd hIm146 hc0 zb_15_7
                            have e154 : (m146 a0 7) = (m92 a0 7) := (Eq.trans (zs_ne hmm146 (Or.inr (by decide))) (zs_ne hmm145 (Or.inr (by decide))))
                            have hM : (700 - (m146 a0 7)) * 1 + 0 < (k : Int) := by omega
                            exact ih.2.2  m146 hIm146 hFm146 ⟨by omega, by omega⟩ ⟨by omega, by omega⟩ ⟨by omega, by omega⟩ hM
                  · exfalso; omega
                · have b155 : 0 ≤ (m92 a0 7) ∧ (m92 a0 7) < 700 := by omega
                  refine zw_if b155 ?_
                  refine zw_ite (fun h156 => ?_) (fun h156 => ?_)
                  · refine zw_b (by omega) ?_
                    refine zw_some ?_
                    refine zw_ite (fun h157 => ?_) (fun h157 => ?_)
                    · refine zw_bd (zw_eq (zr_88_0 n a0 (m92 a0 7) m92) ?_)
                      refine zw_ite (fun h158 => ?_) (fun h158 => ?_)
                      · refine zw_b (by omega) ?_
                        refine zw_some ?_
                        refine zw_ite (fun h159 => ?_) (fun h159 => ?_)
                        · refine zw_bd (zw_mono (zk_90 n hIm92 hc0) (fun v161 m160 hqm160 => ?_))
                          obtain ⟨hIm160, hfm160, hvm160⟩ := hqm160
                          have hFm160 := zfr_tr hFm92 hfm160 rfl
                          exact zw_some ⟨hIm160, hFm160, trivial⟩
                        · exfalso; omega
                      · have b162 : 0 ≤ (m92 a0 7) ∧ (m92 a0 7) < 700 := by omega
                        refine zw_if b162 ?_
                        refine zw_ite (fun h163 => ?_) (fun h163 => ?_)
                        · exfalso; omega
                        · have b164 : 0 ≤ (m92 a0 7) ∧ (m92 a0 7) < 700 := by omega
                          refine zw_if b164 ?_
                          refine zw_ite (fun h165 => ?_) (fun h165 => ?_)
                          · refine zw_b (by omega) ?_
                            refine zw_some ?_
                            refine zw_ite (fun h166 => ?_) (fun h166 => ?_)
                            · refine zw_bd (zw_mono (zk_90 n hIm92 hc0) (fun v168 m167 hqm167 => ?_))
                              obtain ⟨hIm167, hfm167, hvm167⟩ := hqm167
                              have hFm167 := zfr_tr hFm92 hfm167 rfl
                              exact zw_some ⟨hIm167, hFm167, trivial⟩
                            · exfalso; omega
                          · exfalso; omega
                    · exfalso; omega
                  · refine zw_b (by omega) ?_
                    refine zw_some ?_
                    refine zw_ite (fun h169 => ?_) (fun h169 => ?_)
                    · exfalso; omega
                    · have hM : (700 - (m92 a0 7)) * 1 + 701 < (k : Int) := by omega
                      exact ih.2.1  m92 hIm92 hFm92 ⟨by omega, by omega⟩ hM
            · generalize hmm170 : zu_up m92 a0 8 0 = m170
              have hIm170 := zi_up hmm170 hIm92 hc0 zb_15_8 (by omega) (by omega)
              have hFm170 := zfr_up hmm170 hFm92 hc0 rfl
              exact zw_some ⟨hIm170, hFm170, trivial⟩
          · have w171 := zu_w32_id (z := (mh a0 7) + 1) (by omega) (by omega)
            generalize hmm172 : zu_up mh a0 7 (zu_w32 ((mh a0 7) + 1)) = m172
            have hIm172 := zi_up hmm172 hImh hc0 zb_15_7 (by omega) (by omega)
            have hFm172 := zfr_up hmm172 hFmh hc0 rfl
            have r173 : 0 ≤ (m172 a0 7) ∧ (m172 a0 7) ≤ 700 := zi_rd hIm172 hc0 zb_15_7
            have e174 : (m172 a0 7) = (zu_w32 ((mh a0 7) + 1)) := (zs_eq hmm172)
            have hM : (700 - (m172 a0 7)) * 1 + 1402 < (k : Int) := by omega
            exact ih.1  m172 hIm172 hFm172  hM
    · intro mh hImh hFmh hg0 hM
      refine zw_eq (zr_89_90 n a0 mh) ?_
      have r175 : 0 ≤ (mh a0 7) ∧ (mh a0 7) ≤ 700 := zi_rd hImh hc0 zb_15_7
      refine zw_bd (zw_eq (zr_87_0 n a0 (mh a0 7) mh) ?_)
      refine zw_ite (fun h176 => ?_) (fun h176 => ?_)
      · refine zw_b (by omega) ?_
        refine zw_some ?_
        refine zw_ite (fun h177 => ?_) (fun h177 => ?_)
        · have r178 : 0 ≤ (mh a0 10) ∧ (mh a0 10) ≤ 700 := zi_rd hImh hc0 zb_15_10
          refine zw_bd (zw_mono (zk_86 n hImh hc0 ⟨by omega, by omega⟩ ⟨by omega, by omega⟩) (fun v180 m179 hqm179 => ?_))
          obtain ⟨hIm179, hfm179, hvm179⟩ := hqm179
          have hFm179 := zfr_tr hFmh hfm179 rfl
          generalize hmm181 : zu_up m179 a0 9 v180 = m181
          have hIm181 := zi_up hmm181 hIm179 hc0 zb_15_9 (by omega) (by omega)
          have hFm181 := zfr_up hmm181 hFm179 hc0 rfl
          have r182 : (-2147483648) ≤ (m181 a0 9) ∧ (m181 a0 9) ≤ 2147483647 := zi_rd hIm181 hc0 zb_15_9
          have e183 : (m181 a0 9) = v180 := (zs_eq hmm181)
          refine zw_ite (fun h184 => ?_) (fun h184 => ?_)
          · have r185 : 0 ≤ (m181 a0 7) ∧ (m181 a0 7) ≤ 700 := zi_rd hIm181 hc0 zb_15_7
            have e186 : (m181 a0 7) = (mh a0 7) := (Eq.trans (zs_ne hmm181 (Or.inr (by decide))) (zfr_ap hfm179 hc0 rfl))
            have r187 : 0 ≤ (m181 a0 10) ∧ (m181 a0 10) ≤ 700 := zi_rd hIm181 hc0 zb_15_10
            have e188 : (m181 a0 10) = (mh a0 10) := (Eq.trans (zs_ne hmm181 (Or.inr (by decide))) (zfr_ap hfm179 hc0 rfl))
            have w189 := zu_w32_id (z := (m181 a0 7) - (m181 a0 10)) (by omega) (by omega)
            refine zw_ite (fun h190 => ?_) (fun h190 => ?_)
            · generalize hmm191 : zu_up m181 a0 8 2 = m191
              have hIm191 := zi_up hmm191 hIm181 hc0 zb_15_8 (by omega) (by omega)
              have hFm191 := zfr_up hmm191 hFm181 hc0 rfl
              have r192 : 0 ≤ (m191 a0 8) ∧ (m191 a0 8) ≤ 6 := zi_rd hIm191 hc0 zb_15_8
              have e193 : (m191 a0 8) = 2 := (zs_eq hmm191)
              refine zw_ite (fun h194 => ?_) (fun h194 => ?_)
              · exfalso; omega
              · have r195 : 0 ≤ (m191 a0 10) ∧ (m191 a0 10) ≤ 700 := zi_rd hIm191 hc0 zb_15_10
                have e196 : (m191 a0 10) = (m181 a0 10) := (zs_ne hmm191 (Or.inr (by decide)))
                have r197 : 0 ≤ (m191 a0 7) ∧ (m191 a0 7) ≤ 700 := zi_rd hIm191 hc0 zb_15_7
                have e198 : (m191 a0 7) = (m181 a0 7) := (zs_ne hmm191 (Or.inr (by decide)))
                refine zw_bd (zw_mono (zk_91 n hIm191 hc0 ⟨by omega, by omega⟩ ⟨by omega, by omega⟩) (fun v200 m199 hqm199 => ?_))
                obtain ⟨hIm199, hfm199, hvm199⟩ := hqm199
                have hFm199 := zfr_tr hFm191 hfm199 rfl
                generalize hmm201 : zu_up m199 a0 9 v200 = m201
                have hIm201 := zi_up hmm201 hIm199 hc0 zb_15_9 (by omega) (by omega)
                have hFm201 := zfr_up hmm201 hFm199 hc0 rfl
                exact zw_some ⟨hIm201, hFm201, trivial⟩
            · generalize hmm202 : zu_up m181 a0 8 6 = m202
              have hIm202 := zi_up hmm202 hIm181 hc0 zb_15_8 (by omega) (by omega)
              have hFm202 := zfr_up hmm202 hFm181 hc0 rfl
              have r203 : 0 ≤ (m202 a0 8) ∧ (m202 a0 8) ≤ 6 := zi_rd hIm202 hc0 zb_15_8
              have e204 : (m202 a0 8) = 6 := (zs_eq hmm202)
              refine zw_ite (fun h205 => ?_) (fun h205 => ?_)
              · exact zw_some ⟨hIm202, hFm202, trivial⟩
              · exfalso; omega
          · generalize hmm206 : zu_up m181 a0 8 1 = m206
            have hIm206 := zi_up hmm206 hIm181 hc0 zb_15_8 (by omega) (by omega)
            have hFm206 := zfr_up hmm206 hFm181 hc0 rfl
            have r207 : 0 ≤ (m206 a0 8) ∧ (m206 a0 8) ≤ 6 := zi_rd hIm206 hc0 zb_15_8
            have e208 : (m206 a0 8) = 1 := (zs_eq hmm206)
            refine zw_ite (fun h209 => ?_) (fun h209 => ?_)
            · exact zw_some ⟨hIm206, hFm206, trivial⟩
            · exfalso; omega
        · exfalso; omega
      · have b210 : 0 ≤ (mh a0 7) ∧ (mh a0 7) < 700 := by omega
        refine zw_if b210 ?_
        have r211 : (-2147483648) ≤ (mh 191 (mh a0 7)) ∧ (mh 191 (mh a0 7)) ≤ 2147483647 := zi_rd hImh zq_191 (zb_61 _)
        refine zw_ite (fun h212 => ?_) (fun h212 => ?_)
        · refine zw_b (by omega) ?_
          refine zw_some ?_
          refine zw_ite (fun h213 => ?_) (fun h213 => ?_)
          · have r214 : 0 ≤ (mh a0 10) ∧ (mh a0 10) ≤ 700 := zi_rd hImh hc0 zb_15_10
            refine zw_bd (zw_mono (zk_86 n hImh hc0 ⟨by omega, by omega⟩ ⟨by omega, by omega⟩) (fun v216 m215 hqm215 => ?_))
            obtain ⟨hIm215, hfm215, hvm215⟩ := hqm215
            have hFm215 := zfr_tr hFmh hfm215 rfl
            generalize hmm217 : zu_up m215 a0 9 v216 = m217
            have hIm217 := zi_up hmm217 hIm215 hc0 zb_15_9 (by omega) (by omega)
            have hFm217 := zfr_up hmm217 hFm215 hc0 rfl
            have r218 : (-2147483648) ≤ (m217 a0 9) ∧ (m217 a0 9) ≤ 2147483647 := zi_rd hIm217 hc0 zb_15_9
            have e219 : (m217 a0 9) = v216 := (zs_eq hmm217)
            refine zw_ite (fun h220 => ?_) (fun h220 => ?_)
            · have r221 : 0 ≤ (m217 a0 7) ∧ (m217 a0 7) ≤ 700 := zi_rd hIm217 hc0 zb_15_7
              have e222 : (m217 a0 7) = (mh a0 7) := (Eq.trans (zs_ne hmm217 (Or.inr (by decide))) (zfr_ap hfm215 hc0 rfl))
              have r223 : 0 ≤ (m217 a0 10) ∧ (m217 a0 10) ≤ 700 := zi_rd hIm217 hc0 zb_15_10
              have e224 : (m217 a0 10) = (mh a0 10) := (Eq.trans (zs_ne hmm217 (Or.inr (by decide))) (zfr_ap hfm215 hc0 rfl))
              have w225 := zu_w32_id (z := (m217 a0 7) - (m217 a0 10)) (by omega) (by omega)
              refine zw_ite (fun h226 => ?_) (fun h226 => ?_)
              · generalize hmm227 : zu_up m217 a0 8 2 = m227
                have hIm227 := zi_up hmm227 hIm217 hc0 zb_15_8 (by omega) (by omega)
                have hFm227 := zfr_up hmm227 hFm217 hc0 rfl
                have r228 : 0 ≤ (m227 a0 8) ∧ (m227 a0 8) ≤ 6 := zi_rd hIm227 hc0 zb_15_8
                have e229 : (m227 a0 8) = 2 := (zs_eq hmm227)
                refine zw_ite (fun h230 => ?_) (fun h230 => ?_)
                · exfalso; omega
                · have r231 : 0 ≤ (m227 a0 10) ∧ (m227 a0 10) ≤ 700 := zi_rd hIm227 hc0 zb_15_10
                  have e232 : (m227 a0 10) = (m217 a0 10) := (zs_ne hmm227 (Or.inr (by decide)))
                  have r233 : 0 ≤ (m227 a0 7) ∧ (m227 a0 7) ≤ 700 := zi_rd hIm227 hc0 zb_15_7
                  have e234 : (m227 a0 7) = (m217 a0 7) := (zs_ne hmm227 (Or.inr (by decide)))
                  refine zw_bd (zw_mono (zk_91 n hIm227 hc0 ⟨by omega, by omega⟩ ⟨by omega, by omega⟩) (fun v236 m235 hqm235 => ?_))
                  obtain ⟨hIm235, hfm235, hvm235⟩ := hqm235
                  have hFm235 := zfr_tr hFm227 hfm235 rfl
                  generalize hmm237 : zu_up m235 a0 9 v236 = m237
                  have hIm237 := zi_up hmm237 hIm235 hc0 zb_15_9 (by omega) (by omega)
                  have hFm237 := zfr_up hmm237 hFm235 hc0 rfl
                  exact zw_some ⟨hIm237, hFm237, trivial⟩
              · generalize hmm238 : zu_up m217 a0 8 6 = m238
                have hIm238 := zi_up hmm238 hIm217 hc0 zb_15_8 (by omega) (by omega)
                have hFm238 := zfr_up hmm238 hFm217 hc0 rfl
                have r239 : 0 ≤ (m238 a0 8) ∧ (m238 a0 8) ≤ 6 := zi_rd hIm238 hc0 zb_15_8
                have e240 : (m238 a0 8) = 6 := (zs_eq hmm238)
                refine zw_ite (fun h241 => ?_) (fun h241 => ?_)
                · exact zw_some ⟨hIm238, hFm238, trivial⟩
                · exfalso; omega
            · generalize hmm242 : zu_up m217 a0 8 1 = m242
              have hIm242 := zi_up hmm242 hIm217 hc0 zb_15_8 (by omega) (by omega)
              have hFm242 := zfr_up hmm242 hFm217 hc0 rfl
              have r243 : 0 ≤ (m242 a0 8) ∧ (m242 a0 8) ≤ 6 := zi_rd hIm242 hc0 zb_15_8
              have e244 : (m242 a0 8) = 1 := (zs_eq hmm242)
              refine zw_ite (fun h245 => ?_) (fun h245 => ?_)
              · exact zw_some ⟨hIm242, hFm242, trivial⟩
              · exfalso; omega
          · exfalso; omega
        · have b246 : 0 ≤ (mh a0 7) ∧ (mh a0 7) < 700 := by omega
          refine zw_if b246 ?_
          refine zw_ite (fun h247 => ?_) (fun h247 => ?_)
          · refine zw_b (by omega) ?_
            refine zw_some ?_
            refine zw_ite (fun h248 => ?_) (fun h248 => ?_)
            · have r249 : 0 ≤ (mh a0 10) ∧ (mh a0 10) ≤ 700 := zi_rd hImh hc0 zb_15_10
              refine zw_bd (zw_mono (zk_86 n hImh hc0 ⟨by omega, by omega⟩ ⟨by omega, by omega⟩) (fun v251 m250 hqm250 => ?_))
              obtain ⟨hIm250, hfm250, hvm250⟩ := hqm250
              have hFm250 := zfr_tr hFmh hfm250 rfl
              generalize hmm252 : zu_up m250 a0 9 v251 = m252
              have hIm252 := zi_up hmm252 hIm250 hc0 zb_15_9 (by omega) (by omega)
              have hFm252 := zfr_up hmm252 hFm250 hc0 rfl
              have r253 : (-2147483648) ≤ (m252 a0 9) ∧ (m252 a0 9) ≤ 2147483647 := zi_rd hIm252 hc0 zb_15_9
              have e254 : (m252 a0 9) = v251 := (zs_eq hmm252)
              refine zw_ite (fun h255 => ?_) (fun h255 => ?_)
              · have r256 : 0 ≤ (m252 a0 7) ∧ (m252 a0 7) ≤ 700 := zi_rd hIm252 hc0 zb_15_7
                have e257 : (m252 a0 7) = (mh a0 7) := (Eq.trans (zs_ne hmm252 (Or.inr (by decide))) (zfr_ap hfm250 hc0 rfl))
                have r258 : 0 ≤ (m252 a0 10) ∧ (m252 a0 10) ≤ 700 := zi_rd hIm252 hc0 zb_15_10
                have e259 : (m252 a0 10) = (mh a0 10) := (Eq.trans (zs_ne hmm252 (Or.inr (by decide))) (zfr_ap hfm250 hc0 rfl))
                have w260 := zu_w32_id (z := (m252 a0 7) - (m252 a0 10)) (by omega) (by omega)
                refine zw_ite (fun h261 => ?_) (fun h261 => ?_)
                · generalize hmm262 : zu_up m252 a0 8 2 = m262
                  have hIm262 := zi_up hmm262 hIm252 hc0 zb_15_8 (by omega) (by omega)
                  have hFm262 := zfr_up hmm262 hFm252 hc0 rfl
                  have r263 : 0 ≤ (m262 a0 8) ∧ (m262 a0 8) ≤ 6 := zi_rd hIm262 hc0 zb_15_8
                  have e264 : (m262 a0 8) = 2 := (zs_eq hmm262)
                  refine zw_ite (fun h265 => ?_) (fun h265 => ?_)
                  · exfalso; omega
                  · have r266 : 0 ≤ (m262 a0 10) ∧ (m262 a0 10) ≤ 700 := zi_rd hIm262 hc0 zb_15_10
                    have e267 : (m262 a0 10) = (m252 a0 10) := (zs_ne hmm262 (Or.inr (by decide)))
                    have r268 : 0 ≤ (m262 a0 7) ∧ (m262 a0 7) ≤ 700 := zi_rd hIm262 hc0 zb_15_7
                    have e269 : (m262 a0 7) = (m252 a0 7) := (zs_ne hmm262 (Or.inr (by decide)))
                    refine zw_bd (zw_mono (zk_91 n hIm262 hc0 ⟨by omega, by omega⟩ ⟨by omega, by omega⟩) (fun v271 m270 hqm270 => ?_))
                    obtain ⟨hIm270, hfm270, hvm270⟩ := hqm270
                    have hFm270 := zfr_tr hFm262 hfm270 rfl
                    generalize hmm272 : zu_up m270 a0 9 v271 = m272
                    have hIm272 := zi_up hmm272 hIm270 hc0 zb_15_9 (by omega) (by omega)
                    have hFm272 := zfr_up hmm272 hFm270 hc0 rfl
                    exact zw_some ⟨hIm272, hFm272, trivial⟩
                · generalize hmm273 : zu_up m252 a0 8 6 = m273
                  have hIm273 := zi_up hmm273 hIm252 hc0 zb_15_8 (by omega) (by omega)
                  have hFm273 := zfr_up hmm273 hFm252 hc0 rfl
                  have r274 : 0 ≤ (m273 a0 8) ∧ (m273 a0 8) ≤ 6 := zi_rd hIm273 hc0 zb_15_8
                  have e275 : (m273 a0 8) = 6 := (zs_eq hmm273)
                  refine zw_ite (fun h276 => ?_) (fun h276 => ?_)
                  · exact zw_some ⟨hIm273, hFm273, trivial⟩
                  · exfalso; omega
              · generalize hmm277 : zu_up m252 a0 8 1 = m277
                have hIm277 := zi_up hmm277 hIm252 hc0 zb_15_8 (by omega) (by omega)
                have hFm277 := zfr_up hmm277 hFm252 hc0 rfl
                have r278 : 0 ≤ (m277 a0 8) ∧ (m277 a0 8) ≤ 6 := zi_rd hIm277 hc0 zb_15_8
                have e279 : (m277 a0 8) = 1 := (zs_eq hmm277)
                refine zw_ite (fun h280 => ?_) (fun h280 => ?_)
                · exact zw_some ⟨hIm277, hFm277, trivial⟩
                · exfalso; omega
            · exfalso; omega
          · refine zw_b (by omega) ?_
            refine zw_some ?_
            refine zw_ite (fun h281 => ?_) (fun h281 => ?_)
            · exfalso; omega
            · have w282 := zu_w32_id (z := (mh a0 7) + 1) (by omega) (by omega)
              generalize hmm283 : zu_up mh a0 7 (zu_w32 ((mh a0 7) + 1)) = m283
              have hIm283 := zi_up hmm283 hImh hc0 zb_15_7 (by omega) (by omega)
              have hFm283 := zfr_up hmm283 hFmh hc0 rfl
              have r284 : 0 ≤ (m283 a0 6) ∧ (m283 a0 6) ≤ 700 := zi_rd hIm283 hc0 zb_15_6
              have e285 : (m283 a0 6) = (mh a0 6) := (zs_ne hmm283 (Or.inr (by decide)))
              have r286 : 0 ≤ (m283 a0 7) ∧ (m283 a0 7) ≤ 700 := zi_rd hIm283 hc0 zb_15_7
              have e287 : (m283 a0 7) = (zu_w32 ((mh a0 7) + 1)) := (zs_eq hmm283)
              have hM : (700 - (m283 a0 7)) * 1 + 701 < (k : Int) := by omega
              exact ih.2.1  m283 hIm283 hFm283 ⟨by omega, by omega⟩ hM
    · intro mh hImh hFmh hg0 hg1 hg2 hM
      refine zw_eq (zr_89_213 n a0 mh) ?_
      have r288 : 0 ≤ (mh a0 7) ∧ (mh a0 7) ≤ 700 := zi_rd hImh hc0 zb_15_7
      refine zw_bd (zw_eq (zr_88_0 n a0 (mh a0 7) mh) ?_)
      refine zw_ite (fun h289 => ?_) (fun h289 => ?_)
      · refine zw_b (by omega) ?_
        refine zw_some ?_
        refine zw_ite (fun h290 => ?_) (fun h290 => ?_)
        · exact zw_some ⟨hImh, hFmh, trivial⟩
        · exfalso; omega
      · have b291 : 0 ≤ (mh a0 7) ∧ (mh a0 7) < 700 := by omega
        refine zw_if b291 ?_
        have r292 : (-2147483648) ≤ (mh 191 (mh a0 7)) ∧ (mh 191 (mh a0 7)) ≤ 2147483647 := zi_rd hImh zq_191 (zb_61 _)
        refine zw_ite (fun h293 => ?_) (fun h293 => ?_)
        · refine zw_b (by omega) ?_
          refine zw_some ?_
          refine zw_ite (fun h294 => ?_) (fun h294 => ?_)
          · exact zw_some ⟨hImh, hFmh, trivial⟩
          · exfalso; omega
        · have b295 : 0 ≤ (mh a0 7) ∧ (mh a0 7) < 700 := by omega
          refine zw_if b295 ?_
          refine zw_ite (fun h296 => ?_) (fun h296 => ?_)
          · refine zw_b (by omega) ?_
            refine zw_some ?_
            refine zw_ite (fun h297 => ?_) (fun h297 => ?_)
            · exact zw_some ⟨hImh, hFmh, trivial⟩
            · exfalso; omega
          · refine zw_b (by omega) ?_
            refine zw_some ?_
            refine zw_ite (fun h298 => ?_) (fun h298 => ?_)
            · exfalso; omega
            · refine zw_ite (fun h299 => ?_) (fun h299 => ?_)
              · have w300 := zu_w32_id (z := 10 * (mh a0 9)) (by omega) (by omega)
                have b301 : 0 ≤ (mh a0 7) ∧ (mh a0 7) < 700 := by omega
                refine zw_if b301 ?_
                have w302 := zu_w32_id (z := (zu_w32 (10 * (mh a0 9))) + (mh 191 (mh a0 7))) (by omega) (by omega)
                have w303 := zu_w32_id (z := (zu_w32 ((zu_w32 (10 * (mh a0 9))) + (mh 191 (mh a0 7)))) - 48) (by omega) (by omega)
                generalize hmm304 : zu_up mh a0 9 (zu_w32 ((zu_w32 ((zu_w32 (10 * (mh a0 9))) + (mh 191 (mh a0 7)))) - 48)) = m304
                have hIm304 := zi_up hmm304 hImh hc0 zb_15_9 (by omega) (by omega)
                have hFm304 := zfr_up hmm304 hFmh hc0 rfl
                have r305 : 0 ≤ (m304 a0 7) ∧ (m304 a0 7) ≤ 700 := zi_rd hIm304 hc0 zb_15_7
                have e306 : (m304 a0 7) = (mh a0 7) := (zs_ne hmm304 (Or.inr (by decide)))
                have w307 := zu_w32_id (z := (m304 a0 7) + 1) (by omega) (by omega)
                generalize hmm308 : zu_up m304 a0 7 (zu_w32 ((m304 a0 7) + 1)) = m308
                have hIm308 := zi_up hmm308 hIm304 hc0 zb_15_7 (by omega) (by omega)
                have hFm308 := zfr_up hmm308 hFm304 hc0 rfl
                have r309 : 0 ≤ (m308 a0 6) ∧ (m308 a0 6) ≤ 700 := zi_rd hIm308 hc0 zb_15_6
                have e310 : (m308 a0 6) = (mh a0 6) := (Eq.trans (zs_ne hmm308 (Or.inr (by decide))) (zs_ne hmm304 (Or.inr (by decide))))
                have r311 : 0 ≤ (m308 a0 8) ∧ (m308 a0 8) ≤ 6 := zi_rd hIm308 hc0 zb_15_8
                have e312 : (m308 a0 8) = (mh a0 8) := (Eq.trans (zs_ne hmm308 (Or.inr (by decide))) (zs_ne hmm304 (Or.inr (by decide))))
                have r313 : (-2147483648) ≤ (m308 a0 9) ∧ (m308 a0 9) ≤ 2147483647 := zi_rd hIm308 hc0 zb_15_9
                have e314 : (m308 a0 9) = (zu_w32 ((zu_w32 ((zu_w32 (10 * (mh a0 9))) + (mh 191 (mh a0 7)))) - 48)) := (Eq.trans (zs_ne hmm308 (Or.inr (by decide))) (zs_eq hmm304))
                have r315 : 0 ≤ (m308 a0 7) ∧ (m308 a0 7) ≤ 700 := zi_rd hIm308 hc0 zb_15_7
                have e316 : (m308 a0 7) = (zu_w32 ((m304 a0 7) + 1)) := (zs_eq hmm308)
                have hM : (700 - (m308 a0 7)) * 1 + 0 < (k : Int) := by omega
                exact ih.2.2  m308 hIm308 hFm308 ⟨by omega, by omega⟩ ⟨by omega, by omega⟩ ⟨by omega, by omega⟩ hM
              · generalize hmm317 : zu_up mh a0 9 (mh a0 9) = m317
                have hIm317 := zi_up hmm317 hImh hc0 zb_15_9 (by omega) (by omega)
                have hFm317 := zfr_up hmm317 hFmh hc0 rfl
                have r318 : 0 ≤ (m317 a0 7) ∧ (m317 a0 7) ≤ 700 := zi_rd hIm317 hc0 zb_15_7
                have e319 : (m317 a0 7) = (mh a0 7) := (zs_ne hmm317 (Or.inr (by decide)))
                have w320 := zu_w32_id (z := (m317 a0 7) + 1) (by omega) (by omega)
                generalize hmm321 : zu_up m317 a0 7 (zu_w32 ((m317 a0 7) + 1)) = m321
                have hIm321 := zi_up hmm321 hIm317 hc0 zb_15_7 (by omega) (by omega)
                have hFm321 := zfr_up hmm321 hFm317 hc0 rfl
                have r322 : 0 ≤ (m321 a0 6) ∧ (m321 a0 6) ≤ 700 := zi_rd hIm321 hc0 zb_15_6
                have e323 : (m321 a0 6) = (mh a0 6) := (Eq.trans (zs_ne hmm321 (Or.inr (by decide))) (zs_ne hmm317 (Or.inr (by decide))))
                have r324 : 0 ≤ (m321 a0 8) ∧ (m321 a0 8) ≤ 6 := zi_rd hIm321 hc0 zb_15_8
                have e325 : (m321 a0 8) = (mh a0 8) := (Eq.trans (zs_ne hmm321 (Or.inr (by decide))) (zs_ne hmm317 (Or.inr (by decide))))
                have r326 : (-2147483648) ≤ (m321 a0 9) ∧ (m321 a0 9) ≤ 2147483647 := zi_rd hIm321 hc0 zb_15_9
                have e327 : (m321 a0 9) = (mh a0 9) := (Eq.trans (zs_ne hmm321 (Or.inr (by decide))) (zs_eq hmm317))
                have r328 : 0 ≤ (m321 a0 7) ∧ (m321 a0 7) ≤ 700 := zi_rd hIm321 hc0 zb_15_7
                have e329 : (m321 a0 7) = (zu_w32 ((m317 a0 7) + 1)) := (zs_eq hmm321)
                have hM : (700 - (m321 a0 7)) * 1 + 0 < (k : Int) := by omega
                exact ih.2.2  m321 hIm321 hFm321 ⟨by omega, by omega⟩ ⟨by omega, by omega⟩ ⟨by omega, by omega⟩ hM
set_option maxHeartbeats 4000000 in
theorem zk_89 (n : Nat) {a0 : Int} {m0 : zu_m} (hIm0 : zi_I m0) (hc0 : zcls a0 = 15)     : zw (zu_call (zt_T n) 89 [(40, a0)] m0) (fun v m => zi_I m ∧ zfr [(15, 8), (15, 9), (15, 10), (15, 11)] m0 m ∧ True) := by
  have hFm0 : zfr [(15, 8), (15, 9), (15, 10), (15, 11)] m0 m0 := zfr_rf _ _
  show zw (zu_ex (zt_T n) 89 0 [(40, a0)] [] m0) _
  have r330 : 0 ≤ (m0 a0 7) ∧ (m0 a0 7) ≤ 700 := zi_rd hIm0 hc0 zb_15_7
  have hM : (700 - (m0 a0 7)) * 1 + 1402 < ((2103 : Nat) : Int) := by omega
  exact (zl_89 n (m0 := m0) hc0 2103).1  m0 hIm0 hFm0  hM
set_option maxHeartbeats 4000000 in
theorem zk_108 (n : Nat) {a0 a1 : Int} {m0 : zu_m} (hIm0 : zi_I m0) (hc0 : zcls a0 = 15) (ha1 : (-2147483648) ≤ a1 ∧ a1 ≤ 2147483647)    : zw (zu_call (zt_T n) 108 [(40, a0), (0, a1)] m0) (fun v m => zi_I m ∧ zfr [(15, 3)] m0 m ∧ ((-1) ≤ v ∧ v ≤ 3) ∧ (0 ≤ m a0 2 ∧ m a0 2 ≤ 0)) := by
  have hFm0 : zfr [(15, 3)] m0 m0 := zfr_rf _ _
  refine zw_eq (zr_108_0 n a0 a1 m0) ?_
  generalize hmm1 : zu_up m0 a0 2 0 = m1
  have hIm1 := zi_up hmm1 hIm0 hc0 zb_15_2 (by omega) (by omega)
  have hFm1 := zfr_up hmm1 hFm0 hc0 rfl
  have r2 : 0 ≤ (m1 a0 15) ∧ (m1 a0 15) ≤ 4 := zi_rd hIm1 hc0 zb_15_15
  refine zw_bd (zw_mono (zk_95 n hIm1 zq_200 ⟨by omega, by omega⟩ ⟨by omega, by omega⟩ ⟨by omega, by omega⟩) (fun v4 m3 hqm3 => ?_))
  obtain ⟨hIm3, hfm3, hvm3⟩ := hqm3
  have hFm3 := zfr_tr hFm1 hfm3 rfl
  have r5 : (-2147483648) ≤ (m3 a0 2) ∧ (m3 a0 2) ≤ 2147483647 := zi_rd hIm3 hc0 zb_15_2
  have e6 : (m3 a0 2) = 0 := (Eq.trans (zfr_ap hfm3 hc0 rfl) (zs_eq hmm1))
  exact zw_some ⟨hIm3, hFm3, ⟨by omega, by omega⟩, ⟨by omega, by omega⟩⟩
set_option maxHeartbeats 4000000 in
theorem zk_112 (n : Nat) {a0 a1 : Int} {m0 : zu_m} (hIm0 : zi_I m0) (hc0 : zcls a0 = 15) (ha1 : 0 ≤ a1 ∧ a1 ≤ 6)    : zw (zu_call (zt_T n) 112 [(40, a0), (0, a1)] m0) (fun v m => zi_I m ∧ zfr [(15, 22), (15, 46), (15, 47), (78, 0), (79, 0), (80, 0), (82, 0)] m0 m ∧ True) := by
  sorry
set_option maxHeartbeats 4000000 in
theorem zk_122 (n : Nat) {a0 a1 : Int} {m0 : zu_m} (hIm0 : zi_I m0) (hc0 : zcls a0 = 15) (ha1 : 0 ≤ a1 ∧ a1 ≤ 63)    : zw (zu_call (zt_T n) 122 [(40, a0), (0, a1)] m0) (fun v m => zi_I m ∧ zfr [(15, 54)] m0 m ∧ ((-9223372036854775808) ≤ v ∧ v ≤ 9223372036854775807)) := by
  sorry
set_option maxHeartbeats 4000000 in
theorem zl_126 (n : Nat) {a0 : Int} {m0 : zu_m} (hc0 : zcls a0 = 15)  : ∀ k : Nat, (∀ (x1 : Int) (mh : zu_m), zi_I mh → zfr [(15, 65), (15, 66), (15, 67), (15, 68), (15, 69), (15, 70), (85, 0), (86, 0), (87, 0), (88, 0), (90, 0), (91, 0)] m0 mh → (0 ≤ x1 ∧ x1 ≤ 18) → (18 - x1) * 1 + 5 < (k : Int) → zw (zu_ex (zt_T n) 126 2 [(40, a0), (0, x1)] [] mh) (fun v m => zi_I m ∧ zfr [(15, 65), (15, 66), (15, 67), (15, 68), (15, 69), (15, 70), (85, 0), (86, 0), (87, 0), (88, 0), (90, 0), (91, 0)] m0 m ∧ True ∧ (0 ≤ m 216 1 ∧ m 216 1 ≤ 16))) ∧ (∀ (x1 : Int) (mh : zu_m), zi_I mh → zfr [(15, 65), (15, 66), (15, 67), (15, 68), (15, 69), (15, 70), (85, 0), (86, 0), (87, 0), (88, 0), (90, 0), (91, 0)] m0 mh → (0 ≤ x1 ∧ x1 ≤ 4) → (0 ≤ mh 216 1 ∧ mh 216 1 ≤ 16) → (4 - x1) * 1 + 0 < (k : Int) → zw (zu_ex (zt_T n) 126 43 [(40, a0), (0, x1)] [] mh) (fun v m => zi_I m ∧ zfr [(15, 65), (15, 66), (15, 67), (15, 68), (15, 69), (15, 70), (85, 0), (86, 0), (87, 0), (88, 0), (90, 0), (91, 0)] m0 m ∧ True ∧ (0 ≤ m 216 1 ∧ m 216 1 ≤ 16))) := by
  intro k
  induction k with
  | zero => exact ⟨fun x1 mh hImh hFmh hbx1 hM => by exfalso; omega, fun x1 mh hImh hFmh hbx1 hg1 hM => by exfalso; omega⟩
  | succ k ih =>
    refine ⟨?_, ?_⟩
    · intro x1 mh hImh hFmh hbx1 hM
      refine zw_eq (zr_126_2 n a0 x1 mh) ?_
      refine zw_ite (fun h1 => ?_) (fun h1 => ?_)
      · have b2 : 0 ≤ (0 : Int) ∧ (0 : Int) < 2 := by omega
        refine zw_if b2 ?_
        have r3 : 0 ≤ (mh 216 0) ∧ (mh 216 0) ≤ 16 := zi_rdr (m := 2) (r0 := 0) (r1 := 0) hImh zq_216 (by omega) (by decide +kernel)
        have b4 : 0 ≤ (1 : Int) ∧ (1 : Int) < 2 := by omega
        refine zw_if b4 ?_
        generalize hmm5 : zu_up mh 216 1 (mh 216 0) = m5
        have hIm5 := zi_upr (m := 2) (r0 := 1) (r1 := 1) (lo := 0) (hi := 18) hmm5 hImh zq_216 (by omega) (by decide +kernel) (by omega) (by omega)
        have hFm5 := zfr_up hmm5 hFmh zq_216 rfl
        have r6 : 0 ≤ (m5 216 1) ∧ (m5 216 1) ≤ 18 := zi_rdr (m := 2) (r0 := 1) (r1 := 1) hIm5 zq_216 (by omega) (by decide +kernel)
        have e7 : (m5 216 1) = (mh 216 0) := (zs_eq hmm5)
        have hM : (4 - 0) * 1 + 0 < (k : Int) := by omega
        exact ih.2 0 m5 hIm5 hFm5 ⟨by omega, by omega⟩ ⟨by omega, by omega⟩ hM
      · have w8 := zu_w32_id (z := 18 + x1) (by omega) (by omega)
        have b9 : 0 ≤ x1 ∧ x1 < 36 := by omega
        refine zw_if b9 ?_
        have r10 : (-3) ≤ (mh 215 x1) ∧ (mh 215 x1) ≤ 3 := zi_rd hImh zq_215 (zb_85 _)
        have b11 : 0 ≤ (zu_w32 (18 + x1)) ∧ (zu_w32 (18 + x1)) < 36 := by omega
        refine zw_if b11 ?_
        generalize hmm12 : zu_up mh 215 (zu_w32 (18 + x1)) (mh 215 x1) = m12
        have hIm12 := zi_up hmm12 hImh zq_215 (zb_85 _) (by omega) (by omega)
        have hFm12 := zfr_up hmm12 hFmh zq_215 rfl
        have w13 := zu_w32_id (z := x1 + 1) (by omega) (by omega)
        have hM : (18 - (zu_w32 (x1 + 1))) * 1 + 5 < (k : Int) := by omega
        exact ih.1 (zu_w32 (x1 + 1)) m12 hIm12 hFm12 ⟨by omega, by omega⟩ hM
    · intro x1 mh hImh hFmh hbx1 hg1 hM
      refine zw_eq (zr_126_43 n a0 x1 mh) ?_
      refine zw_ite (fun h14 => ?_) (fun h14 => ?_)
      · have b15 : 0 ≤ (0 : Int) ∧ (0 : Int) < 2 := by omega
        refine zw_if b15 ?_
        have r16 : (-9223372036854775808) ≤ (mh 220 0) ∧ (mh 220 0) ≤ 9223372036854775807 := zi_rd hImh zq_220 (zb_90 _)
        have b17 : 0 ≤ (1 : Int) ∧ (1 : Int) < 2 := by omega
        refine zw_if b17 ?_
        generalize hmm18 : zu_up mh 220 1 (mh 220 0) = m18
        have hIm18 := zi_up hmm18 hImh zq_220 (zb_90 _) (by omega) (by omega)
        have hFm18 := zfr_up hmm18 hFmh zq_220 rfl
        have b19 : 0 ≤ (0 : Int) ∧ (0 : Int) < 2 := by omega
        refine zw_if b19 ?_
        have r20 : (-2147483648) ≤ (m18 221 0) ∧ (m18 221 0) ≤ 2147483647 := zi_rd hIm18 zq_221 (zb_91 _)
        have b21 : 0 ≤ (1 : Int) ∧ (1 : Int) < 2 := by omega
        refine zw_if b21 ?_
        generalize hmm22 : zu_up m18 221 1 (m18 221 0) = m22
        have hIm22 := zi_up hmm22 hIm18 zq_221 (zb_91 _) (by omega) (by omega)
        have hFm22 := zfr_up hmm22 hFm18 zq_221 rfl
        refine zw_bd (zw_mono (zk_35 n hIm22 hc0) (fun v24 m23 hqm23 => ?_))
        obtain ⟨hIm23, hfm23, hvm23⟩ := hqm23
        have hFm23 := zfr_tr hFm22 hfm23 rfl
        have r25 : 0 ≤ (m23 216 1) ∧ (m23 216 1) ≤ 18 := zi_rdr (m := 2) (r0 := 1) (r1 := 1) hIm23 zq_216 (by omega) (by decide +kernel)
        have e26 : (m23 216 1) = (mh 216 1) := (Eq.trans (zfr_ap hfm23 zq_216 rfl) (Eq.trans (zs_ne hmm22 (Or.inl (zc_ne zq_216 zq_221 (by decide)))) (zs_ne hmm18 (Or.inl (zc_ne zq_216 zq_220 (by decide))))))
        exact zw_some ⟨hIm23, hFm23, trivial, ⟨by omega, by omega⟩⟩
      · have w27 := zu_w32_id (z := 4 + x1) (by omega) (by omega)
        have b28 : 0 ≤ x1 ∧ x1 < 8 := by omega
        refine zw_if b28 ?_
        have r29 : 0 ≤ (mh 217 x1) ∧ (mh 217 x1) ≤ 47 := zi_rd hImh zq_217 (zb_87 _)
        have b30 : 0 ≤ (zu_w32 (4 + x1)) ∧ (zu_w32 (4 + x1)) < 8 := by omega
        refine zw_if b30 ?_
        generalize hmm31 : zu_up mh 217 (zu_w32 (4 + x1)) (mh 217 x1) = m31
        have hIm31 := zi_up hmm31 hImh zq_217 (zb_87 _) (by omega) (by omega)
        have hFm31 := zfr_up hmm31 hFmh zq_217 rfl
        have b32 : 0 ≤ x1 ∧ x1 < 8 := by omega
        refine zw_if b32 ?_
        have r33 : (-2147483648) ≤ (m31 218 x1) ∧ (m31 218 x1) ≤ 2147483647 := zi_rd hIm31 zq_218 (zb_88 _)
        have b34 : 0 ≤ (zu_w32 (4 + x1)) ∧ (zu_w32 (4 + x1)) < 8 := by omega
        refine zw_if b34 ?_
        generalize hmm35 : zu_up m31 218 (zu_w32 (4 + x1)) (m31 218 x1) = m35
        have hIm35 := zi_up hmm35 hIm31 zq_218 (zb_88 _) (by omega) (by omega)
        have hFm35 := zfr_up hmm35 hFm31 zq_218 rfl
        have w36 := zu_w32_id (z := x1 + 1) (by omega) (by omega)
        have r37 : 0 ≤ (m35 216 1) ∧ (m35 216 1) ≤ 18 := zi_rdr (m := 2) (r0 := 1) (r1 := 1) hIm35 zq_216 (by omega) (by decide +kernel)
        have e38 : (m35 216 1) = (mh 216 1) := (Eq.trans (zs_ne hmm35 (Or.inl (zc_ne zq_216 zq_218 (by decide)))) (zs_ne hmm31 (Or.inl (zc_ne zq_216 zq_217 (by decide)))))
        have hM : (4 - (zu_w32 (x1 + 1))) * 1 + 0 < (k : Int) := by omega
        exact ih.2 (zu_w32 (x1 + 1)) m35 hIm35 hFm35 ⟨by omega, by omega⟩ ⟨by omega, by omega⟩ hM
set_option maxHeartbeats 4000000 in
theorem zk_126 (n : Nat) {a0 : Int} {m0 : zu_m} (hIm0 : zi_I m0) (hc0 : zcls a0 = 15)     : zw (zu_call (zt_T n) 126 [(40, a0)] m0) (fun v m => zi_I m ∧ zfr [(15, 65), (15, 66), (15, 67), (15, 68), (15, 69), (15, 70), (85, 0), (86, 0), (87, 0), (88, 0), (90, 0), (91, 0)] m0 m ∧ True ∧ (0 ≤ m 216 1 ∧ m 216 1 ≤ 16)) := by
  have hFm0 : zfr [(15, 65), (15, 66), (15, 67), (15, 68), (15, 69), (15, 70), (85, 0), (86, 0), (87, 0), (88, 0), (90, 0), (91, 0)] m0 m0 := zfr_rf _ _
  refine zw_eq (zr_126_0 n a0 m0) ?_
  have hM : (18 - 0) * 1 + 5 < ((24 : Nat) : Int) := by omega
  exact (zl_126 n (m0 := m0) hc0 24).1 0 m0 hIm0 hFm0 ⟨by omega, by omega⟩ hM
set_option maxHeartbeats 4000000 in
theorem zk_134 (n : Nat) {a0 a1 a2 : Int} {m0 : zu_m} (hIm0 : zi_I m0) (hc0 : zcls a0 = 15) (ha1 : 0 ≤ a1 ∧ a1 ≤ 3) (ha2 : 0 ≤ a2 ∧ a2 ≤ 47)    : zw (zu_call (zt_T n) 134 [(40, a0), (0, a1), (0, a2)] m0) (fun v m => zi_I m ∧ zfr [] m0 m ∧ (0 ≤ v ∧ v ≤ 1)) := by
  have hFm0 : zfr [] m0 m0 := zfr_rf _ _
  refine zw_eq (zr_134_0 n a0 a1 a2 m0) ?_
  have r1 : (-2147483648) ≤ (m0 a0 64) ∧ (m0 a0 64) ≤ 2147483647 := zi_rd hIm0 hc0 zb_15_64
  refine zw_ite (fun h2 => ?_) (fun h2 => ?_)
  · refine zw_b (by omega) ?_
    exact zw_some ⟨hIm0, hFm0, ⟨by omega, by omega⟩⟩
  · refine zw_bd (zw_eq (zr_128_0 n a0 a1 m0) ?_)
    have r3 : 0 ≤ (m0 a0 68) ∧ (m0 a0 68) ≤ 1 := zi_rd hIm0 hc0 zb_15_68
    refine zw_ite (fun h4 => ?_) (fun h4 => ?_)
    · have b5 : 0 ≤ a1 ∧ a1 < 8 := by omega
      refine zw_if b5 ?_
      have r6 : 0 ≤ (m0 202 a1) ∧ (m0 202 a1) ≤ 15 := zi_rd hIm0 zq_202 (zb_72 _)
      refine zw_some ?_
      refine zw_ite (fun h7 => ?_) (fun h7 => ?_)
      · refine zw_b (by omega) ?_
        exact zw_some ⟨hIm0, hFm0, ⟨by omega, by omega⟩⟩
      · have r8 : 1 ≤ (m0 a0 12) ∧ (m0 a0 12) ≤ 8 := zi_rd hIm0 hc0 zb_15_12
        refine zw_nif (by omega) ?_
        have d9 := ztdiv_bd (x := a2) (y := (m0 a0 12)) (by omega) (by omega)
        have w10 := zu_w32_id (z := Int.tdiv a2 (m0 a0 12)) (by omega) (by omega)
        have b11 : 0 ≤ (1 : Int) ∧ (1 : Int) < 10 := by omega
        refine zw_if b11 ?_
        have r12 : (-1) ≤ (m0 194 1) ∧ (m0 194 1) ≤ 99999 := zi_rd hIm0 zq_194 (zb_64 _)
        refine zw_ite (fun h13 => ?_) (fun h13 => ?_)
        · refine zw_b (by omega) ?_
          exact zw_some ⟨hIm0, hFm0, ⟨by omega, by omega⟩⟩
        · refine zw_b (by omega) ?_
          exact zw_some ⟨hIm0, hFm0, ⟨by omega, by omega⟩⟩
    · refine zw_some ?_
      refine zw_ite (fun h14 => ?_) (fun h14 => ?_)
      · exfalso; omega
      · have r15 : 1 ≤ (m0 a0 12) ∧ (m0 a0 12) ≤ 8 := zi_rd hIm0 hc0 zb_15_12
        refine zw_nif (by omega) ?_
        have d16 := ztdiv_bd (x := a2) (y := (m0 a0 12)) (by omega) (by omega)
        have w17 := zu_w32_id (z := Int.tdiv a2 (m0 a0 12)) (by omega) (by omega)
        have b18 : 0 ≤ (1 : Int) ∧ (1 : Int) < 10 := by omega
        refine zw_if b18 ?_
        have r19 : (-1) ≤ (m0 194 1) ∧ (m0 194 1) ≤ 99999 := zi_rd hIm0 zq_194 (zb_64 _)
        refine zw_ite (fun h20 => ?_) (fun h20 => ?_)
        · refine zw_b (by omega) ?_
          exact zw_some ⟨hIm0, hFm0, ⟨by omega, by omega⟩⟩
        · refine zw_b (by omega) ?_
          exact zw_some ⟨hIm0, hFm0, ⟨by omega, by omega⟩⟩
set_option maxHeartbeats 4000000 in
theorem zl_141 (n : Nat) {a0 a1 : Int} {m0 : zu_m} (hc0 : zcls a0 = 15)  : ∀ k : Nat, (∀ (x2 x3 x4 : Int) (mh : zu_m), zi_I mh → zfr [] m0 mh → (0 ≤ a1 ∧ a1 ≤ 1) → (0 ≤ x2 ∧ x2 ≤ 2147483647) → ((-2147483648) ≤ x3 ∧ x3 ≤ 99) → (0 ≤ x4 ∧ x4 ≤ 4) → (4 - x4) * 1 + 0 < (k : Int) → zw (zu_ex (zt_T n) 141 8 [(40, a0), (0, a1), (0, x2), (0, x3), (0, x4), (2, 0)] [] mh) (fun v m => zi_I m ∧ zfr [] m0 m ∧ ((-2147483648) ≤ v ∧ v ≤ 2147483647))) := by
  intro k
  induction k with
  | zero => exact fun x2 x3 x4 mh hImh hFmh hba1 hbx2 hbx3 hbx4 hM => by exfalso; omega
  | succ k ih =>
    intro x2 x3 x4 mh hImh hFmh hba1 hbx2 hbx3 hbx4 hM
    refine zw_eq (zr_141_8 n a0 a1 x2 x3 x4 mh) ?_
    have r1 : 0 ≤ (mh a0 15) ∧ (mh a0 15) ≤ 4 := zi_rd hImh hc0 zb_15_15
    refine zw_ite (fun h2 => ?_) (fun h2 => ?_)
    · refine zw_ite (fun h3 => ?_) (fun h3 => ?_)
      · have w4 := zu_w32_rg (x2 - x3)
        exact zw_some ⟨hImh, hFmh, ⟨by omega, by omega⟩⟩
      · exact zw_some ⟨hImh, hFmh, ⟨by omega, by omega⟩⟩
    · refine zw_bd (zw_mono (zk_130 n hImh hc0 ⟨by omega, by omega⟩ ⟨by omega, by omega⟩) (fun v6 m5 hqm5 => ?_))
      obtain ⟨hIm5, hfm5, hvm5⟩ := hqm5
      have hFm5 := zfr_tr hFmh hfm5 rfl
      refine zw_ite (fun h7 => ?_) (fun h7 => ?_)
      · refine zw_ite (fun h8 => ?_) (fun h8 => ?_)
        · have w9 := zu_w32_id (z := x4 + 1) (by omega) (by omega)
          have hM : (4 - (zu_w32 (x4 + 1))) * 1 + 0 < (k : Int) := by omega
          exact zw_le (zu_forget (zu_lr_same (zu_lr_same (zu_lr_same (zu_lr_same (zu_lr_same (zu_lr_drop zu_lr_nil))))))) (ih x2 x3 (zu_w32 (x4 + 1)) m5 hIm5 hFm5 ⟨by omega, by omega⟩ ⟨by omega, by omega⟩ ⟨by omega, by omega⟩ ⟨by omega, by omega⟩ hM)
        · have w10 := zu_w32_id (z := x4 + 1) (by omega) (by omega)
          have hM : (4 - (zu_w32 (x4 + 1))) * 1 + 0 < (k : Int) := by omega
          exact zw_le (zu_forget (zu_lr_same (zu_lr_same (zu_lr_same (zu_lr_same (zu_lr_same (zu_lr_drop zu_lr_nil))))))) (ih x2 v6 (zu_w32 (x4 + 1)) m5 hIm5 hFm5 ⟨by omega, by omega⟩ ⟨by omega, by omega⟩ ⟨by omega, by omega⟩ ⟨by omega, by omega⟩ hM)
      · refine zw_ite (fun h11 => ?_) (fun h11 => ?_)
        · have w12 := zu_w32_id (z := x4 + 1) (by omega) (by omega)
          have hM : (4 - (zu_w32 (x4 + 1))) * 1 + 0 < (k : Int) := by omega
          exact zw_le (zu_forget (zu_lr_same (zu_lr_same (zu_lr_same (zu_lr_same (zu_lr_same (zu_lr_drop zu_lr_nil))))))) (ih v6 x3 (zu_w32 (x4 + 1)) m5 hIm5 hFm5 ⟨by omega, by omega⟩ ⟨by omega, by omega⟩ ⟨by omega, by omega⟩ ⟨by omega, by omega⟩ hM)
        · have w13 := zu_w32_id (z := x4 + 1) (by omega) (by omega)
          have hM : (4 - (zu_w32 (x4 + 1))) * 1 + 0 < (k : Int) := by omega
          exact zw_le (zu_forget (zu_lr_same (zu_lr_same (zu_lr_same (zu_lr_same (zu_lr_same (zu_lr_drop zu_lr_nil))))))) (ih v6 v6 (zu_w32 (x4 + 1)) m5 hIm5 hFm5 ⟨by omega, by omega⟩ ⟨by omega, by omega⟩ ⟨by omega, by omega⟩ ⟨by omega, by omega⟩ hM)
set_option maxHeartbeats 4000000 in
theorem zk_141 (n : Nat) {a0 a1 : Int} {m0 : zu_m} (hIm0 : zi_I m0) (hc0 : zcls a0 = 15) (ha1 : 0 ≤ a1 ∧ a1 ≤ 1)    : zw (zu_call (zt_T n) 141 [(40, a0), (0, a1)] m0) (fun v m => zi_I m ∧ zfr [] m0 m ∧ ((-2147483648) ≤ v ∧ v ≤ 2147483647)) := by
  have hFm0 : zfr [] m0 m0 := zfr_rf _ _
  refine zw_eq (zr_141_0 n a0 a1 m0) ?_
  have hM : (4 - 0) * 1 + 0 < ((5 : Nat) : Int) := by omega
  exact (zl_141 n (m0 := m0) hc0 5) 0 99 0 m0 hIm0 hFm0 ⟨by omega, by omega⟩ ⟨by omega, by omega⟩ ⟨by omega, by omega⟩ ⟨by omega, by omega⟩ hM
set_option maxHeartbeats 4000000 in
theorem zk_144 (n : Nat) {a0 a1 a2 : Int} {m0 : zu_m} (hIm0 : zi_I m0) (hc0 : zcls a0 = 15) (ha1 : (-2147483648) ≤ a1 ∧ a1 ≤ 2147483647) (ha2 : (-2147483648) ≤ a2 ∧ a2 ≤ 2147483647)    : zw (zu_call (zt_T n) 144 [(40, a0), (0, a1), (0, a2)] m0) (fun v m => zi_I m ∧ zfr [(15, 3)] m0 m ∧ ((-4) ≤ v ∧ v ≤ 47) ∧ (0 ≤ m a0 2 ∧ m a0 2 ≤ 0)) := by
  have hFm0 : zfr [(15, 3)] m0 m0 := zfr_rf _ _
  refine zw_eq (zr_144_0 n a0 a1 a2 m0) ?_
  generalize hmm1 : zu_up m0 a0 2 0 = m1
  have hIm1 := zi_up hmm1 hIm0 hc0 zb_15_2 (by omega) (by omega)
  have hFm1 := zfr_up hmm1 hFm0 hc0 rfl
  refine zw_bd (zw_eq (zr_124_0 n a0 a1 m1) ?_)
  refine zw_ite (fun h2 => ?_) (fun h2 => ?_)
  · refine zw_b (by omega) ?_
    refine zw_some ?_
    refine zw_ite (fun h3 => ?_) (fun h3 => ?_)
    · exfalso; omega
    · have r4 : (-2147483648) ≤ (m1 a0 2) ∧ (m1 a0 2) ≤ 2147483647 := zi_rd hIm1 hc0 zb_15_2
      have e5 : (m1 a0 2) = 0 := (zs_eq hmm1)
      exact zw_some ⟨hIm1, hFm1, ⟨by omega, by omega⟩, ⟨by omega, by omega⟩⟩
  · have b6 : 0 ≤ (0 : Int) ∧ (0 : Int) < 2 := by omega
    refine zw_if b6 ?_
    have r7 : 0 ≤ (m1 216 0) ∧ (m1 216 0) ≤ 16 := zi_rdr (m := 2) (r0 := 0) (r1 := 0) hIm1 zq_216 (by omega) (by decide +kernel)
    refine zw_ite (fun h8 => ?_) (fun h8 => ?_)
    · refine zw_b (by omega) ?_
      refine zw_some ?_
      refine zw_ite (fun h9 => ?_) (fun h9 => ?_)
      · exfalso; omega
      · have r10 : (-2147483648) ≤ (m1 a0 2) ∧ (m1 a0 2) ≤ 2147483647 := zi_rd hIm1 hc0 zb_15_2
        have e11 : (m1 a0 2) = 0 := (zs_eq hmm1)
        exact zw_some ⟨hIm1, hFm1, ⟨by omega, by omega⟩, ⟨by omega, by omega⟩⟩
    · refine zw_b (by omega) ?_
      refine zw_some ?_
      refine zw_ite (fun h12 => ?_) (fun h12 => ?_)
      · refine zw_ite (fun h13 => ?_) (fun h13 => ?_)
        · have b14 : 0 ≤ a1 ∧ a1 < 36 := by omega
          refine zw_if b14 ?_
          have r15 : 0 ≤ (m1 197 a1) ∧ (m1 197 a1) ≤ 47 := zi_rd hIm1 zq_197 (zb_67 _)
          have r16 : (-2147483648) ≤ (m1 a0 2) ∧ (m1 a0 2) ≤ 2147483647 := zi_rd hIm1 hc0 zb_15_2
          have e17 : (m1 a0 2) = 0 := (zs_eq hmm1)
          exact zw_some ⟨hIm1, hFm1, ⟨by omega, by omega⟩, ⟨by omega, by omega⟩⟩
        · refine zw_ite (fun h18 => ?_) (fun h18 => ?_)
          · have b19 : 0 ≤ a1 ∧ a1 < 36 := by omega
            refine zw_if b19 ?_
            have r20 : 0 ≤ (m1 198 a1) ∧ (m1 198 a1) ≤ 3 := zi_rd hIm1 zq_198 (zb_68 _)
            have r21 : (-2147483648) ≤ (m1 a0 2) ∧ (m1 a0 2) ≤ 2147483647 := zi_rd hIm1 hc0 zb_15_2
            have e22 : (m1 a0 2) = 0 := (zs_eq hmm1)
            exact zw_some ⟨hIm1, hFm1, ⟨by omega, by omega⟩, ⟨by omega, by omega⟩⟩
          · refine zw_ite (fun h23 => ?_) (fun h23 => ?_)
            · have b24 : 0 ≤ a1 ∧ a1 < 36 := by omega
              refine zw_if b24 ?_
              have r25 : 0 ≤ (m1 199 a1) ∧ (m1 199 a1) ≤ 9 := zi_rd hIm1 zq_199 (zb_69 _)
              have r26 : (-2147483648) ≤ (m1 a0 2) ∧ (m1 a0 2) ≤ 2147483647 := zi_rd hIm1 hc0 zb_15_2
              have e27 : (m1 a0 2) = 0 := (zs_eq hmm1)
              exact zw_some ⟨hIm1, hFm1, ⟨by omega, by omega⟩, ⟨by omega, by omega⟩⟩
            · refine zw_ite (fun h28 => ?_) (fun h28 => ?_)
              · have b29 : 0 ≤ a1 ∧ a1 < 36 := by omega
                refine zw_if b29 ?_
                have r30 : (-3) ≤ (m1 215 a1) ∧ (m1 215 a1) ≤ 3 := zi_rd hIm1 zq_215 (zb_85 _)
                have r31 : (-2147483648) ≤ (m1 a0 2) ∧ (m1 a0 2) ≤ 2147483647 := zi_rd hIm1 hc0 zb_15_2
                have e32 : (m1 a0 2) = 0 := (zs_eq hmm1)
                exact zw_some ⟨hIm1, hFm1, ⟨by omega, by omega⟩, ⟨by omega, by omega⟩⟩
              · have r33 : (-2147483648) ≤ (m1 a0 2) ∧ (m1 a0 2) ≤ 2147483647 := zi_rd hIm1 hc0 zb_15_2
                have e34 : (m1 a0 2) = 0 := (zs_eq hmm1)
                exact zw_some ⟨hIm1, hFm1, ⟨by omega, by omega⟩, ⟨by omega, by omega⟩⟩
      · exfalso; omega
set_option maxHeartbeats 4000000 in
theorem zl_156 (n : Nat) {a0 : Int} {m0 : zu_m} (hc0 : zcls a0 = 15)  : ∀ k : Nat, (∀ (x1 : Int) (mh : zu_m), zi_I mh → zfr [(15, 65), (15, 66), (15, 67), (15, 68), (15, 69), (15, 70), (93, 0)] m0 mh → (0 ≤ x1 ∧ x1 ≤ 48) → (48 - x1) * 1 + 0 < (k : Int) → zw (zu_ex (zt_T n) 156 6 [(40, a0), (0, x1)] [] mh) (fun v m => zi_I m ∧ zfr [(15, 65), (15, 66), (15, 67), (15, 68), (15, 69), (15, 70), (93, 0)] m0 m ∧ True)) := by
  intro k
  induction k with
  | zero => exact fun x1 mh hImh hFmh hbx1 hM => by exfalso; omega
  | succ k ih =>
    intro x1 mh hImh hFmh hbx1 hM
    refine zw_eq (zr_156_6 n a0 x1 mh) ?_
    refine zw_ite (fun h1 => ?_) (fun h1 => ?_)
    · exact zw_some ⟨hImh, hFmh, trivial⟩
    · have b2 : 0 ≤ x1 ∧ x1 < 48 := by omega
      refine zw_if b2 ?_
      have r3 : (-2147483648) ≤ (mh 222 x1) ∧ (mh 222 x1) ≤ 2147483647 := zi_rd hImh zq_222 (zb_92 _)
      have b4 : 0 ≤ x1 ∧ x1 < 48 := by omega
      refine zw_if b4 ?_
      generalize hmm5 : zu_up mh 223 x1 (mh 222 x1) = m5
      have hIm5 := zi_up hmm5 hImh zq_223 (zb_93 _) (by omega) (by omega)
      have hFm5 := zfr_up hmm5 hFmh zq_223 rfl
      have w6 := zu_w32_id (z := x1 + 1) (by omega) (by omega)
      have hM : (48 - (zu_w32 (x1 + 1))) * 1 + 0 < (k : Int) := by omega
      exact ih (zu_w32 (x1 + 1)) m5 hIm5 hFm5 ⟨by omega, by omega⟩ hM
set_option maxHeartbeats 4000000 in
theorem zk_156 (n : Nat) {a0 : Int} {m0 : zu_m} (hIm0 : zi_I m0) (hc0 : zcls a0 = 15)     : zw (zu_call (zt_T n) 156 [(40, a0)] m0) (fun v m => zi_I m ∧ zfr [(15, 65), (15, 66), (15, 67), (15, 68), (15, 69), (15, 70), (93, 0)] m0 m ∧ True) := by
  have hFm0 : zfr [(15, 65), (15, 66), (15, 67), (15, 68), (15, 69), (15, 70), (93, 0)] m0 m0 := zfr_rf _ _
  refine zw_eq (zr_156_0 n a0 m0) ?_
  refine zw_bd (zw_mono (zk_35 n hIm0 hc0) (fun v8 m7 hqm7 => ?_))
  obtain ⟨hIm7, hfm7, hvm7⟩ := hqm7
  have hFm7 := zfr_tr hFm0 hfm7 rfl
  have hM : (48 - 0) * 1 + 0 < ((49 : Nat) : Int) := by omega
  exact (zl_156 n (m0 := m0) hc0 49) 0 m7 hIm7 hFm7 ⟨by omega, by omega⟩ hM
set_option maxHeartbeats 4000000 in
theorem zk_166 (n : Nat) {a0 : Int} {m0 : zu_m} (hIm0 : zi_I m0) (hc0 : zcls a0 = 15)     : zw (zu_call (zt_T n) 166 [(40, a0)] m0) (fun v m => zi_I m ∧ zfr [(15, 76), (94, 0)] m0 m ∧ True ∧ (1 ≤ m a0 75 ∧ m a0 75 ≤ 4)) := by
  sorry
set_option maxHeartbeats 4000000 in
theorem zl_168 (n : Nat) {a0 a1 a2 : Int} {m0 : zu_m} (hc0 : zcls a0 = 15)  : ∀ k : Nat, (∀ (x3 : Int) (mh : zu_m), zi_I mh → zfr [] m0 mh → (0 ≤ a1 ∧ a1 ≤ 3) → (0 ≤ a2 ∧ a2 ≤ 3) → (0 ≤ x3 ∧ x3 ≤ 4) → (1 ≤ mh a0 75 ∧ mh a0 75 ≤ 4) → (4 - x3) * 1 + 0 < (k : Int) → zw (zu_ex (zt_T n) 168 2 [(40, a0), (0, a1), (0, a2), (0, x3)] [] mh) (fun v m => zi_I m ∧ zfr [] m0 m ∧ (0 ≤ v ∧ v ≤ 1))) := by
  intro k
  induction k with
  | zero => exact fun x3 mh hImh hFmh hba1 hba2 hbx3 hg3 hM => by exfalso; omega
  | succ k ih =>
    intro x3 mh hImh hFmh hba1 hba2 hbx3 hg3 hM
    refine zw_eq (zr_168_2 n a0 a1 a2 x3 mh) ?_
    refine zw_ite (fun h1 => ?_) (fun h1 => ?_)
    · refine zw_b (by omega) ?_
      exact zw_some ⟨hImh, hFmh, ⟨by omega, by omega⟩⟩
    · refine zw_bd (zw_mono (zk_167 n hImh hc0 ⟨by omega, by omega⟩ ⟨by omega, by omega⟩) (fun v3 m2 hqm2 => ?_))
      obtain ⟨hIm2, hfm2, hvm2⟩ := hqm2
      have hFm2 := zfr_tr hFmh hfm2 rfl
      refine zw_bd (zw_mono (zk_167 n hIm2 hc0 ⟨by omega, by omega⟩ ⟨by omega, by omega⟩) (fun v5 m4 hqm4 => ?_))
      obtain ⟨hIm4, hfm4, hvm4⟩ := hqm4
      have hFm4 := zfr_tr hFm2 hfm4 rfl
      refine zw_ite (fun h6 => ?_) (fun h6 => ?_)
      · refine zw_b (by omega) ?_
        exact zw_some ⟨hIm4, hFm4, ⟨by omega, by omega⟩⟩
      · refine zw_bd (zw_mono (zk_167 n hIm4 hc0 ⟨by omega, by omega⟩ ⟨by omega, by omega⟩) (fun v8 m7 hqm7 => ?_))
        obtain ⟨hIm7, hfm7, hvm7⟩ := hqm7
        have hFm7 := zfr_tr hFm4 hfm7 rfl
        refine zw_bd (zw_mono (zk_167 n hIm7 hc0 ⟨by omega, by omega⟩ ⟨by omega, by omega⟩) (fun v10 m9 hqm9 => ?_))
        obtain ⟨hIm9, hfm9, hvm9⟩ := hqm9
        have hFm9 := zfr_tr hFm7 hfm9 rfl
        refine zw_ite (fun h11 => ?_) (fun h11 => ?_)
        · have w12 := zu_w32_id (z := x3 + 1) (by omega) (by omega)
          have r13 : 0 ≤ (m9 a0 75) ∧ (m9 a0 75) ≤ 4 := zi_rd hIm9 hc0 zb_15_75
          have e14 : (m9 a0 75) = (mh a0 75) := (Eq.trans (zfr_ap hfm9 hc0 rfl) (Eq.trans (zfr_ap hfm7 hc0 rfl) (Eq.trans (zfr_ap hfm4 hc0 rfl) (zfr_ap hfm2 hc0 rfl))))
          have hM : (4 - (zu_w32 (x3 + 1))) * 1 + 0 < (k : Int) := by omega
          exact ih (zu_w32 (x3 + 1)) m9 hIm9 hFm9 ⟨by omega, by omega⟩ ⟨by omega, by omega⟩ ⟨by omega, by omega⟩ ⟨by omega, by omega⟩ hM
        · refine zw_b (by omega) ?_
          exact zw_some ⟨hIm9, hFm9, ⟨by omega, by omega⟩⟩
set_option maxHeartbeats 4000000 in
theorem zk_168 (n : Nat) {a0 a1 a2 : Int} {m0 : zu_m} (hIm0 : zi_I m0) (hc0 : zcls a0 = 15) (ha1 : 0 ≤ a1 ∧ a1 ≤ 3) (ha2 : 0 ≤ a2 ∧ a2 ≤ 3)  (he0 : 1 ≤ m0 a0 75 ∧ m0 a0 75 ≤ 4)  : zw (zu_call (zt_T n) 168 [(40, a0), (0, a1), (0, a2)] m0) (fun v m => zi_I m ∧ zfr [] m0 m ∧ (0 ≤ v ∧ v ≤ 1)) := by
  have hFm0 : zfr [] m0 m0 := zfr_rf _ _
  refine zw_eq (zr_168_0 n a0 a1 a2 m0) ?_
  have hM : (4 - 0) * 1 + 0 < ((5 : Nat) : Int) := by omega
  exact (zl_168 n (m0 := m0) hc0 5) 0 m0 hIm0 hFm0 ⟨by omega, by omega⟩ ⟨by omega, by omega⟩ ⟨by omega, by omega⟩ ⟨by omega, by omega⟩ hM
set_option maxHeartbeats 4000000 in
theorem zk_179 (n : Nat) {a0 a1 a2 a3 a4 : Int} {m0 : zu_m} (hIm0 : zi_I m0) (hc0 : zcls a0 = 15) (ha1 : (-2147483648) ≤ a1 ∧ a1 ≤ 2147483647) (ha2 : (-2147483648) ≤ a2 ∧ a2 ≤ 2147483647) (ha3 : (-2147483648) ≤ a3 ∧ a3 ≤ 2147483647) (ha4 : 0 ≤ a4 ∧ a4 ≤ 1)    : zw (zu_call (zt_T n) 179 [(40, a0), (0, a1), (0, a2), (0, a3), (0, a4)] m0) (fun v m => zi_I m ∧ zfr [(15, 3), (15, 78), (96, 0)] m0 m ∧ ((-1) ≤ v ∧ v ≤ 23) ∧ (0 ≤ m a0 2 ∧ m a0 2 ≤ 0)) := by
  have hFm0 : zfr [(15, 3), (15, 78), (96, 0)] m0 m0 := zfr_rf _ _
  refine zw_eq (zr_179_0 n a0 a1 a2 a3 a4 m0) ?_
  generalize hmm1 : zu_up m0 a0 2 0 = m1
  have hIm1 := zi_up hmm1 hIm0 hc0 zb_15_2 (by omega) (by omega)
  have hFm1 := zfr_up hmm1 hFm0 hc0 rfl
  have r2 : 0 ≤ (m1 a0 77) ∧ (m1 a0 77) ≤ 24 := zi_rd hIm1 hc0 zb_15_77
  refine zw_ite (fun h3 => ?_) (fun h3 => ?_)
  · have r4 : (-2147483648) ≤ (m1 a0 2) ∧ (m1 a0 2) ≤ 2147483647 := zi_rd hIm1 hc0 zb_15_2
    have e5 : (m1 a0 2) = 0 := (zs_eq hmm1)
    exact zw_some ⟨hIm1, hFm1, ⟨by omega, by omega⟩, ⟨by omega, by omega⟩⟩
  · refine zw_bd (zw_eq (zr_83_0 n a1 1 200 m1) ?_)
    refine zw_ite (fun h6 => ?_) (fun h6 => ?_)
    · refine zw_b (by omega) ?_
      refine zw_some ?_
      refine zw_ite (fun h7 => ?_) (fun h7 => ?_)
      · have r8 : (-2147483648) ≤ (m1 a0 2) ∧ (m1 a0 2) ≤ 2147483647 := zi_rd hIm1 hc0 zb_15_2
        have e9 : (m1 a0 2) = 0 := (zs_eq hmm1)
        exact zw_some ⟨hIm1, hFm1, ⟨by omega, by omega⟩, ⟨by omega, by omega⟩⟩
      · exfalso; omega
    · refine zw_ite (fun h10 => ?_) (fun h10 => ?_)
      · refine zw_b (by omega) ?_
        refine zw_some ?_
        refine zw_ite (fun h11 => ?_) (fun h11 => ?_)
        · have r12 : (-2147483648) ≤ (m1 a0 2) ∧ (m1 a0 2) ≤ 2147483647 := zi_rd hIm1 hc0 zb_15_2
          have e13 : (m1 a0 2) = 0 := (zs_eq hmm1)
          exact zw_some ⟨hIm1, hFm1, ⟨by omega, by omega⟩, ⟨by omega, by omega⟩⟩
        · exfalso; omega
      · refine zw_b (by omega) ?_
        refine zw_some ?_
        refine zw_ite (fun h14 => ?_) (fun h14 => ?_)
        · exfalso; omega
        · refine zw_bd (zw_eq (zr_125_0 n a0 a2 m1) ?_)
          refine zw_ite (fun h15 => ?_) (fun h15 => ?_)
          · refine zw_b (by omega) ?_
            refine zw_some ?_
            refine zw_ite (fun h16 => ?_) (fun h16 => ?_)
            · have r17 : (-2147483648) ≤ (m1 a0 2) ∧ (m1 a0 2) ≤ 2147483647 := zi_rd hIm1 hc0 zb_15_2
              have e18 : (m1 a0 2) = 0 := (zs_eq hmm1)
              exact zw_some ⟨hIm1, hFm1, ⟨by omega, by omega⟩, ⟨by omega, by omega⟩⟩
            · exfalso; omega
          · have r19 : 0 ≤ (m1 a0 15) ∧ (m1 a0 15) ≤ 4 := zi_rd hIm1 hc0 zb_15_15
            refine zw_ite (fun h20 => ?_) (fun h20 => ?_)
            · refine zw_b (by omega) ?_
              refine zw_some ?_
              refine zw_ite (fun h21 => ?_) (fun h21 => ?_)
              · have r22 : (-2147483648) ≤ (m1 a0 2) ∧ (m1 a0 2) ≤ 2147483647 := zi_rd hIm1 hc0 zb_15_2
                have e23 : (m1 a0 2) = 0 := (zs_eq hmm1)
                exact zw_some ⟨hIm1, hFm1, ⟨by omega, by omega⟩, ⟨by omega, by omega⟩⟩
              · exfalso; omega
            · refine zw_b (by omega) ?_
              refine zw_some ?_
              refine zw_ite (fun h24 => ?_) (fun h24 => ?_)
              · exfalso; omega
              · refine zw_bd (zw_eq (zr_83_0 n a3 0 16 m1) ?_)
                refine zw_ite (fun h25 => ?_) (fun h25 => ?_)
                · refine zw_b (by omega) ?_
                  refine zw_some ?_
                  refine zw_ite (fun h26 => ?_) (fun h26 => ?_)
                  · exfalso; omega
                  · have r27 : (-2147483648) ≤ (m1 a0 2) ∧ (m1 a0 2) ≤ 2147483647 := zi_rd hIm1 hc0 zb_15_2
                    have e28 : (m1 a0 2) = 0 := (zs_eq hmm1)
                    exact zw_some ⟨hIm1, hFm1, ⟨by omega, by omega⟩, ⟨by omega, by omega⟩⟩
                · refine zw_ite (fun h29 => ?_) (fun h29 => ?_)
                  · refine zw_b (by omega) ?_
                    refine zw_some ?_
                    refine zw_ite (fun h30 => ?_) (fun h30 => ?_)
                    · exfalso; omega
                    · have r31 : (-2147483648) ≤ (m1 a0 2) ∧ (m1 a0 2) ≤ 2147483647 := zi_rd hIm1 hc0 zb_15_2
                      have e32 : (m1 a0 2) = 0 := (zs_eq hmm1)
                      exact zw_some ⟨hIm1, hFm1, ⟨by omega, by omega⟩, ⟨by omega, by omega⟩⟩
                  · refine zw_b (by omega) ?_
                    refine zw_some ?_
                    refine zw_ite (fun h33 => ?_) (fun h33 => ?_)
                    · refine zw_ite (fun h34 => ?_) (fun h34 => ?_)
                      · refine zw_bd (zw_eq (zr_178_0 n a0 a1 a2 a3 0 m1) ?_)
                        have w35 := zu_w32_id (z := 4 * (m1 a0 77)) (by omega) (by omega)
                        have b36 : 0 ≤ (zu_w32 (4 * (m1 a0 77))) ∧ (zu_w32 (4 * (m1 a0 77))) < 96 := by omega
                        refine zw_if b36 ?_
                        generalize hmm37 : zu_up m1 226 (zu_w32 (4 * (m1 a0 77))) a1 = m37
                        have hIm37 := zi_upr (m := 4) (r0 := 0) (r1 := 0) (lo := (-1)) (hi := 200) hmm37 hIm1 zq_226 (by omega) (by decide +kernel) (by omega) (by omega)
                        have hFm37 := zfr_up hmm37 hFm1 zq_226 rfl
                        have r38 : 0 ≤ (m37 a0 77) ∧ (m37 a0 77) ≤ 24 := zi_rd hIm37 hc0 zb_15_77
                        have e39 : (m37 a0 77) = (m1 a0 77) := (zs_ne hmm37 (Or.inl (zc_ne hc0 zq_226 (by decide))))
                        have w40 := zu_w32_id (z := 4 * (m37 a0 77)) (by omega) (by omega)
                        have w41 := zu_w32_id (z := (zu_w32 (4 * (m37 a0 77))) + 1) (by omega) (by omega)
                        have b42 : 0 ≤ (zu_w32 ((zu_w32 (4 * (m37 a0 77))) + 1)) ∧ (zu_w32 ((zu_w32 (4 * (m37 a0 77))) + 1)) < 96 := by omega
                        refine zw_if b42 ?_
                        generalize hmm43 : zu_up m37 226 (zu_w32 ((zu_w32 (4 * (m37 a0 77))) + 1)) a2 = m43
                        have hIm43 := zi_upr (m := 4) (r0 := 1) (r1 := 1) (lo := 0) (hi := 23) hmm43 hIm37 zq_226 (by omega) (by decide +kernel) (by omega) (by omega)
                        have hFm43 := zfr_up hmm43 hFm37 zq_226 rfl
                        have r44 : 0 ≤ (m43 a0 77) ∧ (m43 a0 77) ≤ 24 := zi_rd hIm43 hc0 zb_15_77
                        have e45 : (m43 a0 77) = (m37 a0 77) := (zs_ne hmm43 (Or.inl (zc_ne hc0 zq_226 (by decide))))
                        have w46 := zu_w32_id (z := 4 * (m43 a0 77)) (by omega) (by omega)
                        have w47 := zu_w32_id (z := (zu_w32 (4 * (m43 a0 77))) + 2) (by omega) (by omega)
                        have b48 : 0 ≤ (zu_w32 ((zu_w32 (4 * (m43 a0 77))) + 2)) ∧ (zu_w32 ((zu_w32 (4 * (m43 a0 77))) + 2)) < 96 := by omega
                        refine zw_if b48 ?_
                        generalize hmm49 : zu_up m43 226 (zu_w32 ((zu_w32 (4 * (m43 a0 77))) + 2)) a3 = m49
                        have hIm49 := zi_upr (m := 4) (r0 := 2) (r1 := 2) (lo := 0) (hi := 16) hmm49 hIm43 zq_226 (by omega) (by decide +kernel) (by omega) (by omega)
                        have hFm49 := zfr_up hmm49 hFm43 zq_226 rfl
                        have r50 : 0 ≤ (m49 a0 77) ∧ (m49 a0 77) ≤ 24 := zi_rd hIm49 hc0 zb_15_77
                        have e51 : (m49 a0 77) = (m43 a0 77) := (zs_ne hmm49 (Or.inl (zc_ne hc0 zq_226 (by decide))))
                        have w52 := zu_w32_id (z := 4 * (m49 a0 77)) (by omega) (by omega)
                        have w53 := zu_w32_id (z := (zu_w32 (4 * (m49 a0 77))) + 3) (by omega) (by omega)
                        have b54 : 0 ≤ (zu_w32 ((zu_w32 (4 * (m49 a0 77))) + 3)) ∧ (zu_w32 ((zu_w32 (4 * (m49 a0 77))) + 3)) < 96 := by omega
                        refine zw_if b54 ?_
                        generalize hmm55 : zu_up m49 226 (zu_w32 ((zu_w32 (4 * (m49 a0 77))) + 3)) 0 = m55
                        have hIm55 := zi_upr (m := 4) (r0 := 3) (r1 := 3) (lo := 0) (hi := 1) hmm55 hIm49 zq_226 (by omega) (by decide +kernel) (by omega) (by omega)
                        have hFm55 := zfr_up hmm55 hFm49 zq_226 rfl
                        have r56 : 0 ≤ (m55 a0 77) ∧ (m55 a0 77) ≤ 24 := zi_rd hIm55 hc0 zb_15_77
                        have e57 : (m55 a0 77) = (m49 a0 77) := (zs_ne hmm55 (Or.inl (zc_ne hc0 zq_226 (by decide))))
                        have w58 := zu_w32_id (z := (m55 a0 77) + 1) (by omega) (by omega)
                        generalize hmm59 : zu_up m55 a0 77 (zu_w32 ((m55 a0 77) + 1)) = m59
                        have hIm59 := zi_up hmm59 hIm55 hc0 zb_15_77 (by omega) (by omega)
                        have hFm59 := zfr_up hmm59 hFm55 hc0 rfl
                        have r60 : 0 ≤ (m59 a0 77) ∧ (m59 a0 77) ≤ 24 := zi_rd hIm59 hc0 zb_15_77
                        have e61 : (m59 a0 77) = (zu_w32 ((m55 a0 77) + 1)) := (zs_eq hmm59)
                        have w62 := zu_w32_id (z := (m59 a0 77) - 1) (by omega) (by omega)
                        refine zw_some ?_
                        have r63 : (-2147483648) ≤ (m59 a0 2) ∧ (m59 a0 2) ≤ 2147483647 := zi_rd hIm59 hc0 zb_15_2
                        have e64 : (m59 a0 2) = 0 := (Eq.trans (zs_ne hmm59 (Or.inr (by decide))) (Eq.trans (zs_ne hmm55 (Or.inl (zc_ne hc0 zq_226 (by decide)))) (Eq.trans (zs_ne hmm49 (Or.inl (zc_ne hc0 zq_226 (by decide)))) (Eq.trans (zs_ne hmm43 (Or.inl (zc_ne hc0 zq_226 (by decide)))) (Eq.trans (zs_ne hmm37 (Or.inl (zc_ne hc0 zq_226 (by decide)))) (zs_eq hmm1))))))
                        exact zw_some ⟨hIm59, hFm59, ⟨by omega, by omega⟩, ⟨by omega, by omega⟩⟩
                      · refine zw_bd (zw_eq (zr_178_0 n a0 a1 a2 a3 1 m1) ?_)
                        have w65 := zu_w32_id (z := 4 * (m1 a0 77)) (by omega) (by omega)
                        have b66 : 0 ≤ (zu_w32 (4 * (m1 a0 77))) ∧ (zu_w32 (4 * (m1 a0 77))) < 96 := by omega
                        refine zw_if b66 ?_
                        generalize hmm67 : zu_up m1 226 (zu_w32 (4 * (m1 a0 77))) a1 = m67
                        have hIm67 := zi_upr (m := 4) (r0 := 0) (r1 := 0) (lo := (-1)) (hi := 200) hmm67 hIm1 zq_226 (by omega) (by decide +kernel) (by omega) (by omega)
                        have hFm67 := zfr_up hmm67 hFm1 zq_226 rfl
                        have r68 : 0 ≤ (m67 a0 77) ∧ (m67 a0 77) ≤ 24 := zi_rd hIm67 hc0 zb_15_77
                        have e69 : (m67 a0 77) = (m1 a0 77) := (zs_ne hmm67 (Or.inl (zc_ne hc0 zq_226 (by decide))))
                        have w70 := zu_w32_id (z := 4 * (m67 a0 77)) (by omega) (by omega)
                        have w71 := zu_w32_id (z := (zu_w32 (4 * (m67 a0 77))) + 1) (by omega) (by omega)
                        have b72 : 0 ≤ (zu_w32 ((zu_w32 (4 * (m67 a0 77))) + 1)) ∧ (zu_w32 ((zu_w32 (4 * (m67 a0 77))) + 1)) < 96 := by omega
                        refine zw_if b72 ?_
                        generalize hmm73 : zu_up m67 226 (zu_w32 ((zu_w32 (4 * (m67 a0 77))) + 1)) a2 = m73
                        have hIm73 := zi_upr (m := 4) (r0 := 1) (r1 := 1) (lo := 0) (hi := 23) hmm73 hIm67 zq_226 (by omega) (by decide +kernel) (by omega) (by omega)
                        have hFm73 := zfr_up hmm73 hFm67 zq_226 rfl
                        have r74 : 0 ≤ (m73 a0 77) ∧ (m73 a0 77) ≤ 24 := zi_rd hIm73 hc0 zb_15_77
                        have e75 : (m73 a0 77) = (m67 a0 77) := (zs_ne hmm73 (Or.inl (zc_ne hc0 zq_226 (by decide))))
                        have w76 := zu_w32_id (z := 4 * (m73 a0 77)) (by omega) (by omega)
                        have w77 := zu_w32_id (z := (zu_w32 (4 * (m73 a0 77))) + 2) (by omega) (by omega)
                        have b78 : 0 ≤ (zu_w32 ((zu_w32 (4 * (m73 a0 77))) + 2)) ∧ (zu_w32 ((zu_w32 (4 * (m73 a0 77))) + 2)) < 96 := by omega
                        refine zw_if b78 ?_
                        generalize hmm79 : zu_up m73 226 (zu_w32 ((zu_w32 (4 * (m73 a0 77))) + 2)) a3 = m79
                        have hIm79 := zi_upr (m := 4) (r0 := 2) (r1 := 2) (lo := 0) (hi := 16) hmm79 hIm73 zq_226 (by omega) (by decide +kernel) (by omega) (by omega)
                        have hFm79 := zfr_up hmm79 hFm73 zq_226 rfl
                        have r80 : 0 ≤ (m79 a0 77) ∧ (m79 a0 77) ≤ 24 := zi_rd hIm79 hc0 zb_15_77
                        have e81 : (m79 a0 77) = (m73 a0 77) := (zs_ne hmm79 (Or.inl (zc_ne hc0 zq_226 (by decide))))
                        have w82 := zu_w32_id (z := 4 * (m79 a0 77)) (by omega) (by omega)
                        have w83 := zu_w32_id (z := (zu_w32 (4 * (m79 a0 77))) + 3) (by omega) (by omega)
                        have b84 : 0 ≤ (zu_w32 ((zu_w32 (4 * (m79 a0 77))) + 3)) ∧ (zu_w32 ((zu_w32 (4 * (m79 a0 77))) + 3)) < 96 := by omega
                        refine zw_if b84 ?_
                        generalize hmm85 : zu_up m79 226 (zu_w32 ((zu_w32 (4 * (m79 a0 77))) + 3)) 1 = m85
                        have hIm85 := zi_upr (m := 4) (r0 := 3) (r1 := 3) (lo := 0) (hi := 1) hmm85 hIm79 zq_226 (by omega) (by decide +kernel) (by omega) (by omega)
                        have hFm85 := zfr_up hmm85 hFm79 zq_226 rfl
                        have r86 : 0 ≤ (m85 a0 77) ∧ (m85 a0 77) ≤ 24 := zi_rd hIm85 hc0 zb_15_77
                        have e87 : (m85 a0 77) = (m79 a0 77) := (zs_ne hmm85 (Or.inl (zc_ne hc0 zq_226 (by decide))))
                        have w88 := zu_w32_id (z := (m85 a0 77) + 1) (by omega) (by omega)
                        generalize hmm89 : zu_up m85 a0 77 (zu_w32 ((m85 a0 77) + 1)) = m89
                        have hIm89 := zi_up hmm89 hIm85 hc0 zb_15_77 (by omega) (by omega)
                        have hFm89 := zfr_up hmm89 hFm85 hc0 rfl
                        have r90 : 0 ≤ (m89 a0 77) ∧ (m89 a0 77) ≤ 24 := zi_rd hIm89 hc0 zb_15_77
                        have e91 : (m89 a0 77) = (zu_w32 ((m85 a0 77) + 1)) := (zs_eq hmm89)
                        have w92 := zu_w32_id (z := (m89 a0 77) - 1) (by omega) (by omega)
                        refine zw_some ?_
                        have r93 : (-2147483648) ≤ (m89 a0 2) ∧ (m89 a0 2) ≤ 2147483647 := zi_rd hIm89 hc0 zb_15_2
                        have e94 : (m89 a0 2) = 0 := (Eq.trans (zs_ne hmm89 (Or.inr (by decide))) (Eq.trans (zs_ne hmm85 (Or.inl (zc_ne hc0 zq_226 (by decide)))) (Eq.trans (zs_ne hmm79 (Or.inl (zc_ne hc0 zq_226 (by decide)))) (Eq.trans (zs_ne hmm73 (Or.inl (zc_ne hc0 zq_226 (by decide)))) (Eq.trans (zs_ne hmm67 (Or.inl (zc_ne hc0 zq_226 (by decide)))) (zs_eq hmm1))))))
                        exact zw_some ⟨hIm89, hFm89, ⟨by omega, by omega⟩, ⟨by omega, by omega⟩⟩
                    · exfalso; omega
set_option maxHeartbeats 4000000 in
theorem zk_180 (n : Nat) {a0 a1 : Int} {m0 : zu_m} (hIm0 : zi_I m0) (hc0 : zcls a0 = 15) (ha1 : (-2147483648) ≤ a1 ∧ a1 ≤ 2147483647)    : zw (zu_call (zt_T n) 180 [(40, a0), (0, a1)] m0) (fun v m => zi_I m ∧ zfr [(15, 3), (15, 78), (96, 0)] m0 m ∧ ((-1) ≤ v ∧ v ≤ 23) ∧ (0 ≤ m a0 2 ∧ m a0 2 ≤ 0)) := by
  have hFm0 : zfr [(15, 3), (15, 78), (96, 0)] m0 m0 := zfr_rf _ _
  refine zw_eq (zr_180_0 n a0 a1 m0) ?_
  generalize hmm1 : zu_up m0 a0 2 0 = m1
  have hIm1 := zi_up hmm1 hIm0 hc0 zb_15_2 (by omega) (by omega)
  have hFm1 := zfr_up hmm1 hFm0 hc0 rfl
  have r2 : 0 ≤ (m1 a0 77) ∧ (m1 a0 77) ≤ 24 := zi_rd hIm1 hc0 zb_15_77
  refine zw_ite (fun h3 => ?_) (fun h3 => ?_)
  · have r4 : (-2147483648) ≤ (m1 a0 2) ∧ (m1 a0 2) ≤ 2147483647 := zi_rd hIm1 hc0 zb_15_2
    have e5 : (m1 a0 2) = 0 := (zs_eq hmm1)
    exact zw_some ⟨hIm1, hFm1, ⟨by omega, by omega⟩, ⟨by omega, by omega⟩⟩
  · refine zw_ite (fun h6 => ?_) (fun h6 => ?_)
    · have r7 : (-2147483648) ≤ (m1 a0 2) ∧ (m1 a0 2) ≤ 2147483647 := zi_rd hIm1 hc0 zb_15_2
      have e8 : (m1 a0 2) = 0 := (zs_eq hmm1)
      exact zw_some ⟨hIm1, hFm1, ⟨by omega, by omega⟩, ⟨by omega, by omega⟩⟩
    · refine zw_ite (fun h9 => ?_) (fun h9 => ?_)
      · refine zw_bd (zw_eq (zr_178_0 n a0 (-1) a1 0 0 m1) ?_)
        have w10 := zu_w32_id (z := 4 * (m1 a0 77)) (by omega) (by omega)
        have b11 : 0 ≤ (zu_w32 (4 * (m1 a0 77))) ∧ (zu_w32 (4 * (m1 a0 77))) < 96 := by omega
        refine zw_if b11 ?_
        generalize hmm12 : zu_up m1 226 (zu_w32 (4 * (m1 a0 77))) (-1) = m12
        have hIm12 := zi_upr (m := 4) (r0 := 0) (r1 := 0) (lo := (-1)) (hi := 200) hmm12 hIm1 zq_226 (by omega) (by decide +kernel) (by omega) (by omega)
        have hFm12 := zfr_up hmm12 hFm1 zq_226 rfl
        have r13 : 0 ≤ (m12 a0 77) ∧ (m12 a0 77) ≤ 24 := zi_rd hIm12 hc0 zb_15_77
        have e14 : (m12 a0 77) = (m1 a0 77) := (zs_ne hmm12 (Or.inl (zc_ne hc0 zq_226 (by decide))))
        have w15 := zu_w32_id (z := 4 * (m12 a0 77)) (by omega) (by omega)
        have w16 := zu_w32_id (z := (zu_w32 (4 * (m12 a0 77))) + 1) (by omega) (by omega)
        have b17 : 0 ≤ (zu_w32 ((zu_w32 (4 * (m12 a0 77))) + 1)) ∧ (zu_w32 ((zu_w32 (4 * (m12 a0 77))) + 1)) < 96 := by omega
        refine zw_if b17 ?_
        generalize hmm18 : zu_up m12 226 (zu_w32 ((zu_w32 (4 * (m12 a0 77))) + 1)) a1 = m18
        have hIm18 := zi_upr (m := 4) (r0 := 1) (r1 := 1) (lo := 0) (hi := 23) hmm18 hIm12 zq_226 (by omega) (by decide +kernel) (by omega) (by omega)
        have hFm18 := zfr_up hmm18 hFm12 zq_226 rfl
        have r19 : 0 ≤ (m18 a0 77) ∧ (m18 a0 77) ≤ 24 := zi_rd hIm18 hc0 zb_15_77
        have e20 : (m18 a0 77) = (m12 a0 77) := (zs_ne hmm18 (Or.inl (zc_ne hc0 zq_226 (by decide))))
        have w21 := zu_w32_id (z := 4 * (m18 a0 77)) (by omega) (by omega)
        have w22 := zu_w32_id (z := (zu_w32 (4 * (m18 a0 77))) + 2) (by omega) (by omega)
        have b23 : 0 ≤ (zu_w32 ((zu_w32 (4 * (m18 a0 77))) + 2)) ∧ (zu_w32 ((zu_w32 (4 * (m18 a0 77))) + 2)) < 96 := by omega
        refine zw_if b23 ?_
        generalize hmm24 : zu_up m18 226 (zu_w32 ((zu_w32 (4 * (m18 a0 77))) + 2)) 0 = m24
        have hIm24 := zi_upr (m := 4) (r0 := 2) (r1 := 2) (lo := 0) (hi := 16) hmm24 hIm18 zq_226 (by omega) (by decide +kernel) (by omega) (by omega)
        have hFm24 := zfr_up hmm24 hFm18 zq_226 rfl
        have r25 : 0 ≤ (m24 a0 77) ∧ (m24 a0 77) ≤ 24 := zi_rd hIm24 hc0 zb_15_77
        have e26 : (m24 a0 77) = (m18 a0 77) := (zs_ne hmm24 (Or.inl (zc_ne hc0 zq_226 (by decide))))
        have w27 := zu_w32_id (z := 4 * (m24 a0 77)) (by omega) (by omega)
        have w28 := zu_w32_id (z := (zu_w32 (4 * (m24 a0 77))) + 3) (by omega) (by omega)
        have b29 : 0 ≤ (zu_w32 ((zu_w32 (4 * (m24 a0 77))) + 3)) ∧ (zu_w32 ((zu_w32 (4 * (m24 a0 77))) + 3)) < 96 := by omega
        refine zw_if b29 ?_
        generalize hmm30 : zu_up m24 226 (zu_w32 ((zu_w32 (4 * (m24 a0 77))) + 3)) 0 = m30
        have hIm30 := zi_upr (m := 4) (r0 := 3) (r1 := 3) (lo := 0) (hi := 1) hmm30 hIm24 zq_226 (by omega) (by decide +kernel) (by omega) (by omega)
        have hFm30 := zfr_up hmm30 hFm24 zq_226 rfl
        have r31 : 0 ≤ (m30 a0 77) ∧ (m30 a0 77) ≤ 24 := zi_rd hIm30 hc0 zb_15_77
        have e32 : (m30 a0 77) = (m24 a0 77) := (zs_ne hmm30 (Or.inl (zc_ne hc0 zq_226 (by decide))))
        have w33 := zu_w32_id (z := (m30 a0 77) + 1) (by omega) (by omega)
        generalize hmm34 : zu_up m30 a0 77 (zu_w32 ((m30 a0 77) + 1)) = m34
        have hIm34 := zi_up hmm34 hIm30 hc0 zb_15_77 (by omega) (by omega)
        have hFm34 := zfr_up hmm34 hFm30 hc0 rfl
        have r35 : 0 ≤ (m34 a0 77) ∧ (m34 a0 77) ≤ 24 := zi_rd hIm34 hc0 zb_15_77
        have e36 : (m34 a0 77) = (zu_w32 ((m30 a0 77) + 1)) := (zs_eq hmm34)
        have w37 := zu_w32_id (z := (m34 a0 77) - 1) (by omega) (by omega)
        refine zw_some ?_
        have r38 : (-2147483648) ≤ (m34 a0 2) ∧ (m34 a0 2) ≤ 2147483647 := zi_rd hIm34 hc0 zb_15_2
        have e39 : (m34 a0 2) = 0 := (Eq.trans (zs_ne hmm34 (Or.inr (by decide))) (Eq.trans (zs_ne hmm30 (Or.inl (zc_ne hc0 zq_226 (by decide)))) (Eq.trans (zs_ne hmm24 (Or.inl (zc_ne hc0 zq_226 (by decide)))) (Eq.trans (zs_ne hmm18 (Or.inl (zc_ne hc0 zq_226 (by decide)))) (Eq.trans (zs_ne hmm12 (Or.inl (zc_ne hc0 zq_226 (by decide)))) (zs_eq hmm1))))))
        exact zw_some ⟨hIm34, hFm34, ⟨by omega, by omega⟩, ⟨by omega, by omega⟩⟩
      · have r40 : (-2147483648) ≤ (m1 a0 2) ∧ (m1 a0 2) ≤ 2147483647 := zi_rd hIm1 hc0 zb_15_2
        have e41 : (m1 a0 2) = 0 := (zs_eq hmm1)
        exact zw_some ⟨hIm1, hFm1, ⟨by omega, by omega⟩, ⟨by omega, by omega⟩⟩
set_option maxHeartbeats 4000000 in
theorem zk_181 (n : Nat) {a0 a1 : Int} {m0 : zu_m} (hIm0 : zi_I m0) (hc0 : zcls a0 = 15) (ha1 : (-2147483648) ≤ a1 ∧ a1 ≤ 2147483647)    : zw (zu_call (zt_T n) 181 [(40, a0), (0, a1)] m0) (fun v m => zi_I m ∧ zfr [(15, 3), (15, 79)] m0 m ∧ (0 ≤ v ∧ v ≤ 1) ∧ (0 ≤ m a0 2 ∧ m a0 2 ≤ 0)) := by
  have hFm0 : zfr [(15, 3), (15, 79)] m0 m0 := zfr_rf _ _
  refine zw_eq (zr_181_0 n a0 a1 m0) ?_
  generalize hmm1 : zu_up m0 a0 2 0 = m1
  have hIm1 := zi_up hmm1 hIm0 hc0 zb_15_2 (by omega) (by omega)
  have hFm1 := zfr_up hmm1 hFm0 hc0 rfl
  have r2 : 0 ≤ (m1 a0 77) ∧ (m1 a0 77) ≤ 24 := zi_rd hIm1 hc0 zb_15_77
  refine zw_bd (zw_eq (zr_83_0 n a1 (-1) (m1 a0 77) m1) ?_)
  refine zw_ite (fun h3 => ?_) (fun h3 => ?_)
  · refine zw_b (by omega) ?_
    refine zw_some ?_
    refine zw_ite (fun h4 => ?_) (fun h4 => ?_)
    · exfalso; omega
    · refine zw_b (by omega) ?_
      have r5 : (-2147483648) ≤ (m1 a0 2) ∧ (m1 a0 2) ≤ 2147483647 := zi_rd hIm1 hc0 zb_15_2
      have e6 : (m1 a0 2) = 0 := (zs_eq hmm1)
      exact zw_some ⟨hIm1, hFm1, ⟨by omega, by omega⟩, ⟨by omega, by omega⟩⟩
  · refine zw_ite (fun h7 => ?_) (fun h7 => ?_)
    · refine zw_b (by omega) ?_
      refine zw_some ?_
      refine zw_ite (fun h8 => ?_) (fun h8 => ?_)
      · exfalso; omega
      · refine zw_b (by omega) ?_
        have r9 : (-2147483648) ≤ (m1 a0 2) ∧ (m1 a0 2) ≤ 2147483647 := zi_rd hIm1 hc0 zb_15_2
        have e10 : (m1 a0 2) = 0 := (zs_eq hmm1)
        exact zw_some ⟨hIm1, hFm1, ⟨by omega, by omega⟩, ⟨by omega, by omega⟩⟩
    · refine zw_b (by omega) ?_
      refine zw_some ?_
      refine zw_ite (fun h11 => ?_) (fun h11 => ?_)
      · generalize hmm12 : zu_up m1 a0 78 a1 = m12
        have hIm12 := zi_up hmm12 hIm1 hc0 zb_15_78 (by omega) (by omega)
        have hFm12 := zfr_up hmm12 hFm1 hc0 rfl
        refine zw_b (by omega) ?_
        have r13 : (-2147483648) ≤ (m12 a0 2) ∧ (m12 a0 2) ≤ 2147483647 := zi_rd hIm12 hc0 zb_15_2
        have e14 : (m12 a0 2) = 0 := (Eq.trans (zs_ne hmm12 (Or.inr (by decide))) (zs_eq hmm1))
        exact zw_some ⟨hIm12, hFm12, ⟨by omega, by omega⟩, ⟨by omega, by omega⟩⟩
      · exfalso; omega
set_option maxHeartbeats 4000000 in
theorem zl_183 (n : Nat) {a0 a1 : Int} {m0 : zu_m} (hc0 : zcls a0 = 15)  : ∀ k : Nat, (∀ (x2 : Int) (mh : zu_m), zi_I mh → zfr [] m0 mh → (1 ≤ a1 ∧ a1 ≤ 200) → (0 ≤ x2 ∧ x2 ≤ 24) → (24 - x2) * 1 + 0 < (k : Int) → zw (zu_ex (zt_T n) 183 2 [(40, a0), (0, a1), (0, x2), (2, 0)] [] mh) (fun v m => zi_I m ∧ zfr [] m0 m ∧ (0 ≤ v ∧ v ≤ 1))) := by
  intro k
  induction k with
  | zero => exact fun x2 mh hImh hFmh hba1 hbx2 hM => by exfalso; omega
  | succ k ih =>
    intro x2 mh hImh hFmh hba1 hbx2 hM
    refine zw_eq (zr_183_2 n a0 a1 x2 mh) ?_
    refine zw_bd (zw_eq (zr_182_0 n a0 mh) ?_)
    have r1 : (-1) ≤ (mh a0 78) ∧ (mh a0 78) ≤ 24 := zi_rd hImh hc0 zb_15_78
    refine zw_ite (fun h2 => ?_) (fun h2 => ?_)
    · refine zw_some ?_
      refine zw_ite (fun h3 => ?_) (fun h3 => ?_)
      · refine zw_b (by omega) ?_
        exact zw_some ⟨hImh, hFmh, ⟨by omega, by omega⟩⟩
      · have b4 : 0 ≤ x2 ∧ x2 < 24 := by omega
        refine zw_if b4 ?_
        have r5 : 0 ≤ (mh 227 x2) ∧ (mh 227 x2) ≤ 1 := zi_rd hImh zq_227 (zb_97 _)
        refine zw_ite (fun h6 => ?_) (fun h6 => ?_)
        · have w7 := zu_w32_id (z := x2 + 1) (by omega) (by omega)
          have hM : (24 - (zu_w32 (x2 + 1))) * 1 + 0 < (k : Int) := by omega
          exact ih (zu_w32 (x2 + 1)) mh hImh hFmh ⟨by omega, by omega⟩ ⟨by omega, by omega⟩ hM
        · have w8 := zu_w32_id (z := 4 * x2) (by omega) (by omega)
          have b9 : 0 ≤ (zu_w32 (4 * x2)) ∧ (zu_w32 (4 * x2)) < 96 := by omega
          refine zw_if b9 ?_
          have r10 : (-1) ≤ (mh 226 (zu_w32 (4 * x2))) ∧ (mh 226 (zu_w32 (4 * x2))) ≤ 200 := zi_rdr (m := 4) (r0 := 0) (r1 := 0) hImh zq_226 (by omega) (by decide +kernel)
          refine zw_ite (fun h11 => ?_) (fun h11 => ?_)
          · have w12 := zu_w32_id (z := (zu_w32 (4 * x2)) + 1) (by omega) (by omega)
            have b13 : 0 ≤ (zu_w32 ((zu_w32 (4 * x2)) + 1)) ∧ (zu_w32 ((zu_w32 (4 * x2)) + 1)) < 96 := by omega
            refine zw_if b13 ?_
            have r14 : 0 ≤ (mh 226 (zu_w32 ((zu_w32 (4 * x2)) + 1))) ∧ (mh 226 (zu_w32 ((zu_w32 (4 * x2)) + 1))) ≤ 23 := zi_rdr (m := 4) (r0 := 1) (r1 := 1) hImh zq_226 (by omega) (by decide +kernel)
            refine zw_bd (zw_mono (zk_130 n hImh hc0 ⟨by omega, by omega⟩ ⟨by omega, by omega⟩) (fun v16 m15 hqm15 => ?_))
            obtain ⟨hIm15, hfm15, hvm15⟩ := hqm15
            have hFm15 := zfr_tr hFmh hfm15 rfl
            have w17 := zu_w32_id (z := (zu_w32 (4 * x2)) + 2) (by omega) (by omega)
            have b18 : 0 ≤ (zu_w32 ((zu_w32 (4 * x2)) + 2)) ∧ (zu_w32 ((zu_w32 (4 * x2)) + 2)) < 96 := by omega
            refine zw_if b18 ?_
            have r19 : 0 ≤ (m15 226 (zu_w32 ((zu_w32 (4 * x2)) + 2))) ∧ (m15 226 (zu_w32 ((zu_w32 (4 * x2)) + 2))) ≤ 16 := zi_rdr (m := 4) (r0 := 2) (r1 := 2) hIm15 zq_226 (by omega) (by decide +kernel)
            refine zw_ite (fun h20 => ?_) (fun h20 => ?_)
            · have w21 := zu_w32_id (z := (zu_w32 (4 * x2)) + 3) (by omega) (by omega)
              have b22 : 0 ≤ (zu_w32 ((zu_w32 (4 * x2)) + 3)) ∧ (zu_w32 ((zu_w32 (4 * x2)) + 3)) < 96 := by omega
              refine zw_if b22 ?_
              have r23 : 0 ≤ (m15 226 (zu_w32 ((zu_w32 (4 * x2)) + 3))) ∧ (m15 226 (zu_w32 ((zu_w32 (4 * x2)) + 3))) ≤ 1 := zi_rdr (m := 4) (r0 := 3) (r1 := 3) hIm15 zq_226 (by omega) (by decide +kernel)
              refine zw_ite (fun h24 => ?_) (fun h24 => ?_)
              · refine zw_ite (fun h25 => ?_) (fun h25 => ?_)
                · have w26 := zu_w32_id (z := x2 + 1) (by omega) (by omega)
                  have hM : (24 - (zu_w32 (x2 + 1))) * 1 + 0 < (k : Int) := by omega
                  exact zw_le (zu_forget (zu_lr_same (zu_lr_same (zu_lr_same (zu_lr_drop zu_lr_nil))))) (ih (zu_w32 (x2 + 1)) m15 hIm15 hFm15 ⟨by omega, by omega⟩ ⟨by omega, by omega⟩ hM)
                · exfalso; omega
              · refine zw_ite (fun h27 => ?_) (fun h27 => ?_)
                · exfalso; omega
                · refine zw_b (by omega) ?_
                  exact zw_some ⟨hIm15, hFm15, ⟨by omega, by omega⟩⟩
            · have w28 := zu_w32_id (z := (zu_w32 (4 * x2)) + 3) (by omega) (by omega)
              have b29 : 0 ≤ (zu_w32 ((zu_w32 (4 * x2)) + 3)) ∧ (zu_w32 ((zu_w32 (4 * x2)) + 3)) < 96 := by omega
              refine zw_if b29 ?_
              have r30 : 0 ≤ (m15 226 (zu_w32 ((zu_w32 (4 * x2)) + 3))) ∧ (m15 226 (zu_w32 ((zu_w32 (4 * x2)) + 3))) ≤ 1 := zi_rdr (m := 4) (r0 := 3) (r1 := 3) hIm15 zq_226 (by omega) (by decide +kernel)
              refine zw_ite (fun h31 => ?_) (fun h31 => ?_)
              · refine zw_ite (fun h32 => ?_) (fun h32 => ?_)
                · exfalso; omega
                · refine zw_b (by omega) ?_
                  exact zw_some ⟨hIm15, hFm15, ⟨by omega, by omega⟩⟩
              · refine zw_ite (fun h33 => ?_) (fun h33 => ?_)
                · have w34 := zu_w32_id (z := x2 + 1) (by omega) (by omega)
                  have hM : (24 - (zu_w32 (x2 + 1))) * 1 + 0 < (k : Int) := by omega
                  exact zw_le (zu_forget (zu_lr_same (zu_lr_same (zu_lr_same (zu_lr_drop zu_lr_nil))))) (ih (zu_w32 (x2 + 1)) m15 hIm15 hFm15 ⟨by omega, by omega⟩ ⟨by omega, by omega⟩ hM)
                · exfalso; omega
          · have w35 := zu_w32_id (z := x2 + 1) (by omega) (by omega)
            have hM : (24 - (zu_w32 (x2 + 1))) * 1 + 0 < (k : Int) := by omega
            exact ih (zu_w32 (x2 + 1)) mh hImh hFmh ⟨by omega, by omega⟩ ⟨by omega, by omega⟩ hM
    · have r36 : 0 ≤ (mh a0 77) ∧ (mh a0 77) ≤ 24 := zi_rd hImh hc0 zb_15_77
      refine zw_some ?_
      refine zw_ite (fun h37 => ?_) (fun h37 => ?_)
      · refine zw_b (by omega) ?_
        exact zw_some ⟨hImh, hFmh, ⟨by omega, by omega⟩⟩
      · have b38 : 0 ≤ x2 ∧ x2 < 24 := by omega
        refine zw_if b38 ?_
        have r39 : 0 ≤ (mh 227 x2) ∧ (mh 227 x2) ≤ 1 := zi_rd hImh zq_227 (zb_97 _)
        refine zw_ite (fun h40 => ?_) (fun h40 => ?_)
        · have w41 := zu_w32_id (z := x2 + 1) (by omega) (by omega)
          have hM : (24 - (zu_w32 (x2 + 1))) * 1 + 0 < (k : Int) := by omega
          exact ih (zu_w32 (x2 + 1)) mh hImh hFmh ⟨by omega, by omega⟩ ⟨by omega, by omega⟩ hM
        · have w42 := zu_w32_id (z := 4 * x2) (by omega) (by omega)
          have b43 : 0 ≤ (zu_w32 (4 * x2)) ∧ (zu_w32 (4 * x2)) < 96 := by omega
          refine zw_if b43 ?_
          have r44 : (-1) ≤ (mh 226 (zu_w32 (4 * x2))) ∧ (mh 226 (zu_w32 (4 * x2))) ≤ 200 := zi_rdr (m := 4) (r0 := 0) (r1 := 0) hImh zq_226 (by omega) (by decide +kernel)
          refine zw_ite (fun h45 => ?_) (fun h45 => ?_)
          · have w46 := zu_w32_id (z := (zu_w32 (4 * x2)) + 1) (by omega) (by omega)
            have b47 : 0 ≤ (zu_w32 ((zu_w32 (4 * x2)) + 1)) ∧ (zu_w32 ((zu_w32 (4 * x2)) + 1)) < 96 := by omega
            refine zw_if b47 ?_
            have r48 : 0 ≤ (mh 226 (zu_w32 ((zu_w32 (4 * x2)) + 1))) ∧ (mh 226 (zu_w32 ((zu_w32 (4 * x2)) + 1))) ≤ 23 := zi_rdr (m := 4) (r0 := 1) (r1 := 1) hImh zq_226 (by omega) (by decide +kernel)
            refine zw_bd (zw_mono (zk_130 n hImh hc0 ⟨by omega, by omega⟩ ⟨by omega, by omega⟩) (fun v50 m49 hqm49 => ?_))
            obtain ⟨hIm49, hfm49, hvm49⟩ := hqm49
            have hFm49 := zfr_tr hFmh hfm49 rfl
            have w51 := zu_w32_id (z := (zu_w32 (4 * x2)) + 2) (by omega) (by omega)
            have b52 : 0 ≤ (zu_w32 ((zu_w32 (4 * x2)) + 2)) ∧ (zu_w32 ((zu_w32 (4 * x2)) + 2)) < 96 := by omega
            refine zw_if b52 ?_
            have r53 : 0 ≤ (m49 226 (zu_w32 ((zu_w32 (4 * x2)) + 2))) ∧ (m49 226 (zu_w32 ((zu_w32 (4 * x2)) + 2))) ≤ 16 := zi_rdr (m := 4) (r0 := 2) (r1 := 2) hIm49 zq_226 (by omega) (by decide +kernel)
            refine zw_ite (fun h54 => ?_) (fun h54 => ?_)
            · have w55 := zu_w32_id (z := (zu_w32 (4 * x2)) + 3) (by omega) (by omega)
              have b56 : 0 ≤ (zu_w32 ((zu_w32 (4 * x2)) + 3)) ∧ (zu_w32 ((zu_w32 (4 * x2)) + 3)) < 96 := by omega
              refine zw_if b56 ?_
              have r57 : 0 ≤ (m49 226 (zu_w32 ((zu_w32 (4 * x2)) + 3))) ∧ (m49 226 (zu_w32 ((zu_w32 (4 * x2)) + 3))) ≤ 1 := zi_rdr (m := 4) (r0 := 3) (r1 := 3) hIm49 zq_226 (by omega) (by decide +kernel)
              refine zw_ite (fun h58 => ?_) (fun h58 => ?_)
              · refine zw_ite (fun h59 => ?_) (fun h59 => ?_)
                · have w60 := zu_w32_id (z := x2 + 1) (by omega) (by omega)
                  have hM : (24 - (zu_w32 (x2 + 1))) * 1 + 0 < (k : Int) := by omega
                  exact zw_le (zu_forget (zu_lr_same (zu_lr_same (zu_lr_same (zu_lr_drop zu_lr_nil))))) (ih (zu_w32 (x2 + 1)) m49 hIm49 hFm49 ⟨by omega, by omega⟩ ⟨by omega, by omega⟩ hM)
                · exfalso; omega
              · refine zw_ite (fun h61 => ?_) (fun h61 => ?_)
                · exfalso; omega
                · refine zw_b (by omega) ?_
                  exact zw_some ⟨hIm49, hFm49, ⟨by omega, by omega⟩⟩
            · have w62 := zu_w32_id (z := (zu_w32 (4 * x2)) + 3) (by omega) (by omega)
              have b63 : 0 ≤ (zu_w32 ((zu_w32 (4 * x2)) + 3)) ∧ (zu_w32 ((zu_w32 (4 * x2)) + 3)) < 96 := by omega
              refine zw_if b63 ?_
              have r64 : 0 ≤ (m49 226 (zu_w32 ((zu_w32 (4 * x2)) + 3))) ∧ (m49 226 (zu_w32 ((zu_w32 (4 * x2)) + 3))) ≤ 1 := zi_rdr (m := 4) (r0 := 3) (r1 := 3) hIm49 zq_226 (by omega) (by decide +kernel)
              refine zw_ite (fun h65 => ?_) (fun h65 => ?_)
              · refine zw_ite (fun h66 => ?_) (fun h66 => ?_)
                · exfalso; omega
                · refine zw_b (by omega) ?_
                  exact zw_some ⟨hIm49, hFm49, ⟨by omega, by omega⟩⟩
              · refine zw_ite (fun h67 => ?_) (fun h67 => ?_)
                · have w68 := zu_w32_id (z := x2 + 1) (by omega) (by omega)
                  have hM : (24 - (zu_w32 (x2 + 1))) * 1 + 0 < (k : Int) := by omega
                  exact zw_le (zu_forget (zu_lr_same (zu_lr_same (zu_lr_same (zu_lr_drop zu_lr_nil))))) (ih (zu_w32 (x2 + 1)) m49 hIm49 hFm49 ⟨by omega, by omega⟩ ⟨by omega, by omega⟩ hM)
                · exfalso; omega
          · have w69 := zu_w32_id (z := x2 + 1) (by omega) (by omega)
            have hM : (24 - (zu_w32 (x2 + 1))) * 1 + 0 < (k : Int) := by omega
            exact ih (zu_w32 (x2 + 1)) mh hImh hFmh ⟨by omega, by omega⟩ ⟨by omega, by omega⟩ hM
set_option maxHeartbeats 4000000 in
theorem zk_183 (n : Nat) {a0 a1 : Int} {m0 : zu_m} (hIm0 : zi_I m0) (hc0 : zcls a0 = 15) (ha1 : 1 ≤ a1 ∧ a1 ≤ 200)    : zw (zu_call (zt_T n) 183 [(40, a0), (0, a1)] m0) (fun v m => zi_I m ∧ zfr [] m0 m ∧ (0 ≤ v ∧ v ≤ 1)) := by
  have hFm0 : zfr [] m0 m0 := zfr_rf _ _
  refine zw_eq (zr_183_0 n a0 a1 m0) ?_
  have hM : (24 - 0) * 1 + 0 < ((25 : Nat) : Int) := by omega
  exact (zl_183 n (m0 := m0) hc0 25) 0 m0 hIm0 hFm0 ⟨by omega, by omega⟩ ⟨by omega, by omega⟩ hM
set_option maxHeartbeats 4000000 in
theorem zl_190 (n : Nat) {a0 : Int} {m0 : zu_m} (hc0 : zcls a0 = 15)  : ∀ k : Nat, (∀ (x1 : Int) (mh : zu_m), zi_I mh → zfr [(15, 82), (98, 0)] m0 mh → (0 ≤ x1 ∧ x1 ≤ 439) → (20 ≤ mh a0 81 ∧ mh a0 81 ≤ 20) → (439 - x1) * 1 + 0 < (k : Int) → zw (zu_ex (zt_T n) 190 11 [(40, a0), (0, x1)] [] mh) (fun v m => zi_I m ∧ zfr [(15, 82), (98, 0)] m0 m ∧ True ∧ (1 ≤ m a0 81 ∧ m a0 81 ≤ 20))) := by
  intro k
  induction k with
  | zero => exact fun x1 mh hImh hFmh hbx1 hg1 hM => by exfalso; omega
  | succ k ih =>
    intro x1 mh hImh hFmh hbx1 hg1 hM
    refine zw_eq (zr_190_11 n a0 x1 mh) ?_
    refine zw_ite (fun h1 => ?_) (fun h1 => ?_)
    · have w2 := zu_w32_id (z := (mh a0 81) - 1) (by omega) (by omega)
      generalize hmm3 : zu_up mh a0 81 (zu_w32 ((mh a0 81) - 1)) = m3
      have hIm3 := zi_up hmm3 hImh hc0 zb_15_81 (by omega) (by omega)
      have hFm3 := zfr_up hmm3 hFmh hc0 rfl
      have r4 : 0 ≤ (m3 a0 81) ∧ (m3 a0 81) ≤ 20 := zi_rd hIm3 hc0 zb_15_81
      have e5 : (m3 a0 81) = (zu_w32 ((mh a0 81) - 1)) := (zs_eq hmm3)
      have w6 := zu_w32_id (z := 22 * (m3 a0 81)) (by omega) (by omega)
      refine zw_bd (zw_mono (zk_188_15_98 n hIm3 hc0 zq_228 ⟨by omega, by omega⟩ (by omega)) (fun v8 m7 hqm7 => ?_))
      obtain ⟨hIm7, hfm7, hvm7⟩ := hqm7
      have hFm7 := zfr_tr hFm3 hfm7 rfl
      have r9 : 0 ≤ (m7 a0 81) ∧ (m7 a0 81) ≤ 20 := zi_rd hIm7 hc0 zb_15_81
      have e10 : (m7 a0 81) = (m3 a0 81) := (zfr_ap hfm7 hc0 rfl)
      have w11 := zu_w32_id (z := (m7 a0 81) + 1) (by omega) (by omega)
      generalize hmm12 : zu_up m7 a0 81 (zu_w32 ((m7 a0 81) + 1)) = m12
      have hIm12 := zi_up hmm12 hIm7 hc0 zb_15_81 (by omega) (by omega)
      have hFm12 := zfr_up hmm12 hFm7 hc0 rfl
      have r13 : 0 ≤ (m12 a0 81) ∧ (m12 a0 81) ≤ 20 := zi_rd hIm12 hc0 zb_15_81
      have e14 : (m12 a0 81) = (zu_w32 ((m7 a0 81) + 1)) := (zs_eq hmm12)
      exact zw_some ⟨hIm12, hFm12, trivial, ⟨by omega, by omega⟩⟩
    · have w15 := zu_w32_id (z := x1 + 22) (by omega) (by omega)
      have b16 : 0 ≤ (zu_w32 (x1 + 22)) ∧ (zu_w32 (x1 + 22)) < 440 := by omega
      refine zw_if b16 ?_
      have r17 : (-2147483648) ≤ (mh 228 (zu_w32 (x1 + 22))) ∧ (mh 228 (zu_w32 (x1 + 22))) ≤ 2147483647 := zi_rdr (m := 22) (r0 := 0) (r1 := 21) hImh zq_228 (by omega) (by decide +kernel)
      have b18 : 0 ≤ x1 ∧ x1 < 440 := by omega
      refine zw_if b18 ?_
      generalize hmm19 : zu_up mh 228 x1 (mh 228 (zu_w32 (x1 + 22))) = m19
      have hIm19 := zi_upm (m := 22) (q := (zu_w32 (x1 + 22))) hmm19 hImh zq_228 (by decide +kernel) (by omega) rfl
      have hFm19 := zfr_up hmm19 hFmh zq_228 rfl
      have w20 := zu_w32_id (z := x1 + 1) (by omega) (by omega)
      have r21 : 0 ≤ (m19 a0 81) ∧ (m19 a0 81) ≤ 20 := zi_rd hIm19 hc0 zb_15_81
      have e22 : (m19 a0 81) = (mh a0 81) := (zs_ne hmm19 (Or.inl (zc_ne hc0 zq_228 (by decide))))
      have hM : (439 - (zu_w32 (x1 + 1))) * 1 + 0 < (k : Int) := by omega
      exact ih (zu_w32 (x1 + 1)) m19 hIm19 hFm19 ⟨by omega, by omega⟩ ⟨by omega, by omega⟩ hM
set_option maxHeartbeats 4000000 in
theorem zk_190 (n : Nat) {a0 : Int} {m0 : zu_m} (hIm0 : zi_I m0) (hc0 : zcls a0 = 15)     : zw (zu_call (zt_T n) 190 [(40, a0)] m0) (fun v m => zi_I m ∧ zfr [(15, 82), (98, 0)] m0 m ∧ True ∧ (1 ≤ m a0 81 ∧ m a0 81 ≤ 20)) := by
  have hFm0 : zfr [(15, 82), (98, 0)] m0 m0 := zfr_rf _ _
  refine zw_eq (zr_190_0 n a0 m0) ?_
  have r23 : 0 ≤ (m0 a0 81) ∧ (m0 a0 81) ≤ 20 := zi_rd hIm0 hc0 zb_15_81
  refine zw_ite (fun h24 => ?_) (fun h24 => ?_)
  · have w25 := zu_w32_id (z := 22 * (m0 a0 81)) (by omega) (by omega)
    refine zw_bd (zw_mono (zk_188_15_98 n hIm0 hc0 zq_228 ⟨by omega, by omega⟩ (by omega)) (fun v27 m26 hqm26 => ?_))
    obtain ⟨hIm26, hfm26, hvm26⟩ := hqm26
    have hFm26 := zfr_tr hFm0 hfm26 rfl
    have r28 : 0 ≤ (m26 a0 81) ∧ (m26 a0 81) ≤ 20 := zi_rd hIm26 hc0 zb_15_81
    have e29 : (m26 a0 81) = (m0 a0 81) := (zfr_ap hfm26 hc0 rfl)
    have w30 := zu_w32_id (z := (m26 a0 81) + 1) (by omega) (by omega)
    generalize hmm31 : zu_up m26 a0 81 (zu_w32 ((m26 a0 81) + 1)) = m31
    have hIm31 := zi_up hmm31 hIm26 hc0 zb_15_81 (by omega) (by omega)
    have hFm31 := zfr_up hmm31 hFm26 hc0 rfl
    have r32 : 0 ≤ (m31 a0 81) ∧ (m31 a0 81) ≤ 20 := zi_rd hIm31 hc0 zb_15_81
    have e33 : (m31 a0 81) = (zu_w32 ((m26 a0 81) + 1)) := (zs_eq hmm31)
    exact zw_some ⟨hIm31, hFm31, trivial, ⟨by omega, by omega⟩⟩
  · have hM : (439 - 0) * 1 + 0 < ((440 : Nat) : Int) := by omega
    exact (zl_190 n (m0 := m0) hc0 440) 0 m0 hIm0 hFm0 ⟨by omega, by omega⟩ ⟨by omega, by omega⟩ hM
set_option maxHeartbeats 4000000 in
theorem zl_191 (n : Nat) {a0 : Int} {m0 : zu_m} (hc0 : zcls a0 = 15)  : ∀ k : Nat, (∀ (x1 x2 : Int) (mh : zu_m), zi_I mh → zfr [(15, 3), (15, 63), (15, 82), (67, 0), (68, 0), (69, 0), (85, 0), (86, 0), (87, 0)] m0 mh → (0 ≤ x1 ∧ x1 ≤ 16) → (0 ≤ x2 ∧ x2 ≤ 16) → (0 ≤ mh a0 2 ∧ mh a0 2 ≤ 0) → (0 ≤ mh a0 81 ∧ mh a0 81 ≤ 19) → (16 - x2) * 1 + 0 < (k : Int) → zw (zu_ex (zt_T n) 191 48 [(40, a0), (0, x1), (0, x2)] [] mh) (fun v m => zi_I m ∧ zfr [(15, 3), (15, 63), (15, 82), (67, 0), (68, 0), (69, 0), (85, 0), (86, 0), (87, 0)] m0 m ∧ ((-1) ≤ v ∧ v ≤ 20) ∧ (0 ≤ m a0 2 ∧ m a0 2 ≤ 0))) := by
  intro k
  induction k with
  | zero => exact fun x1 x2 mh hImh hFmh hbx1 hbx2 hg2 hg3 hM => by exfalso; omega
  | succ k ih =>
    intro x1 x2 mh hImh hFmh hbx1 hbx2 hg2 hg3 hM
    refine zw_eq (zr_191_48 n a0 x1 x2 mh) ?_
    have b1 : 0 ≤ (0 : Int) ∧ (0 : Int) < 2 := by omega
    refine zw_if b1 ?_
    have r2 : 0 ≤ (mh 216 0) ∧ (mh 216 0) ≤ 16 := zi_rdr (m := 2) (r0 := 0) (r1 := 0) hImh zq_216 (by omega) (by decide +kernel)
    refine zw_ite (fun h3 => ?_) (fun h3 => ?_)
    · exact zw_some ⟨hImh, hFmh, ⟨by omega, by omega⟩, ⟨by omega, by omega⟩⟩
    · have b4 : 0 ≤ x2 ∧ x2 < 36 := by omega
      refine zw_if b4 ?_
      generalize hmm5 : zu_up mh 215 x2 (-1) = m5
      have hIm5 := zi_up hmm5 hImh zq_215 (zb_85 _) (by omega) (by omega)
      have hFm5 := zfr_up hmm5 hFmh zq_215 rfl
      have w6 := zu_w32_id (z := x2 + 1) (by omega) (by omega)
      have r7 : (-2147483648) ≤ (m5 a0 2) ∧ (m5 a0 2) ≤ 2147483647 := zi_rd hIm5 hc0 zb_15_2
      have e8 : (m5 a0 2) = (mh a0 2) := (zs_ne hmm5 (Or.inl (zc_ne hc0 zq_215 (by decide))))
      have r9 : 0 ≤ (m5 a0 81) ∧ (m5 a0 81) ≤ 20 := zi_rd hIm5 hc0 zb_15_81
      have e10 : (m5 a0 81) = (mh a0 81) := (zs_ne hmm5 (Or.inl (zc_ne hc0 zq_215 (by decide))))
      have hM : (16 - (zu_w32 (x2 + 1))) * 1 + 0 < (k : Int) := by omega
      exact ih x1 (zu_w32 (x2 + 1)) m5 hIm5 hFm5 ⟨by omega, by omega⟩ ⟨by omega, by omega⟩ ⟨by omega, by omega⟩ ⟨by omega, by omega⟩ hM
set_option maxHeartbeats 4000000 in
theorem zk_191 (n : Nat) {a0 : Int} {m0 : zu_m} (hIm0 : zi_I m0) (hc0 : zcls a0 = 15)     : zw (zu_call (zt_T n) 191 [(40, a0)] m0) (fun v m => zi_I m ∧ zfr [(15, 3), (15, 63), (15, 82), (67, 0), (68, 0), (69, 0), (85, 0), (86, 0), (87, 0)] m0 m ∧ ((-1) ≤ v ∧ v ≤ 20) ∧ (0 ≤ m a0 2 ∧ m a0 2 ≤ 0)) := by
  have hFm0 : zfr [(15, 3), (15, 63), (15, 82), (67, 0), (68, 0), (69, 0), (85, 0), (86, 0), (87, 0)] m0 m0 := zfr_rf _ _
  refine zw_eq (zr_191_0 n a0 m0) ?_
  generalize hmm11 : zu_up m0 a0 2 0 = m11
  have hIm11 := zi_up hmm11 hIm0 hc0 zb_15_2 (by omega) (by omega)
  have hFm11 := zfr_up hmm11 hFm0 hc0 rfl
  have r12 : 0 ≤ (m11 a0 81) ∧ (m11 a0 81) ≤ 20 := zi_rd hIm11 hc0 zb_15_81
  refine zw_ite (fun h13 => ?_) (fun h13 => ?_)
  · have w14 := zu_w32_id (z := (m11 a0 81) - 1) (by omega) (by omega)
    generalize hmm15 : zu_up m11 a0 81 (zu_w32 ((m11 a0 81) - 1)) = m15
    have hIm15 := zi_up hmm15 hIm11 hc0 zb_15_81 (by omega) (by omega)
    have hFm15 := zfr_up hmm15 hFm11 hc0 rfl
    have b16 : 0 ≤ (0 : Int) ∧ (0 : Int) < 2 := by omega
    refine zw_if b16 ?_
    have r17 : 0 ≤ (m15 216 0) ∧ (m15 216 0) ≤ 16 := zi_rdr (m := 2) (r0 := 0) (r1 := 0) hIm15 zq_216 (by omega) (by decide +kernel)
    have r18 : 0 ≤ (m15 a0 81) ∧ (m15 a0 81) ≤ 20 := zi_rd hIm15 hc0 zb_15_81
    have e19 : (m15 a0 81) = (zu_w32 ((m11 a0 81) - 1)) := (zs_eq hmm15)
    have w20 := zu_w32_id (z := 22 * (m15 a0 81)) (by omega) (by omega)
    refine zw_bd (zw_mono (zk_189_15_98 n hIm15 hc0 zq_228 ⟨by omega, by omega⟩ (by omega)) (fun v22 m21 hqm21 => ?_))
    obtain ⟨hIm21, hfm21, hvm21⟩ := hqm21
    have hFm21 := zfr_tr hFm15 hfm21 rfl
    have r23 : (-2147483648) ≤ (m21 a0 2) ∧ (m21 a0 2) ≤ 2147483647 := zi_rd hIm21 hc0 zb_15_2
    have e24 : (m21 a0 2) = 0 := (Eq.trans (zfr_ap hfm21 hc0 rfl) (Eq.trans (zs_ne hmm15 (Or.inr (by decide))) (zs_eq hmm11)))
    have r25 : 0 ≤ (m21 a0 81) ∧ (m21 a0 81) ≤ 20 := zi_rd hIm21 hc0 zb_15_81
    have e26 : (m21 a0 81) = (m15 a0 81) := (zfr_ap hfm21 hc0 rfl)
    have hM : (16 - (m15 216 0)) * 1 + 0 < ((17 : Nat) : Int) := by omega
    exact (zl_191 n (m0 := m0) hc0 17) (m15 216 0) (m15 216 0) m21 hIm21 hFm21 ⟨by omega, by omega⟩ ⟨by omega, by omega⟩ ⟨by omega, by omega⟩ ⟨by omega, by omega⟩ hM
  · have r27 : (-2147483648) ≤ (m11 a0 2) ∧ (m11 a0 2) ≤ 2147483647 := zi_rd hIm11 hc0 zb_15_2
    have e28 : (m11 a0 2) = 0 := (zs_eq hmm11)
    exact zw_some ⟨hIm11, hFm11, ⟨by omega, by omega⟩, ⟨by omega, by omega⟩⟩
